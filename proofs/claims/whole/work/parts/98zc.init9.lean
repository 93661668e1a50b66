/-! the constructor of the class -/
def jX9 (h : Hp) : Hp := uR (iX5 (uN (uR (iX8 (uN (uR (iX7 (uN (uR (iX2 (uN (uR (iX0 (uN (nwR (uR (iX2 (uN (uR (iX0 (uN (uR (iX6 (uN (uR (iX1 (uN (uR (iX1 (uN (uR (iX3 (uN (nwR (uI (nwR (h) 0 0) 0 2 (-1)) 0 3)) (hN h + 2)) 0 4 (some (hN h + 2)))) (hN h + 5)) 0 5 (some (hN h + 5)))) (hN h + 17)) 0 6 (some (hN h + 17)))) (hN h + 29)) 0 7 (some (hN h + 29)))) (hN h + 41)) 0 8 (some (hN h + 41)))) (hN h + 43)) 0 9 (some (hN h + 43))) 0 11)) (hN h + 48)) 0 12 (some (hN h + 48)))) (hN h + 50)) 0 13 (some (hN h + 50)))) (hN h + 54)) 0 14 (some (hN h + 54)))) (hN h + 69)) 0 15 (some (hN h + 69)))) (hN h + 72)) 0 16 (some (hN h + 72))
def iX9 (h : Hp) : Hp := bgH (jX9 h) 30 6
theorem jX9_0_7 : hR (jX9 (uN h00)) 0 7 = some 30 := by decide +kernel
theorem jX9_0_5 : hR (jX9 (uN h00)) 0 5 = some 6 := by decide +kernel
theorem jX9_6_4 : hR (jX9 (uN h00)) 6 4 = some 7 := by decide +kernel
theorem jX9_6_7 : hR (jX9 (uN h00)) 6 7 = some 10 := by decide +kernel
theorem jX9_6_9 : hR (jX9 (uN h00)) 6 9 = some 12 := by decide +kernel
theorem jX9_6_10 : hR (jX9 (uN h00)) 6 10 = some 13 := by decide +kernel
theorem jX9_6_11 : hR (jX9 (uN h00)) 6 11 = some 14 := by decide +kernel
theorem jX9_30_3 : hR (jX9 (uN h00)) 30 3 = some 31 := by decide +kernel
theorem jX9_30_4 : hR (jX9 (uN h00)) 30 4 = some 32 := by decide +kernel
theorem jX9_30_5 : hR (jX9 (uN h00)) 30 5 = some 33 := by decide +kernel
theorem jX9_30_6 : hR (jX9 (uN h00)) 30 6 = some 34 := by decide +kernel
theorem jX9_30_7 : hR (jX9 (uN h00)) 30 7 = some 35 := by decide +kernel
theorem jX9_30_8 : hR (jX9 (uN h00)) 30 8 = some 36 := by decide +kernel
theorem jX9_30_9 : hR (jX9 (uN h00)) 30 9 = some 37 := by decide +kernel
theorem i_X9 {l : Launch} {d : Nat} {h : Hp} (hh : h = uN h00) : Run l (d + 4) (76, 5611) mX9_init [.ref 0] h (fun v h1 => v = none ∧ h1 = iX9 h) noX := by
  have he : hN h = 1 := by rw [hh]; rfl
  refine run_lv [some (.ref 0)] (go := ?_)
  refine go_aloadn dX9_init_0 rfl ?_
  refine go_obj dX9_init_1 oi_X9 oi_in oi_co (Nat.le_of_ble_eq_true rfl) (by simp only [rmOf]; omega) (by simp only [rmOf]; omega) ?_
  refine go_aloadn dX9_init_4 rfl ?_
  refine go_sipush (v := 700) dX9_init_5 rfl ?_
  refine go_newa (ty := 1) (len := 700) (by decide) dX9_init_8 ar_1 (show lay (hN h + 0) = _ by rw [he]; rfl) (by decide) (by decide +kernel) (by decide) rfl (Nat.le_of_ble_eq_true rfl) (Nat.le_of_ble_eq_true rfl) ?_
  refine go_putFR dX9_init_10 fX9_9 rfl rfl rfl rfl (wo_L rfl) (show _ < hN h + 1 by omega) ?_
  refine go_aloadn dX9_init_13 rfl ?_
  refine go_iconst (v := -1) dX9_init_14 rfl ?_
  refine go_putI dX9_init_15 fX9_13 rfl rfl (wo_L rfl) (show _ < hN h + 1 by omega) ?_
  refine go_aloadn dX9_init_18 rfl ?_
  refine go_iconst (v := 3) dX9_init_19 rfl ?_
  refine go_newa (ty := 0) (len := 3) (by decide) dX9_init_20 ar_0 (show lay (hN h + 1) = _ by rw [he]; rfl) (by decide) (by decide +kernel) (by decide) rfl (Nat.le_of_ble_eq_true rfl) (Nat.le_of_ble_eq_true rfl) ?_
  refine go_putFR dX9_init_22 fX9_17 rfl rfl rfl rfl (wo_L rfl) (show _ < hN h + 2 by omega) ?_
  refine go_aloadn dX9_init_25 rfl ?_
  refine go_new (ci := 3) dX9_init_26 clk_X9_21 ins_X3 iniX3 (by decide) (show lay (hN h + 2) = _ by rw [he]; rfl) rfl (Nat.le_of_ble_eq_true rfl) (Nat.le_of_ble_eq_true rfl) ?_
  refine go_dup dX9_init_29 rfl ?_
  refine go_callIN_ dX9_init_30 (List.mem_of_getElem? (i := 0) rfl) cb_X3 rfl im_X3 rfl (i_X3 (d := d) (show hN h + 2 = 3 by rw [he]) rfl) (Nat.le_of_ble_eq_true rfl) (by simp only [rmOf]; omega) (by simp only [rmOf]; omega) (Nat.le_of_ble_eq_true rfl) (Nat.le_of_ble_eq_true rfl) (fun _ => rfl) (fun v0 h0 q0 => ?_)
  obtain ⟨rfl, rfl⟩ := q0
  refine go_putFR dX9_init_33 fX9_24 rfl rfl rfl rfl (wo_L rfl) (show _ < hN h + 5 by omega) ?_
  refine go_aloadn dX9_init_36 rfl ?_
  refine go_new (ci := 1) dX9_init_37 clk_X9_28 ins_X1 iniX1 (by decide) (show lay (hN h + 5) = _ by rw [he]; rfl) rfl (Nat.le_of_ble_eq_true rfl) (Nat.le_of_ble_eq_true rfl) ?_
  refine go_dup dX9_init_40 rfl ?_
  refine go_callI_ (M' := mX1_init) dX9_init_41 lX9_30 cb_X1 rfl im_X1 rfl (i_X1 (d := d) (show CityAt (hN h + 5) by rw [he]; simp [CityAt]) rfl) (Nat.le_of_ble_eq_true rfl) (by simp only [rmOf]; omega) (by simp only [rmOf]; omega) (Nat.le_of_ble_eq_true rfl) (Nat.le_of_ble_eq_true rfl) (fun _ => rfl) (fun v0 h0 q0 => ?_)
  obtain ⟨rfl, rfl⟩ := q0
  refine go_putR dX9_init_44 fX9_31 rfl rfl (wo_L rfl) (show _ < hN h + 17 by omega) ?_
  refine go_aloadn dX9_init_47 rfl ?_
  refine go_new (ci := 1) dX9_init_48 clk_X9_28 ins_X1 iniX1 (by decide) (show lay (hN h + 17) = _ by rw [he]; rfl) rfl (Nat.le_of_ble_eq_true rfl) (Nat.le_of_ble_eq_true rfl) ?_
  refine go_dup dX9_init_51 rfl ?_
  refine go_callI_ (M' := mX1_init) dX9_init_52 lX9_30 cb_X1 rfl im_X1 rfl (i_X1 (d := d) (show CityAt (hN h + 17) by rw [he]; simp [CityAt]) rfl) (Nat.le_of_ble_eq_true rfl) (by simp only [rmOf]; omega) (by simp only [rmOf]; omega) (Nat.le_of_ble_eq_true rfl) (Nat.le_of_ble_eq_true rfl) (fun _ => rfl) (fun v0 h0 q0 => ?_)
  obtain ⟨rfl, rfl⟩ := q0
  refine go_putR dX9_init_55 fX9_35 rfl rfl (wo_L rfl) (show _ < hN h + 29 by omega) ?_
  refine go_aloadn dX9_init_58 rfl ?_
  refine go_new (ci := 6) dX9_init_59 clk_X9_38 ins_X6 iniX6 (by decide) (show lay (hN h + 29) = _ by rw [he]; rfl) rfl (Nat.le_of_ble_eq_true rfl) (Nat.le_of_ble_eq_true rfl) ?_
  refine go_dup dX9_init_62 rfl ?_
  refine go_callIN_ dX9_init_63 (List.mem_of_getElem? (i := 2) rfl) cb_X6 rfl im_X6 rfl (i_X6 (d := d) (show TownAt (hN h + 29) by rw [he]; simp [TownAt]) rfl) (Nat.le_of_ble_eq_true rfl) (by simp only [rmOf]; omega) (by simp only [rmOf]; omega) (Nat.le_of_ble_eq_true rfl) (Nat.le_of_ble_eq_true rfl) (fun _ => rfl) (fun v0 h0 q0 => ?_)
  obtain ⟨rfl, rfl⟩ := q0
  refine go_putFR dX9_init_66 fX9_41 rfl rfl rfl rfl (wo_L rfl) (show _ < hN h + 41 by omega) ?_
  refine go_aloadn dX9_init_69 rfl ?_
  refine go_new (ci := 0) dX9_init_70 clk_X9_45 ins_X0 iniX0 (by decide) (show lay (hN h + 41) = _ by rw [he]; rfl) rfl (Nat.le_of_ble_eq_true rfl) (Nat.le_of_ble_eq_true rfl) ?_
  refine go_dup dX9_init_73 rfl ?_
  refine go_callIN_ dX9_init_74 (List.mem_of_getElem? (i := 3) rfl) cb_X0 rfl im_X0 rfl (i_X0 (d := d) (show ActsAt (hN h + 41) by rw [he]; simp [ActsAt]) rfl) (Nat.le_of_ble_eq_true rfl) (by simp only [rmOf]; omega) (by simp only [rmOf]; omega) (Nat.le_of_ble_eq_true rfl) (Nat.le_of_ble_eq_true rfl) (fun _ => rfl) (fun v0 h0 q0 => ?_)
  obtain ⟨rfl, rfl⟩ := q0
  refine go_putFR dX9_init_77 fX9_48 rfl rfl rfl rfl (wo_L rfl) (show _ < hN h + 43 by omega) ?_
  refine go_aloadn dX9_init_80 rfl ?_
  refine go_new (ci := 2) dX9_init_81 clk_X9_52 ins_X2 iniX2 (by decide) (show lay (hN h + 43) = _ by rw [he]; rfl) rfl (Nat.le_of_ble_eq_true rfl) (Nat.le_of_ble_eq_true rfl) ?_
  refine go_dup dX9_init_84 rfl ?_
  refine go_callIN_ dX9_init_85 (List.mem_of_getElem? (i := 4) rfl) cb_X2 rfl im_X2 rfl (i_X2 (d := d) (show NotesAt (hN h + 43) by rw [he]; simp [NotesAt]) rfl) (Nat.le_of_ble_eq_true rfl) (by simp only [rmOf]; omega) (by simp only [rmOf]; omega) (Nat.le_of_ble_eq_true rfl) (Nat.le_of_ble_eq_true rfl) (fun _ => rfl) (fun v0 h0 q0 => ?_)
  obtain ⟨rfl, rfl⟩ := q0
  refine go_putFR dX9_init_88 fX9_55 rfl rfl rfl rfl (wo_L rfl) (show _ < hN h + 47 by omega) ?_
  refine go_aloadn dX9_init_91 rfl ?_
  refine go_bipush (v := 19) dX9_init_92 rfl ?_
  refine go_newa (ty := 0) (len := 19) (by decide) dX9_init_94 ar_0 (show lay (hN h + 47) = _ by rw [he]; rfl) (by decide) (by decide +kernel) (by decide) rfl (Nat.le_of_ble_eq_true rfl) (Nat.le_of_ble_eq_true rfl) ?_
  refine go_putFR dX9_init_96 fX9_59 rfl rfl rfl rfl (wo_L rfl) (show _ < hN h + 48 by omega) ?_
  refine go_aloadn dX9_init_99 rfl ?_
  refine go_new (ci := 0) dX9_init_100 clk_X9_45 ins_X0 iniX0 (by decide) (show lay (hN h + 48) = _ by rw [he]; rfl) rfl (Nat.le_of_ble_eq_true rfl) (Nat.le_of_ble_eq_true rfl) ?_
  refine go_dup dX9_init_103 rfl ?_
  refine go_callIN_ dX9_init_104 (List.mem_of_getElem? (i := 3) rfl) cb_X0 rfl im_X0 rfl (i_X0 (d := d) (show ActsAt (hN h + 48) by rw [he]; simp [ActsAt]) rfl) (Nat.le_of_ble_eq_true rfl) (by simp only [rmOf]; omega) (by simp only [rmOf]; omega) (Nat.le_of_ble_eq_true rfl) (Nat.le_of_ble_eq_true rfl) (fun _ => rfl) (fun v0 h0 q0 => ?_)
  obtain ⟨rfl, rfl⟩ := q0
  refine go_putFR dX9_init_107 fX9_62 rfl rfl rfl rfl (wo_L rfl) (show _ < hN h + 50 by omega) ?_
  refine go_aloadn dX9_init_110 rfl ?_
  refine go_new (ci := 2) dX9_init_111 clk_X9_52 ins_X2 iniX2 (by decide) (show lay (hN h + 50) = _ by rw [he]; rfl) rfl (Nat.le_of_ble_eq_true rfl) (Nat.le_of_ble_eq_true rfl) ?_
  refine go_dup dX9_init_114 rfl ?_
  refine go_callIN_ dX9_init_115 (List.mem_of_getElem? (i := 4) rfl) cb_X2 rfl im_X2 rfl (i_X2 (d := d) (show NotesAt (hN h + 50) by rw [he]; simp [NotesAt]) rfl) (Nat.le_of_ble_eq_true rfl) (by simp only [rmOf]; omega) (by simp only [rmOf]; omega) (Nat.le_of_ble_eq_true rfl) (Nat.le_of_ble_eq_true rfl) (fun _ => rfl) (fun v0 h0 q0 => ?_)
  obtain ⟨rfl, rfl⟩ := q0
  refine go_putFR dX9_init_118 fX9_65 rfl rfl rfl rfl (wo_L rfl) (show _ < hN h + 54 by omega) ?_
  refine go_aloadn dX9_init_121 rfl ?_
  refine go_new (ci := 7) dX9_init_122 clk_X9_68 ins_X7 iniX7 (by decide) (show lay (hN h + 54) = _ by rw [he]; rfl) rfl (Nat.le_of_ble_eq_true rfl) (Nat.le_of_ble_eq_true rfl) ?_
  refine go_dup dX9_init_125 rfl ?_
  refine go_callIN_ dX9_init_126 (List.mem_of_getElem? (i := 5) rfl) cb_X7 rfl im_X7 rfl (i_X7 (d := d) (show hN h + 54 = 55 by rw [he]) rfl) (Nat.le_of_ble_eq_true rfl) (by simp only [rmOf]; omega) (by simp only [rmOf]; omega) (Nat.le_of_ble_eq_true rfl) (Nat.le_of_ble_eq_true rfl) (fun _ => rfl) (fun v0 h0 q0 => ?_)
  obtain ⟨rfl, rfl⟩ := q0
  refine go_putFR dX9_init_129 fX9_71 rfl rfl rfl rfl (wo_L rfl) (show _ < hN h + 69 by omega) ?_
  refine go_aloadn dX9_init_132 rfl ?_
  refine go_new (ci := 8) dX9_init_133 clk_X9_75 ins_X8 iniX8 (by decide) (show lay (hN h + 69) = _ by rw [he]; rfl) rfl (Nat.le_of_ble_eq_true rfl) (Nat.le_of_ble_eq_true rfl) ?_
  refine go_dup dX9_init_136 rfl ?_
  refine go_callIN_ dX9_init_137 (List.mem_of_getElem? (i := 7) rfl) cb_X8 rfl im_X8 rfl (i_X8 (d := d) (show hN h + 69 = 70 by rw [he]) rfl) (Nat.le_of_ble_eq_true rfl) (by simp only [rmOf]; omega) (by simp only [rmOf]; omega) (Nat.le_of_ble_eq_true rfl) (Nat.le_of_ble_eq_true rfl) (fun _ => rfl) (fun v0 h0 q0 => ?_)
  obtain ⟨rfl, rfl⟩ := q0
  refine go_putFR dX9_init_140 fX9_78 rfl rfl rfl rfl (wo_L rfl) (show _ < hN h + 72 by omega) ?_
  refine go_aloadn dX9_init_143 rfl ?_
  refine go_new (ci := 5) dX9_init_144 clk_X9_82 ins_X5 iniX5 (by decide) (show lay (hN h + 72) = _ by rw [he]; rfl) rfl (Nat.le_of_ble_eq_true rfl) (Nat.le_of_ble_eq_true rfl) ?_
  refine go_dup dX9_init_147 rfl ?_
  refine go_callIN_ dX9_init_148 (List.mem_of_getElem? (i := 8) rfl) cb_X5 rfl im_X5 rfl (i_X5 (d := d) (show hN h + 72 = 73 by rw [he]) rfl) (Nat.le_of_ble_eq_true rfl) (by simp only [rmOf]; omega) (by simp only [rmOf]; omega) (Nat.le_of_ble_eq_true rfl) (Nat.le_of_ble_eq_true rfl) (fun _ => rfl) (fun v0 h0 q0 => ?_)
  obtain ⟨rfl, rfl⟩ := q0
  refine go_putFR dX9_init_151 fX9_85 rfl rfl rfl rfl (wo_L rfl) (show _ < hN h + 76 by omega) ?_
  refine go_aloadn dX9_init_154 rfl ?_
  have fin : ∀ g, g = jX9 h → Go l (rmOf (d + 4) (76, 5611)) mX9_init (hN h) (Zm (76, 5611) (fun v h1 => v = none ∧ h1 = iX9 h) noX) 155 [some (.ref 0)] [.ref 0] g 76 5611 := by
    intro g hg
    have hn : hN g = hN h + 76 := by rw [hg]; rfl
    have hq : g = jX9 (uN h00) := by rw [hg, hh]
    refine go_getR dX9_init_155 fX9_41 rfl (wo_L rfl) (by omega) (by rw [hq]; exact jX9_0_7) ?_
    refine go_aloadn dX9_init_158 rfl ?_
    refine go_getR dX9_init_159 fX9_31 rfl (wo_L rfl) (by omega) (by rw [hq]; exact jX9_0_5) ?_
    refine ns_cV0 (M := mX9_init) (pc := 162) (M' := mX6_begin) (a := 30) (ci := 6) (idx := 89) [.ref 6] dX9_init_162 lX9_89 vX6_begin (tw_L (Or.inl rfl)) (by decide) rfl (by omega) (fun _ => hn) (n_begin (d := d) (b := 30) (c := 6) (Or.inl rfl) (Or.inl rfl) (by omega) (by omega) (by rw [hq]; exact jX9_6_4) (by rw [hq]; exact jX9_6_7) (by rw [hq]; exact jX9_6_9) (by rw [hq]; exact jX9_6_10) (by rw [hq]; exact jX9_6_11) (by rw [hq]; exact jX9_30_3) (by rw [hq]; exact jX9_30_4) (by rw [hq]; exact jX9_30_5) (by rw [hq]; exact jX9_30_6) (by rw [hq]; exact jX9_30_7) (by rw [hq]; exact jX9_30_8) (by rw [hq]; exact jX9_30_9) (by decide)) rfl (Nat.le_of_ble_eq_true rfl) (by simp only [rmOf]; omega) (by simp only [rmOf]; omega) (Nat.le_of_ble_eq_true rfl) (Nat.le_of_ble_eq_true rfl) ?_
    refine go_return dX9_init_165 rfl (Nat.le_of_ble_eq_true rfl) (Nat.le_of_ble_eq_true rfl) ⟨rfl, by rw [hg]; rfl⟩
  exact fin _ rfl
