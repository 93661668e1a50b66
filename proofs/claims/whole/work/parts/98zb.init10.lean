/-! the constructor of the model -/
def iX10 (h : Hp) : Hp := nwR (nwR (nwR (nwR (nwR (nwR (nwR (nwR (nwR (nwR (nwR (nwR (nwR (nwR (nwR (nwR (nwR (nwR (nwR (nwR (uI (nwR (nwR (nwR (nwR (nwR (uI (uI (uI (uI (h) 77 1 (3)) 77 4 (10)) 77 5 (-1)) 77 6 (-1)) 77 7) 77 8) 77 9) 77 10) 77 11) 77 14 (-1)) 77 15) 77 35) 77 36) 77 37) 77 38) 77 39) 77 40) 77 41) 77 42) 77 43) 77 45) 77 46) 77 49) 77 50) 77 52) 77 53) 77 54) 77 59) 77 60) 77 61
theorem i_X10 {l : Launch} {d : Nat} {h : Hp} (he : hN h = 78) : Run l (d + 1) (25, 18783) mX10_init [.ref 77] h (fun v h1 => v = none ∧ h1 = iX10 h) noX := by
  refine run_lv [some (.ref 77)] (go := ?_)
  refine go_aloadn dX10_init_0 rfl ?_
  refine go_obj dX10_init_1 oi_X10 oi_in oi_co (Nat.le_of_ble_eq_true rfl) (by simp only [rmOf]; omega) (by simp only [rmOf]; omega) ?_
  refine go_aloadn dX10_init_4 rfl ?_
  refine go_iconst (v := 3) dX10_init_5 rfl ?_
  refine go_putI dX10_init_6 fX10_7 rfl rfl (mo_L rfl) (show _ < hN h + 0 by omega) ?_
  refine go_aloadn dX10_init_9 rfl ?_
  refine go_bipush (v := 10) dX10_init_10 rfl ?_
  refine go_putI dX10_init_12 fX10_13 rfl rfl (mo_L rfl) (show _ < hN h + 0 by omega) ?_
  refine go_aloadn dX10_init_15 rfl ?_
  refine go_iconst (v := -1) dX10_init_16 rfl ?_
  refine go_putI dX10_init_17 fX10_16 rfl rfl (mo_L rfl) (show _ < hN h + 0 by omega) ?_
  refine go_aloadn dX10_init_20 rfl ?_
  refine go_iconst (v := -1) dX10_init_21 rfl ?_
  refine go_putI dX10_init_22 fX10_19 rfl rfl (mo_L rfl) (show _ < hN h + 0 by omega) ?_
  refine go_aloadn dX10_init_25 rfl ?_
  refine go_bipush (v := 8) dX10_init_26 rfl ?_
  refine go_newa (ty := 0) (len := 8) (by decide) dX10_init_28 ar_0 (show lay (hN h + 0) = _ by rw [he]; rfl) (by decide) (by decide +kernel) (by decide) rfl (Nat.le_of_ble_eq_true rfl) (Nat.le_of_ble_eq_true rfl) ?_
  refine go_putFR dX10_init_30 fX10_22 rfl rfl rfl rfl (mo_L rfl) (show _ < hN h + 1 by omega) ?_
  refine go_aloadn dX10_init_33 rfl ?_
  refine go_bipush (v := 10) dX10_init_34 rfl ?_
  refine go_newa (ty := 0) (len := 10) (by decide) dX10_init_36 ar_0 (show lay (hN h + 1) = _ by rw [he]; rfl) (by decide) (by decide +kernel) (by decide) rfl (Nat.le_of_ble_eq_true rfl) (Nat.le_of_ble_eq_true rfl) ?_
  refine go_putFR dX10_init_38 fX10_26 rfl rfl rfl rfl (mo_L rfl) (show _ < hN h + 2 by omega) ?_
  refine go_aloadn dX10_init_41 rfl ?_
  refine go_sipush (v := 1400) dX10_init_42 rfl ?_
  refine go_newa (ty := 0) (len := 1400) (by decide) dX10_init_45 ar_0 (show lay (hN h + 2) = _ by rw [he]; rfl) (by decide) (by decide +kernel) (by decide) rfl (Nat.le_of_ble_eq_true rfl) (Nat.le_of_ble_eq_true rfl) ?_
  refine go_putFR dX10_init_47 fX10_29 rfl rfl rfl rfl (mo_L rfl) (show _ < hN h + 3 by omega) ?_
  refine go_aloadn dX10_init_50 rfl ?_
  refine go_bipush (v := 8) dX10_init_51 rfl ?_
  refine go_newa (ty := 3) (len := 8) (by decide) dX10_init_53 ar_3 (show lay (hN h + 3) = _ by rw [he]; rfl) (by decide) (by decide +kernel) (by decide) rfl (Nat.le_of_ble_eq_true rfl) (Nat.le_of_ble_eq_true rfl) ?_
  refine go_putFR dX10_init_55 fX10_32 rfl rfl rfl rfl (mo_L rfl) (show _ < hN h + 4 by omega) ?_
  refine go_aloadn dX10_init_58 rfl ?_
  refine go_sipush (v := 700) dX10_init_59 rfl ?_
  refine go_newa (ty := 0) (len := 700) (by decide) dX10_init_62 ar_0 (show lay (hN h + 4) = _ by rw [he]; rfl) (by decide) (by decide +kernel) (by decide) rfl (Nat.le_of_ble_eq_true rfl) (Nat.le_of_ble_eq_true rfl) ?_
  refine go_putFR dX10_init_64 fX10_36 rfl rfl rfl rfl (mo_L rfl) (show _ < hN h + 5 by omega) ?_
  refine go_aloadn dX10_init_67 rfl ?_
  refine go_iconst (v := -1) dX10_init_68 rfl ?_
  refine go_putI dX10_init_69 fX10_39 rfl rfl (mo_L rfl) (show _ < hN h + 5 by omega) ?_
  refine go_aloadn dX10_init_72 rfl ?_
  refine go_iconst (v := 3) dX10_init_73 rfl ?_
  refine go_newa (ty := 0) (len := 3) (by decide) dX10_init_74 ar_0 (show lay (hN h + 5) = _ by rw [he]; rfl) (by decide) (by decide +kernel) (by decide) rfl (Nat.le_of_ble_eq_true rfl) (Nat.le_of_ble_eq_true rfl) ?_
  refine go_putFR dX10_init_76 fX10_42 rfl rfl rfl rfl (mo_L rfl) (show _ < hN h + 6 by omega) ?_
  refine go_aloadn dX10_init_79 rfl ?_
  refine go_bipush (v := 8) dX10_init_80 rfl ?_
  refine go_newa (ty := 0) (len := 8) (by decide) dX10_init_82 ar_0 (show lay (hN h + 6) = _ by rw [he]; rfl) (by decide) (by decide +kernel) (by decide) rfl (Nat.le_of_ble_eq_true rfl) (Nat.le_of_ble_eq_true rfl) ?_
  refine go_putFR dX10_init_84 fX10_45 rfl rfl rfl rfl (mo_L rfl) (show _ < hN h + 7 by omega) ?_
  refine go_aloadn dX10_init_87 rfl ?_
  refine go_bipush (v := 10) dX10_init_88 rfl ?_
  refine go_newa (ty := 0) (len := 10) (by decide) dX10_init_90 ar_0 (show lay (hN h + 7) = _ by rw [he]; rfl) (by decide) (by decide +kernel) (by decide) rfl (Nat.le_of_ble_eq_true rfl) (Nat.le_of_ble_eq_true rfl) ?_
  refine go_putFR dX10_init_92 fX10_48 rfl rfl rfl rfl (mo_L rfl) (show _ < hN h + 8 by omega) ?_
  refine go_aloadn dX10_init_95 rfl ?_
  refine go_bipush (v := 105) dX10_init_96 rfl ?_
  refine go_newa (ty := 0) (len := 105) (by decide) dX10_init_98 ar_0 (show lay (hN h + 8) = _ by rw [he]; rfl) (by decide) (by decide +kernel) (by decide) rfl (Nat.le_of_ble_eq_true rfl) (Nat.le_of_ble_eq_true rfl) ?_
  refine go_putFR dX10_init_100 fX10_51 rfl rfl rfl rfl (mo_L rfl) (show _ < hN h + 9 by omega) ?_
  refine go_aloadn dX10_init_103 rfl ?_
  refine go_sipush (v := 1400) dX10_init_104 rfl ?_
  refine go_newa (ty := 0) (len := 1400) (by decide) dX10_init_107 ar_0 (show lay (hN h + 9) = _ by rw [he]; rfl) (by decide) (by decide +kernel) (by decide) rfl (Nat.le_of_ble_eq_true rfl) (Nat.le_of_ble_eq_true rfl) ?_
  refine go_putFR dX10_init_109 fX10_54 rfl rfl rfl rfl (mo_L rfl) (show _ < hN h + 10 by omega) ?_
  refine go_aloadn dX10_init_112 rfl ?_
  refine go_sipush (v := 950) dX10_init_113 rfl ?_
  refine go_newa (ty := 0) (len := 950) (by decide) dX10_init_116 ar_0 (show lay (hN h + 10) = _ by rw [he]; rfl) (by decide) (by decide +kernel) (by decide) rfl (Nat.le_of_ble_eq_true rfl) (Nat.le_of_ble_eq_true rfl) ?_
  refine go_putFR dX10_init_118 fX10_57 rfl rfl rfl rfl (mo_L rfl) (show _ < hN h + 11 by omega) ?_
  refine go_aloadn dX10_init_121 rfl ?_
  refine go_bipush (v := 8) dX10_init_122 rfl ?_
  refine go_newa (ty := 3) (len := 8) (by decide) dX10_init_124 ar_3 (show lay (hN h + 11) = _ by rw [he]; rfl) (by decide) (by decide +kernel) (by decide) rfl (Nat.le_of_ble_eq_true rfl) (Nat.le_of_ble_eq_true rfl) ?_
  refine go_putFR dX10_init_126 fX10_60 rfl rfl rfl rfl (mo_L rfl) (show _ < hN h + 12 by omega) ?_
  refine go_aloadn dX10_init_129 rfl ?_
  refine go_bipush (v := 9) dX10_init_130 rfl ?_
  refine go_newa (ty := 3) (len := 9) (by decide) dX10_init_132 ar_3 (show lay (hN h + 12) = _ by rw [he]; rfl) (by decide) (by decide +kernel) (by decide) rfl (Nat.le_of_ble_eq_true rfl) (Nat.le_of_ble_eq_true rfl) ?_
  refine go_putFR dX10_init_134 fX10_63 rfl rfl rfl rfl (mo_L rfl) (show _ < hN h + 13 by omega) ?_
  refine go_aloadn dX10_init_137 rfl ?_
  refine go_sipush (v := 210) dX10_init_138 rfl ?_
  refine go_newa (ty := 0) (len := 210) (by decide) dX10_init_141 ar_0 (show lay (hN h + 13) = _ by rw [he]; rfl) (by decide) (by decide +kernel) (by decide) rfl (Nat.le_of_ble_eq_true rfl) (Nat.le_of_ble_eq_true rfl) ?_
  refine go_putFR dX10_init_143 fX10_66 rfl rfl rfl rfl (mo_L rfl) (show _ < hN h + 14 by omega) ?_
  refine go_aloadn dX10_init_146 rfl ?_
  refine go_sipush (v := 4200) dX10_init_147 rfl ?_
  refine go_newa (ty := 0) (len := 4200) (by decide) dX10_init_150 ar_0 (show lay (hN h + 14) = _ by rw [he]; rfl) (by decide) (by decide +kernel) (by decide) rfl (Nat.le_of_ble_eq_true rfl) (Nat.le_of_ble_eq_true rfl) ?_
  refine go_putFR dX10_init_152 fX10_69 rfl rfl rfl rfl (mo_L rfl) (show _ < hN h + 15 by omega) ?_
  refine go_aloadn dX10_init_155 rfl ?_
  refine go_bipush (v := 9) dX10_init_156 rfl ?_
  refine go_newa (ty := 0) (len := 9) (by decide) dX10_init_158 ar_0 (show lay (hN h + 15) = _ by rw [he]; rfl) (by decide) (by decide +kernel) (by decide) rfl (Nat.le_of_ble_eq_true rfl) (Nat.le_of_ble_eq_true rfl) ?_
  refine go_putFR dX10_init_160 fX10_72 rfl rfl rfl rfl (mo_L rfl) (show _ < hN h + 16 by omega) ?_
  refine go_aloadn dX10_init_163 rfl ?_
  refine go_sipush (v := 950) dX10_init_164 rfl ?_
  refine go_newa (ty := 0) (len := 950) (by decide) dX10_init_167 ar_0 (show lay (hN h + 16) = _ by rw [he]; rfl) (by decide) (by decide +kernel) (by decide) rfl (Nat.le_of_ble_eq_true rfl) (Nat.le_of_ble_eq_true rfl) ?_
  refine go_putFR dX10_init_169 fX10_75 rfl rfl rfl rfl (mo_L rfl) (show _ < hN h + 17 by omega) ?_
  refine go_aloadn dX10_init_172 rfl ?_
  refine go_sipush (v := 2816) dX10_init_173 rfl ?_
  refine go_newa (ty := 0) (len := 2816) (by decide) dX10_init_176 ar_0 (show lay (hN h + 17) = _ by rw [he]; rfl) (by decide) (by decide +kernel) (by decide) rfl (Nat.le_of_ble_eq_true rfl) (Nat.le_of_ble_eq_true rfl) ?_
  refine go_putFR dX10_init_178 fX10_78 rfl rfl rfl rfl (mo_L rfl) (show _ < hN h + 18 by omega) ?_
  refine go_aloadn dX10_init_181 rfl ?_
  refine go_bipush (v := 6) dX10_init_182 rfl ?_
  refine go_newa (ty := 0) (len := 6) (by decide) dX10_init_184 ar_0 (show lay (hN h + 18) = _ by rw [he]; rfl) (by decide) (by decide +kernel) (by decide) rfl (Nat.le_of_ble_eq_true rfl) (Nat.le_of_ble_eq_true rfl) ?_
  refine go_putFR dX10_init_186 fX10_81 rfl rfl rfl rfl (mo_L rfl) (show _ < hN h + 19 by omega) ?_
  refine go_aloadn dX10_init_189 rfl ?_
  refine go_bipush (v := 24) dX10_init_190 rfl ?_
  refine go_newa (ty := 0) (len := 24) (by decide) dX10_init_192 ar_0 (show lay (hN h + 19) = _ by rw [he]; rfl) (by decide) (by decide +kernel) (by decide) rfl (Nat.le_of_ble_eq_true rfl) (Nat.le_of_ble_eq_true rfl) ?_
  refine go_putFR dX10_init_194 fX10_84 rfl rfl rfl rfl (mo_L rfl) (show _ < hN h + 20 by omega) ?_
  refine go_aloadn dX10_init_197 rfl ?_
  refine go_bipush (v := 20) dX10_init_198 rfl ?_
  refine go_newa (ty := 0) (len := 20) (by decide) dX10_init_200 ar_0 (show lay (hN h + 20) = _ by rw [he]; rfl) (by decide) (by decide +kernel) (by decide) rfl (Nat.le_of_ble_eq_true rfl) (Nat.le_of_ble_eq_true rfl) ?_
  refine go_putFR dX10_init_202 fX10_87 rfl rfl rfl rfl (mo_L rfl) (show _ < hN h + 21 by omega) ?_
  refine go_aloadn dX10_init_205 rfl ?_
  refine go_sipush (v := 1600) dX10_init_206 rfl ?_
  refine go_newa (ty := 0) (len := 1600) (by decide) dX10_init_209 ar_0 (show lay (hN h + 21) = _ by rw [he]; rfl) (by decide) (by decide +kernel) (by decide) rfl (Nat.le_of_ble_eq_true rfl) (Nat.le_of_ble_eq_true rfl) ?_
  refine go_putFR dX10_init_211 fX10_90 rfl rfl rfl rfl (mo_L rfl) (show _ < hN h + 22 by omega) ?_
  refine go_aloadn dX10_init_214 rfl ?_
  refine go_bipush (v := 105) dX10_init_215 rfl ?_
  refine go_newa (ty := 0) (len := 105) (by decide) dX10_init_217 ar_0 (show lay (hN h + 22) = _ by rw [he]; rfl) (by decide) (by decide +kernel) (by decide) rfl (Nat.le_of_ble_eq_true rfl) (Nat.le_of_ble_eq_true rfl) ?_
  refine go_putFR dX10_init_219 fX10_93 rfl rfl rfl rfl (mo_L rfl) (show _ < hN h + 23 by omega) ?_
  refine go_aloadn dX10_init_222 rfl ?_
  refine go_sipush (v := 4200) dX10_init_223 rfl ?_
  refine go_newa (ty := 0) (len := 4200) (by decide) dX10_init_226 ar_0 (show lay (hN h + 23) = _ by rw [he]; rfl) (by decide) (by decide +kernel) (by decide) rfl (Nat.le_of_ble_eq_true rfl) (Nat.le_of_ble_eq_true rfl) ?_
  refine go_putFR dX10_init_228 fX10_96 rfl rfl rfl rfl (mo_L rfl) (show _ < hN h + 24 by omega) ?_
  refine go_aloadn dX10_init_231 rfl ?_
  refine go_bipush (v := 24) dX10_init_232 rfl ?_
  refine go_newa (ty := 0) (len := 24) (by decide) dX10_init_234 ar_0 (show lay (hN h + 24) = _ by rw [he]; rfl) (by decide) (by decide +kernel) (by decide) rfl (Nat.le_of_ble_eq_true rfl) (Nat.le_of_ble_eq_true rfl) ?_
  refine go_putFR dX10_init_236 fX10_99 rfl rfl rfl rfl (mo_L rfl) (show _ < hN h + 25 by omega) ?_
  refine go_return dX10_init_239 rfl (Nat.le_of_ble_eq_true rfl) (Nat.le_of_ble_eq_true rfl) ⟨rfl, rfl⟩
