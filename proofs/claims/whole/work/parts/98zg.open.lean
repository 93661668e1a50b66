/-! the law begins -/
theorem law_open {l : Launch} {L : Nat} {xs : Nat → Int32} (kk : Go l room_1 mL_law 0 (Zl L xs Zlw) 21 [some (.ref 1300), some (.ref 0), some (.ref 77), some (.ref 103), none, none, none] [.int 0] hp0 104 (0 + clN 9 + 5611 + clN 10 + 18783 + 1)) : Go l room_1 mL_law 0 (Zl L xs Zlw) 0 [some (.ref 1300), none, none, none, none, none, none] [] h00 0 0 := by
  refine go_new (ci := 9) dL_law_0 clk_L_8 ins_X9 iniX9 (by decide) rfl rfl (Nat.le_of_ble_eq_true rfl) (Nat.le_of_ble_eq_true rfl) ?_
  refine go_dup dL_law_3 rfl ?_
  refine go_callI_ (M' := mX9_init) dL_law_4 lL_110 cb_X9 rfl im_X9 rfl (i_X9 (d := 0) rfl) (Nat.le_of_ble_eq_true rfl) (by decide) (by decide) (Nat.le_of_ble_eq_true rfl) (Nat.le_of_ble_eq_true rfl) (fun _ => rfl) (fun v0 g0 q0 => ?_)
  obtain ⟨rfl, rfl⟩ := q0
  refine go_astoren_ (some (.ref 0)) dL_law_7 (by decide) (fun j v hj hv => by obtain rfl : j = 0 := (by omega); cases hv; rfl) (Or.inl rfl) ?_
  refine go_new (ci := 10) dL_law_8 clk_L_111 ins_X10 iniX10 (by decide) (by decide +kernel) (by decide +kernel) (Nat.le_of_ble_eq_true rfl) (Nat.le_of_ble_eq_true rfl) ?_
  rw [show hN (iX9 (uN h00)) = 77 by decide +kernel]
  refine go_dup dL_law_11 rfl ?_
  refine go_callI_ (M' := mX10_init) dL_law_12 lL_113 cb_X10 rfl im_X10 rfl (i_X10 (d := 0) (by decide +kernel)) (Nat.le_of_ble_eq_true rfl) (by decide) (by decide) (Nat.le_of_ble_eq_true rfl) (Nat.le_of_ble_eq_true rfl) (fun _ => by decide +kernel) (fun v0 g0 q0 => ?_)
  obtain ⟨rfl, rfl⟩ := q0
  refine go_astoren_ (some (.ref 77)) dL_law_15 (by decide) (fun j v hj hv => by obtain rfl : j = 1 := (by omega); cases hv; rfl) (Or.inl rfl) ?_
  refine go_iconst (v := 1) dL_law_16 rfl ?_
  refine go_newa (ty := 2) (len := 1) (by decide) dL_law_17 ar_2 (by rw [show hN (iX10 (uN (iX9 (uN h00)))) = 103 by decide +kernel]; rfl) (by decide) (by decide +kernel) (by decide) (by decide +kernel) (Nat.le_of_ble_eq_true rfl) (Nat.le_of_ble_eq_true rfl) ?_
  rw [show hN (iX10 (uN (iX9 (uN h00)))) = 103 by decide +kernel]
  refine go_astoren_ (some (.ref 103)) dL_law_19 (by decide) (fun j v hj hv => by obtain rfl : j = 2 := (by omega); cases hv; rfl) (Or.inl rfl) ?_
  refine go_iconst (v := 0) dL_law_20 rfl ?_
  exact kk
