/-! the law's helpers -/
abbrev CQ (o : Sa) (h : Hp) : Option Value → Hp → Prop := fun v g => (o.1 = 0 ∧ v = some (.int o.2.1)) ∧ KI g o.2.2 ∧ Fw h g
abbrev CX (o : Sa) (E1 E2 : String) (h : Hp) : String → Hp → Prop := fun E g => (o.1 = 1 ∧ E = E1 ∨ o.1 = 2 ∧ E = E2) ∧ KI g o.2.2 ∧ Fw h g
def Fv7 (h g : Hp) : Prop := hN g = hN h ∧ ∀ a, 77 ≤ a → ∀ k, hI g a k = hI h a k
theorem Fv7.fw {h g : Hp} (F : Fw h g) : Fv7 h g := ⟨F.1, fun a ha => (F.2.2 a ha).1⟩
theorem Fv7.uJ {h g : Hp} {a k : Nat} {v : Int64} (F : Fv7 h g) : Fv7 h (uJ g a k v) := F
abbrev HQ (o : Sa) (h : Hp) : Option Value → Hp → Prop := fun v g => v = some (.int (nI o.1)) ∧ (o.1 = 0 → hJ g 103 0 = o.2.1.toInt64) ∧ KI g o.2.2 ∧ Fv7 h g
theorem clL_13 : inG (.classLink RL 13 nIAE) := ⟨ch3_7 _ (List.mem_of_getElem? (i := 5) rfl), rfl⟩
theorem clL_18 : inG (.classLink RL 18 nNSE) := ⟨ch4_13 _ (List.mem_of_getElem? (i := 5) rfl), rfl⟩
theorem ca_nIAE : Cond.castable nIAE nIAE ∈ exFace := by first | exact List.mem_of_getElem? (i := 0) rfl | exact List.mem_of_getElem? (i := 1) rfl | exact List.mem_of_getElem? (i := 2) rfl | exact List.mem_of_getElem? (i := 3) rfl | exact List.mem_of_getElem? (i := 4) rfl | exact List.mem_of_getElem? (i := 5) rfl | exact List.mem_of_getElem? (i := 6) rfl | exact List.mem_of_getElem? (i := 7) rfl | exact List.mem_of_getElem? (i := 8) rfl | exact List.mem_of_getElem? (i := 9) rfl | exact List.mem_of_getElem? (i := 10) rfl | exact List.mem_of_getElem? (i := 11) rfl | exact List.mem_of_getElem? (i := 12) rfl | exact List.mem_of_getElem? (i := 13) rfl | exact List.mem_of_getElem? (i := 14) rfl | exact List.mem_of_getElem? (i := 15) rfl | exact List.mem_of_getElem? (i := 16) rfl | exact List.mem_of_getElem? (i := 17) rfl | exact List.mem_of_getElem? (i := 18) rfl | exact List.mem_of_getElem? (i := 19) rfl | exact List.mem_of_getElem? (i := 20) rfl | exact List.mem_of_getElem? (i := 21) rfl | exact List.mem_of_getElem? (i := 22) rfl | exact List.mem_of_getElem? (i := 23) rfl
theorem ca_nNSE : Cond.castable nNSE nNSE ∈ exFace := by first | exact List.mem_of_getElem? (i := 0) rfl | exact List.mem_of_getElem? (i := 1) rfl | exact List.mem_of_getElem? (i := 2) rfl | exact List.mem_of_getElem? (i := 3) rfl | exact List.mem_of_getElem? (i := 4) rfl | exact List.mem_of_getElem? (i := 5) rfl | exact List.mem_of_getElem? (i := 6) rfl | exact List.mem_of_getElem? (i := 7) rfl | exact List.mem_of_getElem? (i := 8) rfl | exact List.mem_of_getElem? (i := 9) rfl | exact List.mem_of_getElem? (i := 10) rfl | exact List.mem_of_getElem? (i := 11) rfl | exact List.mem_of_getElem? (i := 12) rfl | exact List.mem_of_getElem? (i := 13) rfl | exact List.mem_of_getElem? (i := 14) rfl | exact List.mem_of_getElem? (i := 15) rfl | exact List.mem_of_getElem? (i := 16) rfl | exact List.mem_of_getElem? (i := 17) rfl | exact List.mem_of_getElem? (i := 18) rfl | exact List.mem_of_getElem? (i := 19) rfl | exact List.mem_of_getElem? (i := 20) rfl | exact List.mem_of_getElem? (i := 21) rfl | exact List.mem_of_getElem? (i := 22) rfl | exact List.mem_of_getElem? (i := 23) rfl
theorem hL_city : CH mL_city 3 := ⟨by decide, ⟨ch3_7 _ (List.mem_of_getElem? (i := 4) rfl), rfl⟩, iniL, by decide, by decide +kernel, by decide, ⟨ch3_7 _ (List.mem_of_getElem? (i := 3) rfl), rfl⟩⟩
theorem h_city {l : Launch} {d : Nat} {h : Hp} {x1 : Int32} {o : Sa} (hS : St h) (ho : o.1 ≠ 2) (hr : Run l d (1, 6) mX9_city [.ref 0, .int x1] h (CQ o h) (CX o nIAE nIAE h)) : Run l (d + 1) (1, 6) mL_city [.ref 0, .int x1, .ref 103] h (HQ o h) noX := by
  refine run_ofH (lv := [some (.ref 0), some (.int x1), some (.ref 103), none]) rfl (by decide) rfl (Nat.le_of_ble_eq_true rfl) rfl ?_
  refine go_aloadn dL_city_0 rfl ?_
  refine go_iconst (v := 0) dL_city_1 rfl ?_
  refine go_aloadn dL_city_2 rfl ?_
  refine go_iloadn dL_city_3 rfl ?_
  refine go_callV_ (M' := mX9_city) (as := [.int x1]) dL_city_4 lL_7 vX9_city (show lay 0 = .inl 9 from rfl) (by decide) rfl (by rw [hS.1]; decide) hr rfl (Nat.le_of_ble_eq_true rfl) (by simp only [rmOf]; omega) (by simp only [rmOf]; omega) (Nat.le_of_ble_eq_true rfl) (Nat.le_of_ble_eq_true rfl) (fun _ => rfl) ?_ ?_
  · rintro v g ⟨⟨q0, rfl⟩, KK, F⟩
    refine go_i2l dL_city_7 ?_
    refine go_last (n := 1) dL_city_8 rfl (by rw [F.1, hS.1]; decide) (show ¬ ((0 : Int32) < 0 ∨ 1 ≤ Int32.toNatClampNeg 0) by decide +kernel) ?_
    refine go_goto dL_city_9 rfl ?_
    refine go_iconst (v := 0) dL_city_15 rfl ?_
    exact go_ireturn dL_city_16 rfl rfl (Nat.le_refl _) (Nat.le_refl _) ⟨by rw [q0]; rfl, fun _ => hJ_uJ_eq, KK.uJ, (Fv7.fw F).uJ⟩
  · rintro E g ⟨q, KK, F⟩
    rcases q with ⟨q0, rfl⟩ | ⟨q0, rfl⟩
    · refine gox_catch (k := 0) (nm := nIAE) (i := 3) (tgt := 12) (by decide) rfl (by decide) (by decide) clL_13 ca_nIAE ?_ rfl ?_ (Nat.le_of_ble_eq_true rfl) ?_
      · intro j z hj; exact absurd hj (Nat.not_lt_zero _)
      · refine Or.inr ⟨_, dL_city_12, rfl, fun x hx => ?_⟩
        subst hx
        refine go_iconst (v := 1) dL_city_13 rfl ?_
        exact go_ireturn dL_city_14 rfl rfl (Nat.le_refl _) (Nat.le_refl _) ⟨by rw [q0]; rfl, fun z => absurd (q0.symm.trans z) (by decide), KK, Fv7.fw F⟩
      · intro j v hj hv
        obtain rfl : j = 2 := by omega
        cases hv; rfl
    · exact absurd q0 ho
theorem hL_count : CH mL_count 3 := ⟨by decide, ⟨ch4_13 _ (List.mem_of_getElem? (i := 4) rfl), rfl⟩, iniL, by decide, by decide +kernel, by decide, ⟨ch4_13 _ (List.mem_of_getElem? (i := 3) rfl), rfl⟩⟩
theorem h_count {l : Launch} {d : Nat} {h : Hp} {x1 : Int32} {o : Sa} (hS : St h) (ho : o.1 ≠ 2) (hr : Run l d (1, 6) mX9_count [.ref 0, .int x1] h (CQ o h) (CX o nNSE nIAE h)) : Run l (d + 1) (1, 6) mL_count [.ref 0, .int x1, .ref 103] h (HQ o h) noX := by
  refine run_ofH (lv := [some (.ref 0), some (.int x1), some (.ref 103), none]) rfl (by decide) rfl (Nat.le_of_ble_eq_true rfl) rfl ?_
  refine go_aloadn dL_count_0 rfl ?_
  refine go_iconst (v := 0) dL_count_1 rfl ?_
  refine go_aloadn dL_count_2 rfl ?_
  refine go_iloadn dL_count_3 rfl ?_
  refine go_callV_ (M' := mX9_count) (as := [.int x1]) dL_count_4 lL_15 vX9_count (show lay 0 = .inl 9 from rfl) (by decide) rfl (by rw [hS.1]; decide) hr rfl (Nat.le_of_ble_eq_true rfl) (by simp only [rmOf]; omega) (by simp only [rmOf]; omega) (Nat.le_of_ble_eq_true rfl) (Nat.le_of_ble_eq_true rfl) (fun _ => rfl) ?_ ?_
  · rintro v g ⟨⟨q0, rfl⟩, KK, F⟩
    refine go_i2l dL_count_7 ?_
    refine go_last (n := 1) dL_count_8 rfl (by rw [F.1, hS.1]; decide) (show ¬ ((0 : Int32) < 0 ∨ 1 ≤ Int32.toNatClampNeg 0) by decide +kernel) ?_
    refine go_goto dL_count_9 rfl ?_
    refine go_iconst (v := 0) dL_count_15 rfl ?_
    exact go_ireturn dL_count_16 rfl rfl (Nat.le_refl _) (Nat.le_refl _) ⟨by rw [q0]; rfl, fun _ => hJ_uJ_eq, KK.uJ, (Fv7.fw F).uJ⟩
  · rintro E g ⟨q, KK, F⟩
    rcases q with ⟨q0, rfl⟩ | ⟨q0, rfl⟩
    · refine gox_catch (k := 0) (nm := nNSE) (i := 3) (tgt := 12) (by decide) rfl (by decide) (by decide) clL_18 ca_nNSE ?_ rfl ?_ (Nat.le_of_ble_eq_true rfl) ?_
      · intro j z hj; exact absurd hj (Nat.not_lt_zero _)
      · refine Or.inr ⟨_, dL_count_12, rfl, fun x hx => ?_⟩
        subst hx
        refine go_iconst (v := 1) dL_count_13 rfl ?_
        exact go_ireturn dL_count_14 rfl rfl (Nat.le_refl _) (Nat.le_refl _) ⟨by rw [q0]; rfl, fun z => absurd (q0.symm.trans z) (by decide), KK, Fv7.fw F⟩
      · intro j v hj hv
        obtain rfl : j = 2 := by omega
        cases hv; rfl
    · exact absurd q0 ho
theorem hL_person : CH mL_person 4 := ⟨by decide, ⟨ch5_1 _ (List.mem_of_getElem? (i := 5) rfl), rfl⟩, iniL, by decide, by decide +kernel, by decide, ⟨ch5_1 _ (List.mem_of_getElem? (i := 4) rfl), rfl⟩⟩
theorem h_person {l : Launch} {d : Nat} {h : Hp} {x1 x2 : Int32} {o : Sa} (hS : St h) (ho : o.1 ≠ 2) (hr : Run l d (1, 6) mX9_person [.ref 0, .int x1, .int x2] h (CQ o h) (CX o nNSE nIAE h)) : Run l (d + 1) (1, 6) mL_person [.ref 0, .int x1, .int x2, .ref 103] h (HQ o h) noX := by
  refine run_ofH (lv := [some (.ref 0), some (.int x1), some (.int x2), some (.ref 103), none]) rfl (by decide) rfl (Nat.le_of_ble_eq_true rfl) rfl ?_
  refine go_aloadn dL_person_0 rfl ?_
  refine go_iconst (v := 0) dL_person_1 rfl ?_
  refine go_aloadn dL_person_2 rfl ?_
  refine go_iloadn dL_person_3 rfl ?_
  refine go_iloadn dL_person_4 rfl ?_
  refine go_callV_ (M' := mX9_person) (as := [.int x1, .int x2]) dL_person_5 lL_20 vX9_person (show lay 0 = .inl 9 from rfl) (by decide) rfl (by rw [hS.1]; decide) hr rfl (Nat.le_of_ble_eq_true rfl) (by simp only [rmOf]; omega) (by simp only [rmOf]; omega) (Nat.le_of_ble_eq_true rfl) (Nat.le_of_ble_eq_true rfl) (fun _ => rfl) ?_ ?_
  · rintro v g ⟨⟨q0, rfl⟩, KK, F⟩
    refine go_i2l dL_person_8 ?_
    refine go_last (n := 1) dL_person_9 rfl (by rw [F.1, hS.1]; decide) (show ¬ ((0 : Int32) < 0 ∨ 1 ≤ Int32.toNatClampNeg 0) by decide +kernel) ?_
    refine go_goto dL_person_10 rfl ?_
    refine go_iconst (v := 0) dL_person_17 rfl ?_
    exact go_ireturn dL_person_18 rfl rfl (Nat.le_refl _) (Nat.le_refl _) ⟨by rw [q0]; rfl, fun _ => hJ_uJ_eq, KK.uJ, (Fv7.fw F).uJ⟩
  · rintro E g ⟨q, KK, F⟩
    rcases q with ⟨q0, rfl⟩ | ⟨q0, rfl⟩
    · refine gox_catch (k := 0) (nm := nNSE) (i := 4) (tgt := 13) (by decide) rfl (by decide) (by decide) clL_18 ca_nNSE ?_ rfl ?_ (Nat.le_of_ble_eq_true rfl) ?_
      · intro j z hj; exact absurd hj (Nat.not_lt_zero _)
      · refine Or.inl ⟨dL_person_13, fun x hx => ?_⟩
        subst hx
        refine go_iconst (v := 1) dL_person_15 rfl ?_
        exact go_ireturn dL_person_16 rfl rfl (Nat.le_refl _) (Nat.le_refl _) ⟨by rw [q0]; rfl, fun z => absurd (q0.symm.trans z) (by decide), KK, Fv7.fw F⟩
      · intro j v hj hv
        obtain rfl : j = 3 := by omega
        cases hv; rfl
    · exact absurd q0 ho
theorem hL_thing : CH mL_thing 4 := ⟨by decide, ⟨ch5_3 _ (List.mem_of_getElem? (i := 12) rfl), rfl⟩, iniL, by decide, by decide +kernel, by decide, ⟨ch5_3 _ (List.mem_of_getElem? (i := 11) rfl), rfl⟩⟩
theorem h_thing {l : Launch} {d : Nat} {h : Hp} {x1 x2 : Int32} {o : Sa} (hS : St h) (ho : o.1 ≠ 2) (hr : Run l d (1, 6) mX9_thing [.ref 0, .int x1, .int x2] h (CQ o h) (CX o nNSE nIAE h)) : Run l (d + 1) (1, 6) mL_thing [.ref 0, .int x1, .int x2, .ref 103] h (HQ o h) noX := by
  refine run_ofH (lv := [some (.ref 0), some (.int x1), some (.int x2), some (.ref 103), none]) rfl (by decide) rfl (Nat.le_of_ble_eq_true rfl) rfl ?_
  refine go_aloadn dL_thing_0 rfl ?_
  refine go_iconst (v := 0) dL_thing_1 rfl ?_
  refine go_aloadn dL_thing_2 rfl ?_
  refine go_iloadn dL_thing_3 rfl ?_
  refine go_iloadn dL_thing_4 rfl ?_
  refine go_callV_ (M' := mX9_thing) (as := [.int x1, .int x2]) dL_thing_5 lL_24 vX9_thing (show lay 0 = .inl 9 from rfl) (by decide) rfl (by rw [hS.1]; decide) hr rfl (Nat.le_of_ble_eq_true rfl) (by simp only [rmOf]; omega) (by simp only [rmOf]; omega) (Nat.le_of_ble_eq_true rfl) (Nat.le_of_ble_eq_true rfl) (fun _ => rfl) ?_ ?_
  · rintro v g ⟨⟨q0, rfl⟩, KK, F⟩
    refine go_i2l dL_thing_8 ?_
    refine go_last (n := 1) dL_thing_9 rfl (by rw [F.1, hS.1]; decide) (show ¬ ((0 : Int32) < 0 ∨ 1 ≤ Int32.toNatClampNeg 0) by decide +kernel) ?_
    refine go_goto dL_thing_10 rfl ?_
    refine go_iconst (v := 0) dL_thing_17 rfl ?_
    exact go_ireturn dL_thing_18 rfl rfl (Nat.le_refl _) (Nat.le_refl _) ⟨by rw [q0]; rfl, fun _ => hJ_uJ_eq, KK.uJ, (Fv7.fw F).uJ⟩
  · rintro E g ⟨q, KK, F⟩
    rcases q with ⟨q0, rfl⟩ | ⟨q0, rfl⟩
    · refine gox_catch (k := 0) (nm := nNSE) (i := 4) (tgt := 13) (by decide) rfl (by decide) (by decide) clL_18 ca_nNSE ?_ rfl ?_ (Nat.le_of_ble_eq_true rfl) ?_
      · intro j z hj; exact absurd hj (Nat.not_lt_zero _)
      · refine Or.inl ⟨dL_thing_13, fun x hx => ?_⟩
        subst hx
        refine go_iconst (v := 1) dL_thing_15 rfl ?_
        exact go_ireturn dL_thing_16 rfl rfl (Nat.le_refl _) (Nat.le_refl _) ⟨by rw [q0]; rfl, fun z => absurd (q0.symm.trans z) (by decide), KK, Fv7.fw F⟩
      · intro j v hj hv
        obtain rfl : j = 3 := by omega
        cases hv; rfl
    · exact absurd q0 ho
theorem hL_steal : CH mL_steal 4 := ⟨by decide, ⟨ch5_4 _ (List.mem_of_getElem? (i := 15) rfl), rfl⟩, iniL, by decide, by decide +kernel, by decide, ⟨ch5_4 _ (List.mem_of_getElem? (i := 14) rfl), rfl⟩⟩
theorem h_steal {l : Launch} {d : Nat} {h : Hp} {x1 x2 : Int32} {o : Sa} (hS : St h) (ho : o.1 ≠ 2) (hr : Run l d (1, 6) mX9_steal [.ref 0, .int x1, .int x2] h (CQ o h) (CX o nNSE nIAE h)) : Run l (d + 1) (1, 6) mL_steal [.ref 0, .int x1, .int x2, .ref 103] h (HQ o h) noX := by
  refine run_ofH (lv := [some (.ref 0), some (.int x1), some (.int x2), some (.ref 103), none]) rfl (by decide) rfl (Nat.le_of_ble_eq_true rfl) rfl ?_
  refine go_aloadn dL_steal_0 rfl ?_
  refine go_iconst (v := 0) dL_steal_1 rfl ?_
  refine go_aloadn dL_steal_2 rfl ?_
  refine go_iloadn dL_steal_3 rfl ?_
  refine go_iloadn dL_steal_4 rfl ?_
  refine go_callV_ (M' := mX9_steal) (as := [.int x1, .int x2]) dL_steal_5 lL_27 vX9_steal (show lay 0 = .inl 9 from rfl) (by decide) rfl (by rw [hS.1]; decide) hr rfl (Nat.le_of_ble_eq_true rfl) (by simp only [rmOf]; omega) (by simp only [rmOf]; omega) (Nat.le_of_ble_eq_true rfl) (Nat.le_of_ble_eq_true rfl) (fun _ => rfl) ?_ ?_
  · rintro v g ⟨⟨q0, rfl⟩, KK, F⟩
    refine go_i2l dL_steal_8 ?_
    refine go_last (n := 1) dL_steal_9 rfl (by rw [F.1, hS.1]; decide) (show ¬ ((0 : Int32) < 0 ∨ 1 ≤ Int32.toNatClampNeg 0) by decide +kernel) ?_
    refine go_goto dL_steal_10 rfl ?_
    refine go_iconst (v := 0) dL_steal_17 rfl ?_
    exact go_ireturn dL_steal_18 rfl rfl (Nat.le_refl _) (Nat.le_refl _) ⟨by rw [q0]; rfl, fun _ => hJ_uJ_eq, KK.uJ, (Fv7.fw F).uJ⟩
  · rintro E g ⟨q, KK, F⟩
    rcases q with ⟨q0, rfl⟩ | ⟨q0, rfl⟩
    · refine gox_catch (k := 0) (nm := nNSE) (i := 4) (tgt := 13) (by decide) rfl (by decide) (by decide) clL_18 ca_nNSE ?_ rfl ?_ (Nat.le_of_ble_eq_true rfl) ?_
      · intro j z hj; exact absurd hj (Nat.not_lt_zero _)
      · refine Or.inl ⟨dL_steal_13, fun x hx => ?_⟩
        subst hx
        refine go_iconst (v := 1) dL_steal_15 rfl ?_
        exact go_ireturn dL_steal_16 rfl rfl (Nat.le_refl _) (Nat.le_refl _) ⟨by rw [q0]; rfl, fun z => absurd (q0.symm.trans z) (by decide), KK, Fv7.fw F⟩
      · intro j v hj hv
        obtain rfl : j = 3 := by omega
        cases hv; rfl
    · exact absurd q0 ho
theorem hL_back : CH mL_back 3 := ⟨by decide, ⟨ch5_5 _ (List.mem_of_getElem? (i := 11) rfl), rfl⟩, iniL, by decide, by decide +kernel, by decide, ⟨ch5_5 _ (List.mem_of_getElem? (i := 10) rfl), rfl⟩⟩
theorem h_back {l : Launch} {d : Nat} {h : Hp} {x1 : Int32} {o : Sa} (hS : St h) (ho : o.1 ≠ 2) (hr : Run l d (1, 6) mX9_back [.ref 0, .int x1] h (CQ o h) (CX o nNSE nIAE h)) : Run l (d + 1) (1, 6) mL_back [.ref 0, .int x1, .ref 103] h (HQ o h) noX := by
  refine run_ofH (lv := [some (.ref 0), some (.int x1), some (.ref 103), none]) rfl (by decide) rfl (Nat.le_of_ble_eq_true rfl) rfl ?_
  refine go_aloadn dL_back_0 rfl ?_
  refine go_iconst (v := 0) dL_back_1 rfl ?_
  refine go_aloadn dL_back_2 rfl ?_
  refine go_iloadn dL_back_3 rfl ?_
  refine go_callV_ (M' := mX9_back) (as := [.int x1]) dL_back_4 lL_30 vX9_back (show lay 0 = .inl 9 from rfl) (by decide) rfl (by rw [hS.1]; decide) hr rfl (Nat.le_of_ble_eq_true rfl) (by simp only [rmOf]; omega) (by simp only [rmOf]; omega) (Nat.le_of_ble_eq_true rfl) (Nat.le_of_ble_eq_true rfl) (fun _ => rfl) ?_ ?_
  · rintro v g ⟨⟨q0, rfl⟩, KK, F⟩
    refine go_i2l dL_back_7 ?_
    refine go_last (n := 1) dL_back_8 rfl (by rw [F.1, hS.1]; decide) (show ¬ ((0 : Int32) < 0 ∨ 1 ≤ Int32.toNatClampNeg 0) by decide +kernel) ?_
    refine go_goto dL_back_9 rfl ?_
    refine go_iconst (v := 0) dL_back_15 rfl ?_
    exact go_ireturn dL_back_16 rfl rfl (Nat.le_refl _) (Nat.le_refl _) ⟨by rw [q0]; rfl, fun _ => hJ_uJ_eq, KK.uJ, (Fv7.fw F).uJ⟩
  · rintro E g ⟨q, KK, F⟩
    rcases q with ⟨q0, rfl⟩ | ⟨q0, rfl⟩
    · refine gox_catch (k := 0) (nm := nNSE) (i := 3) (tgt := 12) (by decide) rfl (by decide) (by decide) clL_18 ca_nNSE ?_ rfl ?_ (Nat.le_of_ble_eq_true rfl) ?_
      · intro j z hj; exact absurd hj (Nat.not_lt_zero _)
      · refine Or.inr ⟨_, dL_back_12, rfl, fun x hx => ?_⟩
        subst hx
        refine go_iconst (v := 1) dL_back_13 rfl ?_
        exact go_ireturn dL_back_14 rfl rfl (Nat.le_refl _) (Nat.le_refl _) ⟨by rw [q0]; rfl, fun z => absurd (q0.symm.trans z) (by decide), KK, Fv7.fw F⟩
      · intro j v hj hv
        obtain rfl : j = 2 := by omega
        cases hv; rfl
    · exact absurd q0 ho
theorem hL_walk : CH mL_walk 5 := ⟨by decide, ⟨ch5_6 _ (List.mem_of_getElem? (i := 2) rfl), rfl⟩, iniL, by decide, by decide +kernel, by decide, ⟨ch5_6 _ (List.mem_of_getElem? (i := 1) rfl), rfl⟩⟩
theorem h_walk {l : Launch} {d : Nat} {h : Hp} {x1 x2 x3 : Int32} {o : Sa} (hS : St h) (ho : o.1 ≠ 2) (hr : Run l d (1, 6) mX9_walk [.ref 0, .int x1, .int x2, .int x3] h (CQ o h) (CX o nNSE nIAE h)) : Run l (d + 1) (1, 6) mL_walk [.ref 0, .int x1, .int x2, .int x3, .ref 103] h (HQ o h) noX := by
  refine run_ofH (lv := [some (.ref 0), some (.int x1), some (.int x2), some (.int x3), some (.ref 103), none]) rfl (by decide) rfl (Nat.le_of_ble_eq_true rfl) rfl ?_
  refine go_aload dL_walk_0 rfl ?_
  refine go_iconst (v := 0) dL_walk_2 rfl ?_
  refine go_aloadn dL_walk_3 rfl ?_
  refine go_iloadn dL_walk_4 rfl ?_
  refine go_iloadn dL_walk_5 rfl ?_
  refine go_iloadn dL_walk_6 rfl ?_
  refine go_callV_ (M' := mX9_walk) (as := [.int x1, .int x2, .int x3]) dL_walk_7 lL_33 vX9_walk (show lay 0 = .inl 9 from rfl) (by decide) rfl (by rw [hS.1]; decide) hr rfl (Nat.le_of_ble_eq_true rfl) (by simp only [rmOf]; omega) (by simp only [rmOf]; omega) (Nat.le_of_ble_eq_true rfl) (Nat.le_of_ble_eq_true rfl) (fun _ => rfl) ?_ ?_
  · rintro v g ⟨⟨q0, rfl⟩, KK, F⟩
    refine go_i2l dL_walk_10 ?_
    refine go_last (n := 1) dL_walk_11 rfl (by rw [F.1, hS.1]; decide) (show ¬ ((0 : Int32) < 0 ∨ 1 ≤ Int32.toNatClampNeg 0) by decide +kernel) ?_
    refine go_goto dL_walk_12 rfl ?_
    refine go_iconst (v := 0) dL_walk_19 rfl ?_
    exact go_ireturn dL_walk_20 rfl rfl (Nat.le_refl _) (Nat.le_refl _) ⟨by rw [q0]; rfl, fun _ => hJ_uJ_eq, KK.uJ, (Fv7.fw F).uJ⟩
  · rintro E g ⟨q, KK, F⟩
    rcases q with ⟨q0, rfl⟩ | ⟨q0, rfl⟩
    · refine gox_catch (k := 0) (nm := nNSE) (i := 5) (tgt := 15) (by decide) rfl (by decide) (by decide) clL_18 ca_nNSE ?_ rfl ?_ (Nat.le_of_ble_eq_true rfl) ?_
      · intro j z hj; exact absurd hj (Nat.not_lt_zero _)
      · refine Or.inl ⟨dL_walk_15, fun x hx => ?_⟩
        subst hx
        refine go_iconst (v := 1) dL_walk_17 rfl ?_
        exact go_ireturn dL_walk_18 rfl rfl (Nat.le_refl _) (Nat.le_refl _) ⟨by rw [q0]; rfl, fun z => absurd (q0.symm.trans z) (by decide), KK, Fv7.fw F⟩
      · intro j v hj hv
        obtain rfl : j = 4 := by omega
        cases hv; rfl
    · exact absurd q0 ho
theorem hL_dye : CH mL_dye 4 := ⟨by decide, ⟨ch5_6 _ (List.mem_of_getElem? (i := 9) rfl), rfl⟩, iniL, by decide, by decide +kernel, by decide, ⟨ch5_6 _ (List.mem_of_getElem? (i := 8) rfl), rfl⟩⟩
theorem h_dye {l : Launch} {d : Nat} {h : Hp} {x1 x2 : Int32} {o : Sa} (hS : St h) (ho : o.1 ≠ 2) (hr : Run l d (1, 6) mX9_dye [.ref 0, .int x1, .int x2] h (CQ o h) (CX o nNSE nIAE h)) : Run l (d + 1) (1, 6) mL_dye [.ref 0, .int x1, .int x2, .ref 103] h (HQ o h) noX := by
  refine run_ofH (lv := [some (.ref 0), some (.int x1), some (.int x2), some (.ref 103), none]) rfl (by decide) rfl (Nat.le_of_ble_eq_true rfl) rfl ?_
  refine go_aloadn dL_dye_0 rfl ?_
  refine go_iconst (v := 0) dL_dye_1 rfl ?_
  refine go_aloadn dL_dye_2 rfl ?_
  refine go_iloadn dL_dye_3 rfl ?_
  refine go_iloadn dL_dye_4 rfl ?_
  refine go_callV_ (M' := mX9_dye) (as := [.int x1, .int x2]) dL_dye_5 lL_37 vX9_dye (show lay 0 = .inl 9 from rfl) (by decide) rfl (by rw [hS.1]; decide) hr rfl (Nat.le_of_ble_eq_true rfl) (by simp only [rmOf]; omega) (by simp only [rmOf]; omega) (Nat.le_of_ble_eq_true rfl) (Nat.le_of_ble_eq_true rfl) (fun _ => rfl) ?_ ?_
  · rintro v g ⟨⟨q0, rfl⟩, KK, F⟩
    refine go_i2l dL_dye_8 ?_
    refine go_last (n := 1) dL_dye_9 rfl (by rw [F.1, hS.1]; decide) (show ¬ ((0 : Int32) < 0 ∨ 1 ≤ Int32.toNatClampNeg 0) by decide +kernel) ?_
    refine go_goto dL_dye_10 rfl ?_
    refine go_iconst (v := 0) dL_dye_17 rfl ?_
    exact go_ireturn dL_dye_18 rfl rfl (Nat.le_refl _) (Nat.le_refl _) ⟨by rw [q0]; rfl, fun _ => hJ_uJ_eq, KK.uJ, (Fv7.fw F).uJ⟩
  · rintro E g ⟨q, KK, F⟩
    rcases q with ⟨q0, rfl⟩ | ⟨q0, rfl⟩
    · refine gox_catch (k := 0) (nm := nNSE) (i := 4) (tgt := 13) (by decide) rfl (by decide) (by decide) clL_18 ca_nNSE ?_ rfl ?_ (Nat.le_of_ble_eq_true rfl) ?_
      · intro j z hj; exact absurd hj (Nat.not_lt_zero _)
      · refine Or.inl ⟨dL_dye_13, fun x hx => ?_⟩
        subst hx
        refine go_iconst (v := 1) dL_dye_15 rfl ?_
        exact go_ireturn dL_dye_16 rfl rfl (Nat.le_refl _) (Nat.le_refl _) ⟨by rw [q0]; rfl, fun z => absurd (q0.symm.trans z) (by decide), KK, Fv7.fw F⟩
      · intro j v hj hv
        obtain rfl : j = 3 := by omega
        cases hv; rfl
    · exact absurd q0 ho
theorem hL_then : CH mL_then 5 := ⟨by decide, ⟨ch5_7 _ (List.mem_of_getElem? (i := 0) rfl), rfl⟩, iniL, by decide, by decide +kernel, by decide, ⟨ch5_6 _ (List.mem_of_getElem? (i := 15) rfl), rfl⟩⟩
theorem h_then {l : Launch} {d : Nat} {h : Hp} {x1 x2 x3 : Int32} {o : Sa} (hS : St h) (hr : Run l d (1, 6) mX9_then [.ref 0, .int x1, .int x2, .int x3] h (CQ o h) (CX o nNSE nIAE h)) : Run l (d + 1) (1, 6) mL_then [.ref 0, .int x1, .int x2, .int x3, .ref 103] h (HQ o h) noX := by
  refine run_ofH (lv := [some (.ref 0), some (.int x1), some (.int x2), some (.int x3), some (.ref 103), none]) rfl (by decide) rfl (Nat.le_of_ble_eq_true rfl) rfl ?_
  refine go_aload dL_then_0 rfl ?_
  refine go_iconst (v := 0) dL_then_2 rfl ?_
  refine go_aloadn dL_then_3 rfl ?_
  refine go_iloadn dL_then_4 rfl ?_
  refine go_iloadn dL_then_5 rfl ?_
  refine go_iloadn dL_then_6 rfl ?_
  refine go_callV_ (M' := mX9_then) (as := [.int x1, .int x2, .int x3]) dL_then_7 lL_40 vX9_then (show lay 0 = .inl 9 from rfl) (by decide) rfl (by rw [hS.1]; decide) hr rfl (Nat.le_of_ble_eq_true rfl) (by simp only [rmOf]; omega) (by simp only [rmOf]; omega) (Nat.le_of_ble_eq_true rfl) (Nat.le_of_ble_eq_true rfl) (fun _ => rfl) ?_ ?_
  · rintro v g ⟨⟨q0, rfl⟩, KK, F⟩
    refine go_i2l dL_then_10 ?_
    refine go_last (n := 1) dL_then_11 rfl (by rw [F.1, hS.1]; decide) (show ¬ ((0 : Int32) < 0 ∨ 1 ≤ Int32.toNatClampNeg 0) by decide +kernel) ?_
    refine go_goto dL_then_12 rfl ?_
    refine go_iconst (v := 0) dL_then_23 rfl ?_
    exact go_ireturn dL_then_24 rfl rfl (Nat.le_refl _) (Nat.le_refl _) ⟨by rw [q0]; rfl, fun _ => hJ_uJ_eq, KK.uJ, (Fv7.fw F).uJ⟩
  · rintro E g ⟨q, KK, F⟩
    rcases q with ⟨q0, rfl⟩ | ⟨q0, rfl⟩
    · refine gox_catch (k := 0) (nm := nNSE) (i := 5) (tgt := 15) (by decide) rfl (by decide) (by decide) clL_18 ca_nNSE ?_ rfl ?_ (Nat.le_of_ble_eq_true rfl) ?_
      · intro j z hj; exact absurd hj (Nat.not_lt_zero _)
      · refine Or.inl ⟨dL_then_15, fun x hx => ?_⟩
        subst hx
        refine go_iconst (v := 1) dL_then_17 rfl ?_
        exact go_ireturn dL_then_18 rfl rfl (Nat.le_refl _) (Nat.le_refl _) ⟨by rw [q0]; rfl, fun z => absurd (q0.symm.trans z) (by decide), KK, Fv7.fw F⟩
      · intro j v hj hv
        obtain rfl : j = 4 := by omega
        cases hv; rfl
    · refine gox_catch (k := 1) (nm := nIAE) (i := 5) (tgt := 19) (by decide) rfl (by decide) (by decide) clL_13 ca_nIAE ?_ rfl ?_ (Nat.le_of_ble_eq_true rfl) ?_
      · intro j z hj hz
        obtain rfl : j = 0 := by omega
        cases hz
        exact ⟨by decide, clL_18, rfl⟩
      · refine Or.inl ⟨dL_then_19, fun x hx => ?_⟩
        subst hx
        refine go_iconst (v := 2) dL_then_21 rfl ?_
        exact go_ireturn dL_then_22 rfl rfl (Nat.le_refl _) (Nat.le_refl _) ⟨by rw [q0]; rfl, fun z => absurd (q0.symm.trans z) (by decide), KK, Fv7.fw F⟩
      · intro j v hj hv
        obtain rfl : j = 4 := by omega
        cases hv; rfl
theorem hL_later : CH mL_later 5 := ⟨by decide, ⟨ch5_8 _ (List.mem_of_getElem? (i := 11) rfl), rfl⟩, iniL, by decide, by decide +kernel, by decide, ⟨ch5_8 _ (List.mem_of_getElem? (i := 10) rfl), rfl⟩⟩
theorem h_later {l : Launch} {d : Nat} {h : Hp} {x1 x2 x3 : Int32} {o : Sa} (hS : St h) (hr : Run l d (1, 6) mX9_later [.ref 0, .int x1, .int x2, .int x3] h (CQ o h) (CX o nNSE nIAE h)) : Run l (d + 1) (1, 6) mL_later [.ref 0, .int x1, .int x2, .int x3, .ref 103] h (HQ o h) noX := by
  refine run_ofH (lv := [some (.ref 0), some (.int x1), some (.int x2), some (.int x3), some (.ref 103), none]) rfl (by decide) rfl (Nat.le_of_ble_eq_true rfl) rfl ?_
  refine go_aload dL_later_0 rfl ?_
  refine go_iconst (v := 0) dL_later_2 rfl ?_
  refine go_aloadn dL_later_3 rfl ?_
  refine go_iloadn dL_later_4 rfl ?_
  refine go_iloadn dL_later_5 rfl ?_
  refine go_iloadn dL_later_6 rfl ?_
  refine go_callV_ (M' := mX9_later) (as := [.int x1, .int x2, .int x3]) dL_later_7 lL_43 vX9_later (show lay 0 = .inl 9 from rfl) (by decide) rfl (by rw [hS.1]; decide) hr rfl (Nat.le_of_ble_eq_true rfl) (by simp only [rmOf]; omega) (by simp only [rmOf]; omega) (Nat.le_of_ble_eq_true rfl) (Nat.le_of_ble_eq_true rfl) (fun _ => rfl) ?_ ?_
  · rintro v g ⟨⟨q0, rfl⟩, KK, F⟩
    refine go_i2l dL_later_10 ?_
    refine go_last (n := 1) dL_later_11 rfl (by rw [F.1, hS.1]; decide) (show ¬ ((0 : Int32) < 0 ∨ 1 ≤ Int32.toNatClampNeg 0) by decide +kernel) ?_
    refine go_goto dL_later_12 rfl ?_
    refine go_iconst (v := 0) dL_later_23 rfl ?_
    exact go_ireturn dL_later_24 rfl rfl (Nat.le_refl _) (Nat.le_refl _) ⟨by rw [q0]; rfl, fun _ => hJ_uJ_eq, KK.uJ, (Fv7.fw F).uJ⟩
  · rintro E g ⟨q, KK, F⟩
    rcases q with ⟨q0, rfl⟩ | ⟨q0, rfl⟩
    · refine gox_catch (k := 0) (nm := nNSE) (i := 5) (tgt := 15) (by decide) rfl (by decide) (by decide) clL_18 ca_nNSE ?_ rfl ?_ (Nat.le_of_ble_eq_true rfl) ?_
      · intro j z hj; exact absurd hj (Nat.not_lt_zero _)
      · refine Or.inl ⟨dL_later_15, fun x hx => ?_⟩
        subst hx
        refine go_iconst (v := 1) dL_later_17 rfl ?_
        exact go_ireturn dL_later_18 rfl rfl (Nat.le_refl _) (Nat.le_refl _) ⟨by rw [q0]; rfl, fun z => absurd (q0.symm.trans z) (by decide), KK, Fv7.fw F⟩
      · intro j v hj hv
        obtain rfl : j = 4 := by omega
        cases hv; rfl
    · refine gox_catch (k := 1) (nm := nIAE) (i := 5) (tgt := 19) (by decide) rfl (by decide) (by decide) clL_13 ca_nIAE ?_ rfl ?_ (Nat.le_of_ble_eq_true rfl) ?_
      · intro j z hj hz
        obtain rfl : j = 0 := by omega
        cases hz
        exact ⟨by decide, clL_18, rfl⟩
      · refine Or.inl ⟨dL_later_19, fun x hx => ?_⟩
        subst hx
        refine go_iconst (v := 2) dL_later_21 rfl ?_
        exact go_ireturn dL_later_22 rfl rfl (Nat.le_refl _) (Nat.le_refl _) ⟨by rw [q0]; rfl, fun z => absurd (q0.symm.trans z) (by decide), KK, Fv7.fw F⟩
      · intro j v hj hv
        obtain rfl : j = 4 := by omega
        cases hv; rfl
theorem hL_when : CH mL_when 4 := ⟨by decide, ⟨ch5_9 _ (List.mem_of_getElem? (i := 2) rfl), rfl⟩, iniL, by decide, by decide +kernel, by decide, ⟨ch5_9 _ (List.mem_of_getElem? (i := 1) rfl), rfl⟩⟩
theorem h_when {l : Launch} {d : Nat} {h : Hp} {x1 x2 : Int32} {o : Sa} (hS : St h) (ho : o.1 ≠ 2) (hr : Run l d (1, 6) mX9_when [.ref 0, .int x1, .int x2] h (CQ o h) (CX o nNSE nIAE h)) : Run l (d + 1) (1, 6) mL_when [.ref 0, .int x1, .int x2, .ref 103] h (HQ o h) noX := by
  refine run_ofH (lv := [some (.ref 0), some (.int x1), some (.int x2), some (.ref 103), none]) rfl (by decide) rfl (Nat.le_of_ble_eq_true rfl) rfl ?_
  refine go_aloadn dL_when_0 rfl ?_
  refine go_iconst (v := 0) dL_when_1 rfl ?_
  refine go_aloadn dL_when_2 rfl ?_
  refine go_iloadn dL_when_3 rfl ?_
  refine go_iloadn dL_when_4 rfl ?_
  refine go_callV_ (M' := mX9_when) (as := [.int x1, .int x2]) dL_when_5 lL_46 vX9_when (show lay 0 = .inl 9 from rfl) (by decide) rfl (by rw [hS.1]; decide) hr rfl (Nat.le_of_ble_eq_true rfl) (by simp only [rmOf]; omega) (by simp only [rmOf]; omega) (Nat.le_of_ble_eq_true rfl) (Nat.le_of_ble_eq_true rfl) (fun _ => rfl) ?_ ?_
  · rintro v g ⟨⟨q0, rfl⟩, KK, F⟩
    refine go_i2l dL_when_8 ?_
    refine go_last (n := 1) dL_when_9 rfl (by rw [F.1, hS.1]; decide) (show ¬ ((0 : Int32) < 0 ∨ 1 ≤ Int32.toNatClampNeg 0) by decide +kernel) ?_
    refine go_goto dL_when_10 rfl ?_
    refine go_iconst (v := 0) dL_when_17 rfl ?_
    exact go_ireturn dL_when_18 rfl rfl (Nat.le_refl _) (Nat.le_refl _) ⟨by rw [q0]; rfl, fun _ => hJ_uJ_eq, KK.uJ, (Fv7.fw F).uJ⟩
  · rintro E g ⟨q, KK, F⟩
    rcases q with ⟨q0, rfl⟩ | ⟨q0, rfl⟩
    · refine gox_catch (k := 0) (nm := nNSE) (i := 4) (tgt := 13) (by decide) rfl (by decide) (by decide) clL_18 ca_nNSE ?_ rfl ?_ (Nat.le_of_ble_eq_true rfl) ?_
      · intro j z hj; exact absurd hj (Nat.not_lt_zero _)
      · refine Or.inl ⟨dL_when_13, fun x hx => ?_⟩
        subst hx
        refine go_iconst (v := 1) dL_when_15 rfl ?_
        exact go_ireturn dL_when_16 rfl rfl (Nat.le_refl _) (Nat.le_refl _) ⟨by rw [q0]; rfl, fun z => absurd (q0.symm.trans z) (by decide), KK, Fv7.fw F⟩
      · intro j v hj hv
        obtain rfl : j = 3 := by omega
        cases hv; rfl
    · exact absurd q0 ho
theorem hL_all : CH mL_all 4 := ⟨by decide, ⟨ch5_9 _ (List.mem_of_getElem? (i := 14) rfl), rfl⟩, iniL, by decide, by decide +kernel, by decide, ⟨ch5_9 _ (List.mem_of_getElem? (i := 13) rfl), rfl⟩⟩
theorem h_all {l : Launch} {d : Nat} {h : Hp} {x1 x2 : Int32} {o : Sa} (hS : St h) (hr : Run l d (1, 6) mX9_all [.ref 0, .int x1, .int x2] h (CQ o h) (CX o nNSE nIAE h)) : Run l (d + 1) (1, 6) mL_all [.ref 0, .int x1, .int x2, .ref 103] h (HQ o h) noX := by
  refine run_ofH (lv := [some (.ref 0), some (.int x1), some (.int x2), some (.ref 103), none]) rfl (by decide) rfl (Nat.le_of_ble_eq_true rfl) rfl ?_
  refine go_aloadn dL_all_0 rfl ?_
  refine go_iconst (v := 0) dL_all_1 rfl ?_
  refine go_aloadn dL_all_2 rfl ?_
  refine go_iloadn dL_all_3 rfl ?_
  refine go_iloadn dL_all_4 rfl ?_
  refine go_callV_ (M' := mX9_all) (as := [.int x1, .int x2]) dL_all_5 lL_49 vX9_all (show lay 0 = .inl 9 from rfl) (by decide) rfl (by rw [hS.1]; decide) hr rfl (Nat.le_of_ble_eq_true rfl) (by simp only [rmOf]; omega) (by simp only [rmOf]; omega) (Nat.le_of_ble_eq_true rfl) (Nat.le_of_ble_eq_true rfl) (fun _ => rfl) ?_ ?_
  · rintro v g ⟨⟨q0, rfl⟩, KK, F⟩
    refine go_i2l dL_all_8 ?_
    refine go_last (n := 1) dL_all_9 rfl (by rw [F.1, hS.1]; decide) (show ¬ ((0 : Int32) < 0 ∨ 1 ≤ Int32.toNatClampNeg 0) by decide +kernel) ?_
    refine go_goto dL_all_10 rfl ?_
    refine go_iconst (v := 0) dL_all_21 rfl ?_
    exact go_ireturn dL_all_22 rfl rfl (Nat.le_refl _) (Nat.le_refl _) ⟨by rw [q0]; rfl, fun _ => hJ_uJ_eq, KK.uJ, (Fv7.fw F).uJ⟩
  · rintro E g ⟨q, KK, F⟩
    rcases q with ⟨q0, rfl⟩ | ⟨q0, rfl⟩
    · refine gox_catch (k := 0) (nm := nNSE) (i := 4) (tgt := 13) (by decide) rfl (by decide) (by decide) clL_18 ca_nNSE ?_ rfl ?_ (Nat.le_of_ble_eq_true rfl) ?_
      · intro j z hj; exact absurd hj (Nat.not_lt_zero _)
      · refine Or.inl ⟨dL_all_13, fun x hx => ?_⟩
        subst hx
        refine go_iconst (v := 1) dL_all_15 rfl ?_
        exact go_ireturn dL_all_16 rfl rfl (Nat.le_refl _) (Nat.le_refl _) ⟨by rw [q0]; rfl, fun z => absurd (q0.symm.trans z) (by decide), KK, Fv7.fw F⟩
      · intro j v hj hv
        obtain rfl : j = 3 := by omega
        cases hv; rfl
    · refine gox_catch (k := 1) (nm := nIAE) (i := 4) (tgt := 17) (by decide) rfl (by decide) (by decide) clL_13 ca_nIAE ?_ rfl ?_ (Nat.le_of_ble_eq_true rfl) ?_
      · intro j z hj hz
        obtain rfl : j = 0 := by omega
        cases hz
        exact ⟨by decide, clL_18, rfl⟩
      · refine Or.inl ⟨dL_all_17, fun x hx => ?_⟩
        subst hx
        refine go_iconst (v := 2) dL_all_19 rfl ?_
        exact go_ireturn dL_all_20 rfl rfl (Nat.le_refl _) (Nat.le_refl _) ⟨by rw [q0]; rfl, fun z => absurd (q0.symm.trans z) (by decide), KK, Fv7.fw F⟩
      · intro j v hj hv
        obtain rfl : j = 3 := by omega
        cases hv; rfl
theorem hL_where : CH mL_where 5 := ⟨by decide, ⟨ch5_10 _ (List.mem_of_getElem? (i := 14) rfl), rfl⟩, iniL, by decide, by decide +kernel, by decide, ⟨ch5_10 _ (List.mem_of_getElem? (i := 13) rfl), rfl⟩⟩
theorem h_where {l : Launch} {d : Nat} {h : Hp} {x1 x2 x3 : Int32} {o : Sa} (hS : St h) (hr : Run l d (1, 6) mX9_where [.ref 0, .int x1, .int x2, .int x3] h (CQ o h) (CX o nNSE nIAE h)) : Run l (d + 1) (1, 6) mL_where [.ref 0, .int x1, .int x2, .int x3, .ref 103] h (HQ o h) noX := by
  refine run_ofH (lv := [some (.ref 0), some (.int x1), some (.int x2), some (.int x3), some (.ref 103), none]) rfl (by decide) rfl (Nat.le_of_ble_eq_true rfl) rfl ?_
  refine go_aload dL_where_0 rfl ?_
  refine go_iconst (v := 0) dL_where_2 rfl ?_
  refine go_aloadn dL_where_3 rfl ?_
  refine go_iloadn dL_where_4 rfl ?_
  refine go_iloadn dL_where_5 rfl ?_
  refine go_iloadn dL_where_6 rfl ?_
  refine go_callV_ (M' := mX9_where) (as := [.int x1, .int x2, .int x3]) dL_where_7 lL_52 vX9_where (show lay 0 = .inl 9 from rfl) (by decide) rfl (by rw [hS.1]; decide) hr rfl (Nat.le_of_ble_eq_true rfl) (by simp only [rmOf]; omega) (by simp only [rmOf]; omega) (Nat.le_of_ble_eq_true rfl) (Nat.le_of_ble_eq_true rfl) (fun _ => rfl) ?_ ?_
  · rintro v g ⟨⟨q0, rfl⟩, KK, F⟩
    refine go_i2l dL_where_10 ?_
    refine go_last (n := 1) dL_where_11 rfl (by rw [F.1, hS.1]; decide) (show ¬ ((0 : Int32) < 0 ∨ 1 ≤ Int32.toNatClampNeg 0) by decide +kernel) ?_
    refine go_goto dL_where_12 rfl ?_
    refine go_iconst (v := 0) dL_where_23 rfl ?_
    exact go_ireturn dL_where_24 rfl rfl (Nat.le_refl _) (Nat.le_refl _) ⟨by rw [q0]; rfl, fun _ => hJ_uJ_eq, KK.uJ, (Fv7.fw F).uJ⟩
  · rintro E g ⟨q, KK, F⟩
    rcases q with ⟨q0, rfl⟩ | ⟨q0, rfl⟩
    · refine gox_catch (k := 0) (nm := nNSE) (i := 5) (tgt := 15) (by decide) rfl (by decide) (by decide) clL_18 ca_nNSE ?_ rfl ?_ (Nat.le_of_ble_eq_true rfl) ?_
      · intro j z hj; exact absurd hj (Nat.not_lt_zero _)
      · refine Or.inl ⟨dL_where_15, fun x hx => ?_⟩
        subst hx
        refine go_iconst (v := 1) dL_where_17 rfl ?_
        exact go_ireturn dL_where_18 rfl rfl (Nat.le_refl _) (Nat.le_refl _) ⟨by rw [q0]; rfl, fun z => absurd (q0.symm.trans z) (by decide), KK, Fv7.fw F⟩
      · intro j v hj hv
        obtain rfl : j = 4 := by omega
        cases hv; rfl
    · refine gox_catch (k := 1) (nm := nIAE) (i := 5) (tgt := 19) (by decide) rfl (by decide) (by decide) clL_13 ca_nIAE ?_ rfl ?_ (Nat.le_of_ble_eq_true rfl) ?_
      · intro j z hj hz
        obtain rfl : j = 0 := by omega
        cases hz
        exact ⟨by decide, clL_18, rfl⟩
      · refine Or.inl ⟨dL_where_19, fun x hx => ?_⟩
        subst hx
        refine go_iconst (v := 2) dL_where_21 rfl ?_
        exact go_ireturn dL_where_22 rfl rfl (Nat.le_refl _) (Nat.le_refl _) ⟨by rw [q0]; rfl, fun z => absurd (q0.symm.trans z) (by decide), KK, Fv7.fw F⟩
      · intro j v hj hv
        obtain rfl : j = 4 := by omega
        cases hv; rfl
theorem hL_toStand : CH mL_toStand 4 := ⟨by decide, ⟨ch5_11 _ (List.mem_of_getElem? (i := 6) rfl), rfl⟩, iniL, by decide, by decide +kernel, by decide, ⟨ch5_11 _ (List.mem_of_getElem? (i := 5) rfl), rfl⟩⟩
theorem h_toStand {l : Launch} {d : Nat} {h : Hp} {x1 x2 : Int32} {o : Sa} (hS : St h) (ho : o.1 ≠ 2) (hr : Run l d (1, 6) mX9_toStand [.ref 0, .int x1, .int x2] h (CQ o h) (CX o nNSE nIAE h)) : Run l (d + 1) (1, 6) mL_toStand [.ref 0, .int x1, .int x2, .ref 103] h (HQ o h) noX := by
  refine run_ofH (lv := [some (.ref 0), some (.int x1), some (.int x2), some (.ref 103), none]) rfl (by decide) rfl (Nat.le_of_ble_eq_true rfl) rfl ?_
  refine go_aloadn dL_toStand_0 rfl ?_
  refine go_iconst (v := 0) dL_toStand_1 rfl ?_
  refine go_aloadn dL_toStand_2 rfl ?_
  refine go_iloadn dL_toStand_3 rfl ?_
  refine go_iloadn dL_toStand_4 rfl ?_
  refine go_callV_ (M' := mX9_toStand) (as := [.int x1, .int x2]) dL_toStand_5 lL_55 vX9_toStand (show lay 0 = .inl 9 from rfl) (by decide) rfl (by rw [hS.1]; decide) hr rfl (Nat.le_of_ble_eq_true rfl) (by simp only [rmOf]; omega) (by simp only [rmOf]; omega) (Nat.le_of_ble_eq_true rfl) (Nat.le_of_ble_eq_true rfl) (fun _ => rfl) ?_ ?_
  · rintro v g ⟨⟨q0, rfl⟩, KK, F⟩
    refine go_i2l dL_toStand_8 ?_
    refine go_last (n := 1) dL_toStand_9 rfl (by rw [F.1, hS.1]; decide) (show ¬ ((0 : Int32) < 0 ∨ 1 ≤ Int32.toNatClampNeg 0) by decide +kernel) ?_
    refine go_goto dL_toStand_10 rfl ?_
    refine go_iconst (v := 0) dL_toStand_17 rfl ?_
    exact go_ireturn dL_toStand_18 rfl rfl (Nat.le_refl _) (Nat.le_refl _) ⟨by rw [q0]; rfl, fun _ => hJ_uJ_eq, KK.uJ, (Fv7.fw F).uJ⟩
  · rintro E g ⟨q, KK, F⟩
    rcases q with ⟨q0, rfl⟩ | ⟨q0, rfl⟩
    · refine gox_catch (k := 0) (nm := nNSE) (i := 4) (tgt := 13) (by decide) rfl (by decide) (by decide) clL_18 ca_nNSE ?_ rfl ?_ (Nat.le_of_ble_eq_true rfl) ?_
      · intro j z hj; exact absurd hj (Nat.not_lt_zero _)
      · refine Or.inl ⟨dL_toStand_13, fun x hx => ?_⟩
        subst hx
        refine go_iconst (v := 1) dL_toStand_15 rfl ?_
        exact go_ireturn dL_toStand_16 rfl rfl (Nat.le_refl _) (Nat.le_refl _) ⟨by rw [q0]; rfl, fun z => absurd (q0.symm.trans z) (by decide), KK, Fv7.fw F⟩
      · intro j v hj hv
        obtain rfl : j = 3 := by omega
        cases hv; rfl
    · exact absurd q0 ho
theorem hL_toSteal : CH mL_toSteal 4 := ⟨by decide, ⟨ch5_12 _ (List.mem_of_getElem? (i := 9) rfl), rfl⟩, iniL, by decide, by decide +kernel, by decide, ⟨ch5_12 _ (List.mem_of_getElem? (i := 8) rfl), rfl⟩⟩
theorem h_toSteal {l : Launch} {d : Nat} {h : Hp} {x1 x2 : Int32} {o : Sa} (hS : St h) (ho : o.1 ≠ 2) (hr : Run l d (1, 6) mX9_toSteal [.ref 0, .int x1, .int x2] h (CQ o h) (CX o nNSE nIAE h)) : Run l (d + 1) (1, 6) mL_toSteal [.ref 0, .int x1, .int x2, .ref 103] h (HQ o h) noX := by
  refine run_ofH (lv := [some (.ref 0), some (.int x1), some (.int x2), some (.ref 103), none]) rfl (by decide) rfl (Nat.le_of_ble_eq_true rfl) rfl ?_
  refine go_aloadn dL_toSteal_0 rfl ?_
  refine go_iconst (v := 0) dL_toSteal_1 rfl ?_
  refine go_aloadn dL_toSteal_2 rfl ?_
  refine go_iloadn dL_toSteal_3 rfl ?_
  refine go_iloadn dL_toSteal_4 rfl ?_
  refine go_callV_ (M' := mX9_toSteal) (as := [.int x1, .int x2]) dL_toSteal_5 lL_58 vX9_toSteal (show lay 0 = .inl 9 from rfl) (by decide) rfl (by rw [hS.1]; decide) hr rfl (Nat.le_of_ble_eq_true rfl) (by simp only [rmOf]; omega) (by simp only [rmOf]; omega) (Nat.le_of_ble_eq_true rfl) (Nat.le_of_ble_eq_true rfl) (fun _ => rfl) ?_ ?_
  · rintro v g ⟨⟨q0, rfl⟩, KK, F⟩
    refine go_i2l dL_toSteal_8 ?_
    refine go_last (n := 1) dL_toSteal_9 rfl (by rw [F.1, hS.1]; decide) (show ¬ ((0 : Int32) < 0 ∨ 1 ≤ Int32.toNatClampNeg 0) by decide +kernel) ?_
    refine go_goto dL_toSteal_10 rfl ?_
    refine go_iconst (v := 0) dL_toSteal_17 rfl ?_
    exact go_ireturn dL_toSteal_18 rfl rfl (Nat.le_refl _) (Nat.le_refl _) ⟨by rw [q0]; rfl, fun _ => hJ_uJ_eq, KK.uJ, (Fv7.fw F).uJ⟩
  · rintro E g ⟨q, KK, F⟩
    rcases q with ⟨q0, rfl⟩ | ⟨q0, rfl⟩
    · refine gox_catch (k := 0) (nm := nNSE) (i := 4) (tgt := 13) (by decide) rfl (by decide) (by decide) clL_18 ca_nNSE ?_ rfl ?_ (Nat.le_of_ble_eq_true rfl) ?_
      · intro j z hj; exact absurd hj (Nat.not_lt_zero _)
      · refine Or.inl ⟨dL_toSteal_13, fun x hx => ?_⟩
        subst hx
        refine go_iconst (v := 1) dL_toSteal_15 rfl ?_
        exact go_ireturn dL_toSteal_16 rfl rfl (Nat.le_refl _) (Nat.le_refl _) ⟨by rw [q0]; rfl, fun z => absurd (q0.symm.trans z) (by decide), KK, Fv7.fw F⟩
      · intro j v hj hv
        obtain rfl : j = 3 := by omega
        cases hv; rfl
    · exact absurd q0 ho
theorem hL_watch : CH mL_watch 3 := ⟨by decide, ⟨ch5_13 _ (List.mem_of_getElem? (i := 6) rfl), rfl⟩, iniL, by decide, by decide +kernel, by decide, ⟨ch5_13 _ (List.mem_of_getElem? (i := 5) rfl), rfl⟩⟩
theorem h_watch {l : Launch} {d : Nat} {h : Hp} {x1 : Int32} {o : Sa} (hS : St h) (ho : o.1 ≠ 2) (hr : Run l d (1, 6) mX9_watch [.ref 0, .int x1] h (CQ o h) (CX o nIAE nIAE h)) : Run l (d + 1) (1, 6) mL_watch [.ref 0, .int x1, .ref 103] h (HQ o h) noX := by
  refine run_ofH (lv := [some (.ref 0), some (.int x1), some (.ref 103), none]) rfl (by decide) rfl (Nat.le_of_ble_eq_true rfl) rfl ?_
  refine go_aloadn dL_watch_0 rfl ?_
  refine go_iconst (v := 0) dL_watch_1 rfl ?_
  refine go_aloadn dL_watch_2 rfl ?_
  refine go_iloadn dL_watch_3 rfl ?_
  refine go_callV_ (M' := mX9_watch) (as := [.int x1]) dL_watch_4 lL_61 vX9_watch (show lay 0 = .inl 9 from rfl) (by decide) rfl (by rw [hS.1]; decide) hr rfl (Nat.le_of_ble_eq_true rfl) (by simp only [rmOf]; omega) (by simp only [rmOf]; omega) (Nat.le_of_ble_eq_true rfl) (Nat.le_of_ble_eq_true rfl) (fun _ => rfl) ?_ ?_
  · rintro v g ⟨⟨q0, rfl⟩, KK, F⟩
    refine go_i2l dL_watch_7 ?_
    refine go_last (n := 1) dL_watch_8 rfl (by rw [F.1, hS.1]; decide) (show ¬ ((0 : Int32) < 0 ∨ 1 ≤ Int32.toNatClampNeg 0) by decide +kernel) ?_
    refine go_goto dL_watch_9 rfl ?_
    refine go_iconst (v := 0) dL_watch_15 rfl ?_
    exact go_ireturn dL_watch_16 rfl rfl (Nat.le_refl _) (Nat.le_refl _) ⟨by rw [q0]; rfl, fun _ => hJ_uJ_eq, KK.uJ, (Fv7.fw F).uJ⟩
  · rintro E g ⟨q, KK, F⟩
    rcases q with ⟨q0, rfl⟩ | ⟨q0, rfl⟩
    · refine gox_catch (k := 0) (nm := nIAE) (i := 3) (tgt := 12) (by decide) rfl (by decide) (by decide) clL_13 ca_nIAE ?_ rfl ?_ (Nat.le_of_ble_eq_true rfl) ?_
      · intro j z hj; exact absurd hj (Nat.not_lt_zero _)
      · refine Or.inr ⟨_, dL_watch_12, rfl, fun x hx => ?_⟩
        subst hx
        refine go_iconst (v := 1) dL_watch_13 rfl ?_
        exact go_ireturn dL_watch_14 rfl rfl (Nat.le_refl _) (Nat.le_refl _) ⟨by rw [q0]; rfl, fun z => absurd (q0.symm.trans z) (by decide), KK, Fv7.fw F⟩
      · intro j v hj hv
        obtain rfl : j = 2 := by omega
        cases hv; rfl
    · exact absurd q0 ho
theorem hL_least : CH mL_least 3 := ⟨by decide, ⟨ch5_14 _ (List.mem_of_getElem? (i := 10) rfl), rfl⟩, iniL, by decide, by decide +kernel, by decide, ⟨ch5_14 _ (List.mem_of_getElem? (i := 9) rfl), rfl⟩⟩
theorem h_least {l : Launch} {d : Nat} {h : Hp} {x1 : Int32} {o : Sa} (hS : St h) (ho : o.1 ≠ 2) (hr : Run l d (1, 6) mX9_least [.ref 0, .int x1] h (CQ o h) (CX o nNSE nIAE h)) : Run l (d + 1) (1, 6) mL_least [.ref 0, .int x1, .ref 103] h (HQ o h) noX := by
  refine run_ofH (lv := [some (.ref 0), some (.int x1), some (.ref 103), none]) rfl (by decide) rfl (Nat.le_of_ble_eq_true rfl) rfl ?_
  refine go_aloadn dL_least_0 rfl ?_
  refine go_iconst (v := 0) dL_least_1 rfl ?_
  refine go_aloadn dL_least_2 rfl ?_
  refine go_iloadn dL_least_3 rfl ?_
  refine go_callV_ (M' := mX9_least) (as := [.int x1]) dL_least_4 lL_64 vX9_least (show lay 0 = .inl 9 from rfl) (by decide) rfl (by rw [hS.1]; decide) hr rfl (Nat.le_of_ble_eq_true rfl) (by simp only [rmOf]; omega) (by simp only [rmOf]; omega) (Nat.le_of_ble_eq_true rfl) (Nat.le_of_ble_eq_true rfl) (fun _ => rfl) ?_ ?_
  · rintro v g ⟨⟨q0, rfl⟩, KK, F⟩
    refine go_i2l dL_least_7 ?_
    refine go_last (n := 1) dL_least_8 rfl (by rw [F.1, hS.1]; decide) (show ¬ ((0 : Int32) < 0 ∨ 1 ≤ Int32.toNatClampNeg 0) by decide +kernel) ?_
    refine go_goto dL_least_9 rfl ?_
    refine go_iconst (v := 0) dL_least_15 rfl ?_
    exact go_ireturn dL_least_16 rfl rfl (Nat.le_refl _) (Nat.le_refl _) ⟨by rw [q0]; rfl, fun _ => hJ_uJ_eq, KK.uJ, (Fv7.fw F).uJ⟩
  · rintro E g ⟨q, KK, F⟩
    rcases q with ⟨q0, rfl⟩ | ⟨q0, rfl⟩
    · refine gox_catch (k := 0) (nm := nNSE) (i := 3) (tgt := 12) (by decide) rfl (by decide) (by decide) clL_18 ca_nNSE ?_ rfl ?_ (Nat.le_of_ble_eq_true rfl) ?_
      · intro j z hj; exact absurd hj (Nat.not_lt_zero _)
      · refine Or.inr ⟨_, dL_least_12, rfl, fun x hx => ?_⟩
        subst hx
        refine go_iconst (v := 1) dL_least_13 rfl ?_
        exact go_ireturn dL_least_14 rfl rfl (Nat.le_refl _) (Nat.le_refl _) ⟨by rw [q0]; rfl, fun z => absurd (q0.symm.trans z) (by decide), KK, Fv7.fw F⟩
      · intro j v hj hv
        obtain rfl : j = 2 := by omega
        cases hv; rfl
    · exact absurd q0 ho
theorem hL_whose : CH mL_whose 3 := ⟨by decide, ⟨ch6_1 _ (List.mem_of_getElem? (i := 15) rfl), rfl⟩, iniL, by decide, by decide +kernel, by decide, ⟨ch6_1 _ (List.mem_of_getElem? (i := 14) rfl), rfl⟩⟩
theorem h_whose {l : Launch} {d : Nat} {h : Hp} {x1 : Int32} {o : Sa} (hS : St h) (ho : o.1 ≠ 2) (hr : Run l d (1, 6) mX9_whose [.ref 0, .int x1] h (CQ o h) (CX o nNSE nIAE h)) : Run l (d + 1) (1, 6) mL_whose [.ref 0, .int x1, .ref 103] h (HQ o h) noX := by
  refine run_ofH (lv := [some (.ref 0), some (.int x1), some (.ref 103), none]) rfl (by decide) rfl (Nat.le_of_ble_eq_true rfl) rfl ?_
  refine go_aloadn dL_whose_0 rfl ?_
  refine go_iconst (v := 0) dL_whose_1 rfl ?_
  refine go_aloadn dL_whose_2 rfl ?_
  refine go_iloadn dL_whose_3 rfl ?_
  refine go_callV_ (M' := mX9_whose) (as := [.int x1]) dL_whose_4 lL_67 vX9_whose (show lay 0 = .inl 9 from rfl) (by decide) rfl (by rw [hS.1]; decide) hr rfl (Nat.le_of_ble_eq_true rfl) (by simp only [rmOf]; omega) (by simp only [rmOf]; omega) (Nat.le_of_ble_eq_true rfl) (Nat.le_of_ble_eq_true rfl) (fun _ => rfl) ?_ ?_
  · rintro v g ⟨⟨q0, rfl⟩, KK, F⟩
    refine go_i2l dL_whose_7 ?_
    refine go_last (n := 1) dL_whose_8 rfl (by rw [F.1, hS.1]; decide) (show ¬ ((0 : Int32) < 0 ∨ 1 ≤ Int32.toNatClampNeg 0) by decide +kernel) ?_
    refine go_goto dL_whose_9 rfl ?_
    refine go_iconst (v := 0) dL_whose_15 rfl ?_
    exact go_ireturn dL_whose_16 rfl rfl (Nat.le_refl _) (Nat.le_refl _) ⟨by rw [q0]; rfl, fun _ => hJ_uJ_eq, KK.uJ, (Fv7.fw F).uJ⟩
  · rintro E g ⟨q, KK, F⟩
    rcases q with ⟨q0, rfl⟩ | ⟨q0, rfl⟩
    · refine gox_catch (k := 0) (nm := nNSE) (i := 3) (tgt := 12) (by decide) rfl (by decide) (by decide) clL_18 ca_nNSE ?_ rfl ?_ (Nat.le_of_ble_eq_true rfl) ?_
      · intro j z hj; exact absurd hj (Nat.not_lt_zero _)
      · refine Or.inr ⟨_, dL_whose_12, rfl, fun x hx => ?_⟩
        subst hx
        refine go_iconst (v := 1) dL_whose_13 rfl ?_
        exact go_ireturn dL_whose_14 rfl rfl (Nat.le_refl _) (Nat.le_refl _) ⟨by rw [q0]; rfl, fun z => absurd (q0.symm.trans z) (by decide), KK, Fv7.fw F⟩
      · intro j v hj hv
        obtain rfl : j = 2 := by omega
        cases hv; rfl
    · exact absurd q0 ho
theorem hL_note : CH mL_note 5 := ⟨by decide, ⟨ch6_2 _ (List.mem_of_getElem? (i := 7) rfl), rfl⟩, iniL, by decide, by decide +kernel, by decide, ⟨ch6_2 _ (List.mem_of_getElem? (i := 6) rfl), rfl⟩⟩
theorem h_note {l : Launch} {d : Nat} {h : Hp} {x1 x2 x3 : Int32} {o : Sa} (hS : St h) (ho : o.1 ≠ 2) (hr : Run l d (1, 6) mX9_note [.ref 0, .int x1, .int x2, .int x3] h (CQ o h) (CX o nNSE nIAE h)) : Run l (d + 1) (1, 6) mL_note [.ref 0, .int x1, .int x2, .int x3, .ref 103] h (HQ o h) noX := by
  refine run_ofH (lv := [some (.ref 0), some (.int x1), some (.int x2), some (.int x3), some (.ref 103), none]) rfl (by decide) rfl (Nat.le_of_ble_eq_true rfl) rfl ?_
  refine go_aload dL_note_0 rfl ?_
  refine go_iconst (v := 0) dL_note_2 rfl ?_
  refine go_aloadn dL_note_3 rfl ?_
  refine go_iloadn dL_note_4 rfl ?_
  refine go_iloadn dL_note_5 rfl ?_
  refine go_iloadn dL_note_6 rfl ?_
  refine go_callV_ (M' := mX9_note) (as := [.int x1, .int x2, .int x3]) dL_note_7 lL_70 vX9_note (show lay 0 = .inl 9 from rfl) (by decide) rfl (by rw [hS.1]; decide) hr rfl (Nat.le_of_ble_eq_true rfl) (by simp only [rmOf]; omega) (by simp only [rmOf]; omega) (Nat.le_of_ble_eq_true rfl) (Nat.le_of_ble_eq_true rfl) (fun _ => rfl) ?_ ?_
  · rintro v g ⟨⟨q0, rfl⟩, KK, F⟩
    refine go_i2l dL_note_10 ?_
    refine go_last (n := 1) dL_note_11 rfl (by rw [F.1, hS.1]; decide) (show ¬ ((0 : Int32) < 0 ∨ 1 ≤ Int32.toNatClampNeg 0) by decide +kernel) ?_
    refine go_goto dL_note_12 rfl ?_
    refine go_iconst (v := 0) dL_note_19 rfl ?_
    exact go_ireturn dL_note_20 rfl rfl (Nat.le_refl _) (Nat.le_refl _) ⟨by rw [q0]; rfl, fun _ => hJ_uJ_eq, KK.uJ, (Fv7.fw F).uJ⟩
  · rintro E g ⟨q, KK, F⟩
    rcases q with ⟨q0, rfl⟩ | ⟨q0, rfl⟩
    · refine gox_catch (k := 0) (nm := nNSE) (i := 5) (tgt := 15) (by decide) rfl (by decide) (by decide) clL_18 ca_nNSE ?_ rfl ?_ (Nat.le_of_ble_eq_true rfl) ?_
      · intro j z hj; exact absurd hj (Nat.not_lt_zero _)
      · refine Or.inl ⟨dL_note_15, fun x hx => ?_⟩
        subst hx
        refine go_iconst (v := 1) dL_note_17 rfl ?_
        exact go_ireturn dL_note_18 rfl rfl (Nat.le_refl _) (Nat.le_refl _) ⟨by rw [q0]; rfl, fun z => absurd (q0.symm.trans z) (by decide), KK, Fv7.fw F⟩
      · intro j v hj hv
        obtain rfl : j = 4 := by omega
        cases hv; rfl
    · exact absurd q0 ho
theorem hL_vain : CH mL_vain 3 := ⟨by decide, ⟨ch6_3 _ (List.mem_of_getElem? (i := 7) rfl), rfl⟩, iniL, by decide, by decide +kernel, by decide, ⟨ch6_3 _ (List.mem_of_getElem? (i := 6) rfl), rfl⟩⟩
theorem h_vain {l : Launch} {d : Nat} {h : Hp} {x1 : Int32} {o : Sa} (hS : St h) (ho : o.1 ≠ 2) (hr : Run l d (1, 6) mX9_vain [.ref 0, .int x1] h (CQ o h) (CX o nNSE nIAE h)) : Run l (d + 1) (1, 6) mL_vain [.ref 0, .int x1, .ref 103] h (HQ o h) noX := by
  refine run_ofH (lv := [some (.ref 0), some (.int x1), some (.ref 103), none]) rfl (by decide) rfl (Nat.le_of_ble_eq_true rfl) rfl ?_
  refine go_aloadn dL_vain_0 rfl ?_
  refine go_iconst (v := 0) dL_vain_1 rfl ?_
  refine go_aloadn dL_vain_2 rfl ?_
  refine go_iloadn dL_vain_3 rfl ?_
  refine go_callV_ (M' := mX9_vain) (as := [.int x1]) dL_vain_4 lL_74 vX9_vain (show lay 0 = .inl 9 from rfl) (by decide) rfl (by rw [hS.1]; decide) hr rfl (Nat.le_of_ble_eq_true rfl) (by simp only [rmOf]; omega) (by simp only [rmOf]; omega) (Nat.le_of_ble_eq_true rfl) (Nat.le_of_ble_eq_true rfl) (fun _ => rfl) ?_ ?_
  · rintro v g ⟨⟨q0, rfl⟩, KK, F⟩
    refine go_i2l dL_vain_7 ?_
    refine go_last (n := 1) dL_vain_8 rfl (by rw [F.1, hS.1]; decide) (show ¬ ((0 : Int32) < 0 ∨ 1 ≤ Int32.toNatClampNeg 0) by decide +kernel) ?_
    refine go_goto dL_vain_9 rfl ?_
    refine go_iconst (v := 0) dL_vain_15 rfl ?_
    exact go_ireturn dL_vain_16 rfl rfl (Nat.le_refl _) (Nat.le_refl _) ⟨by rw [q0]; rfl, fun _ => hJ_uJ_eq, KK.uJ, (Fv7.fw F).uJ⟩
  · rintro E g ⟨q, KK, F⟩
    rcases q with ⟨q0, rfl⟩ | ⟨q0, rfl⟩
    · refine gox_catch (k := 0) (nm := nNSE) (i := 3) (tgt := 12) (by decide) rfl (by decide) (by decide) clL_18 ca_nNSE ?_ rfl ?_ (Nat.le_of_ble_eq_true rfl) ?_
      · intro j z hj; exact absurd hj (Nat.not_lt_zero _)
      · refine Or.inr ⟨_, dL_vain_12, rfl, fun x hx => ?_⟩
        subst hx
        refine go_iconst (v := 1) dL_vain_13 rfl ?_
        exact go_ireturn dL_vain_14 rfl rfl (Nat.le_refl _) (Nat.le_refl _) ⟨by rw [q0]; rfl, fun z => absurd (q0.symm.trans z) (by decide), KK, Fv7.fw F⟩
      · intro j v hj hv
        obtain rfl : j = 2 := by omega
        cases hv; rfl
    · exact absurd q0 ho
theorem hL_ask : CH mL_ask 3 := ⟨by decide, ⟨ch6_5 _ (List.mem_of_getElem? (i := 7) rfl), rfl⟩, iniL, by decide, by decide +kernel, by decide, ⟨ch6_5 _ (List.mem_of_getElem? (i := 6) rfl), rfl⟩⟩
theorem h_ask {l : Launch} {d : Nat} {h : Hp} {x1 : Int32} {o : Sa} (hS : St h) (ho : o.1 ≠ 2) (hr : Run l d (1, 6) mX9_ask [.ref 0, .int x1] h (CQ o h) (CX o nNSE nIAE h)) : Run l (d + 1) (1, 6) mL_ask [.ref 0, .int x1, .ref 103] h (HQ o h) noX := by
  refine run_ofH (lv := [some (.ref 0), some (.int x1), some (.ref 103), none]) rfl (by decide) rfl (Nat.le_of_ble_eq_true rfl) rfl ?_
  refine go_aloadn dL_ask_0 rfl ?_
  refine go_iconst (v := 0) dL_ask_1 rfl ?_
  refine go_aloadn dL_ask_2 rfl ?_
  refine go_iloadn dL_ask_3 rfl ?_
  refine go_callV_ (M' := mX9_ask) (as := [.int x1]) dL_ask_4 lL_77 vX9_ask (show lay 0 = .inl 9 from rfl) (by decide) rfl (by rw [hS.1]; decide) hr rfl (Nat.le_of_ble_eq_true rfl) (by simp only [rmOf]; omega) (by simp only [rmOf]; omega) (Nat.le_of_ble_eq_true rfl) (Nat.le_of_ble_eq_true rfl) (fun _ => rfl) ?_ ?_
  · rintro v g ⟨⟨q0, rfl⟩, KK, F⟩
    refine go_i2l dL_ask_7 ?_
    refine go_last (n := 1) dL_ask_8 rfl (by rw [F.1, hS.1]; decide) (show ¬ ((0 : Int32) < 0 ∨ 1 ≤ Int32.toNatClampNeg 0) by decide +kernel) ?_
    refine go_goto dL_ask_9 rfl ?_
    refine go_iconst (v := 0) dL_ask_15 rfl ?_
    exact go_ireturn dL_ask_16 rfl rfl (Nat.le_refl _) (Nat.le_refl _) ⟨by rw [q0]; rfl, fun _ => hJ_uJ_eq, KK.uJ, (Fv7.fw F).uJ⟩
  · rintro E g ⟨q, KK, F⟩
    rcases q with ⟨q0, rfl⟩ | ⟨q0, rfl⟩
    · refine gox_catch (k := 0) (nm := nNSE) (i := 3) (tgt := 12) (by decide) rfl (by decide) (by decide) clL_18 ca_nNSE ?_ rfl ?_ (Nat.le_of_ble_eq_true rfl) ?_
      · intro j z hj; exact absurd hj (Nat.not_lt_zero _)
      · refine Or.inr ⟨_, dL_ask_12, rfl, fun x hx => ?_⟩
        subst hx
        refine go_iconst (v := 1) dL_ask_13 rfl ?_
        exact go_ireturn dL_ask_14 rfl rfl (Nat.le_refl _) (Nat.le_refl _) ⟨by rw [q0]; rfl, fun z => absurd (q0.symm.trans z) (by decide), KK, Fv7.fw F⟩
      · intro j v hj hv
        obtain rfl : j = 2 := by omega
        cases hv; rfl
    · exact absurd q0 ho
theorem hL_fog : CH mL_fog 5 := ⟨by decide, ⟨ch6_6 _ (List.mem_of_getElem? (i := 15) rfl), rfl⟩, iniL, by decide, by decide +kernel, by decide, ⟨ch6_6 _ (List.mem_of_getElem? (i := 14) rfl), rfl⟩⟩
theorem h_fog {l : Launch} {d : Nat} {h : Hp} {x1 x2 x3 : Int32} {o : Sa} (hS : St h) (hr : Run l d (1, 6) mX9_fog [.ref 0, .int x1, .int x2, .int x3] h (CQ o h) (CX o nNSE nIAE h)) : Run l (d + 1) (1, 6) mL_fog [.ref 0, .int x1, .int x2, .int x3, .ref 103] h (HQ o h) noX := by
  refine run_ofH (lv := [some (.ref 0), some (.int x1), some (.int x2), some (.int x3), some (.ref 103), none]) rfl (by decide) rfl (Nat.le_of_ble_eq_true rfl) rfl ?_
  refine go_aload dL_fog_0 rfl ?_
  refine go_iconst (v := 0) dL_fog_2 rfl ?_
  refine go_aloadn dL_fog_3 rfl ?_
  refine go_iloadn dL_fog_4 rfl ?_
  refine go_iloadn dL_fog_5 rfl ?_
  refine go_iloadn dL_fog_6 rfl ?_
  refine go_callV_ (M' := mX9_fog) (as := [.int x1, .int x2, .int x3]) dL_fog_7 lL_80 vX9_fog (show lay 0 = .inl 9 from rfl) (by decide) rfl (by rw [hS.1]; decide) hr rfl (Nat.le_of_ble_eq_true rfl) (by simp only [rmOf]; omega) (by simp only [rmOf]; omega) (Nat.le_of_ble_eq_true rfl) (Nat.le_of_ble_eq_true rfl) (fun _ => rfl) ?_ ?_
  · rintro v g ⟨⟨q0, rfl⟩, KK, F⟩
    refine go_i2l dL_fog_10 ?_
    refine go_last (n := 1) dL_fog_11 rfl (by rw [F.1, hS.1]; decide) (show ¬ ((0 : Int32) < 0 ∨ 1 ≤ Int32.toNatClampNeg 0) by decide +kernel) ?_
    refine go_goto dL_fog_12 rfl ?_
    refine go_iconst (v := 0) dL_fog_23 rfl ?_
    exact go_ireturn dL_fog_24 rfl rfl (Nat.le_refl _) (Nat.le_refl _) ⟨by rw [q0]; rfl, fun _ => hJ_uJ_eq, KK.uJ, (Fv7.fw F).uJ⟩
  · rintro E g ⟨q, KK, F⟩
    rcases q with ⟨q0, rfl⟩ | ⟨q0, rfl⟩
    · refine gox_catch (k := 0) (nm := nNSE) (i := 5) (tgt := 15) (by decide) rfl (by decide) (by decide) clL_18 ca_nNSE ?_ rfl ?_ (Nat.le_of_ble_eq_true rfl) ?_
      · intro j z hj; exact absurd hj (Nat.not_lt_zero _)
      · refine Or.inl ⟨dL_fog_15, fun x hx => ?_⟩
        subst hx
        refine go_iconst (v := 1) dL_fog_17 rfl ?_
        exact go_ireturn dL_fog_18 rfl rfl (Nat.le_refl _) (Nat.le_refl _) ⟨by rw [q0]; rfl, fun z => absurd (q0.symm.trans z) (by decide), KK, Fv7.fw F⟩
      · intro j v hj hv
        obtain rfl : j = 4 := by omega
        cases hv; rfl
    · refine gox_catch (k := 1) (nm := nIAE) (i := 5) (tgt := 19) (by decide) rfl (by decide) (by decide) clL_13 ca_nIAE ?_ rfl ?_ (Nat.le_of_ble_eq_true rfl) ?_
      · intro j z hj hz
        obtain rfl : j = 0 := by omega
        cases hz
        exact ⟨by decide, clL_18, rfl⟩
      · refine Or.inl ⟨dL_fog_19, fun x hx => ?_⟩
        subst hx
        refine go_iconst (v := 2) dL_fog_21 rfl ?_
        exact go_ireturn dL_fog_22 rfl rfl (Nat.le_refl _) (Nat.le_refl _) ⟨by rw [q0]; rfl, fun z => absurd (q0.symm.trans z) (by decide), KK, Fv7.fw F⟩
      · intro j v hj hv
        obtain rfl : j = 4 := by omega
        cases hv; rfl
theorem hL_game : CH mL_game 5 := ⟨by decide, ⟨ch6_7 _ (List.mem_of_getElem? (i := 10) rfl), rfl⟩, iniL, by decide, by decide +kernel, by decide, ⟨ch6_7 _ (List.mem_of_getElem? (i := 9) rfl), rfl⟩⟩
theorem h_game {l : Launch} {d : Nat} {h : Hp} {x1 x2 x3 : Int32} {o : Sa} (hS : St h) (hr : Run l d (1, 6) mX9_game [.ref 0, .int x1, .int x2, .int x3] h (CQ o h) (CX o nNSE nIAE h)) : Run l (d + 1) (1, 6) mL_game [.ref 0, .int x1, .int x2, .int x3, .ref 103] h (HQ o h) noX := by
  refine run_ofH (lv := [some (.ref 0), some (.int x1), some (.int x2), some (.int x3), some (.ref 103), none]) rfl (by decide) rfl (Nat.le_of_ble_eq_true rfl) rfl ?_
  refine go_aload dL_game_0 rfl ?_
  refine go_iconst (v := 0) dL_game_2 rfl ?_
  refine go_aloadn dL_game_3 rfl ?_
  refine go_iloadn dL_game_4 rfl ?_
  refine go_iloadn dL_game_5 rfl ?_
  refine go_iloadn dL_game_6 rfl ?_
  refine go_callV_ (M' := mX9_game) (as := [.int x1, .int x2, .int x3]) dL_game_7 lL_83 vX9_game (show lay 0 = .inl 9 from rfl) (by decide) rfl (by rw [hS.1]; decide) hr rfl (Nat.le_of_ble_eq_true rfl) (by simp only [rmOf]; omega) (by simp only [rmOf]; omega) (Nat.le_of_ble_eq_true rfl) (Nat.le_of_ble_eq_true rfl) (fun _ => rfl) ?_ ?_
  · rintro v g ⟨⟨q0, rfl⟩, KK, F⟩
    refine go_i2l dL_game_10 ?_
    refine go_last (n := 1) dL_game_11 rfl (by rw [F.1, hS.1]; decide) (show ¬ ((0 : Int32) < 0 ∨ 1 ≤ Int32.toNatClampNeg 0) by decide +kernel) ?_
    refine go_goto dL_game_12 rfl ?_
    refine go_iconst (v := 0) dL_game_23 rfl ?_
    exact go_ireturn dL_game_24 rfl rfl (Nat.le_refl _) (Nat.le_refl _) ⟨by rw [q0]; rfl, fun _ => hJ_uJ_eq, KK.uJ, (Fv7.fw F).uJ⟩
  · rintro E g ⟨q, KK, F⟩
    rcases q with ⟨q0, rfl⟩ | ⟨q0, rfl⟩
    · refine gox_catch (k := 0) (nm := nNSE) (i := 5) (tgt := 15) (by decide) rfl (by decide) (by decide) clL_18 ca_nNSE ?_ rfl ?_ (Nat.le_of_ble_eq_true rfl) ?_
      · intro j z hj; exact absurd hj (Nat.not_lt_zero _)
      · refine Or.inl ⟨dL_game_15, fun x hx => ?_⟩
        subst hx
        refine go_iconst (v := 1) dL_game_17 rfl ?_
        exact go_ireturn dL_game_18 rfl rfl (Nat.le_refl _) (Nat.le_refl _) ⟨by rw [q0]; rfl, fun z => absurd (q0.symm.trans z) (by decide), KK, Fv7.fw F⟩
      · intro j v hj hv
        obtain rfl : j = 4 := by omega
        cases hv; rfl
    · refine gox_catch (k := 1) (nm := nIAE) (i := 5) (tgt := 19) (by decide) rfl (by decide) (by decide) clL_13 ca_nIAE ?_ rfl ?_ (Nat.le_of_ble_eq_true rfl) ?_
      · intro j z hj hz
        obtain rfl : j = 0 := by omega
        cases hz
        exact ⟨by decide, clL_18, rfl⟩
      · refine Or.inl ⟨dL_game_19, fun x hx => ?_⟩
        subst hx
        refine go_iconst (v := 2) dL_game_21 rfl ?_
        exact go_ireturn dL_game_22 rfl rfl (Nat.le_refl _) (Nat.le_refl _) ⟨by rw [q0]; rfl, fun z => absurd (q0.symm.trans z) (by decide), KK, Fv7.fw F⟩
      · intro j v hj hv
        obtain rfl : j = 4 := by omega
        cases hv; rfl
theorem hL_years : CH mL_years 5 := ⟨by decide, ⟨ch6_9 _ (List.mem_of_getElem? (i := 8) rfl), rfl⟩, iniL, by decide, by decide +kernel, by decide, ⟨ch6_9 _ (List.mem_of_getElem? (i := 7) rfl), rfl⟩⟩
theorem h_years {l : Launch} {d : Nat} {h : Hp} {x1 x2 x3 : Int32} {o : Sa} (hS : St h) (hr : Run l d (1, 6) mX9_years [.ref 0, .int x1, .int x2, .int x3] h (CQ o h) (CX o nNSE nIAE h)) : Run l (d + 1) (1, 6) mL_years [.ref 0, .int x1, .int x2, .int x3, .ref 103] h (HQ o h) noX := by
  refine run_ofH (lv := [some (.ref 0), some (.int x1), some (.int x2), some (.int x3), some (.ref 103), none]) rfl (by decide) rfl (Nat.le_of_ble_eq_true rfl) rfl ?_
  refine go_aload dL_years_0 rfl ?_
  refine go_iconst (v := 0) dL_years_2 rfl ?_
  refine go_aloadn dL_years_3 rfl ?_
  refine go_iloadn dL_years_4 rfl ?_
  refine go_iloadn dL_years_5 rfl ?_
  refine go_iloadn dL_years_6 rfl ?_
  refine go_callV_ (M' := mX9_years) (as := [.int x1, .int x2, .int x3]) dL_years_7 lL_86 vX9_years (show lay 0 = .inl 9 from rfl) (by decide) rfl (by rw [hS.1]; decide) hr rfl (Nat.le_of_ble_eq_true rfl) (by simp only [rmOf]; omega) (by simp only [rmOf]; omega) (Nat.le_of_ble_eq_true rfl) (Nat.le_of_ble_eq_true rfl) (fun _ => rfl) ?_ ?_
  · rintro v g ⟨⟨q0, rfl⟩, KK, F⟩
    refine go_i2l dL_years_10 ?_
    refine go_last (n := 1) dL_years_11 rfl (by rw [F.1, hS.1]; decide) (show ¬ ((0 : Int32) < 0 ∨ 1 ≤ Int32.toNatClampNeg 0) by decide +kernel) ?_
    refine go_goto dL_years_12 rfl ?_
    refine go_iconst (v := 0) dL_years_23 rfl ?_
    exact go_ireturn dL_years_24 rfl rfl (Nat.le_refl _) (Nat.le_refl _) ⟨by rw [q0]; rfl, fun _ => hJ_uJ_eq, KK.uJ, (Fv7.fw F).uJ⟩
  · rintro E g ⟨q, KK, F⟩
    rcases q with ⟨q0, rfl⟩ | ⟨q0, rfl⟩
    · refine gox_catch (k := 0) (nm := nNSE) (i := 5) (tgt := 15) (by decide) rfl (by decide) (by decide) clL_18 ca_nNSE ?_ rfl ?_ (Nat.le_of_ble_eq_true rfl) ?_
      · intro j z hj; exact absurd hj (Nat.not_lt_zero _)
      · refine Or.inl ⟨dL_years_15, fun x hx => ?_⟩
        subst hx
        refine go_iconst (v := 1) dL_years_17 rfl ?_
        exact go_ireturn dL_years_18 rfl rfl (Nat.le_refl _) (Nat.le_refl _) ⟨by rw [q0]; rfl, fun z => absurd (q0.symm.trans z) (by decide), KK, Fv7.fw F⟩
      · intro j v hj hv
        obtain rfl : j = 4 := by omega
        cases hv; rfl
    · refine gox_catch (k := 1) (nm := nIAE) (i := 5) (tgt := 19) (by decide) rfl (by decide) (by decide) clL_13 ca_nIAE ?_ rfl ?_ (Nat.le_of_ble_eq_true rfl) ?_
      · intro j z hj hz
        obtain rfl : j = 0 := by omega
        cases hz
        exact ⟨by decide, clL_18, rfl⟩
      · refine Or.inl ⟨dL_years_19, fun x hx => ?_⟩
        subst hx
        refine go_iconst (v := 2) dL_years_21 rfl ?_
        exact go_ireturn dL_years_22 rfl rfl (Nat.le_refl _) (Nat.le_refl _) ⟨by rw [q0]; rfl, fun z => absurd (q0.symm.trans z) (by decide), KK, Fv7.fw F⟩
      · intro j v hj hv
        obtain rfl : j = 4 := by omega
        cases hv; rfl
theorem hL_meet : CH mL_meet 4 := ⟨by decide, ⟨ch6_10 _ (List.mem_of_getElem? (i := 13) rfl), rfl⟩, iniL, by decide, by decide +kernel, by decide, ⟨ch6_10 _ (List.mem_of_getElem? (i := 12) rfl), rfl⟩⟩
theorem h_meet {l : Launch} {d : Nat} {h : Hp} {x1 x2 : Int32} {o : Sa} (hS : St h) (ho : o.1 ≠ 2) (hr : Run l d (1, 6) mX9_meet [.ref 0, .int x1, .int x2] h (CQ o h) (CX o nNSE nIAE h)) : Run l (d + 1) (1, 6) mL_meet [.ref 0, .int x1, .int x2, .ref 103] h (HQ o h) noX := by
  refine run_ofH (lv := [some (.ref 0), some (.int x1), some (.int x2), some (.ref 103), none]) rfl (by decide) rfl (Nat.le_of_ble_eq_true rfl) rfl ?_
  refine go_aloadn dL_meet_0 rfl ?_
  refine go_iconst (v := 0) dL_meet_1 rfl ?_
  refine go_aloadn dL_meet_2 rfl ?_
  refine go_iloadn dL_meet_3 rfl ?_
  refine go_iloadn dL_meet_4 rfl ?_
  refine go_callV_ (M' := mX9_meet) (as := [.int x1, .int x2]) dL_meet_5 lL_89 vX9_meet (show lay 0 = .inl 9 from rfl) (by decide) rfl (by rw [hS.1]; decide) hr rfl (Nat.le_of_ble_eq_true rfl) (by simp only [rmOf]; omega) (by simp only [rmOf]; omega) (Nat.le_of_ble_eq_true rfl) (Nat.le_of_ble_eq_true rfl) (fun _ => rfl) ?_ ?_
  · rintro v g ⟨⟨q0, rfl⟩, KK, F⟩
    refine go_i2l dL_meet_8 ?_
    refine go_last (n := 1) dL_meet_9 rfl (by rw [F.1, hS.1]; decide) (show ¬ ((0 : Int32) < 0 ∨ 1 ≤ Int32.toNatClampNeg 0) by decide +kernel) ?_
    refine go_goto dL_meet_10 rfl ?_
    refine go_iconst (v := 0) dL_meet_17 rfl ?_
    exact go_ireturn dL_meet_18 rfl rfl (Nat.le_refl _) (Nat.le_refl _) ⟨by rw [q0]; rfl, fun _ => hJ_uJ_eq, KK.uJ, (Fv7.fw F).uJ⟩
  · rintro E g ⟨q, KK, F⟩
    rcases q with ⟨q0, rfl⟩ | ⟨q0, rfl⟩
    · refine gox_catch (k := 0) (nm := nNSE) (i := 4) (tgt := 13) (by decide) rfl (by decide) (by decide) clL_18 ca_nNSE ?_ rfl ?_ (Nat.le_of_ble_eq_true rfl) ?_
      · intro j z hj; exact absurd hj (Nat.not_lt_zero _)
      · refine Or.inl ⟨dL_meet_13, fun x hx => ?_⟩
        subst hx
        refine go_iconst (v := 1) dL_meet_15 rfl ?_
        exact go_ireturn dL_meet_16 rfl rfl (Nat.le_refl _) (Nat.le_refl _) ⟨by rw [q0]; rfl, fun z => absurd (q0.symm.trans z) (by decide), KK, Fv7.fw F⟩
      · intro j v hj hv
        obtain rfl : j = 3 := by omega
        cases hv; rfl
    · exact absurd q0 ho
theorem hL_faced : CH mL_faced 3 := ⟨by decide, ⟨ch6_11 _ (List.mem_of_getElem? (i := 8) rfl), rfl⟩, iniL, by decide, by decide +kernel, by decide, ⟨ch6_11 _ (List.mem_of_getElem? (i := 7) rfl), rfl⟩⟩
theorem h_faced {l : Launch} {d : Nat} {h : Hp} {x1 : Int32} {o : Sa} (hS : St h) (ho : o.1 ≠ 2) (hr : Run l d (1, 6) mX9_faced [.ref 0, .int x1] h (CQ o h) (CX o nNSE nIAE h)) : Run l (d + 1) (1, 6) mL_faced [.ref 0, .int x1, .ref 103] h (HQ o h) noX := by
  refine run_ofH (lv := [some (.ref 0), some (.int x1), some (.ref 103), none]) rfl (by decide) rfl (Nat.le_of_ble_eq_true rfl) rfl ?_
  refine go_aloadn dL_faced_0 rfl ?_
  refine go_iconst (v := 0) dL_faced_1 rfl ?_
  refine go_aloadn dL_faced_2 rfl ?_
  refine go_iloadn dL_faced_3 rfl ?_
  refine go_callV_ (M' := mX9_faced) (as := [.int x1]) dL_faced_4 lL_92 vX9_faced (show lay 0 = .inl 9 from rfl) (by decide) rfl (by rw [hS.1]; decide) hr rfl (Nat.le_of_ble_eq_true rfl) (by simp only [rmOf]; omega) (by simp only [rmOf]; omega) (Nat.le_of_ble_eq_true rfl) (Nat.le_of_ble_eq_true rfl) (fun _ => rfl) ?_ ?_
  · rintro v g ⟨⟨q0, rfl⟩, KK, F⟩
    refine go_i2l dL_faced_7 ?_
    refine go_last (n := 1) dL_faced_8 rfl (by rw [F.1, hS.1]; decide) (show ¬ ((0 : Int32) < 0 ∨ 1 ≤ Int32.toNatClampNeg 0) by decide +kernel) ?_
    refine go_goto dL_faced_9 rfl ?_
    refine go_iconst (v := 0) dL_faced_15 rfl ?_
    exact go_ireturn dL_faced_16 rfl rfl (Nat.le_refl _) (Nat.le_refl _) ⟨by rw [q0]; rfl, fun _ => hJ_uJ_eq, KK.uJ, (Fv7.fw F).uJ⟩
  · rintro E g ⟨q, KK, F⟩
    rcases q with ⟨q0, rfl⟩ | ⟨q0, rfl⟩
    · refine gox_catch (k := 0) (nm := nNSE) (i := 3) (tgt := 12) (by decide) rfl (by decide) (by decide) clL_18 ca_nNSE ?_ rfl ?_ (Nat.le_of_ble_eq_true rfl) ?_
      · intro j z hj; exact absurd hj (Nat.not_lt_zero _)
      · refine Or.inr ⟨_, dL_faced_12, rfl, fun x hx => ?_⟩
        subst hx
        refine go_iconst (v := 1) dL_faced_13 rfl ?_
        exact go_ireturn dL_faced_14 rfl rfl (Nat.le_refl _) (Nat.le_refl _) ⟨by rw [q0]; rfl, fun z => absurd (q0.symm.trans z) (by decide), KK, Fv7.fw F⟩
      · intro j v hj hv
        obtain rfl : j = 2 := by omega
        cases hv; rfl
    · exact absurd q0 ho
theorem hL_walks : CH mL_walks 4 := ⟨by decide, ⟨ch6_11 _ (List.mem_of_getElem? (i := 15) rfl), rfl⟩, iniL, by decide, by decide +kernel, by decide, ⟨ch6_11 _ (List.mem_of_getElem? (i := 14) rfl), rfl⟩⟩
theorem h_walks {l : Launch} {d : Nat} {h : Hp} {x1 x2 : Int32} {o : Sa} (hS : St h) (hr : Run l d (1, 6) mX9_walks [.ref 0, .int x1, .int x2] h (CQ o h) (CX o nNSE nIAE h)) : Run l (d + 1) (1, 6) mL_walks [.ref 0, .int x1, .int x2, .ref 103] h (HQ o h) noX := by
  refine run_ofH (lv := [some (.ref 0), some (.int x1), some (.int x2), some (.ref 103), none]) rfl (by decide) rfl (Nat.le_of_ble_eq_true rfl) rfl ?_
  refine go_aloadn dL_walks_0 rfl ?_
  refine go_iconst (v := 0) dL_walks_1 rfl ?_
  refine go_aloadn dL_walks_2 rfl ?_
  refine go_iloadn dL_walks_3 rfl ?_
  refine go_iloadn dL_walks_4 rfl ?_
  refine go_callV_ (M' := mX9_walks) (as := [.int x1, .int x2]) dL_walks_5 lL_95 vX9_walks (show lay 0 = .inl 9 from rfl) (by decide) rfl (by rw [hS.1]; decide) hr rfl (Nat.le_of_ble_eq_true rfl) (by simp only [rmOf]; omega) (by simp only [rmOf]; omega) (Nat.le_of_ble_eq_true rfl) (Nat.le_of_ble_eq_true rfl) (fun _ => rfl) ?_ ?_
  · rintro v g ⟨⟨q0, rfl⟩, KK, F⟩
    refine go_i2l dL_walks_8 ?_
    refine go_last (n := 1) dL_walks_9 rfl (by rw [F.1, hS.1]; decide) (show ¬ ((0 : Int32) < 0 ∨ 1 ≤ Int32.toNatClampNeg 0) by decide +kernel) ?_
    refine go_goto dL_walks_10 rfl ?_
    refine go_iconst (v := 0) dL_walks_21 rfl ?_
    exact go_ireturn dL_walks_22 rfl rfl (Nat.le_refl _) (Nat.le_refl _) ⟨by rw [q0]; rfl, fun _ => hJ_uJ_eq, KK.uJ, (Fv7.fw F).uJ⟩
  · rintro E g ⟨q, KK, F⟩
    rcases q with ⟨q0, rfl⟩ | ⟨q0, rfl⟩
    · refine gox_catch (k := 0) (nm := nNSE) (i := 4) (tgt := 13) (by decide) rfl (by decide) (by decide) clL_18 ca_nNSE ?_ rfl ?_ (Nat.le_of_ble_eq_true rfl) ?_
      · intro j z hj; exact absurd hj (Nat.not_lt_zero _)
      · refine Or.inl ⟨dL_walks_13, fun x hx => ?_⟩
        subst hx
        refine go_iconst (v := 1) dL_walks_15 rfl ?_
        exact go_ireturn dL_walks_16 rfl rfl (Nat.le_refl _) (Nat.le_refl _) ⟨by rw [q0]; rfl, fun z => absurd (q0.symm.trans z) (by decide), KK, Fv7.fw F⟩
      · intro j v hj hv
        obtain rfl : j = 3 := by omega
        cases hv; rfl
    · refine gox_catch (k := 1) (nm := nIAE) (i := 4) (tgt := 17) (by decide) rfl (by decide) (by decide) clL_13 ca_nIAE ?_ rfl ?_ (Nat.le_of_ble_eq_true rfl) ?_
      · intro j z hj hz
        obtain rfl : j = 0 := by omega
        cases hz
        exact ⟨by decide, clL_18, rfl⟩
      · refine Or.inl ⟨dL_walks_17, fun x hx => ?_⟩
        subst hx
        refine go_iconst (v := 2) dL_walks_19 rfl ?_
        exact go_ireturn dL_walks_20 rfl rfl (Nat.le_refl _) (Nat.le_refl _) ⟨by rw [q0]; rfl, fun z => absurd (q0.symm.trans z) (by decide), KK, Fv7.fw F⟩
      · intro j v hj hv
        obtain rfl : j = 3 := by omega
        cases hv; rfl
theorem hL_shamed : CH mL_shamed 4 := ⟨by decide, ⟨ch6_13 _ (List.mem_of_getElem? (i := 5) rfl), rfl⟩, iniL, by decide, by decide +kernel, by decide, ⟨ch6_13 _ (List.mem_of_getElem? (i := 4) rfl), rfl⟩⟩
theorem h_shamed {l : Launch} {d : Nat} {h : Hp} {x1 x2 : Int32} {o : Sa} (hS : St h) (hr : Run l d (1, 6) mX9_shamed [.ref 0, .int x1, .int x2] h (CQ o h) (CX o nNSE nIAE h)) : Run l (d + 1) (1, 6) mL_shamed [.ref 0, .int x1, .int x2, .ref 103] h (HQ o h) noX := by
  refine run_ofH (lv := [some (.ref 0), some (.int x1), some (.int x2), some (.ref 103), none]) rfl (by decide) rfl (Nat.le_of_ble_eq_true rfl) rfl ?_
  refine go_aloadn dL_shamed_0 rfl ?_
  refine go_iconst (v := 0) dL_shamed_1 rfl ?_
  refine go_aloadn dL_shamed_2 rfl ?_
  refine go_iloadn dL_shamed_3 rfl ?_
  refine go_iloadn dL_shamed_4 rfl ?_
  refine go_callV_ (M' := mX9_shamed) (as := [.int x1, .int x2]) dL_shamed_5 lL_98 vX9_shamed (show lay 0 = .inl 9 from rfl) (by decide) rfl (by rw [hS.1]; decide) hr rfl (Nat.le_of_ble_eq_true rfl) (by simp only [rmOf]; omega) (by simp only [rmOf]; omega) (Nat.le_of_ble_eq_true rfl) (Nat.le_of_ble_eq_true rfl) (fun _ => rfl) ?_ ?_
  · rintro v g ⟨⟨q0, rfl⟩, KK, F⟩
    refine go_i2l dL_shamed_8 ?_
    refine go_last (n := 1) dL_shamed_9 rfl (by rw [F.1, hS.1]; decide) (show ¬ ((0 : Int32) < 0 ∨ 1 ≤ Int32.toNatClampNeg 0) by decide +kernel) ?_
    refine go_goto dL_shamed_10 rfl ?_
    refine go_iconst (v := 0) dL_shamed_21 rfl ?_
    exact go_ireturn dL_shamed_22 rfl rfl (Nat.le_refl _) (Nat.le_refl _) ⟨by rw [q0]; rfl, fun _ => hJ_uJ_eq, KK.uJ, (Fv7.fw F).uJ⟩
  · rintro E g ⟨q, KK, F⟩
    rcases q with ⟨q0, rfl⟩ | ⟨q0, rfl⟩
    · refine gox_catch (k := 0) (nm := nNSE) (i := 4) (tgt := 13) (by decide) rfl (by decide) (by decide) clL_18 ca_nNSE ?_ rfl ?_ (Nat.le_of_ble_eq_true rfl) ?_
      · intro j z hj; exact absurd hj (Nat.not_lt_zero _)
      · refine Or.inl ⟨dL_shamed_13, fun x hx => ?_⟩
        subst hx
        refine go_iconst (v := 1) dL_shamed_15 rfl ?_
        exact go_ireturn dL_shamed_16 rfl rfl (Nat.le_refl _) (Nat.le_refl _) ⟨by rw [q0]; rfl, fun z => absurd (q0.symm.trans z) (by decide), KK, Fv7.fw F⟩
      · intro j v hj hv
        obtain rfl : j = 3 := by omega
        cases hv; rfl
    · refine gox_catch (k := 1) (nm := nIAE) (i := 4) (tgt := 17) (by decide) rfl (by decide) (by decide) clL_13 ca_nIAE ?_ rfl ?_ (Nat.le_of_ble_eq_true rfl) ?_
      · intro j z hj hz
        obtain rfl : j = 0 := by omega
        cases hz
        exact ⟨by decide, clL_18, rfl⟩
      · refine Or.inl ⟨dL_shamed_17, fun x hx => ?_⟩
        subst hx
        refine go_iconst (v := 2) dL_shamed_19 rfl ?_
        exact go_ireturn dL_shamed_20 rfl rfl (Nat.le_refl _) (Nat.le_refl _) ⟨by rw [q0]; rfl, fun z => absurd (q0.symm.trans z) (by decide), KK, Fv7.fw F⟩
      · intro j v hj hv
        obtain rfl : j = 3 := by omega
        cases hv; rfl
theorem hL_has : CH mL_has 4 := ⟨by decide, ⟨ch6_14 _ (List.mem_of_getElem? (i := 0) rfl), rfl⟩, iniL, by decide, by decide +kernel, by decide, ⟨ch6_13 _ (List.mem_of_getElem? (i := 15) rfl), rfl⟩⟩
theorem h_has {l : Launch} {d : Nat} {h : Hp} {x1 x2 : Int32} {o : Sa} (hS : St h) (hr : Run l d (1, 6) mX9_has [.ref 0, .int x1, .int x2] h (CQ o h) (CX o nNSE nIAE h)) : Run l (d + 1) (1, 6) mL_has [.ref 0, .int x1, .int x2, .ref 103] h (HQ o h) noX := by
  refine run_ofH (lv := [some (.ref 0), some (.int x1), some (.int x2), some (.ref 103), none]) rfl (by decide) rfl (Nat.le_of_ble_eq_true rfl) rfl ?_
  refine go_aloadn dL_has_0 rfl ?_
  refine go_iconst (v := 0) dL_has_1 rfl ?_
  refine go_aloadn dL_has_2 rfl ?_
  refine go_iloadn dL_has_3 rfl ?_
  refine go_iloadn dL_has_4 rfl ?_
  refine go_callV_ (M' := mX9_has) (as := [.int x1, .int x2]) dL_has_5 lL_101 vX9_has (show lay 0 = .inl 9 from rfl) (by decide) rfl (by rw [hS.1]; decide) hr rfl (Nat.le_of_ble_eq_true rfl) (by simp only [rmOf]; omega) (by simp only [rmOf]; omega) (Nat.le_of_ble_eq_true rfl) (Nat.le_of_ble_eq_true rfl) (fun _ => rfl) ?_ ?_
  · rintro v g ⟨⟨q0, rfl⟩, KK, F⟩
    refine go_i2l dL_has_8 ?_
    refine go_last (n := 1) dL_has_9 rfl (by rw [F.1, hS.1]; decide) (show ¬ ((0 : Int32) < 0 ∨ 1 ≤ Int32.toNatClampNeg 0) by decide +kernel) ?_
    refine go_goto dL_has_10 rfl ?_
    refine go_iconst (v := 0) dL_has_21 rfl ?_
    exact go_ireturn dL_has_22 rfl rfl (Nat.le_refl _) (Nat.le_refl _) ⟨by rw [q0]; rfl, fun _ => hJ_uJ_eq, KK.uJ, (Fv7.fw F).uJ⟩
  · rintro E g ⟨q, KK, F⟩
    rcases q with ⟨q0, rfl⟩ | ⟨q0, rfl⟩
    · refine gox_catch (k := 0) (nm := nNSE) (i := 4) (tgt := 13) (by decide) rfl (by decide) (by decide) clL_18 ca_nNSE ?_ rfl ?_ (Nat.le_of_ble_eq_true rfl) ?_
      · intro j z hj; exact absurd hj (Nat.not_lt_zero _)
      · refine Or.inl ⟨dL_has_13, fun x hx => ?_⟩
        subst hx
        refine go_iconst (v := 1) dL_has_15 rfl ?_
        exact go_ireturn dL_has_16 rfl rfl (Nat.le_refl _) (Nat.le_refl _) ⟨by rw [q0]; rfl, fun z => absurd (q0.symm.trans z) (by decide), KK, Fv7.fw F⟩
      · intro j v hj hv
        obtain rfl : j = 3 := by omega
        cases hv; rfl
    · refine gox_catch (k := 1) (nm := nIAE) (i := 4) (tgt := 17) (by decide) rfl (by decide) (by decide) clL_13 ca_nIAE ?_ rfl ?_ (Nat.le_of_ble_eq_true rfl) ?_
      · intro j z hj hz
        obtain rfl : j = 0 := by omega
        cases hz
        exact ⟨by decide, clL_18, rfl⟩
      · refine Or.inl ⟨dL_has_17, fun x hx => ?_⟩
        subst hx
        refine go_iconst (v := 2) dL_has_19 rfl ?_
        exact go_ireturn dL_has_20 rfl rfl (Nat.le_refl _) (Nat.le_refl _) ⟨by rw [q0]; rfl, fun z => absurd (q0.symm.trans z) (by decide), KK, Fv7.fw F⟩
      · intro j v hj hv
        obtain rfl : j = 3 := by omega
        cases hv; rfl
theorem hL_takes : CH mL_takes 4 := ⟨by decide, ⟨ch6_14 _ (List.mem_of_getElem? (i := 8) rfl), rfl⟩, iniL, by decide, by decide +kernel, by decide, ⟨ch6_14 _ (List.mem_of_getElem? (i := 7) rfl), rfl⟩⟩
theorem h_takes {l : Launch} {d : Nat} {h : Hp} {x1 x2 : Int32} {o : Sa} (hS : St h) (ho : o.1 ≠ 2) (hr : Run l d (1, 6) mX9_takes [.ref 0, .int x1, .int x2] h (CQ o h) (CX o nNSE nIAE h)) : Run l (d + 1) (1, 6) mL_takes [.ref 0, .int x1, .int x2, .ref 103] h (HQ o h) noX := by
  refine run_ofH (lv := [some (.ref 0), some (.int x1), some (.int x2), some (.ref 103), none]) rfl (by decide) rfl (Nat.le_of_ble_eq_true rfl) rfl ?_
  refine go_aloadn dL_takes_0 rfl ?_
  refine go_iconst (v := 0) dL_takes_1 rfl ?_
  refine go_aloadn dL_takes_2 rfl ?_
  refine go_iloadn dL_takes_3 rfl ?_
  refine go_iloadn dL_takes_4 rfl ?_
  refine go_callV_ (M' := mX9_takes) (as := [.int x1, .int x2]) dL_takes_5 lL_104 vX9_takes (show lay 0 = .inl 9 from rfl) (by decide) rfl (by rw [hS.1]; decide) hr rfl (Nat.le_of_ble_eq_true rfl) (by simp only [rmOf]; omega) (by simp only [rmOf]; omega) (Nat.le_of_ble_eq_true rfl) (Nat.le_of_ble_eq_true rfl) (fun _ => rfl) ?_ ?_
  · rintro v g ⟨⟨q0, rfl⟩, KK, F⟩
    refine go_i2l dL_takes_8 ?_
    refine go_last (n := 1) dL_takes_9 rfl (by rw [F.1, hS.1]; decide) (show ¬ ((0 : Int32) < 0 ∨ 1 ≤ Int32.toNatClampNeg 0) by decide +kernel) ?_
    refine go_goto dL_takes_10 rfl ?_
    refine go_iconst (v := 0) dL_takes_17 rfl ?_
    exact go_ireturn dL_takes_18 rfl rfl (Nat.le_refl _) (Nat.le_refl _) ⟨by rw [q0]; rfl, fun _ => hJ_uJ_eq, KK.uJ, (Fv7.fw F).uJ⟩
  · rintro E g ⟨q, KK, F⟩
    rcases q with ⟨q0, rfl⟩ | ⟨q0, rfl⟩
    · refine gox_catch (k := 0) (nm := nNSE) (i := 4) (tgt := 13) (by decide) rfl (by decide) (by decide) clL_18 ca_nNSE ?_ rfl ?_ (Nat.le_of_ble_eq_true rfl) ?_
      · intro j z hj; exact absurd hj (Nat.not_lt_zero _)
      · refine Or.inl ⟨dL_takes_13, fun x hx => ?_⟩
        subst hx
        refine go_iconst (v := 1) dL_takes_15 rfl ?_
        exact go_ireturn dL_takes_16 rfl rfl (Nat.le_refl _) (Nat.le_refl _) ⟨by rw [q0]; rfl, fun z => absurd (q0.symm.trans z) (by decide), KK, Fv7.fw F⟩
      · intro j v hj hv
        obtain rfl : j = 3 := by omega
        cases hv; rfl
    · exact absurd q0 ho
theorem hL_quiet : CH mL_quiet 3 := ⟨by decide, ⟨ch6_14 _ (List.mem_of_getElem? (i := 15) rfl), rfl⟩, iniL, by decide, by decide +kernel, by decide, ⟨ch6_14 _ (List.mem_of_getElem? (i := 14) rfl), rfl⟩⟩
theorem h_quiet {l : Launch} {d : Nat} {h : Hp} {x1 : Int32} {o : Sa} (hS : St h) (ho : o.1 ≠ 2) (hr : Run l d (1, 6) mX9_quiet [.ref 0, .int x1] h (CQ o h) (CX o nIAE nIAE h)) : Run l (d + 1) (1, 6) mL_quiet [.ref 0, .int x1, .ref 103] h (HQ o h) noX := by
  refine run_ofH (lv := [some (.ref 0), some (.int x1), some (.ref 103), none]) rfl (by decide) rfl (Nat.le_of_ble_eq_true rfl) rfl ?_
  refine go_aloadn dL_quiet_0 rfl ?_
  refine go_iconst (v := 0) dL_quiet_1 rfl ?_
  refine go_aloadn dL_quiet_2 rfl ?_
  refine go_iloadn dL_quiet_3 rfl ?_
  refine go_callV_ (M' := mX9_quiet) (as := [.int x1]) dL_quiet_4 lL_107 vX9_quiet (show lay 0 = .inl 9 from rfl) (by decide) rfl (by rw [hS.1]; decide) hr rfl (Nat.le_of_ble_eq_true rfl) (by simp only [rmOf]; omega) (by simp only [rmOf]; omega) (Nat.le_of_ble_eq_true rfl) (Nat.le_of_ble_eq_true rfl) (fun _ => rfl) ?_ ?_
  · rintro v g ⟨⟨q0, rfl⟩, KK, F⟩
    refine go_i2l dL_quiet_7 ?_
    refine go_last (n := 1) dL_quiet_8 rfl (by rw [F.1, hS.1]; decide) (show ¬ ((0 : Int32) < 0 ∨ 1 ≤ Int32.toNatClampNeg 0) by decide +kernel) ?_
    refine go_goto dL_quiet_9 rfl ?_
    refine go_iconst (v := 0) dL_quiet_15 rfl ?_
    exact go_ireturn dL_quiet_16 rfl rfl (Nat.le_refl _) (Nat.le_refl _) ⟨by rw [q0]; rfl, fun _ => hJ_uJ_eq, KK.uJ, (Fv7.fw F).uJ⟩
  · rintro E g ⟨q, KK, F⟩
    rcases q with ⟨q0, rfl⟩ | ⟨q0, rfl⟩
    · refine gox_catch (k := 0) (nm := nIAE) (i := 3) (tgt := 12) (by decide) rfl (by decide) (by decide) clL_13 ca_nIAE ?_ rfl ?_ (Nat.le_of_ble_eq_true rfl) ?_
      · intro j z hj; exact absurd hj (Nat.not_lt_zero _)
      · refine Or.inr ⟨_, dL_quiet_12, rfl, fun x hx => ?_⟩
        subst hx
        refine go_iconst (v := 1) dL_quiet_13 rfl ?_
        exact go_ireturn dL_quiet_14 rfl rfl (Nat.le_refl _) (Nat.le_refl _) ⟨by rw [q0]; rfl, fun z => absurd (q0.symm.trans z) (by decide), KK, Fv7.fw F⟩
      · intro j v hj hv
        obtain rfl : j = 2 := by omega
        cases hv; rfl
    · exact absurd q0 ho
