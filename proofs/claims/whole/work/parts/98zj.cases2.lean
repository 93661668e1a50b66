/-! the law's calls: acts -/
theorem o0_feed {S : Sx} {y0 y1 y2 y3 y4 : Int32} : (oFeed S y0 y1 y2 y3 y4).1 = 0 := by
  unfold oFeed
  split <;> rfl
theorem lc_feed {l : Launch} {L : Nat} {xs : Nat → Int32} {j : Nat} {h : Hp} {S : Sx} {u w : Nat} {a5 a6 : Option Value} (hl : l.stackTraces = false) (hj : 6 * j + 6 ≤ L) (hL : L ≤ 3072) (X : SS h S) (hu : u + 1 ≤ 1135) (hw : w + 6 ≤ 32708) (nx : Nx l L xs j u w) : Go l room_1 mL_law 0 (Zl L xs Zlw) 208 (lvL j a5 a6) [] h u w := by
  obtain ⟨K, V, W⟩ := X
  have hS := K.Stt
  have o0 : (oFeed S (xs (6 * j + 1)) (xs (6 * j + 2)) (xs (6 * j + 3)) (xs (6 * j + 4)) (xs (6 * j + 5))).1 = 0 := o0_feed
  refine go_aloadn dL_law_208 rfl ?_
  refine go_sx (k := 1) (by omega) hL rfl dL_law_209 dL_law_210 dL_law_212 dL_law_213 dL_law_214 ?_
  refine go_sx (k := 2) (by omega) hL rfl dL_law_215 dL_law_216 dL_law_218 dL_law_219 dL_law_220 ?_
  refine go_sx (k := 3) (by omega) hL rfl dL_law_221 dL_law_222 dL_law_224 dL_law_225 dL_law_226 ?_
  refine go_sx (k := 4) (by omega) hL rfl dL_law_227 dL_law_228 dL_law_230 dL_law_231 dL_law_232 ?_
  refine go_sx (k := 5) (by omega) hL rfl dL_law_233 dL_law_234 dL_law_236 dL_law_237 dL_law_238 ?_
  refine go_callV_ (M' := mX9_feed) (as := [.int (xs (6 * j + 1)), .int (xs (6 * j + 2)), .int (xs (6 * j + 3)), .int (xs (6 * j + 4)), .int (xs (6 * j + 5))]) (ci := 9) dL_law_239 lL_114 vX9_feed rfl (by decide) rfl (by rw [hS.1]; decide) (show Ka l _ _ _ h (oFeed S (xs (6 * j + 1)) (xs (6 * j + 2)) (xs (6 * j + 3)) (xs (6 * j + 4)) (xs (6 * j + 5))) from k_feed (d := 0) W K) rfl (Nat.le_of_ble_eq_true rfl) (Nat.le_of_ble_eq_true rfl) (Nat.le_of_ble_eq_true rfl) hu hw (fun q => absurd hS.1 (Nat.ne_of_lt q)) (fun v1 g1 z1 => ?_) (fun _ _ z => absurd (o0.symm.trans z.1.1) (by decide))
  obtain ⟨⟨_, rfl⟩, r2, r3⟩ := z1
  have hS1 := r2.Stt
  have V1 : MV g1 S := mv_fw W.1 V hS1 r3
  refine go_aloadn dL_law_242 rfl ?_
  refine go_sx (k := 1) (by omega) hL rfl dL_law_243 dL_law_244 dL_law_246 dL_law_247 dL_law_248 ?_
  refine go_sx (k := 2) (by omega) hL rfl dL_law_249 dL_law_250 dL_law_252 dL_law_253 dL_law_254 ?_
  refine go_sx (k := 3) (by omega) hL rfl dL_law_255 dL_law_256 dL_law_258 dL_law_259 dL_law_260 ?_
  refine go_sx (k := 4) (by omega) hL rfl dL_law_261 dL_law_262 dL_law_264 dL_law_265 dL_law_266 ?_
  refine go_sx (k := 5) (by omega) hL rfl dL_law_267 dL_law_268 dL_law_270 dL_law_271 dL_law_272 ?_
  refine go_callV_ (M' := mX10_feed) (as := [.int (xs (6 * j + 1)), .int (xs (6 * j + 2)), .int (xs (6 * j + 3)), .int (xs (6 * j + 4)), .int (xs (6 * j + 5))]) (ci := 10) dL_law_273 lL_118 vX10_feed rfl (by decide) rfl (by rw [hS1.1]; decide) (show Mo l _ _ _ g1 (oFeed S (xs (6 * j + 1)) (xs (6 * j + 2)) (xs (6 * j + 3)) (xs (6 * j + 4)) (xs (6 * j + 5))) from m_feed (d := 0) W V1) rfl (Nat.le_of_ble_eq_true rfl) (Nat.le_of_ble_eq_true rfl) (Nat.le_of_ble_eq_true rfl) hu hw (fun q => absurd hS1.1 (Nat.ne_of_lt q)) (fun v2 g2 z2 => ?_) (fun _ _ z => z.elim)
  obtain ⟨⟨r, rfl, e1⟩, e2, e3, e4⟩ := z2
  exact go_icmp_eq (tgt := 2467) dL_law_276 (by decide) (fun _ => nx _ (oFeed S (xs (6 * j + 1)) (xs (6 * j + 2)) (xs (6 * j + 3)) (xs (6 * j + 4)) (xs (6 * j + 5))).2.2 _ _ _ _ ⟨r2.q7 (Fq7.fj e4.j), e3, (ws_feed W)⟩ (Nat.le_refl _) (Nat.le_refl _)) (fun c => absurd (e1 o0).symm c)
theorem o3_city {S : Sx} {y0 : Int32} : (oCity S y0).1 < 3 := by
  unfold oCity
  repeat (first | exact (show (0 : Nat) < 3 by decide) | exact (show (1 : Nat) < 3 by decide) | refine ndS_3 ?_ | split)
theorem o2_city {S : Sx} {y0 : Int32} : (oCity S y0).1 ≠ 2 := by
  unfold oCity
  repeat (first | exact (show ¬ (0 : Nat) = 2 by decide) | exact (show ¬ (1 : Nat) = 2 by decide) | refine ndS_2 ?_ | split)
theorem lc_city {l : Launch} {L : Nat} {xs : Nat → Int32} {j : Nat} {h : Hp} {S : Sx} {u w : Nat} {a5 a6 : Option Value} (hl : l.stackTraces = false) (hj : 6 * j + 6 ≤ L) (hL : L ≤ 3072) (X : SS h S) (hu : u + 1 ≤ 1135) (hw : w + 6 ≤ 32708) (nx : Nx l L xs j u w) : Go l room_1 mL_law 0 (Zl L xs Zlw) 281 (lvL j a5 a6) [] h u w := by
  obtain ⟨K, V, W⟩ := X
  have hS := K.Stt
  refine go_aloadn dL_law_281 rfl ?_
  refine go_sx (k := 1) (by omega) hL rfl dL_law_282 dL_law_283 dL_law_285 dL_law_286 dL_law_287 ?_
  refine go_aloadn dL_law_288 rfl ?_
  refine go_callSH (M' := mL_city) (as := [.ref 0, .int (xs (6 * j + 1)), .ref 103]) dL_law_289 lL_119 hL_city (h_city (o := (oCity S (xs (6 * j + 1)))) hS o2_city ((k_city (d := 0) hl W K).mono (fun _ _ z => z) (fun _ _ z => ⟨Or.inl z.1, z.2⟩))) rfl (Nat.le_of_ble_eq_true rfl) (Nat.le_of_ble_eq_true rfl) (Nat.le_of_ble_eq_true rfl) hu hw (fun q => absurd hS.1 (Nat.ne_of_lt q)) (fun v1 g1 q1 => ?_) (fun _ _ z => z.elim)
  obtain ⟨rfl, r1, r2, r3⟩ := q1
  have V1 : MV g1 S := ss_v W V _ r2 r3
  have hS1 := r2.Stt
  refine go_ist5 dL_law_292 rfl ?_
  refine go_aloadn dL_law_294 rfl ?_
  refine go_sx (k := 1) (by omega) hL rfl dL_law_295 dL_law_296 dL_law_298 dL_law_299 dL_law_300 ?_
  refine go_callV_ (M' := mX10_city) (as := [.int (xs (6 * j + 1))]) (ci := 10) dL_law_301 lL_124 vX10_city rfl (by decide) rfl (by rw [hS1.1]; decide) (m_city (d := 0) W V1) rfl (Nat.le_of_ble_eq_true rfl) (Nat.le_of_ble_eq_true rfl) (Nat.le_of_ble_eq_true rfl) hu hw (fun q => absurd hS1.1 (Nat.ne_of_lt q)) (fun v2 g2 z2 => ?_) (fun _ _ z => z.elim)
  obtain ⟨⟨r, rfl, e1⟩, e2, e3, e4⟩ := z2
  exact law_tail (o := (oCity S (xs (6 * j + 1)))) ⟨r2.q7 (Fq7.fj e4), e3, (ws_city W)⟩ e1 e2 (fun y => by rw [e4.2.2.1 103 0 (by decide)]; exact r1 y) o3_city nx (Nat.le_refl _) (Nat.le_refl _) hu hw dL_law_304 dL_law_306 dL_law_307 dL_law_310 dL_law_312 dL_law_317 dL_law_319 dL_law_322 dL_law_323 dL_law_324 dL_law_325 dL_law_327 dL_law_328 dL_law_329 dL_law_334 rfl
theorem lc_fault {l : Launch} {L : Nat} {xs : Nat → Int32} {j : Nat} {h : Hp} {S : Sx} {u w : Nat} {a5 a6 : Option Value} (hl : l.stackTraces = false) (hj : 6 * j + 6 ≤ L) (hL : L ≤ 3072) (X : SS h S) (hu : u + 1 ≤ 1135) (hw : w + 6 ≤ 32708) (nx : Nx l L xs j u w) : Go l room_1 mL_law 0 (Zl L xs Zlw) 337 (lvL j a5 a6) [] h u w := by
  obtain ⟨K, V, W⟩ := X
  have hS := K.Stt
  have o0 : ((0, sF S, S) : Sa).1 = 0 := rfl
  refine go_aloadn dL_law_337 rfl ?_
  refine go_callV_ (M' := mX9_fault) (as := []) (ci := 9) dL_law_338 lL_129 vX9_fault rfl (by decide) rfl (by rw [hS.1]; decide) (show Ka l _ _ _ h ((0, sF S, S) : Sa) from k_fault (d := 0) K) rfl (Nat.le_of_ble_eq_true rfl) (Nat.le_of_ble_eq_true rfl) (Nat.le_of_ble_eq_true rfl) hu hw (fun q => absurd hS.1 (Nat.ne_of_lt q)) (fun v1 g1 z1 => ?_) (fun _ _ z => absurd (o0.symm.trans z.1.1) (by decide))
  obtain ⟨⟨_, rfl⟩, r2, r3⟩ := z1
  have hS1 := r2.Stt
  have V1 : MV g1 S := mv_fw W.1 V hS1 r3
  refine go_aloadn dL_law_341 rfl ?_
  refine go_callV_ (M' := mX10_fault) (as := []) (ci := 10) dL_law_342 lL_132 vX10_fault rfl (by decide) rfl (by rw [hS1.1]; decide) (show Mo l _ _ _ g1 ((0, sF S, S) : Sa) from m_fault (d := 0) W V1) rfl (Nat.le_of_ble_eq_true rfl) (Nat.le_of_ble_eq_true rfl) (Nat.le_of_ble_eq_true rfl) hu hw (fun q => absurd hS1.1 (Nat.ne_of_lt q)) (fun v2 g2 z2 => ?_) (fun _ _ z => z.elim)
  obtain ⟨⟨r, rfl, e1⟩, e2, e3, e4⟩ := z2
  exact go_icmp_eq (tgt := 2467) dL_law_345 (by decide) (fun _ => nx _ ((0, sF S, S) : Sa).2.2 _ _ _ _ ⟨r2.q7 (Fq7.fj e4.j), e3, W⟩ (Nat.le_refl _) (Nat.le_refl _)) (fun c => absurd (e1 o0).symm c)
theorem o0_days {S : Sx} {y0 : Int32} : (oDays S y0).1 = 0 := by
  unfold oDays
  split <;> rfl
theorem lc_days {l : Launch} {L : Nat} {xs : Nat → Int32} {j : Nat} {h : Hp} {S : Sx} {u w : Nat} {a5 a6 : Option Value} (hl : l.stackTraces = false) (hj : 6 * j + 6 ≤ L) (hL : L ≤ 3072) (X : SS h S) (hu : u + 1 ≤ 1135) (hw : w + 6 ≤ 32708) (nx : Nx l L xs j u w) : Go l room_1 mL_law 0 (Zl L xs Zlw) 542 (lvL j a5 a6) [] h u w := by
  obtain ⟨K, V, W⟩ := X
  have hS := K.Stt
  have o0 : (oDays S (xs (6 * j + 1))).1 = 0 := o0_days
  refine go_aloadn dL_law_542 rfl ?_
  refine go_sx (k := 1) (by omega) hL rfl dL_law_543 dL_law_544 dL_law_546 dL_law_547 dL_law_548 ?_
  refine go_callV_ (M' := mX9_days) (as := [.int (xs (6 * j + 1))]) (ci := 9) dL_law_549 lL_143 vX9_days rfl (by decide) rfl (by rw [hS.1]; decide) (show Ka l _ _ _ h (oDays S (xs (6 * j + 1))) from k_days (d := 0) W K) rfl (Nat.le_of_ble_eq_true rfl) (Nat.le_of_ble_eq_true rfl) (Nat.le_of_ble_eq_true rfl) hu hw (fun q => absurd hS.1 (Nat.ne_of_lt q)) (fun v1 g1 z1 => ?_) (fun _ _ z => absurd (o0.symm.trans z.1.1) (by decide))
  obtain ⟨⟨_, rfl⟩, r2, r3⟩ := z1
  have hS1 := r2.Stt
  have V1 : MV g1 S := mv_fw W.1 V hS1 r3
  refine go_aloadn dL_law_552 rfl ?_
  refine go_sx (k := 1) (by omega) hL rfl dL_law_553 dL_law_554 dL_law_556 dL_law_557 dL_law_558 ?_
  refine go_callV_ (M' := mX10_days) (as := [.int (xs (6 * j + 1))]) (ci := 10) dL_law_559 lL_146 vX10_days rfl (by decide) rfl (by rw [hS1.1]; decide) (show Mo l _ _ _ g1 (oDays S (xs (6 * j + 1))) from m_days (d := 0) W V1) rfl (Nat.le_of_ble_eq_true rfl) (Nat.le_of_ble_eq_true rfl) (Nat.le_of_ble_eq_true rfl) hu hw (fun q => absurd hS1.1 (Nat.ne_of_lt q)) (fun v2 g2 z2 => ?_) (fun _ _ z => z.elim)
  obtain ⟨⟨r, rfl, e1⟩, e2, e3, e4⟩ := z2
  exact go_icmp_eq (tgt := 2467) dL_law_562 (by decide) (fun _ => nx _ (oDays S (xs (6 * j + 1))).2.2 _ _ _ _ ⟨r2.q7 (Fq7.fj e4.j), e3, (ws_days W)⟩ (Nat.le_refl _) (Nat.le_refl _)) (fun c => absurd (e1 o0).symm c)
theorem o3_steal {S : Sx} {y0 y1 : Int32} : (oSteal S y0 y1).1 < 3 := by
  unfold oSteal
  repeat (first | exact (show (0 : Nat) < 3 by decide) | exact (show (1 : Nat) < 3 by decide) | refine ndS_3 ?_ | split)
theorem o2_steal {S : Sx} {y0 y1 : Int32} : (oSteal S y0 y1).1 ≠ 2 := by
  unfold oSteal
  repeat (first | exact (show ¬ (0 : Nat) = 2 by decide) | exact (show ¬ (1 : Nat) = 2 by decide) | refine ndS_2 ?_ | split)
theorem lc_steal {l : Launch} {L : Nat} {xs : Nat → Int32} {j : Nat} {h : Hp} {S : Sx} {u w : Nat} {a5 a6 : Option Value} (hl : l.stackTraces = false) (hj : 6 * j + 6 ≤ L) (hL : L ≤ 3072) (X : SS h S) (hu : u + 1 ≤ 1135) (hw : w + 6 ≤ 32708) (nx : Nx l L xs j u w) : Go l room_1 mL_law 0 (Zl L xs Zlw) 567 (lvL j a5 a6) [] h u w := by
  obtain ⟨K, V, W⟩ := X
  have hS := K.Stt
  refine go_aloadn dL_law_567 rfl ?_
  refine go_sx (k := 1) (by omega) hL rfl dL_law_568 dL_law_569 dL_law_571 dL_law_572 dL_law_573 ?_
  refine go_sx (k := 2) (by omega) hL rfl dL_law_574 dL_law_575 dL_law_577 dL_law_578 dL_law_579 ?_
  refine go_aloadn dL_law_580 rfl ?_
  refine go_callSH (M' := mL_steal) (as := [.ref 0, .int (xs (6 * j + 1)), .int (xs (6 * j + 2)), .ref 103]) dL_law_581 lL_147 hL_steal (h_steal (o := (oSteal S (xs (6 * j + 1)) (xs (6 * j + 2)))) hS o2_steal (c_a (k_steal (d := 0) hl W K))) rfl (Nat.le_of_ble_eq_true rfl) (Nat.le_of_ble_eq_true rfl) (Nat.le_of_ble_eq_true rfl) hu hw (fun q => absurd hS.1 (Nat.ne_of_lt q)) (fun v1 g1 q1 => ?_) (fun _ _ z => z.elim)
  obtain ⟨rfl, r1, r2, r3⟩ := q1
  have V1 : MV g1 S := ss_v W V _ r2 r3
  have hS1 := r2.Stt
  refine go_ist5 dL_law_584 rfl ?_
  refine go_aloadn dL_law_586 rfl ?_
  refine go_sx (k := 1) (by omega) hL rfl dL_law_587 dL_law_588 dL_law_590 dL_law_591 dL_law_592 ?_
  refine go_sx (k := 2) (by omega) hL rfl dL_law_593 dL_law_594 dL_law_596 dL_law_597 dL_law_598 ?_
  refine go_callV_ (M' := mX10_steal) (as := [.int (xs (6 * j + 1)), .int (xs (6 * j + 2))]) (ci := 10) dL_law_599 lL_149 vX10_steal rfl (by decide) rfl (by rw [hS1.1]; decide) (c_ma (m_steal (d := 0) W V1)) rfl (Nat.le_of_ble_eq_true rfl) (Nat.le_of_ble_eq_true rfl) (Nat.le_of_ble_eq_true rfl) hu hw (fun q => absurd hS1.1 (Nat.ne_of_lt q)) (fun v2 g2 z2 => ?_) (fun _ _ z => z.elim)
  obtain ⟨⟨r, rfl, e1⟩, e2, e3, e4⟩ := z2
  exact law_tail (o := (oSteal S (xs (6 * j + 1)) (xs (6 * j + 2)))) ⟨r2.q7 (Fq7.fj e4), e3, (ws_steal W)⟩ e1 e2 (fun y => by rw [e4.2.2.1 103 0 (by decide)]; exact r1 y) o3_steal nx (Nat.le_refl _) (Nat.le_refl _) hu hw dL_law_602 dL_law_604 dL_law_605 dL_law_608 dL_law_610 dL_law_615 dL_law_617 dL_law_620 dL_law_621 dL_law_622 dL_law_623 dL_law_625 dL_law_626 dL_law_627 dL_law_632 rfl
theorem o3_back {S : Sx} {y0 : Int32} : (oBack S y0).1 < 3 := by
  unfold oBack
  repeat (first | exact (show (0 : Nat) < 3 by decide) | exact (show (1 : Nat) < 3 by decide) | refine ndS_3 ?_ | split)
theorem o2_back {S : Sx} {y0 : Int32} : (oBack S y0).1 ≠ 2 := by
  unfold oBack
  repeat (first | exact (show ¬ (0 : Nat) = 2 by decide) | exact (show ¬ (1 : Nat) = 2 by decide) | refine ndS_2 ?_ | split)
theorem lc_back {l : Launch} {L : Nat} {xs : Nat → Int32} {j : Nat} {h : Hp} {S : Sx} {u w : Nat} {a5 a6 : Option Value} (hl : l.stackTraces = false) (hj : 6 * j + 6 ≤ L) (hL : L ≤ 3072) (X : SS h S) (hu : u + 1 ≤ 1135) (hw : w + 6 ≤ 32708) (nx : Nx l L xs j u w) : Go l room_1 mL_law 0 (Zl L xs Zlw) 635 (lvL j a5 a6) [] h u w := by
  obtain ⟨K, V, W⟩ := X
  have hS := K.Stt
  refine go_aloadn dL_law_635 rfl ?_
  refine go_sx (k := 1) (by omega) hL rfl dL_law_636 dL_law_637 dL_law_639 dL_law_640 dL_law_641 ?_
  refine go_aloadn dL_law_642 rfl ?_
  refine go_callSH (M' := mL_back) (as := [.ref 0, .int (xs (6 * j + 1)), .ref 103]) dL_law_643 lL_150 hL_back (h_back (o := (oBack S (xs (6 * j + 1)))) hS o2_back (c_a (k_back (d := 0) hl W K))) rfl (Nat.le_of_ble_eq_true rfl) (Nat.le_of_ble_eq_true rfl) (Nat.le_of_ble_eq_true rfl) hu hw (fun q => absurd hS.1 (Nat.ne_of_lt q)) (fun v1 g1 q1 => ?_) (fun _ _ z => z.elim)
  obtain ⟨rfl, r1, r2, r3⟩ := q1
  have V1 : MV g1 S := ss_v W V _ r2 r3
  have hS1 := r2.Stt
  refine go_ist5 dL_law_646 rfl ?_
  refine go_aloadn dL_law_648 rfl ?_
  refine go_sx (k := 1) (by omega) hL rfl dL_law_649 dL_law_650 dL_law_652 dL_law_653 dL_law_654 ?_
  refine go_callV_ (M' := mX10_back) (as := [.int (xs (6 * j + 1))]) (ci := 10) dL_law_655 lL_152 vX10_back rfl (by decide) rfl (by rw [hS1.1]; decide) (c_ma (m_back (d := 0) W V1)) rfl (Nat.le_of_ble_eq_true rfl) (Nat.le_of_ble_eq_true rfl) (Nat.le_of_ble_eq_true rfl) hu hw (fun q => absurd hS1.1 (Nat.ne_of_lt q)) (fun v2 g2 z2 => ?_) (fun _ _ z => z.elim)
  obtain ⟨⟨r, rfl, e1⟩, e2, e3, e4⟩ := z2
  exact law_tail (o := (oBack S (xs (6 * j + 1)))) ⟨r2.q7 (Fq7.fj e4), e3, (ws_back W)⟩ e1 e2 (fun y => by rw [e4.2.2.1 103 0 (by decide)]; exact r1 y) o3_back nx (Nat.le_refl _) (Nat.le_refl _) hu hw dL_law_658 dL_law_660 dL_law_661 dL_law_664 dL_law_666 dL_law_671 dL_law_673 dL_law_676 dL_law_677 dL_law_678 dL_law_679 dL_law_681 dL_law_682 dL_law_683 dL_law_688 rfl
theorem o3_walk {S : Sx} {y0 y1 y2 : Int32} : (oWalk S y0 y1 y2).1 < 3 := by
  unfold oWalk
  repeat (first | exact (show (0 : Nat) < 3 by decide) | exact (show (1 : Nat) < 3 by decide) | refine ndS_3 ?_ | split)
theorem o2_walk {S : Sx} {y0 y1 y2 : Int32} : (oWalk S y0 y1 y2).1 ≠ 2 := by
  unfold oWalk
  repeat (first | exact (show ¬ (0 : Nat) = 2 by decide) | exact (show ¬ (1 : Nat) = 2 by decide) | refine ndS_2 ?_ | split)
theorem lc_walk {l : Launch} {L : Nat} {xs : Nat → Int32} {j : Nat} {h : Hp} {S : Sx} {u w : Nat} {a5 a6 : Option Value} (hl : l.stackTraces = false) (hj : 6 * j + 6 ≤ L) (hL : L ≤ 3072) (X : SS h S) (hu : u + 1 ≤ 1135) (hw : w + 6 ≤ 32708) (nx : Nx l L xs j u w) : Go l room_1 mL_law 0 (Zl L xs Zlw) 691 (lvL j a5 a6) [] h u w := by
  obtain ⟨K, V, W⟩ := X
  have hS := K.Stt
  refine go_aloadn dL_law_691 rfl ?_
  refine go_sx (k := 1) (by omega) hL rfl dL_law_692 dL_law_693 dL_law_695 dL_law_696 dL_law_697 ?_
  refine go_sx (k := 2) (by omega) hL rfl dL_law_698 dL_law_699 dL_law_701 dL_law_702 dL_law_703 ?_
  refine go_sx (k := 3) (by omega) hL rfl dL_law_704 dL_law_705 dL_law_707 dL_law_708 dL_law_709 ?_
  refine go_aloadn dL_law_710 rfl ?_
  refine go_callSH (M' := mL_walk) (as := [.ref 0, .int (xs (6 * j + 1)), .int (xs (6 * j + 2)), .int (xs (6 * j + 3)), .ref 103]) dL_law_711 lL_153 hL_walk (h_walk (o := (oWalk S (xs (6 * j + 1)) (xs (6 * j + 2)) (xs (6 * j + 3)))) hS o2_walk (c_a (k_walk (d := 0) hl W K))) rfl (Nat.le_of_ble_eq_true rfl) (Nat.le_of_ble_eq_true rfl) (Nat.le_of_ble_eq_true rfl) hu hw (fun q => absurd hS.1 (Nat.ne_of_lt q)) (fun v1 g1 q1 => ?_) (fun _ _ z => z.elim)
  obtain ⟨rfl, r1, r2, r3⟩ := q1
  have V1 : MV g1 S := ss_v W V _ r2 r3
  have hS1 := r2.Stt
  refine go_ist5 dL_law_714 rfl ?_
  refine go_aloadn dL_law_716 rfl ?_
  refine go_sx (k := 1) (by omega) hL rfl dL_law_717 dL_law_718 dL_law_720 dL_law_721 dL_law_722 ?_
  refine go_sx (k := 2) (by omega) hL rfl dL_law_723 dL_law_724 dL_law_726 dL_law_727 dL_law_728 ?_
  refine go_sx (k := 3) (by omega) hL rfl dL_law_729 dL_law_730 dL_law_732 dL_law_733 dL_law_734 ?_
  refine go_callV_ (M' := mX10_walk) (as := [.int (xs (6 * j + 1)), .int (xs (6 * j + 2)), .int (xs (6 * j + 3))]) (ci := 10) dL_law_735 lL_156 vX10_walk rfl (by decide) rfl (by rw [hS1.1]; decide) (c_ma (m_walk (d := 0) W V1)) rfl (Nat.le_of_ble_eq_true rfl) (Nat.le_of_ble_eq_true rfl) (Nat.le_of_ble_eq_true rfl) hu hw (fun q => absurd hS1.1 (Nat.ne_of_lt q)) (fun v2 g2 z2 => ?_) (fun _ _ z => z.elim)
  obtain ⟨⟨r, rfl, e1⟩, e2, e3, e4⟩ := z2
  exact law_tail (o := (oWalk S (xs (6 * j + 1)) (xs (6 * j + 2)) (xs (6 * j + 3)))) ⟨r2.q7 (Fq7.fj e4), e3, (ws_walk W)⟩ e1 e2 (fun y => by rw [e4.2.2.1 103 0 (by decide)]; exact r1 y) o3_walk nx (Nat.le_refl _) (Nat.le_refl _) hu hw dL_law_738 dL_law_740 dL_law_741 dL_law_744 dL_law_746 dL_law_751 dL_law_753 dL_law_756 dL_law_757 dL_law_758 dL_law_759 dL_law_761 dL_law_762 dL_law_763 dL_law_768 rfl
theorem o3_dye {S : Sx} {y0 y1 : Int32} : (oDye S y0 y1).1 < 3 := by
  unfold oDye
  repeat (first | exact (show (0 : Nat) < 3 by decide) | exact (show (1 : Nat) < 3 by decide) | refine ndS_3 ?_ | split)
theorem o2_dye {S : Sx} {y0 y1 : Int32} : (oDye S y0 y1).1 ≠ 2 := by
  unfold oDye
  repeat (first | exact (show ¬ (0 : Nat) = 2 by decide) | exact (show ¬ (1 : Nat) = 2 by decide) | refine ndS_2 ?_ | split)
theorem lc_dye {l : Launch} {L : Nat} {xs : Nat → Int32} {j : Nat} {h : Hp} {S : Sx} {u w : Nat} {a5 a6 : Option Value} (hl : l.stackTraces = false) (hj : 6 * j + 6 ≤ L) (hL : L ≤ 3072) (X : SS h S) (hu : u + 1 ≤ 1135) (hw : w + 6 ≤ 32708) (nx : Nx l L xs j u w) : Go l room_1 mL_law 0 (Zl L xs Zlw) 771 (lvL j a5 a6) [] h u w := by
  obtain ⟨K, V, W⟩ := X
  have hS := K.Stt
  refine go_aloadn dL_law_771 rfl ?_
  refine go_sx (k := 1) (by omega) hL rfl dL_law_772 dL_law_773 dL_law_775 dL_law_776 dL_law_777 ?_
  refine go_sx (k := 2) (by omega) hL rfl dL_law_778 dL_law_779 dL_law_781 dL_law_782 dL_law_783 ?_
  refine go_aloadn dL_law_784 rfl ?_
  refine go_callSH (M' := mL_dye) (as := [.ref 0, .int (xs (6 * j + 1)), .int (xs (6 * j + 2)), .ref 103]) dL_law_785 lL_157 hL_dye (h_dye (o := (oDye S (xs (6 * j + 1)) (xs (6 * j + 2)))) hS o2_dye (c_a (k_dye (d := 0) hl W K))) rfl (Nat.le_of_ble_eq_true rfl) (Nat.le_of_ble_eq_true rfl) (Nat.le_of_ble_eq_true rfl) hu hw (fun q => absurd hS.1 (Nat.ne_of_lt q)) (fun v1 g1 q1 => ?_) (fun _ _ z => z.elim)
  obtain ⟨rfl, r1, r2, r3⟩ := q1
  have V1 : MV g1 S := ss_v W V _ r2 r3
  have hS1 := r2.Stt
  refine go_ist5 dL_law_788 rfl ?_
  refine go_aloadn dL_law_790 rfl ?_
  refine go_sx (k := 1) (by omega) hL rfl dL_law_791 dL_law_792 dL_law_794 dL_law_795 dL_law_796 ?_
  refine go_sx (k := 2) (by omega) hL rfl dL_law_797 dL_law_798 dL_law_800 dL_law_801 dL_law_802 ?_
  refine go_callV_ (M' := mX10_dye) (as := [.int (xs (6 * j + 1)), .int (xs (6 * j + 2))]) (ci := 10) dL_law_803 lL_159 vX10_dye rfl (by decide) rfl (by rw [hS1.1]; decide) (c_ma (m_dye (d := 0) W V1)) rfl (Nat.le_of_ble_eq_true rfl) (Nat.le_of_ble_eq_true rfl) (Nat.le_of_ble_eq_true rfl) hu hw (fun q => absurd hS1.1 (Nat.ne_of_lt q)) (fun v2 g2 z2 => ?_) (fun _ _ z => z.elim)
  obtain ⟨⟨r, rfl, e1⟩, e2, e3, e4⟩ := z2
  exact law_tail (o := (oDye S (xs (6 * j + 1)) (xs (6 * j + 2)))) ⟨r2.q7 (Fq7.fj e4), e3, (ws_dye W)⟩ e1 e2 (fun y => by rw [e4.2.2.1 103 0 (by decide)]; exact r1 y) o3_dye nx (Nat.le_refl _) (Nat.le_refl _) hu hw dL_law_806 dL_law_808 dL_law_809 dL_law_812 dL_law_814 dL_law_819 dL_law_821 dL_law_824 dL_law_825 dL_law_826 dL_law_827 dL_law_829 dL_law_830 dL_law_831 dL_law_836 rfl
theorem o0_undo {S : Sx} : (oUndo S).1 = 0 := by
  unfold oUndo
  split <;> rfl
theorem lc_undo {l : Launch} {L : Nat} {xs : Nat → Int32} {j : Nat} {h : Hp} {S : Sx} {u w : Nat} {a5 a6 : Option Value} (hl : l.stackTraces = false) (hj : 6 * j + 6 ≤ L) (hL : L ≤ 3072) (X : SS h S) (hu : u + 1 ≤ 1135) (hw : w + 6 ≤ 32708) (nx : Nx l L xs j u w) : Go l room_1 mL_law 0 (Zl L xs Zlw) 839 (lvL j a5 a6) [] h u w := by
  obtain ⟨K, V, W⟩ := X
  have hS := K.Stt
  have o0 : (oUndo S).1 = 0 := o0_undo
  refine go_aloadn dL_law_839 rfl ?_
  refine go_callV_ (M' := mX9_undo) (as := []) (ci := 9) dL_law_840 lL_160 vX9_undo rfl (by decide) rfl (by rw [hS.1]; decide) (show Ka l _ _ _ h (oUndo S) from k_undo (d := 0) W K) rfl (Nat.le_of_ble_eq_true rfl) (Nat.le_of_ble_eq_true rfl) (Nat.le_of_ble_eq_true rfl) hu hw (fun q => absurd hS.1 (Nat.ne_of_lt q)) (fun v1 g1 z1 => ?_) (fun _ _ z => absurd (o0.symm.trans z.1.1) (by decide))
  obtain ⟨⟨_, rfl⟩, r2, r3⟩ := z1
  have hS1 := r2.Stt
  have V1 : MV g1 S := mv_fw W.1 V hS1 r3
  refine go_aloadn dL_law_843 rfl ?_
  refine go_callV_ (M' := mX10_undo) (as := []) (ci := 10) dL_law_844 lL_163 vX10_undo rfl (by decide) rfl (by rw [hS1.1]; decide) (show Mo l _ _ _ g1 (oUndo S) from m_undo (d := 0) W V1) rfl (Nat.le_of_ble_eq_true rfl) (Nat.le_of_ble_eq_true rfl) (Nat.le_of_ble_eq_true rfl) hu hw (fun q => absurd hS1.1 (Nat.ne_of_lt q)) (fun v2 g2 z2 => ?_) (fun _ _ z => z.elim)
  obtain ⟨⟨r, rfl, e1⟩, e2, e3, e4⟩ := z2
  exact go_icmp_eq (tgt := 2467) dL_law_847 (by decide) (fun _ => nx _ (oUndo S).2.2 _ _ _ _ ⟨r2.q7 (Fq7.fj e4.j), e3, (ws_undo W)⟩ (Nat.le_refl _) (Nat.le_refl _)) (fun c => absurd (e1 o0).symm c)
theorem o3_note {S : Sx} {y0 y1 y2 : Int32} : (oNote S y0 y1 y2).1 < 3 := by
  unfold oNote
  repeat (first | exact (show (0 : Nat) < 3 by decide) | exact (show (1 : Nat) < 3 by decide) | refine ndS_3 ?_ | split)
theorem o2_note {S : Sx} {y0 y1 y2 : Int32} : (oNote S y0 y1 y2).1 ≠ 2 := by
  unfold oNote
  repeat (first | exact (show ¬ (0 : Nat) = 2 by decide) | exact (show ¬ (1 : Nat) = 2 by decide) | refine ndS_2 ?_ | split)
theorem lc_note {l : Launch} {L : Nat} {xs : Nat → Int32} {j : Nat} {h : Hp} {S : Sx} {u w : Nat} {a5 a6 : Option Value} (hl : l.stackTraces = false) (hj : 6 * j + 6 ≤ L) (hL : L ≤ 3072) (X : SS h S) (hu : u + 1 ≤ 1135) (hw : w + 6 ≤ 32708) (nx : Nx l L xs j u w) : Go l room_1 mL_law 0 (Zl L xs Zlw) 1532 (lvL j a5 a6) [] h u w := by
  obtain ⟨K, V, W⟩ := X
  have hS := K.Stt
  refine go_aloadn dL_law_1532 rfl ?_
  refine go_sx (k := 1) (by omega) hL rfl dL_law_1533 dL_law_1534 dL_law_1536 dL_law_1537 dL_law_1538 ?_
  refine go_sx (k := 2) (by omega) hL rfl dL_law_1539 dL_law_1540 dL_law_1542 dL_law_1543 dL_law_1544 ?_
  refine go_sx (k := 3) (by omega) hL rfl dL_law_1545 dL_law_1546 dL_law_1548 dL_law_1549 dL_law_1550 ?_
  refine go_bz dL_law_1551 dL_law_1554 dL_law_1555 dL_law_1558 ?_
  refine go_aloadn dL_law_1559 rfl ?_
  refine go_callSH (M' := mL_note) (as := [.ref 0, .int (xs (6 * j + 1)), .int (xs (6 * j + 2)), .int (if xs (6 * j + 3) = 0 then 0 else 1), .ref 103]) dL_law_1560 lL_194 hL_note (h_note (o := (oNote S (xs (6 * j + 1)) (xs (6 * j + 2)) (if xs (6 * j + 3) = 0 then 0 else 1))) hS o2_note (c_a (k_note (d := 0) hl W K))) rfl (Nat.le_of_ble_eq_true rfl) (Nat.le_of_ble_eq_true rfl) (Nat.le_of_ble_eq_true rfl) hu hw (fun q => absurd hS.1 (Nat.ne_of_lt q)) (fun v1 g1 q1 => ?_) (fun _ _ z => z.elim)
  obtain ⟨rfl, r1, r2, r3⟩ := q1
  have V1 : MV g1 S := ss_v W V _ r2 r3
  have hS1 := r2.Stt
  refine go_ist5 dL_law_1563 rfl ?_
  refine go_aloadn dL_law_1565 rfl ?_
  refine go_sx (k := 1) (by omega) hL rfl dL_law_1566 dL_law_1567 dL_law_1569 dL_law_1570 dL_law_1571 ?_
  refine go_sx (k := 2) (by omega) hL rfl dL_law_1572 dL_law_1573 dL_law_1575 dL_law_1576 dL_law_1577 ?_
  refine go_sx (k := 3) (by omega) hL rfl dL_law_1578 dL_law_1579 dL_law_1581 dL_law_1582 dL_law_1583 ?_
  refine go_bz dL_law_1584 dL_law_1587 dL_law_1588 dL_law_1591 ?_
  refine go_callV_ (M' := mX10_note) (as := [.int (xs (6 * j + 1)), .int (xs (6 * j + 2)), .int (if xs (6 * j + 3) = 0 then 0 else 1)]) (ci := 10) dL_law_1592 lL_197 vX10_note rfl (by decide) rfl (by rw [hS1.1]; decide) (c_ma (m_note (d := 0) W V1)) rfl (Nat.le_of_ble_eq_true rfl) (Nat.le_of_ble_eq_true rfl) (Nat.le_of_ble_eq_true rfl) hu hw (fun q => absurd hS1.1 (Nat.ne_of_lt q)) (fun v2 g2 z2 => ?_) (fun _ _ z => z.elim)
  obtain ⟨⟨r, rfl, e1⟩, e2, e3, e4⟩ := z2
  exact law_tail (o := (oNote S (xs (6 * j + 1)) (xs (6 * j + 2)) (if xs (6 * j + 3) = 0 then 0 else 1))) ⟨r2.q7 (Fq7.fj e4), e3, (ws_note W)⟩ e1 e2 (fun y => by rw [e4.2.2.1 103 0 (by decide)]; exact r1 y) o3_note nx (Nat.le_refl _) (Nat.le_refl _) hu hw dL_law_1595 dL_law_1597 dL_law_1598 dL_law_1601 dL_law_1603 dL_law_1608 dL_law_1610 dL_law_1613 dL_law_1614 dL_law_1615 dL_law_1616 dL_law_1618 dL_law_1619 dL_law_1620 dL_law_1625 rfl
theorem lc_forget {l : Launch} {L : Nat} {xs : Nat → Int32} {j : Nat} {h : Hp} {S : Sx} {u w : Nat} {a5 a6 : Option Value} (hl : l.stackTraces = false) (hj : 6 * j + 6 ≤ L) (hL : L ≤ 3072) (X : SS h S) (hu : u + 1 ≤ 1135) (hw : w + 6 ≤ 32708) (nx : Nx l L xs j u w) : Go l room_1 mL_law 0 (Zl L xs Zlw) 1628 (lvL j a5 a6) [] h u w := by
  obtain ⟨K, V, W⟩ := X
  have hS := K.Stt
  refine go_aloadn dL_law_1628 rfl ?_
  refine go_callV_ (M' := mX9_forget) (as := []) (ci := 9) dL_law_1629 lL_198 vX9_forget rfl (by decide) rfl (by rw [hS.1]; decide) (k_forget (d := 0) K) rfl (Nat.le_of_ble_eq_true rfl) (Nat.le_of_ble_eq_true rfl) (Nat.le_of_ble_eq_true rfl) (Nat.le_trans (Nat.le_succ _) hu) (Nat.le_trans (Nat.le_add_right _ _) hw) (fun q => absurd hS.1 (Nat.ne_of_lt q)) (fun v1 g1 z1 => ?_) (fun _ _ z => z.elim)
  obtain ⟨rfl, r2, r3⟩ := z1
  have hS1 := r2.Stt
  have V1 : MV g1 S := mv_fw W.1 V hS1 r3
  refine go_aloadn dL_law_1632 rfl ?_
  refine go_callV_ (M' := mX10_forget) (as := []) (ci := 10) dL_law_1633 lL_201 vX10_forget rfl (by decide) rfl (by rw [hS1.1]; decide) (m_forget (d := 0) W V1) rfl (Nat.le_of_ble_eq_true rfl) (Nat.le_of_ble_eq_true rfl) (Nat.le_of_ble_eq_true rfl) (Nat.le_trans (Nat.le_succ _) hu) (Nat.le_trans (Nat.le_add_right _ _) hw) (fun q => absurd hS1.1 (Nat.ne_of_lt q)) (fun v2 g2 z2 => ?_) (fun _ _ z => z.elim)
  obtain ⟨rfl, e2, e3, e4⟩ := z2
  exact go_goto (tgt := 2467) dL_law_1636 (by decide) (nx _ _ _ _ _ _ ⟨r2.q7 (Fq7.fj e4.j), e3, ws_forget W⟩ (Nat.le_succ _) (Nat.le_add_right _ _))
theorem lc_image {l : Launch} {L : Nat} {xs : Nat → Int32} {j : Nat} {h : Hp} {S : Sx} {u w : Nat} {a5 a6 : Option Value} (hl : l.stackTraces = false) (hj : 6 * j + 6 ≤ L) (hL : L ≤ 3072) (X : SS h S) (hu : u + 1 ≤ 1135) (hw : w + 6 ≤ 32708) (nx : Nx l L xs j u w) : Go l room_1 mL_law 0 (Zl L xs Zlw) 2443 (lvL j a5 a6) [] h u w := by
  obtain ⟨K, V, W⟩ := X
  have hS := K.Stt
  refine go_aloadn dL_law_2443 rfl ?_
  refine go_callV_ (M' := mX9_image) (as := []) (ci := 9) dL_law_2444 lL_238 vX9_image rfl (by decide) rfl (by rw [hS.1]; decide) (k_image (d := 0) W K) rfl (Nat.le_of_ble_eq_true rfl) (Nat.le_of_ble_eq_true rfl) (Nat.le_of_ble_eq_true rfl) (Nat.le_trans (Nat.le_succ _) hu) (Nat.le_trans (Nat.le_add_right _ _) hw) (fun q => absurd hS.1 (Nat.ne_of_lt q)) (fun v1 g1 z1 => ?_) (fun _ _ z => z.elim)
  obtain ⟨rfl, r2, r3⟩ := z1
  have hS1 := r2.Stt
  have V1 : MV g1 S := mv_fw W.1 V hS1 r3
  refine go_aloadn dL_law_2447 rfl ?_
  refine go_callV_ (M' := mX10_image) (as := []) (ci := 10) dL_law_2448 lL_241 vX10_image rfl (by decide) rfl (by rw [hS1.1]; decide) (m_image (d := 0) W V1) rfl (Nat.le_of_ble_eq_true rfl) (Nat.le_of_ble_eq_true rfl) (Nat.le_of_ble_eq_true rfl) (Nat.le_trans (Nat.le_succ _) hu) (Nat.le_trans (Nat.le_add_right _ _) hw) (fun q => absurd hS1.1 (Nat.ne_of_lt q)) (fun v2 g2 z2 => ?_) (fun _ _ z => z.elim)
  obtain ⟨rfl, e2, e3, e4⟩ := z2
  exact go_goto (tgt := 2467) dL_law_2451 (by decide) (nx _ _ _ _ _ _ ⟨r2.q7 (Fq7.fj e4.j), e3, ws_image W⟩ (Nat.le_succ _) (Nat.le_add_right _ _))
theorem o0_restore {S : Sx} : (oRestore S).1 = 0 := by
  unfold oRestore
  split <;> rfl
theorem lc_restore {l : Launch} {L : Nat} {xs : Nat → Int32} {j : Nat} {h : Hp} {S : Sx} {u w : Nat} {a5 a6 : Option Value} (hl : l.stackTraces = false) (hj : 6 * j + 6 ≤ L) (hL : L ≤ 3072) (X : SS h S) (hu : u + 1 ≤ 1135) (hw : w + 6 ≤ 32708) (nx : Nx l L xs j u w) : Go l room_1 mL_law 0 (Zl L xs Zlw) 2454 (lvL j a5 a6) [] h u w := by
  obtain ⟨K, V, W⟩ := X
  have hS := K.Stt
  have o0 : (oRestore S).1 = 0 := o0_restore
  refine go_aloadn dL_law_2454 rfl ?_
  refine go_callV_ (M' := mX9_restore) (as := []) (ci := 9) dL_law_2455 lL_242 vX9_restore rfl (by decide) rfl (by rw [hS.1]; decide) (show Ka l _ _ _ h (oRestore S) from k_restore (d := 0) W K) rfl (Nat.le_of_ble_eq_true rfl) (Nat.le_of_ble_eq_true rfl) (Nat.le_of_ble_eq_true rfl) hu hw (fun q => absurd hS.1 (Nat.ne_of_lt q)) (fun v1 g1 z1 => ?_) (fun _ _ z => absurd (o0.symm.trans z.1.1) (by decide))
  obtain ⟨⟨_, rfl⟩, r2, r3⟩ := z1
  have hS1 := r2.Stt
  have V1 : MV g1 S := mv_fw W.1 V hS1 r3
  refine go_aloadn dL_law_2458 rfl ?_
  refine go_callV_ (M' := mX10_restore) (as := []) (ci := 10) dL_law_2459 lL_246 vX10_restore rfl (by decide) rfl (by rw [hS1.1]; decide) (show Mo l _ _ _ g1 (oRestore S) from m_restore (d := 0) W V1) rfl (Nat.le_of_ble_eq_true rfl) (Nat.le_of_ble_eq_true rfl) (Nat.le_of_ble_eq_true rfl) hu hw (fun q => absurd hS1.1 (Nat.ne_of_lt q)) (fun v2 g2 z2 => ?_) (fun _ _ z => z.elim)
  obtain ⟨⟨r, rfl, e1⟩, e2, e3, e4⟩ := z2
  exact go_icmp_eq (tgt := 2467) dL_law_2462 (by decide) (fun _ => nx _ (oRestore S).2.2 _ _ _ _ ⟨r2.q7 (Fq7.fj e4.j), e3, (ws_restore W)⟩ (Nat.le_refl _) (Nat.le_refl _)) (fun c => absurd (e1 o0).symm c)
