/-! the law's calls: questions -/
theorem o3_count {C : Cy} {T : Tn} {a q p : Nat} {R : Nat → Int32} {y0 : Int32} : (vCount C T a q p R y0).1 < 3 := by
  unfold vCount
  repeat (first | exact (show (0 : Nat) < 3 by decide) | refine nd_3 (by decide) ?_)
theorem o2_count {C : Cy} {T : Tn} {a q p : Nat} {R : Nat → Int32} {y0 : Int32} : (vCount C T a q p R y0).1 ≠ 2 := by
  unfold vCount
  repeat (first | exact (show ¬ (0 : Nat) = 2 by decide) | refine nd_2 ?_)
theorem lc_count {l : Launch} {L : Nat} {xs : Nat → Int32} {j : Nat} {h : Hp} {S : Sx} {u w : Nat} {a5 a6 : Option Value} (hl : l.stackTraces = false) (hj : 6 * j + 6 ≤ L) (hL : L ≤ 3072) (X : SS h S) (hu : u + 1 ≤ 1135) (hw : w + 6 ≤ 32708) (nx : Nx l L xs j u w) : Go l room_1 mL_law 0 (Zl L xs Zlw) 350 (lvL j a5 a6) [] h u w := by
  obtain ⟨K, V, W⟩ := X
  have hS := K.Stt
  have D9 := W.2.1.2.2.1
  have WTt := W.2.1.1
  have K0 := K
  obtain ⟨c, c0, fs, fr, z, _, KB, KRr⟩ := K0
  refine go_aloadn dL_law_350 rfl ?_
  refine go_sx (k := 1) (by omega) hL rfl dL_law_351 dL_law_352 dL_law_354 dL_law_355 dL_law_356 ?_
  refine go_aloadn dL_law_357 rfl ?_
  refine go_callSH (M' := mL_count) (as := [.ref 0, .int (xs (6 * j + 1)), .ref 103]) dL_law_358 lL_133 hL_count (h_count (o := ((vCount (sC S) (sT S) (sA S).length (qM (sQ S)) (sP S).1 (sR S) (xs (6 * j + 1))).1, (vCount (sC S) (sT S) (sA S).length (qM (sQ S)) (sP S).1 (sR S) (xs (6 * j + 1))).2, S)) hS o2_count (c_q K (k_count (d := 0) hl W.1 KB KRr.1.choose_spec.1.2.1 KRr.2.1.1.1 KRr.2.2.2.1.1 KRr.2.2.2.2.2))) rfl (Nat.le_of_ble_eq_true rfl) (Nat.le_of_ble_eq_true rfl) (Nat.le_of_ble_eq_true rfl) hu hw (fun q => absurd hS.1 (Nat.ne_of_lt q)) (fun v1 g1 q1 => ?_) (fun _ _ z => z.elim)
  obtain ⟨rfl, r1, r2, r3⟩ := q1
  have V1 : MV g1 S := ss_v W V _ r2 r3
  have hS1 := r2.Stt
  obtain ⟨as, ar, HB, HR⟩ := id V1
  refine go_ist5 dL_law_361 rfl ?_
  refine go_aloadn dL_law_363 rfl ?_
  refine go_sx (k := 1) (by omega) hL rfl dL_law_364 dL_law_365 dL_law_367 dL_law_368 dL_law_369 ?_
  refine go_callV_ (M' := mX10_count) (as := [.int (xs (6 * j + 1))]) (ci := 10) dL_law_370 lL_135 vX10_count rfl (by decide) rfl (by rw [hS1.1]; decide) (c_mq W.1 V1 (m_count (d := 0) W.1 HB WTt HR.1.1 HR.2.1.1 HR.2.2.2.1.1 HR.2.2.2.2.2)) rfl (Nat.le_of_ble_eq_true rfl) (Nat.le_of_ble_eq_true rfl) (Nat.le_of_ble_eq_true rfl) hu hw (fun q => absurd hS1.1 (Nat.ne_of_lt q)) (fun v2 g2 z2 => ?_) (fun _ _ z => z.elim)
  obtain ⟨⟨r, rfl, e1⟩, e2, e3, e4⟩ := z2
  exact law_tail (o := ((vCount (sC S) (sT S) (sA S).length (qM (sQ S)) (sP S).1 (sR S) (xs (6 * j + 1))).1, (vCount (sC S) (sT S) (sA S).length (qM (sQ S)) (sP S).1 (sR S) (xs (6 * j + 1))).2, S)) ⟨r2.q7 (Fq7.fj e4), e3, W⟩ e1 e2 (fun y => by rw [e4.2.2.1 103 0 (by decide)]; exact r1 y) o3_count nx (Nat.le_refl _) (Nat.le_refl _) hu hw dL_law_373 dL_law_375 dL_law_376 dL_law_379 dL_law_381 dL_law_386 dL_law_388 dL_law_391 dL_law_392 dL_law_393 dL_law_394 dL_law_396 dL_law_397 dL_law_398 dL_law_403 rfl
theorem o3_person {C : Cy} {T : Tn} {y0 y1 : Int32} : (vPerson C T y0 y1).1 < 3 := by
  unfold vPerson
  repeat (first | exact (show (0 : Nat) < 3 by decide) | refine nd_3 (by decide) ?_)
theorem o2_person {C : Cy} {T : Tn} {y0 y1 : Int32} : (vPerson C T y0 y1).1 ≠ 2 := by
  unfold vPerson
  repeat (first | exact (show ¬ (0 : Nat) = 2 by decide) | refine nd_2 ?_)
theorem lc_person {l : Launch} {L : Nat} {xs : Nat → Int32} {j : Nat} {h : Hp} {S : Sx} {u w : Nat} {a5 a6 : Option Value} (hl : l.stackTraces = false) (hj : 6 * j + 6 ≤ L) (hL : L ≤ 3072) (X : SS h S) (hu : u + 1 ≤ 1135) (hw : w + 6 ≤ 32708) (nx : Nx l L xs j u w) : Go l room_1 mL_law 0 (Zl L xs Zlw) 406 (lvL j a5 a6) [] h u w := by
  obtain ⟨K, V, W⟩ := X
  have hS := K.Stt
  have D9 := W.2.1.2.2.1
  have WTt := W.2.1.1
  have K0 := K
  obtain ⟨c, c0, fs, fr, z, _, KB, KRr⟩ := K0
  refine go_aloadn dL_law_406 rfl ?_
  refine go_sx (k := 1) (by omega) hL rfl dL_law_407 dL_law_408 dL_law_410 dL_law_411 dL_law_412 ?_
  refine go_sx (k := 2) (by omega) hL rfl dL_law_413 dL_law_414 dL_law_416 dL_law_417 dL_law_418 ?_
  refine go_aloadn dL_law_419 rfl ?_
  refine go_callSH (M' := mL_person) (as := [.ref 0, .int (xs (6 * j + 1)), .int (xs (6 * j + 2)), .ref 103]) dL_law_420 lL_136 hL_person (h_person (o := ((vPerson (sC S) (sT S) (xs (6 * j + 1)) (xs (6 * j + 2))).1, (vPerson (sC S) (sT S) (xs (6 * j + 1)) (xs (6 * j + 2))).2, S)) hS o2_person (c_q K (k_person (d := 0) hl W.1 KB))) rfl (Nat.le_of_ble_eq_true rfl) (Nat.le_of_ble_eq_true rfl) (Nat.le_of_ble_eq_true rfl) hu hw (fun q => absurd hS.1 (Nat.ne_of_lt q)) (fun v1 g1 q1 => ?_) (fun _ _ z => z.elim)
  obtain ⟨rfl, r1, r2, r3⟩ := q1
  have V1 : MV g1 S := ss_v W V _ r2 r3
  have hS1 := r2.Stt
  obtain ⟨as, ar, HB, HR⟩ := id V1
  refine go_ist5 dL_law_423 rfl ?_
  refine go_aloadn dL_law_425 rfl ?_
  refine go_sx (k := 1) (by omega) hL rfl dL_law_426 dL_law_427 dL_law_429 dL_law_430 dL_law_431 ?_
  refine go_sx (k := 2) (by omega) hL rfl dL_law_432 dL_law_433 dL_law_435 dL_law_436 dL_law_437 ?_
  refine go_callV_ (M' := mX10_person) (as := [.int (xs (6 * j + 1)), .int (xs (6 * j + 2))]) (ci := 10) dL_law_438 lL_139 vX10_person rfl (by decide) rfl (by rw [hS1.1]; decide) (c_mq W.1 V1 (m_person (d := 0) W.1 HB D9)) rfl (Nat.le_of_ble_eq_true rfl) (Nat.le_of_ble_eq_true rfl) (Nat.le_of_ble_eq_true rfl) hu hw (fun q => absurd hS1.1 (Nat.ne_of_lt q)) (fun v2 g2 z2 => ?_) (fun _ _ z => z.elim)
  obtain ⟨⟨r, rfl, e1⟩, e2, e3, e4⟩ := z2
  exact law_tail (o := ((vPerson (sC S) (sT S) (xs (6 * j + 1)) (xs (6 * j + 2))).1, (vPerson (sC S) (sT S) (xs (6 * j + 1)) (xs (6 * j + 2))).2, S)) ⟨r2.q7 (Fq7.fj e4), e3, W⟩ e1 e2 (fun y => by rw [e4.2.2.1 103 0 (by decide)]; exact r1 y) o3_person nx (Nat.le_refl _) (Nat.le_refl _) hu hw dL_law_441 dL_law_443 dL_law_444 dL_law_447 dL_law_449 dL_law_454 dL_law_456 dL_law_459 dL_law_460 dL_law_461 dL_law_462 dL_law_464 dL_law_465 dL_law_466 dL_law_471 rfl
theorem o3_thing {C : Cy} {T : Tn} {y0 y1 : Int32} : (vThing C T y0 y1).1 < 3 := by
  unfold vThing
  repeat (first | exact (show (0 : Nat) < 3 by decide) | refine nd_3 (by decide) ?_)
theorem o2_thing {C : Cy} {T : Tn} {y0 y1 : Int32} : (vThing C T y0 y1).1 ≠ 2 := by
  unfold vThing
  repeat (first | exact (show ¬ (0 : Nat) = 2 by decide) | refine nd_2 ?_)
theorem lc_thing {l : Launch} {L : Nat} {xs : Nat → Int32} {j : Nat} {h : Hp} {S : Sx} {u w : Nat} {a5 a6 : Option Value} (hl : l.stackTraces = false) (hj : 6 * j + 6 ≤ L) (hL : L ≤ 3072) (X : SS h S) (hu : u + 1 ≤ 1135) (hw : w + 6 ≤ 32708) (nx : Nx l L xs j u w) : Go l room_1 mL_law 0 (Zl L xs Zlw) 474 (lvL j a5 a6) [] h u w := by
  obtain ⟨K, V, W⟩ := X
  have hS := K.Stt
  have D9 := W.2.1.2.2.1
  have WTt := W.2.1.1
  have K0 := K
  obtain ⟨c, c0, fs, fr, z, _, KB, KRr⟩ := K0
  refine go_aloadn dL_law_474 rfl ?_
  refine go_sx (k := 1) (by omega) hL rfl dL_law_475 dL_law_476 dL_law_478 dL_law_479 dL_law_480 ?_
  refine go_sx (k := 2) (by omega) hL rfl dL_law_481 dL_law_482 dL_law_484 dL_law_485 dL_law_486 ?_
  refine go_aloadn dL_law_487 rfl ?_
  refine go_callSH (M' := mL_thing) (as := [.ref 0, .int (xs (6 * j + 1)), .int (xs (6 * j + 2)), .ref 103]) dL_law_488 lL_140 hL_thing (h_thing (o := ((vThing (sC S) (sT S) (xs (6 * j + 1)) (xs (6 * j + 2))).1, (vThing (sC S) (sT S) (xs (6 * j + 1)) (xs (6 * j + 2))).2, S)) hS o2_thing (c_q K (k_thing (d := 0) hl W.1 KB))) rfl (Nat.le_of_ble_eq_true rfl) (Nat.le_of_ble_eq_true rfl) (Nat.le_of_ble_eq_true rfl) hu hw (fun q => absurd hS.1 (Nat.ne_of_lt q)) (fun v1 g1 q1 => ?_) (fun _ _ z => z.elim)
  obtain ⟨rfl, r1, r2, r3⟩ := q1
  have V1 : MV g1 S := ss_v W V _ r2 r3
  have hS1 := r2.Stt
  obtain ⟨as, ar, HB, HR⟩ := id V1
  refine go_ist5 dL_law_491 rfl ?_
  refine go_aloadn dL_law_493 rfl ?_
  refine go_sx (k := 1) (by omega) hL rfl dL_law_494 dL_law_495 dL_law_497 dL_law_498 dL_law_499 ?_
  refine go_sx (k := 2) (by omega) hL rfl dL_law_500 dL_law_501 dL_law_503 dL_law_504 dL_law_505 ?_
  refine go_callV_ (M' := mX10_thing) (as := [.int (xs (6 * j + 1)), .int (xs (6 * j + 2))]) (ci := 10) dL_law_506 lL_142 vX10_thing rfl (by decide) rfl (by rw [hS1.1]; decide) (c_mq W.1 V1 (m_thing (d := 0) W.1 HB WTt D9)) rfl (Nat.le_of_ble_eq_true rfl) (Nat.le_of_ble_eq_true rfl) (Nat.le_of_ble_eq_true rfl) hu hw (fun q => absurd hS1.1 (Nat.ne_of_lt q)) (fun v2 g2 z2 => ?_) (fun _ _ z => z.elim)
  obtain ⟨⟨r, rfl, e1⟩, e2, e3, e4⟩ := z2
  exact law_tail (o := ((vThing (sC S) (sT S) (xs (6 * j + 1)) (xs (6 * j + 2))).1, (vThing (sC S) (sT S) (xs (6 * j + 1)) (xs (6 * j + 2))).2, S)) ⟨r2.q7 (Fq7.fj e4), e3, W⟩ e1 e2 (fun y => by rw [e4.2.2.1 103 0 (by decide)]; exact r1 y) o3_thing nx (Nat.le_refl _) (Nat.le_refl _) hu hw dL_law_509 dL_law_511 dL_law_512 dL_law_515 dL_law_517 dL_law_522 dL_law_524 dL_law_527 dL_law_528 dL_law_529 dL_law_530 dL_law_532 dL_law_533 dL_law_534 dL_law_539 rfl
theorem o3_then {C : Cy} {T : Tn} {y0 y1 y2 : Int32} : (vThen C T y0 y1 y2).1 < 3 := by
  unfold vThen
  repeat (first | exact (show (0 : Nat) < 3 by decide) | refine nd_3 (by decide) ?_)
theorem lc_then {l : Launch} {L : Nat} {xs : Nat → Int32} {j : Nat} {h : Hp} {S : Sx} {u w : Nat} {a5 a6 : Option Value} (hl : l.stackTraces = false) (hj : 6 * j + 6 ≤ L) (hL : L ≤ 3072) (X : SS h S) (hu : u + 1 ≤ 1135) (hw : w + 6 ≤ 32708) (nx : Nx l L xs j u w) : Go l room_1 mL_law 0 (Zl L xs Zlw) 852 (lvL j a5 a6) [] h u w := by
  obtain ⟨K, V, W⟩ := X
  have hS := K.Stt
  have D9 := W.2.1.2.2.1
  have WTt := W.2.1.1
  have K0 := K
  obtain ⟨c, c0, fs, fr, z, _, KB, KRr⟩ := K0
  refine go_aloadn dL_law_852 rfl ?_
  refine go_sx (k := 1) (by omega) hL rfl dL_law_853 dL_law_854 dL_law_856 dL_law_857 dL_law_858 ?_
  refine go_sx (k := 2) (by omega) hL rfl dL_law_859 dL_law_860 dL_law_862 dL_law_863 dL_law_864 ?_
  refine go_sx (k := 3) (by omega) hL rfl dL_law_865 dL_law_866 dL_law_868 dL_law_869 dL_law_870 ?_
  refine go_aloadn dL_law_871 rfl ?_
  refine go_callSH (M' := mL_then) (as := [.ref 0, .int (xs (6 * j + 1)), .int (xs (6 * j + 2)), .int (xs (6 * j + 3)), .ref 103]) dL_law_872 lL_164 hL_then (h_then (o := ((vThen (sC S) (sT S) (xs (6 * j + 1)) (xs (6 * j + 2)) (xs (6 * j + 3))).1, (vThen (sC S) (sT S) (xs (6 * j + 1)) (xs (6 * j + 2)) (xs (6 * j + 3))).2, S)) hS (c_q K (k_then (d := 0) hl W.1 KB D9))) rfl (Nat.le_of_ble_eq_true rfl) (Nat.le_of_ble_eq_true rfl) (Nat.le_of_ble_eq_true rfl) hu hw (fun q => absurd hS.1 (Nat.ne_of_lt q)) (fun v1 g1 q1 => ?_) (fun _ _ z => z.elim)
  obtain ⟨rfl, r1, r2, r3⟩ := q1
  have V1 : MV g1 S := ss_v W V _ r2 r3
  have hS1 := r2.Stt
  obtain ⟨as, ar, HB, HR⟩ := id V1
  refine go_ist5 dL_law_875 rfl ?_
  refine go_aloadn dL_law_877 rfl ?_
  refine go_sx (k := 1) (by omega) hL rfl dL_law_878 dL_law_879 dL_law_881 dL_law_882 dL_law_883 ?_
  refine go_sx (k := 2) (by omega) hL rfl dL_law_884 dL_law_885 dL_law_887 dL_law_888 dL_law_889 ?_
  refine go_sx (k := 3) (by omega) hL rfl dL_law_890 dL_law_891 dL_law_893 dL_law_894 dL_law_895 ?_
  refine go_callV_ (M' := mX10_then) (as := [.int (xs (6 * j + 1)), .int (xs (6 * j + 2)), .int (xs (6 * j + 3))]) (ci := 10) dL_law_896 lL_166 vX10_then rfl (by decide) rfl (by rw [hS1.1]; decide) (c_mq W.1 V1 (m_then (d := 0) W.1 HB WTt D9)) rfl (Nat.le_of_ble_eq_true rfl) (Nat.le_of_ble_eq_true rfl) (Nat.le_of_ble_eq_true rfl) hu hw (fun q => absurd hS1.1 (Nat.ne_of_lt q)) (fun v2 g2 z2 => ?_) (fun _ _ z => z.elim)
  obtain ⟨⟨r, rfl, e1⟩, e2, e3, e4⟩ := z2
  exact law_tail (o := ((vThen (sC S) (sT S) (xs (6 * j + 1)) (xs (6 * j + 2)) (xs (6 * j + 3))).1, (vThen (sC S) (sT S) (xs (6 * j + 1)) (xs (6 * j + 2)) (xs (6 * j + 3))).2, S)) ⟨r2.q7 (Fq7.fj e4), e3, W⟩ e1 e2 (fun y => by rw [e4.2.2.1 103 0 (by decide)]; exact r1 y) o3_then nx (Nat.le_refl _) (Nat.le_refl _) hu hw dL_law_899 dL_law_901 dL_law_902 dL_law_905 dL_law_907 dL_law_912 dL_law_914 dL_law_917 dL_law_918 dL_law_919 dL_law_920 dL_law_922 dL_law_923 dL_law_924 dL_law_929 rfl
theorem o3_later {C : Cy} {T : Tn} {y0 y1 y2 : Int32} : (vLater C T y0 y1 y2).1 < 3 := by
  unfold vLater
  repeat (first | exact (show (0 : Nat) < 3 by decide) | refine nd_3 (by decide) ?_)
theorem lc_later {l : Launch} {L : Nat} {xs : Nat → Int32} {j : Nat} {h : Hp} {S : Sx} {u w : Nat} {a5 a6 : Option Value} (hl : l.stackTraces = false) (hj : 6 * j + 6 ≤ L) (hL : L ≤ 3072) (X : SS h S) (hu : u + 1 ≤ 1135) (hw : w + 6 ≤ 32708) (nx : Nx l L xs j u w) : Go l room_1 mL_law 0 (Zl L xs Zlw) 932 (lvL j a5 a6) [] h u w := by
  obtain ⟨K, V, W⟩ := X
  have hS := K.Stt
  have D9 := W.2.1.2.2.1
  have WTt := W.2.1.1
  have K0 := K
  obtain ⟨c, c0, fs, fr, z, _, KB, KRr⟩ := K0
  refine go_aloadn dL_law_932 rfl ?_
  refine go_sx (k := 1) (by omega) hL rfl dL_law_933 dL_law_934 dL_law_936 dL_law_937 dL_law_938 ?_
  refine go_sx (k := 2) (by omega) hL rfl dL_law_939 dL_law_940 dL_law_942 dL_law_943 dL_law_944 ?_
  refine go_sx (k := 3) (by omega) hL rfl dL_law_945 dL_law_946 dL_law_948 dL_law_949 dL_law_950 ?_
  refine go_aloadn dL_law_951 rfl ?_
  refine go_callSH (M' := mL_later) (as := [.ref 0, .int (xs (6 * j + 1)), .int (xs (6 * j + 2)), .int (xs (6 * j + 3)), .ref 103]) dL_law_952 lL_167 hL_later (h_later (o := ((vLater (sC S) (sT S) (xs (6 * j + 1)) (xs (6 * j + 2)) (xs (6 * j + 3))).1, (vLater (sC S) (sT S) (xs (6 * j + 1)) (xs (6 * j + 2)) (xs (6 * j + 3))).2, S)) hS (c_q K (k_later (d := 0) hl W.1 KB D9))) rfl (Nat.le_of_ble_eq_true rfl) (Nat.le_of_ble_eq_true rfl) (Nat.le_of_ble_eq_true rfl) hu hw (fun q => absurd hS.1 (Nat.ne_of_lt q)) (fun v1 g1 q1 => ?_) (fun _ _ z => z.elim)
  obtain ⟨rfl, r1, r2, r3⟩ := q1
  have V1 : MV g1 S := ss_v W V _ r2 r3
  have hS1 := r2.Stt
  obtain ⟨as, ar, HB, HR⟩ := id V1
  refine go_ist5 dL_law_955 rfl ?_
  refine go_aloadn dL_law_957 rfl ?_
  refine go_sx (k := 1) (by omega) hL rfl dL_law_958 dL_law_959 dL_law_961 dL_law_962 dL_law_963 ?_
  refine go_sx (k := 2) (by omega) hL rfl dL_law_964 dL_law_965 dL_law_967 dL_law_968 dL_law_969 ?_
  refine go_sx (k := 3) (by omega) hL rfl dL_law_970 dL_law_971 dL_law_973 dL_law_974 dL_law_975 ?_
  refine go_callV_ (M' := mX10_later) (as := [.int (xs (6 * j + 1)), .int (xs (6 * j + 2)), .int (xs (6 * j + 3))]) (ci := 10) dL_law_976 lL_169 vX10_later rfl (by decide) rfl (by rw [hS1.1]; decide) (c_mq W.1 V1 (m_later (d := 0) W.1 HB WTt D9)) rfl (Nat.le_of_ble_eq_true rfl) (Nat.le_of_ble_eq_true rfl) (Nat.le_of_ble_eq_true rfl) hu hw (fun q => absurd hS1.1 (Nat.ne_of_lt q)) (fun v2 g2 z2 => ?_) (fun _ _ z => z.elim)
  obtain ⟨⟨r, rfl, e1⟩, e2, e3, e4⟩ := z2
  exact law_tail (o := ((vLater (sC S) (sT S) (xs (6 * j + 1)) (xs (6 * j + 2)) (xs (6 * j + 3))).1, (vLater (sC S) (sT S) (xs (6 * j + 1)) (xs (6 * j + 2)) (xs (6 * j + 3))).2, S)) ⟨r2.q7 (Fq7.fj e4), e3, W⟩ e1 e2 (fun y => by rw [e4.2.2.1 103 0 (by decide)]; exact r1 y) o3_later nx (Nat.le_refl _) (Nat.le_refl _) hu hw dL_law_979 dL_law_981 dL_law_982 dL_law_985 dL_law_987 dL_law_992 dL_law_994 dL_law_997 dL_law_998 dL_law_999 dL_law_1000 dL_law_1002 dL_law_1003 dL_law_1004 dL_law_1009 rfl
theorem o3_when {C : Cy} {T : Tn} {y0 y1 : Int32} : (vWhen C T y0 y1).1 < 3 := by
  unfold vWhen
  repeat (first | exact (show (0 : Nat) < 3 by decide) | refine nd_3 (by decide) ?_)
theorem o2_when {C : Cy} {T : Tn} {y0 y1 : Int32} : (vWhen C T y0 y1).1 ≠ 2 := by
  unfold vWhen
  repeat (first | exact (show ¬ (0 : Nat) = 2 by decide) | refine nd_2 ?_)
theorem lc_when {l : Launch} {L : Nat} {xs : Nat → Int32} {j : Nat} {h : Hp} {S : Sx} {u w : Nat} {a5 a6 : Option Value} (hl : l.stackTraces = false) (hj : 6 * j + 6 ≤ L) (hL : L ≤ 3072) (X : SS h S) (hu : u + 1 ≤ 1135) (hw : w + 6 ≤ 32708) (nx : Nx l L xs j u w) : Go l room_1 mL_law 0 (Zl L xs Zlw) 1012 (lvL j a5 a6) [] h u w := by
  obtain ⟨K, V, W⟩ := X
  have hS := K.Stt
  have D9 := W.2.1.2.2.1
  have WTt := W.2.1.1
  have K0 := K
  obtain ⟨c, c0, fs, fr, z, _, KB, KRr⟩ := K0
  refine go_aloadn dL_law_1012 rfl ?_
  refine go_sx (k := 1) (by omega) hL rfl dL_law_1013 dL_law_1014 dL_law_1016 dL_law_1017 dL_law_1018 ?_
  refine go_sx (k := 2) (by omega) hL rfl dL_law_1019 dL_law_1020 dL_law_1022 dL_law_1023 dL_law_1024 ?_
  refine go_aloadn dL_law_1025 rfl ?_
  refine go_callSH (M' := mL_when) (as := [.ref 0, .int (xs (6 * j + 1)), .int (xs (6 * j + 2)), .ref 103]) dL_law_1026 lL_170 hL_when (h_when (o := ((vWhen (sC S) (sT S) (xs (6 * j + 1)) (xs (6 * j + 2))).1, (vWhen (sC S) (sT S) (xs (6 * j + 1)) (xs (6 * j + 2))).2, S)) hS o2_when (c_q K (k_when (d := 0) hl W.1 KB D9))) rfl (Nat.le_of_ble_eq_true rfl) (Nat.le_of_ble_eq_true rfl) (Nat.le_of_ble_eq_true rfl) hu hw (fun q => absurd hS.1 (Nat.ne_of_lt q)) (fun v1 g1 q1 => ?_) (fun _ _ z => z.elim)
  obtain ⟨rfl, r1, r2, r3⟩ := q1
  have V1 : MV g1 S := ss_v W V _ r2 r3
  have hS1 := r2.Stt
  obtain ⟨as, ar, HB, HR⟩ := id V1
  refine go_ist5 dL_law_1029 rfl ?_
  refine go_aloadn dL_law_1031 rfl ?_
  refine go_sx (k := 1) (by omega) hL rfl dL_law_1032 dL_law_1033 dL_law_1035 dL_law_1036 dL_law_1037 ?_
  refine go_sx (k := 2) (by omega) hL rfl dL_law_1038 dL_law_1039 dL_law_1041 dL_law_1042 dL_law_1043 ?_
  refine go_callV_ (M' := mX10_when) (as := [.int (xs (6 * j + 1)), .int (xs (6 * j + 2))]) (ci := 10) dL_law_1044 lL_172 vX10_when rfl (by decide) rfl (by rw [hS1.1]; decide) (c_mq W.1 V1 (m_when (d := 0) W.1 HB WTt D9)) rfl (Nat.le_of_ble_eq_true rfl) (Nat.le_of_ble_eq_true rfl) (Nat.le_of_ble_eq_true rfl) hu hw (fun q => absurd hS1.1 (Nat.ne_of_lt q)) (fun v2 g2 z2 => ?_) (fun _ _ z => z.elim)
  obtain ⟨⟨r, rfl, e1⟩, e2, e3, e4⟩ := z2
  exact law_tail (o := ((vWhen (sC S) (sT S) (xs (6 * j + 1)) (xs (6 * j + 2))).1, (vWhen (sC S) (sT S) (xs (6 * j + 1)) (xs (6 * j + 2))).2, S)) ⟨r2.q7 (Fq7.fj e4), e3, W⟩ e1 e2 (fun y => by rw [e4.2.2.1 103 0 (by decide)]; exact r1 y) o3_when nx (Nat.le_refl _) (Nat.le_refl _) hu hw dL_law_1047 dL_law_1049 dL_law_1050 dL_law_1053 dL_law_1055 dL_law_1060 dL_law_1062 dL_law_1065 dL_law_1066 dL_law_1067 dL_law_1068 dL_law_1070 dL_law_1071 dL_law_1072 dL_law_1077 rfl
theorem o3_all {C : Cy} {T : Tn} {y0 y1 : Int32} : (vAll C T y0 y1).1 < 3 := by
  unfold vAll
  repeat (first | exact (show (0 : Nat) < 3 by decide) | refine nd_3 (by decide) ?_)
theorem lc_all {l : Launch} {L : Nat} {xs : Nat → Int32} {j : Nat} {h : Hp} {S : Sx} {u w : Nat} {a5 a6 : Option Value} (hl : l.stackTraces = false) (hj : 6 * j + 6 ≤ L) (hL : L ≤ 3072) (X : SS h S) (hu : u + 1 ≤ 1135) (hw : w + 6 ≤ 32708) (nx : Nx l L xs j u w) : Go l room_1 mL_law 0 (Zl L xs Zlw) 1080 (lvL j a5 a6) [] h u w := by
  obtain ⟨K, V, W⟩ := X
  have hS := K.Stt
  have D9 := W.2.1.2.2.1
  have WTt := W.2.1.1
  have K0 := K
  obtain ⟨c, c0, fs, fr, z, _, KB, KRr⟩ := K0
  refine go_aloadn dL_law_1080 rfl ?_
  refine go_sx (k := 1) (by omega) hL rfl dL_law_1081 dL_law_1082 dL_law_1084 dL_law_1085 dL_law_1086 ?_
  refine go_sx (k := 2) (by omega) hL rfl dL_law_1087 dL_law_1088 dL_law_1090 dL_law_1091 dL_law_1092 ?_
  refine go_aloadn dL_law_1093 rfl ?_
  refine go_callSH (M' := mL_all) (as := [.ref 0, .int (xs (6 * j + 1)), .int (xs (6 * j + 2)), .ref 103]) dL_law_1094 lL_173 hL_all (h_all (o := ((vAll (sC S) (sT S) (xs (6 * j + 1)) (xs (6 * j + 2))).1, (vAll (sC S) (sT S) (xs (6 * j + 1)) (xs (6 * j + 2))).2, S)) hS (c_q K (k_all (d := 0) hl W.1 KB D9))) rfl (Nat.le_of_ble_eq_true rfl) (Nat.le_of_ble_eq_true rfl) (Nat.le_of_ble_eq_true rfl) hu hw (fun q => absurd hS.1 (Nat.ne_of_lt q)) (fun v1 g1 q1 => ?_) (fun _ _ z => z.elim)
  obtain ⟨rfl, r1, r2, r3⟩ := q1
  have V1 : MV g1 S := ss_v W V _ r2 r3
  have hS1 := r2.Stt
  obtain ⟨as, ar, HB, HR⟩ := id V1
  refine go_ist5 dL_law_1097 rfl ?_
  refine go_aloadn dL_law_1099 rfl ?_
  refine go_sx (k := 1) (by omega) hL rfl dL_law_1100 dL_law_1101 dL_law_1103 dL_law_1104 dL_law_1105 ?_
  refine go_sx (k := 2) (by omega) hL rfl dL_law_1106 dL_law_1107 dL_law_1109 dL_law_1110 dL_law_1111 ?_
  refine go_callV_ (M' := mX10_all) (as := [.int (xs (6 * j + 1)), .int (xs (6 * j + 2))]) (ci := 10) dL_law_1112 lL_175 vX10_all rfl (by decide) rfl (by rw [hS1.1]; decide) (c_mq W.1 V1 (m_all (d := 0) W.1 HB WTt D9)) rfl (Nat.le_of_ble_eq_true rfl) (Nat.le_of_ble_eq_true rfl) (Nat.le_of_ble_eq_true rfl) hu hw (fun q => absurd hS1.1 (Nat.ne_of_lt q)) (fun v2 g2 z2 => ?_) (fun _ _ z => z.elim)
  obtain ⟨⟨r, rfl, e1⟩, e2, e3, e4⟩ := z2
  exact law_tail (o := ((vAll (sC S) (sT S) (xs (6 * j + 1)) (xs (6 * j + 2))).1, (vAll (sC S) (sT S) (xs (6 * j + 1)) (xs (6 * j + 2))).2, S)) ⟨r2.q7 (Fq7.fj e4), e3, W⟩ e1 e2 (fun y => by rw [e4.2.2.1 103 0 (by decide)]; exact r1 y) o3_all nx (Nat.le_refl _) (Nat.le_refl _) hu hw dL_law_1115 dL_law_1117 dL_law_1118 dL_law_1121 dL_law_1123 dL_law_1128 dL_law_1130 dL_law_1133 dL_law_1134 dL_law_1135 dL_law_1136 dL_law_1138 dL_law_1139 dL_law_1140 dL_law_1145 rfl
theorem o3_where {C : Cy} {T : Tn} {y0 y1 y2 : Int32} : (vWhere C T y0 y1 y2).1 < 3 := by
  unfold vWhere
  repeat (first | exact (show (0 : Nat) < 3 by decide) | refine nd_3 (by decide) ?_)
theorem lc_where {l : Launch} {L : Nat} {xs : Nat → Int32} {j : Nat} {h : Hp} {S : Sx} {u w : Nat} {a5 a6 : Option Value} (hl : l.stackTraces = false) (hj : 6 * j + 6 ≤ L) (hL : L ≤ 3072) (X : SS h S) (hu : u + 1 ≤ 1135) (hw : w + 6 ≤ 32708) (nx : Nx l L xs j u w) : Go l room_1 mL_law 0 (Zl L xs Zlw) 1148 (lvL j a5 a6) [] h u w := by
  obtain ⟨K, V, W⟩ := X
  have hS := K.Stt
  have D9 := W.2.1.2.2.1
  have WTt := W.2.1.1
  have K0 := K
  obtain ⟨c, c0, fs, fr, z, _, KB, KRr⟩ := K0
  refine go_aloadn dL_law_1148 rfl ?_
  refine go_sx (k := 1) (by omega) hL rfl dL_law_1149 dL_law_1150 dL_law_1152 dL_law_1153 dL_law_1154 ?_
  refine go_sx (k := 2) (by omega) hL rfl dL_law_1155 dL_law_1156 dL_law_1158 dL_law_1159 dL_law_1160 ?_
  refine go_sx (k := 3) (by omega) hL rfl dL_law_1161 dL_law_1162 dL_law_1164 dL_law_1165 dL_law_1166 ?_
  refine go_aloadn dL_law_1167 rfl ?_
  refine go_callSH (M' := mL_where) (as := [.ref 0, .int (xs (6 * j + 1)), .int (xs (6 * j + 2)), .int (xs (6 * j + 3)), .ref 103]) dL_law_1168 lL_176 hL_where (h_where (o := ((vWhere (sC S) (sT S) (xs (6 * j + 1)) (xs (6 * j + 2)) (xs (6 * j + 3))).1, (vWhere (sC S) (sT S) (xs (6 * j + 1)) (xs (6 * j + 2)) (xs (6 * j + 3))).2, S)) hS (c_q K (k_where (d := 0) hl W.1 KB D9))) rfl (Nat.le_of_ble_eq_true rfl) (Nat.le_of_ble_eq_true rfl) (Nat.le_of_ble_eq_true rfl) hu hw (fun q => absurd hS.1 (Nat.ne_of_lt q)) (fun v1 g1 q1 => ?_) (fun _ _ z => z.elim)
  obtain ⟨rfl, r1, r2, r3⟩ := q1
  have V1 : MV g1 S := ss_v W V _ r2 r3
  have hS1 := r2.Stt
  obtain ⟨as, ar, HB, HR⟩ := id V1
  refine go_ist5 dL_law_1171 rfl ?_
  refine go_aloadn dL_law_1173 rfl ?_
  refine go_sx (k := 1) (by omega) hL rfl dL_law_1174 dL_law_1175 dL_law_1177 dL_law_1178 dL_law_1179 ?_
  refine go_sx (k := 2) (by omega) hL rfl dL_law_1180 dL_law_1181 dL_law_1183 dL_law_1184 dL_law_1185 ?_
  refine go_sx (k := 3) (by omega) hL rfl dL_law_1186 dL_law_1187 dL_law_1189 dL_law_1190 dL_law_1191 ?_
  refine go_callV_ (M' := mX10_where) (as := [.int (xs (6 * j + 1)), .int (xs (6 * j + 2)), .int (xs (6 * j + 3))]) (ci := 10) dL_law_1192 lL_178 vX10_where rfl (by decide) rfl (by rw [hS1.1]; decide) (c_mq W.1 V1 (m_where (d := 0) W.1 HB D9)) rfl (Nat.le_of_ble_eq_true rfl) (Nat.le_of_ble_eq_true rfl) (Nat.le_of_ble_eq_true rfl) hu hw (fun q => absurd hS1.1 (Nat.ne_of_lt q)) (fun v2 g2 z2 => ?_) (fun _ _ z => z.elim)
  obtain ⟨⟨r, rfl, e1⟩, e2, e3, e4⟩ := z2
  exact law_tail (o := ((vWhere (sC S) (sT S) (xs (6 * j + 1)) (xs (6 * j + 2)) (xs (6 * j + 3))).1, (vWhere (sC S) (sT S) (xs (6 * j + 1)) (xs (6 * j + 2)) (xs (6 * j + 3))).2, S)) ⟨r2.q7 (Fq7.fj e4), e3, W⟩ e1 e2 (fun y => by rw [e4.2.2.1 103 0 (by decide)]; exact r1 y) o3_where nx (Nat.le_refl _) (Nat.le_refl _) hu hw dL_law_1195 dL_law_1197 dL_law_1198 dL_law_1201 dL_law_1203 dL_law_1208 dL_law_1210 dL_law_1213 dL_law_1214 dL_law_1215 dL_law_1216 dL_law_1218 dL_law_1219 dL_law_1220 dL_law_1225 rfl
theorem o3_toStand {C : Cy} {T : Tn} {y0 y1 : Int32} : (vToStand C T y0 y1).1 < 3 := by
  unfold vToStand
  repeat (first | exact (show (0 : Nat) < 3 by decide) | refine nd_3 (by decide) ?_)
theorem o2_toStand {C : Cy} {T : Tn} {y0 y1 : Int32} : (vToStand C T y0 y1).1 ≠ 2 := by
  unfold vToStand
  repeat (first | exact (show ¬ (0 : Nat) = 2 by decide) | refine nd_2 ?_)
theorem lc_toStand {l : Launch} {L : Nat} {xs : Nat → Int32} {j : Nat} {h : Hp} {S : Sx} {u w : Nat} {a5 a6 : Option Value} (hl : l.stackTraces = false) (hj : 6 * j + 6 ≤ L) (hL : L ≤ 3072) (X : SS h S) (hu : u + 1 ≤ 1135) (hw : w + 6 ≤ 32708) (nx : Nx l L xs j u w) : Go l room_1 mL_law 0 (Zl L xs Zlw) 1228 (lvL j a5 a6) [] h u w := by
  obtain ⟨K, V, W⟩ := X
  have hS := K.Stt
  have D9 := W.2.1.2.2.1
  have WTt := W.2.1.1
  have K0 := K
  obtain ⟨c, c0, fs, fr, z, _, KB, KRr⟩ := K0
  refine go_aloadn dL_law_1228 rfl ?_
  refine go_sx (k := 1) (by omega) hL rfl dL_law_1229 dL_law_1230 dL_law_1232 dL_law_1233 dL_law_1234 ?_
  refine go_sx (k := 2) (by omega) hL rfl dL_law_1235 dL_law_1236 dL_law_1238 dL_law_1239 dL_law_1240 ?_
  refine go_aloadn dL_law_1241 rfl ?_
  refine go_callSH (M' := mL_toStand) (as := [.ref 0, .int (xs (6 * j + 1)), .int (xs (6 * j + 2)), .ref 103]) dL_law_1242 lL_179 hL_toStand (h_toStand (o := ((vToStand (sC S) (sT S) (xs (6 * j + 1)) (xs (6 * j + 2))).1, (vToStand (sC S) (sT S) (xs (6 * j + 1)) (xs (6 * j + 2))).2, S)) hS o2_toStand (c_q K (k_toStand (d := 0) hl W.1 KB D9))) rfl (Nat.le_of_ble_eq_true rfl) (Nat.le_of_ble_eq_true rfl) (Nat.le_of_ble_eq_true rfl) hu hw (fun q => absurd hS.1 (Nat.ne_of_lt q)) (fun v1 g1 q1 => ?_) (fun _ _ z => z.elim)
  obtain ⟨rfl, r1, r2, r3⟩ := q1
  have V1 : MV g1 S := ss_v W V _ r2 r3
  have hS1 := r2.Stt
  obtain ⟨as, ar, HB, HR⟩ := id V1
  refine go_ist5 dL_law_1245 rfl ?_
  refine go_aloadn dL_law_1247 rfl ?_
  refine go_sx (k := 1) (by omega) hL rfl dL_law_1248 dL_law_1249 dL_law_1251 dL_law_1252 dL_law_1253 ?_
  refine go_sx (k := 2) (by omega) hL rfl dL_law_1254 dL_law_1255 dL_law_1257 dL_law_1258 dL_law_1259 ?_
  refine go_callV_ (M' := mX10_toStand) (as := [.int (xs (6 * j + 1)), .int (xs (6 * j + 2))]) (ci := 10) dL_law_1260 lL_181 vX10_toStand rfl (by decide) rfl (by rw [hS1.1]; decide) (c_mq W.1 V1 (m_toStand (d := 0) W.1 HB WTt D9)) rfl (Nat.le_of_ble_eq_true rfl) (Nat.le_of_ble_eq_true rfl) (Nat.le_of_ble_eq_true rfl) hu hw (fun q => absurd hS1.1 (Nat.ne_of_lt q)) (fun v2 g2 z2 => ?_) (fun _ _ z => z.elim)
  obtain ⟨⟨r, rfl, e1⟩, e2, e3, e4⟩ := z2
  exact law_tail (o := ((vToStand (sC S) (sT S) (xs (6 * j + 1)) (xs (6 * j + 2))).1, (vToStand (sC S) (sT S) (xs (6 * j + 1)) (xs (6 * j + 2))).2, S)) ⟨r2.q7 (Fq7.fj e4), e3, W⟩ e1 e2 (fun y => by rw [e4.2.2.1 103 0 (by decide)]; exact r1 y) o3_toStand nx (Nat.le_refl _) (Nat.le_refl _) hu hw dL_law_1263 dL_law_1265 dL_law_1266 dL_law_1269 dL_law_1271 dL_law_1276 dL_law_1278 dL_law_1281 dL_law_1282 dL_law_1283 dL_law_1284 dL_law_1286 dL_law_1287 dL_law_1288 dL_law_1293 rfl
theorem o3_toSteal {C : Cy} {T : Tn} {y0 y1 : Int32} : (vToSteal C T y0 y1).1 < 3 := by
  unfold vToSteal
  repeat (first | exact (show (0 : Nat) < 3 by decide) | refine nd_3 (by decide) ?_)
theorem o2_toSteal {C : Cy} {T : Tn} {y0 y1 : Int32} : (vToSteal C T y0 y1).1 ≠ 2 := by
  unfold vToSteal
  repeat (first | exact (show ¬ (0 : Nat) = 2 by decide) | refine nd_2 ?_)
theorem lc_toSteal {l : Launch} {L : Nat} {xs : Nat → Int32} {j : Nat} {h : Hp} {S : Sx} {u w : Nat} {a5 a6 : Option Value} (hl : l.stackTraces = false) (hj : 6 * j + 6 ≤ L) (hL : L ≤ 3072) (X : SS h S) (hu : u + 1 ≤ 1135) (hw : w + 6 ≤ 32708) (nx : Nx l L xs j u w) : Go l room_1 mL_law 0 (Zl L xs Zlw) 1296 (lvL j a5 a6) [] h u w := by
  obtain ⟨K, V, W⟩ := X
  have hS := K.Stt
  have D9 := W.2.1.2.2.1
  have WTt := W.2.1.1
  have K0 := K
  obtain ⟨c, c0, fs, fr, z, _, KB, KRr⟩ := K0
  refine go_aloadn dL_law_1296 rfl ?_
  refine go_sx (k := 1) (by omega) hL rfl dL_law_1297 dL_law_1298 dL_law_1300 dL_law_1301 dL_law_1302 ?_
  refine go_sx (k := 2) (by omega) hL rfl dL_law_1303 dL_law_1304 dL_law_1306 dL_law_1307 dL_law_1308 ?_
  refine go_aloadn dL_law_1309 rfl ?_
  refine go_callSH (M' := mL_toSteal) (as := [.ref 0, .int (xs (6 * j + 1)), .int (xs (6 * j + 2)), .ref 103]) dL_law_1310 lL_182 hL_toSteal (h_toSteal (o := ((vToSteal (sC S) (sT S) (xs (6 * j + 1)) (xs (6 * j + 2))).1, (vToSteal (sC S) (sT S) (xs (6 * j + 1)) (xs (6 * j + 2))).2, S)) hS o2_toSteal (c_q K (k_toSteal (d := 0) hl W.1 KB D9))) rfl (Nat.le_of_ble_eq_true rfl) (Nat.le_of_ble_eq_true rfl) (Nat.le_of_ble_eq_true rfl) hu hw (fun q => absurd hS.1 (Nat.ne_of_lt q)) (fun v1 g1 q1 => ?_) (fun _ _ z => z.elim)
  obtain ⟨rfl, r1, r2, r3⟩ := q1
  have V1 : MV g1 S := ss_v W V _ r2 r3
  have hS1 := r2.Stt
  obtain ⟨as, ar, HB, HR⟩ := id V1
  refine go_ist5 dL_law_1313 rfl ?_
  refine go_aloadn dL_law_1315 rfl ?_
  refine go_sx (k := 1) (by omega) hL rfl dL_law_1316 dL_law_1317 dL_law_1319 dL_law_1320 dL_law_1321 ?_
  refine go_sx (k := 2) (by omega) hL rfl dL_law_1322 dL_law_1323 dL_law_1325 dL_law_1326 dL_law_1327 ?_
  refine go_callV_ (M' := mX10_toSteal) (as := [.int (xs (6 * j + 1)), .int (xs (6 * j + 2))]) (ci := 10) dL_law_1328 lL_184 vX10_toSteal rfl (by decide) rfl (by rw [hS1.1]; decide) (c_mq W.1 V1 (m_toSteal (d := 0) W.1 HB WTt D9)) rfl (Nat.le_of_ble_eq_true rfl) (Nat.le_of_ble_eq_true rfl) (Nat.le_of_ble_eq_true rfl) hu hw (fun q => absurd hS1.1 (Nat.ne_of_lt q)) (fun v2 g2 z2 => ?_) (fun _ _ z => z.elim)
  obtain ⟨⟨r, rfl, e1⟩, e2, e3, e4⟩ := z2
  exact law_tail (o := ((vToSteal (sC S) (sT S) (xs (6 * j + 1)) (xs (6 * j + 2))).1, (vToSteal (sC S) (sT S) (xs (6 * j + 1)) (xs (6 * j + 2))).2, S)) ⟨r2.q7 (Fq7.fj e4), e3, W⟩ e1 e2 (fun y => by rw [e4.2.2.1 103 0 (by decide)]; exact r1 y) o3_toSteal nx (Nat.le_refl _) (Nat.le_refl _) hu hw dL_law_1331 dL_law_1333 dL_law_1334 dL_law_1337 dL_law_1339 dL_law_1344 dL_law_1346 dL_law_1349 dL_law_1350 dL_law_1351 dL_law_1352 dL_law_1354 dL_law_1355 dL_law_1356 dL_law_1361 rfl
theorem o3_watch {C : Cy} {T : Tn} {y0 : Int32} : (vWatch C T y0).1 < 3 := by
  unfold vWatch
  repeat (first | exact (show (0 : Nat) < 3 by decide) | refine nd_3 (by decide) ?_)
theorem o2_watch {C : Cy} {T : Tn} {y0 : Int32} : (vWatch C T y0).1 ≠ 2 := by
  unfold vWatch
  repeat (first | exact (show ¬ (0 : Nat) = 2 by decide) | refine nd_2 ?_)
theorem lc_watch {l : Launch} {L : Nat} {xs : Nat → Int32} {j : Nat} {h : Hp} {S : Sx} {u w : Nat} {a5 a6 : Option Value} (hl : l.stackTraces = false) (hj : 6 * j + 6 ≤ L) (hL : L ≤ 3072) (X : SS h S) (hu : u + 1 ≤ 1135) (hw : w + 6 ≤ 32708) (nx : Nx l L xs j u w) : Go l room_1 mL_law 0 (Zl L xs Zlw) 1364 (lvL j a5 a6) [] h u w := by
  obtain ⟨K, V, W⟩ := X
  have hS := K.Stt
  have D9 := W.2.1.2.2.1
  have WTt := W.2.1.1
  have K0 := K
  obtain ⟨c, c0, fs, fr, z, _, KB, KRr⟩ := K0
  refine go_aloadn dL_law_1364 rfl ?_
  refine go_sx (k := 1) (by omega) hL rfl dL_law_1365 dL_law_1366 dL_law_1368 dL_law_1369 dL_law_1370 ?_
  refine go_aloadn dL_law_1371 rfl ?_
  refine go_callSH (M' := mL_watch) (as := [.ref 0, .int (xs (6 * j + 1)), .ref 103]) dL_law_1372 lL_185 hL_watch (h_watch (o := ((vWatch (sC S) (sT S) (xs (6 * j + 1))).1, (vWatch (sC S) (sT S) (xs (6 * j + 1))).2, S)) hS o2_watch (c_q K (k_watch (d := 0) hl W.1 KB))) rfl (Nat.le_of_ble_eq_true rfl) (Nat.le_of_ble_eq_true rfl) (Nat.le_of_ble_eq_true rfl) hu hw (fun q => absurd hS.1 (Nat.ne_of_lt q)) (fun v1 g1 q1 => ?_) (fun _ _ z => z.elim)
  obtain ⟨rfl, r1, r2, r3⟩ := q1
  have V1 : MV g1 S := ss_v W V _ r2 r3
  have hS1 := r2.Stt
  obtain ⟨as, ar, HB, HR⟩ := id V1
  refine go_ist5 dL_law_1375 rfl ?_
  refine go_aloadn dL_law_1377 rfl ?_
  refine go_sx (k := 1) (by omega) hL rfl dL_law_1378 dL_law_1379 dL_law_1381 dL_law_1382 dL_law_1383 ?_
  refine go_callV_ (M' := mX10_watch) (as := [.int (xs (6 * j + 1))]) (ci := 10) dL_law_1384 lL_187 vX10_watch rfl (by decide) rfl (by rw [hS1.1]; decide) (c_mq W.1 V1 (m_watch (d := 0) W.1 HB WTt D9)) rfl (Nat.le_of_ble_eq_true rfl) (Nat.le_of_ble_eq_true rfl) (Nat.le_of_ble_eq_true rfl) hu hw (fun q => absurd hS1.1 (Nat.ne_of_lt q)) (fun v2 g2 z2 => ?_) (fun _ _ z => z.elim)
  obtain ⟨⟨r, rfl, e1⟩, e2, e3, e4⟩ := z2
  exact law_tail (o := ((vWatch (sC S) (sT S) (xs (6 * j + 1))).1, (vWatch (sC S) (sT S) (xs (6 * j + 1))).2, S)) ⟨r2.q7 (Fq7.fj e4), e3, W⟩ e1 e2 (fun y => by rw [e4.2.2.1 103 0 (by decide)]; exact r1 y) o3_watch nx (Nat.le_refl _) (Nat.le_refl _) hu hw dL_law_1387 dL_law_1389 dL_law_1390 dL_law_1393 dL_law_1395 dL_law_1400 dL_law_1402 dL_law_1405 dL_law_1406 dL_law_1407 dL_law_1408 dL_law_1410 dL_law_1411 dL_law_1412 dL_law_1417 rfl
theorem o3_least {C : Cy} {T : Tn} {y0 : Int32} : (vLeast C T y0).1 < 3 := by
  unfold vLeast
  repeat (first | exact (show (0 : Nat) < 3 by decide) | refine nd_3 (by decide) ?_)
theorem o2_least {C : Cy} {T : Tn} {y0 : Int32} : (vLeast C T y0).1 ≠ 2 := by
  unfold vLeast
  repeat (first | exact (show ¬ (0 : Nat) = 2 by decide) | refine nd_2 ?_)
theorem lc_least {l : Launch} {L : Nat} {xs : Nat → Int32} {j : Nat} {h : Hp} {S : Sx} {u w : Nat} {a5 a6 : Option Value} (hl : l.stackTraces = false) (hj : 6 * j + 6 ≤ L) (hL : L ≤ 3072) (X : SS h S) (hu : u + 1 ≤ 1135) (hw : w + 6 ≤ 32708) (nx : Nx l L xs j u w) : Go l room_1 mL_law 0 (Zl L xs Zlw) 1420 (lvL j a5 a6) [] h u w := by
  obtain ⟨K, V, W⟩ := X
  have hS := K.Stt
  have D9 := W.2.1.2.2.1
  have WTt := W.2.1.1
  have K0 := K
  obtain ⟨c, c0, fs, fr, z, _, KB, KRr⟩ := K0
  refine go_aloadn dL_law_1420 rfl ?_
  refine go_sx (k := 1) (by omega) hL rfl dL_law_1421 dL_law_1422 dL_law_1424 dL_law_1425 dL_law_1426 ?_
  refine go_aloadn dL_law_1427 rfl ?_
  refine go_callSH (M' := mL_least) (as := [.ref 0, .int (xs (6 * j + 1)), .ref 103]) dL_law_1428 lL_188 hL_least (h_least (o := ((vLeast (sC S) (sT S) (xs (6 * j + 1))).1, (vLeast (sC S) (sT S) (xs (6 * j + 1))).2, S)) hS o2_least (c_q K (k_least (d := 0) hl W.1 KB WTt))) rfl (Nat.le_of_ble_eq_true rfl) (Nat.le_of_ble_eq_true rfl) (Nat.le_of_ble_eq_true rfl) hu hw (fun q => absurd hS.1 (Nat.ne_of_lt q)) (fun v1 g1 q1 => ?_) (fun _ _ z => z.elim)
  obtain ⟨rfl, r1, r2, r3⟩ := q1
  have V1 : MV g1 S := ss_v W V _ r2 r3
  have hS1 := r2.Stt
  obtain ⟨as, ar, HB, HR⟩ := id V1
  refine go_ist5 dL_law_1431 rfl ?_
  refine go_aloadn dL_law_1433 rfl ?_
  refine go_sx (k := 1) (by omega) hL rfl dL_law_1434 dL_law_1435 dL_law_1437 dL_law_1438 dL_law_1439 ?_
  refine go_callV_ (M' := mX10_least) (as := [.int (xs (6 * j + 1))]) (ci := 10) dL_law_1440 lL_190 vX10_least rfl (by decide) rfl (by rw [hS1.1]; decide) (c_mq W.1 V1 (m_least (d := 0) W.1 HB WTt)) rfl (Nat.le_of_ble_eq_true rfl) (Nat.le_of_ble_eq_true rfl) (Nat.le_of_ble_eq_true rfl) hu hw (fun q => absurd hS1.1 (Nat.ne_of_lt q)) (fun v2 g2 z2 => ?_) (fun _ _ z => z.elim)
  obtain ⟨⟨r, rfl, e1⟩, e2, e3, e4⟩ := z2
  exact law_tail (o := ((vLeast (sC S) (sT S) (xs (6 * j + 1))).1, (vLeast (sC S) (sT S) (xs (6 * j + 1))).2, S)) ⟨r2.q7 (Fq7.fj e4), e3, W⟩ e1 e2 (fun y => by rw [e4.2.2.1 103 0 (by decide)]; exact r1 y) o3_least nx (Nat.le_refl _) (Nat.le_refl _) hu hw dL_law_1443 dL_law_1445 dL_law_1446 dL_law_1449 dL_law_1451 dL_law_1456 dL_law_1458 dL_law_1461 dL_law_1462 dL_law_1463 dL_law_1464 dL_law_1466 dL_law_1467 dL_law_1468 dL_law_1473 rfl
theorem o3_whose {C : Cy} {T : Tn} {y0 : Int32} : (vWhose C T y0).1 < 3 := by
  unfold vWhose
  repeat (first | exact (show (0 : Nat) < 3 by decide) | refine nd_3 (by decide) ?_)
theorem o2_whose {C : Cy} {T : Tn} {y0 : Int32} : (vWhose C T y0).1 ≠ 2 := by
  unfold vWhose
  repeat (first | exact (show ¬ (0 : Nat) = 2 by decide) | refine nd_2 ?_)
theorem lc_whose {l : Launch} {L : Nat} {xs : Nat → Int32} {j : Nat} {h : Hp} {S : Sx} {u w : Nat} {a5 a6 : Option Value} (hl : l.stackTraces = false) (hj : 6 * j + 6 ≤ L) (hL : L ≤ 3072) (X : SS h S) (hu : u + 1 ≤ 1135) (hw : w + 6 ≤ 32708) (nx : Nx l L xs j u w) : Go l room_1 mL_law 0 (Zl L xs Zlw) 1476 (lvL j a5 a6) [] h u w := by
  obtain ⟨K, V, W⟩ := X
  have hS := K.Stt
  have D9 := W.2.1.2.2.1
  have WTt := W.2.1.1
  have K0 := K
  obtain ⟨c, c0, fs, fr, z, _, KB, KRr⟩ := K0
  refine go_aloadn dL_law_1476 rfl ?_
  refine go_sx (k := 1) (by omega) hL rfl dL_law_1477 dL_law_1478 dL_law_1480 dL_law_1481 dL_law_1482 ?_
  refine go_aloadn dL_law_1483 rfl ?_
  refine go_callSH (M' := mL_whose) (as := [.ref 0, .int (xs (6 * j + 1)), .ref 103]) dL_law_1484 lL_191 hL_whose (h_whose (o := ((vWhose (sC S) (sT S) (xs (6 * j + 1))).1, (vWhose (sC S) (sT S) (xs (6 * j + 1))).2, S)) hS o2_whose (c_q K (k_whose (d := 0) hl W.1 KB))) rfl (Nat.le_of_ble_eq_true rfl) (Nat.le_of_ble_eq_true rfl) (Nat.le_of_ble_eq_true rfl) hu hw (fun q => absurd hS.1 (Nat.ne_of_lt q)) (fun v1 g1 q1 => ?_) (fun _ _ z => z.elim)
  obtain ⟨rfl, r1, r2, r3⟩ := q1
  have V1 : MV g1 S := ss_v W V _ r2 r3
  have hS1 := r2.Stt
  obtain ⟨as, ar, HB, HR⟩ := id V1
  refine go_ist5 dL_law_1487 rfl ?_
  refine go_aloadn dL_law_1489 rfl ?_
  refine go_sx (k := 1) (by omega) hL rfl dL_law_1490 dL_law_1491 dL_law_1493 dL_law_1494 dL_law_1495 ?_
  refine go_callV_ (M' := mX10_whose) (as := [.int (xs (6 * j + 1))]) (ci := 10) dL_law_1496 lL_193 vX10_whose rfl (by decide) rfl (by rw [hS1.1]; decide) (c_mq W.1 V1 (m_whose (d := 0) W.1 HB WTt)) rfl (Nat.le_of_ble_eq_true rfl) (Nat.le_of_ble_eq_true rfl) (Nat.le_of_ble_eq_true rfl) hu hw (fun q => absurd hS1.1 (Nat.ne_of_lt q)) (fun v2 g2 z2 => ?_) (fun _ _ z => z.elim)
  obtain ⟨⟨r, rfl, e1⟩, e2, e3, e4⟩ := z2
  exact law_tail (o := ((vWhose (sC S) (sT S) (xs (6 * j + 1))).1, (vWhose (sC S) (sT S) (xs (6 * j + 1))).2, S)) ⟨r2.q7 (Fq7.fj e4), e3, W⟩ e1 e2 (fun y => by rw [e4.2.2.1 103 0 (by decide)]; exact r1 y) o3_whose nx (Nat.le_refl _) (Nat.le_refl _) hu hw dL_law_1499 dL_law_1501 dL_law_1502 dL_law_1505 dL_law_1507 dL_law_1512 dL_law_1514 dL_law_1517 dL_law_1518 dL_law_1519 dL_law_1520 dL_law_1522 dL_law_1523 dL_law_1524 dL_law_1529 rfl
theorem o3_vain {C : Cy} {T : Tn} {Q : Nt} {y0 : Int32} : (vVain C Q T y0).1 < 3 := by
  unfold vVain
  repeat (first | exact (show (0 : Nat) < 3 by decide) | refine nd_3 (by decide) ?_)
theorem o2_vain {C : Cy} {T : Tn} {Q : Nt} {y0 : Int32} : (vVain C Q T y0).1 ≠ 2 := by
  unfold vVain
  repeat (first | exact (show ¬ (0 : Nat) = 2 by decide) | refine nd_2 ?_)
theorem lc_vain {l : Launch} {L : Nat} {xs : Nat → Int32} {j : Nat} {h : Hp} {S : Sx} {u w : Nat} {a5 a6 : Option Value} (hl : l.stackTraces = false) (hj : 6 * j + 6 ≤ L) (hL : L ≤ 3072) (X : SS h S) (hu : u + 1 ≤ 1135) (hw : w + 6 ≤ 32708) (nx : Nx l L xs j u w) : Go l room_1 mL_law 0 (Zl L xs Zlw) 1639 (lvL j a5 a6) [] h u w := by
  obtain ⟨K, V, W⟩ := X
  have hS := K.Stt
  have D9 := W.2.1.2.2.1
  have WTt := W.2.1.1
  have K0 := K
  obtain ⟨c, c0, fs, fr, z, _, KB, KRr⟩ := K0
  refine go_aloadn dL_law_1639 rfl ?_
  refine go_sx (k := 1) (by omega) hL rfl dL_law_1640 dL_law_1641 dL_law_1643 dL_law_1644 dL_law_1645 ?_
  refine go_aloadn dL_law_1646 rfl ?_
  refine go_callSH (M' := mL_vain) (as := [.ref 0, .int (xs (6 * j + 1)), .ref 103]) dL_law_1647 lL_202 hL_vain (h_vain (o := ((vVain (sC S) (sQ S) (sT S) (xs (6 * j + 1))).1, (vVain (sC S) (sQ S) (sT S) (xs (6 * j + 1))).2, S)) hS o2_vain (c_q K (k_vain (d := 0) hl W.1 KB WTt D9 KRr.2.1))) rfl (Nat.le_of_ble_eq_true rfl) (Nat.le_of_ble_eq_true rfl) (Nat.le_of_ble_eq_true rfl) hu hw (fun q => absurd hS.1 (Nat.ne_of_lt q)) (fun v1 g1 q1 => ?_) (fun _ _ z => z.elim)
  obtain ⟨rfl, r1, r2, r3⟩ := q1
  have V1 : MV g1 S := ss_v W V _ r2 r3
  have hS1 := r2.Stt
  obtain ⟨as, ar, HB, HR⟩ := id V1
  refine go_ist5 dL_law_1650 rfl ?_
  refine go_aloadn dL_law_1652 rfl ?_
  refine go_sx (k := 1) (by omega) hL rfl dL_law_1653 dL_law_1654 dL_law_1656 dL_law_1657 dL_law_1658 ?_
  refine go_callV_ (M' := mX10_vain) (as := [.int (xs (6 * j + 1))]) (ci := 10) dL_law_1659 lL_204 vX10_vain rfl (by decide) rfl (by rw [hS1.1]; decide) (c_mq W.1 V1 (m_vain (d := 0) W.1 HB WTt D9 HR.2.1)) rfl (Nat.le_of_ble_eq_true rfl) (Nat.le_of_ble_eq_true rfl) (Nat.le_of_ble_eq_true rfl) hu hw (fun q => absurd hS1.1 (Nat.ne_of_lt q)) (fun v2 g2 z2 => ?_) (fun _ _ z => z.elim)
  obtain ⟨⟨r, rfl, e1⟩, e2, e3, e4⟩ := z2
  exact law_tail (o := ((vVain (sC S) (sQ S) (sT S) (xs (6 * j + 1))).1, (vVain (sC S) (sQ S) (sT S) (xs (6 * j + 1))).2, S)) ⟨r2.q7 (Fq7.fj e4), e3, W⟩ e1 e2 (fun y => by rw [e4.2.2.1 103 0 (by decide)]; exact r1 y) o3_vain nx (Nat.le_refl _) (Nat.le_refl _) hu hw dL_law_1662 dL_law_1664 dL_law_1665 dL_law_1668 dL_law_1670 dL_law_1675 dL_law_1677 dL_law_1680 dL_law_1681 dL_law_1682 dL_law_1683 dL_law_1685 dL_law_1686 dL_law_1687 dL_law_1692 rfl
theorem o3_ask {C : Cy} {T : Tn} {Q : Nt} {y0 : Int32} : (vAsk C Q T y0).1 < 3 := by
  unfold vAsk
  repeat (first | exact (show (0 : Nat) < 3 by decide) | refine nd_3 (by decide) ?_)
theorem o2_ask {C : Cy} {T : Tn} {Q : Nt} {y0 : Int32} : (vAsk C Q T y0).1 ≠ 2 := by
  unfold vAsk
  repeat (first | exact (show ¬ (0 : Nat) = 2 by decide) | refine nd_2 ?_)
theorem lc_ask {l : Launch} {L : Nat} {xs : Nat → Int32} {j : Nat} {h : Hp} {S : Sx} {u w : Nat} {a5 a6 : Option Value} (hl : l.stackTraces = false) (hj : 6 * j + 6 ≤ L) (hL : L ≤ 3072) (X : SS h S) (hu : u + 1 ≤ 1135) (hw : w + 6 ≤ 32708) (nx : Nx l L xs j u w) : Go l room_1 mL_law 0 (Zl L xs Zlw) 1695 (lvL j a5 a6) [] h u w := by
  obtain ⟨K, V, W⟩ := X
  have hS := K.Stt
  have D9 := W.2.1.2.2.1
  have WTt := W.2.1.1
  have K0 := K
  obtain ⟨c, c0, fs, fr, z, _, KB, KRr⟩ := K0
  refine go_aloadn dL_law_1695 rfl ?_
  refine go_sx (k := 1) (by omega) hL rfl dL_law_1696 dL_law_1697 dL_law_1699 dL_law_1700 dL_law_1701 ?_
  refine go_aloadn dL_law_1702 rfl ?_
  refine go_callSH (M' := mL_ask) (as := [.ref 0, .int (xs (6 * j + 1)), .ref 103]) dL_law_1703 lL_205 hL_ask (h_ask (o := ((vAsk (sC S) (sQ S) (sT S) (xs (6 * j + 1))).1, (vAsk (sC S) (sQ S) (sT S) (xs (6 * j + 1))).2, S)) hS o2_ask (c_q K (k_ask (d := 0) hl W.1 KB WTt D9 KRr.2.1))) rfl (Nat.le_of_ble_eq_true rfl) (Nat.le_of_ble_eq_true rfl) (Nat.le_of_ble_eq_true rfl) hu hw (fun q => absurd hS.1 (Nat.ne_of_lt q)) (fun v1 g1 q1 => ?_) (fun _ _ z => z.elim)
  obtain ⟨rfl, r1, r2, r3⟩ := q1
  have V1 : MV g1 S := ss_v W V _ r2 r3
  have hS1 := r2.Stt
  obtain ⟨as, ar, HB, HR⟩ := id V1
  refine go_ist5 dL_law_1706 rfl ?_
  refine go_aloadn dL_law_1708 rfl ?_
  refine go_sx (k := 1) (by omega) hL rfl dL_law_1709 dL_law_1710 dL_law_1712 dL_law_1713 dL_law_1714 ?_
  refine go_callV_ (M' := mX10_ask) (as := [.int (xs (6 * j + 1))]) (ci := 10) dL_law_1715 lL_207 vX10_ask rfl (by decide) rfl (by rw [hS1.1]; decide) (c_mq W.1 V1 (m_ask (d := 0) W.1 HB WTt D9 HR.2.1)) rfl (Nat.le_of_ble_eq_true rfl) (Nat.le_of_ble_eq_true rfl) (Nat.le_of_ble_eq_true rfl) hu hw (fun q => absurd hS1.1 (Nat.ne_of_lt q)) (fun v2 g2 z2 => ?_) (fun _ _ z => z.elim)
  obtain ⟨⟨r, rfl, e1⟩, e2, e3, e4⟩ := z2
  exact law_tail (o := ((vAsk (sC S) (sQ S) (sT S) (xs (6 * j + 1))).1, (vAsk (sC S) (sQ S) (sT S) (xs (6 * j + 1))).2, S)) ⟨r2.q7 (Fq7.fj e4), e3, W⟩ e1 e2 (fun y => by rw [e4.2.2.1 103 0 (by decide)]; exact r1 y) o3_ask nx (Nat.le_refl _) (Nat.le_refl _) hu hw dL_law_1718 dL_law_1720 dL_law_1721 dL_law_1724 dL_law_1726 dL_law_1731 dL_law_1733 dL_law_1736 dL_law_1737 dL_law_1738 dL_law_1739 dL_law_1741 dL_law_1742 dL_law_1743 dL_law_1748 rfl
theorem o3_fog {C : Cy} {T : Tn} {y0 y1 y2 : Int32} : (vFog C T y0 y1 y2).1 < 3 := by
  unfold vFog
  repeat (first | exact (show (0 : Nat) < 3 by decide) | refine nd_3 (by decide) ?_)
theorem lc_fog {l : Launch} {L : Nat} {xs : Nat → Int32} {j : Nat} {h : Hp} {S : Sx} {u w : Nat} {a5 a6 : Option Value} (hl : l.stackTraces = false) (hj : 6 * j + 6 ≤ L) (hL : L ≤ 3072) (X : SS h S) (hu : u + 1 ≤ 1135) (hw : w + 6 ≤ 32708) (nx : Nx l L xs j u w) : Go l room_1 mL_law 0 (Zl L xs Zlw) 1751 (lvL j a5 a6) [] h u w := by
  obtain ⟨K, V, W⟩ := X
  have hS := K.Stt
  have D9 := W.2.1.2.2.1
  have WTt := W.2.1.1
  have K0 := K
  obtain ⟨c, c0, fs, fr, z, _, KB, KRr⟩ := K0
  refine go_aloadn dL_law_1751 rfl ?_
  refine go_sx (k := 1) (by omega) hL rfl dL_law_1752 dL_law_1753 dL_law_1755 dL_law_1756 dL_law_1757 ?_
  refine go_sx (k := 2) (by omega) hL rfl dL_law_1758 dL_law_1759 dL_law_1761 dL_law_1762 dL_law_1763 ?_
  refine go_sx (k := 3) (by omega) hL rfl dL_law_1764 dL_law_1765 dL_law_1767 dL_law_1768 dL_law_1769 ?_
  refine go_aloadn dL_law_1770 rfl ?_
  refine go_callSH (M' := mL_fog) (as := [.ref 0, .int (xs (6 * j + 1)), .int (xs (6 * j + 2)), .int (xs (6 * j + 3)), .ref 103]) dL_law_1771 lL_208 hL_fog (h_fog (o := ((vFog (sC S) (sT S) (xs (6 * j + 1)) (xs (6 * j + 2)) (xs (6 * j + 3))).1, (vFog (sC S) (sT S) (xs (6 * j + 1)) (xs (6 * j + 2)) (xs (6 * j + 3))).2, S)) hS (c_q K (k_fog (d := 0) hl W.1 KB D9))) rfl (Nat.le_of_ble_eq_true rfl) (Nat.le_of_ble_eq_true rfl) (Nat.le_of_ble_eq_true rfl) hu hw (fun q => absurd hS.1 (Nat.ne_of_lt q)) (fun v1 g1 q1 => ?_) (fun _ _ z => z.elim)
  obtain ⟨rfl, r1, r2, r3⟩ := q1
  have V1 : MV g1 S := ss_v W V _ r2 r3
  have hS1 := r2.Stt
  obtain ⟨as, ar, HB, HR⟩ := id V1
  refine go_ist5 dL_law_1774 rfl ?_
  refine go_aloadn dL_law_1776 rfl ?_
  refine go_sx (k := 1) (by omega) hL rfl dL_law_1777 dL_law_1778 dL_law_1780 dL_law_1781 dL_law_1782 ?_
  refine go_sx (k := 2) (by omega) hL rfl dL_law_1783 dL_law_1784 dL_law_1786 dL_law_1787 dL_law_1788 ?_
  refine go_sx (k := 3) (by omega) hL rfl dL_law_1789 dL_law_1790 dL_law_1792 dL_law_1793 dL_law_1794 ?_
  refine go_callV_ (M' := mX10_fog) (as := [.int (xs (6 * j + 1)), .int (xs (6 * j + 2)), .int (xs (6 * j + 3))]) (ci := 10) dL_law_1795 lL_210 vX10_fog rfl (by decide) rfl (by rw [hS1.1]; decide) (c_mq W.1 V1 (m_fog (d := 0) W.1 HB WTt D9)) rfl (Nat.le_of_ble_eq_true rfl) (Nat.le_of_ble_eq_true rfl) (Nat.le_of_ble_eq_true rfl) hu hw (fun q => absurd hS1.1 (Nat.ne_of_lt q)) (fun v2 g2 z2 => ?_) (fun _ _ z => z.elim)
  obtain ⟨⟨r, rfl, e1⟩, e2, e3, e4⟩ := z2
  exact law_tail (o := ((vFog (sC S) (sT S) (xs (6 * j + 1)) (xs (6 * j + 2)) (xs (6 * j + 3))).1, (vFog (sC S) (sT S) (xs (6 * j + 1)) (xs (6 * j + 2)) (xs (6 * j + 3))).2, S)) ⟨r2.q7 (Fq7.fj e4), e3, W⟩ e1 e2 (fun y => by rw [e4.2.2.1 103 0 (by decide)]; exact r1 y) o3_fog nx (Nat.le_refl _) (Nat.le_refl _) hu hw dL_law_1798 dL_law_1800 dL_law_1801 dL_law_1804 dL_law_1806 dL_law_1811 dL_law_1813 dL_law_1816 dL_law_1817 dL_law_1818 dL_law_1819 dL_law_1821 dL_law_1822 dL_law_1823 dL_law_1828 rfl
theorem o3_game {C : Cy} {T : Tn} {y0 y1 y2 : Int32} : (vGame C T y0 y1 y2).1 < 3 := by
  unfold vGame
  repeat (first | exact (show (0 : Nat) < 3 by decide) | refine nd_3 (by decide) ?_)
theorem lc_game {l : Launch} {L : Nat} {xs : Nat → Int32} {j : Nat} {h : Hp} {S : Sx} {u w : Nat} {a5 a6 : Option Value} (hl : l.stackTraces = false) (hj : 6 * j + 6 ≤ L) (hL : L ≤ 3072) (X : SS h S) (hu : u + 1 ≤ 1135) (hw : w + 6 ≤ 32708) (nx : Nx l L xs j u w) : Go l room_1 mL_law 0 (Zl L xs Zlw) 1831 (lvL j a5 a6) [] h u w := by
  obtain ⟨K, V, W⟩ := X
  have hS := K.Stt
  have D9 := W.2.1.2.2.1
  have WTt := W.2.1.1
  have K0 := K
  obtain ⟨c, c0, fs, fr, z, _, KB, KRr⟩ := K0
  refine go_aloadn dL_law_1831 rfl ?_
  refine go_sx (k := 1) (by omega) hL rfl dL_law_1832 dL_law_1833 dL_law_1835 dL_law_1836 dL_law_1837 ?_
  refine go_sx (k := 2) (by omega) hL rfl dL_law_1838 dL_law_1839 dL_law_1841 dL_law_1842 dL_law_1843 ?_
  refine go_sx (k := 3) (by omega) hL rfl dL_law_1844 dL_law_1845 dL_law_1847 dL_law_1848 dL_law_1849 ?_
  refine go_aloadn dL_law_1850 rfl ?_
  refine go_callSH (M' := mL_game) (as := [.ref 0, .int (xs (6 * j + 1)), .int (xs (6 * j + 2)), .int (xs (6 * j + 3)), .ref 103]) dL_law_1851 lL_211 hL_game (h_game (o := ((vGame (sC S) (sT S) (xs (6 * j + 1)) (xs (6 * j + 2)) (xs (6 * j + 3))).1, (vGame (sC S) (sT S) (xs (6 * j + 1)) (xs (6 * j + 2)) (xs (6 * j + 3))).2, S)) hS (c_q K (k_game (d := 0) hl W.1 KB D9))) rfl (Nat.le_of_ble_eq_true rfl) (Nat.le_of_ble_eq_true rfl) (Nat.le_of_ble_eq_true rfl) hu hw (fun q => absurd hS.1 (Nat.ne_of_lt q)) (fun v1 g1 q1 => ?_) (fun _ _ z => z.elim)
  obtain ⟨rfl, r1, r2, r3⟩ := q1
  have V1 : MV g1 S := ss_v W V _ r2 r3
  have hS1 := r2.Stt
  obtain ⟨as, ar, HB, HR⟩ := id V1
  refine go_ist5 dL_law_1854 rfl ?_
  refine go_aloadn dL_law_1856 rfl ?_
  refine go_sx (k := 1) (by omega) hL rfl dL_law_1857 dL_law_1858 dL_law_1860 dL_law_1861 dL_law_1862 ?_
  refine go_sx (k := 2) (by omega) hL rfl dL_law_1863 dL_law_1864 dL_law_1866 dL_law_1867 dL_law_1868 ?_
  refine go_sx (k := 3) (by omega) hL rfl dL_law_1869 dL_law_1870 dL_law_1872 dL_law_1873 dL_law_1874 ?_
  refine go_callV_ (M' := mX10_game) (as := [.int (xs (6 * j + 1)), .int (xs (6 * j + 2)), .int (xs (6 * j + 3))]) (ci := 10) dL_law_1875 lL_213 vX10_game rfl (by decide) rfl (by rw [hS1.1]; decide) (c_mq W.1 V1 (m_game (d := 0) W.1 HB WTt D9)) rfl (Nat.le_of_ble_eq_true rfl) (Nat.le_of_ble_eq_true rfl) (Nat.le_of_ble_eq_true rfl) hu hw (fun q => absurd hS1.1 (Nat.ne_of_lt q)) (fun v2 g2 z2 => ?_) (fun _ _ z => z.elim)
  obtain ⟨⟨r, rfl, e1⟩, e2, e3, e4⟩ := z2
  exact law_tail (o := ((vGame (sC S) (sT S) (xs (6 * j + 1)) (xs (6 * j + 2)) (xs (6 * j + 3))).1, (vGame (sC S) (sT S) (xs (6 * j + 1)) (xs (6 * j + 2)) (xs (6 * j + 3))).2, S)) ⟨r2.q7 (Fq7.fj e4), e3, W⟩ e1 e2 (fun y => by rw [e4.2.2.1 103 0 (by decide)]; exact r1 y) o3_game nx (Nat.le_refl _) (Nat.le_refl _) hu hw dL_law_1878 dL_law_1880 dL_law_1881 dL_law_1884 dL_law_1886 dL_law_1891 dL_law_1893 dL_law_1896 dL_law_1897 dL_law_1898 dL_law_1899 dL_law_1901 dL_law_1902 dL_law_1903 dL_law_1908 rfl
theorem o3_years {C : Cy} {T : Tn} {y0 y1 y2 : Int32} : (vYears C T y0 y1 y2).1 < 3 := by
  unfold vYears
  repeat (first | exact (show (0 : Nat) < 3 by decide) | refine nd_3 (by decide) ?_)
theorem lc_years {l : Launch} {L : Nat} {xs : Nat → Int32} {j : Nat} {h : Hp} {S : Sx} {u w : Nat} {a5 a6 : Option Value} (hl : l.stackTraces = false) (hj : 6 * j + 6 ≤ L) (hL : L ≤ 3072) (X : SS h S) (hu : u + 1 ≤ 1135) (hw : w + 6 ≤ 32708) (nx : Nx l L xs j u w) : Go l room_1 mL_law 0 (Zl L xs Zlw) 1911 (lvL j a5 a6) [] h u w := by
  obtain ⟨K, V, W⟩ := X
  have hS := K.Stt
  have D9 := W.2.1.2.2.1
  have WTt := W.2.1.1
  have K0 := K
  obtain ⟨c, c0, fs, fr, z, _, KB, KRr⟩ := K0
  refine go_aloadn dL_law_1911 rfl ?_
  refine go_sx (k := 1) (by omega) hL rfl dL_law_1912 dL_law_1913 dL_law_1915 dL_law_1916 dL_law_1917 ?_
  refine go_sx (k := 2) (by omega) hL rfl dL_law_1918 dL_law_1919 dL_law_1921 dL_law_1922 dL_law_1923 ?_
  refine go_sx (k := 3) (by omega) hL rfl dL_law_1924 dL_law_1925 dL_law_1927 dL_law_1928 dL_law_1929 ?_
  refine go_aloadn dL_law_1930 rfl ?_
  refine go_callSH (M' := mL_years) (as := [.ref 0, .int (xs (6 * j + 1)), .int (xs (6 * j + 2)), .int (xs (6 * j + 3)), .ref 103]) dL_law_1931 lL_214 hL_years (h_years (o := ((vYears (sC S) (sT S) (xs (6 * j + 1)) (xs (6 * j + 2)) (xs (6 * j + 3))).1, (vYears (sC S) (sT S) (xs (6 * j + 1)) (xs (6 * j + 2)) (xs (6 * j + 3))).2, S)) hS (c_q K (k_years (d := 0) hl W.1 KB D9))) rfl (Nat.le_of_ble_eq_true rfl) (Nat.le_of_ble_eq_true rfl) (Nat.le_of_ble_eq_true rfl) hu hw (fun q => absurd hS.1 (Nat.ne_of_lt q)) (fun v1 g1 q1 => ?_) (fun _ _ z => z.elim)
  obtain ⟨rfl, r1, r2, r3⟩ := q1
  have V1 : MV g1 S := ss_v W V _ r2 r3
  have hS1 := r2.Stt
  obtain ⟨as, ar, HB, HR⟩ := id V1
  refine go_ist5 dL_law_1934 rfl ?_
  refine go_aloadn dL_law_1936 rfl ?_
  refine go_sx (k := 1) (by omega) hL rfl dL_law_1937 dL_law_1938 dL_law_1940 dL_law_1941 dL_law_1942 ?_
  refine go_sx (k := 2) (by omega) hL rfl dL_law_1943 dL_law_1944 dL_law_1946 dL_law_1947 dL_law_1948 ?_
  refine go_sx (k := 3) (by omega) hL rfl dL_law_1949 dL_law_1950 dL_law_1952 dL_law_1953 dL_law_1954 ?_
  refine go_callV_ (M' := mX10_years) (as := [.int (xs (6 * j + 1)), .int (xs (6 * j + 2)), .int (xs (6 * j + 3))]) (ci := 10) dL_law_1955 lL_216 vX10_years rfl (by decide) rfl (by rw [hS1.1]; decide) (c_mq W.1 V1 (m_years (d := 0) W.1 HB WTt D9)) rfl (Nat.le_of_ble_eq_true rfl) (Nat.le_of_ble_eq_true rfl) (Nat.le_of_ble_eq_true rfl) hu hw (fun q => absurd hS1.1 (Nat.ne_of_lt q)) (fun v2 g2 z2 => ?_) (fun _ _ z => z.elim)
  obtain ⟨⟨r, rfl, e1⟩, e2, e3, e4⟩ := z2
  exact law_tail (o := ((vYears (sC S) (sT S) (xs (6 * j + 1)) (xs (6 * j + 2)) (xs (6 * j + 3))).1, (vYears (sC S) (sT S) (xs (6 * j + 1)) (xs (6 * j + 2)) (xs (6 * j + 3))).2, S)) ⟨r2.q7 (Fq7.fj e4), e3, W⟩ e1 e2 (fun y => by rw [e4.2.2.1 103 0 (by decide)]; exact r1 y) o3_years nx (Nat.le_refl _) (Nat.le_refl _) hu hw dL_law_1958 dL_law_1960 dL_law_1961 dL_law_1964 dL_law_1966 dL_law_1971 dL_law_1973 dL_law_1976 dL_law_1977 dL_law_1978 dL_law_1979 dL_law_1981 dL_law_1982 dL_law_1983 dL_law_1988 rfl
theorem o3_meet {C : Cy} {T : Tn} {y0 y1 : Int32} : (vMeet C T y0 y1).1 < 3 := by
  unfold vMeet
  repeat (first | exact (show (0 : Nat) < 3 by decide) | refine nd_3 (by decide) ?_)
theorem o2_meet {C : Cy} {T : Tn} {y0 y1 : Int32} : (vMeet C T y0 y1).1 ≠ 2 := by
  unfold vMeet
  repeat (first | exact (show ¬ (0 : Nat) = 2 by decide) | refine nd_2 ?_)
theorem lc_meet {l : Launch} {L : Nat} {xs : Nat → Int32} {j : Nat} {h : Hp} {S : Sx} {u w : Nat} {a5 a6 : Option Value} (hl : l.stackTraces = false) (hj : 6 * j + 6 ≤ L) (hL : L ≤ 3072) (X : SS h S) (hu : u + 1 ≤ 1135) (hw : w + 6 ≤ 32708) (nx : Nx l L xs j u w) : Go l room_1 mL_law 0 (Zl L xs Zlw) 1991 (lvL j a5 a6) [] h u w := by
  obtain ⟨K, V, W⟩ := X
  have hS := K.Stt
  have D9 := W.2.1.2.2.1
  have WTt := W.2.1.1
  have K0 := K
  obtain ⟨c, c0, fs, fr, z, _, KB, KRr⟩ := K0
  refine go_aloadn dL_law_1991 rfl ?_
  refine go_sx (k := 1) (by omega) hL rfl dL_law_1992 dL_law_1993 dL_law_1995 dL_law_1996 dL_law_1997 ?_
  refine go_sx (k := 2) (by omega) hL rfl dL_law_1998 dL_law_1999 dL_law_2001 dL_law_2002 dL_law_2003 ?_
  refine go_aloadn dL_law_2004 rfl ?_
  refine go_callSH (M' := mL_meet) (as := [.ref 0, .int (xs (6 * j + 1)), .int (xs (6 * j + 2)), .ref 103]) dL_law_2005 lL_217 hL_meet (h_meet (o := ((vMeet (sC S) (sT S) (xs (6 * j + 1)) (xs (6 * j + 2))).1, (vMeet (sC S) (sT S) (xs (6 * j + 1)) (xs (6 * j + 2))).2, S)) hS o2_meet (c_q K (k_meet (d := 0) hl W.1 KB))) rfl (Nat.le_of_ble_eq_true rfl) (Nat.le_of_ble_eq_true rfl) (Nat.le_of_ble_eq_true rfl) hu hw (fun q => absurd hS.1 (Nat.ne_of_lt q)) (fun v1 g1 q1 => ?_) (fun _ _ z => z.elim)
  obtain ⟨rfl, r1, r2, r3⟩ := q1
  have V1 : MV g1 S := ss_v W V _ r2 r3
  have hS1 := r2.Stt
  obtain ⟨as, ar, HB, HR⟩ := id V1
  refine go_ist5 dL_law_2008 rfl ?_
  refine go_aloadn dL_law_2010 rfl ?_
  refine go_sx (k := 1) (by omega) hL rfl dL_law_2011 dL_law_2012 dL_law_2014 dL_law_2015 dL_law_2016 ?_
  refine go_sx (k := 2) (by omega) hL rfl dL_law_2017 dL_law_2018 dL_law_2020 dL_law_2021 dL_law_2022 ?_
  refine go_callV_ (M' := mX10_meet) (as := [.int (xs (6 * j + 1)), .int (xs (6 * j + 2))]) (ci := 10) dL_law_2023 lL_219 vX10_meet rfl (by decide) rfl (by rw [hS1.1]; decide) (c_mq W.1 V1 (m_meet (d := 0) W.1 HB D9)) rfl (Nat.le_of_ble_eq_true rfl) (Nat.le_of_ble_eq_true rfl) (Nat.le_of_ble_eq_true rfl) hu hw (fun q => absurd hS1.1 (Nat.ne_of_lt q)) (fun v2 g2 z2 => ?_) (fun _ _ z => z.elim)
  obtain ⟨⟨r, rfl, e1⟩, e2, e3, e4⟩ := z2
  exact law_tail (o := ((vMeet (sC S) (sT S) (xs (6 * j + 1)) (xs (6 * j + 2))).1, (vMeet (sC S) (sT S) (xs (6 * j + 1)) (xs (6 * j + 2))).2, S)) ⟨r2.q7 (Fq7.fj e4), e3, W⟩ e1 e2 (fun y => by rw [e4.2.2.1 103 0 (by decide)]; exact r1 y) o3_meet nx (Nat.le_refl _) (Nat.le_refl _) hu hw dL_law_2026 dL_law_2028 dL_law_2029 dL_law_2032 dL_law_2034 dL_law_2039 dL_law_2041 dL_law_2044 dL_law_2045 dL_law_2046 dL_law_2047 dL_law_2049 dL_law_2050 dL_law_2051 dL_law_2056 rfl
theorem o3_faced {C : Cy} {T : Tn} {y0 : Int32} : (vFaced C T y0).1 < 3 := by
  unfold vFaced
  repeat (first | exact (show (0 : Nat) < 3 by decide) | refine nd_3 (by decide) ?_)
theorem o2_faced {C : Cy} {T : Tn} {y0 : Int32} : (vFaced C T y0).1 ≠ 2 := by
  unfold vFaced
  repeat (first | exact (show ¬ (0 : Nat) = 2 by decide) | refine nd_2 ?_)
theorem lc_faced {l : Launch} {L : Nat} {xs : Nat → Int32} {j : Nat} {h : Hp} {S : Sx} {u w : Nat} {a5 a6 : Option Value} (hl : l.stackTraces = false) (hj : 6 * j + 6 ≤ L) (hL : L ≤ 3072) (X : SS h S) (hu : u + 1 ≤ 1135) (hw : w + 6 ≤ 32708) (nx : Nx l L xs j u w) : Go l room_1 mL_law 0 (Zl L xs Zlw) 2059 (lvL j a5 a6) [] h u w := by
  obtain ⟨K, V, W⟩ := X
  have hS := K.Stt
  have D9 := W.2.1.2.2.1
  have WTt := W.2.1.1
  have K0 := K
  obtain ⟨c, c0, fs, fr, z, _, KB, KRr⟩ := K0
  refine go_aloadn dL_law_2059 rfl ?_
  refine go_sx (k := 1) (by omega) hL rfl dL_law_2060 dL_law_2061 dL_law_2063 dL_law_2064 dL_law_2065 ?_
  refine go_aloadn dL_law_2066 rfl ?_
  refine go_callSH (M' := mL_faced) (as := [.ref 0, .int (xs (6 * j + 1)), .ref 103]) dL_law_2067 lL_220 hL_faced (h_faced (o := ((vFaced (sC S) (sT S) (xs (6 * j + 1))).1, (vFaced (sC S) (sT S) (xs (6 * j + 1))).2, S)) hS o2_faced (c_q K (k_faced (d := 0) hl W.1 KB WTt))) rfl (Nat.le_of_ble_eq_true rfl) (Nat.le_of_ble_eq_true rfl) (Nat.le_of_ble_eq_true rfl) hu hw (fun q => absurd hS.1 (Nat.ne_of_lt q)) (fun v1 g1 q1 => ?_) (fun _ _ z => z.elim)
  obtain ⟨rfl, r1, r2, r3⟩ := q1
  have V1 : MV g1 S := ss_v W V _ r2 r3
  have hS1 := r2.Stt
  obtain ⟨as, ar, HB, HR⟩ := id V1
  refine go_ist5 dL_law_2070 rfl ?_
  refine go_aloadn dL_law_2072 rfl ?_
  refine go_sx (k := 1) (by omega) hL rfl dL_law_2073 dL_law_2074 dL_law_2076 dL_law_2077 dL_law_2078 ?_
  refine go_callV_ (M' := mX10_faced) (as := [.int (xs (6 * j + 1))]) (ci := 10) dL_law_2079 lL_222 vX10_faced rfl (by decide) rfl (by rw [hS1.1]; decide) (c_mq W.1 V1 (m_faced (d := 0) W.1 HB WTt W.2.1.2.1 D9)) rfl (Nat.le_of_ble_eq_true rfl) (Nat.le_of_ble_eq_true rfl) (Nat.le_of_ble_eq_true rfl) hu hw (fun q => absurd hS1.1 (Nat.ne_of_lt q)) (fun v2 g2 z2 => ?_) (fun _ _ z => z.elim)
  obtain ⟨⟨r, rfl, e1⟩, e2, e3, e4⟩ := z2
  exact law_tail (o := ((vFaced (sC S) (sT S) (xs (6 * j + 1))).1, (vFaced (sC S) (sT S) (xs (6 * j + 1))).2, S)) ⟨r2.q7 (Fq7.fj e4), e3, W⟩ e1 e2 (fun y => by rw [e4.2.2.1 103 0 (by decide)]; exact r1 y) o3_faced nx (Nat.le_refl _) (Nat.le_refl _) hu hw dL_law_2082 dL_law_2084 dL_law_2085 dL_law_2088 dL_law_2090 dL_law_2095 dL_law_2097 dL_law_2100 dL_law_2101 dL_law_2102 dL_law_2103 dL_law_2105 dL_law_2106 dL_law_2107 dL_law_2112 rfl
theorem o3_walks {C : Cy} {T : Tn} {y0 y1 : Int32} : (vWalks C T y0 y1).1 < 3 := by
  unfold vWalks
  repeat (first | exact (show (0 : Nat) < 3 by decide) | refine nd_3 (by decide) ?_)
theorem lc_walks {l : Launch} {L : Nat} {xs : Nat → Int32} {j : Nat} {h : Hp} {S : Sx} {u w : Nat} {a5 a6 : Option Value} (hl : l.stackTraces = false) (hj : 6 * j + 6 ≤ L) (hL : L ≤ 3072) (X : SS h S) (hu : u + 1 ≤ 1135) (hw : w + 6 ≤ 32708) (nx : Nx l L xs j u w) : Go l room_1 mL_law 0 (Zl L xs Zlw) 2115 (lvL j a5 a6) [] h u w := by
  obtain ⟨K, V, W⟩ := X
  have hS := K.Stt
  have D9 := W.2.1.2.2.1
  have WTt := W.2.1.1
  have K0 := K
  obtain ⟨c, c0, fs, fr, z, _, KB, KRr⟩ := K0
  refine go_aloadn dL_law_2115 rfl ?_
  refine go_sx (k := 1) (by omega) hL rfl dL_law_2116 dL_law_2117 dL_law_2119 dL_law_2120 dL_law_2121 ?_
  refine go_sx (k := 2) (by omega) hL rfl dL_law_2122 dL_law_2123 dL_law_2125 dL_law_2126 dL_law_2127 ?_
  refine go_aloadn dL_law_2128 rfl ?_
  refine go_callSH (M' := mL_walks) (as := [.ref 0, .int (xs (6 * j + 1)), .int (xs (6 * j + 2)), .ref 103]) dL_law_2129 lL_223 hL_walks (h_walks (o := ((vWalks (sC S) (sT S) (xs (6 * j + 1)) (xs (6 * j + 2))).1, (vWalks (sC S) (sT S) (xs (6 * j + 1)) (xs (6 * j + 2))).2, S)) hS (c_q K (k_walks (d := 0) hl W.1 KB))) rfl (Nat.le_of_ble_eq_true rfl) (Nat.le_of_ble_eq_true rfl) (Nat.le_of_ble_eq_true rfl) hu hw (fun q => absurd hS.1 (Nat.ne_of_lt q)) (fun v1 g1 q1 => ?_) (fun _ _ z => z.elim)
  obtain ⟨rfl, r1, r2, r3⟩ := q1
  have V1 : MV g1 S := ss_v W V _ r2 r3
  have hS1 := r2.Stt
  obtain ⟨as, ar, HB, HR⟩ := id V1
  refine go_ist5 dL_law_2132 rfl ?_
  refine go_aloadn dL_law_2134 rfl ?_
  refine go_sx (k := 1) (by omega) hL rfl dL_law_2135 dL_law_2136 dL_law_2138 dL_law_2139 dL_law_2140 ?_
  refine go_sx (k := 2) (by omega) hL rfl dL_law_2141 dL_law_2142 dL_law_2144 dL_law_2145 dL_law_2146 ?_
  refine go_callV_ (M' := mX10_walks) (as := [.int (xs (6 * j + 1)), .int (xs (6 * j + 2))]) (ci := 10) dL_law_2147 lL_225 vX10_walks rfl (by decide) rfl (by rw [hS1.1]; decide) (c_mq W.1 V1 (m_walks (d := 0) W.1 HB WTt D9)) rfl (Nat.le_of_ble_eq_true rfl) (Nat.le_of_ble_eq_true rfl) (Nat.le_of_ble_eq_true rfl) hu hw (fun q => absurd hS1.1 (Nat.ne_of_lt q)) (fun v2 g2 z2 => ?_) (fun _ _ z => z.elim)
  obtain ⟨⟨r, rfl, e1⟩, e2, e3, e4⟩ := z2
  exact law_tail (o := ((vWalks (sC S) (sT S) (xs (6 * j + 1)) (xs (6 * j + 2))).1, (vWalks (sC S) (sT S) (xs (6 * j + 1)) (xs (6 * j + 2))).2, S)) ⟨r2.q7 (Fq7.fj e4), e3, W⟩ e1 e2 (fun y => by rw [e4.2.2.1 103 0 (by decide)]; exact r1 y) o3_walks nx (Nat.le_refl _) (Nat.le_refl _) hu hw dL_law_2150 dL_law_2152 dL_law_2153 dL_law_2156 dL_law_2158 dL_law_2163 dL_law_2165 dL_law_2168 dL_law_2169 dL_law_2170 dL_law_2171 dL_law_2173 dL_law_2174 dL_law_2175 dL_law_2180 rfl
theorem o3_shamed {C : Cy} {T : Tn} {y0 y1 : Int32} : (vShamed C T y0 y1).1 < 3 := by
  unfold vShamed
  repeat (first | exact (show (0 : Nat) < 3 by decide) | refine nd_3 (by decide) ?_)
theorem lc_shamed {l : Launch} {L : Nat} {xs : Nat → Int32} {j : Nat} {h : Hp} {S : Sx} {u w : Nat} {a5 a6 : Option Value} (hl : l.stackTraces = false) (hj : 6 * j + 6 ≤ L) (hL : L ≤ 3072) (X : SS h S) (hu : u + 1 ≤ 1135) (hw : w + 6 ≤ 32708) (nx : Nx l L xs j u w) : Go l room_1 mL_law 0 (Zl L xs Zlw) 2183 (lvL j a5 a6) [] h u w := by
  obtain ⟨K, V, W⟩ := X
  have hS := K.Stt
  have D9 := W.2.1.2.2.1
  have WTt := W.2.1.1
  have K0 := K
  obtain ⟨c, c0, fs, fr, z, _, KB, KRr⟩ := K0
  refine go_aloadn dL_law_2183 rfl ?_
  refine go_sx (k := 1) (by omega) hL rfl dL_law_2184 dL_law_2185 dL_law_2187 dL_law_2188 dL_law_2189 ?_
  refine go_sx (k := 2) (by omega) hL rfl dL_law_2190 dL_law_2191 dL_law_2193 dL_law_2194 dL_law_2195 ?_
  refine go_aloadn dL_law_2196 rfl ?_
  refine go_callSH (M' := mL_shamed) (as := [.ref 0, .int (xs (6 * j + 1)), .int (xs (6 * j + 2)), .ref 103]) dL_law_2197 lL_226 hL_shamed (h_shamed (o := ((vShamed (sC S) (sT S) (xs (6 * j + 1)) (xs (6 * j + 2))).1, (vShamed (sC S) (sT S) (xs (6 * j + 1)) (xs (6 * j + 2))).2, S)) hS (c_q K (k_shamed (d := 0) hl W.1 KB D9))) rfl (Nat.le_of_ble_eq_true rfl) (Nat.le_of_ble_eq_true rfl) (Nat.le_of_ble_eq_true rfl) hu hw (fun q => absurd hS.1 (Nat.ne_of_lt q)) (fun v1 g1 q1 => ?_) (fun _ _ z => z.elim)
  obtain ⟨rfl, r1, r2, r3⟩ := q1
  have V1 : MV g1 S := ss_v W V _ r2 r3
  have hS1 := r2.Stt
  obtain ⟨as, ar, HB, HR⟩ := id V1
  refine go_ist5 dL_law_2200 rfl ?_
  refine go_aloadn dL_law_2202 rfl ?_
  refine go_sx (k := 1) (by omega) hL rfl dL_law_2203 dL_law_2204 dL_law_2206 dL_law_2207 dL_law_2208 ?_
  refine go_sx (k := 2) (by omega) hL rfl dL_law_2209 dL_law_2210 dL_law_2212 dL_law_2213 dL_law_2214 ?_
  refine go_callV_ (M' := mX10_shamed) (as := [.int (xs (6 * j + 1)), .int (xs (6 * j + 2))]) (ci := 10) dL_law_2215 lL_228 vX10_shamed rfl (by decide) rfl (by rw [hS1.1]; decide) (c_mq W.1 V1 (m_shamed (d := 0) W.1 HB WTt D9)) rfl (Nat.le_of_ble_eq_true rfl) (Nat.le_of_ble_eq_true rfl) (Nat.le_of_ble_eq_true rfl) hu hw (fun q => absurd hS1.1 (Nat.ne_of_lt q)) (fun v2 g2 z2 => ?_) (fun _ _ z => z.elim)
  obtain ⟨⟨r, rfl, e1⟩, e2, e3, e4⟩ := z2
  exact law_tail (o := ((vShamed (sC S) (sT S) (xs (6 * j + 1)) (xs (6 * j + 2))).1, (vShamed (sC S) (sT S) (xs (6 * j + 1)) (xs (6 * j + 2))).2, S)) ⟨r2.q7 (Fq7.fj e4), e3, W⟩ e1 e2 (fun y => by rw [e4.2.2.1 103 0 (by decide)]; exact r1 y) o3_shamed nx (Nat.le_refl _) (Nat.le_refl _) hu hw dL_law_2218 dL_law_2220 dL_law_2221 dL_law_2224 dL_law_2226 dL_law_2231 dL_law_2233 dL_law_2236 dL_law_2237 dL_law_2238 dL_law_2239 dL_law_2241 dL_law_2242 dL_law_2243 dL_law_2248 rfl
theorem o3_has {C : Cy} {T : Tn} {y0 y1 : Int32} : (vHas C T y0 y1).1 < 3 := by
  unfold vHas
  repeat (first | exact (show (0 : Nat) < 3 by decide) | refine nd_3 (by decide) ?_)
theorem lc_has {l : Launch} {L : Nat} {xs : Nat → Int32} {j : Nat} {h : Hp} {S : Sx} {u w : Nat} {a5 a6 : Option Value} (hl : l.stackTraces = false) (hj : 6 * j + 6 ≤ L) (hL : L ≤ 3072) (X : SS h S) (hu : u + 1 ≤ 1135) (hw : w + 6 ≤ 32708) (nx : Nx l L xs j u w) : Go l room_1 mL_law 0 (Zl L xs Zlw) 2251 (lvL j a5 a6) [] h u w := by
  obtain ⟨K, V, W⟩ := X
  have hS := K.Stt
  have D9 := W.2.1.2.2.1
  have WTt := W.2.1.1
  have K0 := K
  obtain ⟨c, c0, fs, fr, z, _, KB, KRr⟩ := K0
  refine go_aloadn dL_law_2251 rfl ?_
  refine go_sx (k := 1) (by omega) hL rfl dL_law_2252 dL_law_2253 dL_law_2255 dL_law_2256 dL_law_2257 ?_
  refine go_sx (k := 2) (by omega) hL rfl dL_law_2258 dL_law_2259 dL_law_2261 dL_law_2262 dL_law_2263 ?_
  refine go_aloadn dL_law_2264 rfl ?_
  refine go_callSH (M' := mL_has) (as := [.ref 0, .int (xs (6 * j + 1)), .int (xs (6 * j + 2)), .ref 103]) dL_law_2265 lL_229 hL_has (h_has (o := ((vHas (sC S) (sT S) (xs (6 * j + 1)) (xs (6 * j + 2))).1, (vHas (sC S) (sT S) (xs (6 * j + 1)) (xs (6 * j + 2))).2, S)) hS (c_q K (k_has (d := 0) hl W.1 KB D9))) rfl (Nat.le_of_ble_eq_true rfl) (Nat.le_of_ble_eq_true rfl) (Nat.le_of_ble_eq_true rfl) hu hw (fun q => absurd hS.1 (Nat.ne_of_lt q)) (fun v1 g1 q1 => ?_) (fun _ _ z => z.elim)
  obtain ⟨rfl, r1, r2, r3⟩ := q1
  have V1 : MV g1 S := ss_v W V _ r2 r3
  have hS1 := r2.Stt
  obtain ⟨as, ar, HB, HR⟩ := id V1
  refine go_ist5 dL_law_2268 rfl ?_
  refine go_aloadn dL_law_2270 rfl ?_
  refine go_sx (k := 1) (by omega) hL rfl dL_law_2271 dL_law_2272 dL_law_2274 dL_law_2275 dL_law_2276 ?_
  refine go_sx (k := 2) (by omega) hL rfl dL_law_2277 dL_law_2278 dL_law_2280 dL_law_2281 dL_law_2282 ?_
  refine go_callV_ (M' := mX10_has) (as := [.int (xs (6 * j + 1)), .int (xs (6 * j + 2))]) (ci := 10) dL_law_2283 lL_231 vX10_has rfl (by decide) rfl (by rw [hS1.1]; decide) (c_mq W.1 V1 (m_has (d := 0) W.1 HB WTt D9)) rfl (Nat.le_of_ble_eq_true rfl) (Nat.le_of_ble_eq_true rfl) (Nat.le_of_ble_eq_true rfl) hu hw (fun q => absurd hS1.1 (Nat.ne_of_lt q)) (fun v2 g2 z2 => ?_) (fun _ _ z => z.elim)
  obtain ⟨⟨r, rfl, e1⟩, e2, e3, e4⟩ := z2
  exact law_tail (o := ((vHas (sC S) (sT S) (xs (6 * j + 1)) (xs (6 * j + 2))).1, (vHas (sC S) (sT S) (xs (6 * j + 1)) (xs (6 * j + 2))).2, S)) ⟨r2.q7 (Fq7.fj e4), e3, W⟩ e1 e2 (fun y => by rw [e4.2.2.1 103 0 (by decide)]; exact r1 y) o3_has nx (Nat.le_refl _) (Nat.le_refl _) hu hw dL_law_2286 dL_law_2288 dL_law_2289 dL_law_2292 dL_law_2294 dL_law_2299 dL_law_2301 dL_law_2304 dL_law_2305 dL_law_2306 dL_law_2307 dL_law_2309 dL_law_2310 dL_law_2311 dL_law_2316 rfl
theorem o3_takes {C : Cy} {T : Tn} {y0 y1 : Int32} : (vTakes C T y0 y1).1 < 3 := by
  unfold vTakes
  repeat (first | exact (show (0 : Nat) < 3 by decide) | refine nd_3 (by decide) ?_)
theorem o2_takes {C : Cy} {T : Tn} {y0 y1 : Int32} : (vTakes C T y0 y1).1 ≠ 2 := by
  unfold vTakes
  repeat (first | exact (show ¬ (0 : Nat) = 2 by decide) | refine nd_2 ?_)
theorem lc_takes {l : Launch} {L : Nat} {xs : Nat → Int32} {j : Nat} {h : Hp} {S : Sx} {u w : Nat} {a5 a6 : Option Value} (hl : l.stackTraces = false) (hj : 6 * j + 6 ≤ L) (hL : L ≤ 3072) (X : SS h S) (hu : u + 1 ≤ 1135) (hw : w + 6 ≤ 32708) (nx : Nx l L xs j u w) : Go l room_1 mL_law 0 (Zl L xs Zlw) 2319 (lvL j a5 a6) [] h u w := by
  obtain ⟨K, V, W⟩ := X
  have hS := K.Stt
  have D9 := W.2.1.2.2.1
  have WTt := W.2.1.1
  have K0 := K
  obtain ⟨c, c0, fs, fr, z, _, KB, KRr⟩ := K0
  refine go_aloadn dL_law_2319 rfl ?_
  refine go_sx (k := 1) (by omega) hL rfl dL_law_2320 dL_law_2321 dL_law_2323 dL_law_2324 dL_law_2325 ?_
  refine go_sx (k := 2) (by omega) hL rfl dL_law_2326 dL_law_2327 dL_law_2329 dL_law_2330 dL_law_2331 ?_
  refine go_aloadn dL_law_2332 rfl ?_
  refine go_callSH (M' := mL_takes) (as := [.ref 0, .int (xs (6 * j + 1)), .int (xs (6 * j + 2)), .ref 103]) dL_law_2333 lL_232 hL_takes (h_takes (o := ((vTakes (sC S) (sT S) (xs (6 * j + 1)) (xs (6 * j + 2))).1, (vTakes (sC S) (sT S) (xs (6 * j + 1)) (xs (6 * j + 2))).2, S)) hS o2_takes (c_q K (k_takes (d := 0) hl KB))) rfl (Nat.le_of_ble_eq_true rfl) (Nat.le_of_ble_eq_true rfl) (Nat.le_of_ble_eq_true rfl) hu hw (fun q => absurd hS.1 (Nat.ne_of_lt q)) (fun v1 g1 q1 => ?_) (fun _ _ z => z.elim)
  obtain ⟨rfl, r1, r2, r3⟩ := q1
  have V1 : MV g1 S := ss_v W V _ r2 r3
  have hS1 := r2.Stt
  obtain ⟨as, ar, HB, HR⟩ := id V1
  refine go_ist5 dL_law_2336 rfl ?_
  refine go_aloadn dL_law_2338 rfl ?_
  refine go_sx (k := 1) (by omega) hL rfl dL_law_2339 dL_law_2340 dL_law_2342 dL_law_2343 dL_law_2344 ?_
  refine go_sx (k := 2) (by omega) hL rfl dL_law_2345 dL_law_2346 dL_law_2348 dL_law_2349 dL_law_2350 ?_
  refine go_callV_ (M' := mX10_takes) (as := [.int (xs (6 * j + 1)), .int (xs (6 * j + 2))]) (ci := 10) dL_law_2351 lL_234 vX10_takes rfl (by decide) rfl (by rw [hS1.1]; decide) (c_mq W.1 V1 (m_takes (d := 0) W.1 HB)) rfl (Nat.le_of_ble_eq_true rfl) (Nat.le_of_ble_eq_true rfl) (Nat.le_of_ble_eq_true rfl) hu hw (fun q => absurd hS1.1 (Nat.ne_of_lt q)) (fun v2 g2 z2 => ?_) (fun _ _ z => z.elim)
  obtain ⟨⟨r, rfl, e1⟩, e2, e3, e4⟩ := z2
  exact law_tail (o := ((vTakes (sC S) (sT S) (xs (6 * j + 1)) (xs (6 * j + 2))).1, (vTakes (sC S) (sT S) (xs (6 * j + 1)) (xs (6 * j + 2))).2, S)) ⟨r2.q7 (Fq7.fj e4), e3, W⟩ e1 e2 (fun y => by rw [e4.2.2.1 103 0 (by decide)]; exact r1 y) o3_takes nx (Nat.le_refl _) (Nat.le_refl _) hu hw dL_law_2354 dL_law_2356 dL_law_2357 dL_law_2360 dL_law_2362 dL_law_2367 dL_law_2369 dL_law_2372 dL_law_2373 dL_law_2374 dL_law_2375 dL_law_2377 dL_law_2378 dL_law_2379 dL_law_2384 rfl
theorem o3_quiet {C : Cy} {T : Tn} {y0 : Int32} : (vQuiet C T y0).1 < 3 := by
  unfold vQuiet
  repeat (first | exact (show (0 : Nat) < 3 by decide) | refine nd_3 (by decide) ?_)
theorem o2_quiet {C : Cy} {T : Tn} {y0 : Int32} : (vQuiet C T y0).1 ≠ 2 := by
  unfold vQuiet
  repeat (first | exact (show ¬ (0 : Nat) = 2 by decide) | refine nd_2 ?_)
theorem lc_quiet {l : Launch} {L : Nat} {xs : Nat → Int32} {j : Nat} {h : Hp} {S : Sx} {u w : Nat} {a5 a6 : Option Value} (hl : l.stackTraces = false) (hj : 6 * j + 6 ≤ L) (hL : L ≤ 3072) (X : SS h S) (hu : u + 1 ≤ 1135) (hw : w + 6 ≤ 32708) (nx : Nx l L xs j u w) : Go l room_1 mL_law 0 (Zl L xs Zlw) 2387 (lvL j a5 a6) [] h u w := by
  obtain ⟨K, V, W⟩ := X
  have hS := K.Stt
  have D9 := W.2.1.2.2.1
  have WTt := W.2.1.1
  have K0 := K
  obtain ⟨c, c0, fs, fr, z, _, KB, KRr⟩ := K0
  refine go_aloadn dL_law_2387 rfl ?_
  refine go_sx (k := 1) (by omega) hL rfl dL_law_2388 dL_law_2389 dL_law_2391 dL_law_2392 dL_law_2393 ?_
  refine go_aloadn dL_law_2394 rfl ?_
  refine go_callSH (M' := mL_quiet) (as := [.ref 0, .int (xs (6 * j + 1)), .ref 103]) dL_law_2395 lL_235 hL_quiet (h_quiet (o := ((vQuiet (sC S) (sT S) (xs (6 * j + 1))).1, (vQuiet (sC S) (sT S) (xs (6 * j + 1))).2, S)) hS o2_quiet (c_q K (k_quiet (d := 0) hl W.1 KB D9))) rfl (Nat.le_of_ble_eq_true rfl) (Nat.le_of_ble_eq_true rfl) (Nat.le_of_ble_eq_true rfl) hu hw (fun q => absurd hS.1 (Nat.ne_of_lt q)) (fun v1 g1 q1 => ?_) (fun _ _ z => z.elim)
  obtain ⟨rfl, r1, r2, r3⟩ := q1
  have V1 : MV g1 S := ss_v W V _ r2 r3
  have hS1 := r2.Stt
  obtain ⟨as, ar, HB, HR⟩ := id V1
  refine go_ist5 dL_law_2398 rfl ?_
  refine go_aloadn dL_law_2400 rfl ?_
  refine go_sx (k := 1) (by omega) hL rfl dL_law_2401 dL_law_2402 dL_law_2404 dL_law_2405 dL_law_2406 ?_
  refine go_callV_ (M' := mX10_quiet) (as := [.int (xs (6 * j + 1))]) (ci := 10) dL_law_2407 lL_237 vX10_quiet rfl (by decide) rfl (by rw [hS1.1]; decide) (c_mq W.1 V1 (m_quiet (d := 0) W.1 HB WTt D9)) rfl (Nat.le_of_ble_eq_true rfl) (Nat.le_of_ble_eq_true rfl) (Nat.le_of_ble_eq_true rfl) hu hw (fun q => absurd hS1.1 (Nat.ne_of_lt q)) (fun v2 g2 z2 => ?_) (fun _ _ z => z.elim)
  obtain ⟨⟨r, rfl, e1⟩, e2, e3, e4⟩ := z2
  exact law_tail (o := ((vQuiet (sC S) (sT S) (xs (6 * j + 1))).1, (vQuiet (sC S) (sT S) (xs (6 * j + 1))).2, S)) ⟨r2.q7 (Fq7.fj e4), e3, W⟩ e1 e2 (fun y => by rw [e4.2.2.1 103 0 (by decide)]; exact r1 y) o3_quiet nx (Nat.le_refl _) (Nat.le_refl _) hu hw dL_law_2410 dL_law_2412 dL_law_2413 dL_law_2416 dL_law_2418 dL_law_2423 dL_law_2425 dL_law_2428 dL_law_2429 dL_law_2430 dL_law_2431 dL_law_2433 dL_law_2434 dL_law_2435 dL_law_2440 rfl
