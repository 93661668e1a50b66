/-! the model's city: its end -/
theorem MB.ej {h g : Hp} {as ar : Nat} {C : Cy} {T : Tn} (W : WC C) (M : MB h as ar C T) (hS : St g) (e7 : ∀ k, (1 ≤ k ∧ k ≤ 6) ∨ k = 47 → hI g 77 k = hI h 77 k) (e : ∀ a k, (78 ≤ a ∧ a ≤ 81) ∨ a = 91 → hI g a k = hI h a k) : MB g as ar C T := by
  obtain ⟨⟨-, ⟨a1, a2, a3, a4⟩, ⟨a5, a6⟩, a7, a8, a9, a10⟩, ⟨b1, b2, b3, b4⟩, c1⟩ := M
  have e80 : hI g 80 = hI h 80 := funext fun k => e _ _ (by omega)
  refine ⟨⟨hS, ⟨by rw [e7 _ (by omega)]; exact a1, by rw [e7 _ (by omega)]; exact a2, by rw [e7 _ (by omega)]; exact a3, by rw [e7 _ (by omega)]; exact a4⟩, ⟨by rw [e7 _ (by omega)]; exact a5, by rw [e7 _ (by omega)]; exact a6⟩, fun p hp => by rw [e _ _ (by omega), e _ _ (by omega)]; exact a7 p hp, fun t ht => by rw [e _ _ (by omega)]; exact a8 t ht, by rw [e80]; exact a9, by rw [e80]; exact a10⟩, ⟨by rw [e _ _ (by omega)]; exact b1, fun t ht => by rw [e _ _ (by omega), e _ _ (by omega), e _ _ (by omega), e _ _ (by omega)]; exact b2 t ht, fun p hp => by rw [e _ _ (by omega), e _ _ (by omega)]; exact b3 p hp, fun i hi => by rw [e _ _ (by omega)]; exact b4 i hi⟩, by rw [e7 _ (by omega)]; exact c1⟩
theorem q_ct160 {l : Launch} {d n : Nat} {x : Int32} {b : Nat → Nat} {h g : Hp} {n0 : Nat} {x2 : Option Value} {Y : Ry} {R : Nat → Int32} {bb : Nat → Nat} (hx2 : x2 = none ∨ ∃ v, x2 = some (.int v)) (hS : St g) (RR : RM g b n (yS Y) (0, 0)) (M : MY g Y) (I : YI n Y) (F : Fj SA h g) (z0 : hI g 77 0 = 0) (z12 : hI g 77 12 = 0) (z47 : hI g 77 47 = 0) (z83 : ∀ i, i < 3 → hI g 83 i = R i) : Go l (rmOf (d + 8) (0, 0)) mX10_city n0 (Zm (0, 0) (Qj (0, 0, (yC Y, yT Y, [], Q00, none, (0, bb), -1, R)) h) noX) 160 [some (.ref 77), some (.int x), x2] [] g 0 0 := by
  have z14 : hI g 77 14 = -1 := RR.2.2.2.2.2
  obtain ⟨⟨m24, m25, m26, m27, m28, m29, m30⟩, m8, m9, m10, m11, m12, m13⟩ := M
  obtain ⟨⟨-, ⟨b4, b5, b6⟩, -, -, -⟩, ⟨⟨w1, w2, w3, w4, w5, w6⟩, w7⟩, hT, -, ⟨t1, t2, t3, t4, t5⟩, ⟨c1, c2, c3, c4⟩, x1', x2'⟩ := I
  -- the fields
  have F1 : Fz (fun a k => a = 77 ∧ 1 ≤ k ∧ k ≤ 6) g (uI (uI (uI (uI (uI (uI g 77 1 (nI (cL (yC Y)))) 77 2 (nI (cP (yC Y)))) 77 3 (nI (cN (yC Y)))) 77 4 (nI (cM (yC Y)))) 77 5 (hI g 77 28)) 77 6 (hI g 77 29)) := (((((Fz.rf.uI (by omega)).uI (by omega)).uI (by omega)).uI (by omega)).uI (by omega)).uI (by omega)
  have v : ∀ k, k = uI (uI (uI (uI (uI (uI g 77 1 (nI (cL (yC Y)))) 77 2 (nI (cP (yC Y)))) 77 3 (nI (cN (yC Y)))) 77 4 (nI (cM (yC Y)))) 77 5 (hI g 77 28)) 77 6 (hI g 77 29) → hI k 77 1 = nI (cL (yC Y)) ∧ hI k 77 2 = nI (cP (yC Y)) ∧ hI k 77 3 = nI (cN (yC Y)) ∧ hI k 77 4 = nI (cM (yC Y)) ∧ hI k 77 5 = hI g 77 28 ∧ hI k 77 6 = hI g 77 29 := by
    intro k hk
    rw [hk]
    refine ⟨?_, ?_, ?_, ?_, ?_, ?_⟩
    all_goals repeat first | rw [hI_uI_ne (by omega)] | rw [hI_uI_eq]
  -- behind the fields
  have go233 : ∀ g1, g1 = uI (uI (uI (uI (uI (uI g 77 1 (nI (cL (yC Y)))) 77 2 (nI (cP (yC Y)))) 77 3 (nI (cN (yC Y)))) 77 4 (nI (cM (yC Y)))) 77 5 (hI g 77 28)) 77 6 (hI g 77 29) → Go l (rmOf (d + 8) (0, 0)) mX10_city n0 (Zm (0, 0) (Qj (0, 0, (yC Y, yT Y, [], Q00, none, (0, bb), -1, R)) h) noX) 233 [some (.ref 77), some (.int x), x2] [] g1 0 0 := by
    intro g1 hg1
    have v := v g1 hg1
    rw [← hg1] at F1
    clear hg1
    obtain ⟨v1, v2, v3, v4, v5, v6⟩ := v
    have S1 := F1.St hS
    have cp1 := fun d => q_copies (l := l) (d := d) (a := 84) (b := 78) (n := 8) S1 rfl rfl (by decide) (by decide)
    have hS := S1
    refine go_aloadn dX10_city_233 rfl ?_
    refine go_aloadn dX10_city_234 rfl ?_
    refine sg_getR dX10_city_235 fX10_45 rfl (mo_L rfl) hS (mo_r35 hS rfl) ?_
    refine go_aloadn dX10_city_238 rfl ?_
    refine sg_getR dX10_city_239 fX10_22 rfl (mo_L rfl) hS (mo_r7 hS rfl) ?_
    refine sg_rV0 (M' := mX10_copies) ([.ref 84, .ref 78]) dX10_city_242 lX10_279 vX10_copies (mo_L rfl) (by decide) rfl hS (cp1 _) rfl (Nat.le_of_ble_eq_true rfl) (Nat.zero_le _) (Nat.zero_le _) (fun g2 G2 => ?_)
    skip
    have S2 := G2.1.St S1
    have cp2 := fun d => q_copies (l := l) (d := d) (a := 85) (b := 79) (n := 10) S2 rfl rfl (by decide) (by decide)
    have hS := S2
    refine go_aloadn dX10_city_245 rfl ?_
    refine go_aloadn dX10_city_246 rfl ?_
    refine sg_getR dX10_city_247 fX10_48 rfl (mo_L rfl) hS (mo_r36 hS rfl) ?_
    refine go_aloadn dX10_city_250 rfl ?_
    refine sg_getR dX10_city_251 fX10_26 rfl (mo_L rfl) hS (mo_r8 hS rfl) ?_
    refine sg_rV0 (M' := mX10_copies) ([.ref 85, .ref 79]) dX10_city_254 lX10_279 vX10_copies (mo_L rfl) (by decide) rfl hS (cp2 _) rfl (Nat.le_of_ble_eq_true rfl) (Nat.zero_le _) (Nat.zero_le _) (fun g3 G3 => ?_)
    skip
    have S3 := G3.1.St S2
    -- the blind
    refine (fun (kk : ∀ g4, Fz (fun a _ => a = 81) g3 g4 ∧ (∀ j, j < 8 → hI g4 81 j = vp_nar .boolean (hI g3 89 j)) → Go l (rmOf (d + 8) (0, 0)) mX10_city n0 (Zm (0, 0) (Qj (0, 0, (yC Y, yT Y, [], Q00, none, (0, bb), -1, R)) h) noX) 283 [some (.ref 77), some (.int x), some (.int (nI 8))] [] g4 0 0) => ?_) ?_
    · have hS := S3
      have st : Go l (rmOf (d + 8) (0, 0)) mX10_city n0 (Zm (0, 0) (Qj (0, 0, (yC Y, yT Y, [], Q00, none, (0, bb), -1, R)) h) noX) 259 [some (.ref 77), some (.int x), some (.int (nI 0))] [] g3 0 0 := by
        refine go_cong (go_loopR (lvf := fun k => [some (.ref 77), some (.int x), some (.int (nI k))]) 8 (fun k g4 => Fz (fun a _ => a = 81) g3 g4 ∧ ∀ j, j < k → hI g4 81 j = vp_nar .boolean (hI g3 89 j)) (fun k g4 hk hh ih => ?_) (fun g4 hh => ?_) 0 g3 (Nat.zero_le _) ⟨Fz.rf, fun j hj => absurd hj (Nat.not_lt_zero _)⟩) rfl rfl
        · obtain ⟨F4, e⟩ := hh
          have hS := F4.St S3
          refine go_iloadn dX10_city_259 rfl ?_
          refine go_bipush (v := 8) dX10_city_260 rfl ?_
          refine go_icmp_ge (tgt := 283) dX10_city_262 (by decide) (fun c262 => absurd c262 (nI_ge (b := 8) hk (by decide))) (fun c262 => ?_)
          refine go_aloadn dX10_city_265 rfl ?_
          refine sg_getR dX10_city_266 fX10_32 rfl (mo_L rfl) hS (mo_r10 hS rfl) ?_
          refine go_iloadn dX10_city_269 rfl ?_
          refine go_aloadn dX10_city_270 rfl ?_
          refine sg_getR dX10_city_271 fX10_60 rfl (mo_L rfl) hS (mo_r40 hS rfl) ?_
          refine go_iloadn dX10_city_274 rfl ?_
          refine sg_zaldN (i := k) (x := hI g3 89 k) dX10_city_275 (mo_40 rfl) hS (by simp only [lit_nI, nI_add, pk_mul, Nat.add_assoc, Nat.zero_add, Nat.add_zero]) (by omega) ((F4.I (by omega))) ?_
          refine sg_zastN (i := k) dX10_city_276 (mo_10 rfl) hS (by simp only [lit_nI, nI_add, pk_mul, Nat.add_assoc, Nat.zero_add, Nat.add_zero]) (by omega) ?_
          refine go_iinc2 (c1 := 1) dX10_city_277 rfl rfl ?_
          rw [nI_1]
          refine go_goto (tgt := 259) dX10_city_280 (by decide) ?_
          exact go_cong (ih _ ⟨F4.uI rfl, fun j hj => by by_cases q : j = k; rw [q, hI_uI_eq]; rw [hI_uI_ne (by omega)]; exact e j (by omega)⟩) rfl rfl
        · obtain ⟨F4, e⟩ := hh
          have hS := F4.St S3
          have k4 := kk g4 ⟨F4, e⟩
          refine go_iloadn dX10_city_259 rfl ?_
          refine go_bipush (v := 8) dX10_city_260 rfl ?_
          refine go_icmp_ge (tgt := 283) dX10_city_262 (by decide) (fun c262 => ?_) (fun c262 => absurd (Int32.le_refl _) c262)
          exact k4
      rcases hx2 with rfl | ⟨xv, rfl⟩
      · refine go_iconst (v := 0) dX10_city_257 rfl ?_
        refine go_ist2 dX10_city_258 rfl ?_
        exact st
      · refine go_iconst (v := 0) dX10_city_257 rfl ?_
        refine go_ist2 dX10_city_258 rfl ?_
        exact st
    · intro g4 G4
      have S4 := G4.1.St S3
      have cp3 := fun d => q_copies (l := l) (d := d) (a := 87) (b := 80) (n := 1400) S4 rfl rfl (by decide) (by decide)
      have hS := S4
      refine go_aloadn dX10_city_283 rfl ?_
      refine go_aloadn dX10_city_284 rfl ?_
      refine sg_getR dX10_city_285 fX10_54 rfl (mo_L rfl) hS (mo_r38 hS rfl) ?_
      refine go_aloadn dX10_city_288 rfl ?_
      refine sg_getR dX10_city_289 fX10_29 rfl (mo_L rfl) hS (mo_r9 hS rfl) ?_
      refine sg_rV0 (M' := mX10_copies) ([.ref 87, .ref 80]) dX10_city_292 lX10_279 vX10_copies (mo_L rfl) (by decide) rfl hS (cp3 _) rfl (Nat.le_of_ble_eq_true rfl) (Nat.zero_le _) (Nat.zero_le _) (fun g5 G5 => ?_)
      skip
      have S5 := G5.1.St S4
      have st : Go l (rmOf (d + 8) (0, 0)) mX10_city n0 (Zm (0, 0) (Qj (0, 0, (yC Y, yT Y, [], Q00, none, (0, bb), -1, R)) h) noX) 297 [some (.ref 77), some (.int x), some (.int (nI 0))] [] g5 0 0 := by
        refine go_cong (go_loopR (lvf := fun k => [some (.ref 77), some (.int x), some (.int (nI k))]) 105 (fun k g6 => Fz (fun a j => a = 91 ∧ j < 105) g5 g6 ∧ ∀ j, j < k → hI g6 91 j = hI g5 86 j) (fun k g6 hk hh ih => ?_) (fun g6 hh => ?_) 0 g5 (Nat.zero_le _) ⟨Fz.rf, fun j hj => absurd hj (Nat.not_lt_zero _)⟩) rfl rfl
        · obtain ⟨F6, e⟩ := hh
          have hS := F6.St S5
          refine go_iloadn dX10_city_297 rfl ?_
          refine go_bipush (v := 105) dX10_city_298 rfl ?_
          refine go_icmp_ge (tgt := 321) dX10_city_300 (by decide) (fun c300 => absurd c300 (nI_ge (b := 105) hk (by decide))) (fun c300 => ?_)
          refine go_aloadn dX10_city_303 rfl ?_
          refine sg_getR dX10_city_304 fX10_66 rfl (mo_L rfl) hS (mo_r42 hS rfl) ?_
          refine go_iloadn dX10_city_307 rfl ?_
          refine go_aloadn dX10_city_308 rfl ?_
          refine sg_getR dX10_city_309 fX10_51 rfl (mo_L rfl) hS (mo_r37 hS rfl) ?_
          refine go_iloadn dX10_city_312 rfl ?_
          refine sg_ialdN (i := k) (x := hI g5 86 k) dX10_city_313 (mo_37 rfl) hS (by simp only [lit_nI, nI_add, pk_mul, Nat.add_assoc, Nat.zero_add, Nat.add_zero]) (by omega) ((F6.I (by omega))) ?_
          refine sg_iastN (i := k) dX10_city_314 (mo_42 rfl) hS (by simp only [lit_nI, nI_add, pk_mul, Nat.add_assoc, Nat.zero_add, Nat.add_zero]) (by omega) ?_
          refine go_iinc2 (c1 := 1) dX10_city_315 rfl rfl ?_
          rw [nI_1]
          refine go_goto (tgt := 297) dX10_city_318 (by decide) ?_
          exact go_cong (ih _ ⟨F6.uI ⟨rfl, hk⟩, fun j hj => by by_cases q : j = k; rw [q, hI_uI_eq]; rw [hI_uI_ne (by omega)]; exact e j (by omega)⟩) rfl rfl
        · obtain ⟨F6, e6⟩ := hh
          have S6 := F6.St S5
          have F7 : Fz (fun a k => a = 77 ∧ (k = 44 ∨ k = 51 ∨ k = 56)) g6 (uI (uI (uI g6 77 44 0) 77 51 0) 77 56 0) := ((Fz.rf.uI (by omega)).uI (by omega)).uI (by omega)
          have u1 : hI (uI (uI (uI g6 77 44 0) 77 51 0) 77 56 0) 77 44 = 0 := by repeat first | rw [hI_uI_ne (by omega)] | rw [hI_uI_eq]
          have u2 : hI (uI (uI (uI g6 77 44 0) 77 51 0) 77 56 0) 77 51 = 0 := by repeat first | rw [hI_uI_ne (by omega)] | rw [hI_uI_eq]
          have u3 : hI (uI (uI (uI g6 77 44 0) 77 51 0) 77 56 0) 77 56 = 0 := hI_uI_eq
          have post : ∀ g7, g7 = uI (uI (uI g6 77 44 0) 77 51 0) 77 56 0 → Qj (0, 0, (yC Y, yT Y, [], Q00, none, (0, bb), -1, R)) h (some (.int 0)) g7 := by
            intro g7 hg
            rw [← hg] at F7 u1 u2 u3
            clear hg
            have S7 := F7.St S6
            -- what a cell holds now
            have c77 : ∀ k, ¬ (k = 44 ∨ k = 51 ∨ k = 56) → hI g7 77 k = hI g1 77 k := fun k z => by rw [F7.I (by omega), F6.I (by omega), G5.1.I (by omega), G4.1.I (by omega), G3.1.I (by omega), G2.1.I (by omega)]
            have c86 : ∀ k, k < 105 → hI g7 91 k = hI g 86 k := fun k hk => by rw [F7.I (by omega), e6 k hk, G5.1.I (by omega), G4.1.I (by omega), G3.1.I (by omega), G2.1.I (by omega), F1.I (by omega)]
            have c78 : ∀ k, k < 8 → hI g7 78 k = hI g 84 k := fun k hk => by rw [F7.I (by omega), F6.I (by omega), G5.1.I (by omega), G4.1.I (by omega), G3.1.I (by omega), G2.2 k hk, F1.I (by omega)]
            have c79 : ∀ k, k < 10 → hI g7 79 k = hI g 85 k := fun k hk => by rw [F7.I (by omega), F6.I (by omega), G5.1.I (by omega), G4.1.I (by omega), G3.2 k hk, G2.1.I (by omega), F1.I (by omega)]
            have c81 : ∀ k, k < 8 → hI g7 81 k = vp_nar .boolean (hI g 89 k) := fun k hk => by rw [F7.I (by omega), F6.I (by omega), G5.1.I (by omega), G4.2 k hk, G3.1.I (by omega), G2.1.I (by omega), F1.I (by omega)]
            have c80 : ∀ k, k < 1400 → hI g7 80 k = hI g 87 k := fun k hk => by rw [F7.I (by omega), F6.I (by omega), G5.2 k hk, G4.1.I (by omega), G3.1.I (by omega), G2.1.I (by omega), F1.I (by omega)]
            have c83 : ∀ k, hI g7 83 k = hI g 83 k := fun k => by rw [F7.I (by omega), F6.I (by omega), G5.1.I (by omega), G4.1.I (by omega), G3.1.I (by omega), G2.1.I (by omega), F1.I (by omega)]
            have pmC : ∀ a p, PM (hI g 87) a p → PM (hI g7 80) a p := fun a p H => H.low (t := 1400) H.2.2 (fun k hk => c80 k hk)
            refine ⟨⟨0, rfl, fun _ => rfl⟩, by rw [c77 0 (by omega), F1.I (by omega)]; exact z0, ⟨(yR Y).2.2.1, (yR Y).2.2.2, ⟨⟨S7, ⟨by rw [c77 1 (by omega)]; exact v1, by rw [c77 2 (by omega)]; exact v2, by rw [c77 3 (by omega)]; exact v3, by rw [c77 4 (by omega)]; exact v4⟩, ⟨by rw [c77 5 (by omega), v5]; exact m28, by rw [c77 6 (by omega), v6]; exact m29⟩, fun p hp => ?_, fun t ht => ?_, fun z => pmC _ _ (m12 z), fun z => pmC _ _ (m13 z)⟩, ⟨?_, fun t ht => ?_, fun p hp => ?_, fun i hi => ?_⟩, ?_⟩, ?_⟩, ?_⟩
            · obtain ⟨q1, q2, -, -⟩ := m8 p hp
              have hp' : p < cP (yC Y) := hp
              refine ⟨by rw [c78 p (by omega)]; exact q1, ?_⟩
              rw [c81 p (by omega), q2]
              rcases w7.2.2.1 p hp with q | q <;> rw [q] <;> rfl
            · have ht' : t < cN (yC Y) := ht
              rw [c79 t (by omega)]; exact (m10 t ht).1
            · rw [c86 0 (by decide), m11]; show (0 : Int32) = nI (tD (yT Y)); rw [t1]; rfl
            · have ht' : t < cN (yC Y) := ht
              obtain ⟨-, q2, q3, q4, q5⟩ := m10 t ht
              rw [Nat.zero_add, Nat.zero_add, Nat.zero_add, Nat.zero_add, c86 _ (by omega), c86 _ (by omega), c86 _ (by omega), c86 _ (by omega)]
              exact ⟨q3, q4, by rw [q5]; exact (t3 t).symm, q2⟩
            · have hp' : p < cP (yC Y) := hp
              obtain ⟨-, -, q3, q4⟩ := m8 p hp
              rw [Nat.zero_add, Nat.zero_add, c86 _ (by omega), c86 _ (by omega)]
              exact ⟨by rw [q4]; exact (t4 p).symm, q3⟩
            · have hi' : i < 6 * cP (yC Y) := hi
              rw [Nat.zero_add, c86 _ (by omega)]
              exact m9 i (by omega)
            · rw [c77 47 (by omega), F1.I (by omega)]; exact z47
            · refine ⟨⟨u1, Nat.zero_le _, fun i hi => absurd hi (Nat.not_lt_zero _)⟩, ⟨u2, Nat.zero_le _, fun i hi => absurd hi (Nat.not_lt_zero _)⟩, u3, ⟨by rw [c77 12 (by omega), F1.I (by omega)]; exact z12, fun i hi => absurd hi (Nat.not_lt_zero _)⟩, by rw [c77 14 (by omega), F1.I (by omega)]; exact z14, fun i hi => by rw [c83]; exact z83 i hi⟩
            · exact F.tr ((((((F1.j.sub (fun a k q => show SA a k by unfold SA; omega)).tr (G2.1.j.sub (fun a k q => show SA a k by unfold SA; omega))).tr (G3.1.j.sub (fun a k q => show SA a k by unfold SA; omega))).tr (G4.1.j.sub (fun a k q => show SA a k by unfold SA; omega))).tr (G5.1.j.sub (fun a k q => show SA a k by unfold SA; omega))).tr ((F6.j.sub (fun a k q => show SA a k by unfold SA; omega)).tr (F7.j.sub (fun a k q => show SA a k by unfold SA; omega))))
          have hS := S6
          refine go_iloadn dX10_city_297 rfl ?_
          refine go_bipush (v := 105) dX10_city_298 rfl ?_
          refine go_icmp_ge (tgt := 321) dX10_city_300 (by decide) (fun c300 => ?_) (fun c300 => absurd (Int32.le_refl _) c300)
          refine go_aloadn dX10_city_321 rfl ?_
          refine go_iconst (v := 0) dX10_city_322 rfl ?_
          refine sg_putI dX10_city_323 fX10_283 rfl rfl (mo_L rfl) hS ?_
          refine go_aloadn dX10_city_326 rfl ?_
          refine go_iconst (v := 0) dX10_city_327 rfl ?_
          refine sg_putI dX10_city_328 fX10_286 rfl rfl (mo_L rfl) hS ?_
          refine go_aloadn dX10_city_331 rfl ?_
          refine go_iconst (v := 0) dX10_city_332 rfl ?_
          refine sg_putZ dX10_city_333 fX10_289 rfl rfl (mo_L rfl) hS (Or.inl rfl) ?_
          refine go_iconst (v := 0) dX10_city_336 rfl ?_
          refine go_ireturn dX10_city_337 rfl rfl (Nat.zero_le _) (Nat.zero_le _) ?_
          exact post _ rfl
      have hS := S5
      refine go_iconst (v := 0) dX10_city_295 rfl ?_
      refine go_ist2 dX10_city_296 rfl ?_
      exact st
  have go177 : ∀ v, v = nI (cL (yC Y)) → Go l (rmOf (d + 8) (0, 0)) mX10_city n0 (Zm (0, 0) (Qj (0, 0, (yC Y, yT Y, [], Q00, none, (0, bb), -1, R)) h) noX) 177 [some (.ref 77), some (.int x), x2] [.int v, .ref 77] g 0 0 := by
    intro v hv
    subst hv
    by_cases ym : yM Y = 0
    · rw [if_pos ym] at m27
      have cm : cM (yC Y) = 10 := c2 ym
      rw [cm] at go233
      refine sg_putI dX10_city_177 fX10_7 rfl rfl (mo_L rfl) hS ?_
      refine go_aloadn dX10_city_180 rfl ?_
      refine go_aloadn dX10_city_181 rfl ?_
      refine sg_getI dX10_city_182 fX10_224 rfl (mo_L rfl) hS ?_
      rw [hI_uI_ne (by omega), m25]
      refine sg_putI dX10_city_185 fX10_273 rfl rfl (mo_L rfl) hS ?_
      refine go_aloadn dX10_city_188 rfl ?_
      refine go_aloadn dX10_city_189 rfl ?_
      refine sg_getI dX10_city_190 fX10_237 rfl (mo_L rfl) hS ?_
      rw [hI_uI_ne (by omega), hI_uI_ne (by omega), m26]
      refine sg_putI dX10_city_193 fX10_276 rfl rfl (mo_L rfl) hS ?_
      refine go_aloadn dX10_city_196 rfl ?_
      refine go_aloadn dX10_city_197 rfl ?_
      refine sg_getI dX10_city_198 fX10_250 rfl (mo_L rfl) hS ?_
      rw [hI_uI_ne (by omega), hI_uI_ne (by omega), hI_uI_ne (by omega), m27]
      refine go_iconst (v := -1) dX10_city_201 rfl ?_
      refine go_icmp_ne (tgt := 210) dX10_city_202 (by decide) (fun c202 => absurd rfl c202) (fun c202 => ?_)
      refine go_bipush (v := 10) dX10_city_205 rfl ?_
      refine go_goto (tgt := 214) dX10_city_207 (by decide) ?_
      refine sg_putI dX10_city_214 fX10_13 rfl rfl (mo_L rfl) hS ?_
      refine go_aloadn dX10_city_217 rfl ?_
      refine go_aloadn dX10_city_218 rfl ?_
      refine sg_getI dX10_city_219 fX10_253 rfl (mo_L rfl) hS ?_
      rw [hI_uI_ne (by omega), hI_uI_ne (by omega), hI_uI_ne (by omega), hI_uI_ne (by omega)]
      refine sg_putI dX10_city_222 fX10_16 rfl rfl (mo_L rfl) hS ?_
      refine go_aloadn dX10_city_225 rfl ?_
      refine go_aloadn dX10_city_226 rfl ?_
      refine sg_getI dX10_city_227 fX10_260 rfl (mo_L rfl) hS ?_
      rw [hI_uI_ne (by omega), hI_uI_ne (by omega), hI_uI_ne (by omega), hI_uI_ne (by omega), hI_uI_ne (by omega)]
      refine sg_putI dX10_city_230 fX10_19 rfl rfl (mo_L rfl) hS ?_
      exact go233 _ rfl
    · rw [if_neg ym] at m27
      refine sg_putI dX10_city_177 fX10_7 rfl rfl (mo_L rfl) hS ?_
      refine go_aloadn dX10_city_180 rfl ?_
      refine go_aloadn dX10_city_181 rfl ?_
      refine sg_getI dX10_city_182 fX10_224 rfl (mo_L rfl) hS ?_
      rw [hI_uI_ne (by omega), m25]
      refine sg_putI dX10_city_185 fX10_273 rfl rfl (mo_L rfl) hS ?_
      refine go_aloadn dX10_city_188 rfl ?_
      refine go_aloadn dX10_city_189 rfl ?_
      refine sg_getI dX10_city_190 fX10_237 rfl (mo_L rfl) hS ?_
      rw [hI_uI_ne (by omega), hI_uI_ne (by omega), m26]
      refine sg_putI dX10_city_193 fX10_276 rfl rfl (mo_L rfl) hS ?_
      refine go_aloadn dX10_city_196 rfl ?_
      refine go_aloadn dX10_city_197 rfl ?_
      refine sg_getI dX10_city_198 fX10_250 rfl (mo_L rfl) hS ?_
      rw [hI_uI_ne (by omega), hI_uI_ne (by omega), hI_uI_ne (by omega), m27]
      refine go_iconst (v := -1) dX10_city_201 rfl ?_
      refine go_icmp_ne (tgt := 210) dX10_city_202 (by decide) (fun c202 => ?_) (fun c202 => absurd c202 (nI_m1 (by omega)))
      refine go_aloadn dX10_city_210 rfl ?_
      refine sg_getI dX10_city_211 fX10_250 rfl (mo_L rfl) hS ?_
      rw [hI_uI_ne (by omega), hI_uI_ne (by omega), hI_uI_ne (by omega), m27]
      refine sg_putI dX10_city_214 fX10_13 rfl rfl (mo_L rfl) hS ?_
      refine go_aloadn dX10_city_217 rfl ?_
      refine go_aloadn dX10_city_218 rfl ?_
      refine sg_getI dX10_city_219 fX10_253 rfl (mo_L rfl) hS ?_
      rw [hI_uI_ne (by omega), hI_uI_ne (by omega), hI_uI_ne (by omega), hI_uI_ne (by omega)]
      refine sg_putI dX10_city_222 fX10_16 rfl rfl (mo_L rfl) hS ?_
      refine go_aloadn dX10_city_225 rfl ?_
      refine go_aloadn dX10_city_226 rfl ?_
      refine sg_getI dX10_city_227 fX10_260 rfl (mo_L rfl) hS ?_
      rw [hI_uI_ne (by omega), hI_uI_ne (by omega), hI_uI_ne (by omega), hI_uI_ne (by omega), hI_uI_ne (by omega)]
      refine sg_putI dX10_city_230 fX10_19 rfl rfl (mo_L rfl) hS ?_
      exact go233 _ rfl
  by_cases yp : yP Y = 0
  · rw [if_pos yp] at m24
    refine go_aloadn dX10_city_160 rfl ?_
    refine go_aloadn dX10_city_161 rfl ?_
    refine sg_getI dX10_city_162 fX10_231 rfl (mo_L rfl) hS ?_
    rw [m24]
    refine go_iconst (v := -1) dX10_city_165 rfl ?_
    refine go_icmp_ne (tgt := 173) dX10_city_166 (by decide) (fun c166 => absurd rfl c166) (fun c166 => ?_)
    refine go_iconst (v := 3) dX10_city_169 rfl ?_
    refine go_goto (tgt := 177) dX10_city_170 (by decide) ?_
    exact go177 3 (by rw [c1 yp]; rfl)
  · rw [if_neg yp] at m24
    refine go_aloadn dX10_city_160 rfl ?_
    refine go_aloadn dX10_city_161 rfl ?_
    refine sg_getI dX10_city_162 fX10_231 rfl (mo_L rfl) hS ?_
    rw [m24]
    refine go_iconst (v := -1) dX10_city_165 rfl ?_
    refine go_icmp_ne (tgt := 173) dX10_city_166 (by decide) (fun c166 => ?_) (fun c166 => absurd c166 (nI_m1 (by omega)))
    refine go_aloadn dX10_city_173 rfl ?_
    refine sg_getI dX10_city_174 fX10_231 rfl (mo_L rfl) hS ?_
    rw [m24]; exact go177 _ rfl
theorem m_city {l : Launch} {d : Nat} {x : Int32} {S : Sx} {h : Hp} (W : WS S) (K : MV h S) : Run l (d + 8) (0, 0) mX10_city [.ref 77, .int x] h (Qj (oCity S x) h) noX := by
  have K0 := K
  obtain ⟨as, ar, H1, H2⟩ := K
  have hS := H1.1.1
  have w6 := W.2.2.2.2.2.1
  have w7 := W.2.2.2.2.2.2
  refine run_lv [some (.ref 77), some (.int x), none] (go := ?_)
  have F0 : Fz (fun a k => a = 77 ∧ k = 0) h (uI h 77 0 0) := Fz.rf.uI ⟨rfl, rfl⟩
  have z0 : hI (uI h 77 0 0) 77 0 = 0 := hI_uI_eq
  have e12 : hI (uI h 77 0 0) 77 12 = nI (sP S).1 := by rw [hI_uI_ne (by omega)]; exact H2.2.2.2.1.1
  have fin : ∀ h1, h1 = uI h 77 0 0 → Go l (rmOf (d + 8) (0, 0)) mX10_city (hN h) (Zm (0, 0) (Qj (oCity S x) h) noX) 5 [some (.ref 77), some (.int x), none] [] h1 0 0 := by
    intro h1 hg
    rw [← hg] at F0 z0 e12
    clear hg
    have S1 := F0.St hS
    have F0j : Fj SA h h1 := F0.j.sub (fun a k q => by unfold SA; omega)
    have mv1 : MV h1 S := ⟨as, ar, H1.ej W.1 S1 (fun k hk => F0.I (by omega)) (fun a k hk => F0.I (by omega)), by
      obtain ⟨m1, m2, m3, ⟨m4, m5⟩, m6, m7⟩ := H2
      have e92 : hI h1 92 = hI h 92 := funext fun k => F0.I (by omega)
      exact ⟨by rw [e92, F0.I (by omega)]; exact m1, m2.fz F0 ⟨by omega, fun k => by omega⟩, m3.eq (fun k a q => F0.I (by omega)), ⟨by rw [F0.I (by omega)]; exact m4, fun i hi => by rw [F0.I (by omega)]; exact m5 i hi⟩, by rw [F0.I (by omega)]; exact m6, fun i hi => by rw [F0.I (by omega)]; exact m7 i hi⟩⟩
    unfold oCity
    have rg := fun d => q_right (l := l) (d := d) (k := 1) (P := 0 ≤ x ∧ x ≤ nI (sP S).1) S1 z0 (by decide) (by decide)
    by_cases q : 0 ≤ x ∧ x ≤ nI (sP S).1
    · rw [if_pos q]
      have rg := fun d => (rg d).1 q
      rw [if_pos q] at rg
      obtain ⟨n, n1, n2, n3⟩ := le_nI w6 q
      rw [n3]
      have cyo := cy_ok (S := S) (n := n) (by omega)
      have cyd : cyY S n = yFin (sP S).2 n (y00 (tkW (sP S).2 n 0)) := rfl
      have bts : ∀ i, i < n → hI h1 82 i = nI ((sP S).2 i) ∧ (sP S).2 i < 256 := fun i hi => ⟨by rw [F0.I (by omega)]; exact H2.2.2.2.1.2 i (by omega), w7 i⟩
      generalize hgO : (if (yF (cyY S n)).1 = 0 then ((0, 0, (yC (cyY S n), yT (cyY S n), [], Q00, none, (0, (sP S).2), -1, sR S)) : Sa) else (0, nI (yF (cyY S n)).1, (sC S, sT S, sA S, sQ S, sM S, (0, (sP S).2), nI (yF (cyY S n)).2, upd (sR S) 0 (sR S 0 + 1)))) = O
      have go32 : Go l (rmOf (d + 8) (0, 0)) mX10_city (hN h) (Zm (0, 0) (Qj O h) noX) 32 [some (.ref 77), some (.int (nI n)), none] [] h1 0 0 := by
        refine q_ct32 S1 S1 (by omega) bts z0 (fun g y0 y12 F E1 E2 => ?_)
        rw [← cyd] at E1 E2
        have hS := F.St S1
        have Fs : Fj SA h g := F0j.tr (F.sub (fun a k q => by unfold Sci SLn at q; unfold SA; omega))
        have eI : ∀ a k, ¬ ((a = 77 ∧ (k = 0 ∨ (12 ≤ k ∧ k ≤ 34))) ∨ (84 ≤ a ∧ a ≤ 90)) → hI g a k = hI h a k := fun a k z => (F.I (by unfold Sci SLn; omega)).trans (F0.I (by omega))
        have z47 : hI g 77 47 = 0 := (eI _ _ (by omega)).trans H1.2.2
        have z83 : ∀ i, i < 3 → hI g 83 i = sR S i := fun i hi => (eI _ _ (by omega)).trans (H2.2.2.2.2.2 i hi)
        by_cases y : (yF (cyY S n)).1 = 0
        · rw [if_pos y] at hgO
          subst hgO
          obtain ⟨R2, M2⟩ := E1 y
          have gd : hI g 77 13 = 0 := R2.good.mpr rfl
          have ig := fun d => q_isGood (l := l) (d := d) hS
          rw [if_pos gd] at ig
          have out := q_ct160 (l := l) (d := d) (n := n) (x := nI n) (b := (sP S).2) (h := h) (n0 := hN h) (x2 := some (.int (nI 105))) (R := sR S) (bb := (sP S).2) (Or.inr ⟨_, rfl⟩) hS R2 M2 (cyo y) Fs y0 y12 z47 z83
          refine go_aloadn dX10_city_138 rfl ?_
          refine sg_cVi (M' := mX10_isGood) ([]) dX10_city_139 lX10_161 vX10_isGood (mo_L rfl) (by decide) rfl hS (ig _) rfl (Nat.le_of_ble_eq_true rfl) (Nat.zero_le _) (Nat.zero_le _) ?_
          refine go_if_ne (tgt := 160) dX10_city_142 (by decide) (fun c142 => ?_) (fun c142 => absurd c142 (by decide))
          exact out
        · rw [if_neg y] at hgO
          subst hgO
          obtain ⟨s, R2⟩ := E2 y
          have ig := fun d => q_isGood (l := l) (d := d) hS
          rw [if_neg (fun q => y (R2.good.mp q))] at ig
          have e13 := R2.2.2.2.1
          have e14 := R2.2.2.2.2.2
          rw [if_neg y] at e14
          have F6 : Fz (fun a k => a = 83 ∧ k = 0) g (uI g 83 0 (hI g 83 0 + 1)) := Fz.rf.uI ⟨rfl, rfl⟩
          have u1 : hI (uI g 83 0 (hI g 83 0 + 1)) 83 0 = sR S 0 + 1 := by rw [hI_uI_eq, z83 0 (by decide)]
          have post : ∀ g6, g6 = uI g 83 0 (hI g 83 0 + 1) → Qj (0, nI (yF (cyY S n)).1, (sC S, sT S, sA S, sQ S, sM S, (0, (sP S).2), nI (yF (cyY S n)).2, upd (sR S) 0 (sR S 0 + 1))) h (some (.int (nI (yF (cyY S n)).1))) g6 := by
            intro g6 hg6
            rw [← hg6] at F6 u1
            have e6 : ∀ a k, ¬ ((a = 77 ∧ (k = 0 ∨ (12 ≤ k ∧ k ≤ 34))) ∨ (84 ≤ a ∧ a ≤ 90) ∨ (a = 83 ∧ k = 0)) → hI g6 a k = hI h a k := fun a k z => (F6.I (by omega)).trans (eI a k (by omega))
            refine ⟨⟨_, rfl, fun _ => rfl⟩, by rw [F6.I (by omega)]; exact y0, ⟨as, ar, H1.ej W.1 (F6.St hS) (fun k hk => e6 _ _ (by omega)) (fun a k hk => e6 _ _ (by omega)), ?_⟩, Fs.tr (F6.j.sub (fun a k q => by unfold SA; omega))⟩
            obtain ⟨m1, m2, m3, ⟨m4, m5⟩, m6, m7⟩ := H2
            have e92 : hI g6 92 = hI h 92 := funext fun k => e6 _ _ (by omega)
            refine ⟨by rw [e92, e6 _ _ (by omega)]; exact m1, ⟨by rw [e6 _ _ (by omega)]; exact m2.1, m2.2.1, fun i hi => by rw [e6 _ _ (by omega), e6 _ _ (by omega), e6 _ _ (by omega)]; exact m2.2.2 i hi⟩, m3.eq (fun k a q => e6 _ _ (by omega)), ⟨by rw [F6.I (by omega)]; exact y12, fun i hi => absurd hi (Nat.not_lt_zero _)⟩, by rw [F6.I (by omega)]; exact e14, fun i hi => ?_⟩
            show hI g6 83 i = upd (sR S) 0 (sR S 0 + 1) i
            by_cases q : i = 0
            · rw [q, pk_us]; exact u1
            · rw [pk_un q, F6.I (by omega)]; exact z83 i hi
          refine go_aloadn dX10_city_138 rfl ?_
          refine sg_cVi (M' := mX10_isGood) ([]) dX10_city_139 lX10_161 vX10_isGood (mo_L rfl) (by decide) rfl hS (ig _) rfl (Nat.le_of_ble_eq_true rfl) (Nat.zero_le _) (Nat.zero_le _) ?_
          refine go_if_ne (tgt := 160) dX10_city_142 (by decide) (fun c142 => absurd rfl c142) (fun c142 => ?_)
          refine go_aloadn dX10_city_145 rfl ?_
          refine sg_getR dX10_city_146 fX10_42 rfl (mo_L rfl) hS (mo_r15 hS rfl) ?_
          refine go_iconst (v := 0) dX10_city_149 rfl ?_
          refine go_dup2 dX10_city_150 rfl rfl ?_
          refine sg_ialdN (i := 0) (x := hI g 83 0) dX10_city_151 (mo_15 rfl) hS (by simp only [lit_nI, nI_add, pk_mul, Nat.add_assoc, Nat.zero_add, Nat.add_zero]) (by omega) (rfl) ?_
          refine go_iconst (v := 1) dX10_city_152 rfl ?_
          refine go_iadd dX10_city_153 ?_
          refine sg_iastN (i := 0) dX10_city_154 (mo_15 rfl) hS (by simp only [lit_nI, nI_add, pk_mul, Nat.add_assoc, Nat.zero_add, Nat.add_zero]) (by omega) ?_
          refine go_aloadn dX10_city_155 rfl ?_
          refine sg_getI dX10_city_156 fX10_158 rfl (mo_L rfl) hS ?_
          rw [hI_uI_ne (by omega), e13]
          refine go_ireturn dX10_city_159 rfl rfl (Nat.zero_le _) (Nat.zero_le _) ?_
          exact post _ rfl
      rw [n2]
      rw [n2] at q
      have hS := S1
      refine go_aloadn dX10_city_5 rfl ?_
      refine go_iloadn dX10_city_6 rfl ?_
      refine go_if_lt (tgt := 22) dX10_city_7 (by decide) (fun c7 => absurd c7 (Int32.not_lt.mpr q.1)) (fun c7 => ?_)
      refine go_iloadn dX10_city_10 rfl ?_
      refine go_aloadn dX10_city_11 rfl ?_
      refine sg_getI dX10_city_12 fX10_105 rfl (mo_L rfl) hS ?_
      rw [e12]
      refine go_icmp_gt (tgt := 22) dX10_city_15 (by decide) (fun c15 => absurd c15 (Int32.not_lt.mpr q.2)) (fun c15 => ?_)
      refine go_iconst (v := 1) dX10_city_18 rfl ?_
      refine go_goto (tgt := 23) dX10_city_19 (by decide) ?_
      refine go_iconst (v := 1) dX10_city_23 rfl ?_
      refine sg_cVi (M' := mX10_right) ([.int 1, .int (nI 1)]) dX10_city_24 lX10_266 vX10_right (mo_L rfl) (by decide) rfl hS (rg _) rfl (Nat.le_of_ble_eq_true rfl) (Nat.zero_le _) (Nat.zero_le _) ?_
      refine go_if_ne (tgt := 32) dX10_city_27 (by decide) (fun c27 => ?_) (fun c27 => absurd c27 (by decide))
      exact go32
    · rw [if_neg q]
      have rg := fun d => (rg d).2 q
      rw [if_neg q] at rg
      have hS := S1
      have F2 : Fz (fun a k => a = 77 ∧ k = 0) h1 (uI h1 77 0 (nI 1)) := Fz.rf.uI ⟨rfl, rfl⟩
      have mv2 : MV (uI h1 77 0 (nI 1)) S := ⟨as, ar, H1.ej W.1 (F2.St S1) (fun k hk => (F2.I (by omega)).trans (F0.I (by omega))) (fun a k hk => (F2.I (by omega)).trans (F0.I (by omega))), by
        obtain ⟨m1, m2, m3, ⟨m4, m5⟩, m6, m7⟩ := H2
        have F3 := F0.tr F2
        generalize uI h1 77 0 (nI 1) = h2 at *
        have e92 : hI h2 92 = hI h 92 := funext fun k => F3.I (by omega)
        exact ⟨by rw [e92, F3.I (by omega)]; exact m1, m2.fz F3 ⟨by omega, fun k => by omega⟩, m3.eq (fun k a q => F3.I (by omega)), ⟨by rw [F3.I (by omega)]; exact m4, fun i hi => by rw [F3.I (by omega)]; exact m5 i hi⟩, by rw [F3.I (by omega)]; exact m6, fun i hi => by rw [F3.I (by omega)]; exact m7 i hi⟩⟩
      have go23 : Go l (rmOf (d + 8) (0, 0)) mX10_city (hN h) (Zm (0, 0) (Qj (1, 0, S) h) noX) 23 [some (.ref 77), some (.int x), none] [.int 0, .ref 77] h1 0 0 := by
        refine go_iconst (v := 1) dX10_city_23 rfl ?_
        refine sg_cVi (M' := mX10_right) ([.int 0, .int (nI 1)]) dX10_city_24 lX10_266 vX10_right (mo_L rfl) (by decide) rfl hS (rg _) rfl (Nat.le_of_ble_eq_true rfl) (Nat.zero_le _) (Nat.zero_le _) ?_
        refine go_if_ne (tgt := 32) dX10_city_27 (by decide) (fun c27 => absurd rfl c27) (fun c27 => ?_)
        refine go_iconst (v := 0) dX10_city_30 rfl ?_
        refine go_ireturn dX10_city_31 rfl rfl (Nat.zero_le _) (Nat.zero_le _) ?_
        exact ⟨⟨0, rfl, fun z => absurd z (show ¬ (1 : Nat) = 0 by decide)⟩, hI_uI_eq, mv2, F0j.tr (F2.j.sub (fun a k q => by unfold SA; omega))⟩
      refine go_aloadn dX10_city_5 rfl ?_
      refine go_iloadn dX10_city_6 rfl ?_
      refine go_if_lt (tgt := 22) dX10_city_7 (by decide) (fun c7 => ?_) (fun c7 => ?_)
      · refine go_iconst (v := 0) dX10_city_22 rfl ?_
        exact go23
      · refine go_iloadn dX10_city_10 rfl ?_
        refine go_aloadn dX10_city_11 rfl ?_
        refine sg_getI dX10_city_12 fX10_105 rfl (mo_L rfl) hS ?_
        rw [e12]
        refine go_icmp_gt (tgt := 22) dX10_city_15 (by decide) (fun c15 => ?_) (fun c15 => absurd ⟨Int32.not_lt.mp c7, Int32.not_lt.mp c15⟩ q)
        refine go_iconst (v := 0) dX10_city_22 rfl ?_
        exact go23
  refine go_aloadn dX10_city_0 rfl ?_
  refine go_iconst (v := 0) dX10_city_1 rfl ?_
  refine sg_putI dX10_city_2 fX10_102 rfl rfl (mo_L rfl) hS ?_
  exact fin _ rfl
