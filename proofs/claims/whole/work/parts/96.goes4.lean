/-! the model's next token: all -/
theorem nI_G : ∀ n : Fin 256, isG n.val = (decide (nI n.val = 59) || decide (nI n.val = 40) || decide (nI n.val = 41) || decide (nI n.val = 43) || decide (nI n.val = 45) || decide (nI n.val = 42) || decide (nI n.val = 47) || decide (nI n.val = 60) || decide (nI n.val = 61)) := by decide +kernel
theorem tkE_ge {b : Nat → Nat} {n s : Nat} : s ≤ tkE b n s := by
  unfold tkE
  split
  · exact Nat.le_refl _
  · split
    · exact spn_ok.2.2.1
    · split
      · exact spn_ok.2.2.1
      · omega
theorem q_goes {l : Launch} {d n i : Nat} {b : Nat → Nat} {h : Hp} (hS : St h) (H : TM h b n) (he : hI h 77 17 = nI i) (hi : i ≤ n) : Ey l (d + 2) mX10_goes [.ref 77] h none (fun g => Fj SGo h g ∧ TKm g b n (tkW b n i) (tkE b n (tkW b n i))) := by
  have n7 := H.2.1
  refine run_lv [some (.ref 77), none] (go := ?_)
  refine q_skips hS H he hi (fun g F e17 => ?_)
  have sn : tkW b n i ≤ n := spn_ok.2.2.2 hi
  generalize tkW b n i = s at *
  have fin : ∀ g3, Fj SGo h g3 → hI g3 77 17 = nI (tkE b n s) → hI g3 77 18 = nI (tkK b n s) → hI g3 77 19 = nI s → hI g3 77 21 = (if tkK b n s = 2 then nI (nvN b s (tkE b n s - s)) else 0) → hI g3 77 22 = nI (if s < n then b s else 0) → hJ g3 77 23 = (if tkK b n s = 1 then lN (wdN b s (tkE b n s - s)) else 0) → ∀ lc, Go l (rmOf (d + 2) (0, 0)) mX10_goes (hN h) (Zm (0, 0) (fun v h1 => v = none ∧ Fj SGo h h1 ∧ TKm h1 b n s (tkE b n s)) noX) 331 [some (.ref 77), lc] [] g3 0 0 := by
    intro g3 F3 z17 z18 z19 z21 z22 zJ lc
    have hS := F3.St hS
    have ge := tkE_ge (b := b) (n := n) (s := s)
    refine go_aloadn dX10_goes_331 rfl ?_
    refine go_aloadn dX10_goes_332 rfl ?_
    refine sg_getI dX10_goes_333 fX10_115 rfl (mo_L rfl) hS ?_
    rw [z17]
    refine go_aloadn dX10_goes_336 rfl ?_
    refine sg_getI dX10_goes_337 fX10_122 rfl (mo_L rfl) hS ?_
    rw [z19]
    refine go_isub dX10_goes_340 ?_
    rw [sub_c ge]
    refine sg_putI dX10_goes_341 fX10_145 rfl rfl (mo_L rfl) hS ?_
    refine go_return dX10_goes_344 rfl (Nat.zero_le _) (Nat.zero_le _) ?_
    exact ⟨rfl, F3.uI (by unfold SGo; omega), by rw [hI_uI_ne (by omega)]; exact z17, by rw [hI_uI_ne (by omega)]; exact z18, by rw [hI_uI_ne (by omega)]; exact z19, hI_uI_eq, by rw [hI_uI_ne (by omega)]; exact z21, by rw [hI_uI_ne (by omega)]; exact z22, by rw [hJ_uI']; exact zJ⟩
  have S1 := F.St hS
  have hS := S1
  refine go_aloadn dX10_goes_50 rfl ?_
  refine go_aloadn dX10_goes_51 rfl ?_
  refine sg_getI dX10_goes_52 fX10_115 rfl (mo_L rfl) hS ?_
  rw [e17]
  refine sg_putI dX10_goes_55 fX10_122 rfl rfl (mo_L rfl) hS ?_
  refine go_aloadn dX10_goes_58 rfl ?_
  refine go_lconst (v := 0) dX10_goes_59 rfl ?_
  refine sg_putJ dX10_goes_60 fX10_125 rfl rfl (mo_L rfl) hS ?_
  refine go_aloadn dX10_goes_63 rfl ?_
  refine go_iconst (v := 0) dX10_goes_64 rfl ?_
  refine sg_putI dX10_goes_65 fX10_129 rfl rfl (mo_L rfl) hS ?_
  skip
  have F1 : Fj SGo h (uI (uJ (uI g 77 19 (nI s)) 77 23 0) 77 21 0) := (fj_uJ (F.j.uI (by unfold SGo; omega))).uI (by unfold SGo; omega)
  have x17 : hI (uI (uJ (uI g 77 19 (nI s)) 77 23 0) 77 21 0) 77 17 = nI s := by rw [hI_uI_ne (by omega), hI_uJ, hI_uI_ne (by omega)]; exact e17
  have x19 : hI (uI (uJ (uI g 77 19 (nI s)) 77 23 0) 77 21 0) 77 19 = nI s := by rw [hI_uI_ne (by omega), hI_uJ, hI_uI_eq]
  have x21 : hI (uI (uJ (uI g 77 19 (nI s)) 77 23 0) 77 21 0) 77 21 = 0 := hI_uI_eq
  have xJ : hJ (uI (uJ (uI g 77 19 (nI s)) 77 23 0) 77 21 0) 77 23 = 0 := by rw [hJ_uI', hJ_uJ_eq]
  refine go_cong (h' := uI (uJ (uI g 77 19 (nI s)) 77 23 0) 77 21 0) ?_ rfl rfl
  generalize uI (uJ (uI g 77 19 (nI s)) 77 23 0) 77 21 0 = g1 at *
  have H3 := H.go F1
  have hS : St g1 := ⟨F1.2.1.trans (by have := S1.1; rw [F.2.1] at this; exact this), fun q hq => by rw [F1.1, ← F.1]; exact S1.2 q hq⟩
  refine go_aloadn dX10_goes_68 rfl ?_
  refine go_aloadn dX10_goes_69 rfl ?_
  refine sg_getI dX10_goes_70 fX10_115 rfl (mo_L rfl) hS ?_
  rw [x17]
  refine sg_cVi (M' := mX10_byteAt) ([.int (nI s)]) dX10_goes_73 lX10_118 vX10_byteAt (mo_L rfl) (by decide) rfl hS (q_byteAt hS H3 (by omega)) rfl (Nat.le_of_ble_eq_true rfl) (Nat.zero_le _) (Nat.zero_le _) ?_
  refine go_ist1 dX10_goes_76 rfl ?_
  refine go_aloadn dX10_goes_77 rfl ?_
  refine go_iloadn dX10_goes_78 rfl ?_
  refine sg_putI dX10_goes_79 fX10_132 rfl rfl (mo_L rfl) hS ?_
  skip
  have F2 : Fj SGo h (uI g1 77 22 (nI (if s < n then b s else 0))) := F1.uI (by unfold SGo; omega)
  have y17 : hI (uI g1 77 22 (nI (if s < n then b s else 0))) 77 17 = nI s := by rw [hI_uI_ne (by omega)]; exact x17
  have y19 : hI (uI g1 77 22 (nI (if s < n then b s else 0))) 77 19 = nI s := by rw [hI_uI_ne (by omega)]; exact x19
  have y21 : hI (uI g1 77 22 (nI (if s < n then b s else 0))) 77 21 = 0 := by rw [hI_uI_ne (by omega)]; exact x21
  have y22 : hI (uI g1 77 22 (nI (if s < n then b s else 0))) 77 22 = nI (if s < n then b s else 0) := hI_uI_eq
  have yJ : hJ (uI g1 77 22 (nI (if s < n then b s else 0))) 77 23 = 0 := by rw [hJ_uI']; exact xJ
  refine go_cong (h' := uI g1 77 22 (nI (if s < n then b s else 0))) ?_ rfl rfl
  have S3 : St (uI g1 77 22 (nI (if s < n then b s else 0))) := hS.of uI_2
  generalize uI g1 77 22 (nI (if s < n then b s else 0)) = g2 at *
  have H4 := H.go F2
  have hS := S3
  by_cases q : s < n
  · have c2 := (H4.2.2 s q).2
    rw [if_pos q] at y22 ⊢
    have nq : ¬ n ≤ s := by omega
    by_cases L : isL (b s) = true
    · have tK : tkK b n s = 1 := by unfold tkK; rw [if_neg nq, if_pos L]
      have tE : tkE b n s = spn (fun j => isL (b j)) n s := by unfold tkE; rw [if_neg nq, if_pos L]
      refine go_aloadn dX10_goes_82 rfl ?_
      refine sg_getI dX10_goes_83 fX10_115 rfl (mo_L rfl) hS ?_
      rw [y17]
      refine go_aloadn dX10_goes_86 rfl ?_
      refine sg_getI dX10_goes_87 fX10_112 rfl (mo_L rfl) hS ?_
      rw [H4.1]
      refine go_icmp_lt (tgt := 101) dX10_goes_90 (by decide) (fun c90 => ?_) (fun c90 => absurd (nI_lt q (by omega)) c90)
      refine go_iloadn dX10_goes_101 rfl ?_
      refine sg_cSi (M' := mX10_isLetter) ([.int (nI (b s))]) dX10_goes_102 lX10_138 sX10_isLetter hS (q_isLetter c2) rfl (Nat.le_of_ble_eq_true rfl) (Nat.zero_le _) (Nat.zero_le _) ?_
      rw [if_pos L]
      refine go_if_eq (tgt := 180) dX10_goes_105 (by decide) (fun c105 => absurd c105 (by decide)) (fun c105 => ?_)
      skip
      refine q_letters hS H4 y17 y19 yJ (by omega) (fun g3 F3 z17 zJ => ?_)
      have hS := F3.St hS
      have F4 : Fj SGo h g3 := F2.tr (F3.sub (fun a k q => by unfold S17 at q; unfold SGo; omega))
      refine go_aloadn dX10_goes_172 rfl ?_
      refine go_iconst (v := 1) dX10_goes_173 rfl ?_
      refine sg_putI dX10_goes_174 fX10_135 rfl rfl (mo_L rfl) hS ?_
      refine go_goto (tgt := 331) dX10_goes_177 (by decide) ?_
      exact fin _ (F4.uI (by unfold SGo; omega)) (by rw [hI_uI_ne (by omega), tE]; exact z17) (by rw [hI_uI_eq, tK]; rfl) (by rw [hI_uI_ne (by omega), F3.I (by unfold S17; omega)]; exact y19) (by rw [hI_uI_ne (by omega), F3.I (by unfold S17; omega), if_neg (by omega)]; exact y21) (by rw [hI_uI_ne (by omega), F3.I (by unfold S17; omega), if_pos q]; exact y22) (by rw [hJ_uI', if_pos tK, tE]; exact zJ) _
    · by_cases D : isD (b s) = true
      · have tK : tkK b n s = 2 := by unfold tkK; rw [if_neg nq, if_neg L, if_pos D]
        have tE : tkE b n s = spn (fun j => isD (b j)) n s := by unfold tkE; rw [if_neg nq, if_neg L, if_pos D]
        refine go_aloadn dX10_goes_82 rfl ?_
        refine sg_getI dX10_goes_83 fX10_115 rfl (mo_L rfl) hS ?_
        rw [y17]
        refine go_aloadn dX10_goes_86 rfl ?_
        refine sg_getI dX10_goes_87 fX10_112 rfl (mo_L rfl) hS ?_
        rw [H4.1]
        refine go_icmp_lt (tgt := 101) dX10_goes_90 (by decide) (fun c90 => ?_) (fun c90 => absurd (nI_lt q (by omega)) c90)
        refine go_iloadn dX10_goes_101 rfl ?_
        refine sg_cSi (M' := mX10_isLetter) ([.int (nI (b s))]) dX10_goes_102 lX10_138 sX10_isLetter hS (q_isLetter c2) rfl (Nat.le_of_ble_eq_true rfl) (Nat.zero_le _) (Nat.zero_le _) ?_
        rw [if_neg L]
        refine go_if_eq (tgt := 180) dX10_goes_105 (by decide) (fun c105 => ?_) (fun c105 => absurd rfl c105)
        refine go_iloadn dX10_goes_180 rfl ?_
        refine sg_cSi (M' := mX10_isDigit) ([.int (nI (b s))]) dX10_goes_181 lX10_142 sX10_isDigit hS (q_isDigit c2) rfl (Nat.le_of_ble_eq_true rfl) (Nat.zero_le _) (Nat.zero_le _) ?_
        rw [if_pos D]
        refine go_if_eq (tgt := 258) dX10_goes_184 (by decide) (fun c184 => absurd c184 (by decide)) (fun c184 => ?_)
        skip
        refine q_digits hS H4 y17 y19 y21 (by omega) (fun g3 F3 z17 z21 => ?_)
        have hS := F3.St hS
        have F4 : Fj SGo h g3 := F2.tr (F3.j.sub (fun a k q => by unfold SGo; omega))
        refine go_aloadn dX10_goes_250 rfl ?_
        refine go_iconst (v := 2) dX10_goes_251 rfl ?_
        refine sg_putI dX10_goes_252 fX10_135 rfl rfl (mo_L rfl) hS ?_
        refine go_goto (tgt := 331) dX10_goes_255 (by decide) ?_
        exact fin _ (F4.uI (by unfold SGo; omega)) (by rw [hI_uI_ne (by omega), tE]; exact z17) (by rw [hI_uI_eq, tK]; rfl) (by rw [hI_uI_ne (by omega), F3.I (by omega)]; exact y19) (by rw [hI_uI_ne (by omega), if_pos tK, tE]; exact z21) (by rw [hI_uI_ne (by omega), F3.I (by omega), if_pos q]; exact y22) (by rw [hJ_uI', if_neg (by omega), F3.2.2.1]; exact yJ) _
      · have tE : tkE b n s = s + 1 := by unfold tkE; rw [if_neg nq, if_neg L, if_neg D]
        have tK : tkK b n s = if isG (b s) = true then 3 else 4 := by unfold tkK; rw [if_neg nq, if_neg L, if_neg D]
        have t34 : ¬ tkK b n s = 2 ∧ ¬ tkK b n s = 1 := by rw [tK]; split <;> decide
        have e328 : ∀ u : Int32, u = nI (tkK b n s) → Go l (rmOf (d + 2) (0, 0)) mX10_goes (hN h) (Zm (0, 0) (fun v h1 => v = none ∧ Fj SGo h h1 ∧ TKm h1 b n s (tkE b n s)) noX) 328 [some (.ref 77), some (.int (nI (b s)))] [.int u, .ref 77] (uI g2 77 17 (nI (s + 1))) 0 0 := by
          intro u hu
          have hS : St (uI g2 77 17 (nI (s + 1))) := hS.of uI_2
          refine sg_putI dX10_goes_328 fX10_135 rfl rfl (mo_L rfl) hS ?_
          exact fin _ ((F2.uI (by unfold SGo; omega)).uI (by unfold SGo; omega)) (by rw [hI_uI_ne (by omega), hI_uI_eq, tE]) (by rw [hI_uI_eq]; exact hu) (by rw [hI_uI_ne (by omega), hI_uI_ne (by omega)]; exact y19) (by rw [hI_uI_ne (by omega), hI_uI_ne (by omega), if_neg t34.1]; exact y21) (by rw [hI_uI_ne (by omega), hI_uI_ne (by omega), if_pos q]; exact y22) (by rw [hJ_uI', hJ_uI', if_neg t34.2]; exact yJ) _
        have g3 : isG (b s) = true → (3 : Int32) = nI (tkK b n s) := fun z => by rw [tK, if_pos z]; rfl
        have g4 : ¬ isG (b s) = true → (4 : Int32) = nI (tkK b n s) := fun z => by rw [tK, if_neg z]; rfl
        have eG := nI_G ⟨b s, c2⟩
        dsimp only at eG
        rw [eG] at g3 g4
        refine go_aloadn dX10_goes_82 rfl ?_
        refine sg_getI dX10_goes_83 fX10_115 rfl (mo_L rfl) hS ?_
        rw [y17]
        refine go_aloadn dX10_goes_86 rfl ?_
        refine sg_getI dX10_goes_87 fX10_112 rfl (mo_L rfl) hS ?_
        rw [H4.1]
        refine go_icmp_lt (tgt := 101) dX10_goes_90 (by decide) (fun c90 => ?_) (fun c90 => absurd (nI_lt q (by omega)) c90)
        refine go_iloadn dX10_goes_101 rfl ?_
        refine sg_cSi (M' := mX10_isLetter) ([.int (nI (b s))]) dX10_goes_102 lX10_138 sX10_isLetter hS (q_isLetter c2) rfl (Nat.le_of_ble_eq_true rfl) (Nat.zero_le _) (Nat.zero_le _) ?_
        rw [if_neg L]
        refine go_if_eq (tgt := 180) dX10_goes_105 (by decide) (fun c105 => ?_) (fun c105 => absurd rfl c105)
        refine go_iloadn dX10_goes_180 rfl ?_
        refine sg_cSi (M' := mX10_isDigit) ([.int (nI (b s))]) dX10_goes_181 lX10_142 sX10_isDigit hS (q_isDigit c2) rfl (Nat.le_of_ble_eq_true rfl) (Nat.zero_le _) (Nat.zero_le _) ?_
        rw [if_neg D]
        refine go_if_eq (tgt := 258) dX10_goes_184 (by decide) (fun c184 => ?_) (fun c184 => absurd rfl c184)
        refine go_aloadn dX10_goes_258 rfl ?_
        refine go_dup dX10_goes_259 rfl ?_
        refine sg_getI dX10_goes_260 fX10_115 rfl (mo_L rfl) hS ?_
        rw [y17]
        refine go_iconst (v := 1) dX10_goes_263 rfl ?_
        refine go_iadd dX10_goes_264 ?_
        rw [nI_1]
        refine sg_putI dX10_goes_265 fX10_115 rfl rfl (mo_L rfl) hS ?_
        refine go_aloadn dX10_goes_268 rfl ?_
        refine go_iloadn dX10_goes_269 rfl ?_
        refine go_bipush (v := 59) dX10_goes_270 rfl ?_
        refine go_icmp_eq (tgt := 323) dX10_goes_272 (by decide) (fun c272 => ?_) (fun c272 => ?_)
        · refine go_iconst (v := 3) dX10_goes_323 rfl ?_
          refine go_goto (tgt := 328) dX10_goes_324 (by decide) ?_
          first | exact e328 4 (g4 (by simp [c272, c278, c284, c290, c296, c302, c308, c314, c320])) | exact e328 3 (g3 (by first | (simp [c272]; done) | (simp [c278]; done) | (simp [c284]; done) | (simp [c290]; done) | (simp [c296]; done) | (simp [c302]; done) | (simp [c308]; done) | (simp [c314]; done) | (simp [c320]; done)))
        · refine go_iloadn dX10_goes_275 rfl ?_
          refine go_bipush (v := 40) dX10_goes_276 rfl ?_
          refine go_icmp_eq (tgt := 323) dX10_goes_278 (by decide) (fun c278 => ?_) (fun c278 => ?_)
          · refine go_iconst (v := 3) dX10_goes_323 rfl ?_
            refine go_goto (tgt := 328) dX10_goes_324 (by decide) ?_
            first | exact e328 4 (g4 (by simp [c272, c278, c284, c290, c296, c302, c308, c314, c320])) | exact e328 3 (g3 (by first | (simp [c272]; done) | (simp [c278]; done) | (simp [c284]; done) | (simp [c290]; done) | (simp [c296]; done) | (simp [c302]; done) | (simp [c308]; done) | (simp [c314]; done) | (simp [c320]; done)))
          · refine go_iloadn dX10_goes_281 rfl ?_
            refine go_bipush (v := 41) dX10_goes_282 rfl ?_
            refine go_icmp_eq (tgt := 323) dX10_goes_284 (by decide) (fun c284 => ?_) (fun c284 => ?_)
            · refine go_iconst (v := 3) dX10_goes_323 rfl ?_
              refine go_goto (tgt := 328) dX10_goes_324 (by decide) ?_
              first | exact e328 4 (g4 (by simp [c272, c278, c284, c290, c296, c302, c308, c314, c320])) | exact e328 3 (g3 (by first | (simp [c272]; done) | (simp [c278]; done) | (simp [c284]; done) | (simp [c290]; done) | (simp [c296]; done) | (simp [c302]; done) | (simp [c308]; done) | (simp [c314]; done) | (simp [c320]; done)))
            · refine go_iloadn dX10_goes_287 rfl ?_
              refine go_bipush (v := 43) dX10_goes_288 rfl ?_
              refine go_icmp_eq (tgt := 323) dX10_goes_290 (by decide) (fun c290 => ?_) (fun c290 => ?_)
              · refine go_iconst (v := 3) dX10_goes_323 rfl ?_
                refine go_goto (tgt := 328) dX10_goes_324 (by decide) ?_
                first | exact e328 4 (g4 (by simp [c272, c278, c284, c290, c296, c302, c308, c314, c320])) | exact e328 3 (g3 (by first | (simp [c272]; done) | (simp [c278]; done) | (simp [c284]; done) | (simp [c290]; done) | (simp [c296]; done) | (simp [c302]; done) | (simp [c308]; done) | (simp [c314]; done) | (simp [c320]; done)))
              · refine go_iloadn dX10_goes_293 rfl ?_
                refine go_bipush (v := 45) dX10_goes_294 rfl ?_
                refine go_icmp_eq (tgt := 323) dX10_goes_296 (by decide) (fun c296 => ?_) (fun c296 => ?_)
                · refine go_iconst (v := 3) dX10_goes_323 rfl ?_
                  refine go_goto (tgt := 328) dX10_goes_324 (by decide) ?_
                  first | exact e328 4 (g4 (by simp [c272, c278, c284, c290, c296, c302, c308, c314, c320])) | exact e328 3 (g3 (by first | (simp [c272]; done) | (simp [c278]; done) | (simp [c284]; done) | (simp [c290]; done) | (simp [c296]; done) | (simp [c302]; done) | (simp [c308]; done) | (simp [c314]; done) | (simp [c320]; done)))
                · refine go_iloadn dX10_goes_299 rfl ?_
                  refine go_bipush (v := 42) dX10_goes_300 rfl ?_
                  refine go_icmp_eq (tgt := 323) dX10_goes_302 (by decide) (fun c302 => ?_) (fun c302 => ?_)
                  · refine go_iconst (v := 3) dX10_goes_323 rfl ?_
                    refine go_goto (tgt := 328) dX10_goes_324 (by decide) ?_
                    first | exact e328 4 (g4 (by simp [c272, c278, c284, c290, c296, c302, c308, c314, c320])) | exact e328 3 (g3 (by first | (simp [c272]; done) | (simp [c278]; done) | (simp [c284]; done) | (simp [c290]; done) | (simp [c296]; done) | (simp [c302]; done) | (simp [c308]; done) | (simp [c314]; done) | (simp [c320]; done)))
                  · refine go_iloadn dX10_goes_305 rfl ?_
                    refine go_bipush (v := 47) dX10_goes_306 rfl ?_
                    refine go_icmp_eq (tgt := 323) dX10_goes_308 (by decide) (fun c308 => ?_) (fun c308 => ?_)
                    · refine go_iconst (v := 3) dX10_goes_323 rfl ?_
                      refine go_goto (tgt := 328) dX10_goes_324 (by decide) ?_
                      first | exact e328 4 (g4 (by simp [c272, c278, c284, c290, c296, c302, c308, c314, c320])) | exact e328 3 (g3 (by first | (simp [c272]; done) | (simp [c278]; done) | (simp [c284]; done) | (simp [c290]; done) | (simp [c296]; done) | (simp [c302]; done) | (simp [c308]; done) | (simp [c314]; done) | (simp [c320]; done)))
                    · refine go_iloadn dX10_goes_311 rfl ?_
                      refine go_bipush (v := 60) dX10_goes_312 rfl ?_
                      refine go_icmp_eq (tgt := 323) dX10_goes_314 (by decide) (fun c314 => ?_) (fun c314 => ?_)
                      · refine go_iconst (v := 3) dX10_goes_323 rfl ?_
                        refine go_goto (tgt := 328) dX10_goes_324 (by decide) ?_
                        first | exact e328 4 (g4 (by simp [c272, c278, c284, c290, c296, c302, c308, c314, c320])) | exact e328 3 (g3 (by first | (simp [c272]; done) | (simp [c278]; done) | (simp [c284]; done) | (simp [c290]; done) | (simp [c296]; done) | (simp [c302]; done) | (simp [c308]; done) | (simp [c314]; done) | (simp [c320]; done)))
                      · refine go_iloadn dX10_goes_317 rfl ?_
                        refine go_bipush (v := 61) dX10_goes_318 rfl ?_
                        refine go_icmp_ne (tgt := 327) dX10_goes_320 (by decide) (fun c320 => ?_) (fun c320 => ?_)
                        · refine go_iconst (v := 4) dX10_goes_327 rfl ?_
                          first | exact e328 4 (g4 (by simp [c272, c278, c284, c290, c296, c302, c308, c314, c320])) | exact e328 3 (g3 (by first | (simp [c272]; done) | (simp [c278]; done) | (simp [c284]; done) | (simp [c290]; done) | (simp [c296]; done) | (simp [c302]; done) | (simp [c308]; done) | (simp [c314]; done) | (simp [c320]; done)))
                        · refine go_iconst (v := 3) dX10_goes_323 rfl ?_
                          refine go_goto (tgt := 328) dX10_goes_324 (by decide) ?_
                          first | exact e328 4 (g4 (by simp [c272, c278, c284, c290, c296, c302, c308, c314, c320])) | exact e328 3 (g3 (by first | (simp [c272]; done) | (simp [c278]; done) | (simp [c284]; done) | (simp [c290]; done) | (simp [c296]; done) | (simp [c302]; done) | (simp [c308]; done) | (simp [c314]; done) | (simp [c320]; done)))
  · have nq : n ≤ s := by omega
    have tK : tkK b n s = 0 := by unfold tkK; rw [if_pos nq]
    have tE : tkE b n s = s := by unfold tkE; rw [if_pos nq]
    rw [if_neg q] at y22 ⊢
    refine go_aloadn dX10_goes_82 rfl ?_
    refine sg_getI dX10_goes_83 fX10_115 rfl (mo_L rfl) hS ?_
    rw [y17]
    refine go_aloadn dX10_goes_86 rfl ?_
    refine sg_getI dX10_goes_87 fX10_112 rfl (mo_L rfl) hS ?_
    rw [H4.1]
    refine go_icmp_lt (tgt := 101) dX10_goes_90 (by decide) (fun c90 => absurd c90 (nI_nlt (by omega) (by omega))) (fun c90 => ?_)
    refine go_aloadn dX10_goes_93 rfl ?_
    refine go_iconst (v := 0) dX10_goes_94 rfl ?_
    refine sg_putI dX10_goes_95 fX10_135 rfl rfl (mo_L rfl) hS ?_
    refine go_goto (tgt := 331) dX10_goes_98 (by decide) ?_
    exact fin _ (F2.uI (by unfold SGo; omega)) (by rw [hI_uI_ne (by omega), tE]; exact y17) (by rw [hI_uI_eq, tK]; rfl) (by rw [hI_uI_ne (by omega)]; exact y19) (by rw [hI_uI_ne (by omega), if_neg (by omega)]; exact y21) (by rw [hI_uI_ne (by omega), if_neg q]; exact y22) (by rw [hJ_uI', if_neg (by omega)]; exact yJ) _
