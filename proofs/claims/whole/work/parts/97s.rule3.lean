/-! rules: the state, a part -/
abbrev Ru : Type := (Nat × Nat × Nat) × (Nat × Nat × Nat × Nat) × List Nat × Pr
abbrev uS (U : Ru) : Nat := U.1.1
abbrev uQ (U : Ru) : Nat := U.1.2.1
abbrev uY (U : Ru) : Nat := U.1.2.2
abbrev uD (U : Ru) : Nat := U.2.1.1
abbrev uE (U : Ru) : Nat := U.2.1.2.1
abbrev uC (U : Ru) : Nat := U.2.1.2.2.1
abbrev uM (U : Ru) : Nat := U.2.1.2.2.2
abbrev uW (U : Ru) : List Nat := U.2.2.1
abbrev uP (U : Ru) : Pr := U.2.2.2
def ruFl (U : Ru) (y : Nat) : Ru := ((uS U, 2, y), U.2)
def ruGo (b : Nat → Nat) (n : Nat) (U : Ru) (x : (Nat × Nat × Nat × Nat) × List Nat × Pr) : Ru := ((nx b n (uS U), 0, 0), x)
abbrev vlA (sh k : Nat) : Prop := (sh = 1 ∧ k < 7) ∨ (¬ sh = 1 ∧ 5 ≤ k ∧ k ≤ 8)
/-- a word as a part -/
def rstW (b : Nat → Nat) (n sh : Nat) (U : Ru) : Ru :=
  if uM U = 1 ∧ kwN b n (uS U) = 19 then (if 6 ≤ uC U then ruFl U 2 else ruGo b n U ((uD U, uE U, uC U + 1, uM U), 3 :: uW U, uP U))
  else if vlA sh (kwN b n (uS U)) then ruGo b n U ((0, uE U, uC U, uM U), uW U, psh (uP U) (1, mvN (kwN b n (uS U)))) else ruFl U 3
/-- a part -/
def rstP (b : Nat → Nat) (n sh : Nat) (U : Ru) : Ru :=
  if tkK b n (uS U) = 2 ∨ tkK b n (uS U) = 1 ∨ (tkK b n (uS U) = 3 ∧ b (uS U) = 40) then
    (if 6 ≤ uE U then ruFl U 2
    else if tkK b n (uS U) = 2 then (if ftF b n (uS U) = 0 then ruGo b n U ((0, uE U, uC U, uM U), uW U, psh (uP U) (0, nvT b n (uS U))) else ruFl U (ftF b n (uS U)))
    else if tkK b n (uS U) = 1 then rstW b n sh U
    else ruGo b n U ((uD U, uE U + 1, 0, 1), 0 :: uW U, uP U))
  else ruFl U 1
/-- the class's fields of a rule -/
def KU (g : Hp) (c cl : Nat) (U : Ru) : Prop := SKc g c cl (uW U) (uP U) ∧ hI g 3 14 = nI (uE U) ∧ hI g 3 15 = nI (uC U) ∧ hI g 3 16 = nI (uD U) ∧ hI g 3 17 = nI (uM U)
/-- how large what is read of a rule can be -/
def UB (n cl : Nat) (U : Ru) : Prop := uE U ≤ 6 ∧ uC U ≤ 6 ∧ uD U ≤ 1 ∧ uM U ≤ 1 ∧ (∀ o, o ∈ uW U → o ≤ 9) ∧ (uW U).length < 128 ∧ cl + (uP U).1 + (uW U).length ≤ uS U ∧ uS U ≤ n ∧ n ≤ 700
def Sr (c cl a k : Nat) : Prop := (a = 3 ∧ 13 ≤ k) ∨ a = 5 ∨ (a = c ∧ k = 13) ∨ (a = c + 9 ∧ cl ≤ k)
theorem Sr.sc {c cl a k : Nat} (h : Sr c cl a k) : Scy c a k := by unfold Sr at h; unfold Scy; omega
def PRu (h g : Hp) (c cl : Nat) (U : Ru) : Prop := Fz (Scy c) h g ∧ (uQ U = 0 → Fz (Sr c cl) h g ∧ KU g c cl U) ∧ (¬ uQ U = 0 → hI g 3 10 = nI (uY U) ∧ hI g 3 11 = nI (uS U))
theorem pr_fl {h g : Hp} {c cl y : Nat} {U : Ru} (F : Fz (Scy c) h g) (hy : 0 < y) : PRu h (fuH g (uS U) y) c cl (ruFl U y) := by
  unfold fuH
  rw [if_neg (by omega)]
  exact ⟨(F.uI (Or.inl ⟨rfl, by omega⟩)).uI (Or.inl ⟨rfl, by omega⟩), fun q => absurd (show (2 : Nat) = 0 from q) (by decide), fun _ => ⟨by rw [hI_uI_ne (by omega), hI_uI_eq]; rfl, hI_uI_eq⟩⟩
theorem pr_ok {h g : Hp} {c cl : Nat} {U : Ru} (F : Fz (Sr c cl) h g) (K : KU g c cl U) (q : uQ U = 0) : PRu h g c cl U := ⟨F.sub (fun _ _ q => q.sc), fun _ => ⟨F, K⟩, fun z => absurd q z⟩
theorem i_1 {P : Prop} [Decidable P] (h : ¬ (if P then (1 : Int32) else 0) = 0) : P := by
  by_cases q : P
  · exact q
  · rw [if_neg q] at h; exact absurd rfl h
theorem i_0 {P : Prop} [Decidable P] (h : (if P then (1 : Int32) else 0) = 0) : ¬ P := fun q => by rw [if_pos q] at h; exact absurd h (by decide)
theorem r_valueOfShames {l : Launch} {d n s : Nat} {b : Nat → Nat} {h : Hp} (hS : St h) (R : RC h b n s) : Ex l (d + 6) mX3_valueOfShames [.ref 3] h (some (.int (if kwN b n s < 7 then nI (mvN (kwN b n s)) else -1))) h := by
  refine run_lv [some (.ref 3)] (go := ?_)
  have iw := fun d i (hi : i < 21) (i0 : 0 < i) => r_isWord (l := l) (d := d) (i := i) hS R hi i0
  have i9 := fun d => iw d 9 (by decide) (by decide)
  have i10 := fun d => iw d 10 (by decide) (by decide)
  have i11 := fun d => iw d 11 (by decide) (by decide)
  have i12 := fun d => iw d 12 (by decide) (by decide)
  have i13 := fun d => iw d 13 (by decide) (by decide)
  have i14 := fun d => iw d 14 (by decide) (by decide)
  have i15 := fun d => iw d 15 (by decide) (by decide)
  rw [show tmT.getD 9 0 = 0 from rfl] at i9
  rw [show tmT.getD 10 0 = 1 from rfl] at i10
  rw [show tmT.getD 11 0 = 2 from rfl] at i11
  rw [show tmT.getD 12 0 = 3 from rfl] at i12
  rw [show tmT.getD 13 0 = 5 from rfl] at i13
  rw [show tmT.getD 14 0 = 4 from rfl] at i14
  rw [show tmT.getD 15 0 = 6 from rfl] at i15
  refine go_aloadn dX3_valueOfShames_0 rfl ?_
  refine go_ldcS (i := 9) rfl (by decide) rfl dX3_valueOfShames_1 ?_
  refine sg_cVi (M' := mX3_isWord) ([.ref (1001 + 9)]) dX3_valueOfShames_3 lX3_92 vX3_isWord (rd_L rfl) (by decide) rfl hS (i9 _) rfl (Nat.le_of_ble_eq_true rfl) (Nat.zero_le _) (Nat.zero_le _) ?_
  refine go_if_eq (tgt := 11) dX3_valueOfShames_6 (by decide) (fun c6 => ?_) (fun c6 => ?_)
  · refine go_aloadn dX3_valueOfShames_11 rfl ?_
    refine go_ldcS (i := 10) rfl (by decide) rfl dX3_valueOfShames_12 ?_
    refine sg_cVi (M' := mX3_isWord) ([.ref (1001 + 10)]) dX3_valueOfShames_14 lX3_92 vX3_isWord (rd_L rfl) (by decide) rfl hS (i10 _) rfl (Nat.le_of_ble_eq_true rfl) (Nat.zero_le _) (Nat.zero_le _) ?_
    refine go_if_eq (tgt := 22) dX3_valueOfShames_17 (by decide) (fun c17 => ?_) (fun c17 => ?_)
    · refine go_aloadn dX3_valueOfShames_22 rfl ?_
      refine go_ldcS (i := 11) rfl (by decide) rfl dX3_valueOfShames_23 ?_
      refine sg_cVi (M' := mX3_isWord) ([.ref (1001 + 11)]) dX3_valueOfShames_25 lX3_92 vX3_isWord (rd_L rfl) (by decide) rfl hS (i11 _) rfl (Nat.le_of_ble_eq_true rfl) (Nat.zero_le _) (Nat.zero_le _) ?_
      refine go_if_eq (tgt := 33) dX3_valueOfShames_28 (by decide) (fun c28 => ?_) (fun c28 => ?_)
      · refine go_aloadn dX3_valueOfShames_33 rfl ?_
        refine go_ldcS (i := 12) rfl (by decide) rfl dX3_valueOfShames_34 ?_
        refine sg_cVi (M' := mX3_isWord) ([.ref (1001 + 12)]) dX3_valueOfShames_36 lX3_92 vX3_isWord (rd_L rfl) (by decide) rfl hS (i12 _) rfl (Nat.le_of_ble_eq_true rfl) (Nat.zero_le _) (Nat.zero_le _) ?_
        refine go_if_eq (tgt := 44) dX3_valueOfShames_39 (by decide) (fun c39 => ?_) (fun c39 => ?_)
        · refine go_aloadn dX3_valueOfShames_44 rfl ?_
          refine go_ldcwS (i := 13) rfl (by decide) rfl dX3_valueOfShames_45 ?_
          refine sg_cVi (M' := mX3_isWord) ([.ref (1001 + 13)]) dX3_valueOfShames_48 lX3_92 vX3_isWord (rd_L rfl) (by decide) rfl hS (i13 _) rfl (Nat.le_of_ble_eq_true rfl) (Nat.zero_le _) (Nat.zero_le _) ?_
          refine go_if_eq (tgt := 56) dX3_valueOfShames_51 (by decide) (fun c51 => ?_) (fun c51 => ?_)
          · refine go_aloadn dX3_valueOfShames_56 rfl ?_
            refine go_ldcwS (i := 14) rfl (by decide) rfl dX3_valueOfShames_57 ?_
            refine sg_cVi (M' := mX3_isWord) ([.ref (1001 + 14)]) dX3_valueOfShames_60 lX3_92 vX3_isWord (rd_L rfl) (by decide) rfl hS (i14 _) rfl (Nat.le_of_ble_eq_true rfl) (Nat.zero_le _) (Nat.zero_le _) ?_
            refine go_if_eq (tgt := 68) dX3_valueOfShames_63 (by decide) (fun c63 => ?_) (fun c63 => ?_)
            · refine go_aloadn dX3_valueOfShames_68 rfl ?_
              refine go_ldcwS (i := 15) rfl (by decide) rfl dX3_valueOfShames_69 ?_
              refine sg_cVi (M' := mX3_isWord) ([.ref (1001 + 15)]) dX3_valueOfShames_72 lX3_92 vX3_isWord (rd_L rfl) (by decide) rfl hS (i15 _) rfl (Nat.le_of_ble_eq_true rfl) (Nat.zero_le _) (Nat.zero_le _) ?_
              refine go_if_eq (tgt := 83) dX3_valueOfShames_75 (by decide) (fun c75 => ?_) (fun c75 => ?_)
              · refine go_iconst (v := -1) dX3_valueOfShames_83 rfl ?_
                refine go_ireturn dX3_valueOfShames_84 rfl rfl (Nat.zero_le _) (Nat.zero_le _) ?_
                first | exact ⟨by rw [i_1 c75]; rfl, rfl⟩ | exact ⟨by have q1 := i_0 c6; have q2 := i_0 c17; have q3 := i_0 c28; have q4 := i_0 c39; have q5 := i_0 c51; have q6 := i_0 c63; have q7 := i_0 c75; rw [if_neg (by omega)], rfl⟩
              · refine go_bipush (v := 6) dX3_valueOfShames_78 rfl ?_
                refine go_goto (tgt := 84) dX3_valueOfShames_80 (by decide) ?_
                refine go_ireturn dX3_valueOfShames_84 rfl rfl (Nat.zero_le _) (Nat.zero_le _) ?_
                first | exact ⟨by rw [i_1 c75]; rfl, rfl⟩ | exact ⟨by have q1 := i_0 c6; have q2 := i_0 c17; have q3 := i_0 c28; have q4 := i_0 c39; have q5 := i_0 c51; have q6 := i_0 c63; have q7 := i_0 c75; rw [if_neg (by omega)], rfl⟩
            · refine go_iconst (v := 5) dX3_valueOfShames_66 rfl ?_
              refine go_ireturn dX3_valueOfShames_67 rfl rfl (Nat.zero_le _) (Nat.zero_le _) ?_
              exact ⟨by rw [i_1 c63]; rfl, rfl⟩
          · refine go_iconst (v := 4) dX3_valueOfShames_54 rfl ?_
            refine go_ireturn dX3_valueOfShames_55 rfl rfl (Nat.zero_le _) (Nat.zero_le _) ?_
            exact ⟨by rw [i_1 c51]; rfl, rfl⟩
        · refine go_iconst (v := 3) dX3_valueOfShames_42 rfl ?_
          refine go_ireturn dX3_valueOfShames_43 rfl rfl (Nat.zero_le _) (Nat.zero_le _) ?_
          exact ⟨by rw [i_1 c39]; rfl, rfl⟩
      · refine go_iconst (v := 2) dX3_valueOfShames_31 rfl ?_
        refine go_ireturn dX3_valueOfShames_32 rfl rfl (Nat.zero_le _) (Nat.zero_le _) ?_
        exact ⟨by rw [i_1 c28]; rfl, rfl⟩
    · refine go_iconst (v := 1) dX3_valueOfShames_20 rfl ?_
      refine go_ireturn dX3_valueOfShames_21 rfl rfl (Nat.zero_le _) (Nat.zero_le _) ?_
      exact ⟨by rw [i_1 c17]; rfl, rfl⟩
  · refine go_iconst (v := 0) dX3_valueOfShames_9 rfl ?_
    refine go_ireturn dX3_valueOfShames_10 rfl rfl (Nat.zero_le _) (Nat.zero_le _) ?_
    exact ⟨by rw [i_1 c6]; rfl, rfl⟩
theorem r_valueOfReturns {l : Launch} {d n s : Nat} {b : Nat → Nat} {h : Hp} (hS : St h) (R : RC h b n s) : Ex l (d + 6) mX3_valueOfReturns [.ref 3] h (some (.int (if 5 ≤ kwN b n s ∧ kwN b n s ≤ 8 then nI (mvN (kwN b n s)) else -1))) h := by
  refine run_lv [some (.ref 3)] (go := ?_)
  have iw := fun d i (hi : i < 21) (i0 : 0 < i) => r_isWord (l := l) (d := d) (i := i) hS R hi i0
  have i16 := fun d => iw d 16 (by decide) (by decide)
  have i13 := fun d => iw d 13 (by decide) (by decide)
  have i17 := fun d => iw d 17 (by decide) (by decide)
  have i15 := fun d => iw d 15 (by decide) (by decide)
  rw [show tmT.getD 16 0 = 7 from rfl] at i16
  rw [show tmT.getD 13 0 = 5 from rfl] at i13
  rw [show tmT.getD 17 0 = 8 from rfl] at i17
  rw [show tmT.getD 15 0 = 6 from rfl] at i15
  refine go_aloadn dX3_valueOfReturns_0 rfl ?_
  refine go_ldcwS (i := 16) rfl (by decide) rfl dX3_valueOfReturns_1 ?_
  refine sg_cVi (M' := mX3_isWord) ([.ref (1001 + 16)]) dX3_valueOfReturns_4 lX3_92 vX3_isWord (rd_L rfl) (by decide) rfl hS (i16 _) rfl (Nat.le_of_ble_eq_true rfl) (Nat.zero_le _) (Nat.zero_le _) ?_
  refine go_if_eq (tgt := 13) dX3_valueOfReturns_7 (by decide) (fun c7 => ?_) (fun c7 => ?_)
  · refine go_aloadn dX3_valueOfReturns_13 rfl ?_
    refine go_ldcwS (i := 13) rfl (by decide) rfl dX3_valueOfReturns_14 ?_
    refine sg_cVi (M' := mX3_isWord) ([.ref (1001 + 13)]) dX3_valueOfReturns_17 lX3_92 vX3_isWord (rd_L rfl) (by decide) rfl hS (i13 _) rfl (Nat.le_of_ble_eq_true rfl) (Nat.zero_le _) (Nat.zero_le _) ?_
    refine go_if_eq (tgt := 25) dX3_valueOfReturns_20 (by decide) (fun c20 => ?_) (fun c20 => ?_)
    · refine go_aloadn dX3_valueOfReturns_25 rfl ?_
      refine go_ldcwS (i := 17) rfl (by decide) rfl dX3_valueOfReturns_26 ?_
      refine sg_cVi (M' := mX3_isWord) ([.ref (1001 + 17)]) dX3_valueOfReturns_29 lX3_92 vX3_isWord (rd_L rfl) (by decide) rfl hS (i17 _) rfl (Nat.le_of_ble_eq_true rfl) (Nat.zero_le _) (Nat.zero_le _) ?_
      refine go_if_eq (tgt := 38) dX3_valueOfReturns_32 (by decide) (fun c32 => ?_) (fun c32 => ?_)
      · refine go_aloadn dX3_valueOfReturns_38 rfl ?_
        refine go_ldcwS (i := 15) rfl (by decide) rfl dX3_valueOfReturns_39 ?_
        refine sg_cVi (M' := mX3_isWord) ([.ref (1001 + 15)]) dX3_valueOfReturns_42 lX3_92 vX3_isWord (rd_L rfl) (by decide) rfl hS (i15 _) rfl (Nat.le_of_ble_eq_true rfl) (Nat.zero_le _) (Nat.zero_le _) ?_
        refine go_if_eq (tgt := 53) dX3_valueOfReturns_45 (by decide) (fun c45 => ?_) (fun c45 => ?_)
        · refine go_iconst (v := -1) dX3_valueOfReturns_53 rfl ?_
          refine go_ireturn dX3_valueOfReturns_54 rfl rfl (Nat.zero_le _) (Nat.zero_le _) ?_
          first | exact ⟨by rw [i_1 c45]; rfl, rfl⟩ | exact ⟨by have q1 := i_0 c7; have q2 := i_0 c20; have q3 := i_0 c32; have q4 := i_0 c45; rw [if_neg (by omega)], rfl⟩
        · refine go_bipush (v := 6) dX3_valueOfReturns_48 rfl ?_
          refine go_goto (tgt := 54) dX3_valueOfReturns_50 (by decide) ?_
          refine go_ireturn dX3_valueOfReturns_54 rfl rfl (Nat.zero_le _) (Nat.zero_le _) ?_
          first | exact ⟨by rw [i_1 c45]; rfl, rfl⟩ | exact ⟨by have q1 := i_0 c7; have q2 := i_0 c20; have q3 := i_0 c32; have q4 := i_0 c45; rw [if_neg (by omega)], rfl⟩
      · refine go_bipush (v := 8) dX3_valueOfReturns_35 rfl ?_
        refine go_ireturn dX3_valueOfReturns_37 rfl rfl (Nat.zero_le _) (Nat.zero_le _) ?_
        exact ⟨by rw [i_1 c32]; rfl, rfl⟩
    · refine go_iconst (v := 4) dX3_valueOfReturns_23 rfl ?_
      refine go_ireturn dX3_valueOfReturns_24 rfl rfl (Nat.zero_le _) (Nat.zero_le _) ?_
      exact ⟨by rw [i_1 c20]; rfl, rfl⟩
  · refine go_bipush (v := 7) dX3_valueOfReturns_10 rfl ?_
    refine go_ireturn dX3_valueOfReturns_12 rfl rfl (Nat.zero_le _) (Nat.zero_le _) ?_
    exact ⟨by rw [i_1 c7]; rfl, rfl⟩
theorem RC.sr {h g : Hp} {b : Nat → Nat} {n s c cl : Nat} (R : RC h b n s) (hc : c = 6 ∨ c = 18) (F : Fz (Sr c cl) h g) : RC g b n s := R.fz F (fun k => by unfold Sr; omega) (fun k hk => by unfold Sr; omega)
theorem mv_9 {k : Nat} (h : k < 9) : mvN k < 9 := by unfold mvN; split; omega; split <;> omega
theorem enc_v {k : Nat} : encC (1, k) = 10000 + nI k := by
  show nI (10000 + k) = _
  rw [← nI_add]; rfl
theorem r_wordOfPart {l : Launch} {d n c cl sh : Nat} {b : Nat → Nat} {h : Hp} {U : Ru} (hS : St h) (R : RC h b n (uS U)) (hc : CityAt c) (hC : hR h 3 7 = some c) (K : KU h c cl U) (B : UB n cl U) (k1 : tkK b n (uS U) = 1) (hsh : sh ≤ 1) : Ey l (d + 7) mX3_wordOfPart [.ref 3, .int (nI sh)] h (some (.int (if uQ (rstW b n sh U) = 0 then 1 else 0))) (fun g => PRu h g c cl (rstW b n sh U)) := by
  refine run_lv [some (.ref 3), some (.int (nI sh)), none] (go := ?_)
  have hc' := at_c hc
  obtain ⟨H, e14, e15, e16, e17⟩ := K
  obtain ⟨b1, b2, b3, b4, b5, b6, b7, b8, b9⟩ := B
  have sn := tk3 (b := b) (n := n) (s := uS U) (by omega)
  have i8 := fun d => r_isWord (l := l) (d := d) (i := 8) hS R (by decide) (by decide)
  rw [show tmT.getD 8 0 = 19 from rfl] at i8
  unfold rstW
  have q0 : ∀ x, uQ (ruGo b n U x) = 0 := fun x => rfl
  have q2 : ∀ y, ¬ uQ (ruFl U y) = 0 := fun y => by show ¬ (2 : Nat) = 0; decide
  by_cases z : uM U = 1 ∧ kwN b n (uS U) = 19
  · rw [if_pos z]
    rw [if_pos z.2] at i8
    rw [z.1] at e17
    by_cases y : 6 ≤ uC U
    · rw [if_pos y, if_neg (q2 _)]
      refine go_aloadn dX3_wordOfPart_0 rfl ?_
      refine sg_getI dX3_wordOfPart_1 fX3_230 rfl (rd_L rfl) hS ?_
      rw [e17]
      refine go_if_eq (tgt := 47) dX3_wordOfPart_4 (by decide) (fun c4 => absurd c4 (by decide)) (fun c4 => ?_)
      refine go_aloadn dX3_wordOfPart_7 rfl ?_
      refine go_ldcS (i := 8) rfl (by decide) rfl dX3_wordOfPart_8 ?_
      refine sg_cVi (M' := mX3_isWord) ([.ref (1001 + 8)]) dX3_wordOfPart_10 lX3_92 vX3_isWord (rd_L rfl) (by decide) rfl hS (i8 _) rfl (Nat.le_of_ble_eq_true rfl) (Nat.zero_le _) (Nat.zero_le _) ?_
      refine go_if_eq (tgt := 47) dX3_wordOfPart_13 (by decide) (fun c13 => absurd c13 (by decide)) (fun c13 => ?_)
      refine go_aloadn dX3_wordOfPart_16 rfl ?_
      refine sg_getI dX3_wordOfPart_17 fX3_227 rfl (rd_L rfl) hS ?_
      refine go_bipush (v := 6) dX3_wordOfPart_20 rfl ?_
      rw [e15]
      refine go_icmp_lt (tgt := 31) dX3_wordOfPart_22 (by decide) (fun c22 => absurd c22 (nI_nlt (b := 6) y (by omega))) (fun c22 => ?_)
      refine go_aloadn dX3_wordOfPart_25 rfl ?_
      refine go_iconst (v := 2) dX3_wordOfPart_26 rfl ?_
      refine sg_cVi (M' := mX3_fail) ([.int (nI 2)]) dX3_wordOfPart_27 lX3_131 vX3_fail (rd_L rfl) (by decide) rfl hS (r_failR hS R (by decide)) rfl (Nat.le_of_ble_eq_true rfl) (Nat.zero_le _) (Nat.zero_le _) ?_
      refine go_ireturn dX3_wordOfPart_30 rfl rfl (Nat.zero_le _) (Nat.zero_le _) ?_
      exact ⟨rfl, pr_fl Fz.rf (by decide)⟩
    · rw [if_neg y, if_pos (q0 _)]
      have F1 : Fz (fun a k => a = 3 ∧ k = 15) h (uI h 3 15 (nI (uC U + 1))) := Fz.rf.uI ⟨rfl, rfl⟩
      have w1 : hI (uI h 3 15 (nI (uC U + 1))) 3 15 = nI (uC U + 1) := hI_uI_eq
      have fin : ∀ g, g = uI h 3 15 (nI (uC U + 1)) → Go l (rmOf (d + 7) (0, 0)) mX3_wordOfPart (hN h) (Zm (0, 0) (fun v0 h1 => v0 = some (.int 1) ∧ PRu h h1 c cl (ruGo b n U ((uD U, uE U, uC U + 1, uM U), 3 :: uW U, uP U))) noX) 41 [some (.ref 3), some (.int (nI sh)), none] [] g 0 0 := by
        intro g hg
        rw [← hg] at F1 w1
        have hS := F1.St hS
        have H2 : SKc g c cl (uW U) (uP U) := ⟨by rw [F1.I (by omega)]; exact H.1, fun i hi => by rw [F1.I (by omega)]; exact H.2.1 i hi, by rw [F1.I (by omega)]; exact H.2.2.1, fun j hj => by rw [F1.I (by omega)]; exact H.2.2.2 j hj⟩
        refine go_aloadn dX3_wordOfPart_41 rfl ?_
        refine go_iconst (v := 3) dX3_wordOfPart_42 rfl ?_
        refine sg_rVi (M' := mX3_await) ([.int (nI 3)]) dX3_wordOfPart_43 lX3_239 vX3_await (rd_L rfl) (by decide) rfl hS (r_await (c := c) (cl := cl) hS H2 b6 hc') rfl (Nat.le_of_ble_eq_true rfl) (Nat.zero_le _) (Nat.zero_le _) (fun g2 G => ?_)
        refine go_ireturn dX3_wordOfPart_46 rfl rfl (Nat.zero_le _) (Nat.zero_le _) ?_
        exact ⟨rfl, pr_ok ((F1.sub (fun a k q => by unfold Sr; omega)).tr (G.1.sub (fun a k q => by unfold Sr; omega))) ⟨G.2, by rw [G.1.I (by omega), F1.I (by omega)]; exact e14, by rw [G.1.I (by omega), w1]; rfl, by rw [G.1.I (by omega), F1.I (by omega)]; exact e16, by rw [G.1.I (by omega), F1.I (by omega), e17]; show _ = nI (uM U); rw [z.1]⟩ rfl⟩
      refine go_aloadn dX3_wordOfPart_0 rfl ?_
      refine sg_getI dX3_wordOfPart_1 fX3_230 rfl (rd_L rfl) hS ?_
      rw [e17]
      refine go_if_eq (tgt := 47) dX3_wordOfPart_4 (by decide) (fun c4 => absurd c4 (by decide)) (fun c4 => ?_)
      refine go_aloadn dX3_wordOfPart_7 rfl ?_
      refine go_ldcS (i := 8) rfl (by decide) rfl dX3_wordOfPart_8 ?_
      refine sg_cVi (M' := mX3_isWord) ([.ref (1001 + 8)]) dX3_wordOfPart_10 lX3_92 vX3_isWord (rd_L rfl) (by decide) rfl hS (i8 _) rfl (Nat.le_of_ble_eq_true rfl) (Nat.zero_le _) (Nat.zero_le _) ?_
      refine go_if_eq (tgt := 47) dX3_wordOfPart_13 (by decide) (fun c13 => absurd c13 (by decide)) (fun c13 => ?_)
      refine go_aloadn dX3_wordOfPart_16 rfl ?_
      refine sg_getI dX3_wordOfPart_17 fX3_227 rfl (rd_L rfl) hS ?_
      refine go_bipush (v := 6) dX3_wordOfPart_20 rfl ?_
      rw [e15]
      refine go_icmp_lt (tgt := 31) dX3_wordOfPart_22 (by decide) (fun c22 => ?_) (fun c22 => absurd (nI_lt (b := 6) (by omega) (by omega)) c22)
      refine go_aloadn dX3_wordOfPart_31 rfl ?_
      refine go_dup dX3_wordOfPart_32 rfl ?_
      refine sg_getI dX3_wordOfPart_33 fX3_227 rfl (rd_L rfl) hS ?_
      refine go_iconst (v := 1) dX3_wordOfPart_36 rfl ?_
      refine go_iadd dX3_wordOfPart_37 ?_
      rw [e15, nI_1]
      refine sg_putI dX3_wordOfPart_38 fX3_227 rfl rfl (rd_L rfl) hS ?_
      exact fin _ rfl
  · rw [if_neg z]
    have go63 : ∀ v : Int32, v = (if vlA sh (kwN b n (uS U)) then nI (mvN (kwN b n (uS U))) else -1) → Go l (rmOf (d + 7) (0, 0)) mX3_wordOfPart (hN h) (Zm (0, 0) (fun v0 h1 => v0 = some (.int (if uQ (if vlA sh (kwN b n (uS U)) then ruGo b n U ((0, uE U, uC U, uM U), uW U, psh (uP U) (1, mvN (kwN b n (uS U)))) else ruFl U 3) = 0 then 1 else 0)) ∧ PRu h h1 c cl (if vlA sh (kwN b n (uS U)) then ruGo b n U ((0, uE U, uC U, uM U), uW U, psh (uP U) (1, mvN (kwN b n (uS U)))) else ruFl U 3)) noX) 63 [some (.ref 3), some (.int (nI sh)), some (.int v)] [] h 0 0 := by
      intro v hv
      by_cases x : vlA sh (kwN b n (uS U))
      · rw [if_pos x, if_pos (q0 _)]
        rw [if_pos x] at hv
        have v9 := mv_9 (k := kwN b n (uS U)) (by omega)
        have pp := fun d => r_putPart (l := l) (d := d) (o := (1, mvN (kwN b n (uS U)))) hS hc hC H (by omega)
        rw [enc_v] at pp
        refine go_iloadn dX3_wordOfPart_63 rfl ?_
        refine go_iconst (v := -1) dX3_wordOfPart_64 rfl ?_
        refine go_icmp_ne (tgt := 76) dX3_wordOfPart_65 (by decide) (fun c65 => ?_) (fun c65 => absurd c65 (by rw [hv]; exact nI_m1 (by omega)))
        refine go_aloadn dX3_wordOfPart_76 rfl ?_
        refine go_sipush (v := 10000) dX3_wordOfPart_77 rfl ?_
        refine go_iloadn dX3_wordOfPart_80 rfl ?_
        rw [hv]
        refine go_iadd dX3_wordOfPart_81 ?_
        refine sg_rVi (M' := mX3_putPart) ([.int (10000 + nI (mvN (kwN b n (uS U))))]) dX3_wordOfPart_82 lX3_233 vX3_putPart (rd_L rfl) (by decide) rfl hS (pp _) rfl (Nat.le_of_ble_eq_true rfl) (Nat.zero_le _) (Nat.zero_le _) (fun g2 G => ?_)
        refine go_ireturn dX3_wordOfPart_85 rfl rfl (Nat.zero_le _) (Nat.zero_le _) ?_
        exact ⟨rfl, pr_ok (G.1.sub (fun a k q => by unfold Sr; omega)) ⟨G.2.1, by rw [G.1.I (by omega)]; exact e14, by rw [G.1.I (by omega)]; exact e15, G.2.2, by rw [G.1.I (by omega)]; exact e17⟩ rfl⟩
      · rw [if_neg x, if_neg (q2 _)]
        rw [if_neg x] at hv
        refine go_iloadn dX3_wordOfPart_63 rfl ?_
        refine go_iconst (v := -1) dX3_wordOfPart_64 rfl ?_
        refine go_icmp_ne (tgt := 76) dX3_wordOfPart_65 (by decide) (fun c65 => absurd hv c65) (fun c65 => ?_)
        refine go_aloadn dX3_wordOfPart_68 rfl ?_
        refine go_iconst (v := 3) dX3_wordOfPart_69 rfl ?_
        refine sg_cVi (M' := mX3_fail) ([.int (nI 3)]) dX3_wordOfPart_70 lX3_131 vX3_fail (rd_L rfl) (by decide) rfl hS (r_failR hS R (by decide)) rfl (Nat.le_of_ble_eq_true rfl) (Nat.zero_le _) (Nat.zero_le _) ?_
        refine go_goto (tgt := 85) dX3_wordOfPart_73 (by decide) ?_
        refine go_ireturn dX3_wordOfPart_85 rfl rfl (Nat.zero_le _) (Nat.zero_le _) ?_
        exact ⟨rfl, pr_fl Fz.rf (by decide)⟩
    have go47 : Go l (rmOf (d + 7) (0, 0)) mX3_wordOfPart (hN h) (Zm (0, 0) (fun v0 h1 => v0 = some (.int (if uQ (if vlA sh (kwN b n (uS U)) then ruGo b n U ((0, uE U, uC U, uM U), uW U, psh (uP U) (1, mvN (kwN b n (uS U)))) else ruFl U 3) = 0 then 1 else 0)) ∧ PRu h h1 c cl (if vlA sh (kwN b n (uS U)) then ruGo b n U ((0, uE U, uC U, uM U), uW U, psh (uP U) (1, mvN (kwN b n (uS U)))) else ruFl U 3)) noX) 47 [some (.ref 3), some (.int (nI sh)), none] [] h 0 0 := by
      by_cases s1 : sh = 1
      · subst s1
        refine go_iloadn dX3_wordOfPart_47 rfl ?_
        refine go_if_eq (tgt := 58) dX3_wordOfPart_48 (by decide) (fun c48 => absurd c48 (by decide)) (fun c48 => ?_)
        refine go_aloadn dX3_wordOfPart_51 rfl ?_
        refine sg_cVi (M' := mX3_valueOfShames) ([]) dX3_wordOfPart_52 lX3_244 vX3_valueOfShames (rd_L rfl) (by decide) rfl hS (r_valueOfShames hS R) rfl (Nat.le_of_ble_eq_true rfl) (Nat.zero_le _) (Nat.zero_le _) ?_
        refine go_goto (tgt := 62) dX3_wordOfPart_55 (by decide) ?_
        refine go_ist2 dX3_wordOfPart_62 rfl ?_
        exact go63 _ (by unfold vlA; by_cases q : kwN b n (uS U) < 7; rw [if_pos q, if_pos (Or.inl ⟨rfl, q⟩)]; rw [if_neg q, if_neg (by omega)])
      · have s0 : sh = 0 := by omega
        subst s0
        refine go_iloadn dX3_wordOfPart_47 rfl ?_
        refine go_if_eq (tgt := 58) dX3_wordOfPart_48 (by decide) (fun c48 => ?_) (fun c48 => absurd rfl c48)
        refine go_aloadn dX3_wordOfPart_58 rfl ?_
        refine sg_cVi (M' := mX3_valueOfReturns) ([]) dX3_wordOfPart_59 lX3_247 vX3_valueOfReturns (rd_L rfl) (by decide) rfl hS (r_valueOfReturns hS R) rfl (Nat.le_of_ble_eq_true rfl) (Nat.zero_le _) (Nat.zero_le _) ?_
        refine go_ist2 dX3_wordOfPart_62 rfl ?_
        exact go63 _ (by unfold vlA; by_cases q : 5 ≤ kwN b n (uS U) ∧ kwN b n (uS U) ≤ 8; rw [if_pos q, if_pos (Or.inr ⟨by decide, q⟩)]; rw [if_neg q, if_neg (by omega)])
    by_cases y : uM U = 1
    · rw [y] at e17
      rw [if_neg (fun q => z ⟨y, q⟩)] at i8
      refine go_aloadn dX3_wordOfPart_0 rfl ?_
      refine sg_getI dX3_wordOfPart_1 fX3_230 rfl (rd_L rfl) hS ?_
      rw [e17]
      refine go_if_eq (tgt := 47) dX3_wordOfPart_4 (by decide) (fun c4 => absurd c4 (by decide)) (fun c4 => ?_)
      refine go_aloadn dX3_wordOfPart_7 rfl ?_
      refine go_ldcS (i := 8) rfl (by decide) rfl dX3_wordOfPart_8 ?_
      refine sg_cVi (M' := mX3_isWord) ([.ref (1001 + 8)]) dX3_wordOfPart_10 lX3_92 vX3_isWord (rd_L rfl) (by decide) rfl hS (i8 _) rfl (Nat.le_of_ble_eq_true rfl) (Nat.zero_le _) (Nat.zero_le _) ?_
      refine go_if_eq (tgt := 47) dX3_wordOfPart_13 (by decide) (fun c13 => ?_) (fun c13 => absurd rfl c13)
      exact go47
    · rw [show uM U = 0 by omega] at e17
      refine go_aloadn dX3_wordOfPart_0 rfl ?_
      refine sg_getI dX3_wordOfPart_1 fX3_230 rfl (rd_L rfl) hS ?_
      rw [e17]
      refine go_if_eq (tgt := 47) dX3_wordOfPart_4 (by decide) (fun c4 => ?_) (fun c4 => absurd rfl c4)
      exact go47
