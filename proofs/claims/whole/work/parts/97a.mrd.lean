/-! the model's reader: small ones -/
/-- the first fault stays -/
def wrH (h : Hp) (y : Int32) : Hp := if hI h 77 13 = 0 then uI (uI h 77 13 y) 77 14 (hI h 77 19) else h
theorem q_wrong {l : Launch} {d : Nat} {y : Int32} {h : Hp} (hS : St h) : Ex l (d + 1) mX10_wrong [.ref 77, .int y] h none (wrH h y) := by
  refine run_lv [some (.ref 77), some (.int y)] (go := ?_)
  unfold wrH
  by_cases z : hI h 77 13 = 0
  · rw [if_pos z]
    refine go_aloadn dX10_wrong_0 rfl ?_
    refine sg_getI dX10_wrong_1 fX10_158 rfl (mo_L rfl) hS ?_
    refine go_if_eq (tgt := 8) dX10_wrong_4 (by decide) (fun c4 => ?_) (fun c4 => absurd z c4)
    refine go_aloadn dX10_wrong_8 rfl ?_
    refine go_iloadn dX10_wrong_9 rfl ?_
    refine sg_putI dX10_wrong_10 fX10_158 rfl rfl (mo_L rfl) hS ?_
    refine go_aloadn dX10_wrong_13 rfl ?_
    refine go_aloadn dX10_wrong_14 rfl ?_
    refine sg_getI dX10_wrong_15 fX10_122 rfl (mo_L rfl) hS ?_
    rw [hI_uI_ne (by omega)]
    refine sg_putI dX10_wrong_18 fX10_39 rfl rfl (mo_L rfl) hS ?_
    refine go_return dX10_wrong_21 rfl (Nat.zero_le _) (Nat.zero_le _) ?_
    exact ⟨rfl, rfl⟩
  · rw [if_neg z]
    refine go_aloadn dX10_wrong_0 rfl ?_
    refine sg_getI dX10_wrong_1 fX10_158 rfl (mo_L rfl) hS ?_
    refine go_if_eq (tgt := 8) dX10_wrong_4 (by decide) (fun c4 => absurd c4 z) (fun c4 => ?_)
    refine go_return dX10_wrong_7 rfl (Nat.zero_le _) (Nat.zero_le _) ?_
    exact ⟨rfl, rfl⟩
theorem q_isGood {l : Launch} {d : Nat} {h : Hp} (hS : St h) : Ex l (d + 1) mX10_isGood [.ref 77] h (some (.int (if hI h 77 13 = 0 then 1 else 0))) h := by
  refine run_lv [some (.ref 77)] (go := ?_)
  refine go_aloadn dX10_isGood_0 rfl ?_
  refine sg_getI dX10_isGood_1 fX10_158 rfl (mo_L rfl) hS ?_
  refine go_if_ne (tgt := 11) dX10_isGood_4 (by decide) (fun c4 => ?_) (fun c4 => ?_)
  · refine go_iconst (v := 0) dX10_isGood_11 rfl ?_
    refine go_ireturn dX10_isGood_12 rfl rfl (Nat.zero_le _) (Nat.zero_le _) ?_
    first | exact ⟨by rw [if_pos c4], rfl⟩ | exact ⟨by rw [if_neg c4], rfl⟩
  · refine go_iconst (v := 1) dX10_isGood_7 rfl ?_
    refine go_goto (tgt := 12) dX10_isGood_8 (by decide) ?_
    refine go_ireturn dX10_isGood_12 rfl rfl (Nat.zero_le _) (Nat.zero_le _) ?_
    first | exact ⟨by rw [if_pos c4], rfl⟩ | exact ⟨by rw [if_neg c4], rfl⟩
theorem q_isSign {l : Launch} {d : Nat} {y : Int32} {h : Hp} (hS : St h) : Ex l (d + 1) mX10_isSign [.ref 77, .int y] h (some (.int (if hI h 77 18 = 3 ∧ hI h 77 22 = y then 1 else 0))) h := by
  refine run_lv [some (.ref 77), some (.int y)] (go := ?_)
  refine go_aloadn dX10_isSign_0 rfl ?_
  refine sg_getI dX10_isSign_1 fX10_135 rfl (mo_L rfl) hS ?_
  refine go_iconst (v := 3) dX10_isSign_4 rfl ?_
  refine go_icmp_ne (tgt := 20) dX10_isSign_5 (by decide) (fun c5 => ?_) (fun c5 => ?_)
  · refine go_iconst (v := 0) dX10_isSign_20 rfl ?_
    refine go_ireturn dX10_isSign_21 rfl rfl (Nat.zero_le _) (Nat.zero_le _) ?_
    first | exact ⟨by rw [if_pos (And.intro c5 c13)], rfl⟩ | exact ⟨by rw [if_neg (fun q => c13 q.2)], rfl⟩ | exact ⟨by rw [if_neg (fun q => c5 q.1)], rfl⟩
  · refine go_aloadn dX10_isSign_8 rfl ?_
    refine sg_getI dX10_isSign_9 fX10_132 rfl (mo_L rfl) hS ?_
    refine go_iloadn dX10_isSign_12 rfl ?_
    refine go_icmp_ne (tgt := 20) dX10_isSign_13 (by decide) (fun c13 => ?_) (fun c13 => ?_)
    · refine go_iconst (v := 0) dX10_isSign_20 rfl ?_
      refine go_ireturn dX10_isSign_21 rfl rfl (Nat.zero_le _) (Nat.zero_le _) ?_
      first | exact ⟨by rw [if_pos (And.intro c5 c13)], rfl⟩ | exact ⟨by rw [if_neg (fun q => c13 q.2)], rfl⟩ | exact ⟨by rw [if_neg (fun q => c5 q.1)], rfl⟩
    · refine go_iconst (v := 1) dX10_isSign_16 rfl ?_
      refine go_goto (tgt := 21) dX10_isSign_17 (by decide) ?_
      refine go_ireturn dX10_isSign_21 rfl rfl (Nat.zero_le _) (Nat.zero_le _) ?_
      first | exact ⟨by rw [if_pos (And.intro c5 c13)], rfl⟩ | exact ⟨by rw [if_neg (fun q => c13 q.2)], rfl⟩ | exact ⟨by rw [if_neg (fun q => c5 q.1)], rfl⟩
theorem q_puts {l : Launch} {d t : Nat} {y : Int32} {h : Hp} (hS : St h) (ht : hI h 77 30 = nI t) (h14 : t < 1400) : Ex l (d + 1) mX10_puts [.ref 77, .int y] h none (uI (uI h 87 t y) 77 30 (nI (t + 1))) := by
  refine run_lv [some (.ref 77), some (.int y)] (go := ?_)
  refine go_aloadn dX10_puts_0 rfl ?_
  refine sg_getR dX10_puts_1 fX10_54 rfl (mo_L rfl) hS (mo_r38 hS rfl) ?_
  refine go_aloadn dX10_puts_4 rfl ?_
  refine sg_getI dX10_puts_5 fX10_171 rfl (mo_L rfl) hS ?_
  rw [ht]
  refine go_iloadn dX10_puts_8 rfl ?_
  refine sg_iastN (i := t) dX10_puts_9 (mo_38 rfl) hS (by simp only [lit_nI, nI_add, pk_mul, Nat.add_assoc, Nat.zero_add, Nat.add_zero]) (by omega) ?_
  refine go_aloadn dX10_puts_10 rfl ?_
  refine go_dup dX10_puts_11 rfl ?_
  refine sg_getI dX10_puts_12 fX10_171 rfl (mo_L rfl) hS ?_
  rw [hI_uI_ne (by omega), ht]
  refine go_iconst (v := 1) dX10_puts_15 rfl ?_
  refine go_iadd dX10_puts_16 ?_
  rw [nI_1]
  refine sg_putI dX10_puts_17 fX10_171 rfl rfl (mo_L rfl) hS ?_
  refine go_return dX10_puts_20 rfl (Nat.zero_le _) (Nat.zero_le _) ?_
  exact ⟨rfl, rfl⟩
theorem q_waitsFor {l : Launch} {d t : Nat} {y : Int32} {h : Hp} (hS : St h) (ht : hI h 77 33 = nI t) (h9 : t < 950) : Ex l (d + 1) mX10_waitsFor [.ref 77, .int y] h none (uI (uI h 88 t y) 77 33 (nI (t + 1))) := by
  refine run_lv [some (.ref 77), some (.int y)] (go := ?_)
  refine go_aloadn dX10_waitsFor_0 rfl ?_
  refine sg_getR dX10_waitsFor_1 fX10_57 rfl (mo_L rfl) hS (mo_r39 hS rfl) ?_
  refine go_aloadn dX10_waitsFor_4 rfl ?_
  refine sg_getI dX10_waitsFor_5 fX10_174 rfl (mo_L rfl) hS ?_
  rw [ht]
  refine go_iloadn dX10_waitsFor_8 rfl ?_
  refine sg_iastN (i := t) dX10_waitsFor_9 (mo_39 rfl) hS (by simp only [lit_nI, nI_add, pk_mul, Nat.add_assoc, Nat.zero_add, Nat.add_zero]) (by omega) ?_
  refine go_aloadn dX10_waitsFor_10 rfl ?_
  refine go_dup dX10_waitsFor_11 rfl ?_
  refine sg_getI dX10_waitsFor_12 fX10_174 rfl (mo_L rfl) hS ?_
  rw [hI_uI_ne (by omega), ht]
  refine go_iconst (v := 1) dX10_waitsFor_15 rfl ?_
  refine go_iadd dX10_waitsFor_16 ?_
  rw [nI_1]
  refine sg_putI dX10_waitsFor_17 fX10_174 rfl rfl (mo_L rfl) hS ?_
  refine go_return dX10_waitsFor_20 rfl (Nat.zero_le _) (Nat.zero_le _) ?_
  exact ⟨rfl, rfl⟩
theorem q_isOpen {l : Launch} {d : Nat} {y : Int32} {h : Hp} : Ex l (d + 1) mX10_isOpen [.int y] h (some (.int (if y < 14 then 0 else 1))) h := by
  refine run_lv [some (.int y)] (go := ?_)
  refine go_iloadn dX10_isOpen_0 rfl ?_
  refine go_bipush (v := 14) dX10_isOpen_1 rfl ?_
  refine go_icmp_lt (tgt := 10) dX10_isOpen_3 (by decide) (fun c3 => ?_) (fun c3 => ?_)
  · refine go_iconst (v := 0) dX10_isOpen_10 rfl ?_
    refine go_ireturn dX10_isOpen_11 rfl rfl (Nat.zero_le _) (Nat.zero_le _) ?_
    first | exact ⟨by rw [if_pos c3], rfl⟩ | exact ⟨by rw [if_neg c3], rfl⟩
  · refine go_iconst (v := 1) dX10_isOpen_6 rfl ?_
    refine go_goto (tgt := 11) dX10_isOpen_7 (by decide) ?_
    refine go_ireturn dX10_isOpen_11 rfl rfl (Nat.zero_le _) (Nat.zero_le _) ?_
    first | exact ⟨by rw [if_pos c3], rfl⟩ | exact ⟨by rw [if_neg c3], rfl⟩
/-- how tightly the model's acts bind -/
def srF (y : Int32) : Int32 := if y = 5 then 1 else if y = 4 then 2 else if y = 3 then 3 else if y = 6 ∨ y = 7 then 4 else if y = 8 ∨ y = 9 then 5 else 6
theorem q_strength {l : Launch} {d : Nat} {y : Int32} {h : Hp} : Ex l (d + 1) mX10_strength [.int y] h (some (.int (srF y))) h := by
  refine run_lv [some (.int y)] (go := ?_)
  unfold srF
  refine go_iloadn dX10_strength_0 rfl ?_
  refine go_iconst (v := 5) dX10_strength_1 rfl ?_
  refine go_icmp_ne (tgt := 9) dX10_strength_2 (by decide) (fun c2 => ?_) (fun c2 => ?_)
  · refine go_iloadn dX10_strength_9 rfl ?_
    refine go_iconst (v := 4) dX10_strength_10 rfl ?_
    refine go_icmp_ne (tgt := 18) dX10_strength_11 (by decide) (fun c11 => ?_) (fun c11 => ?_)
    · refine go_iloadn dX10_strength_18 rfl ?_
      refine go_iconst (v := 3) dX10_strength_19 rfl ?_
      refine go_icmp_ne (tgt := 27) dX10_strength_20 (by decide) (fun c20 => ?_) (fun c20 => ?_)
      · refine go_iloadn dX10_strength_27 rfl ?_
        refine go_bipush (v := 6) dX10_strength_28 rfl ?_
        refine go_icmp_eq (tgt := 39) dX10_strength_30 (by decide) (fun c30 => ?_) (fun c30 => ?_)
        · refine go_iconst (v := 4) dX10_strength_39 rfl ?_
          refine go_goto (tgt := 61) dX10_strength_40 (by decide) ?_
          refine go_ireturn dX10_strength_61 rfl rfl (Nat.zero_le _) (Nat.zero_le _) ?_
          first | exact ⟨by rw [if_pos c2], rfl⟩ | exact ⟨by rw [if_neg c2, if_pos c11], rfl⟩ | exact ⟨by rw [if_neg c2, if_neg c11, if_pos c20], rfl⟩ | exact ⟨by rw [if_neg c2, if_neg c11, if_neg c20, if_pos (Or.inl c30)], rfl⟩ | exact ⟨by rw [if_neg c2, if_neg c11, if_neg c20, if_pos (Or.inr c36)], rfl⟩ | exact ⟨by rw [if_neg c2, if_neg c11, if_neg c20, if_neg (fun q => q.elim c30 c36), if_pos (Or.inl c46)], rfl⟩ | exact ⟨by rw [if_neg c2, if_neg c11, if_neg c20, if_neg (fun q => q.elim c30 c36), if_pos (Or.inr c52)], rfl⟩ | exact ⟨by rw [if_neg c2, if_neg c11, if_neg c20, if_neg (fun q => q.elim c30 c36), if_neg (fun q => q.elim c46 c52)], rfl⟩
        · refine go_iloadn dX10_strength_33 rfl ?_
          refine go_bipush (v := 7) dX10_strength_34 rfl ?_
          refine go_icmp_ne (tgt := 43) dX10_strength_36 (by decide) (fun c36 => ?_) (fun c36 => ?_)
          · refine go_iloadn dX10_strength_43 rfl ?_
            refine go_bipush (v := 8) dX10_strength_44 rfl ?_
            refine go_icmp_eq (tgt := 55) dX10_strength_46 (by decide) (fun c46 => ?_) (fun c46 => ?_)
            · refine go_iconst (v := 5) dX10_strength_55 rfl ?_
              refine go_goto (tgt := 61) dX10_strength_56 (by decide) ?_
              refine go_ireturn dX10_strength_61 rfl rfl (Nat.zero_le _) (Nat.zero_le _) ?_
              first | exact ⟨by rw [if_pos c2], rfl⟩ | exact ⟨by rw [if_neg c2, if_pos c11], rfl⟩ | exact ⟨by rw [if_neg c2, if_neg c11, if_pos c20], rfl⟩ | exact ⟨by rw [if_neg c2, if_neg c11, if_neg c20, if_pos (Or.inl c30)], rfl⟩ | exact ⟨by rw [if_neg c2, if_neg c11, if_neg c20, if_pos (Or.inr c36)], rfl⟩ | exact ⟨by rw [if_neg c2, if_neg c11, if_neg c20, if_neg (fun q => q.elim c30 c36), if_pos (Or.inl c46)], rfl⟩ | exact ⟨by rw [if_neg c2, if_neg c11, if_neg c20, if_neg (fun q => q.elim c30 c36), if_pos (Or.inr c52)], rfl⟩ | exact ⟨by rw [if_neg c2, if_neg c11, if_neg c20, if_neg (fun q => q.elim c30 c36), if_neg (fun q => q.elim c46 c52)], rfl⟩
            · refine go_iloadn dX10_strength_49 rfl ?_
              refine go_bipush (v := 9) dX10_strength_50 rfl ?_
              refine go_icmp_ne (tgt := 59) dX10_strength_52 (by decide) (fun c52 => ?_) (fun c52 => ?_)
              · refine go_bipush (v := 6) dX10_strength_59 rfl ?_
                refine go_ireturn dX10_strength_61 rfl rfl (Nat.zero_le _) (Nat.zero_le _) ?_
                first | exact ⟨by rw [if_pos c2], rfl⟩ | exact ⟨by rw [if_neg c2, if_pos c11], rfl⟩ | exact ⟨by rw [if_neg c2, if_neg c11, if_pos c20], rfl⟩ | exact ⟨by rw [if_neg c2, if_neg c11, if_neg c20, if_pos (Or.inl c30)], rfl⟩ | exact ⟨by rw [if_neg c2, if_neg c11, if_neg c20, if_pos (Or.inr c36)], rfl⟩ | exact ⟨by rw [if_neg c2, if_neg c11, if_neg c20, if_neg (fun q => q.elim c30 c36), if_pos (Or.inl c46)], rfl⟩ | exact ⟨by rw [if_neg c2, if_neg c11, if_neg c20, if_neg (fun q => q.elim c30 c36), if_pos (Or.inr c52)], rfl⟩ | exact ⟨by rw [if_neg c2, if_neg c11, if_neg c20, if_neg (fun q => q.elim c30 c36), if_neg (fun q => q.elim c46 c52)], rfl⟩
              · refine go_iconst (v := 5) dX10_strength_55 rfl ?_
                refine go_goto (tgt := 61) dX10_strength_56 (by decide) ?_
                refine go_ireturn dX10_strength_61 rfl rfl (Nat.zero_le _) (Nat.zero_le _) ?_
                first | exact ⟨by rw [if_pos c2], rfl⟩ | exact ⟨by rw [if_neg c2, if_pos c11], rfl⟩ | exact ⟨by rw [if_neg c2, if_neg c11, if_pos c20], rfl⟩ | exact ⟨by rw [if_neg c2, if_neg c11, if_neg c20, if_pos (Or.inl c30)], rfl⟩ | exact ⟨by rw [if_neg c2, if_neg c11, if_neg c20, if_pos (Or.inr c36)], rfl⟩ | exact ⟨by rw [if_neg c2, if_neg c11, if_neg c20, if_neg (fun q => q.elim c30 c36), if_pos (Or.inl c46)], rfl⟩ | exact ⟨by rw [if_neg c2, if_neg c11, if_neg c20, if_neg (fun q => q.elim c30 c36), if_pos (Or.inr c52)], rfl⟩ | exact ⟨by rw [if_neg c2, if_neg c11, if_neg c20, if_neg (fun q => q.elim c30 c36), if_neg (fun q => q.elim c46 c52)], rfl⟩
          · refine go_iconst (v := 4) dX10_strength_39 rfl ?_
            refine go_goto (tgt := 61) dX10_strength_40 (by decide) ?_
            refine go_ireturn dX10_strength_61 rfl rfl (Nat.zero_le _) (Nat.zero_le _) ?_
            first | exact ⟨by rw [if_pos c2], rfl⟩ | exact ⟨by rw [if_neg c2, if_pos c11], rfl⟩ | exact ⟨by rw [if_neg c2, if_neg c11, if_pos c20], rfl⟩ | exact ⟨by rw [if_neg c2, if_neg c11, if_neg c20, if_pos (Or.inl c30)], rfl⟩ | exact ⟨by rw [if_neg c2, if_neg c11, if_neg c20, if_pos (Or.inr c36)], rfl⟩ | exact ⟨by rw [if_neg c2, if_neg c11, if_neg c20, if_neg (fun q => q.elim c30 c36), if_pos (Or.inl c46)], rfl⟩ | exact ⟨by rw [if_neg c2, if_neg c11, if_neg c20, if_neg (fun q => q.elim c30 c36), if_pos (Or.inr c52)], rfl⟩ | exact ⟨by rw [if_neg c2, if_neg c11, if_neg c20, if_neg (fun q => q.elim c30 c36), if_neg (fun q => q.elim c46 c52)], rfl⟩
      · refine go_iconst (v := 3) dX10_strength_23 rfl ?_
        refine go_goto (tgt := 61) dX10_strength_24 (by decide) ?_
        refine go_ireturn dX10_strength_61 rfl rfl (Nat.zero_le _) (Nat.zero_le _) ?_
        first | exact ⟨by rw [if_pos c2], rfl⟩ | exact ⟨by rw [if_neg c2, if_pos c11], rfl⟩ | exact ⟨by rw [if_neg c2, if_neg c11, if_pos c20], rfl⟩ | exact ⟨by rw [if_neg c2, if_neg c11, if_neg c20, if_pos (Or.inl c30)], rfl⟩ | exact ⟨by rw [if_neg c2, if_neg c11, if_neg c20, if_pos (Or.inr c36)], rfl⟩ | exact ⟨by rw [if_neg c2, if_neg c11, if_neg c20, if_neg (fun q => q.elim c30 c36), if_pos (Or.inl c46)], rfl⟩ | exact ⟨by rw [if_neg c2, if_neg c11, if_neg c20, if_neg (fun q => q.elim c30 c36), if_pos (Or.inr c52)], rfl⟩ | exact ⟨by rw [if_neg c2, if_neg c11, if_neg c20, if_neg (fun q => q.elim c30 c36), if_neg (fun q => q.elim c46 c52)], rfl⟩
    · refine go_iconst (v := 2) dX10_strength_14 rfl ?_
      refine go_goto (tgt := 61) dX10_strength_15 (by decide) ?_
      refine go_ireturn dX10_strength_61 rfl rfl (Nat.zero_le _) (Nat.zero_le _) ?_
      first | exact ⟨by rw [if_pos c2], rfl⟩ | exact ⟨by rw [if_neg c2, if_pos c11], rfl⟩ | exact ⟨by rw [if_neg c2, if_neg c11, if_pos c20], rfl⟩ | exact ⟨by rw [if_neg c2, if_neg c11, if_neg c20, if_pos (Or.inl c30)], rfl⟩ | exact ⟨by rw [if_neg c2, if_neg c11, if_neg c20, if_pos (Or.inr c36)], rfl⟩ | exact ⟨by rw [if_neg c2, if_neg c11, if_neg c20, if_neg (fun q => q.elim c30 c36), if_pos (Or.inl c46)], rfl⟩ | exact ⟨by rw [if_neg c2, if_neg c11, if_neg c20, if_neg (fun q => q.elim c30 c36), if_pos (Or.inr c52)], rfl⟩ | exact ⟨by rw [if_neg c2, if_neg c11, if_neg c20, if_neg (fun q => q.elim c30 c36), if_neg (fun q => q.elim c46 c52)], rfl⟩
  · refine go_iconst (v := 1) dX10_strength_5 rfl ?_
    refine go_goto (tgt := 61) dX10_strength_6 (by decide) ?_
    refine go_ireturn dX10_strength_61 rfl rfl (Nat.zero_le _) (Nat.zero_le _) ?_
    first | exact ⟨by rw [if_pos c2], rfl⟩ | exact ⟨by rw [if_neg c2, if_pos c11], rfl⟩ | exact ⟨by rw [if_neg c2, if_neg c11, if_pos c20], rfl⟩ | exact ⟨by rw [if_neg c2, if_neg c11, if_neg c20, if_pos (Or.inl c30)], rfl⟩ | exact ⟨by rw [if_neg c2, if_neg c11, if_neg c20, if_pos (Or.inr c36)], rfl⟩ | exact ⟨by rw [if_neg c2, if_neg c11, if_neg c20, if_neg (fun q => q.elim c30 c36), if_pos (Or.inl c46)], rfl⟩ | exact ⟨by rw [if_neg c2, if_neg c11, if_neg c20, if_neg (fun q => q.elim c30 c36), if_pos (Or.inr c52)], rfl⟩ | exact ⟨by rw [if_neg c2, if_neg c11, if_neg c20, if_neg (fun q => q.elim c30 c36), if_neg (fun q => q.elim c46 c52)], rfl⟩
