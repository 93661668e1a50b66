/-! rules: an operator, a rule's result -/
def twF (op a b : Int32) : Int32 :=
  if op = 1 then (if a = 0 ∧ b = 0 then 0 else 1) else if op = 2 then (if a = 0 ∨ b = 0 then 0 else 1) else if op = 4 then (if a < b then 1 else 0) else if op = 5 then (if a = b then 1 else 0)
  else if op = 6 then a + b else if op = 7 then a - b else if op = 8 then a * b else if b = 0 then 0 else a / b
theorem r_two {l : Launch} {d : Nat} {h : Hp} {op a b : Int32} : Ex l (d + 1) mX4_two [.int op, .int a, .int b] h (some (.int (twF op a b))) h := by
  refine run_lv [some (.int op), some (.int a), some (.int b)] (go := ?_)
  refine go_iloadn dX4_two_0 rfl ?_
  refine go_tab 8 1 110 [48, 62, 110, 76, 87, 98, 102, 106] dX4_two_1 rfl rfl rfl rfl rfl (by decide) (fun c1 => ?_) (fun i hi c1 => ?_)
  · refine go_iloadn dX4_two_110 rfl ?_
    refine go_if_ne (tgt := 118) dX4_two_111 (by decide) (fun c111 => ?_) (fun c111 => ?_)
    · refine go_iloadn dX4_two_118 rfl ?_
      refine go_iloadn dX4_two_119 rfl ?_
      refine go_idiv dX4_two_120 (c111) ?_
      refine go_ireturn dX4_two_121 rfl rfl (Nat.zero_le _) (Nat.zero_le _) ?_
      exact ⟨by first | (subst e; simp [*, twF, nI] ; done) | (have q := fun i (hi : i < 8) => c1 i hi; have q1 := q 0 (by decide); have q2 := q 1 (by decide); have q4 := q 3 (by decide); have q5 := q 4 (by decide); have q6 := q 5 (by decide); have q7 := q 6 (by decide); have q8 := q 7 (by decide); simp_all [twF, nI]), rfl⟩
    · refine go_iconst (v := 0) dX4_two_114 rfl ?_
      refine go_goto (tgt := 121) dX4_two_115 (by decide) ?_
      refine go_ireturn dX4_two_121 rfl rfl (Nat.zero_le _) (Nat.zero_le _) ?_
      exact ⟨by first | (subst e; simp [*, twF, nI] ; done) | (have q := fun i (hi : i < 8) => c1 i hi; have q1 := q 0 (by decide); have q2 := q 1 (by decide); have q4 := q 3 (by decide); have q5 := q 4 (by decide); have q6 := q 5 (by decide); have q7 := q 6 (by decide); have q8 := q 7 (by decide); simp_all [twF, nI]), rfl⟩
  · match i, hi, c1 with
    | 0, _, c1 =>
      have e : op = nI _ := c1
      refine go_iloadn dX4_two_48 rfl ?_
      refine go_if_ne (tgt := 56) dX4_two_49 (by decide) (fun c49 => ?_) (fun c49 => ?_)
      · refine go_iconst (v := 1) dX4_two_56 rfl ?_
        refine go_goto (tgt := 61) dX4_two_57 (by decide) ?_
        refine go_ireturn dX4_two_61 rfl rfl (Nat.zero_le _) (Nat.zero_le _) ?_
        exact ⟨by first | (subst e; simp [*, twF, nI] ; done) | (have q := fun i (hi : i < 8) => c1 i hi; have q1 := q 0 (by decide); have q2 := q 1 (by decide); have q4 := q 3 (by decide); have q5 := q 4 (by decide); have q6 := q 5 (by decide); have q7 := q 6 (by decide); have q8 := q 7 (by decide); simp_all [twF, nI]), rfl⟩
      · refine go_iloadn dX4_two_52 rfl ?_
        refine go_if_eq (tgt := 60) dX4_two_53 (by decide) (fun c53 => ?_) (fun c53 => ?_)
        · refine go_iconst (v := 0) dX4_two_60 rfl ?_
          refine go_ireturn dX4_two_61 rfl rfl (Nat.zero_le _) (Nat.zero_le _) ?_
          exact ⟨by first | (subst e; simp [*, twF, nI] ; done) | (have q := fun i (hi : i < 8) => c1 i hi; have q1 := q 0 (by decide); have q2 := q 1 (by decide); have q4 := q 3 (by decide); have q5 := q 4 (by decide); have q6 := q 5 (by decide); have q7 := q 6 (by decide); have q8 := q 7 (by decide); simp_all [twF, nI]), rfl⟩
        · refine go_iconst (v := 1) dX4_two_56 rfl ?_
          refine go_goto (tgt := 61) dX4_two_57 (by decide) ?_
          refine go_ireturn dX4_two_61 rfl rfl (Nat.zero_le _) (Nat.zero_le _) ?_
          exact ⟨by first | (subst e; simp [*, twF, nI] ; done) | (have q := fun i (hi : i < 8) => c1 i hi; have q1 := q 0 (by decide); have q2 := q 1 (by decide); have q4 := q 3 (by decide); have q5 := q 4 (by decide); have q6 := q 5 (by decide); have q7 := q 6 (by decide); have q8 := q 7 (by decide); simp_all [twF, nI]), rfl⟩
    | 1, _, c1 =>
      have e : op = nI _ := c1
      refine go_iloadn dX4_two_62 rfl ?_
      refine go_if_eq (tgt := 74) dX4_two_63 (by decide) (fun c63 => ?_) (fun c63 => ?_)
      · refine go_iconst (v := 0) dX4_two_74 rfl ?_
        refine go_ireturn dX4_two_75 rfl rfl (Nat.zero_le _) (Nat.zero_le _) ?_
        exact ⟨by first | (subst e; simp [*, twF, nI] ; done) | (have q := fun i (hi : i < 8) => c1 i hi; have q1 := q 0 (by decide); have q2 := q 1 (by decide); have q4 := q 3 (by decide); have q5 := q 4 (by decide); have q6 := q 5 (by decide); have q7 := q 6 (by decide); have q8 := q 7 (by decide); simp_all [twF, nI]), rfl⟩
      · refine go_iloadn dX4_two_66 rfl ?_
        refine go_if_eq (tgt := 74) dX4_two_67 (by decide) (fun c67 => ?_) (fun c67 => ?_)
        · refine go_iconst (v := 0) dX4_two_74 rfl ?_
          refine go_ireturn dX4_two_75 rfl rfl (Nat.zero_le _) (Nat.zero_le _) ?_
          exact ⟨by first | (subst e; simp [*, twF, nI] ; done) | (have q := fun i (hi : i < 8) => c1 i hi; have q1 := q 0 (by decide); have q2 := q 1 (by decide); have q4 := q 3 (by decide); have q5 := q 4 (by decide); have q6 := q 5 (by decide); have q7 := q 6 (by decide); have q8 := q 7 (by decide); simp_all [twF, nI]), rfl⟩
        · refine go_iconst (v := 1) dX4_two_70 rfl ?_
          refine go_goto (tgt := 75) dX4_two_71 (by decide) ?_
          refine go_ireturn dX4_two_75 rfl rfl (Nat.zero_le _) (Nat.zero_le _) ?_
          exact ⟨by first | (subst e; simp [*, twF, nI] ; done) | (have q := fun i (hi : i < 8) => c1 i hi; have q1 := q 0 (by decide); have q2 := q 1 (by decide); have q4 := q 3 (by decide); have q5 := q 4 (by decide); have q6 := q 5 (by decide); have q7 := q 6 (by decide); have q8 := q 7 (by decide); simp_all [twF, nI]), rfl⟩
    | 2, _, c1 =>
      have e : op = nI _ := c1
      refine go_iloadn dX4_two_110 rfl ?_
      refine go_if_ne (tgt := 118) dX4_two_111 (by decide) (fun c111 => ?_) (fun c111 => ?_)
      · refine go_iloadn dX4_two_118 rfl ?_
        refine go_iloadn dX4_two_119 rfl ?_
        refine go_idiv dX4_two_120 (c111) ?_
        refine go_ireturn dX4_two_121 rfl rfl (Nat.zero_le _) (Nat.zero_le _) ?_
        exact ⟨by first | (subst e; simp [*, twF, nI] ; done) | (have q := fun i (hi : i < 8) => c1 i hi; have q1 := q 0 (by decide); have q2 := q 1 (by decide); have q4 := q 3 (by decide); have q5 := q 4 (by decide); have q6 := q 5 (by decide); have q7 := q 6 (by decide); have q8 := q 7 (by decide); simp_all [twF, nI]), rfl⟩
      · refine go_iconst (v := 0) dX4_two_114 rfl ?_
        refine go_goto (tgt := 121) dX4_two_115 (by decide) ?_
        refine go_ireturn dX4_two_121 rfl rfl (Nat.zero_le _) (Nat.zero_le _) ?_
        exact ⟨by first | (subst e; simp [*, twF, nI] ; done) | (have q := fun i (hi : i < 8) => c1 i hi; have q1 := q 0 (by decide); have q2 := q 1 (by decide); have q4 := q 3 (by decide); have q5 := q 4 (by decide); have q6 := q 5 (by decide); have q7 := q 6 (by decide); have q8 := q 7 (by decide); simp_all [twF, nI]), rfl⟩
    | 3, _, c1 =>
      have e : op = nI _ := c1
      refine go_iloadn dX4_two_76 rfl ?_
      refine go_iloadn dX4_two_77 rfl ?_
      refine go_icmp_ge (tgt := 85) dX4_two_78 (by decide) (fun c78 => ?_) (fun c78 => ?_)
      · refine go_iconst (v := 0) dX4_two_85 rfl ?_
        refine go_ireturn dX4_two_86 rfl rfl (Nat.zero_le _) (Nat.zero_le _) ?_
        exact ⟨by first | (subst e; simp [*, twF, nI] ; done) | (have q := fun i (hi : i < 8) => c1 i hi; have q1 := q 0 (by decide); have q2 := q 1 (by decide); have q4 := q 3 (by decide); have q5 := q 4 (by decide); have q6 := q 5 (by decide); have q7 := q 6 (by decide); have q8 := q 7 (by decide); simp_all [twF, nI]), rfl⟩
      · refine go_iconst (v := 1) dX4_two_81 rfl ?_
        refine go_goto (tgt := 86) dX4_two_82 (by decide) ?_
        refine go_ireturn dX4_two_86 rfl rfl (Nat.zero_le _) (Nat.zero_le _) ?_
        exact ⟨by first | (subst e; simp [*, twF, nI] ; done) | (have q := fun i (hi : i < 8) => c1 i hi; have q1 := q 0 (by decide); have q2 := q 1 (by decide); have q4 := q 3 (by decide); have q5 := q 4 (by decide); have q6 := q 5 (by decide); have q7 := q 6 (by decide); have q8 := q 7 (by decide); simp_all [twF, nI]), rfl⟩
    | 4, _, c1 =>
      have e : op = nI _ := c1
      refine go_iloadn dX4_two_87 rfl ?_
      refine go_iloadn dX4_two_88 rfl ?_
      refine go_icmp_ne (tgt := 96) dX4_two_89 (by decide) (fun c89 => ?_) (fun c89 => ?_)
      · refine go_iconst (v := 0) dX4_two_96 rfl ?_
        refine go_ireturn dX4_two_97 rfl rfl (Nat.zero_le _) (Nat.zero_le _) ?_
        exact ⟨by first | (subst e; simp [*, twF, nI] ; done) | (have q := fun i (hi : i < 8) => c1 i hi; have q1 := q 0 (by decide); have q2 := q 1 (by decide); have q4 := q 3 (by decide); have q5 := q 4 (by decide); have q6 := q 5 (by decide); have q7 := q 6 (by decide); have q8 := q 7 (by decide); simp_all [twF, nI]), rfl⟩
      · refine go_iconst (v := 1) dX4_two_92 rfl ?_
        refine go_goto (tgt := 97) dX4_two_93 (by decide) ?_
        refine go_ireturn dX4_two_97 rfl rfl (Nat.zero_le _) (Nat.zero_le _) ?_
        exact ⟨by first | (subst e; simp [*, twF, nI] ; done) | (have q := fun i (hi : i < 8) => c1 i hi; have q1 := q 0 (by decide); have q2 := q 1 (by decide); have q4 := q 3 (by decide); have q5 := q 4 (by decide); have q6 := q 5 (by decide); have q7 := q 6 (by decide); have q8 := q 7 (by decide); simp_all [twF, nI]), rfl⟩
    | 5, _, c1 =>
      have e : op = nI _ := c1
      refine go_iloadn dX4_two_98 rfl ?_
      refine go_iloadn dX4_two_99 rfl ?_
      refine go_iadd dX4_two_100 ?_
      refine go_ireturn dX4_two_101 rfl rfl (Nat.zero_le _) (Nat.zero_le _) ?_
      exact ⟨by first | (subst e; simp [*, twF, nI] ; done) | (have q := fun i (hi : i < 8) => c1 i hi; have q1 := q 0 (by decide); have q2 := q 1 (by decide); have q4 := q 3 (by decide); have q5 := q 4 (by decide); have q6 := q 5 (by decide); have q7 := q 6 (by decide); have q8 := q 7 (by decide); simp_all [twF, nI]), rfl⟩
    | 6, _, c1 =>
      have e : op = nI _ := c1
      refine go_iloadn dX4_two_102 rfl ?_
      refine go_iloadn dX4_two_103 rfl ?_
      refine go_isub dX4_two_104 ?_
      refine go_ireturn dX4_two_105 rfl rfl (Nat.zero_le _) (Nat.zero_le _) ?_
      exact ⟨by first | (subst e; simp [*, twF, nI] ; done) | (have q := fun i (hi : i < 8) => c1 i hi; have q1 := q 0 (by decide); have q2 := q 1 (by decide); have q4 := q 3 (by decide); have q5 := q 4 (by decide); have q6 := q 5 (by decide); have q7 := q 6 (by decide); have q8 := q 7 (by decide); simp_all [twF, nI]), rfl⟩
    | 7, _, c1 =>
      have e : op = nI _ := c1
      refine go_iloadn dX4_two_106 rfl ?_
      refine go_iloadn dX4_two_107 rfl ?_
      refine go_imul dX4_two_108 ?_
      refine go_ireturn dX4_two_109 rfl rfl (Nat.zero_le _) (Nat.zero_le _) ?_
      exact ⟨by first | (subst e; simp [*, twF, nI] ; done) | (have q := fun i (hi : i < 8) => c1 i hi; have q1 := q 0 (by decide); have q2 := q 1 (by decide); have q4 := q 3 (by decide); have q5 := q 4 (by decide); have q6 := q 5 (by decide); have q7 := q 6 (by decide); have q8 := q 7 (by decide); simp_all [twF, nI]), rfl⟩
    | (i + 8), hi, _ => exact absurd hi (by omega)
theorem r_isTold {l : Launch} {d r : Nat} {h : Hp} (hS : St h) (hr : RuleAt r) : Ex l (d + 1) mX4_isTold [.ref r] h (some (.int (if hI h r 1 ≤ hI h r 0 then 0 else 1))) h := by
  refine run_lv [some (.ref r)] (go := ?_)
  refine go_aloadn dX4_isTold_0 rfl ?_
  refine sg_getI dX4_isTold_1 fX4_7 rfl (ru_L hr) hS ?_
  refine go_aloadn dX4_isTold_4 rfl ?_
  refine sg_getI dX4_isTold_5 fX4_13 rfl (ru_L hr) hS ?_
  refine go_icmp_le (tgt := 15) dX4_isTold_8 (by decide) (fun c8 => ?_) (fun c8 => ?_)
  · refine go_iconst (v := 0) dX4_isTold_15 rfl ?_
    refine go_ireturn dX4_isTold_16 rfl rfl (Nat.zero_le _) (Nat.zero_le _) ?_
    exact ⟨by simp [*], rfl⟩
  · refine go_iconst (v := 1) dX4_isTold_11 rfl ?_
    refine go_goto (tgt := 16) dX4_isTold_12 (by decide) ?_
    refine go_ireturn dX4_isTold_16 rfl rfl (Nat.zero_le _) (Nat.zero_le _) ?_
    exact ⟨by simp [*], rfl⟩
