/-! rules: an operator, a rule's result -/
def twF (op a b : Int32) : Int32 :=
  if op = 1 then (if a = 0 ∧ b = 0 then 0 else 1) else if op = 2 then (if a = 0 ∨ b = 0 then 0 else 1) else if op = 4 then (if a < b then 1 else 0) else if op = 5 then (if a = b then 1 else 0)
  else if op = 6 then a + b else if op = 7 then a - b else if op = 8 then a * b else if b = 0 then 0 else a / b
theorem r_two {l : Launch} {d : Nat} {h : Hp} {op a b : Int32} : Ex l (d + 1) mX4_two [.int op, .int a, .int b] h (some (.int (twF op a b))) h := by
  refine run_lv [some (.int op), some (.int a), some (.int b)] (go := ?_)
  refine go_iloadn dX4_two_0 rfl ?_
  refine go_tab 8 1 110 [48, 62, 110, 76, 87, 98, 102, 106] dX4_two_1 rfl rfl rfl rfl rfl (by decide) (fun c1 => ?_) (fun i hi c1 => ?_)
  · refine go_iloadn dX4_two_110 rfl ?_
    refine go_if_ne (tgt := 118) dX4_two_111 (by decide) (fun c111 => ?_) (fun c111 => ?_)
    · refine go_iloadn dX4_two_118 rfl ?_
      refine go_iloadn dX4_two_119 rfl ?_
      refine go_idiv dX4_two_120 (c111) ?_
      refine go_ireturn dX4_two_121 rfl rfl (Nat.zero_le _) (Nat.zero_le _) ?_
      exact ⟨by first | (subst e; simp [*, twF, nI] ; done) | (have q := fun i (hi : i < 8) => c1 i hi; have q1 := q 0 (by decide); have q2 := q 1 (by decide); have q4 := q 3 (by decide); have q5 := q 4 (by decide); have q6 := q 5 (by decide); have q7 := q 6 (by decide); have q8 := q 7 (by decide); simp_all [twF, nI]), rfl⟩
    · refine go_iconst (v := 0) dX4_two_114 rfl ?_
      refine go_goto (tgt := 121) dX4_two_115 (by decide) ?_
      refine go_ireturn dX4_two_121 rfl rfl (Nat.zero_le _) (Nat.zero_le _) ?_
      exact ⟨by first | (subst e; simp [*, twF, nI] ; done) | (have q := fun i (hi : i < 8) => c1 i hi; have q1 := q 0 (by decide); have q2 := q 1 (by decide); have q4 := q 3 (by decide); have q5 := q 4 (by decide); have q6 := q 5 (by decide); have q7 := q 6 (by decide); have q8 := q 7 (by decide); simp_all [twF, nI]), rfl⟩
  · match i, hi, c1 with
    | 0, _, c1 =>
      have e : op = nI _ := c1
      refine go_iloadn dX4_two_48 rfl ?_
      refine go_if_ne (tgt := 56) dX4_two_49 (by decide) (fun c49 => ?_) (fun c49 => ?_)
      · refine go_iconst (v := 1) dX4_two_56 rfl ?_
        refine go_goto (tgt := 61) dX4_two_57 (by decide) ?_
        refine go_ireturn dX4_two_61 rfl rfl (Nat.zero_le _) (Nat.zero_le _) ?_
        exact ⟨by first | (subst e; simp [*, twF, nI] ; done) | (have q := fun i (hi : i < 8) => c1 i hi; have q1 := q 0 (by decide); have q2 := q 1 (by decide); have q4 := q 3 (by decide); have q5 := q 4 (by decide); have q6 := q 5 (by decide); have q7 := q 6 (by decide); have q8 := q 7 (by decide); simp_all [twF, nI]), rfl⟩
      · refine go_iloadn dX4_two_52 rfl ?_
        refine go_if_eq (tgt := 60) dX4_two_53 (by decide) (fun c53 => ?_) (fun c53 => ?_)
        · refine go_iconst (v := 0) dX4_two_60 rfl ?_
          refine go_ireturn dX4_two_61 rfl rfl (Nat.zero_le _) (Nat.zero_le _) ?_
          exact ⟨by first | (subst e; simp [*, twF, nI] ; done) | (have q := fun i (hi : i < 8) => c1 i hi; have q1 := q 0 (by decide); have q2 := q 1 (by decide); have q4 := q 3 (by decide); have q5 := q 4 (by decide); have q6 := q 5 (by decide); have q7 := q 6 (by decide); have q8 := q 7 (by decide); simp_all [twF, nI]), rfl⟩
        · refine go_iconst (v := 1) dX4_two_56 rfl ?_
          refine go_goto (tgt := 61) dX4_two_57 (by decide) ?_
          refine go_ireturn dX4_two_61 rfl rfl (Nat.zero_le _) (Nat.zero_le _) ?_
          exact ⟨by first | (subst e; simp [*, twF, nI] ; done) | (have q := fun i (hi : i < 8) => c1 i hi; have q1 := q 0 (by decide); have q2 := q 1 (by decide); have q4 := q 3 (by decide); have q5 := q 4 (by decide); have q6 := q 5 (by decide); have q7 := q 6 (by decide); have q8 := q 7 (by decide); simp_all [twF, nI]), rfl⟩
    | 1, _, c1 =>
      have e : op = nI _ := c1
      refine go_iloadn dX4_two_62 rfl ?_
      refine go_if_eq (tgt := 74) dX4_two_63 (by decide) (fun c63 => ?_) (fun c63 => ?_)
      · refine go_iconst (v := 0) dX4_two_74 rfl ?_
        refine go_ireturn dX4_two_75 rfl rfl (Nat.zero_le _) (Nat.zero_le _) ?_
        exact ⟨by first | (subst e; simp [*, twF, nI] ; done) | (have q := fun i (hi : i < 8) => c1 i hi; have q1 := q 0 (by decide); have q2 := q 1 (by decide); have q4 := q 3 (by decide); have q5 := q 4 (by decide); have q6 := q 5 (by decide); have q7 := q 6 (by decide); have q8 := q 7 (by decide); simp_all [twF, nI]), rfl⟩
      · refine go_iloadn dX4_two_66 rfl ?_
        refine go_if_eq (tgt := 74) dX4_two_67 (by decide) (fun c67 => ?_) (fun c67 => ?_)
        · refine go_iconst (v := 0) dX4_two_74 rfl ?_
          refine go_ireturn dX4_two_75 rfl rfl (Nat.zero_le _) (Nat.zero_le _) ?_
          exact ⟨by first | (subst e; simp [*, twF, nI] ; done) | (have q := fun i (hi : i < 8) => c1 i hi; have q1 := q 0 (by decide); have q2 := q 1 (by decide); have q4 := q 3 (by decide); have q5 := q 4 (by decide); have q6 := q 5 (by decide); have q7 := q 6 (by decide); have q8 := q 7 (by decide); simp_all [twF, nI]), rfl⟩
        · refine go_iconst (v := 1) dX4_two_70 rfl ?_
          refine go_goto (tgt := 75) dX4_two_71 (by decide) ?_
          refine go_ireturn dX4_two_75 rfl rfl (Nat.zero_le _) (Nat.zero_le _) ?_
          exact ⟨by first | (subst e; simp [*, twF, nI] ; done) | (have q := fun i (hi : i < 8) => c1 i hi; have q1 := q 0 (by decide); have q2 := q 1 (by decide); have q4 := q 3 (by decide); have q5 := q 4 (by decide); have q6 := q 5 (by decide); have q7 := q 6 (by decide); have q8 := q 7 (by decide); simp_all [twF, nI]), rfl⟩
    | 2, _, c1 =>
      have e : op = nI _ := c1
      refine go_iloadn dX4_two_110 rfl ?_
      refine go_if_ne (tgt := 118) dX4_two_111 (by decide) (fun c111 => ?_) (fun c111 => ?_)
      · refine go_iloadn dX4_two_118 rfl ?_
        refine go_iloadn dX4_two_119 rfl ?_
        refine go_idiv dX4_two_120 (c111) ?_
        refine go_ireturn dX4_two_121 rfl rfl (Nat.zero_le _) (Nat.zero_le _) ?_
        exact ⟨by first | (subst e; simp [*, twF, nI] ; done) | (have q := fun i (hi : i < 8) => c1 i hi; have q1 := q 0 (by decide); have q2 := q 1 (by decide); have q4 := q 3 (by decide); have q5 := q 4 (by decide); have q6 := q 5 (by decide); have q7 := q 6 (by decide); have q8 := q 7 (by decide); simp_all [twF, nI]), rfl⟩
      · refine go_iconst (v := 0) dX4_two_114 rfl ?_
        refine go_goto (tgt := 121) dX4_two_115 (by decide) ?_
        refine go_ireturn dX4_two_121 rfl rfl (Nat.zero_le _) (Nat.zero_le _) ?_
        exact ⟨by first | (subst e; simp [*, twF, nI] ; done) | (have q := fun i (hi : i < 8) => c1 i hi; have q1 := q 0 (by decide); have q2 := q 1 (by decide); have q4 := q 3 (by decide); have q5 := q 4 (by decide); have q6 := q 5 (by decide); have q7 := q 6 (by decide); have q8 := q 7 (by decide); simp_all [twF, nI]), rfl⟩
    | 3, _, c1 =>
      have e : op = nI _ := c1
      refine go_iloadn dX4_two_76 rfl ?_
      refine go_iloadn dX4_two_77 rfl ?_
      refine go_icmp_ge (tgt := 85) dX4_two_78 (by decide) (fun c78 => ?_) (fun c78 => ?_)
      · refine go_iconst (v := 0) dX4_two_85 rfl ?_
        refine go_ireturn dX4_two_86 rfl rfl (Nat.zero_le _) (Nat.zero_le _) ?_
        exact ⟨by first | (subst e; simp [*, twF, nI] ; done) | (have q := fun i (hi : i < 8) => c1 i hi; have q1 := q 0 (by decide); have q2 := q 1 (by decide); have q4 := q 3 (by decide); have q5 := q 4 (by decide); have q6 := q 5 (by decide); have q7 := q 6 (by decide); have q8 := q 7 (by decide); simp_all [twF, nI]), rfl⟩
      · refine go_iconst (v := 1) dX4_two_81 rfl ?_
        refine go_goto (tgt := 86) dX4_two_82 (by decide) ?_
        refine go_ireturn dX4_two_86 rfl rfl (Nat.zero_le _) (Nat.zero_le _) ?_
        exact ⟨by first | (subst e; simp [*, twF, nI] ; done) | (have q := fun i (hi : i < 8) => c1 i hi; have q1 := q 0 (by decide); have q2 := q 1 (by decide); have q4 := q 3 (by decide); have q5 := q 4 (by decide); have q6 := q 5 (by decide); have q7 := q 6 (by decide); have q8 := q 7 (by decide); simp_all [twF, nI]), rfl⟩
    | 4, _, c1 =>
      have e : op = nI _ := c1
      refine go_iloadn dX4_two_87 rfl ?_
      refine go_iloadn dX4_two_88 rfl ?_
      refine go_icmp_ne (tgt := 96) dX4_two_89 (by decide) (fun c89 => ?_) (fun c89 => ?_)
      · refine go_iconst (v := 0) dX4_two_96 rfl ?_
        refine go_ireturn dX4_two_97 rfl rfl (Nat.zero_le _) (Nat.zero_le _) ?_
        exact ⟨by first | (subst e; simp [*, twF, nI] ; done) | (have q := fun i (hi : i < 8) => c1 i hi; have q1 := q 0 (by decide); have q2 := q 1 (by decide); have q4 := q 3 (by decide); have q5 := q 4 (by decide); have q6 := q 5 (by decide); have q7 := q 6 (by decide); have q8 := q 7 (by decide); simp_all [twF, nI]), rfl⟩
      · refine go_iconst (v := 1) dX4_two_92 rfl ?_
        refine go_goto (tgt := 97) dX4_two_93 (by decide) ?_
        refine go_ireturn dX4_two_97 rfl rfl (Nat.zero_le _) (Nat.zero_le _) ?_
        exact ⟨by first | (subst e; simp [*, twF, nI] ; done) | (have q := fun i (hi : i < 8) => c1 i hi; have q1 := q 0 (by decide); have q2 := q 1 (by decide); have q4 := q 3 (by decide); have q5 := q 4 (by decide); have q6 := q 5 (by decide); have q7 := q 6 (by decide); have q8 := q 7 (by decide); simp_all [twF, nI]), rfl⟩
    | 5, _, c1 =>
      have e : op = nI _ := c1
      refine go_iloadn dX4_two_98 rfl ?_
      refine go_iloadn dX4_two_99 rfl ?_
      refine go_iadd dX4_two_100 ?_
      refine go_ireturn dX4_two_101 rfl rfl (Nat.zero_le _) (Nat.zero_le _) ?_
      exact ⟨by first | (subst e; simp [*, twF, nI] ; done) | (have q := fun i (hi : i < 8) => c1 i hi; have q1 := q 0 (by decide); have q2 := q 1 (by decide); have q4 := q 3 (by decide); have q5 := q 4 (by decide); have q6 := q 5 (by decide); have q7 := q 6 (by decide); have q8 := q 7 (by decide); simp_all [twF, nI]), rfl⟩
    | 6, _, c1 =>
      have e : op = nI _ := c1
      refine go_iloadn dX4_two_102 rfl ?_
      refine go_iloadn dX4_two_103 rfl ?_
      refine go_isub dX4_two_104 ?_
      refine go_ireturn dX4_two_105 rfl rfl (Nat.zero_le _) (Nat.zero_le _) ?_
      exact ⟨by first | (subst e; simp [*, twF, nI] ; done) | (have q := fun i (hi : i < 8) => c1 i hi; have q1 := q 0 (by decide); have q2 := q 1 (by decide); have q4 := q 3 (by decide); have q5 := q 4 (by decide); have q6 := q 5 (by decide); have q7 := q 6 (by decide); have q8 := q 7 (by decide); simp_all [twF, nI]), rfl⟩
    | 7, _, c1 =>
      have e : op = nI _ := c1
      refine go_iloadn dX4_two_106 rfl ?_
      refine go_iloadn dX4_two_107 rfl ?_
      refine go_imul dX4_two_108 ?_
      refine go_ireturn dX4_two_109 rfl rfl (Nat.zero_le _) (Nat.zero_le _) ?_
      exact ⟨by first | (subst e; simp [*, twF, nI] ; done) | (have q := fun i (hi : i < 8) => c1 i hi; have q1 := q 0 (by decide); have q2 := q 1 (by decide); have q4 := q 3 (by decide); have q5 := q 4 (by decide); have q6 := q 5 (by decide); have q7 := q 6 (by decide); have q8 := q 7 (by decide); simp_all [twF, nI]), rfl⟩
    | (i + 8), hi, _ => exact absurd hi (by omega)
theorem r_isTold {l : Launch} {d r : Nat} {h : Hp} (hS : St h) (hr : RuleAt r) : Ex l (d + 1) mX4_isTold [.ref r] h (some (.int (if hI h r 1 ≤ hI h r 0 then 0 else 1))) h := by
  refine run_lv [some (.ref r)] (go := ?_)
  refine go_aloadn dX4_isTold_0 rfl ?_
  refine sg_getI dX4_isTold_1 fX4_7 rfl (ru_L hr) hS ?_
  refine go_aloadn dX4_isTold_4 rfl ?_
  refine sg_getI dX4_isTold_5 fX4_13 rfl (ru_L hr) hS ?_
  refine go_icmp_le (tgt := 15) dX4_isTold_8 (by decide) (fun c8 => ?_) (fun c8 => ?_)
  · refine go_iconst (v := 0) dX4_isTold_15 rfl ?_
    refine go_ireturn dX4_isTold_16 rfl rfl (Nat.zero_le _) (Nat.zero_le _) ?_
    exact ⟨by simp [*], rfl⟩
  · refine go_iconst (v := 1) dX4_isTold_11 rfl ?_
    refine go_goto (tgt := 16) dX4_isTold_12 (by decide) ?_
    refine go_ireturn dX4_isTold_16 rfl rfl (Nat.zero_le _) (Nat.zero_le _) ?_
    exact ⟨by simp [*], rfl⟩
theorem vp_in_c {x : Int32} {n : Nat} (hn : n < 2 ^ 31) (h0 : ¬ x < 0) (h1 : ¬ nI n ≤ x) : vp_in x n := by
  rcases pk_ix x hn with h | h | ⟨j, h, e⟩
  · exact absurd h h0
  · exact absurd h h1
  · rw [e]; exact vp_in_nI h hn
/-- a sign of a rule's code, on a row of values with so many on it -/
def rs1 (sg : Int32) (vals : Nat → Int32) (st : (Nat → Int32) × Nat) : (Nat → Int32) × Nat :=
  if sg - 20000 = 3 ∧ 1 ≤ st.2 then (upd st.1 (st.2 - 1) (if st.1 (st.2 - 1) = 0 then 1 else 0), st.2)
  else if 0 ≤ sg - 20000 ∧ 2 ≤ st.2 then (upd st.1 (st.2 - 2) (twF (sg - 20000) (st.1 (st.2 - 2)) (st.1 (st.2 - 1))), st.2 - 1)
  else if sg - 20000 < 0 ∧ st.2 < 64 then (upd st.1 st.2 (if 0 ≤ sg - 10000 ∧ sg - 10000 < 9 then vals (sg - 10000).toNatClampNeg else sg), st.2 + 1)
  else st
def rsF (cd vals : Nat → Int32) (fr : Nat) (S : Nat → Int32) : Nat → (Nat → Int32) × Nat := foF (fun j st => rs1 (cd (fr + j)) vals st) (S, 0)
theorem n3_0 {x : Int32} (h : x < 0) : ¬ x = 3 := fun e => by rw [e] at h; exact absurd h (by decide)
theorem rs1_A {sg : Int32} {vals S : Nat → Int32} {T : Nat} (h1 : sg - 20000 = 3) (h2 : 1 ≤ T) : rs1 sg vals (S, T) = (upd S (T - 1) (if S (T - 1) = 0 then 1 else 0), T) := by rw [rs1, if_pos ⟨h1, h2⟩]
theorem rs1_B {sg : Int32} {vals S : Nat → Int32} {T : Nat} (h1 : ¬ (sg - 20000 = 3 ∧ 1 ≤ T)) (h2 : 0 ≤ sg - 20000) (h3 : 2 ≤ T) : rs1 sg vals (S, T) = (upd S (T - 2) (twF (sg - 20000) (S (T - 2)) (S (T - 1))), T - 1) := by rw [rs1, if_neg h1, if_pos ⟨h2, h3⟩]
theorem rs1_C {sg : Int32} {vals S : Nat → Int32} {T : Nat} (h1 : sg - 20000 < 0) (h2 : T < 64) : rs1 sg vals (S, T) = (upd S T (if 0 ≤ sg - 10000 ∧ sg - 10000 < 9 then vals (sg - 10000).toNatClampNeg else sg), T + 1) := by rw [rs1, if_neg (fun q => n3_0 h1 q.1), if_neg (fun q => absurd h1 (Int32.not_lt.mpr q.1)), if_pos ⟨h1, h2⟩]
theorem rs1_D {sg : Int32} {vals S : Nat → Int32} {T : Nat} (h1 : ¬ (sg - 20000 = 3 ∧ 1 ≤ T)) (h2 : 0 ≤ sg - 20000) (h3 : ¬ 2 ≤ T) : rs1 sg vals (S, T) = (S, T) := by rw [rs1, if_neg h1, if_neg (fun q => h3 q.2), if_neg (fun q => absurd q.1 (Int32.not_lt.mpr h2))]
theorem rs1_E {sg : Int32} {vals S : Nat → Int32} {T : Nat} (h1 : sg - 20000 < 0) (h2 : ¬ T < 64) : rs1 sg vals (S, T) = (S, T) := by rw [rs1, if_neg (fun q => n3_0 h1 q.1), if_neg (fun q => absurd h1 (Int32.not_lt.mpr q.1)), if_neg (fun q => h2 q.2)]
theorem rs1_le {sg : Int32} {vals : Nat → Int32} {st : (Nat → Int32) × Nat} (h : st.2 ≤ 64) : (rs1 sg vals st).2 ≤ 64 := by
  unfold rs1
  split
  · exact h
  · split
    · show st.2 - 1 ≤ 64; omega
    · split
      · next q => show st.2 + 1 ≤ 64; omega
      · exact h
theorem rsF_le {cd vals : Nat → Int32} {fr : Nat} {S : Nat → Int32} (k : Nat) : (rsF cd vals fr S k).2 ≤ 64 := by
  induction k with
  | zero => exact Nat.zero_le _
  | succ k ih => exact rs1_le ih
/-- what a rule gives: its code from fr, n signs -/
def ruF (cd vals S : Nat → Int32) (fr n : Nat) : Int32 := if 0 < (rsF cd vals fr S n).2 then (rsF cd vals fr S n).1 0 else 0
theorem r_result {l : Launch} {d r b c fr n : Nat} {h : Hp} (hS : St h) (hr : RuleAt r) (hb : TownAt b) (hc : CityAt c) (h0 : hI h r 0 = nI fr) (h1 : hI h r 1 = nI (fr + n)) (hn : fr + n ≤ 700) :
    Ex l (d + 2) mX4_result [.ref r, .ref (c + 9), .ref (b + 10), .ref (b + 11)] h (some (.int (ruF (hI h (c + 9)) (hI h (b + 10)) (hI h (b + 11)) fr n))) (uF h (b + 11) (rsF (hI h (c + 9)) (hI h (b + 10)) fr (hI h (b + 11)) n).1) := by
  refine run_lv [some (.ref r), some (.ref (c + 9)), some (.ref (b + 10)), some (.ref (b + 11)), none, none, none, none, none] (go := ?_)
  refine go_iconst (v := 0) dX4_result_0 rfl ?_
  refine go_ist4 dX4_result_1 rfl ?_
  refine go_aloadn dX4_result_3 rfl ?_
  refine sg_getI dX4_result_4 fX4_13 rfl (ru_L hr) hS ?_
  refine go_ist5 dX4_result_7 rfl ?_
  have x1 : r ≠ b + 11 := by rcases hb with rfl | rfl <;> rcases hr with rfl | rfl | rfl | rfl <;> omega
  have x2 : c + 9 ≠ b + 11 := tn_ne hb hc (by omega) (by omega)
  have x3 : b + 10 ≠ b + 11 := by omega
  refine go_cong (go_loop (lvf := fun k => [some (.ref r), some (.ref (c + 9)), some (.ref (b + 10)), some (.ref (b + 11)), some (.int (nI (rsF (hI h (c + 9)) (hI h (b + 10)) fr (hI h (b + 11)) k).2)), some (.int (nI (fr + k))), none, none, none]) (hf := fun k => uF h (b + 11) (rsF (hI h (c + 9)) (hI h (b + 10)) fr (hI h (b + 11)) k).1) n (fun _ => True) (fun k hk _ ih => ?_) (fun _ => ?_) 0 (Nat.zero_le _) trivial) (by rw [h0]; rfl) (by exact uF_self.symm)
  · have hT := rsF_le (cd := hI h (c + 9)) (vals := hI h (b + 10)) (fr := fr) (S := hI h (b + 11)) k
    have es : rsF (hI h (c + 9)) (hI h (b + 10)) fr (hI h (b + 11)) (k + 1) = rs1 (hI h (c + 9) (fr + k)) (hI h (b + 10)) (rsF (hI h (c + 9)) (hI h (b + 10)) fr (hI h (b + 11)) k) := rfl
    rw [es] at ih
    generalize rsF (hI h (c + 9)) (hI h (b + 10)) fr (hI h (b + 11)) k = st at hT ih ⊢
    obtain ⟨S, T⟩ := st
    dsimp only at hT ih ⊢
    have hS : St (uF h (b + 11) S) := hS
    have e1 : hI (uF h (b + 11) S) r 1 = nI (fr + n) := by rw [hI_uF_ne x1]; exact h1
    have e2 : ∀ j, hI (uF h (b + 11) S) (c + 9) j = hI h (c + 9) j := fun j => hI_uF_ne x2
    have e3 : ∀ j, hI (uF h (b + 11) S) (b + 10) j = hI h (b + 10) j := fun j => hI_uF_ne x3
    have e4 : ∀ j, hI (uF h (b + 11) S) (b + 11) j = S j := fun j => by rw [hI_uF_eq]
    have t1 : (nI T < 1) ↔ ¬ 1 ≤ T := by rw [show (1 : Int32) = nI 1 from rfl, nI_ltI (by omega) (by omega)]; omega
    have t2 : (nI T < 2) ↔ ¬ 2 ≤ T := by rw [show (2 : Int32) = nI 2 from rfl, nI_ltI (by omega) (by omega)]; omega
    have t3 : ((64 : Int32) ≤ nI T) ↔ ¬ T < 64 := by rw [show (64 : Int32) = nI 64 from rfl, nI_leI (by omega) (by omega)]; omega
    have a1 : 1 ≤ T → nI T - 1 = nI (T - 1) := fun q => by rw [show (1 : Int32) = nI 1 from rfl, pk_sub q]
    have a2 : 2 ≤ T → nI T + -1 = nI (T - 1) := fun q => by obtain ⟨m, rfl⟩ : ∃ m, T = m + 1 := ⟨T - 1, by omega⟩; rw [pk_m1]; rfl
    have a3 : 2 ≤ T → nI (T - 1) - 1 = nI (T - 2) := fun q => by rw [show (1 : Int32) = nI 1 from rfl, pk_sub (by omega)]; rfl
    have e5 : (nI (T - 1)).toNatClampNeg = T - 1 := cl_nI (by omega)
    have e6 : (nI (T - 2)).toNatClampNeg = T - 2 := cl_nI (by omega)
    have e7 : (nI T).toNatClampNeg = T := cl_nI (by omega)
    have e8 : nI (fr + k) + 1 = nI (fr + (k + 1)) := by rw [nI_1]; rfl
    have e9 : nI T + 1 = nI (T + 1) := nI_1 T
    refine go_iload dX4_result_9 rfl ?_
    refine go_aloadn dX4_result_11 rfl ?_
    refine sg_getI dX4_result_12 fX4_7 rfl (ru_L hr) hS ?_
    refine go_icmp_ge (tgt := 166) dX4_result_15 (by decide) (fun c15 => ?_) (fun c15 => ?_)
    · exact absurd (e1 ▸ c15) (nI_ge (by omega) (by omega))
    · refine go_iload dX4_result_18 rfl ?_
      refine go_aloadn dX4_result_20 rfl ?_
      refine sg_alen (v := 700) dX4_result_21 (ct_12 hc) hS rfl ?_
      refine go_icmp_ge (tgt := 166) dX4_result_22 (by decide) (fun c22 => ?_) (fun c22 => ?_)
      · exact absurd c22 (by rw [show (700 : Int32) = nI 700 from rfl]; exact nI_ge (by omega) (by omega))
      · refine go_aloadn dX4_result_25 rfl ?_
        refine go_iload dX4_result_26 rfl ?_
        refine sg_iald dX4_result_28 (ct_12 hc) hS (vp_in_nI (by omega) (by decide)) ?_
        rw [e2, cl_nI (by omega)]
        refine go_ist6 dX4_result_29 rfl ?_
        refine go_iload dX4_result_31 rfl ?_
        refine go_sipush (v := 10000) dX4_result_33 rfl ?_
        refine go_isub dX4_result_36 ?_
        refine go_ist7 dX4_result_37 rfl ?_
        refine go_iload dX4_result_39 rfl ?_
        refine go_sipush (v := 20000) dX4_result_41 rfl ?_
        refine go_isub dX4_result_44 ?_
        refine go_ist8 dX4_result_45 rfl ?_
        refine go_iload dX4_result_47 rfl ?_
        refine go_iconst (v := 3) dX4_result_49 rfl ?_
        refine go_icmp_ne (tgt := 82) dX4_result_50 (by decide) (fun c50 => ?_) (fun c50 => ?_)
        · refine go_iload dX4_result_82 rfl ?_
          refine go_if_lt (tgt := 120) dX4_result_84 (by decide) (fun c84 => ?_) (fun c84 => ?_)
          · refine go_iload dX4_result_120 rfl ?_
            refine go_if_ge (tgt := 160) dX4_result_122 (by decide) (fun c122 => ?_) (fun c122 => ?_)
            · refine go_iinc5 (c1 := 1) dX4_result_160 rfl rfl ?_
              refine go_goto (tgt := 9) dX4_result_163 (by decide) ?_
              exact go_back (ih trivial) (by rw [rs1_D (by rintro ⟨z1, z2⟩; first | exact c50 z1 | exact (t1.mp c56) z2) c122 (by first | exact t2.mp c90 | exact absurd c84 (Int32.not_lt.mpr c122))]; simp [lsub, e8]) (by rw [rs1_D (by rintro ⟨z1, z2⟩; first | exact c50 z1 | exact (t1.mp c56) z2) c122 (by first | exact t2.mp c90 | exact absurd c84 (Int32.not_lt.mpr c122))])
            · refine go_iload dX4_result_125 rfl ?_
              refine go_aloadn dX4_result_127 rfl ?_
              refine sg_alen (v := 64) dX4_result_128 (tw_13 hb) hS rfl ?_
              refine go_icmp_ge (tgt := 160) dX4_result_129 (by decide) (fun c129 => ?_) (fun c129 => ?_)
              · refine go_iinc5 (c1 := 1) dX4_result_160 rfl rfl ?_
                refine go_goto (tgt := 9) dX4_result_163 (by decide) ?_
                exact go_back (ih trivial) (by rw [rs1_E (Int32.not_le.mp c122) (t3.mp c129)]; simp [lsub, e8]) (by rw [rs1_E (Int32.not_le.mp c122) (t3.mp c129)])
              · have p3 : T < 64 := by have := mt t3.mpr c129; omega
                refine go_aloadn dX4_result_132 rfl ?_
                refine go_iload dX4_result_133 rfl ?_
                refine go_iload dX4_result_135 rfl ?_
                refine go_if_lt (tgt := 154) dX4_result_137 (by decide) (fun c137 => ?_) (fun c137 => ?_)
                · refine go_iload dX4_result_154 rfl ?_
                  refine sg_iast dX4_result_156 (tw_13 hb) hS (vp_in_nI (by omega) (by decide)) ?_
                  refine go_iinc4 (c1 := 1) dX4_result_157 rfl rfl ?_
                  refine go_iinc5 (c1 := 1) dX4_result_160 rfl rfl ?_
                  refine go_goto (tgt := 9) dX4_result_163 (by decide) ?_
                  exact go_back (ih trivial) (by rw [rs1_C (Int32.not_le.mp c122) p3]; simp [lsub, e8, e9]) (by rw [rs1_C (Int32.not_le.mp c122) p3, uI_uF, e7]; first | (rw [if_pos ⟨Int32.not_lt.mp c137, Int32.not_le.mp c144⟩]; done) | (rw [if_neg (fun q => absurd q.2 (Int32.not_lt.mpr c144))]; done) | rw [if_neg (fun q => absurd c137 (Int32.not_lt.mpr q.1))])
                · refine go_iload dX4_result_140 rfl ?_
                  refine go_aloadn dX4_result_142 rfl ?_
                  refine sg_alen (v := 9) dX4_result_143 (tw_12 hb) hS rfl ?_
                  refine go_icmp_ge (tgt := 154) dX4_result_144 (by decide) (fun c144 => ?_) (fun c144 => ?_)
                  · refine go_iload dX4_result_154 rfl ?_
                    refine sg_iast dX4_result_156 (tw_13 hb) hS (vp_in_nI (by omega) (by decide)) ?_
                    refine go_iinc4 (c1 := 1) dX4_result_157 rfl rfl ?_
                    refine go_iinc5 (c1 := 1) dX4_result_160 rfl rfl ?_
                    refine go_goto (tgt := 9) dX4_result_163 (by decide) ?_
                    exact go_back (ih trivial) (by rw [rs1_C (Int32.not_le.mp c122) p3]; simp [lsub, e8, e9]) (by rw [rs1_C (Int32.not_le.mp c122) p3, uI_uF, e7]; first | (rw [if_pos ⟨Int32.not_lt.mp c137, Int32.not_le.mp c144⟩]; done) | (rw [if_neg (fun q => absurd q.2 (Int32.not_lt.mpr c144))]; done) | rw [if_neg (fun q => absurd c137 (Int32.not_lt.mpr q.1))])
                  · refine go_aloadn dX4_result_147 rfl ?_
                    refine go_iload dX4_result_148 rfl ?_
                    refine sg_iald dX4_result_150 (tw_12 hb) hS (vp_in_c (n := 9) (by decide) c137 c144) ?_
                    rw [e3]
                    refine go_goto (tgt := 156) dX4_result_151 (by decide) ?_
                    refine sg_iast dX4_result_156 (tw_13 hb) hS (vp_in_nI (by omega) (by decide)) ?_
                    refine go_iinc4 (c1 := 1) dX4_result_157 rfl rfl ?_
                    refine go_iinc5 (c1 := 1) dX4_result_160 rfl rfl ?_
                    refine go_goto (tgt := 9) dX4_result_163 (by decide) ?_
                    exact go_back (ih trivial) (by rw [rs1_C (Int32.not_le.mp c122) p3]; simp [lsub, e8, e9]) (by rw [rs1_C (Int32.not_le.mp c122) p3, uI_uF, e7]; first | (rw [if_pos ⟨Int32.not_lt.mp c137, Int32.not_le.mp c144⟩]; done) | (rw [if_neg (fun q => absurd q.2 (Int32.not_lt.mpr c144))]; done) | rw [if_neg (fun q => absurd c137 (Int32.not_lt.mpr q.1))])
          · refine go_iload dX4_result_87 rfl ?_
            refine go_iconst (v := 2) dX4_result_89 rfl ?_
            refine go_icmp_lt (tgt := 120) dX4_result_90 (by decide) (fun c90 => ?_) (fun c90 => ?_)
            · refine go_iload dX4_result_120 rfl ?_
              refine go_if_ge (tgt := 160) dX4_result_122 (by decide) (fun c122 => ?_) (fun c122 => ?_)
              · refine go_iinc5 (c1 := 1) dX4_result_160 rfl rfl ?_
                refine go_goto (tgt := 9) dX4_result_163 (by decide) ?_
                exact go_back (ih trivial) (by rw [rs1_D (by rintro ⟨z1, z2⟩; first | exact c50 z1 | exact (t1.mp c56) z2) c122 (by first | exact t2.mp c90 | exact absurd c84 (Int32.not_lt.mpr c122))]; simp [lsub, e8]) (by rw [rs1_D (by rintro ⟨z1, z2⟩; first | exact c50 z1 | exact (t1.mp c56) z2) c122 (by first | exact t2.mp c90 | exact absurd c84 (Int32.not_lt.mpr c122))])
              · refine go_iload dX4_result_125 rfl ?_
                refine go_aloadn dX4_result_127 rfl ?_
                refine sg_alen (v := 64) dX4_result_128 (tw_13 hb) hS rfl ?_
                refine go_icmp_ge (tgt := 160) dX4_result_129 (by decide) (fun c129 => ?_) (fun c129 => ?_)
                · refine go_iinc5 (c1 := 1) dX4_result_160 rfl rfl ?_
                  refine go_goto (tgt := 9) dX4_result_163 (by decide) ?_
                  exact go_back (ih trivial) (by rw [rs1_E (Int32.not_le.mp c122) (t3.mp c129)]; simp [lsub, e8]) (by rw [rs1_E (Int32.not_le.mp c122) (t3.mp c129)])
                · have p3 : T < 64 := by have := mt t3.mpr c129; omega
                  refine go_aloadn dX4_result_132 rfl ?_
                  refine go_iload dX4_result_133 rfl ?_
                  refine go_iload dX4_result_135 rfl ?_
                  refine go_if_lt (tgt := 154) dX4_result_137 (by decide) (fun c137 => ?_) (fun c137 => ?_)
                  · refine go_iload dX4_result_154 rfl ?_
                    refine sg_iast dX4_result_156 (tw_13 hb) hS (vp_in_nI (by omega) (by decide)) ?_
                    refine go_iinc4 (c1 := 1) dX4_result_157 rfl rfl ?_
                    refine go_iinc5 (c1 := 1) dX4_result_160 rfl rfl ?_
                    refine go_goto (tgt := 9) dX4_result_163 (by decide) ?_
                    exact go_back (ih trivial) (by rw [rs1_C (Int32.not_le.mp c122) p3]; simp [lsub, e8, e9]) (by rw [rs1_C (Int32.not_le.mp c122) p3, uI_uF, e7]; first | (rw [if_pos ⟨Int32.not_lt.mp c137, Int32.not_le.mp c144⟩]; done) | (rw [if_neg (fun q => absurd q.2 (Int32.not_lt.mpr c144))]; done) | rw [if_neg (fun q => absurd c137 (Int32.not_lt.mpr q.1))])
                  · refine go_iload dX4_result_140 rfl ?_
                    refine go_aloadn dX4_result_142 rfl ?_
                    refine sg_alen (v := 9) dX4_result_143 (tw_12 hb) hS rfl ?_
                    refine go_icmp_ge (tgt := 154) dX4_result_144 (by decide) (fun c144 => ?_) (fun c144 => ?_)
                    · refine go_iload dX4_result_154 rfl ?_
                      refine sg_iast dX4_result_156 (tw_13 hb) hS (vp_in_nI (by omega) (by decide)) ?_
                      refine go_iinc4 (c1 := 1) dX4_result_157 rfl rfl ?_
                      refine go_iinc5 (c1 := 1) dX4_result_160 rfl rfl ?_
                      refine go_goto (tgt := 9) dX4_result_163 (by decide) ?_
                      exact go_back (ih trivial) (by rw [rs1_C (Int32.not_le.mp c122) p3]; simp [lsub, e8, e9]) (by rw [rs1_C (Int32.not_le.mp c122) p3, uI_uF, e7]; first | (rw [if_pos ⟨Int32.not_lt.mp c137, Int32.not_le.mp c144⟩]; done) | (rw [if_neg (fun q => absurd q.2 (Int32.not_lt.mpr c144))]; done) | rw [if_neg (fun q => absurd c137 (Int32.not_lt.mpr q.1))])
                    · refine go_aloadn dX4_result_147 rfl ?_
                      refine go_iload dX4_result_148 rfl ?_
                      refine sg_iald dX4_result_150 (tw_12 hb) hS (vp_in_c (n := 9) (by decide) c137 c144) ?_
                      rw [e3]
                      refine go_goto (tgt := 156) dX4_result_151 (by decide) ?_
                      refine sg_iast dX4_result_156 (tw_13 hb) hS (vp_in_nI (by omega) (by decide)) ?_
                      refine go_iinc4 (c1 := 1) dX4_result_157 rfl rfl ?_
                      refine go_iinc5 (c1 := 1) dX4_result_160 rfl rfl ?_
                      refine go_goto (tgt := 9) dX4_result_163 (by decide) ?_
                      exact go_back (ih trivial) (by rw [rs1_C (Int32.not_le.mp c122) p3]; simp [lsub, e8, e9]) (by rw [rs1_C (Int32.not_le.mp c122) p3, uI_uF, e7]; first | (rw [if_pos ⟨Int32.not_lt.mp c137, Int32.not_le.mp c144⟩]; done) | (rw [if_neg (fun q => absurd q.2 (Int32.not_lt.mpr c144))]; done) | rw [if_neg (fun q => absurd c137 (Int32.not_lt.mpr q.1))])
            · have p2 : 2 ≤ T := by have := mt t2.mpr c90; omega
              refine go_iinc4 (c1 := -1) dX4_result_93 rfl rfl ?_
              rw [a2 p2]
              refine go_aloadn dX4_result_96 rfl ?_
              refine go_iload dX4_result_97 rfl ?_
              refine go_iconst (v := 1) dX4_result_99 rfl ?_
              refine go_isub dX4_result_100 ?_
              refine go_iload dX4_result_101 rfl ?_
              refine go_aloadn dX4_result_103 rfl ?_
              refine go_iload dX4_result_104 rfl ?_
              refine go_iconst (v := 1) dX4_result_106 rfl ?_
              refine go_isub dX4_result_107 ?_
              refine sg_iald dX4_result_108 (tw_13 hb) hS (by rw [a3 p2]; exact vp_in_nI (by omega) (by decide)) ?_
              rw [a3 p2, e4, cl_nI (by omega)]
              refine go_aloadn dX4_result_109 rfl ?_
              refine go_iload dX4_result_110 rfl ?_
              refine sg_iald dX4_result_112 (tw_13 hb) hS (vp_in_nI (by omega) (by decide)) ?_
              rw [e4, cl_nI (by omega)]
              refine sg_cSi (M' := mX4_two) ([.int _, .int _, .int _]) dX4_result_113 lX4_16 sX4_two hS (r_two) rfl (Nat.le_of_ble_eq_true rfl) (Nat.zero_le _) (Nat.zero_le _) ?_
              refine sg_iast dX4_result_116 (tw_13 hb) hS (vp_in_nI (by omega) (by decide)) ?_
              refine go_goto (tgt := 160) dX4_result_117 (by decide) ?_
              refine go_iinc5 (c1 := 1) dX4_result_160 rfl rfl ?_
              refine go_goto (tgt := 9) dX4_result_163 (by decide) ?_
              exact go_back (ih trivial) (by rw [rs1_B (by rintro ⟨z1, z2⟩; first | exact c50 z1 | exact (t1.mp c56) z2) (Int32.not_lt.mp c84) p2]; simp [lsub, e8]) (by rw [rs1_B (by rintro ⟨z1, z2⟩; first | exact c50 z1 | exact (t1.mp c56) z2) (Int32.not_lt.mp c84) p2, uI_uF, e6])
        · refine go_iload dX4_result_53 rfl ?_
          refine go_iconst (v := 1) dX4_result_55 rfl ?_
          refine go_icmp_lt (tgt := 82) dX4_result_56 (by decide) (fun c56 => ?_) (fun c56 => ?_)
          · refine go_iload dX4_result_82 rfl ?_
            refine go_if_lt (tgt := 120) dX4_result_84 (by decide) (fun c84 => ?_) (fun c84 => ?_)
            · refine go_iload dX4_result_120 rfl ?_
              refine go_if_ge (tgt := 160) dX4_result_122 (by decide) (fun c122 => ?_) (fun c122 => ?_)
              · refine go_iinc5 (c1 := 1) dX4_result_160 rfl rfl ?_
                refine go_goto (tgt := 9) dX4_result_163 (by decide) ?_
                exact go_back (ih trivial) (by rw [rs1_D (by rintro ⟨z1, z2⟩; first | exact c50 z1 | exact (t1.mp c56) z2) c122 (by first | exact t2.mp c90 | exact absurd c84 (Int32.not_lt.mpr c122))]; simp [lsub, e8]) (by rw [rs1_D (by rintro ⟨z1, z2⟩; first | exact c50 z1 | exact (t1.mp c56) z2) c122 (by first | exact t2.mp c90 | exact absurd c84 (Int32.not_lt.mpr c122))])
              · refine go_iload dX4_result_125 rfl ?_
                refine go_aloadn dX4_result_127 rfl ?_
                refine sg_alen (v := 64) dX4_result_128 (tw_13 hb) hS rfl ?_
                refine go_icmp_ge (tgt := 160) dX4_result_129 (by decide) (fun c129 => ?_) (fun c129 => ?_)
                · refine go_iinc5 (c1 := 1) dX4_result_160 rfl rfl ?_
                  refine go_goto (tgt := 9) dX4_result_163 (by decide) ?_
                  exact go_back (ih trivial) (by rw [rs1_E (Int32.not_le.mp c122) (t3.mp c129)]; simp [lsub, e8]) (by rw [rs1_E (Int32.not_le.mp c122) (t3.mp c129)])
                · have p3 : T < 64 := by have := mt t3.mpr c129; omega
                  refine go_aloadn dX4_result_132 rfl ?_
                  refine go_iload dX4_result_133 rfl ?_
                  refine go_iload dX4_result_135 rfl ?_
                  refine go_if_lt (tgt := 154) dX4_result_137 (by decide) (fun c137 => ?_) (fun c137 => ?_)
                  · refine go_iload dX4_result_154 rfl ?_
                    refine sg_iast dX4_result_156 (tw_13 hb) hS (vp_in_nI (by omega) (by decide)) ?_
                    refine go_iinc4 (c1 := 1) dX4_result_157 rfl rfl ?_
                    refine go_iinc5 (c1 := 1) dX4_result_160 rfl rfl ?_
                    refine go_goto (tgt := 9) dX4_result_163 (by decide) ?_
                    exact go_back (ih trivial) (by rw [rs1_C (Int32.not_le.mp c122) p3]; simp [lsub, e8, e9]) (by rw [rs1_C (Int32.not_le.mp c122) p3, uI_uF, e7]; first | (rw [if_pos ⟨Int32.not_lt.mp c137, Int32.not_le.mp c144⟩]; done) | (rw [if_neg (fun q => absurd q.2 (Int32.not_lt.mpr c144))]; done) | rw [if_neg (fun q => absurd c137 (Int32.not_lt.mpr q.1))])
                  · refine go_iload dX4_result_140 rfl ?_
                    refine go_aloadn dX4_result_142 rfl ?_
                    refine sg_alen (v := 9) dX4_result_143 (tw_12 hb) hS rfl ?_
                    refine go_icmp_ge (tgt := 154) dX4_result_144 (by decide) (fun c144 => ?_) (fun c144 => ?_)
                    · refine go_iload dX4_result_154 rfl ?_
                      refine sg_iast dX4_result_156 (tw_13 hb) hS (vp_in_nI (by omega) (by decide)) ?_
                      refine go_iinc4 (c1 := 1) dX4_result_157 rfl rfl ?_
                      refine go_iinc5 (c1 := 1) dX4_result_160 rfl rfl ?_
                      refine go_goto (tgt := 9) dX4_result_163 (by decide) ?_
                      exact go_back (ih trivial) (by rw [rs1_C (Int32.not_le.mp c122) p3]; simp [lsub, e8, e9]) (by rw [rs1_C (Int32.not_le.mp c122) p3, uI_uF, e7]; first | (rw [if_pos ⟨Int32.not_lt.mp c137, Int32.not_le.mp c144⟩]; done) | (rw [if_neg (fun q => absurd q.2 (Int32.not_lt.mpr c144))]; done) | rw [if_neg (fun q => absurd c137 (Int32.not_lt.mpr q.1))])
                    · refine go_aloadn dX4_result_147 rfl ?_
                      refine go_iload dX4_result_148 rfl ?_
                      refine sg_iald dX4_result_150 (tw_12 hb) hS (vp_in_c (n := 9) (by decide) c137 c144) ?_
                      rw [e3]
                      refine go_goto (tgt := 156) dX4_result_151 (by decide) ?_
                      refine sg_iast dX4_result_156 (tw_13 hb) hS (vp_in_nI (by omega) (by decide)) ?_
                      refine go_iinc4 (c1 := 1) dX4_result_157 rfl rfl ?_
                      refine go_iinc5 (c1 := 1) dX4_result_160 rfl rfl ?_
                      refine go_goto (tgt := 9) dX4_result_163 (by decide) ?_
                      exact go_back (ih trivial) (by rw [rs1_C (Int32.not_le.mp c122) p3]; simp [lsub, e8, e9]) (by rw [rs1_C (Int32.not_le.mp c122) p3, uI_uF, e7]; first | (rw [if_pos ⟨Int32.not_lt.mp c137, Int32.not_le.mp c144⟩]; done) | (rw [if_neg (fun q => absurd q.2 (Int32.not_lt.mpr c144))]; done) | rw [if_neg (fun q => absurd c137 (Int32.not_lt.mpr q.1))])
            · refine go_iload dX4_result_87 rfl ?_
              refine go_iconst (v := 2) dX4_result_89 rfl ?_
              refine go_icmp_lt (tgt := 120) dX4_result_90 (by decide) (fun c90 => ?_) (fun c90 => ?_)
              · refine go_iload dX4_result_120 rfl ?_
                refine go_if_ge (tgt := 160) dX4_result_122 (by decide) (fun c122 => ?_) (fun c122 => ?_)
                · refine go_iinc5 (c1 := 1) dX4_result_160 rfl rfl ?_
                  refine go_goto (tgt := 9) dX4_result_163 (by decide) ?_
                  exact go_back (ih trivial) (by rw [rs1_D (by rintro ⟨z1, z2⟩; first | exact c50 z1 | exact (t1.mp c56) z2) c122 (by first | exact t2.mp c90 | exact absurd c84 (Int32.not_lt.mpr c122))]; simp [lsub, e8]) (by rw [rs1_D (by rintro ⟨z1, z2⟩; first | exact c50 z1 | exact (t1.mp c56) z2) c122 (by first | exact t2.mp c90 | exact absurd c84 (Int32.not_lt.mpr c122))])
                · refine go_iload dX4_result_125 rfl ?_
                  refine go_aloadn dX4_result_127 rfl ?_
                  refine sg_alen (v := 64) dX4_result_128 (tw_13 hb) hS rfl ?_
                  refine go_icmp_ge (tgt := 160) dX4_result_129 (by decide) (fun c129 => ?_) (fun c129 => ?_)
                  · refine go_iinc5 (c1 := 1) dX4_result_160 rfl rfl ?_
                    refine go_goto (tgt := 9) dX4_result_163 (by decide) ?_
                    exact go_back (ih trivial) (by rw [rs1_E (Int32.not_le.mp c122) (t3.mp c129)]; simp [lsub, e8]) (by rw [rs1_E (Int32.not_le.mp c122) (t3.mp c129)])
                  · have p3 : T < 64 := by have := mt t3.mpr c129; omega
                    refine go_aloadn dX4_result_132 rfl ?_
                    refine go_iload dX4_result_133 rfl ?_
                    refine go_iload dX4_result_135 rfl ?_
                    refine go_if_lt (tgt := 154) dX4_result_137 (by decide) (fun c137 => ?_) (fun c137 => ?_)
                    · refine go_iload dX4_result_154 rfl ?_
                      refine sg_iast dX4_result_156 (tw_13 hb) hS (vp_in_nI (by omega) (by decide)) ?_
                      refine go_iinc4 (c1 := 1) dX4_result_157 rfl rfl ?_
                      refine go_iinc5 (c1 := 1) dX4_result_160 rfl rfl ?_
                      refine go_goto (tgt := 9) dX4_result_163 (by decide) ?_
                      exact go_back (ih trivial) (by rw [rs1_C (Int32.not_le.mp c122) p3]; simp [lsub, e8, e9]) (by rw [rs1_C (Int32.not_le.mp c122) p3, uI_uF, e7]; first | (rw [if_pos ⟨Int32.not_lt.mp c137, Int32.not_le.mp c144⟩]; done) | (rw [if_neg (fun q => absurd q.2 (Int32.not_lt.mpr c144))]; done) | rw [if_neg (fun q => absurd c137 (Int32.not_lt.mpr q.1))])
                    · refine go_iload dX4_result_140 rfl ?_
                      refine go_aloadn dX4_result_142 rfl ?_
                      refine sg_alen (v := 9) dX4_result_143 (tw_12 hb) hS rfl ?_
                      refine go_icmp_ge (tgt := 154) dX4_result_144 (by decide) (fun c144 => ?_) (fun c144 => ?_)
                      · refine go_iload dX4_result_154 rfl ?_
                        refine sg_iast dX4_result_156 (tw_13 hb) hS (vp_in_nI (by omega) (by decide)) ?_
                        refine go_iinc4 (c1 := 1) dX4_result_157 rfl rfl ?_
                        refine go_iinc5 (c1 := 1) dX4_result_160 rfl rfl ?_
                        refine go_goto (tgt := 9) dX4_result_163 (by decide) ?_
                        exact go_back (ih trivial) (by rw [rs1_C (Int32.not_le.mp c122) p3]; simp [lsub, e8, e9]) (by rw [rs1_C (Int32.not_le.mp c122) p3, uI_uF, e7]; first | (rw [if_pos ⟨Int32.not_lt.mp c137, Int32.not_le.mp c144⟩]; done) | (rw [if_neg (fun q => absurd q.2 (Int32.not_lt.mpr c144))]; done) | rw [if_neg (fun q => absurd c137 (Int32.not_lt.mpr q.1))])
                      · refine go_aloadn dX4_result_147 rfl ?_
                        refine go_iload dX4_result_148 rfl ?_
                        refine sg_iald dX4_result_150 (tw_12 hb) hS (vp_in_c (n := 9) (by decide) c137 c144) ?_
                        rw [e3]
                        refine go_goto (tgt := 156) dX4_result_151 (by decide) ?_
                        refine sg_iast dX4_result_156 (tw_13 hb) hS (vp_in_nI (by omega) (by decide)) ?_
                        refine go_iinc4 (c1 := 1) dX4_result_157 rfl rfl ?_
                        refine go_iinc5 (c1 := 1) dX4_result_160 rfl rfl ?_
                        refine go_goto (tgt := 9) dX4_result_163 (by decide) ?_
                        exact go_back (ih trivial) (by rw [rs1_C (Int32.not_le.mp c122) p3]; simp [lsub, e8, e9]) (by rw [rs1_C (Int32.not_le.mp c122) p3, uI_uF, e7]; first | (rw [if_pos ⟨Int32.not_lt.mp c137, Int32.not_le.mp c144⟩]; done) | (rw [if_neg (fun q => absurd q.2 (Int32.not_lt.mpr c144))]; done) | rw [if_neg (fun q => absurd c137 (Int32.not_lt.mpr q.1))])
              · have p2 : 2 ≤ T := by have := mt t2.mpr c90; omega
                refine go_iinc4 (c1 := -1) dX4_result_93 rfl rfl ?_
                rw [a2 p2]
                refine go_aloadn dX4_result_96 rfl ?_
                refine go_iload dX4_result_97 rfl ?_
                refine go_iconst (v := 1) dX4_result_99 rfl ?_
                refine go_isub dX4_result_100 ?_
                refine go_iload dX4_result_101 rfl ?_
                refine go_aloadn dX4_result_103 rfl ?_
                refine go_iload dX4_result_104 rfl ?_
                refine go_iconst (v := 1) dX4_result_106 rfl ?_
                refine go_isub dX4_result_107 ?_
                refine sg_iald dX4_result_108 (tw_13 hb) hS (by rw [a3 p2]; exact vp_in_nI (by omega) (by decide)) ?_
                rw [a3 p2, e4, cl_nI (by omega)]
                refine go_aloadn dX4_result_109 rfl ?_
                refine go_iload dX4_result_110 rfl ?_
                refine sg_iald dX4_result_112 (tw_13 hb) hS (vp_in_nI (by omega) (by decide)) ?_
                rw [e4, cl_nI (by omega)]
                refine sg_cSi (M' := mX4_two) ([.int _, .int _, .int _]) dX4_result_113 lX4_16 sX4_two hS (r_two) rfl (Nat.le_of_ble_eq_true rfl) (Nat.zero_le _) (Nat.zero_le _) ?_
                refine sg_iast dX4_result_116 (tw_13 hb) hS (vp_in_nI (by omega) (by decide)) ?_
                refine go_goto (tgt := 160) dX4_result_117 (by decide) ?_
                refine go_iinc5 (c1 := 1) dX4_result_160 rfl rfl ?_
                refine go_goto (tgt := 9) dX4_result_163 (by decide) ?_
                exact go_back (ih trivial) (by rw [rs1_B (by rintro ⟨z1, z2⟩; first | exact c50 z1 | exact (t1.mp c56) z2) (Int32.not_lt.mp c84) p2]; simp [lsub, e8]) (by rw [rs1_B (by rintro ⟨z1, z2⟩; first | exact c50 z1 | exact (t1.mp c56) z2) (Int32.not_lt.mp c84) p2, uI_uF, e6])
          · have p1 : 1 ≤ T := by have := mt t1.mpr c56; omega
            refine go_aloadn dX4_result_59 rfl ?_
            refine go_iload dX4_result_60 rfl ?_
            refine go_iconst (v := 1) dX4_result_62 rfl ?_
            refine go_isub dX4_result_63 ?_
            refine go_aloadn dX4_result_64 rfl ?_
            refine go_iload dX4_result_65 rfl ?_
            refine go_iconst (v := 1) dX4_result_67 rfl ?_
            refine go_isub dX4_result_68 ?_
            refine sg_iald dX4_result_69 (tw_13 hb) hS (by rw [a1 p1]; exact vp_in_nI (by omega) (by decide)) ?_
            rw [a1 p1, e4, cl_nI (by omega)]
            refine go_if_ne (tgt := 77) dX4_result_70 (by decide) (fun c70 => ?_) (fun c70 => ?_)
            · refine go_iconst (v := 0) dX4_result_77 rfl ?_
              refine sg_iast dX4_result_78 (tw_13 hb) hS (vp_in_nI (by omega) (by decide)) ?_
              refine go_goto (tgt := 160) dX4_result_79 (by decide) ?_
              refine go_iinc5 (c1 := 1) dX4_result_160 rfl rfl ?_
              refine go_goto (tgt := 9) dX4_result_163 (by decide) ?_
              exact go_back (ih trivial) (by rw [rs1_A c50 p1]; simp [lsub, e8]) (by rw [rs1_A c50 p1, uI_uF, e5]; simp [c70])
            · refine go_iconst (v := 1) dX4_result_73 rfl ?_
              refine go_goto (tgt := 78) dX4_result_74 (by decide) ?_
              refine sg_iast dX4_result_78 (tw_13 hb) hS (vp_in_nI (by omega) (by decide)) ?_
              refine go_goto (tgt := 160) dX4_result_79 (by decide) ?_
              refine go_iinc5 (c1 := 1) dX4_result_160 rfl rfl ?_
              refine go_goto (tgt := 9) dX4_result_163 (by decide) ?_
              exact go_back (ih trivial) (by rw [rs1_A c50 p1]; simp [lsub, e8]) (by rw [rs1_A c50 p1, uI_uF, e5]; simp [c70])
  · have hT := rsF_le (cd := hI h (c + 9)) (vals := hI h (b + 10)) (fr := fr) (S := hI h (b + 11)) n
    unfold ruF
    generalize rsF (hI h (c + 9)) (hI h (b + 10)) fr (hI h (b + 11)) n = st at hT ⊢
    obtain ⟨S, T⟩ := st
    dsimp only at hT ⊢
    have hS : St (uF h (b + 11) S) := hS
    have e1 : hI (uF h (b + 11) S) r 1 = nI (fr + n) := by rw [hI_uF_ne x1]; exact h1
    have e4 : ∀ j, hI (uF h (b + 11) S) (b + 11) j = S j := fun j => by rw [hI_uF_eq]
    have t1 : (nI T ≤ 0) ↔ ¬ 0 < T := by rw [show (0 : Int32) = nI 0 from rfl, nI_leI (by omega) (by omega)]; omega
    refine go_iload dX4_result_9 rfl ?_
    refine go_aloadn dX4_result_11 rfl ?_
    refine sg_getI dX4_result_12 fX4_7 rfl (ru_L hr) hS ?_
    refine go_icmp_ge (tgt := 166) dX4_result_15 (by decide) (fun c15 => ?_) (fun c15 => ?_)
    · refine go_iload dX4_result_166 rfl ?_
      refine go_if_le (tgt := 177) dX4_result_168 (by decide) (fun c168 => ?_) (fun c168 => ?_)
      · refine go_iconst (v := 0) dX4_result_177 rfl ?_
        refine go_ireturn dX4_result_178 rfl rfl (Nat.zero_le _) (Nat.zero_le _) ?_
        exact ⟨by rw [t1] at c168; first | (rw [if_neg c168]; done) | (rw [if_pos (by omega), e4]; rfl), rfl⟩
      · refine go_aloadn dX4_result_171 rfl ?_
        refine go_iconst (v := 0) dX4_result_172 rfl ?_
        refine sg_iald dX4_result_173 (tw_13 hb) hS (vp_in_nI (n := 0) (by decide) (by decide)) ?_
        refine go_goto (tgt := 178) dX4_result_174 (by decide) ?_
        refine go_ireturn dX4_result_178 rfl rfl (Nat.zero_le _) (Nat.zero_le _) ?_
        exact ⟨by rw [t1] at c168; first | (rw [if_neg c168]; done) | (rw [if_pos (by omega), e4]; rfl), rfl⟩
    · exact absurd (by rw [e1]; exact nI_le (Nat.le_refl _) (by omega)) c15
