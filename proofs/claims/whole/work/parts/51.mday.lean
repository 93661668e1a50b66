/-! the model: rules, places, who looks -/
def mwF (op a b : Int32) : Int32 :=
  if op = 4 then (if a = 0 ∨ b = 0 then 0 else 1) else if op = 5 then (if a = 0 ∧ b = 0 then 0 else 1) else if op = 6 then (if a < b then 1 else 0) else if op = 7 then (if a = b then 1 else 0)
  else if op = 8 then a + b else if op = 9 then a - b else if op = 10 then a * b else if b = 0 then 0 else a / b
theorem q_works {l : Launch} {d : Nat} {h : Hp} {op a b : Int32} : Ex l (d + 1) mX10_works [.int op, .int a, .int b] h (some (.int (mwF op a b))) h := by
  refine run_lv [some (.int op), some (.int a), some (.int b)] (go := ?_)
  refine go_iloadn dX10_works_0 rfl ?_
  refine go_tab 7 4 106 [44, 58, 72, 83, 94, 98, 102] dX10_works_1 rfl rfl rfl rfl rfl (by decide) (fun c1 => ?_) (fun i hi c1 => ?_)
  · refine go_iloadn dX10_works_106 rfl ?_
    refine go_if_ne (tgt := 114) dX10_works_107 (by decide) (fun c107 => ?_) (fun c107 => ?_)
    · refine go_iloadn dX10_works_114 rfl ?_
      refine go_iloadn dX10_works_115 rfl ?_
      refine go_idiv dX10_works_116 (c107) ?_
      refine go_ireturn dX10_works_117 rfl rfl (Nat.zero_le _) (Nat.zero_le _) ?_
      exact ⟨by first | (subst e; simp [*, mwF, nI] ; done) | (have q := fun i (hi : i < 7) => c1 i hi; have q1 := q 0 (by decide); have q2 := q 1 (by decide); have q4 := q 2 (by decide); have q5 := q 3 (by decide); have q6 := q 4 (by decide); have q7 := q 5 (by decide); have q8 := q 6 (by decide); simp_all [mwF, nI]), rfl⟩
    · refine go_iconst (v := 0) dX10_works_110 rfl ?_
      refine go_goto (tgt := 117) dX10_works_111 (by decide) ?_
      refine go_ireturn dX10_works_117 rfl rfl (Nat.zero_le _) (Nat.zero_le _) ?_
      exact ⟨by first | (subst e; simp [*, mwF, nI] ; done) | (have q := fun i (hi : i < 7) => c1 i hi; have q1 := q 0 (by decide); have q2 := q 1 (by decide); have q4 := q 2 (by decide); have q5 := q 3 (by decide); have q6 := q 4 (by decide); have q7 := q 5 (by decide); have q8 := q 6 (by decide); simp_all [mwF, nI]), rfl⟩
  · match i, hi, c1 with
    | 0, _, c1 =>
      have e : op = nI _ := c1
      refine go_iloadn dX10_works_44 rfl ?_
      refine go_if_eq (tgt := 56) dX10_works_45 (by decide) (fun c45 => ?_) (fun c45 => ?_)
      · refine go_iconst (v := 0) dX10_works_56 rfl ?_
        refine go_ireturn dX10_works_57 rfl rfl (Nat.zero_le _) (Nat.zero_le _) ?_
        exact ⟨by first | (subst e; simp [*, mwF, nI] ; done) | (have q := fun i (hi : i < 7) => c1 i hi; have q1 := q 0 (by decide); have q2 := q 1 (by decide); have q4 := q 2 (by decide); have q5 := q 3 (by decide); have q6 := q 4 (by decide); have q7 := q 5 (by decide); have q8 := q 6 (by decide); simp_all [mwF, nI]), rfl⟩
      · refine go_iloadn dX10_works_48 rfl ?_
        refine go_if_eq (tgt := 56) dX10_works_49 (by decide) (fun c49 => ?_) (fun c49 => ?_)
        · refine go_iconst (v := 0) dX10_works_56 rfl ?_
          refine go_ireturn dX10_works_57 rfl rfl (Nat.zero_le _) (Nat.zero_le _) ?_
          exact ⟨by first | (subst e; simp [*, mwF, nI] ; done) | (have q := fun i (hi : i < 7) => c1 i hi; have q1 := q 0 (by decide); have q2 := q 1 (by decide); have q4 := q 2 (by decide); have q5 := q 3 (by decide); have q6 := q 4 (by decide); have q7 := q 5 (by decide); have q8 := q 6 (by decide); simp_all [mwF, nI]), rfl⟩
        · refine go_iconst (v := 1) dX10_works_52 rfl ?_
          refine go_goto (tgt := 57) dX10_works_53 (by decide) ?_
          refine go_ireturn dX10_works_57 rfl rfl (Nat.zero_le _) (Nat.zero_le _) ?_
          exact ⟨by first | (subst e; simp [*, mwF, nI] ; done) | (have q := fun i (hi : i < 7) => c1 i hi; have q1 := q 0 (by decide); have q2 := q 1 (by decide); have q4 := q 2 (by decide); have q5 := q 3 (by decide); have q6 := q 4 (by decide); have q7 := q 5 (by decide); have q8 := q 6 (by decide); simp_all [mwF, nI]), rfl⟩
    | 1, _, c1 =>
      have e : op = nI _ := c1
      refine go_iloadn dX10_works_58 rfl ?_
      refine go_if_ne (tgt := 66) dX10_works_59 (by decide) (fun c59 => ?_) (fun c59 => ?_)
      · refine go_iconst (v := 1) dX10_works_66 rfl ?_
        refine go_goto (tgt := 71) dX10_works_67 (by decide) ?_
        refine go_ireturn dX10_works_71 rfl rfl (Nat.zero_le _) (Nat.zero_le _) ?_
        exact ⟨by first | (subst e; simp [*, mwF, nI] ; done) | (have q := fun i (hi : i < 7) => c1 i hi; have q1 := q 0 (by decide); have q2 := q 1 (by decide); have q4 := q 2 (by decide); have q5 := q 3 (by decide); have q6 := q 4 (by decide); have q7 := q 5 (by decide); have q8 := q 6 (by decide); simp_all [mwF, nI]), rfl⟩
      · refine go_iloadn dX10_works_62 rfl ?_
        refine go_if_eq (tgt := 70) dX10_works_63 (by decide) (fun c63 => ?_) (fun c63 => ?_)
        · refine go_iconst (v := 0) dX10_works_70 rfl ?_
          refine go_ireturn dX10_works_71 rfl rfl (Nat.zero_le _) (Nat.zero_le _) ?_
          exact ⟨by first | (subst e; simp [*, mwF, nI] ; done) | (have q := fun i (hi : i < 7) => c1 i hi; have q1 := q 0 (by decide); have q2 := q 1 (by decide); have q4 := q 2 (by decide); have q5 := q 3 (by decide); have q6 := q 4 (by decide); have q7 := q 5 (by decide); have q8 := q 6 (by decide); simp_all [mwF, nI]), rfl⟩
        · refine go_iconst (v := 1) dX10_works_66 rfl ?_
          refine go_goto (tgt := 71) dX10_works_67 (by decide) ?_
          refine go_ireturn dX10_works_71 rfl rfl (Nat.zero_le _) (Nat.zero_le _) ?_
          exact ⟨by first | (subst e; simp [*, mwF, nI] ; done) | (have q := fun i (hi : i < 7) => c1 i hi; have q1 := q 0 (by decide); have q2 := q 1 (by decide); have q4 := q 2 (by decide); have q5 := q 3 (by decide); have q6 := q 4 (by decide); have q7 := q 5 (by decide); have q8 := q 6 (by decide); simp_all [mwF, nI]), rfl⟩
    | 2, _, c1 =>
      have e : op = nI _ := c1
      refine go_iloadn dX10_works_72 rfl ?_
      refine go_iloadn dX10_works_73 rfl ?_
      refine go_icmp_ge (tgt := 81) dX10_works_74 (by decide) (fun c74 => ?_) (fun c74 => ?_)
      · refine go_iconst (v := 0) dX10_works_81 rfl ?_
        refine go_ireturn dX10_works_82 rfl rfl (Nat.zero_le _) (Nat.zero_le _) ?_
        exact ⟨by first | (subst e; simp [*, mwF, nI] ; done) | (have q := fun i (hi : i < 7) => c1 i hi; have q1 := q 0 (by decide); have q2 := q 1 (by decide); have q4 := q 2 (by decide); have q5 := q 3 (by decide); have q6 := q 4 (by decide); have q7 := q 5 (by decide); have q8 := q 6 (by decide); simp_all [mwF, nI]), rfl⟩
      · refine go_iconst (v := 1) dX10_works_77 rfl ?_
        refine go_goto (tgt := 82) dX10_works_78 (by decide) ?_
        refine go_ireturn dX10_works_82 rfl rfl (Nat.zero_le _) (Nat.zero_le _) ?_
        exact ⟨by first | (subst e; simp [*, mwF, nI] ; done) | (have q := fun i (hi : i < 7) => c1 i hi; have q1 := q 0 (by decide); have q2 := q 1 (by decide); have q4 := q 2 (by decide); have q5 := q 3 (by decide); have q6 := q 4 (by decide); have q7 := q 5 (by decide); have q8 := q 6 (by decide); simp_all [mwF, nI]), rfl⟩
    | 3, _, c1 =>
      have e : op = nI _ := c1
      refine go_iloadn dX10_works_83 rfl ?_
      refine go_iloadn dX10_works_84 rfl ?_
      refine go_icmp_ne (tgt := 92) dX10_works_85 (by decide) (fun c85 => ?_) (fun c85 => ?_)
      · refine go_iconst (v := 0) dX10_works_92 rfl ?_
        refine go_ireturn dX10_works_93 rfl rfl (Nat.zero_le _) (Nat.zero_le _) ?_
        exact ⟨by first | (subst e; simp [*, mwF, nI] ; done) | (have q := fun i (hi : i < 7) => c1 i hi; have q1 := q 0 (by decide); have q2 := q 1 (by decide); have q4 := q 2 (by decide); have q5 := q 3 (by decide); have q6 := q 4 (by decide); have q7 := q 5 (by decide); have q8 := q 6 (by decide); simp_all [mwF, nI]), rfl⟩
      · refine go_iconst (v := 1) dX10_works_88 rfl ?_
        refine go_goto (tgt := 93) dX10_works_89 (by decide) ?_
        refine go_ireturn dX10_works_93 rfl rfl (Nat.zero_le _) (Nat.zero_le _) ?_
        exact ⟨by first | (subst e; simp [*, mwF, nI] ; done) | (have q := fun i (hi : i < 7) => c1 i hi; have q1 := q 0 (by decide); have q2 := q 1 (by decide); have q4 := q 2 (by decide); have q5 := q 3 (by decide); have q6 := q 4 (by decide); have q7 := q 5 (by decide); have q8 := q 6 (by decide); simp_all [mwF, nI]), rfl⟩
    | 4, _, c1 =>
      have e : op = nI _ := c1
      refine go_iloadn dX10_works_94 rfl ?_
      refine go_iloadn dX10_works_95 rfl ?_
      refine go_iadd dX10_works_96 ?_
      refine go_ireturn dX10_works_97 rfl rfl (Nat.zero_le _) (Nat.zero_le _) ?_
      exact ⟨by first | (subst e; simp [*, mwF, nI] ; done) | (have q := fun i (hi : i < 7) => c1 i hi; have q1 := q 0 (by decide); have q2 := q 1 (by decide); have q4 := q 2 (by decide); have q5 := q 3 (by decide); have q6 := q 4 (by decide); have q7 := q 5 (by decide); have q8 := q 6 (by decide); simp_all [mwF, nI]), rfl⟩
    | 5, _, c1 =>
      have e : op = nI _ := c1
      refine go_iloadn dX10_works_98 rfl ?_
      refine go_iloadn dX10_works_99 rfl ?_
      refine go_isub dX10_works_100 ?_
      refine go_ireturn dX10_works_101 rfl rfl (Nat.zero_le _) (Nat.zero_le _) ?_
      exact ⟨by first | (subst e; simp [*, mwF, nI] ; done) | (have q := fun i (hi : i < 7) => c1 i hi; have q1 := q 0 (by decide); have q2 := q 1 (by decide); have q4 := q 2 (by decide); have q5 := q 3 (by decide); have q6 := q 4 (by decide); have q7 := q 5 (by decide); have q8 := q 6 (by decide); simp_all [mwF, nI]), rfl⟩
    | 6, _, c1 =>
      have e : op = nI _ := c1
      refine go_iloadn dX10_works_102 rfl ?_
      refine go_iloadn dX10_works_103 rfl ?_
      refine go_imul dX10_works_104 ?_
      refine go_ireturn dX10_works_105 rfl rfl (Nat.zero_le _) (Nat.zero_le _) ?_
      exact ⟨by first | (subst e; simp [*, mwF, nI] ; done) | (have q := fun i (hi : i < 7) => c1 i hi; have q1 := q 0 (by decide); have q2 := q 1 (by decide); have q4 := q 2 (by decide); have q5 := q 3 (by decide); have q6 := q 4 (by decide); have q7 := q 5 (by decide); have q8 := q 6 (by decide); simp_all [mwF, nI]), rfl⟩
    | (i + 7), hi, _ => exact absurd hi (by omega)
theorem mw_tw {o : Nat} {a b : Int32} (h1 : 1 ≤ o) (h3 : o ≠ 3) (h9 : o ≤ 9) : mwF (mactL.getD o 0) a b = twF (nI o) a b := by
  match o, h1, h3, h9 with
  | 1, _, _, _ => rfl
  | 2, _, _, _ => rfl
  | 4, _, _, _ => rfl
  | 5, _, _, _ => rfl
  | 6, _, _, _ => rfl
  | 7, _, _, _ => rfl
  | 8, _, _, _ => rfl
  | 9, _, _, _ => rfl
theorem mact_ne : ∀ o : Fin 10, 1 ≤ o.val → o.val ≠ 3 → ¬ mactL.getD o.val 0 = 0 ∧ ¬ mactL.getD o.val 0 = 1 ∧ ¬ mactL.getD o.val 0 = 2 ∧ ¬ mactL.getD o.val 0 = 3 := by decide
theorem mpF_le {p : Pr} {j k : Nat} (h : j ≤ k) : mpF p j ≤ mpF p k := by
  induction k with
  | zero => have : j = 0 := by omega
            subst this; exact Nat.le_refl _
  | succ k ih =>
    by_cases e : j = k + 1
    · subst e; exact Nat.le_refl _
    · have := ih (by omega)
      show mpF p j ≤ mpF p k + mlN (p.2 k)
      omega
abbrev S94 (a _k : Nat) : Prop := a = 94
theorem q_reckons {l : Launch} {d as : Nat} {p : Pr} {A : Nat → Prop} {vals : Nat → Int32} {h : Hp} (hS : St h) (hP : PM (hI h 80) as p) (hw : WP A p) (h0 : 0 < p.1) (hv : ∀ k, A k → k < 9 → hI h 93 (mvN k) = vals k) : Ey l (d + 2) mX10_reckons [.ref 77, .int (nI as)] h (some (.int (evP p vals))) (Fz S94 h) := by
  obtain ⟨P1, P2, P3⟩ := hP
  refine run_lv [some (.ref 77), some (.int (nI as)), none, none, none] (go := ?_)
  refine go_iconst (v := 0) dX10_reckons_0 rfl ?_
  refine go_ist2 dX10_reckons_1 rfl ?_
  refine go_iloadn dX10_reckons_2 rfl ?_
  refine go_ist3 dX10_reckons_3 rfl ?_
  refine go_loopR (lvf := fun j => [some (.ref 77), some (.int (nI as)), some (.int (nI (evF p vals j).length)), some (.int (nI (as + mpF p j))), none]) p.1 (fun j g => Fz S94 h g ∧ Rst (hI g 94) (evF p vals j)) (fun j g hj hh ih => ?_) (fun g hh => ?_) 0 h (Nat.zero_le _) ⟨Fz.rf, fun i hi => absurd hi (Nat.not_lt_zero _)⟩
  · obtain ⟨F, hR⟩ := hh
    have hS := F.St hS
    have e80 : hI g 80 = hI h 80 := funext fun k => F.I (by unfold S94; omega)
    have e93 : hI g 93 = hI h 93 := funext fun k => F.I (by unfold S94; omega)
    obtain ⟨pA, pB⟩ := P1 j hj
    have hok := hw.1 j hj
    have hl := evF_len (vals := vals) hw (Nat.le_of_lt hj)
    have hb := mpF_le (p := p) (show j + 1 ≤ p.1 by omega)
    have es : mpF p (j + 1) = mpF p j + mlN (p.2 j) := rfl
    have ev : evF p vals (j + 1) = st1 vals (p.2 j) (evF p vals j) := rfl
    rw [← hl] at hok
    rw [es] at hb ih
    rw [ev] at ih
    generalize p.2 j = o at *
    obtain ⟨x, m⟩ := o
    generalize evF p vals j = st at *
    rcases hok with ⟨rfl, hm, hd⟩ | ⟨rfl, hm, ha, hd⟩ | ⟨rfl, hd⟩ | ⟨rfl, hd, h1, h3, h9⟩ <;> try dsimp only at *
    · have e2 : mlN (0, m) = 2 := rfl
      rw [e2] at hb ih
      have pA : hI g 80 (as + mpF p j) = 1 := by rw [e80]; exact pA
      have pB : hI g 80 (as + (mpF p j + 1)) = nI m := by rw [e80]; exact pB (by omega)
      refine go_aloadn dX10_reckons_4 rfl ?_
      refine sg_getR dX10_reckons_5 fX10_29 rfl (mo_L rfl) hS (mo_r9 hS rfl) ?_
      refine go_iloadn dX10_reckons_8 rfl ?_
      refine sg_ialdN (i := as + mpF p j) dX10_reckons_9 (mo_9 rfl) hS (by simp only [lit_nI, nI_add, pk_mul, Nat.add_assoc, Nat.zero_add, Nat.add_zero]) (by omega) (pA) ?_
      refine go_if_eq (tgt := 143) dX10_reckons_10 (by decide) (fun c10 => absurd c10 (by decide)) (fun c10 => ?_)
      refine go_aloadn dX10_reckons_13 rfl ?_
      refine sg_getR dX10_reckons_14 fX10_29 rfl (mo_L rfl) hS (mo_r9 hS rfl) ?_
      refine go_iloadn dX10_reckons_17 rfl ?_
      refine sg_ialdN (i := as + mpF p j) dX10_reckons_18 (mo_9 rfl) hS (by simp only [lit_nI, nI_add, pk_mul, Nat.add_assoc, Nat.zero_add, Nat.add_zero]) (by omega) (pA) ?_
      refine go_ist4 dX10_reckons_19 rfl ?_
      refine go_iinc3 (c1 := 1) dX10_reckons_21 rfl rfl ?_
      refine go_iload dX10_reckons_24 rfl ?_
      refine go_iconst (v := 1) dX10_reckons_26 rfl ?_
      refine go_icmp_eq (tgt := 36) dX10_reckons_27 (by decide) (fun c27 => ?_) (fun c27 => absurd rfl c27)
      refine go_aloadn dX10_reckons_36 rfl ?_
      refine sg_getR dX10_reckons_37 fX10_75 rfl (mo_L rfl) hS (mo_r46 hS rfl) ?_
      refine go_iloadn dX10_reckons_40 rfl ?_
      refine go_iload dX10_reckons_41 rfl ?_
      refine go_iconst (v := 1) dX10_reckons_43 rfl ?_
      refine go_icmp_ne (tgt := 56) dX10_reckons_44 (by decide) (fun c44 => absurd rfl c44) (fun c44 => ?_)
      refine go_aloadn dX10_reckons_47 rfl ?_
      refine sg_getR dX10_reckons_48 fX10_29 rfl (mo_L rfl) hS (mo_r9 hS rfl) ?_
      refine go_iloadn dX10_reckons_51 rfl ?_
      refine sg_ialdN (i := as + (mpF p j + 1)) dX10_reckons_52 (mo_9 rfl) hS (by simp only [lit_nI, nI_add, pk_mul, Nat.add_assoc, Nat.zero_add, Nat.add_zero]) (by omega) (pB) ?_
      refine go_goto (tgt := 67) dX10_reckons_53 (by decide) ?_
      refine sg_iastN (i := st.length) dX10_reckons_67 (mo_46 rfl) hS (by simp only [lit_nI, nI_add, pk_mul, Nat.add_assoc, Nat.zero_add, Nat.add_zero]) (by omega) ?_
      refine go_iinc3 (c1 := 1) dX10_reckons_68 rfl rfl ?_
      refine go_iinc2 (c1 := 1) dX10_reckons_71 rfl rfl ?_
      refine go_goto (tgt := 140) dX10_reckons_74 (by decide) ?_
      refine go_goto (tgt := 4) dX10_reckons_140 (by decide) ?_
      exact go_back (ih _ ⟨F.uI rfl, by rw [hI_uI_same]; exact hR.push _⟩) (by simp [lsub, nI_1, st1, Nat.add_assoc]) rfl
    · have e2 : mlN (1, m) = 2 := rfl
      rw [e2] at hb ih
      have pA : hI g 80 (as + mpF p j) = 2 := by rw [e80]; exact pA
      have pB : hI g 80 (as + (mpF p j + 1)) = nI (mvN m) := by rw [e80]; exact pB (by omega)
      have hmv : mvN m < 9 := by unfold mvN; split <;> (try split) <;> omega
      refine go_aloadn dX10_reckons_4 rfl ?_
      refine sg_getR dX10_reckons_5 fX10_29 rfl (mo_L rfl) hS (mo_r9 hS rfl) ?_
      refine go_iloadn dX10_reckons_8 rfl ?_
      refine sg_ialdN (i := as + mpF p j) dX10_reckons_9 (mo_9 rfl) hS (by simp only [lit_nI, nI_add, pk_mul, Nat.add_assoc, Nat.zero_add, Nat.add_zero]) (by omega) (pA) ?_
      refine go_if_eq (tgt := 143) dX10_reckons_10 (by decide) (fun c10 => absurd c10 (by decide)) (fun c10 => ?_)
      refine go_aloadn dX10_reckons_13 rfl ?_
      refine sg_getR dX10_reckons_14 fX10_29 rfl (mo_L rfl) hS (mo_r9 hS rfl) ?_
      refine go_iloadn dX10_reckons_17 rfl ?_
      refine sg_ialdN (i := as + mpF p j) dX10_reckons_18 (mo_9 rfl) hS (by simp only [lit_nI, nI_add, pk_mul, Nat.add_assoc, Nat.zero_add, Nat.add_zero]) (by omega) (pA) ?_
      refine go_ist4 dX10_reckons_19 rfl ?_
      refine go_iinc3 (c1 := 1) dX10_reckons_21 rfl rfl ?_
      refine go_iload dX10_reckons_24 rfl ?_
      refine go_iconst (v := 1) dX10_reckons_26 rfl ?_
      refine go_icmp_eq (tgt := 36) dX10_reckons_27 (by decide) (fun c27 => absurd c27 (by decide)) (fun c27 => ?_)
      refine go_iload dX10_reckons_30 rfl ?_
      refine go_iconst (v := 2) dX10_reckons_32 rfl ?_
      refine go_icmp_ne (tgt := 77) dX10_reckons_33 (by decide) (fun c33 => absurd rfl c33) (fun c33 => ?_)
      refine go_aloadn dX10_reckons_36 rfl ?_
      refine sg_getR dX10_reckons_37 fX10_75 rfl (mo_L rfl) hS (mo_r46 hS rfl) ?_
      refine go_iloadn dX10_reckons_40 rfl ?_
      refine go_iload dX10_reckons_41 rfl ?_
      refine go_iconst (v := 1) dX10_reckons_43 rfl ?_
      refine go_icmp_ne (tgt := 56) dX10_reckons_44 (by decide) (fun c44 => ?_) (fun c44 => absurd c44 (by decide))
      refine go_aloadn dX10_reckons_56 rfl ?_
      refine sg_getR dX10_reckons_57 fX10_72 rfl (mo_L rfl) hS (mo_r45 hS rfl) ?_
      refine go_aloadn dX10_reckons_60 rfl ?_
      refine sg_getR dX10_reckons_61 fX10_29 rfl (mo_L rfl) hS (mo_r9 hS rfl) ?_
      refine go_iloadn dX10_reckons_64 rfl ?_
      refine sg_ialdN (i := as + (mpF p j + 1)) dX10_reckons_65 (mo_9 rfl) hS (by simp only [lit_nI, nI_add, pk_mul, Nat.add_assoc, Nat.zero_add, Nat.add_zero]) (by omega) (pB) ?_
      refine sg_ialdN (i := mvN m) dX10_reckons_66 (mo_45 rfl) hS (by simp only [lit_nI, nI_add, pk_mul, Nat.add_assoc, Nat.zero_add, Nat.add_zero]) (by omega) (show hI g 93 (mvN m) = vals m from by rw [e93]; exact hv m ha hm) ?_
      refine sg_iastN (i := st.length) dX10_reckons_67 (mo_46 rfl) hS (by simp only [lit_nI, nI_add, pk_mul, Nat.add_assoc, Nat.zero_add, Nat.add_zero]) (by omega) ?_
      refine go_iinc3 (c1 := 1) dX10_reckons_68 rfl rfl ?_
      refine go_iinc2 (c1 := 1) dX10_reckons_71 rfl rfl ?_
      refine go_goto (tgt := 140) dX10_reckons_74 (by decide) ?_
      refine go_goto (tgt := 4) dX10_reckons_140 (by decide) ?_
      exact go_back (ih _ ⟨F.uI rfl, by rw [hI_uI_same]; exact hR.push _⟩) (by simp [lsub, nI_1, st1, Nat.add_assoc]) rfl
    · have e2 : mlN (2, m) = 1 := rfl
      rw [e2] at hb ih
      have pA : hI g 80 (as + mpF p j) = 3 := by rw [e80]; exact pA
      match st, hd, hR with
      | a :: s, hd, hR =>
        have hs64 : s.length < 950 := by
          have q := (rsF_evF (cd := fun j => encC (p.2 j)) (vals := vals) (S := fun _ => 0) (fr := 0) hw (fun j _ => by rw [Nat.zero_add]) (Nat.le_of_lt hj)).1
          have q2 := rsF_le (cd := fun j => encC (p.2 j)) (vals := vals) (S := fun _ => 0) (fr := 0) j
          rw [q, evF_len hw (Nat.le_of_lt hj), ← hl, List.length_cons] at q2
          omega
        rw [List.length_cons]
        refine go_aloadn dX10_reckons_4 rfl ?_
        refine sg_getR dX10_reckons_5 fX10_29 rfl (mo_L rfl) hS (mo_r9 hS rfl) ?_
        refine go_iloadn dX10_reckons_8 rfl ?_
        refine sg_ialdN (i := as + mpF p j) dX10_reckons_9 (mo_9 rfl) hS (by simp only [lit_nI, nI_add, pk_mul, Nat.add_assoc, Nat.zero_add, Nat.add_zero]) (by omega) (pA) ?_
        refine go_if_eq (tgt := 143) dX10_reckons_10 (by decide) (fun c10 => absurd c10 (by decide)) (fun c10 => ?_)
        refine go_aloadn dX10_reckons_13 rfl ?_
        refine sg_getR dX10_reckons_14 fX10_29 rfl (mo_L rfl) hS (mo_r9 hS rfl) ?_
        refine go_iloadn dX10_reckons_17 rfl ?_
        refine sg_ialdN (i := as + mpF p j) dX10_reckons_18 (mo_9 rfl) hS (by simp only [lit_nI, nI_add, pk_mul, Nat.add_assoc, Nat.zero_add, Nat.add_zero]) (by omega) (pA) ?_
        refine go_ist4 dX10_reckons_19 rfl ?_
        refine go_iinc3 (c1 := 1) dX10_reckons_21 rfl rfl ?_
        refine go_iload dX10_reckons_24 rfl ?_
        refine go_iconst (v := 1) dX10_reckons_26 rfl ?_
        refine go_icmp_eq (tgt := 36) dX10_reckons_27 (by decide) (fun c27 => absurd c27 (by decide)) (fun c27 => ?_)
        refine go_iload dX10_reckons_30 rfl ?_
        refine go_iconst (v := 2) dX10_reckons_32 rfl ?_
        refine go_icmp_ne (tgt := 77) dX10_reckons_33 (by decide) (fun c33 => ?_) (fun c33 => absurd c33 (by decide))
        refine go_iload dX10_reckons_77 rfl ?_
        refine go_iconst (v := 3) dX10_reckons_79 rfl ?_
        refine go_icmp_ne (tgt := 110) dX10_reckons_80 (by decide) (fun c80 => absurd rfl c80) (fun c80 => ?_)
        refine go_aloadn dX10_reckons_83 rfl ?_
        refine sg_getR dX10_reckons_84 fX10_75 rfl (mo_L rfl) hS (mo_r46 hS rfl) ?_
        refine go_iloadn dX10_reckons_87 rfl ?_
        refine go_iconst (v := 1) dX10_reckons_88 rfl ?_
        refine go_isub dX10_reckons_89 ?_
        rw [nI_pred]
        refine go_aloadn dX10_reckons_90 rfl ?_
        refine sg_getR dX10_reckons_91 fX10_75 rfl (mo_L rfl) hS (mo_r46 hS rfl) ?_
        refine go_iloadn dX10_reckons_94 rfl ?_
        refine go_iconst (v := 1) dX10_reckons_95 rfl ?_
        refine go_isub dX10_reckons_96 ?_
        rw [nI_pred]
        refine sg_ialdN (i := s.length) dX10_reckons_97 (mo_46 rfl) hS (by simp only [lit_nI, nI_add, pk_mul, Nat.add_assoc, Nat.zero_add, Nat.add_zero]) (by omega) (hR.top) ?_
        refine go_if_ne (tgt := 105) dX10_reckons_98 (by decide) (fun c98 => ?_) (fun c98 => ?_)
        · refine go_iconst (v := 0) dX10_reckons_105 rfl ?_
          refine sg_iastN (i := s.length) dX10_reckons_106 (mo_46 rfl) hS (by simp only [lit_nI, nI_add, pk_mul, Nat.add_assoc, Nat.zero_add, Nat.add_zero]) (by omega) ?_
          refine go_goto (tgt := 140) dX10_reckons_107 (by decide) ?_
          refine go_goto (tgt := 4) dX10_reckons_140 (by decide) ?_
          exact go_back (ih _ ⟨F.uI rfl, by rw [hI_uI_same]; first | (have := hR.tl.push (if a = 0 then (1 : Int32) else 0); rw [if_pos c98] at this; simp only [st1, c98, if_true]; exact this) | (have := hR.tl.push (if a = 0 then (1 : Int32) else 0); rw [if_neg c98] at this; simp only [st1, c98, if_false]; exact this)⟩) (by simp [lsub, nI_1, st1, Nat.add_assoc]) rfl
        · refine go_iconst (v := 1) dX10_reckons_101 rfl ?_
          refine go_goto (tgt := 106) dX10_reckons_102 (by decide) ?_
          refine sg_iastN (i := s.length) dX10_reckons_106 (mo_46 rfl) hS (by simp only [lit_nI, nI_add, pk_mul, Nat.add_assoc, Nat.zero_add, Nat.add_zero]) (by omega) ?_
          refine go_goto (tgt := 140) dX10_reckons_107 (by decide) ?_
          refine go_goto (tgt := 4) dX10_reckons_140 (by decide) ?_
          exact go_back (ih _ ⟨F.uI rfl, by rw [hI_uI_same]; first | (have := hR.tl.push (if a = 0 then (1 : Int32) else 0); rw [if_pos c98] at this; simp only [st1, c98, if_true]; exact this) | (have := hR.tl.push (if a = 0 then (1 : Int32) else 0); rw [if_neg c98] at this; simp only [st1, c98, if_false]; exact this)⟩) (by simp [lsub, nI_1, st1, Nat.add_assoc]) rfl
    · have e2 : mlN (3, m) = 1 := rfl
      rw [e2] at hb ih
      have pA : hI g 80 (as + mpF p j) = mactL.getD m 0 := by rw [e80]; exact pA
      obtain ⟨n0, n1, n2, n3⟩ := mact_ne ⟨m, by omega⟩ h1 h3
      dsimp only at n0 n1 n2 n3
      match st, hd, hR with
      | b :: a :: s, hd, hR =>
        have hs64 : s.length + 1 < 950 := by
          have q := (rsF_evF (cd := fun j => encC (p.2 j)) (vals := vals) (S := fun _ => 0) (fr := 0) hw (fun j _ => by rw [Nat.zero_add]) (Nat.le_of_lt hj)).1
          have q2 := rsF_le (cd := fun j => encC (p.2 j)) (vals := vals) (S := fun _ => 0) (fr := 0) j
          rw [q, evF_len hw (Nat.le_of_lt hj), ← hl, List.length_cons, List.length_cons] at q2
          omega
        rw [List.length_cons, List.length_cons]
        refine go_aloadn dX10_reckons_4 rfl ?_
        refine sg_getR dX10_reckons_5 fX10_29 rfl (mo_L rfl) hS (mo_r9 hS rfl) ?_
        refine go_iloadn dX10_reckons_8 rfl ?_
        refine sg_ialdN (i := as + mpF p j) dX10_reckons_9 (mo_9 rfl) hS (by simp only [lit_nI, nI_add, pk_mul, Nat.add_assoc, Nat.zero_add, Nat.add_zero]) (by omega) (pA) ?_
        refine go_if_eq (tgt := 143) dX10_reckons_10 (by decide) (fun c10 => absurd c10 n0) (fun c10 => ?_)
        refine go_aloadn dX10_reckons_13 rfl ?_
        refine sg_getR dX10_reckons_14 fX10_29 rfl (mo_L rfl) hS (mo_r9 hS rfl) ?_
        refine go_iloadn dX10_reckons_17 rfl ?_
        refine sg_ialdN (i := as + mpF p j) dX10_reckons_18 (mo_9 rfl) hS (by simp only [lit_nI, nI_add, pk_mul, Nat.add_assoc, Nat.zero_add, Nat.add_zero]) (by omega) (pA) ?_
        refine go_ist4 dX10_reckons_19 rfl ?_
        refine go_iinc3 (c1 := 1) dX10_reckons_21 rfl rfl ?_
        refine go_iload dX10_reckons_24 rfl ?_
        refine go_iconst (v := 1) dX10_reckons_26 rfl ?_
        refine go_icmp_eq (tgt := 36) dX10_reckons_27 (by decide) (fun c27 => absurd c27 n1) (fun c27 => ?_)
        refine go_iload dX10_reckons_30 rfl ?_
        refine go_iconst (v := 2) dX10_reckons_32 rfl ?_
        refine go_icmp_ne (tgt := 77) dX10_reckons_33 (by decide) (fun c33 => ?_) (fun c33 => absurd c33 n2)
        refine go_iload dX10_reckons_77 rfl ?_
        refine go_iconst (v := 3) dX10_reckons_79 rfl ?_
        refine go_icmp_ne (tgt := 110) dX10_reckons_80 (by decide) (fun c80 => ?_) (fun c80 => absurd c80 n3)
        refine go_iinc2 (c1 := -1) dX10_reckons_110 rfl rfl ?_
        rw [pk_m1]
        refine go_aloadn dX10_reckons_113 rfl ?_
        refine sg_getR dX10_reckons_114 fX10_75 rfl (mo_L rfl) hS (mo_r46 hS rfl) ?_
        refine go_iloadn dX10_reckons_117 rfl ?_
        refine go_iconst (v := 1) dX10_reckons_118 rfl ?_
        refine go_isub dX10_reckons_119 ?_
        rw [nI_pred]
        refine go_iload dX10_reckons_120 rfl ?_
        refine go_aloadn dX10_reckons_122 rfl ?_
        refine sg_getR dX10_reckons_123 fX10_75 rfl (mo_L rfl) hS (mo_r46 hS rfl) ?_
        refine go_iloadn dX10_reckons_126 rfl ?_
        refine go_iconst (v := 1) dX10_reckons_127 rfl ?_
        refine go_isub dX10_reckons_128 ?_
        rw [nI_pred]
        refine sg_ialdN (i := s.length) dX10_reckons_129 (mo_46 rfl) hS (by simp only [lit_nI, nI_add, pk_mul, Nat.add_assoc, Nat.zero_add, Nat.add_zero]) (by omega) (hR.tl.top) ?_
        refine go_aloadn dX10_reckons_130 rfl ?_
        refine sg_getR dX10_reckons_131 fX10_75 rfl (mo_L rfl) hS (mo_r46 hS rfl) ?_
        refine go_iloadn dX10_reckons_134 rfl ?_
        refine sg_ialdN (i := s.length + 1) dX10_reckons_135 (mo_46 rfl) hS (by simp only [lit_nI, nI_add, pk_mul, Nat.add_assoc, Nat.zero_add, Nat.add_zero]) (by omega) (hR.top) ?_
        refine sg_cSi (M' := mX10_works) ([.int (mactL.getD m 0), .int a, .int b]) dX10_reckons_136 lX10_293 sX10_works hS (q_works) rfl (Nat.le_of_ble_eq_true rfl) (Nat.zero_le _) (Nat.zero_le _) ?_
        rw [mw_tw h1 h3 h9]
        refine sg_iastN (i := s.length) dX10_reckons_139 (mo_46 rfl) hS (by simp only [lit_nI, nI_add, pk_mul, Nat.add_assoc, Nat.zero_add, Nat.add_zero]) (by omega) ?_
        refine go_goto (tgt := 4) dX10_reckons_140 (by decide) ?_
        exact go_back (ih _ ⟨F.uI rfl, by rw [hI_uI_same]; exact hR.tl.tl.push _⟩) (by simp [lsub, nI_1, st1, Nat.add_assoc]) rfl
  · obtain ⟨F, hR⟩ := hh
    have hS := F.St hS
    have e80 : hI g 80 = hI h 80 := funext fun k => F.I (by unfold S94; omega)
    have hl := evF_len (vals := vals) hw (Nat.le_refl _)
    rw [hw.2 h0] at hl
    refine go_aloadn dX10_reckons_4 rfl ?_
    refine sg_getR dX10_reckons_5 fX10_29 rfl (mo_L rfl) hS (mo_r9 hS rfl) ?_
    refine go_iloadn dX10_reckons_8 rfl ?_
    refine sg_ialdN (i := as + mpF p p.1) dX10_reckons_9 (mo_9 rfl) hS (by simp only [lit_nI, nI_add, pk_mul, Nat.add_assoc, Nat.zero_add, Nat.add_zero]) (by omega) (show hI g 80 (as + mpF p p.1) = 0 from by rw [e80]; exact P2) ?_
    refine go_if_eq (tgt := 143) dX10_reckons_10 (by decide) (fun c10 => ?_) (fun c10 => absurd rfl c10)
    refine go_aloadn dX10_reckons_143 rfl ?_
    refine sg_getR dX10_reckons_144 fX10_75 rfl (mo_L rfl) hS (mo_r46 hS rfl) ?_
    refine go_iconst (v := 0) dX10_reckons_147 rfl ?_
    refine sg_ialdN (i := 0) dX10_reckons_148 (mo_46 rfl) hS (by simp only [lit_nI, nI_add, pk_mul, Nat.add_assoc, Nat.zero_add, Nat.add_zero]) (by omega) (show hI g 94 0 = evP p vals from by rw [hR 0 (by omega), hl]; rfl) ?_
    refine go_ireturn dX10_reckons_149 rfl rfl (Nat.zero_le _) (Nat.zero_le _) ?_
    exact ⟨rfl, F⟩
theorem q_placeOn {l : Launch} {d as ar b p dd : Nat} {C : Cy} {T : Tn} {h : Hp} (W : WC C) (H : MC h as ar C) (hT : MT h b C T) (hb : b ≤ 105) (hp : p < cP C) (hd : dd < 2 ^ 31) : Ex l (d + 1) mX10_placeOn [.ref 77, .int (nI b), .int (nI p), .int (nI dd)] h (some (.int (plT C T p dd))) h := by
  have hS := H.1
  have hP := W.1.2.1
  obtain ⟨w1, w6⟩ := W.2.1 p hp
  have hm : dd % cWl C p < cWl C p := Nat.mod_lt _ (by omega)
  refine run_lv [some (.ref 77), some (.int (nI b)), some (.int (nI p)), some (.int (nI dd))] (go := ?_)
  refine go_aloadn dX10_placeOn_0 rfl ?_
  refine sg_getR dX10_placeOn_1 fX10_66 rfl (mo_L rfl) hS (mo_r42 hS rfl) ?_
  refine go_iloadn dX10_placeOn_4 rfl ?_
  refine go_bipush (v := 57) dX10_placeOn_5 rfl ?_
  refine go_iadd dX10_placeOn_7 ?_
  refine go_bipush (v := 6) dX10_placeOn_8 rfl ?_
  refine go_iloadn dX10_placeOn_10 rfl ?_
  refine go_imul dX10_placeOn_11 ?_
  refine go_iadd dX10_placeOn_12 ?_
  refine go_iloadn dX10_placeOn_13 rfl ?_
  refine go_aloadn dX10_placeOn_14 rfl ?_
  refine sg_getR dX10_placeOn_15 fX10_22 rfl (mo_L rfl) hS (mo_r7 hS rfl) ?_
  refine go_iloadn dX10_placeOn_18 rfl ?_
  refine sg_ialdN (i := p) dX10_placeOn_19 (mo_7 rfl) hS (by simp only [lit_nI, nI_add, pk_mul, Nat.add_assoc, Nat.zero_add, Nat.add_zero]) (by omega) ((H.2.2.2.1 p hp).1) ?_
  refine go_irem dX10_placeOn_20 (nI_ne0 (by omega) (by omega)) ?_
  rw [pk_rem hd (by omega) (by omega)]
  refine go_iadd dX10_placeOn_21 ?_
  refine sg_ialdN (i := b + (57 + (6 * p + dd % cWl C p))) dX10_placeOn_22 (mo_42 rfl) hS (by simp only [lit_nI, nI_add, pk_mul, Nat.add_assoc, Nat.zero_add, Nat.add_zero]) (by omega) (hT.2.2.2 _ (by omega)) ?_
  refine go_ireturn dX10_placeOn_23 rfl rfl (Nat.zero_le _) (Nat.zero_le _) ?_
  exact ⟨rfl, rfl⟩
theorem q_looksAt {l : Launch} {d as ar b p dd : Nat} {C : Cy} {T : Tn} {h : Hp} (W : WC C) (H : MC h as ar C) (hT : MT h b C T) (hb : b ≤ 105) (hp : p < cP C) (hd : dd < 2 ^ 31) : Ex l (d + 2) mX10_looksAt [.ref 77, .int (nI b), .int (nI p), .int (nI dd)] h (some (.int (lkT C T p dd))) h := by
  have hS := H.1
  have hP := W.1.2.1
  have hpe := H.2.1.2.1
  refine run_lv [some (.ref 77), some (.int (nI b)), some (.int (nI p)), some (.int (nI dd)), none, none] (go := ?_)
  refine go_iconst (v := 0) dX10_looksAt_0 rfl ?_
  refine go_ist4 dX10_looksAt_1 rfl ?_
  refine go_iconst (v := 0) dX10_looksAt_3 rfl ?_
  refine go_ist5 dX10_looksAt_4 rfl ?_
  refine go_loop (lvf := fun o => [some (.ref 77), some (.int (nI b)), some (.int (nI p)), some (.int (nI dd)), some (.int (btF (fun o => (cBl C o = 0 ∧ plT C T o dd = plT C T p dd) ∧ o ≠ p) o)), some (.int (nI o))]) (hf := fun _ => h) (cP C) (fun _ => True) (fun o ho _ ih => ?_) (fun _ => ?_) 0 (Nat.zero_le _) trivial
  · have eo : (nI o = nI p) ↔ o = p := nI_eq (by omega) (by omega)
    refine go_iload dX10_looksAt_6 rfl ?_
    refine go_aloadn dX10_looksAt_8 rfl ?_
    refine sg_getI dX10_looksAt_9 fX10_273 rfl (mo_L rfl) hS ?_
    rw [hpe]
    refine go_icmp_ge (tgt := 68) dX10_looksAt_12 (by decide) (fun c12 => absurd c12 (nI_ge ho (by omega))) (fun c12 => ?_)
    refine go_iload dX10_looksAt_15 rfl ?_
    refine go_iload dX10_looksAt_17 rfl ?_
    refine go_iloadn dX10_looksAt_19 rfl ?_
    refine go_icmp_eq (tgt := 58) dX10_looksAt_20 (by decide) (fun c20 => ?_) (fun c20 => ?_)
    · refine go_iconst (v := 0) dX10_looksAt_58 rfl ?_
      refine go_ior dX10_looksAt_59 ?_
      refine go_ist4 dX10_looksAt_60 rfl ?_
      refine go_iinc5 (c1 := 1) dX10_looksAt_62 rfl rfl ?_
      refine go_goto (tgt := 6) dX10_looksAt_65 (by decide) ?_
      exact go_cong (ih trivial) (by first | ((have q := eo.mp c20); simp [btF, q, nI_1]; done) | (simp [btF, c30, nI_1]; done) | (simp [btF, c48, nI_1]; done) | ((have q := mt eo.mpr c20); simp [btF, c30, c48, q, nI_1]; done)) rfl
    · refine go_aloadn dX10_looksAt_23 rfl ?_
      refine sg_getR dX10_looksAt_24 fX10_32 rfl (mo_L rfl) hS (mo_r10 hS rfl) ?_
      refine go_iload dX10_looksAt_27 rfl ?_
      refine sg_zaldN (i := o) dX10_looksAt_29 (mo_10 rfl) hS (by simp only [lit_nI, nI_add, pk_mul, Nat.add_assoc, Nat.zero_add, Nat.add_zero]) (by omega) ((H.2.2.2.1 o ho).2) ?_
      refine go_if_ne (tgt := 58) dX10_looksAt_30 (by decide) (fun c30 => ?_) (fun c30 => ?_)
      · refine go_iconst (v := 0) dX10_looksAt_58 rfl ?_
        refine go_ior dX10_looksAt_59 ?_
        refine go_ist4 dX10_looksAt_60 rfl ?_
        refine go_iinc5 (c1 := 1) dX10_looksAt_62 rfl rfl ?_
        refine go_goto (tgt := 6) dX10_looksAt_65 (by decide) ?_
        exact go_cong (ih trivial) (by first | ((have q := eo.mp c20); simp [btF, q, nI_1]; done) | (simp [btF, c30, nI_1]; done) | (simp [btF, c48, nI_1]; done) | ((have q := mt eo.mpr c20); simp [btF, c30, c48, q, nI_1]; done)) rfl
      · refine go_aloadn dX10_looksAt_33 rfl ?_
        refine go_iloadn dX10_looksAt_34 rfl ?_
        refine go_iload dX10_looksAt_35 rfl ?_
        refine go_iloadn dX10_looksAt_37 rfl ?_
        refine sg_cVi (M' := mX10_placeOn) ([.int (nI b), .int (nI o), .int (nI dd)]) dX10_looksAt_38 lX10_297 vX10_placeOn (mo_L rfl) (by decide) rfl hS (q_placeOn W H hT hb ho hd) rfl (Nat.le_of_ble_eq_true rfl) (Nat.zero_le _) (Nat.zero_le _) ?_
        refine go_aloadn dX10_looksAt_41 rfl ?_
        refine go_iloadn dX10_looksAt_42 rfl ?_
        refine go_iloadn dX10_looksAt_43 rfl ?_
        refine go_iloadn dX10_looksAt_44 rfl ?_
        refine sg_cVi (M' := mX10_placeOn) ([.int (nI b), .int (nI p), .int (nI dd)]) dX10_looksAt_45 lX10_297 vX10_placeOn (mo_L rfl) (by decide) rfl hS (q_placeOn W H hT hb hp hd) rfl (Nat.le_of_ble_eq_true rfl) (Nat.zero_le _) (Nat.zero_le _) ?_
        refine go_icmp_ne (tgt := 58) dX10_looksAt_48 (by decide) (fun c48 => ?_) (fun c48 => ?_)
        · refine go_iconst (v := 0) dX10_looksAt_58 rfl ?_
          refine go_ior dX10_looksAt_59 ?_
          refine go_ist4 dX10_looksAt_60 rfl ?_
          refine go_iinc5 (c1 := 1) dX10_looksAt_62 rfl rfl ?_
          refine go_goto (tgt := 6) dX10_looksAt_65 (by decide) ?_
          exact go_cong (ih trivial) (by first | ((have q := eo.mp c20); simp [btF, q, nI_1]; done) | (simp [btF, c30, nI_1]; done) | (simp [btF, c48, nI_1]; done) | ((have q := mt eo.mpr c20); simp [btF, c30, c48, q, nI_1]; done)) rfl
        · refine go_iconst (v := 1) dX10_looksAt_51 rfl ?_
          refine go_iload dX10_looksAt_52 rfl ?_
          refine go_ishl dX10_looksAt_54 ?_
          refine go_goto (tgt := 59) dX10_looksAt_55 (by decide) ?_
          refine go_ior dX10_looksAt_59 ?_
          refine go_ist4 dX10_looksAt_60 rfl ?_
          refine go_iinc5 (c1 := 1) dX10_looksAt_62 rfl rfl ?_
          refine go_goto (tgt := 6) dX10_looksAt_65 (by decide) ?_
          exact go_cong (ih trivial) (by first | ((have q := eo.mp c20); simp [btF, q, nI_1]; done) | (simp [btF, c30, nI_1]; done) | (simp [btF, c48, nI_1]; done) | ((have q := mt eo.mpr c20); simp [btF, c30, c48, q, nI_1]; done)) rfl
  · refine go_iload dX10_looksAt_6 rfl ?_
    refine go_aloadn dX10_looksAt_8 rfl ?_
    refine sg_getI dX10_looksAt_9 fX10_273 rfl (mo_L rfl) hS ?_
    rw [hpe]
    refine go_icmp_ge (tgt := 68) dX10_looksAt_12 (by decide) (fun c12 => ?_) (fun c12 => absurd (nI_le (Nat.le_refl _) (by omega)) c12)
    refine go_iload dX10_looksAt_68 rfl ?_
    refine go_ireturn dX10_looksAt_70 rfl rfl (Nat.zero_le _) (Nat.zero_le _) ?_
    exact ⟨rfl, rfl⟩
theorem q_wornBy {l : Launch} {d as ar b : Nat} {x : Int32} {C : Cy} {T : Tn} {h : Hp} (W : WC C) (H : MC h as ar C) (hT : MT h b C T) (hb : b ≤ 105) : Ex l (d + 1) mX10_wornBy [.ref 77, .int (nI b), .int x] h (some (.int (btF (fun t => tB T t = x) (cN C)))) h := by
  have hS := H.1
  have hN := W.1.1
  have hth := H.2.1.2.2.1
  refine run_lv [some (.ref 77), some (.int (nI b)), some (.int x), none, none] (go := ?_)
  refine go_iconst (v := 0) dX10_wornBy_0 rfl ?_
  refine go_ist3 dX10_wornBy_1 rfl ?_
  refine go_iconst (v := 0) dX10_wornBy_2 rfl ?_
  refine go_ist4 dX10_wornBy_3 rfl ?_
  refine go_loop (lvf := fun t => [some (.ref 77), some (.int (nI b)), some (.int x), some (.int (btF (fun t => tB T t = x) t)), some (.int (nI t))]) (hf := fun _ => h) (cN C) (fun _ => True) (fun t ht _ ih => ?_) (fun _ => ?_) 0 (Nat.zero_le _) trivial
  · refine go_iload dX10_wornBy_5 rfl ?_
    refine go_aloadn dX10_wornBy_7 rfl ?_
    refine sg_getI dX10_wornBy_8 fX10_276 rfl (mo_L rfl) hS ?_
    rw [hth]
    refine go_icmp_ge (tgt := 47) dX10_wornBy_11 (by decide) (fun c11 => absurd c11 (nI_ge ht (by omega))) (fun c11 => ?_)
    refine go_iloadn dX10_wornBy_14 rfl ?_
    refine go_aloadn dX10_wornBy_15 rfl ?_
    refine sg_getR dX10_wornBy_16 fX10_66 rfl (mo_L rfl) hS (mo_r42 hS rfl) ?_
    refine go_iloadn dX10_wornBy_19 rfl ?_
    refine go_bipush (v := 11) dX10_wornBy_20 rfl ?_
    refine go_iadd dX10_wornBy_22 ?_
    refine go_iload dX10_wornBy_23 rfl ?_
    refine go_iadd dX10_wornBy_25 ?_
    refine sg_ialdN (i := b + (11 + t)) dX10_wornBy_26 (mo_42 rfl) hS (by simp only [lit_nI, nI_add, pk_mul, Nat.add_assoc, Nat.zero_add, Nat.add_zero]) (by omega) ((hT.2.1 t ht).2.1) ?_
    refine go_iloadn dX10_wornBy_27 rfl ?_
    refine go_icmp_ne (tgt := 38) dX10_wornBy_28 (by decide) (fun c28 => ?_) (fun c28 => ?_)
    · refine go_iconst (v := 0) dX10_wornBy_38 rfl ?_
      refine go_ior dX10_wornBy_39 ?_
      refine go_ist3 dX10_wornBy_40 rfl ?_
      refine go_iinc4 (c1 := 1) dX10_wornBy_41 rfl rfl ?_
      refine go_goto (tgt := 5) dX10_wornBy_44 (by decide) ?_
      exact go_cong (ih trivial) (by simp [btF, c28, nI_1]) rfl
    · refine go_iconst (v := 1) dX10_wornBy_31 rfl ?_
      refine go_iload dX10_wornBy_32 rfl ?_
      refine go_ishl dX10_wornBy_34 ?_
      refine go_goto (tgt := 39) dX10_wornBy_35 (by decide) ?_
      refine go_ior dX10_wornBy_39 ?_
      refine go_ist3 dX10_wornBy_40 rfl ?_
      refine go_iinc4 (c1 := 1) dX10_wornBy_41 rfl rfl ?_
      refine go_goto (tgt := 5) dX10_wornBy_44 (by decide) ?_
      exact go_cong (ih trivial) (by simp [btF, c28, nI_1]) rfl
  · refine go_iload dX10_wornBy_5 rfl ?_
    refine go_aloadn dX10_wornBy_7 rfl ?_
    refine sg_getI dX10_wornBy_8 fX10_276 rfl (mo_L rfl) hS ?_
    rw [hth]
    refine go_icmp_ge (tgt := 47) dX10_wornBy_11 (by decide) (fun c11 => ?_) (fun c11 => absurd (nI_le (Nat.le_refl _) (by omega)) c11)
    refine go_iloadn dX10_wornBy_47 rfl ?_
    refine go_ireturn dX10_wornBy_48 rfl rfl (Nat.zero_le _) (Nat.zero_le _) ?_
    exact ⟨rfl, rfl⟩
theorem q_ownedBy {l : Launch} {d as ar b : Nat} {x : Int32} {C : Cy} {T : Tn} {h : Hp} (W : WC C) (H : MC h as ar C) (hT : MT h b C T) (hb : b ≤ 105) : Ex l (d + 1) mX10_ownedBy [.ref 77, .int (nI b), .int x] h (some (.int (btF (fun t => tO T t = x) (cN C)))) h := by
  have hS := H.1
  have hN := W.1.1
  have hth := H.2.1.2.2.1
  refine run_lv [some (.ref 77), some (.int (nI b)), some (.int x), none, none] (go := ?_)
  refine go_iconst (v := 0) dX10_ownedBy_0 rfl ?_
  refine go_ist3 dX10_ownedBy_1 rfl ?_
  refine go_iconst (v := 0) dX10_ownedBy_2 rfl ?_
  refine go_ist4 dX10_ownedBy_3 rfl ?_
  refine go_loop (lvf := fun t => [some (.ref 77), some (.int (nI b)), some (.int x), some (.int (btF (fun t => tO T t = x) t)), some (.int (nI t))]) (hf := fun _ => h) (cN C) (fun _ => True) (fun t ht _ ih => ?_) (fun _ => ?_) 0 (Nat.zero_le _) trivial
  · refine go_iload dX10_ownedBy_5 rfl ?_
    refine go_aloadn dX10_ownedBy_7 rfl ?_
    refine sg_getI dX10_ownedBy_8 fX10_276 rfl (mo_L rfl) hS ?_
    rw [hth]
    refine go_icmp_ge (tgt := 46) dX10_ownedBy_11 (by decide) (fun c11 => absurd c11 (nI_ge ht (by omega))) (fun c11 => ?_)
    refine go_iloadn dX10_ownedBy_14 rfl ?_
    refine go_aloadn dX10_ownedBy_15 rfl ?_
    refine sg_getR dX10_ownedBy_16 fX10_66 rfl (mo_L rfl) hS (mo_r42 hS rfl) ?_
    refine go_iloadn dX10_ownedBy_19 rfl ?_
    refine go_iconst (v := 1) dX10_ownedBy_20 rfl ?_
    refine go_iadd dX10_ownedBy_21 ?_
    refine go_iload dX10_ownedBy_22 rfl ?_
    refine go_iadd dX10_ownedBy_24 ?_
    refine sg_ialdN (i := b + (1 + t)) dX10_ownedBy_25 (mo_42 rfl) hS (by simp only [lit_nI, nI_add, pk_mul, Nat.add_assoc, Nat.zero_add, Nat.add_zero]) (by omega) ((hT.2.1 t ht).1) ?_
    refine go_iloadn dX10_ownedBy_26 rfl ?_
    refine go_icmp_ne (tgt := 37) dX10_ownedBy_27 (by decide) (fun c27 => ?_) (fun c27 => ?_)
    · refine go_iconst (v := 0) dX10_ownedBy_37 rfl ?_
      refine go_ior dX10_ownedBy_38 ?_
      refine go_ist3 dX10_ownedBy_39 rfl ?_
      refine go_iinc4 (c1 := 1) dX10_ownedBy_40 rfl rfl ?_
      refine go_goto (tgt := 5) dX10_ownedBy_43 (by decide) ?_
      exact go_cong (ih trivial) (by simp [btF, c27, nI_1]) rfl
    · refine go_iconst (v := 1) dX10_ownedBy_30 rfl ?_
      refine go_iload dX10_ownedBy_31 rfl ?_
      refine go_ishl dX10_ownedBy_33 ?_
      refine go_goto (tgt := 38) dX10_ownedBy_34 (by decide) ?_
      refine go_ior dX10_ownedBy_38 ?_
      refine go_ist3 dX10_ownedBy_39 rfl ?_
      refine go_iinc4 (c1 := 1) dX10_ownedBy_40 rfl rfl ?_
      refine go_goto (tgt := 5) dX10_ownedBy_43 (by decide) ?_
      exact go_cong (ih trivial) (by simp [btF, c27, nI_1]) rfl
  · refine go_iload dX10_ownedBy_5 rfl ?_
    refine go_aloadn dX10_ownedBy_7 rfl ?_
    refine sg_getI dX10_ownedBy_8 fX10_276 rfl (mo_L rfl) hS ?_
    rw [hth]
    refine go_icmp_ge (tgt := 46) dX10_ownedBy_11 (by decide) (fun c11 => ?_) (fun c11 => absurd (nI_le (Nat.le_refl _) (by omega)) c11)
    refine go_iloadn dX10_ownedBy_46 rfl ?_
    refine go_ireturn dX10_ownedBy_47 rfl rfl (Nat.zero_le _) (Nat.zero_le _) ?_
    exact ⟨rfl, rfl⟩
theorem nI_sub1 {n : Nat} (h : 1 ≤ n) : nI n - 1 = nI (n - 1) := by
  obtain ⟨m, rfl⟩ : ∃ m, n = m + 1 := ⟨n - 1, by omega⟩
  exact nI_pred m
theorem wo_not {P : Nat → Prop} [DecidablePred P] {n : Nat} (hn : n ≤ 30) : ((1 : Int32) <<< (nI n &&& 31) - 1) &&& (btF P n ^^^ (-1)) = btF (fun t => ¬ P t) n := by
  rw [one_nI ⟨n, by omega⟩, nI_sub1 (Nat.two_pow_pos _)]
  refine bI_ext fun i hi => ?_
  rw [bI_and, bI_xor, bI_nI hi, bI_btF (by omega) hi, bI_btF (by omega) hi, bI_m1 hi, Nat.testBit_two_pow_sub_one]
  by_cases a : i < n <;> by_cases b : P i <;> simp [a, b]
theorem q_wornOnes {l : Launch} {d as ar b : Nat} {C : Cy} {T : Tn} {h : Hp} (W : WC C) (H : MC h as ar C) (hT : MT h b C T) (hb : b ≤ 105) : Ex l (d + 2) mX10_wornOnes [.ref 77, .int (nI b)] h (some (.int (woT C T))) h := by
  have hS := H.1
  have hN := W.1.1
  refine run_lv [some (.ref 77), some (.int (nI b))] (go := ?_)
  refine go_iconst (v := 1) dX10_wornOnes_0 rfl ?_
  refine go_aloadn dX10_wornOnes_1 rfl ?_
  refine sg_getI dX10_wornOnes_2 fX10_276 rfl (mo_L rfl) hS ?_
  rw [H.2.1.2.2.1]
  refine go_ishl dX10_wornOnes_5 ?_
  refine go_iconst (v := 1) dX10_wornOnes_6 rfl ?_
  refine go_isub dX10_wornOnes_7 ?_
  refine go_aloadn dX10_wornOnes_8 rfl ?_
  refine go_iloadn dX10_wornOnes_9 rfl ?_
  refine go_iconst (v := -1) dX10_wornOnes_10 rfl ?_
  refine sg_cVi (M' := mX10_wornBy) ([.int (nI b), .int (-1)]) dX10_wornOnes_11 lX10_300 vX10_wornBy (mo_L rfl) (by decide) rfl hS (q_wornBy W H hT hb) rfl (Nat.le_of_ble_eq_true rfl) (Nat.zero_le _) (Nat.zero_le _) ?_
  refine go_iconst (v := -1) dX10_wornOnes_14 rfl ?_
  refine go_ixor dX10_wornOnes_15 ?_
  refine go_iand dX10_wornOnes_16 ?_
  refine go_ireturn dX10_wornOnes_17 rfl rfl (Nat.zero_le _) (Nat.zero_le _) ?_
  exact ⟨congrArg (fun z => some (Value.int z)) (wo_not (P := fun t => tB T t = -1) (by omega)), rfl⟩
theorem q_eyesOn {l : Launch} {d as ar b p : Nat} {C : Cy} {T : Tn} {h : Hp} (W : WC C) (H : MC h as ar C) (hT : MT h b C T) (hb : b ≤ 105) (hp : p < cP C) (hd : tD T < 2 ^ 31) : Ex l (d + 3) mX10_eyesOn [.ref 77, .int (nI b), .int (nI p)] h (some (.int (if hI h 77 47 = 0 then lkT C T p (tD T) else 0))) h := by
  have hS := H.1
  refine run_lv [some (.ref 77), some (.int (nI b)), some (.int (nI p))] (go := ?_)
  refine go_aloadn dX10_eyesOn_0 rfl ?_
  refine sg_getI dX10_eyesOn_1 fX10_303 rfl (mo_L rfl) hS ?_
  refine go_if_eq (tgt := 11) dX10_eyesOn_4 (by decide) (fun c4 => ?_) (fun c4 => ?_)
  · refine go_aloadn dX10_eyesOn_11 rfl ?_
    refine go_iloadn dX10_eyesOn_12 rfl ?_
    refine go_iloadn dX10_eyesOn_13 rfl ?_
    refine go_aloadn dX10_eyesOn_14 rfl ?_
    refine sg_getR dX10_eyesOn_15 fX10_66 rfl (mo_L rfl) hS (mo_r42 hS rfl) ?_
    refine go_iloadn dX10_eyesOn_18 rfl ?_
    refine go_iconst (v := 0) dX10_eyesOn_19 rfl ?_
    refine go_iadd dX10_eyesOn_20 ?_
    refine sg_ialdN (i := b) dX10_eyesOn_21 (mo_42 rfl) hS (by simp only [lit_nI, nI_add, pk_mul, Nat.add_assoc, Nat.zero_add, Nat.add_zero]) (by omega) (hT.1) ?_
    refine sg_cVi (M' := mX10_looksAt) ([.int (nI b), .int (nI p), .int (nI (tD T))]) dX10_eyesOn_22 lX10_306 vX10_looksAt (mo_L rfl) (by decide) rfl hS (q_looksAt W H hT hb hp hd) rfl (Nat.le_of_ble_eq_true rfl) (Nat.zero_le _) (Nat.zero_le _) ?_
    refine go_ireturn dX10_eyesOn_25 rfl rfl (Nat.zero_le _) (Nat.zero_le _) ?_
    exact ⟨by first | rw [if_pos c4] | rw [if_neg c4], rfl⟩
  · refine go_iconst (v := 0) dX10_eyesOn_7 rfl ?_
    refine go_goto (tgt := 25) dX10_eyesOn_8 (by decide) ?_
    refine go_ireturn dX10_eyesOn_25 rfl rfl (Nat.zero_le _) (Nat.zero_le _) ?_
    exact ⟨by first | rw [if_pos c4] | rw [if_neg c4], rfl⟩
