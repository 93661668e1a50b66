/-! rules: what is kept -/
def rk : List Nat → Nat
  | [] => 0
  | o :: W => if o = 0 then 0 else if o ≤ 2 then o else if o = 3 then max (rk W) 2 + 1 else if o ≤ 5 then 9 else if o ≤ 7 then 10 else 11
def WW : List Nat → Prop
  | [] => True
  | o :: W => WW W ∧ o ≤ 9 ∧ (o = 0 ∨ (rk W < rk (o :: W) ∧ (o = 3 → rk (o :: W) ≤ 8)))
def zr : List Nat → Nat
  | [] => 0
  | o :: W => (if o = 0 then 1 else 0) + zr W
def bn : List Nat → Nat
  | [] => 0
  | o :: W => (if o = 0 ∨ o = 3 then 0 else 1) + bn W
def rbN (r : Nat) : Nat := if r ≤ 2 then r else if r ≤ 8 then 2 else r - 6
theorem rk_c {o : Nat} {W : List Nat} : rk (o :: W) = if o = 0 then 0 else if o ≤ 2 then o else if o = 3 then max (rk W) 2 + 1 else if o ≤ 5 then 9 else if o ≤ 7 then 10 else 11 := rfl
theorem ww_c {o : Nat} {W : List Nat} : WW (o :: W) = (WW W ∧ o ≤ 9 ∧ (o = 0 ∨ (rk W < rk (o :: W) ∧ (o = 3 → rk (o :: W) ≤ 8)))) := rfl
theorem rk_le {W : List Nat} (h : WW W) : rk W ≤ 11 := by
  cases W with
  | nil => exact Nat.zero_le _
  | cons o W =>
    obtain ⟨-, h2, h3⟩ := h
    rw [rk_c] at *
    by_cases q : o = 3
    · rcases h3 with h3 | h3
      · omega
      · have := h3.2 q; omega
    · split
      · omega
      · split
        · omega
        · split
          · omega
          · split <;> omega
theorem ww_len {W : List Nat} (h : WW W) : W.length ≤ 12 * zr W + rk W := by
  induction W with
  | nil => exact Nat.zero_le _
  | cons o W ih =>
    have i := ih h.1
    have r := rk_le h.1
    have e : zr (o :: W) = (if o = 0 then 1 else 0) + zr W := rfl
    rw [List.length_cons, e]
    by_cases q : o = 0
    · rw [if_pos q]; omega
    · rw [if_neg q]
      have := (h.2.2.resolve_left q).1
      omega
theorem ww_bn {W : List Nat} (h : WW W) : bn W ≤ 5 * zr W + rbN (rk W) := by
  induction W with
  | nil => exact Nat.zero_le _
  | cons o W ih =>
    have i := ih h.1
    have r := rk_le h.1
    have e : zr (o :: W) = (if o = 0 then 1 else 0) + zr W := rfl
    have f : bn (o :: W) = (if o = 0 ∨ o = 3 then 0 else 1) + bn W := rfl
    have m5 : rbN (rk W) ≤ 5 := by unfold rbN; split; omega; split <;> omega
    rw [e, f]
    by_cases q : o = 0
    · rw [if_pos q, if_pos (Or.inl q)]; omega
    · rw [if_neg q]
      obtain ⟨h1, h2⟩ := h.2.2.resolve_left q
      have h3 := rk_le h
      by_cases t : o = 3
      · rw [if_pos (Or.inr t)]
        have h2 := h2 t
        have : rbN (rk W) ≤ rbN (rk (o :: W)) := by
          generalize rk (o :: W) = x at *
          generalize rk W = y at *
          unfold rbN
          repeat' split
          all_goals omega
        omega
      · rw [if_neg (by omega)]
        have : rbN (rk W) + 1 ≤ rbN (rk (o :: W)) := by
          have h9 := h.2.1
          have v : rk (o :: W) = 1 ∨ rk (o :: W) = 2 ∨ rk (o :: W) = 9 ∨ rk (o :: W) = 10 ∨ rk (o :: W) = 11 := by
            rw [rk_c, if_neg q, if_neg t]
            repeat' split
            all_goals omega
          generalize rk (o :: W) = x at *
          generalize rk W = y at *
          unfold rbN
          repeat' split
          all_goals omega
        omega
theorem popW_c {m o : Nat} {W : List Nat} {p : Pr} : popW m (o :: W) p = if m ≤ bdN o then popW m W (psh p (opO o)) else (o :: W, p) := rfl
theorem bd_0 : ∀ o : Fin 10, (bdN o.val = 0 ↔ o.val = 0) ∧ (bdN o.val ≤ 1 → o.val ≤ 1) ∧ (bdN o.val ≤ 3 → o.val ≤ 3) ∧ (bdN o.val ≤ 4 → o.val ≤ 5) ∧ (bdN o.val ≤ 5 → o.val ≤ 7) ∧ (bdN o.val = 4 ↔ (o.val = 4 ∨ o.val = 5)) ∧ (5 ≤ bdN o.val → 6 ≤ o.val) := by decide +kernel
theorem popW_ww {m : Nat} : ∀ {W : List Nat} {p : Pr}, WW W → WW (popW m W p).1
  | [], _, h => h
  | o :: W, p, h => by
    rw [popW_c]
    split
    · exact popW_ww h.1
    · exact h
theorem popW_zr {m : Nat} (hm : 0 < m) : ∀ {W : List Nat} {p : Pr}, WW W → zr (popW m W p).1 = zr W
  | [], _, _ => rfl
  | o :: W, p, h => by
    rw [popW_c]
    split
    · rename_i q
      have h9 := h.2.1
      have := (bd_0 ⟨o, by omega⟩).1
      dsimp only at this
      rw [popW_zr hm h.1, show zr (o :: W) = (if o = 0 then 1 else 0) + zr W from rfl, if_neg (by omega), Nat.zero_add]
    · rfl
theorem popW_top {m : Nat} (hm : 0 < m) : ∀ {W : List Nat} {p : Pr}, topB (popW m W p).1 < m
  | [], _ => hm
  | o :: W, p => by
    rw [popW_c]
    split
    · exact popW_top hm
    · rename_i q
      show bdN o < m
      omega
theorem rk_top {W : List Nat} (h : WW W) : (topB W = 0 → rk W = 0) ∧ (topB W ≤ 1 → rk W ≤ 1) ∧ (topB W ≤ 3 → rk W ≤ 8) ∧ (topB W ≤ 4 → rk W ≤ 9) ∧ (topB W ≤ 5 → rk W ≤ 10) := by
  cases W with
  | nil => exact ⟨fun _ => rfl, fun _ => Nat.zero_le _, fun _ => Nat.zero_le _, fun _ => Nat.zero_le _, fun _ => Nat.zero_le _⟩
  | cons o W =>
    obtain ⟨h1, h2, h3⟩ := h
    obtain ⟨a1, a2, a3, a4, a5, -, -⟩ := bd_0 ⟨o, by omega⟩
    dsimp only at a1 a2 a3 a4 a5
    have e : topB (o :: W) = bdN o := rfl
    rw [e, rk_c] at *
    by_cases q : o = 3
    · subst q
      have h3 := (h3.resolve_left (by decide)).2 rfl
      have eb : bdN 3 = 3 := rfl
      rw [eb]
      refine ⟨fun z => by omega, fun z => by omega, fun _ => h3, fun _ => by omega, fun _ => by omega⟩
    · rw [if_neg q]
      refine ⟨fun z => ?_, fun z => ?_, fun z => ?_, fun z => ?_, fun z => ?_⟩
      · rw [if_pos (a1.mp z)]
      · have := a2 z; repeat' split
        all_goals omega
      · have := a3 z; repeat' split
        all_goals omega
      · have := a4 z; repeat' split
        all_goals omega
      · have := a5 z; repeat' split
        all_goals omega
/-- the program so far may stand -/
def PO (A : Nat → Prop) (p : Pr) : Prop := ∀ j, j < p.1 → ok1 A (p.2 j) (dpF p j)
theorem dp_psh {p : Pr} {o : Op} : ∀ j, j ≤ p.1 → dpF (psh p o) j = dpF p j
  | 0, _ => rfl
  | j + 1, h => by
    show dp1 (if j = p.1 then o else p.2 j) (dpF (psh p o) j) = dp1 (p.2 j) (dpF p j)
    rw [if_neg (by omega), dp_psh j (by omega)]
theorem dp_new {p : Pr} {o : Op} : dpF (psh p o) (psh p o).1 = dp1 o (dpF p p.1) := by
  show dp1 (if p.1 = p.1 then o else p.2 p.1) (dpF (psh p o) p.1) = _
  rw [if_pos rfl, dp_psh _ (Nat.le_refl _)]
theorem PO.psh {A : Nat → Prop} {p : Pr} {o : Op} (h : PO A p) (ho : ok1 A o (dpF p p.1)) : PO A (psh p o) := by
  intro j hj
  have hj : j < p.1 + 1 := hj
  show ok1 A (if j = p.1 then o else p.2 j) _
  rw [dp_psh j (by omega)]
  by_cases q : j = p.1
  · rw [if_pos q, q]; exact ho
  · rw [if_neg q]; exact h j (by omega)
theorem popW_po {A : Nat → Prop} {m : Nat} (hm : 0 < m) : ∀ {W : List Nat} {p : Pr}, WW W → PO A p → dpF p p.1 = bn W + 1 → PO A (popW m W p).2 ∧ dpF (popW m W p).2 (popW m W p).2.1 = bn (popW m W p).1 + 1
  | [], p, _, h, e => ⟨h, e⟩
  | o :: W, p, hw, h, e => by
    rw [popW_c]
    split
    · rename_i q
      have h9 := hw.2.1
      have a1 := (bd_0 ⟨o, by omega⟩).1
      dsimp only at a1
      rw [show bn (o :: W) = (if o = 0 ∨ o = 3 then 0 else 1) + bn W from rfl] at e
      refine popW_po hm hw.1 (h.psh ?_) ?_
      · unfold opO
        by_cases t : o = 3
        · rw [if_pos t]; exact Or.inr (Or.inr (Or.inl ⟨rfl, by omega⟩))
        · rw [if_neg t]
          rw [if_neg (by omega)] at e
          exact Or.inr (Or.inr (Or.inr ⟨rfl, by omega, by show 1 ≤ o; omega, t, h9⟩))
      · rw [dp_new]
        unfold opO
        by_cases t : o = 3
        · rw [if_pos t]
          rw [if_pos (Or.inr t)] at e
          show dpF p p.1 = _
          omega
        · rw [if_neg t]
          rw [if_neg (by omega)] at e
          show dpF p p.1 - 1 = _
          omega
    · exact ⟨h, e⟩
theorem tkE_gt {b : Nat → Nat} {n s : Nat} (h : s < n) : s < tkE b n s := by
  unfold tkE
  rw [if_neg (by omega)]
  by_cases a : isL (b s) = true
  · rw [if_pos a]
    obtain ⟨-, s2, s3, -⟩ := spn_ok (p := fun j => isL (b j)) (n := n) (i := s)
    rcases Nat.lt_or_ge s (spn (fun j => isL (b j)) n s) with q | q
    · exact q
    · have e : spn (fun j => isL (b j)) n s = s := by omega
      rw [e] at s2; exact absurd ⟨h, a⟩ s2
  · rw [if_neg a]
    by_cases c : isD (b s) = true
    · rw [if_pos c]
      obtain ⟨-, s2, s3, -⟩ := spn_ok (p := fun j => isD (b j)) (n := n) (i := s)
      rcases Nat.lt_or_ge s (spn (fun j => isD (b j)) n s) with q | q
      · exact q
      · have e : spn (fun j => isD (b j)) n s = s := by omega
        rw [e] at s2; exact absurd ⟨h, c⟩ s2
    · rw [if_neg c]; omega
theorem nx_gt {b : Nat → Nat} {n s : Nat} (h : s < n) : s < nx b n s := Nat.lt_of_lt_of_le (tkE_gt h) (spn_ok (p := fun j => isW (b j)) (n := n) (i := tkE b n s)).2.2.1
/-- what holds of a rule while it is read -/
def UV (A : Nat → Prop) (n cl : Nat) (U : Ru) : Prop := (uS U ≤ n ∧ n ≤ 700 ∧ cl + (uP U).1 + (uW U).length ≤ uS U) ∧ (uD U ≤ 1 ∧ uM U ≤ 1 ∧ uC U ≤ 6) ∧ (WW (uW U) ∧ zr (uW U) = uE U ∧ uE U ≤ 6) ∧ (uD U = 1 → uM U = 1 → rk (uW U) ≤ 2 + uC U) ∧ PO A (uP U) ∧ dpF (uP U) (uP U).1 + uD U = bn (uW U) + 1
theorem ww_9 : ∀ {W : List Nat}, WW W → ∀ o, o ∈ W → o ≤ 9
  | [], _, o, h => absurd h (by simp)
  | x :: W, hw, o, h => by
    rcases List.mem_cons.mp h with q | q
    · rw [q]; exact hw.2.1
    · exact ww_9 hw.1 o q
theorem UV.ub {A : Nat → Prop} {n cl : Nat} {U : Ru} (V : UV A n cl U) : UB n cl U ∧ (0 < uE U → 0 < (uW U).length) := by
  obtain ⟨⟨a1, a2, a3⟩, ⟨a4, a5, a6⟩, ⟨a7, a8, a9⟩, -, -, -⟩ := V
  have h1 := ww_len a7
  have h2 := rk_le a7
  refine ⟨⟨a9, a6, a4, a5, ww_9 a7, by omega, a3, a1, a2⟩, fun q => ?_⟩
  generalize uW U = W at *
  cases W with
  | nil => have : zr [] = 0 := rfl; omega
  | cons o W => exact Nat.succ_pos _
theorem uv_P {A : Nat → Prop} {b : Nat → Nat} {n cl sh : Nat} {U : Ru} (V : UV A n cl U) (hA : ∀ k, vlA sh k → A (mvN k)) (d1 : uD U = 1) (q : uQ (rstP b n sh U) = 0) : UV A n cl (rstP b n sh U) ∧ uS U < uS (rstP b n sh U) := by
  obtain ⟨⟨a1, a2, a3⟩, ⟨a4, a5, a6⟩, ⟨a7, a8, a9⟩, a10, a11, a12⟩ := V
  have w1 := ww_bn a7
  have w2 := rk_le a7
  have w3 : rbN (rk (uW U)) ≤ 5 := by unfold rbN; split; omega; split <;> omega
  have q2 : ∀ y, ¬ uQ (ruFl U y) = 0 := fun y => by show ¬ (2 : Nat) = 0; decide
  unfold rstP at q ⊢
  by_cases z : tkK b n (uS U) = 2 ∨ tkK b n (uS U) = 1 ∨ (tkK b n (uS U) = 3 ∧ b (uS U) = 40)
  · rw [if_pos z] at q ⊢
    have sn := tk3 (b := b) (n := n) (s := uS U) (by omega)
    have ng := nx_gt (b := b) sn
    have nl := nx_le (b := b) a1
    by_cases y : 6 ≤ uE U
    · rw [if_pos y] at q; exact absurd q (q2 _)
    · rw [if_neg y] at q ⊢
      by_cases k2 : tkK b n (uS U) = 2
      · rw [if_pos k2] at q ⊢
        by_cases f : ftF b n (uS U) = 0
        · rw [if_pos f]
          refine ⟨⟨⟨nl, a2, ?_⟩, ⟨Nat.zero_le _, a5, a6⟩, ⟨a7, a8, a9⟩, fun z => absurd z (show ¬ (0 : Nat) = 1 by decide), a11.psh (Or.inl ⟨rfl, nvT_lt k2, by omega⟩), ?_⟩, ng⟩
          · show cl + ((uP U).1 + 1) + (uW U).length ≤ nx b n (uS U); omega
          · show dpF (psh (uP U) _) (psh (uP U) _).1 + 0 = _
            rw [dp_new]
            show dpF (uP U) (uP U).1 + 1 + 0 = bn (uW U) + 1
            omega
        · rw [if_neg f] at q; exact absurd q (q2 _)
      · rw [if_neg k2] at q ⊢
        by_cases k1 : tkK b n (uS U) = 1
        · rw [if_pos k1] at q ⊢
          unfold rstW at q ⊢
          by_cases x : uM U = 1 ∧ kwN b n (uS U) = 19
          · rw [if_pos x] at q ⊢
            by_cases f : 6 ≤ uC U
            · rw [if_pos f] at q; exact absurd q (q2 _)
            · rw [if_neg f]
              have r := a10 d1 x.1
              have r3 : rk (3 :: uW U) = max (rk (uW U)) 2 + 1 := rfl
              refine ⟨⟨⟨nl, a2, ?_⟩, ⟨a4, a5, ?_⟩, ⟨⟨a7, by decide, Or.inr ⟨by rw [r3]; omega, fun _ => by rw [r3]; omega⟩⟩, ?_, a9⟩, fun _ _ => ?_, a11, ?_⟩, ng⟩
              · show cl + (uP U).1 + ((uW U).length + 1) ≤ nx b n (uS U); omega
              · show uC U + 1 ≤ 6; omega
              · show (if 3 = 0 then 1 else 0) + zr (uW U) = uE U
                rw [if_neg (by decide)]; omega
              · show rk (3 :: uW U) ≤ 2 + (uC U + 1)
                rw [r3]; omega
              · show dpF (uP U) (uP U).1 + uD U = ((if 3 = 0 ∨ 3 = 3 then 0 else 1) + bn (uW U)) + 1
                rw [if_pos (Or.inr rfl)]; omega
          · rw [if_neg x] at q ⊢
            by_cases f : vlA sh (kwN b n (uS U))
            · rw [if_pos f]
              refine ⟨⟨⟨nl, a2, ?_⟩, ⟨Nat.zero_le _, a5, a6⟩, ⟨a7, a8, a9⟩, fun z => absurd z (show ¬ (0 : Nat) = 1 by decide), a11.psh (Or.inr (Or.inl ⟨rfl, mv_9 (by omega), hA _ f, by omega⟩)), ?_⟩, ng⟩
              · show cl + ((uP U).1 + 1) + (uW U).length ≤ nx b n (uS U); omega
              · show dpF (psh (uP U) _) (psh (uP U) _).1 + 0 = _
                rw [dp_new]
                show dpF (uP U) (uP U).1 + 1 + 0 = bn (uW U) + 1
                omega
            · rw [if_neg f] at q; exact absurd q (q2 _)
        · rw [if_neg k1]
          refine ⟨⟨⟨nl, a2, ?_⟩, ⟨a4, Nat.le_refl _, Nat.zero_le _⟩, ⟨⟨a7, by decide, Or.inl rfl⟩, ?_, ?_⟩, fun _ _ => Nat.zero_le _, a11, ?_⟩, ng⟩
          · show cl + (uP U).1 + ((uW U).length + 1) ≤ nx b n (uS U); omega
          · show (if 0 = 0 then 1 else 0) + zr (uW U) = uE U + 1
            rw [if_pos rfl]; omega
          · show uE U + 1 ≤ 6; omega
          · show dpF (uP U) (uP U).1 + uD U = ((if 0 = 0 ∨ 0 = 3 then 0 else 1) + bn (uW U)) + 1
            rw [if_pos (Or.inl rfl)]; omega
  · rw [if_neg z] at q; exact absurd q (q2 _)
theorem op_3 {b : Nat → Nat} {n s : Nat} : ¬ opF b n s = 3 := by
  unfold opF sgO
  repeat' split
  all_goals decide
theorem uv_B {A : Nat → Prop} {b : Nat → Nat} {n cl : Nat} {U : Ru} (V : UV A n cl U) (d0 : uD U = 0) (q : uQ (rstB b n U) = 0) : UV A n cl (rstB b n U) ∧ uS U < uS (rstB b n U) := by
  obtain ⟨⟨a1, a2, a3⟩, ⟨a4, a5, a6⟩, ⟨a7, a8, a9⟩, a10, a11, a12⟩ := V
  have q2 : ∀ y, ¬ uQ (ruFl U y) = 0 := fun y => by show ¬ (2 : Nat) = 0; decide
  have e1 : dpF (uP U) (uP U).1 = bn (uW U) + 1 := by omega
  unfold rstB at q ⊢
  by_cases z : tkK b n (uS U) = 3 ∧ b (uS U) = 41
  · rw [if_pos z] at q ⊢
    have sn := tk3 (b := b) (n := n) (s := uS U) (by omega)
    have ng := nx_gt (b := b) sn
    have nl := nx_le (b := b) a1
    by_cases y : uE U = 0
    · rw [if_pos y] at q; exact absurd q (q2 _)
    · rw [if_neg y]
      have p1 := popW_ww (m := 1) (p := uP U) a7
      have p2 := popW_zr (m := 1) (by decide) (p := uP U) a7
      have p3 := popW_top (m := 1) (by decide) (W := uW U) (p := uP U)
      have p4 := popW_po (m := 1) (by decide) a7 a11 e1
      have p5 := popW_len (m := 1) (uW U) (uP U)
      generalize popW 1 (uW U) (uP U) = x at *
      obtain ⟨W, p⟩ := x
      dsimp only at *
      cases W with
      | nil => have : zr [] = 0 := rfl; omega
      | cons o W =>
        have o9 := p1.2.1
        have o0 := (bd_0 ⟨o, by omega⟩).1
        dsimp only at o0
        have p3 : bdN o < 1 := p3
        have o0 : o = 0 := o0.mp (by omega)
        subst o0
        rw [List.length_cons] at p5
        rw [show zr (0 :: W) = (if 0 = 0 then 1 else 0) + zr W from rfl, if_pos rfl] at p2
        rw [show bn (0 :: W) = (if 0 = 0 ∨ 0 = 3 then 0 else 1) + bn W from rfl, if_pos (Or.inl rfl)] at p4
        refine ⟨⟨⟨nl, a2, ?_⟩, ⟨a4, a5, a6⟩, ⟨p1.1, ?_, ?_⟩, fun z => absurd (show uD U = 1 from z) (by omega), p4.1, ?_⟩, ng⟩
        · show cl + p.1 + W.length ≤ nx b n (uS U); omega
        · show zr W = uE U - 1; omega
        · show uE U - 1 ≤ 6; omega
        · show dpF p p.1 + uD U = bn W + 1; omega
  · rw [if_neg z] at q ⊢
    by_cases y : opF b n (uS U) = 0
    · rw [if_pos y] at q; exact absurd q (q2 _)
    · rw [if_neg y] at q ⊢
      have hop : ¬ opF b n (uS U) = 3 := op_3
      have nt : tkK b n (uS U) = 1 ∨ tkK b n (uS U) = 3 := by
        unfold opF at y
        by_cases k1 : tkK b n (uS U) = 1
        · exact Or.inl k1
        · rw [if_neg k1] at y
          by_cases k3 : tkK b n (uS U) = 3
          · exact Or.inr k3
          · rw [if_neg k3] at y; exact absurd rfl y
      have sn := tk3 (b := b) (n := n) (s := uS U) (by omega)
      have ng := nx_gt (b := b) sn
      have nl := nx_le (b := b) a1
      have ol := op_le (b := b) (n := n) (s := uS U)
      generalize opF b n (uS U) = o at *
      by_cases w : bdN o = 4 ∧ topB (popW 5 (uW U) (uP U)).1 = 4
      · rw [if_pos w] at q; exact absurd q (q2 _)
      · rw [if_neg w]
        obtain ⟨o1, o2, o3, o4, -⟩ := op_bd ⟨o, by omega⟩ (by show 0 < o; omega)
        dsimp only at o1 o2 o3 o4
        have tg0 : 0 < tgO o := by omega
        have p1 := popW_ww (m := tgO o) (p := uP U) a7
        have p2 := popW_zr tg0 (p := uP U) a7
        have p3 := popW_top tg0 (W := uW U) (p := uP U)
        have p4 := popW_po tg0 a7 a11 e1
        have p5 := popW_len (m := tgO o) (uW U) (uP U)
        have t45 : bdN o = 4 → tgO o = 5 := fun q => by unfold tgO; rw [if_pos q]
        have t46 : ¬ bdN o = 4 → tgO o = bdN o := fun q => by unfold tgO; rw [if_neg q]
        have w5 : bdN o = 4 → ¬ topB (popW (tgO o) (uW U) (uP U)).1 = 4 := fun q => by rw [t45 q]; exact fun z => w ⟨q, z⟩
        generalize popW (tgO o) (uW U) (uP U) = x at *
        obtain ⟨W, p⟩ := x
        dsimp only at *
        have rt := rk_top p1
        have hb : ∀ o : Fin 10, 0 < o.val → (o.val = 1 ∧ bdN o.val = 1) ∨ (o.val = 2 ∧ bdN o.val = 2) ∨ (o.val = 3 ∧ bdN o.val = 3) ∨ ((o.val = 4 ∨ o.val = 5) ∧ bdN o.val = 4) ∨ ((o.val = 6 ∨ o.val = 7) ∧ bdN o.val = 5) ∨ ((o.val = 8 ∨ o.val = 9) ∧ bdN o.val = 6) := by decide
        have hb := hb ⟨o, by omega⟩ (by show 0 < o; omega)
        dsimp only at hb
        have o3n : ¬ o = 3 := hop
        have rr : rk W < rk (o :: W) := by
          rw [rk_c, if_neg y]
          by_cases f4 : bdN o = 4
          · have := t45 f4
            have := w5 f4
            have := rt.2.2.1 (by omega)
            rw [if_neg (by omega), if_neg o3n, if_pos (by omega)]; omega
          · have := t46 f4
            rcases hb with h | h | h | h | h | h
            · have := rt.1 (by omega)
              rw [if_pos (by omega)]; omega
            · have := rt.2.1 (by omega)
              rw [if_pos (by omega)]; omega
            · omega
            · omega
            · have := rt.2.2.2.1 (by omega)
              rw [if_neg (by omega), if_neg o3n, if_neg (by omega), if_pos (by omega)]; omega
            · have := rt.2.2.2.2 (by omega)
              rw [if_neg (by omega), if_neg o3n, if_neg (by omega), if_neg (by omega)]; omega
        refine ⟨⟨⟨nl, a2, ?_⟩, ⟨Nat.le_refl _, ?_, Nat.zero_le _⟩, ⟨⟨p1, ol, Or.inr ⟨rr, fun z => absurd z o3n⟩⟩, ?_, a9⟩, fun _ um => ?_, p4.1, ?_⟩, ng⟩
        · show cl + p.1 + (W.length + 1) ≤ nx b n (uS U); omega
        · show (if o ≤ 2 then 1 else 0) ≤ 1; split <;> omega
        · show (if o = 0 then 1 else 0) + zr W = uE U
          rw [if_neg y]; omega
        · have um : (if o ≤ 2 then 1 else 0) = 1 := um
          have o2 : o ≤ 2 := by
            by_cases q : o ≤ 2
            · exact q
            · rw [if_neg q] at um; exact absurd um (by decide)
          show rk (o :: W) ≤ 2 + 0
          rw [rk_c, if_neg y, if_pos o2]; omega
        · show dpF p p.1 + 1 = ((if o = 0 ∨ o = 3 then 0 else 1) + bn W) + 1
          rw [if_neg (by omega)]; omega
