/-! what is noted, in a town; Vanities -/
abbrev Nt : Type := Nat × (Nat → Nat) × (Nat → Nat) × (Nat → Int32)
abbrev qM (Q : Nt) : Nat := Q.1
abbrev qT (Q : Nt) : Nat → Nat := Q.2.1
abbrev qD (Q : Nt) : Nat → Nat := Q.2.2.1
abbrev qW (Q : Nt) : Nat → Int32 := Q.2.2.2
def NV (h : Hp) (n N : Nat) (Q : Nt) : Prop := NI h n (qM Q) N ∧ ∀ i, i < qM Q → hI h (n + 1) i = nI (qT Q i) ∧ qT Q i < N ∧ hI h (n + 2) i = nI (qD Q i) ∧ qD Q i ≤ 30 ∧ hI h (n + 3) i = qW Q i
/-- the first note that isn't so behind k days -/
def nbT (Q : Nt) (T : Tn) (k : Nat) : Option Nat := fsN (fun i => qD Q i = k ∧ ¬ (if tB T (qT Q i) = -1 then (0 : Int32) else 1) = qW Q i) (qM Q)
def hoT (C : Cy) (Q : Nt) (T : Tn) : Bool := decide (fsN (fun k => ¬ nbT Q (dnT C T k) k = none) 31 = none)
theorem TV.dn {h : Hp} {b c fs fr : Nat} {C : Cy} {T : Tn} (W : WC C) (H : TV h b c fs fr C T) {k : Nat} (hD : tD T + k < 2 ^ 30) : TV (dnH h b c (cN C) (cP C) fs (cSh C).1 fr (cRe C).1 (tD T) k) b c fs fr C (dnT C T k) := by
  induction k with
  | zero => exact H
  | succ k ih =>
    have := (ih (by omega)).pd (fog := 0) W (by rw [tD_dn]; omega)
    rw [tD_dn] at this
    exact this
theorem hbN_nbT {h : Hp} {n N b c fs fr k : Nat} {Q : Nt} {g : Hp} {C : Cy} {T : Tn} (hN : N = cN C) (hN10 : N ≤ 10) (hk : k ≤ 40) (V : NV h n N Q) (H : TV g b c fs fr C T) : hbN h n (qM Q) g b k = nbT Q T k := by
  subst hN
  unfold hbN nbT
  refine fs_cong (fun i hi => ?_)
  obtain ⟨a1, a2, a3, a4, a5⟩ := V.2 i hi
  rw [a1, a3, a5, cl_nI (by omega), (H.2.2.1 _ a2).2.1, nI_eq (by omega) (by omega)]
theorem ldN_nD {h : Hp} {n N : Nat} {Q : Nt} (V : NV h n N Q) {k : Nat} (hk : k ≤ qM Q) : ∀ i, i < k → qD Q i ≤ ldN h n k := by
  induction k with
  | zero => intro i hi; omega
  | succ k ih =>
    intro i hi
    obtain ⟨-, -, a3, a4, -⟩ := V.2 k (by omega)
    have e : ldN h n (k + 1) = max (ldN h n k) (qD Q k) := by show max (ldN h n k) (hI h (n + 2) k).toNatClampNeg = _; rw [a3, cl_nI (by omega)]
    rw [e]
    by_cases q : i = k
    · subst q; omega
    · have := ih (by omega) i (by omega); omega
theorem fs_long {P : Nat → Prop} [DecidablePred P] {n m : Nat} (h : n ≤ m) (hn : ∀ j, n ≤ j → j < m → ¬ P j) : (fsN P n = none) ↔ fsN P m = none := by
  constructor
  · intro q
    exact fs_none (fun j hj => by
      rcases Nat.lt_or_ge j n with z | z
      · exact fs_of_none q j z
      · exact hn j z hj)
  · intro q
    exact fs_none (fun j hj => fs_of_none q j (by omega))
theorem r_hold56 {l : Launch} {d n c fs fr : Nat} {C : Cy} {T : Tn} {Q : Nt} {h : Hp} (W : WC C) (hn : NotesAt n) (H : TV h 56 c fs fr C T) (hD : tD T + 30 < 2 ^ 30) (V : NV h n (cN C) Q) : Ey l (d + 6) mX2_hold [.ref n, .ref 56] h (some (.int (if hoT C Q T then 1 else 0))) (F6 h) := by
  have hl := ldN_le V.1 (Nat.le_refl _)
  have e : (fsN (fun k => ¬ hbN h n (qM Q) (dnH h 56 c (cN C) (cP C) fs (cSh C).1 fr (cRe C).1 (tD T) k) 56 k = none) (ldN h n (qM Q) + 1) = none) ↔ hoT C Q T = true := by
    rw [hoT, decide_eq_true_iff]
    rw [fs_cong (Q := fun k => ¬ nbT Q (dnT C T k) k = none) (fun k hk => by rw [hbN_nbT rfl W.1.1 (by omega) V (H.dn W (by omega))])]
    refine fs_long (by omega) (fun j h1 h2 => ?_)
    rw [Decidable.not_not]
    exact fs_none (fun i hi q => by
      have := ldN_nD V (Nat.le_refl _) i hi
      omega)
  have r := r_hold (l := l) (d := d) hn H.1 hD V.1
  have e2 : (if fsN (fun k => ¬ hbN h n (qM Q) (dnH h 56 c (cN C) (cP C) fs (cSh C).1 fr (cRe C).1 (tD T) k) 56 k = none) (ldN h n (qM Q) + 1) = none then (1 : Int32) else 0) = if hoT C Q T = true then 1 else 0 := by
    by_cases q : hoT C Q T = true
    · rw [if_pos q, if_pos (e.mpr q)]
    · rw [if_neg q, if_neg (fun z => q (e.mp z))]
  rw [e2] at r
  exact r.mono (fun g q => q.f6)
theorem NV.fq {S : Nat → Prop} {h g : Hp} {n N : Nat} {Q : Nt} (V : NV h n N Q) (hn : NotesAt n) (F : Fq S h g) (hS : ∀ a, S a → Sc a) : NV g n N Q := by
  have e : ∀ i, i ≤ 3 → ∀ k, hI g (n + i) k = hI h (n + i) k := fun i hi k => F.2.2.2 _ _ (fun q => by have := hS _ q; unfold Sc at this; rcases hn with rfl | rfl <;> omega)
  obtain ⟨⟨h1, h2, h3⟩, h4⟩ := V
  refine ⟨⟨(e 0 (by omega) 0).trans h1, h2, fun i hi => ?_⟩, fun i hi => ?_⟩
  · rw [e 1 (by omega), e 2 (by omega), e 3 (by omega)]; exact h3 i hi
  · rw [e 1 (by omega), e 2 (by omega), e 3 (by omega)]; exact h4 i hi
/-- another vanity -/
def vaT (p : Nat) (v : Int32) (T : Tn) : Tn := (tD T, tC T, tO T, tB T, tS T, tX T, tH T, upd (tV T) p v, tW T)
/-- whether all that is noted would be so if p's vanity were v -/
def okC (C : Cy) (Q : Nt) (T : Tn) (p v : Nat) : Bool := if btF (fun t => tB T t = nI p) (cN C) = 0 then hoT C Q (t0 T) else hoT C Q (vaT p (nI v) (t0 T))
def fn1 (C : Cy) (Q : Nt) (T : Tn) (k : Nat) (s : Nat × (Nat → Int32)) : Nat × (Nat → Int32) := if tV T (k / 10) = nI (k % 10) then s else if okC C Q T (k / 10) (k % 10) then (s.1 + 1, upd s.2 s.1 (nI k)) else s
def fnT (C : Cy) (Q : Nt) (T : Tn) (f : Nat → Int32) : Nat → Nat × (Nat → Int32) := foF (fn1 C Q T) (0, f)
def S7 (a : Nat) : Prop := 56 ≤ a ∧ a ≤ 67 ∨ 70 ≤ a ∧ a ≤ 72
abbrev F7 (g g' : Hp) : Prop := Fq S7 g g'
theorem F67 {g g' : Hp} (h : F6 g g') : F7 g g' := h.sub (fun a q => by unfold S6 at q; unfold S7; omega)
theorem s7c {a : Nat} (q : S7 a) : Sc a := by unfold S7 at q; unfold Sc; omega
theorem fnT_le {C : Cy} {Q : Nt} {T : Tn} {f : Nat → Int32} (hv : ∀ p, p < cP C → ∃ x, x ≤ 9 ∧ tV T p = nI x) {k : Nat} (hk : k ≤ 10 * cP C) : (fnT C Q T f k).1 ≤ 9 * (k / 10) + k % 10 ∧ (∀ x, k / 10 < cP C → tV T (k / 10) = nI x → x ≤ 9 → x < k % 10 → (fnT C Q T f k).1 + 1 ≤ 9 * (k / 10) + k % 10) := by
  induction k with
  | zero => exact ⟨Nat.le_refl _, fun x _ _ _ h => absurd h (Nat.not_lt_zero _)⟩
  | succ k ih =>
    obtain ⟨i1, i2⟩ := ih (by omega)
    obtain ⟨x, hx, ex⟩ := hv (k / 10) (by omega)
    have es : fnT C Q T f (k + 1) = fn1 C Q T k (fnT C Q T f k) := rfl
    rw [es]
    generalize fnT C Q T f k = s at *
    have b1 : (fn1 C Q T k s).1 ≤ s.1 + 1 := by unfold fn1; split; (· omega); (split <;> simp)
    have b2 : k % 10 = x → (fn1 C Q T k s).1 = s.1 := fun q => by unfold fn1; rw [if_pos (by rw [ex, q])]
    have i2' := i2 x (by omega) ex hx
    have c1 : (k % 10 = 9 ∧ (k + 1) / 10 = k / 10 + 1 ∧ (k + 1) % 10 = 0) ∨ (k % 10 < 9 ∧ (k + 1) / 10 = k / 10 ∧ (k + 1) % 10 = k % 10 + 1) := by omega
    rcases c1 with ⟨z1, z2, z3⟩ | ⟨z1, z2, z3⟩
    · rw [z2, z3]
      refine ⟨?_, fun y _ _ _ h => absurd h (Nat.not_lt_zero _)⟩
      by_cases q : k % 10 = x
      · rw [b2 q]; omega
      · have := i2' (by omega); omega
    · rw [z2, z3]
      refine ⟨by omega, fun y hy ey hy9 h => ?_⟩
      have : y = x := (nI_eq (by omega) (by omega)).mp (ey.symm.trans ex)
      subst this
      by_cases q : k % 10 = y
      · rw [b2 q]; omega
      · have := i2' (by omega); omega
theorem r_find {l : Launch} {d c fs fr : Nat} {C : Cy} {T : Tn} {Q : Nt} {h : Hp} (W : WC C) (H : TV h 30 c fs fr C T) (hD : tD T + 100 < 2 ^ 30) (V : NV h 44 (cN C) Q) (hv : ∀ p, p < cP C → ∃ x, x ≤ 9 ∧ tV T p = nI x) :
    Ey l (d + 7) mX8_find [.ref 70, .ref 30, .ref 44, .ref 55] h none (fun g => F7 h g ∧ hI g 70 0 = nI (fnT C Q T (hI h 71) (10 * cP C)).1 ∧ hI g 71 = (fnT C Q T (hI h 71) (10 * cP C)).2) := by
  have hP := W.1.2.1
  obtain ⟨hc, hbc, hS⟩ := H.hc
  refine run_lv [some (.ref 70), some (.ref 30), some (.ref 44), some (.ref 55), none, none, none, none] (go := ?_)
  have Fa : F7 h (uI h 70 0 0) := Fq.rf.uI (by unfold S7; omega)
  refine go_aloadn dX8_find_0 rfl ?_
  refine go_iconst (v := 0) dX8_find_1 rfl ?_
  refine sg_putI dX8_find_2 fX8_18 rfl rfl (va_L rfl) hS ?_
  have Ha := H.fc (Fa.sub (fun _ => s7c))
  have hS := Ha.hc.2.2
  refine go_aloadn dX8_find_5 rfl ?_
  refine go_aloadn dX8_find_6 rfl ?_
  refine sg_rV0 (M' := mX7_start) ([.ref 30]) dX8_find_7 lX8_22 vX7_start (tr_L rfl) (by decide) rfl hS (r_start Ha) rfl (Nat.le_of_ble_eq_true rfl) (Nat.zero_le _) (Nat.zero_le _) (fun g0 F0 => ?_)
  have Fb : F7 h g0 := Fa.tr (F67 F0.1)
  have hS := F0.2.hc.2.2
  refine go_aloadn dX8_find_10 rfl ?_
  refine go_aloadn dX8_find_11 rfl ?_
  refine sg_getR dX8_find_12 fX8_28 rfl (tr_L rfl) hS (tr_r0 hS rfl) ?_
  refine sg_rVi (M' := mX2_hold) ([.ref 56]) dX8_find_15 lX8_32 vX2_hold (no_L at44) (by decide) rfl hS (r_hold56 W at44 F0.2 (by show tD T + 30 < 2 ^ 30; omega) (V.fq at44 Fb (fun _ => s7c))) rfl (Nat.le_of_ble_eq_true rfl) (Nat.zero_le _) (Nat.zero_le _) (fun g1 F1 => ?_)
  refine go_ist4 dX8_find_18 rfl ?_
  refine go_iconst (v := 0) dX8_find_20 rfl ?_
  refine go_ist5 dX8_find_21 rfl ?_
  skip
  have m0 : hI g1 70 0 = nI 0 := by rw [F1.2.2.2 70 0 (by unfold S6; omega), F0.1.2.2.2 70 0 (by unfold S6; omega)]; exact hI_uI_eq
  have m1 : hI g1 71 = hI h 71 := by rw [F1.I (by unfold S6; omega), F0.1.I (by unfold S6; omega)]; funext j; exact hI_uI_ne (by omega)
  refine go_loopR (lvf := fun k => [some (.ref 70), some (.ref 30), some (.ref 44), some (.ref 55), some (.int (if hoT C Q (t0 T) then 1 else 0)), some (.int (nI k)), none, none]) (cP C) (fun k g => F7 h g ∧ hI g 70 0 = nI (fnT C Q T (hI h 71) (10 * k)).1 ∧ hI g 71 = (fnT C Q T (hI h 71) (10 * k)).2) (fun k g hk hh ih => ?_) (fun g hh => ?_) 0 g1 (Nat.zero_le _) ⟨Fb.tr (F67 F1), m0, m1⟩
  · obtain ⟨F, n0, n1⟩ := hh
    have H2 := H.fc (F.sub (fun _ => s7c))
    obtain ⟨-, hbc, hS⟩ := H2.hc
    have hpe := H2.1.1.2.2.2.2.2.2.1
    have ew : btF (fun t => hI g (30 + 6) t = nI k) (cN C) = btF (fun t => tB T t = nI k) (cN C) := btF_cong (fun t ht => by rw [(H2.2.2.1 t ht).2.1])
    have main : ∀ mt : Int32, mt = (if btF (fun t => tB T t = nI k) (cN C) = 0 then 0 else 1) → Go l (rmOf (d + 7) (0, 0)) mX8_find (hN h) (Zm (0, 0) (fun v h1 => v = none ∧ F7 h h1 ∧ hI h1 70 0 = nI (fnT C Q T (hI h 71) (10 * cP C)).1 ∧ hI h1 71 = (fnT C Q T (hI h 71) (10 * cP C)).2) noX) 54 [some (.ref 70), some (.ref 30), some (.ref 44), some (.ref 55), some (.int (if hoT C Q (t0 T) then 1 else 0)), some (.int (nI k)), some (.int mt), some (.int (nI 0))] [] g 0 0 := by
      intro mt hmt
      refine go_loopR (lvf := fun v => [some (.ref 70), some (.ref 30), some (.ref 44), some (.ref 55), some (.int (if hoT C Q (t0 T) then 1 else 0)), some (.int (nI k)), some (.int mt), some (.int (nI v))]) 10 (fun v g => F7 h g ∧ hI g 70 0 = nI (fnT C Q T (hI h 71) (10 * k + v)).1 ∧ hI g 71 = (fnT C Q T (hI h 71) (10 * k + v)).2) (fun v g hv10 hh ih2 => ?_) (fun g hh => ?_) 0 g (Nat.zero_le _) ⟨F, n0, n1⟩
      · obtain ⟨F, n0, n1⟩ := hh
        have H2 := H.fc (F.sub (fun _ => s7c))
        obtain ⟨-, hbc, hS⟩ := H2.hc
        have V2 := V.fq at44 F (fun _ => s7c)
        have q1 : (10 * k + v) / 10 = k := by omega
        have q2 : (10 * k + v) % 10 = v := by omega
        obtain ⟨le1, le2⟩ := fnT_le (Q := Q) (f := hI h 71) hv (show 10 * k + v ≤ 10 * cP C by omega)
        rw [q1, q2] at le1 le2
        obtain ⟨x, hx9, hxe⟩ := hv k hk
        have le2 := le2 x hk hxe hx9
        have es : fnT C Q T (hI h 71) (10 * k + (v + 1)) = fn1 C Q T (10 * k + v) (fnT C Q T (hI h 71) (10 * k + v)) := rfl
        rw [es] at ih2
        have e1 : fn1 C Q T (10 * k + v) (fnT C Q T (hI h 71) (10 * k + v)) = if tV T k = nI v then fnT C Q T (hI h 71) (10 * k + v) else if okC C Q T k v then ((fnT C Q T (hI h 71) (10 * k + v)).1 + 1, upd (fnT C Q T (hI h 71) (10 * k + v)).2 (fnT C Q T (hI h 71) (10 * k + v)).1 (nI (10 * k + v))) else fnT C Q T (hI h 71) (10 * k + v) := by unfold fn1; rw [q1, q2]
        rw [e1] at ih2
        generalize fnT C Q T (hI h 71) (10 * k + v) = s at *
        have eV := (H2.2.2.2.1 k hk).2
        have hV : vp_in (nI k) 8 := vp_in_nI (by omega) (by decide)
        have e0 : (nI k).toNatClampNeg = k := cl_nI (by omega)
        have e10 : 10 * nI k + nI v = nI (10 * k + v) := by rw [show (10 : Int32) = nI 10 from rfl, pk_mul, nI_add]
        have nxt : ∀ g', (F7 h g' ∧ hI g' 70 0 = nI (if tV T k = nI v then s else if okC C Q T k v then (s.1 + 1, upd s.2 s.1 (nI (10 * k + v))) else s).1 ∧ hI g' 71 = (if tV T k = nI v then s else if okC C Q T k v then (s.1 + 1, upd s.2 s.1 (nI (10 * k + v))) else s).2) → Go l (rmOf (d + 7) (0, 0)) mX8_find (hN h) (Zm (0, 0) (fun v h1 => v = none ∧ F7 h h1 ∧ hI h1 70 0 = nI (fnT C Q T (hI h 71) (10 * cP C)).1 ∧ hI h1 71 = (fnT C Q T (hI h 71) (10 * cP C)).2) noX) 158 [some (.ref 70), some (.ref 30), some (.ref 44), some (.ref 55), some (.int (if hoT C Q (t0 T) then 1 else 0)), some (.int (nI k)), some (.int mt), some (.int (nI v))] [] g' 0 0 := by
          intro g' hg
          refine go_iinc7 (c1 := 1) dX8_find_158 rfl rfl ?_
          refine go_goto (tgt := 54) dX8_find_161 (by decide) ?_
          exact go_cong (ih2 g' hg) (by simp [nI_1]) rfl
        have put : ∀ g', F7 h g' → hI g' 70 0 = nI s.1 → hI g' 71 = s.2 → ¬ tV T k = nI v → s.1 < 72 → okC C Q T k v = true → Go l (rmOf (d + 7) (0, 0)) mX8_find (hN h) (Zm (0, 0) (fun v h1 => v = none ∧ F7 h h1 ∧ hI h1 70 0 = nI (fnT C Q T (hI h 71) (10 * cP C)).1 ∧ hI h1 71 = (fnT C Q T (hI h 71) (10 * cP C)).2) noX) 131 [some (.ref 70), some (.ref 30), some (.ref 44), some (.ref 55), some (.int (if hoT C Q (t0 T) then 1 else 0)), some (.int (nI k)), some (.int mt), some (.int (nI v))] [] g' 0 0 := by
          intro g' Fg a1 a2 nv lt ok
          have hS := Fg.St H.hc.2.2
          refine go_aloadn dX8_find_131 rfl ?_
          refine sg_getR dX8_find_132 fX8_11 rfl (va_L rfl) hS (va_r3 hS rfl) ?_
          refine go_aloadn dX8_find_135 rfl ?_
          refine sg_getI dX8_find_136 fX8_18 rfl (va_L rfl) hS ?_
          rw [a1]
          refine go_bipush (v := 10) dX8_find_139 rfl ?_
          refine go_iload dX8_find_141 rfl ?_
          refine go_imul dX8_find_143 ?_
          refine go_iload dX8_find_144 rfl ?_
          refine go_iadd dX8_find_146 ?_
          rw [e10]
          refine sg_iast dX8_find_147 (va_3 rfl) hS (vp_in_nI lt (by decide)) ?_
          rw [cl_nI (by omega)]
          refine go_aloadn dX8_find_148 rfl ?_
          refine go_dup dX8_find_149 rfl ?_
          refine sg_getI dX8_find_150 fX8_18 rfl (va_L rfl) hS ?_
          rw [hI_uI_ne (by omega), a1]
          refine go_iconst (v := 1) dX8_find_153 rfl ?_
          refine go_iadd dX8_find_154 ?_
          refine sg_putI dX8_find_155 fX8_18 rfl rfl (va_L rfl) hS ?_
          exact nxt _ ⟨(Fg.uI (by unfold S7; omega)).uI (by unfold S7; omega), by rw [if_neg nv, if_pos ok, hI_uI_eq, nI_1], by rw [if_neg nv, if_pos ok]; funext j; rw [hI_uI_ne (by omega), hI_uI, a2]; simp only [upd, true_and]⟩
        have tail : ¬ tV T k = nI v → s.1 < 72 → Go l (rmOf (d + 7) (0, 0)) mX8_find (hN h) (Zm (0, 0) (fun v h1 => v = none ∧ F7 h h1 ∧ hI h1 70 0 = nI (fnT C Q T (hI h 71) (10 * cP C)).1 ∧ hI h1 71 = (fnT C Q T (hI h 71) (10 * cP C)).2) noX) 85 [some (.ref 70), some (.ref 30), some (.ref 44), some (.ref 55), some (.int (if hoT C Q (t0 T) then 1 else 0)), some (.int (nI k)), some (.int mt), some (.int (nI v))] [] g 0 0 := by
          intro nv lt
          by_cases wz : btF (fun t => tB T t = nI k) (cN C) = 0
          · rw [if_pos wz] at hmt
            subst hmt
            refine go_iload dX8_find_85 rfl ?_
            refine go_if_eq (tgt := 107) dX8_find_87 (by decide) (fun c87 => ?_) (fun c87 => ?_)
            · refine go_iload dX8_find_107 rfl ?_
              refine go_if_eq (tgt := 126) dX8_find_109 (by decide) (fun c109 => ?_) (fun c109 => ?_)
              · refine go_iload dX8_find_126 rfl ?_
                refine go_if_eq (tgt := 158) dX8_find_128 (by decide) (fun c128 => ?_) (fun c128 => ?_)
                · exact nxt g ⟨F, by rw [if_neg nv, if_neg (fun q => by rw [okC, if_pos wz] at q; rw [if_pos q] at c128; exact absurd c128 (by decide))]; exact n0, by rw [if_neg nv, if_neg (fun q => by rw [okC, if_pos wz] at q; rw [if_pos q] at c128; exact absurd c128 (by decide))]; exact n1⟩
                · exact put g F n0 n1 nv lt (by rw [okC, if_pos wz]; by_cases q : hoT C Q (t0 T) = true; exact q; rw [if_neg q] at c128; exact absurd rfl c128)
              · exact absurd rfl c109
            · exact absurd rfl c87
          · rw [if_neg wz] at hmt
            subst hmt
            refine go_iload dX8_find_85 rfl ?_
            refine go_if_eq (tgt := 107) dX8_find_87 (by decide) (fun c87 => ?_) (fun c87 => ?_)
            · exact absurd c87 (by decide)
            · refine go_aloadn dX8_find_90 rfl ?_
              refine go_aloadn dX8_find_91 rfl ?_
              refine sg_rV0 (M' := mX7_start) ([.ref 30]) dX8_find_92 lX8_22 vX7_start (tr_L rfl) (by decide) rfl hS (r_start H2) rfl (Nat.le_of_ble_eq_true rfl) (Nat.zero_le _) (Nat.zero_le _) (fun g3 F3 => ?_)
              have hS := F3.2.hc.2.2
              refine go_aloadn dX8_find_95 rfl ?_
              refine sg_getR dX8_find_96 fX8_28 rfl (tr_L rfl) hS (tr_r0 hS rfl) ?_
              refine sg_getR dX8_find_99 fX8_53 rfl (tw_L (at56)) hS (tw_r3 hS (at56)) ?_
              refine go_iload dX8_find_102 rfl ?_
              refine go_iload dX8_find_104 rfl ?_
              refine sg_iast dX8_find_106 (tw_3 (at56)) hS (hV) ?_
              rw [e0]
              have H4 : TV (uI g3 57 k (nI v)) 56 c fs fr C (vaT k (nI v) (t0 T)) := tv_van F3.2
              have F4 : F7 h (uI g3 57 k (nI v)) := (F.tr (F67 F3.1)).uI (by unfold S7; omega)
              have hS := H4.hc.2.2
              refine go_iload dX8_find_107 rfl ?_
              refine go_if_eq (tgt := 126) dX8_find_109 (by decide) (fun c109 => ?_) (fun c109 => ?_)
              · exact absurd c109 (by decide)
              · refine go_aloadn dX8_find_112 rfl ?_
                refine go_aloadn dX8_find_113 rfl ?_
                refine sg_getR dX8_find_114 fX8_28 rfl (tr_L rfl) hS (tr_r0 hS rfl) ?_
                refine sg_rVi (M' := mX2_hold) ([.ref 56]) dX8_find_117 lX8_32 vX2_hold (no_L at44) (by decide) rfl hS (r_hold56 W at44 H4 (by show tD T + 30 < 2 ^ 30; omega) (V.fq at44 F4 (fun _ => s7c))) rfl (Nat.le_of_ble_eq_true rfl) (Nat.zero_le _) (Nat.zero_le _) (fun g5 F5 => ?_)
                have a0 : hI g5 70 0 = nI s.1 := by rw [F5.2.2.2 70 0 (by unfold S6; omega)]; exact (hI_uI_ne (by omega)).trans ((F3.1.2.2.2 70 0 (by unfold S6; omega)).trans n0)
                have a1 : hI g5 71 = s.2 := by rw [F5.I (by unfold S6; omega)]; funext j; exact (hI_uI_ne (by omega)).trans (by rw [F3.1.I (by unfold S6; omega), n1])
                have Fg : F7 h g5 := F4.tr (F67 F5)
                refine go_if_eq (tgt := 158) dX8_find_120 (by decide) (fun c120 => ?_) (fun c120 => ?_)
                · exact nxt g5 ⟨Fg, by rw [if_neg nv, if_neg (fun q => by rw [okC, if_neg wz] at q; rw [if_pos q] at c120; exact absurd c120 (by decide))]; exact a0, by rw [if_neg nv, if_neg (fun q => by rw [okC, if_neg wz] at q; rw [if_pos q] at c120; exact absurd c120 (by decide))]; exact a1⟩
                · refine go_goto (tgt := 131) dX8_find_123 (by decide) ?_
                  exact put g5 Fg a0 a1 nv lt (by rw [okC, if_neg wz]; by_cases q : hoT C Q (vaT k (nI v) (t0 T)) = true; exact q; rw [if_neg q] at c120; exact absurd rfl c120)
        refine go_iload dX8_find_54 rfl ?_
        refine go_bipush (v := 9) dX8_find_56 rfl ?_
        refine go_icmp_gt (tgt := 164) dX8_find_58 (by decide) (fun c58 => ?_) (fun c58 => ?_)
        · exact absurd c58 (nI_nlt (a := 9) (by omega) (by decide))
        · refine go_iload dX8_find_61 rfl ?_
          refine go_aloadn dX8_find_63 rfl ?_
          refine sg_getR dX8_find_64 fX8_53 rfl (tw_L at30) hS (tw_r3 hS at30) ?_
          refine go_iload dX8_find_67 rfl ?_
          refine sg_iald dX8_find_69 (tw_3 at30) hS (hV) ?_
          rw [e0, eV]
          refine go_icmp_eq (tgt := 158) dX8_find_70 (by decide) (fun c70 => ?_) (fun c70 => ?_)
          · exact nxt g ⟨F, by rw [if_pos c70.symm]; exact n0, by rw [if_pos c70.symm]; exact n1⟩
          · have nv : ¬ tV T k = nI v := fun q => c70 q.symm
            have lt : s.1 < 72 := by by_cases q : x < v; (· have := le2 q; omega); (have : v ≠ x := fun z => nv (by rw [hxe, z])); omega
            refine go_aloadn dX8_find_73 rfl ?_
            refine sg_getI dX8_find_74 fX8_18 rfl (va_L rfl) hS ?_
            rw [n0]
            refine go_bipush (v := 72) dX8_find_77 rfl ?_
            refine go_icmp_lt (tgt := 85) dX8_find_79 (by decide) (fun c79 => ?_) (fun c79 => ?_)
            · exact tail nv lt
            · exact absurd (nI_lt (b := 72) lt (by decide)) c79
      · obtain ⟨F, n0, n1⟩ := hh
        refine go_iload dX8_find_54 rfl ?_
        refine go_bipush (v := 9) dX8_find_56 rfl ?_
        refine go_icmp_gt (tgt := 164) dX8_find_58 (by decide) (fun c58 => ?_) (fun c58 => ?_)
        · refine go_iinc5 (c1 := 1) dX8_find_164 rfl rfl ?_
          refine go_goto (tgt := 23) dX8_find_167 (by decide) ?_
          exact go_back (ih g ⟨F, n0, n1⟩) (by simp [lsub, nI_1]) rfl
        · exact absurd (by decide) c58
    refine go_iload dX8_find_23 rfl ?_
    refine go_aloadn dX8_find_25 rfl ?_
    refine sg_getR dX8_find_26 fX8_38 rfl (tw_L at30) hS hbc ?_
    refine sg_getI dX8_find_29 fX8_44 rfl (ct_L hc) hS ?_
    refine go_icmp_ge (tgt := 170) dX8_find_32 (by decide) (fun c32 => ?_) (fun c32 => ?_)
    · exact absurd (hpe ▸ c32) (nI_ge hk (by omega))
    · refine go_aloadn dX8_find_35 rfl ?_
      refine go_iload dX8_find_36 rfl ?_
      refine sg_cVi (M' := mX6_wearsBits) ([.int (nI k)]) dX8_find_38 lX8_49 vX6_wearsBits (tw_L at30) (by decide) rfl hS (r_wearsBits H2.1.1) rfl (Nat.le_of_ble_eq_true rfl) (Nat.zero_le _) (Nat.zero_le _) ?_
      rw [ew]
      refine go_if_eq (tgt := 48) dX8_find_41 (by decide) (fun c41 => ?_) (fun c41 => ?_)
      · refine go_iconst (v := 0) dX8_find_48 rfl ?_
        refine go_ist6 dX8_find_49 rfl ?_
        refine go_iconst (v := 0) dX8_find_51 rfl ?_
        refine go_ist7 dX8_find_52 rfl ?_
        exact main _ (by first | rw [if_pos c41] | rw [if_neg c41])
      · refine go_iconst (v := 1) dX8_find_44 rfl ?_
        refine go_goto (tgt := 49) dX8_find_45 (by decide) ?_
        refine go_ist6 dX8_find_49 rfl ?_
        refine go_iconst (v := 0) dX8_find_51 rfl ?_
        refine go_ist7 dX8_find_52 rfl ?_
        exact main _ (by first | rw [if_pos c41] | rw [if_neg c41])
  · obtain ⟨F, n0, n1⟩ := hh
    have H2 := H.fc (F.sub (fun _ => s7c))
    obtain ⟨-, hbc, hS⟩ := H2.hc
    have hpe := H2.1.1.2.2.2.2.2.2.1
    refine go_iload dX8_find_23 rfl ?_
    refine go_aloadn dX8_find_25 rfl ?_
    refine sg_getR dX8_find_26 fX8_38 rfl (tw_L at30) hS hbc ?_
    refine sg_getI dX8_find_29 fX8_44 rfl (ct_L hc) hS ?_
    refine go_icmp_ge (tgt := 170) dX8_find_32 (by decide) (fun c32 => ?_) (fun c32 => ?_)
    · refine go_return dX8_find_170 rfl (Nat.zero_le _) (Nat.zero_le _) ?_
      exact ⟨rfl, F, n0, n1⟩
    · exact absurd (by rw [hpe]; exact nI_le (Nat.le_refl _) (by omega)) c32
