/-! the model: its city, its rows -/
theorem lit_nI (n : Nat) : (OfNat.ofNat n : Int32) = nI n := rfl
section
variable {l : Launch} {R : Room} {M : MI} {n0 : Nat} {Z : ZT} {pc : Nat} {lv : List (Option Value)} {st : List Value} {h : Hp} {u w : Nat}
theorem sg_ialdN {a n i : Nat} {x y : Int32} (hd : decode M.2.1 pc = .ok (.iaload, 1)) (ha : lay a = .inr (0, n)) (hS : St h) (he : y = nI i) (hi : i < n ∧ n < 2 ^ 31) (hv : hI h a i = x) (kk : Go l R M n0 Z (pc + 1) lv (.int x :: st) h u w) : Go l R M n0 Z pc lv (.int y :: .ref a :: st) h u w := by
  subst he
  refine sg_iald hd ha hS (vp_in_nI hi.1 hi.2) ?_
  rw [cl_nI (by omega), hv]; exact kk
theorem sg_zaldN {a n i : Nat} {x y : Int32} (hd : decode M.2.1 pc = .ok (.baload, 1)) (ha : lay a = .inr (3, n)) (hS : St h) (he : y = nI i) (hi : i < n ∧ n < 2 ^ 31) (hv : hI h a i = x) (kk : Go l R M n0 Z (pc + 1) lv (.int x :: st) h u w) : Go l R M n0 Z pc lv (.int y :: .ref a :: st) h u w := by
  subst he
  refine sg_zald hd ha hS (vp_in_nI hi.1 hi.2) ?_
  rw [cl_nI (by omega), hv]; exact kk
theorem sg_iastN {a n i : Nat} {x y : Int32} (hd : decode M.2.1 pc = .ok (.iastore, 1)) (ha : lay a = .inr (0, n)) (hS : St h) (he : y = nI i) (hi : i < n ∧ n < 2 ^ 31) (kk : Go l R M n0 Z (pc + 1) lv st (uI h a i x) u w) : Go l R M n0 Z pc lv (.int x :: .int y :: .ref a :: st) h u w := by
  subst he
  refine sg_iast hd ha hS (vp_in_nI hi.1 hi.2) ?_
  rw [cl_nI (by omega)]; exact kk
theorem sg_zastN {a n i : Nat} {x y : Int32} (hd : decode M.2.1 pc = .ok (.bastore, 1)) (ha : lay a = .inr (3, n)) (hS : St h) (he : y = nI i) (hi : i < n ∧ n < 2 ^ 31) (kk : Go l R M n0 Z (pc + 1) lv st (uI h a i (vp_nar .boolean x)) u w) : Go l R M n0 Z pc lv (.int x :: .int y :: .ref a :: st) h u w := by
  subst he
  refine sg_zast hd ha hS (vp_in_nI hi.1 hi.2) ?_
  rw [cl_nI (by omega)]; exact kk
end
/-- what may change, by cell and place -/
def Fz (S : Nat → Nat → Prop) (g g' : Hp) : Prop := hR g' = hR g ∧ hN g' = hN g ∧ hJ g' = hJ g ∧ ∀ a k, ¬ S a k → hI g' a k = hI g a k
theorem Fz.rf {S : Nat → Nat → Prop} {g : Hp} : Fz S g g := ⟨rfl, rfl, rfl, fun _ _ _ => rfl⟩
theorem Fz.tr {S : Nat → Nat → Prop} {g g1 g2 : Hp} (h1 : Fz S g g1) (h2 : Fz S g1 g2) : Fz S g g2 := ⟨h2.1.trans h1.1, h2.2.1.trans h1.2.1, h2.2.2.1.trans h1.2.2.1, fun a k q => (h2.2.2.2 a k q).trans (h1.2.2.2 a k q)⟩
theorem Fz.sub {S S' : Nat → Nat → Prop} {g g' : Hp} (h : Fz S g g') (i : ∀ a k, S a k → S' a k) : Fz S' g g' := ⟨h.1, h.2.1, h.2.2.1, fun a k q => h.2.2.2 a k (fun z => q (i a k z))⟩
theorem Fz.uI {S : Nat → Nat → Prop} {g g1 : Hp} (h : Fz S g g1) {a k : Nat} {v : Int32} (ha : S a k) : Fz S g (uI g1 a k v) := h.tr ⟨rfl, rfl, rfl, fun a' k' q => hI_uI_ne (fun z => q (z.1 ▸ z.2 ▸ ha))⟩
theorem Fz.St {S : Nat → Nat → Prop} {g g' : Hp} (h : Fz S g g') (hS : St g) : St g' := ⟨h.2.1.trans hS.1, fun q hq => by rw [h.1]; exact hS.2 q hq⟩
theorem Fz.I {S : Nat → Nat → Prop} {g g' : Hp} (h : Fz S g g') {a k : Nat} (q : ¬ S a k) : hI g' a k = hI g a k := h.2.2.2 a k q
/-- a program in the model's code -/
def mlN (o : Op) : Nat := if o.1 ≤ 1 then 2 else 1
def mpF (p : Pr) : Nat → Nat := foF (fun j a => a + mlN (p.2 j)) 0
def mvN (k : Nat) : Nat := if k = 4 then 5 else if k = 5 then 4 else k
def mactL : List Int32 := [0, 5, 4, 0, 6, 7, 8, 9, 10, 11]
def mcA (o : Op) : Int32 := if o.1 = 0 then 1 else if o.1 = 1 then 2 else if o.1 = 2 then 3 else mactL.getD o.2 0
def mcB (o : Op) : Int32 := if o.1 = 0 then nI o.2 else nI (mvN o.2)
def PM (cd : Nat → Int32) (a : Nat) (p : Pr) : Prop := (∀ j, j < p.1 → cd (a + mpF p j) = mcA (p.2 j) ∧ ((p.2 j).1 ≤ 1 → cd (a + mpF p j + 1) = mcB (p.2 j))) ∧ cd (a + mpF p p.1) = 0 ∧ a + mpF p p.1 < 1400
/-- the model's city -/
def MC (h : Hp) (as ar : Nat) (C : Cy) : Prop := St h ∧ (hI h 77 1 = nI (cL C) ∧ hI h 77 2 = nI (cP C) ∧ hI h 77 3 = nI (cN C) ∧ hI h 77 4 = nI (cM C)) ∧ (hI h 77 5 = (if (cSh C).1 = 0 then -1 else nI as) ∧ hI h 77 6 = (if (cRe C).1 = 0 then -1 else nI ar)) ∧ (∀ p, p < cP C → hI h 78 p = nI (cWl C p) ∧ hI h 81 p = cBl C p) ∧ (∀ t, t < cN C → hI h 79 t = cWt C t) ∧ ((cSh C).1 ≠ 0 → PM (hI h 80) as (cSh C)) ∧ ((cRe C).1 ≠ 0 → PM (hI h 80) ar (cRe C))
/-- the row at b -/
def MT (h : Hp) (b : Nat) (C : Cy) (T : Tn) : Prop := hI h 91 b = nI (tD T) ∧ (∀ t, t < cN C → hI h 91 (b + (1 + t)) = tO T t ∧ hI h 91 (b + (11 + t)) = tB T t ∧ hI h 91 (b + (21 + t)) = tS T t ∧ hI h 91 (b + (31 + t)) = tX T t) ∧ (∀ p, p < cP C → hI h 91 (b + (41 + p)) = tH T p ∧ hI h 91 (b + (49 + p)) = tV T p) ∧ ∀ i, i < 6 * cP C → hI h 91 (b + (57 + i)) = tW T i
/-- what a day of the row at b changes -/
def SD (b a k : Nat) : Prop := (a = 91 ∧ b ≤ k ∧ k < b + 105) ∨ a = 93 ∨ a = 94 ∨ (a = 77 ∧ k = 48)
theorem MC.fz {S : Nat → Nat → Prop} {h g : Hp} {as ar : Nat} {C : Cy} (H : MC h as ar C) (F : Fz S h g) (hs : ∀ a k, S a k → a ≠ 78 ∧ a ≠ 79 ∧ a ≠ 80 ∧ a ≠ 81 ∧ (a = 77 → k < 1 ∨ 6 < k)) : MC g as ar C := by
  have e : ∀ k, 1 ≤ k → k ≤ 6 → hI g 77 k = hI h 77 k := fun k h1 h2 => F.I (fun q => by have := (hs _ _ q).2.2.2.2 rfl; omega)
  have e78 : ∀ k, hI g 78 k = hI h 78 k := fun k => F.I (fun q => (hs _ _ q).1 rfl)
  have e79 : ∀ k, hI g 79 k = hI h 79 k := fun k => F.I (fun q => (hs _ _ q).2.1 rfl)
  have e80 : hI g 80 = hI h 80 := funext fun k => F.I (fun q => (hs _ _ q).2.2.1 rfl)
  have e81 : ∀ k, hI g 81 k = hI h 81 k := fun k => F.I (fun q => (hs _ _ q).2.2.2.1 rfl)
  obtain ⟨h1, h2, h3, h4, h5, h6, h7⟩ := H
  refine ⟨F.St h1, ?_, ?_, ?_, ?_, ?_, ?_⟩
  · rw [e 1 (by omega) (by omega), e 2 (by omega) (by omega), e 3 (by omega) (by omega), e 4 (by omega) (by omega)]; exact h2
  · rw [e 5 (by omega) (by omega), e 6 (by omega) (by omega)]; exact h3
  · intro p hp; rw [e78, e81]; exact h4 p hp
  · intro t ht; rw [e79]; exact h5 t ht
  · rw [e80]; exact h6
  · rw [e80]; exact h7
theorem sd_ok {b a k : Nat} (h : SD b a k) : a ≠ 78 ∧ a ≠ 79 ∧ a ≠ 80 ∧ a ≠ 81 ∧ (a = 77 → k < 1 ∨ 6 < k) := by unfold SD at h; omega
theorem MC.sd {b : Nat} {h g : Hp} {as ar : Nat} {C : Cy} (H : MC h as ar C) (F : Fz (SD b) h g) : MC g as ar C := H.fz F (fun _ _ => sd_ok)
theorem MT.fz {S : Nat → Nat → Prop} {h g : Hp} {b : Nat} {C : Cy} {T : Tn} (W : WC C) (H : MT h b C T) (F : Fz S h g) (hs : ∀ k, b ≤ k → k < b + 105 → ¬ S 91 k) : MT g b C T := by
  have e : ∀ k, k < 105 → hI g 91 (b + k) = hI h 91 (b + k) := fun k hk => F.I (hs _ (by omega) (by omega))
  obtain ⟨h1, h2, h3, h4⟩ := H
  have hN := W.1.1
  have hP := W.1.2.1
  refine ⟨(e 0 (by omega)).trans h1, fun t ht => ?_, fun p hp => ?_, fun i hi => ?_⟩
  · rw [e _ (by omega), e _ (by omega), e _ (by omega), e _ (by omega)]; exact h2 t ht
  · rw [e _ (by omega), e _ (by omega)]; exact h3 p hp
  · rw [e _ (by omega)]; exact h4 i hi
/-! small ones -/
def bdF (v lo hi : Int32) : Int32 := if v < lo then lo else if hi < v then hi else v
theorem q_bounded {l : Launch} {d : Nat} {h : Hp} {v lo hi : Int32} : Ex l (d + 1) mX10_bounded [.int v, .int lo, .int hi] h (some (.int (bdF v lo hi))) h := by
  refine run_lv [some (.int v), some (.int lo), some (.int hi)] (go := ?_)
  refine go_iloadn dX10_bounded_0 rfl ?_
  refine go_iloadn dX10_bounded_1 rfl ?_
  refine go_icmp_ge (tgt := 9) dX10_bounded_2 (by decide) (fun c2 => ?_) (fun c2 => ?_)
  · refine go_iloadn dX10_bounded_9 rfl ?_
    refine go_iloadn dX10_bounded_10 rfl ?_
    refine go_icmp_le (tgt := 18) dX10_bounded_11 (by decide) (fun c11 => ?_) (fun c11 => ?_)
    · refine go_iloadn dX10_bounded_18 rfl ?_
      refine go_ireturn dX10_bounded_19 rfl rfl (Nat.zero_le _) (Nat.zero_le _) ?_
      exact ⟨by first | (rw [bdF, if_neg (Int32.not_lt.mpr c2), if_neg (Int32.not_lt.mpr c11)]; done) | (rw [bdF, if_neg (Int32.not_lt.mpr c2), if_pos (Int32.not_le.mp c11)]; done) | rw [bdF, if_pos (Int32.not_le.mp c2)], rfl⟩
    · refine go_iloadn dX10_bounded_14 rfl ?_
      refine go_goto (tgt := 19) dX10_bounded_15 (by decide) ?_
      refine go_ireturn dX10_bounded_19 rfl rfl (Nat.zero_le _) (Nat.zero_le _) ?_
      exact ⟨by first | (rw [bdF, if_neg (Int32.not_lt.mpr c2), if_neg (Int32.not_lt.mpr c11)]; done) | (rw [bdF, if_neg (Int32.not_lt.mpr c2), if_pos (Int32.not_le.mp c11)]; done) | rw [bdF, if_pos (Int32.not_le.mp c2)], rfl⟩
  · refine go_iloadn dX10_bounded_5 rfl ?_
    refine go_goto (tgt := 19) dX10_bounded_6 (by decide) ?_
    refine go_ireturn dX10_bounded_19 rfl rfl (Nat.zero_le _) (Nat.zero_le _) ?_
    exact ⟨by first | (rw [bdF, if_neg (Int32.not_lt.mpr c2), if_neg (Int32.not_lt.mpr c11)]; done) | (rw [bdF, if_neg (Int32.not_lt.mpr c2), if_pos (Int32.not_le.mp c11)]; done) | rw [bdF, if_pos (Int32.not_le.mp c2)], rfl⟩
theorem q_lesser {l : Launch} {d : Nat} {h : Hp} {a b : Int32} : Ex l (d + 1) mX10_lesser [.int a, .int b] h (some (.int (if a < b then a else b))) h := by
  refine run_lv [some (.int a), some (.int b)] (go := ?_)
  refine go_iloadn dX10_lesser_0 rfl ?_
  refine go_iloadn dX10_lesser_1 rfl ?_
  refine go_icmp_ge (tgt := 9) dX10_lesser_2 (by decide) (fun c2 => ?_) (fun c2 => ?_)
  · refine go_iloadn dX10_lesser_9 rfl ?_
    refine go_ireturn dX10_lesser_10 rfl rfl (Nat.zero_le _) (Nat.zero_le _) ?_
    exact ⟨by first | (rw [if_neg (Int32.not_lt.mpr c2)]; done) | rw [if_pos (Int32.not_le.mp c2)], rfl⟩
  · refine go_iloadn dX10_lesser_5 rfl ?_
    refine go_goto (tgt := 10) dX10_lesser_6 (by decide) ?_
    refine go_ireturn dX10_lesser_10 rfl rfl (Nat.zero_le _) (Nat.zero_le _) ?_
    exact ⟨by first | (rw [if_neg (Int32.not_lt.mpr c2)]; done) | rw [if_pos (Int32.not_le.mp c2)], rfl⟩
theorem q_within {l : Launch} {d : Nat} {h : Hp} {v lo hi : Int32} : Ex l (d + 1) mX10_within [.int v, .int lo, .int hi] h (some (.int (if lo ≤ v ∧ v ≤ hi then 1 else 0))) h := by
  refine run_lv [some (.int v), some (.int lo), some (.int hi)] (go := ?_)
  refine go_iloadn dX10_within_0 rfl ?_
  refine go_iloadn dX10_within_1 rfl ?_
  refine go_icmp_lt (tgt := 14) dX10_within_2 (by decide) (fun c2 => ?_) (fun c2 => ?_)
  · refine go_iconst (v := 0) dX10_within_14 rfl ?_
    refine go_ireturn dX10_within_15 rfl rfl (Nat.zero_le _) (Nat.zero_le _) ?_
    exact ⟨by first | (rw [if_neg (fun q => Int32.not_le.mpr c2 q.1)]; done) | (rw [if_neg (fun q => Int32.not_le.mpr c7 q.2)]; done) | rw [if_pos ⟨Int32.not_lt.mp c2, Int32.not_lt.mp c7⟩], rfl⟩
  · refine go_iloadn dX10_within_5 rfl ?_
    refine go_iloadn dX10_within_6 rfl ?_
    refine go_icmp_gt (tgt := 14) dX10_within_7 (by decide) (fun c7 => ?_) (fun c7 => ?_)
    · refine go_iconst (v := 0) dX10_within_14 rfl ?_
      refine go_ireturn dX10_within_15 rfl rfl (Nat.zero_le _) (Nat.zero_le _) ?_
      exact ⟨by first | (rw [if_neg (fun q => Int32.not_le.mpr c2 q.1)]; done) | (rw [if_neg (fun q => Int32.not_le.mpr c7 q.2)]; done) | rw [if_pos ⟨Int32.not_lt.mp c2, Int32.not_lt.mp c7⟩], rfl⟩
    · refine go_iconst (v := 1) dX10_within_10 rfl ?_
      refine go_goto (tgt := 15) dX10_within_11 (by decide) ?_
      refine go_ireturn dX10_within_15 rfl rfl (Nat.zero_le _) (Nat.zero_le _) ?_
      exact ⟨by first | (rw [if_neg (fun q => Int32.not_le.mpr c2 q.1)]; done) | (rw [if_neg (fun q => Int32.not_le.mpr c7 q.2)]; done) | rw [if_pos ⟨Int32.not_lt.mp c2, Int32.not_lt.mp c7⟩], rfl⟩
/-- how many of the ten lowest bits are set -/
def bi10 (v : Int32) : Nat → Int32 := foF (fun k n => n + ((v >>> (nI k &&& 31)) &&& 1)) 0
theorem q_bits {l : Launch} {d : Nat} {h : Hp} {v : Int32} : Ex l (d + 1) mX10_bits [.int v] h (some (.int (bi10 v 10))) h := by
  refine run_lv [some (.int v), none, none] (go := ?_)
  refine go_iconst (v := 0) dX10_bits_0 rfl ?_
  refine go_ist1 dX10_bits_1 rfl ?_
  refine go_iconst (v := 0) dX10_bits_2 rfl ?_
  refine go_ist2 dX10_bits_3 rfl ?_
  refine go_loop (lvf := fun k => [some (.int v), some (.int (bi10 v k)), some (.int (nI k))]) (hf := fun _ => h) 10 (fun _ => True) (fun k hk _ ih => ?_) (fun _ => ?_) 0 (Nat.zero_le _) trivial
  · refine go_iloadn dX10_bits_4 rfl ?_
    refine go_bipush (v := 10) dX10_bits_5 rfl ?_
    refine go_icmp_ge (tgt := 24) dX10_bits_7 (by decide) (fun c7 => absurd c7 (nI_ge (b := 10) hk (by omega))) (fun c7 => ?_)
    refine go_iloadn dX10_bits_10 rfl ?_
    refine go_iloadn dX10_bits_11 rfl ?_
    refine go_iloadn dX10_bits_12 rfl ?_
    refine go_ishr dX10_bits_13 ?_
    refine go_iconst (v := 1) dX10_bits_14 rfl ?_
    refine go_iand dX10_bits_15 ?_
    refine go_iadd dX10_bits_16 ?_
    refine go_ist1 dX10_bits_17 rfl ?_
    refine go_iinc2 (c1 := 1) dX10_bits_18 rfl rfl ?_
    refine go_goto (tgt := 4) dX10_bits_21 (by decide) ?_
    exact go_cong (ih trivial) (by simp [bi10, foF, nI_1]) rfl
  · refine go_iloadn dX10_bits_4 rfl ?_
    refine go_bipush (v := 10) dX10_bits_5 rfl ?_
    refine go_icmp_ge (tgt := 24) dX10_bits_7 (by decide) (fun c7 => ?_) (fun c7 => absurd (by decide) c7)
    refine go_iloadn dX10_bits_24 rfl ?_
    refine go_ireturn dX10_bits_25 rfl rfl (Nat.zero_le _) (Nat.zero_le _) ?_
    exact ⟨rfl, rfl⟩
theorem bI_nI {n i : Nat} (hi : i < 32) : bI (nI n) i = n.testBit i := by
  have e : (nI n).toBitVec = BitVec.ofNat 32 n := rfl
  rw [bI, e, BitVec.getLsbD_ofNat]; simp [hi]
theorem nI_or {a b : Nat} : nI a ||| nI b = nI (a ||| b) := bI_ext fun i hi => by
  rw [bI_or, bI_nI hi, bI_nI hi, bI_nI hi, Nat.testBit_or]
theorem one_nI : ∀ k : Fin 31, (1 : Int32) <<< (nI k.val &&& 31) = nI (2 ^ k.val) := by decide +kernel
theorem btF_nI {P : Nat → Prop} [DecidablePred P] {n : Nat} (hn : n ≤ 30) : ∃ k, k < 2 ^ n ∧ btF P n = nI k := by
  induction n with
  | zero => exact ⟨0, by decide, rfl⟩
  | succ n ih =>
    obtain ⟨k, hk, e⟩ := ih (by omega)
    have h2 : 2 ^ n < 2 ^ (n + 1) := Nat.pow_lt_pow_right (by decide) (by omega)
    show ∃ k, k < 2 ^ (n + 1) ∧ (if P n then btF P n ||| (1 <<< (nI n &&& 31)) else btF P n) = nI k
    by_cases q : P n
    · refine ⟨k ||| 2 ^ n, Nat.or_lt_two_pow (by omega) h2, ?_⟩
      rw [if_pos q, e, one_nI ⟨n, by omega⟩, nI_or]
    · exact ⟨k, by omega, by rw [if_neg q, e]⟩
set_option maxRecDepth 100000 in
theorem bi_bc0 : ∀ k : Fin 1024, bi10 (nI k.val) 10 = bcF (nI k.val) := by decide +kernel
theorem bi_bc {P : Nat → Prop} [DecidablePred P] {n : Nat} (hn : n ≤ 10) : bi10 (btF P n) 10 = bcF (btF P n) := by
  obtain ⟨k, hk, e⟩ := btF_nI (P := P) (n := n) (by omega)
  rw [e]
  exact bi_bc0 ⟨k, Nat.lt_of_lt_of_le hk (Nat.pow_le_pow_right (n := 2) (by decide) hn)⟩
theorem bd_kept {x : Int32} : bdF x 0 20 = keptF x := by
  unfold bdF keptF
  have e1 : (0 : Int32).toInt = 0 := by decide
  have e2 : (20 : Int32).toInt = 20 := by decide
  by_cases a : x < 0
  · have a' := Int32.lt_iff_toInt_lt.mp a
    have b : x < 20 := Int32.lt_iff_toInt_lt.mpr (by omega)
    have c : ¬ 0 < x := fun z => by have := Int32.lt_iff_toInt_lt.mp z; omega
    rw [if_pos a, if_pos b, if_neg c]
  · have a' := mt Int32.lt_iff_toInt_lt.mpr a
    rw [if_neg a]
    by_cases b : x < 20
    · have b' := Int32.lt_iff_toInt_lt.mp b
      rw [if_pos b, if_neg (fun z => by have := Int32.lt_iff_toInt_lt.mp z; omega)]
      by_cases c : 0 < x
      · rw [if_pos c]
      · rw [if_neg c]
        exact Int32.toInt_inj.mp (by have := mt Int32.lt_iff_toInt_lt.mpr c; omega)
    · have b' := mt Int32.lt_iff_toInt_lt.mpr b
      rw [if_neg b, if_pos (show (0 : Int32) < 20 by decide)]
      by_cases c : 20 < x
      · rw [if_pos c]
      · rw [if_neg c]
        exact Int32.toInt_inj.mp (by have := mt Int32.lt_iff_toInt_lt.mpr c; omega)
theorem ls_mn99 {x : Int32} : (if (99 : Int32) < x then 99 else x) = mn99 x := by
  unfold mn99
  have e2 : (99 : Int32).toInt = 99 := by decide
  by_cases a : (99 : Int32) < x
  · have a' := Int32.lt_iff_toInt_lt.mp a
    rw [if_pos a, if_neg (fun z => by have := Int32.lt_iff_toInt_lt.mp z; omega)]
  · have a' := mt Int32.lt_iff_toInt_lt.mpr a
    rw [if_neg a]
    by_cases b : x < 99
    · rw [if_pos b]
    · have b' := mt Int32.lt_iff_toInt_lt.mpr b
      rw [if_neg b]; exact Int32.toInt_inj.mp (by omega)
