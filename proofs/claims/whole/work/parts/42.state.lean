/-! the state; what a call answers -/
/-- city, town, acts, notes, image, tape, place of the fault, status -/
abbrev Sx : Type := Cy × Tn × List Tn × Nt × Option (Tn × List Tn × Nt) × (Nat × (Nat → Nat)) × Int32 × (Nat → Int32)
abbrev sC (S : Sx) : Cy := S.1
abbrev sT (S : Sx) : Tn := S.2.1
abbrev sA (S : Sx) : List Tn := S.2.2.1
abbrev sQ (S : Sx) : Nt := S.2.2.2.1
abbrev sM (S : Sx) : Option (Tn × List Tn × Nt) := S.2.2.2.2.1
abbrev sP (S : Sx) : Nat × (Nat → Nat) := S.2.2.2.2.2.1
abbrev sF (S : Sx) : Int32 := S.2.2.2.2.2.2.1
abbrev sR (S : Sx) : Nat → Int32 := S.2.2.2.2.2.2.2
/-- a town with its count of changes put anew -/
def sX (x : Int32) (T : Tn) : Tn := (tD T, x, T.2.2)
def T00 : Tn := (0, 0, fun _ => 0, fun _ => 0, fun _ => 0, fun _ => 0, fun _ => 0, fun _ => 0, fun _ => 0)
/-- an answer (0, v) or a throw (k, 0) -/
abbrev An : Type := Nat × Int32
def nd (P : Prop) [Decidable P] (k : Nat) (o : An) : An := if P then o else (k, 0)
abbrev okX (n : Nat) (x : Int32) : Prop := 0 ≤ x ∧ x < nI n
theorem ok_nI {n : Nat} {x : Int32} (hn : n < 2 ^ 31) (h : okX n x) : ∃ j, j < n ∧ x = nI j := by
  rcases pk_ix x hn with q | q | q
  · exact absurd q (Int32.not_lt.mpr h.1)
  · exact absurd h.2 (Int32.not_lt.mpr q)
  · exact q
theorem rg_nI {x lo hi : Int32} {a b : Nat} (hl : lo = nI a) (hh : hi = nI b) (ha : a < 2 ^ 30) (hb : b < 2 ^ 30) (h : lo ≤ x ∧ x ≤ hi) : ∃ j, a ≤ j ∧ j ≤ b ∧ x = nI j := by
  subst hl; subst hh
  rcases pk_ix x (n := b + 1) (by omega) with q | q | ⟨j, hj, e⟩
  · have h1 := Int32.le_iff_toInt_le.mp h.1
    have h2 := Int32.lt_iff_toInt_lt.mp q
    have h3 : (0 : Int32).toInt = 0 := by decide
    rw [nI_toInt (by omega)] at h1
    omega
  · have h1 := Int32.le_iff_toInt_le.mp h.2
    have h2 := Int32.le_iff_toInt_le.mp q
    rw [nI_toInt (by omega)] at h1 h2
    omega
  · refine ⟨j, ?_, by omega, e⟩
    have h1 := h.1
    rw [e, nI_leI (by omega) (by omega)] at h1
    exact h1
abbrev Qo (o : An) (h : Hp) : Option Value → Hp → Prop := fun v g => (o.1 = 0 ∧ v = some (.int o.2)) ∧ Fc h g
abbrev Xo (o : An) (E1 E2 : String) (h : Hp) : String → Hp → Prop := fun E g => (o.1 = 1 ∧ E = E1 ∨ o.1 = 2 ∧ E = E2) ∧ Fc h g
/-- a question of the class -/
def Qc (l : Launch) (d : Nat) (M : MI) (as : List Value) (h : Hp) (o : An) (E1 E2 : String) : Prop := Run l d (1, 6) M as h (Qo o h) (Xo o E1 E2 h)
/-- it throws, and all is as it was -/
def Th (l : Launch) (d : Nat) (M : MI) (as : List Value) (h : Hp) (E : String) : Prop := Run l d (1, 6) M as h (fun _ _ => False) (fun E' g => E' = E ∧ g = h)
section
variable {l : Launch} {M : MI} {n0 : Nat} {pc : Nat} {lv : List (Option Value)} {st : List Value} {h h0 : Hp} {d : Nat}
theorem sg_ndV {M' : MI} {P : Prop} [Decidable P] {k : Nat} {o : An} {E E1 E2 : String} (as : List Value) {a ci idx : Nat} {stk : List Value} (hd : decode M.2.1 pc = .ok (.invokevirtual idx, 3)) (hl : inG (.methodLink M.1.cls idx M'.1)) (hc : CV M' as.length) (ha : lay a = .inl ci) (hci : ci < 11) (hcl : clR ci = M'.1.cls) (hS : St h)
    (hg : P → Ex l d M' (.ref a :: as) h none h) (hb : ¬ P → Th l d M' (.ref a :: as) h E) (hk : k = 1 ∧ E = E1 ∨ k = 2 ∧ E = E2) (hF : Fc h0 h) (hnl : M.1.name ≠ "law") (hh : M.2.2.2.2 = []) (hstk : stk = as.reverse ++ .ref a :: st) (hst : (st.map (fun v => v.category)).sum ≤ 8)
    (kk : P → Go l (rmOf (d + 1) (1, 6)) M n0 (Zm (1, 6) (Qo o h0) (Xo o E1 E2 h0)) (pc + 3) lv st h 0 0) : Go l (rmOf (d + 1) (1, 6)) M n0 (Zm (1, 6) (Qo (nd P k o) h0) (Xo (nd P k o) E1 E2 h0)) pc lv stk h 0 0 := by
  by_cases q : P
  · rw [nd, if_pos q]
    exact sg_cV0 as hd hl hc ha hci hcl hS (hg q) hstk hst (Nat.zero_le _) (Nat.zero_le _) (kk q)
  · rw [nd, if_neg q]
    exact go_callV_ hd hl hc ha hci hcl (by rw [hS.1]; exact lay_lt (ne_o hci) ha) (hb q) hstk hst (Nat.le_refl _) (Nat.le_of_eq (Nat.mul_succ 40 d).symm) (Nat.le_refl _) (Nat.le_refl _) (fun q => absurd hS.1 (Nat.ne_of_lt q)) (fun _ _ z => z.elim) (fun E' h' z => by obtain ⟨rfl, rfl⟩ := z; exact gox_out hnl hh (Nat.le_refl _) (Nat.le_refl _) ⟨hk, hF⟩)
theorem sg_ndS {M' : MI} {P : Prop} [Decidable P] {k : Nat} {o : An} {E E1 E2 : String} (as : List Value) {idx : Nat} {stk : List Value} (hd : decode M.2.1 pc = .ok (.invokestatic idx, 3)) (hl : inG (.methodLink M.1.cls idx M'.1)) (hc : CS M' as.length) (hS : St h)
    (hg : P → Ex l d M' as h none h) (hb : ¬ P → Th l d M' as h E) (hk : k = 1 ∧ E = E1 ∨ k = 2 ∧ E = E2) (hF : Fc h0 h) (hnl : M.1.name ≠ "law") (hh : M.2.2.2.2 = []) (hstk : stk = as.reverse ++ st) (hst : (st.map (fun v => v.category)).sum ≤ 8)
    (kk : P → Go l (rmOf (d + 1) (1, 6)) M n0 (Zm (1, 6) (Qo o h0) (Xo o E1 E2 h0)) (pc + 3) lv st h 0 0) : Go l (rmOf (d + 1) (1, 6)) M n0 (Zm (1, 6) (Qo (nd P k o) h0) (Xo (nd P k o) E1 E2 h0)) pc lv stk h 0 0 := by
  by_cases q : P
  · rw [nd, if_pos q]
    exact sg_cS0 as hd hl hc hS (hg q) hstk hst (Nat.zero_le _) (Nat.zero_le _) (kk q)
  · rw [nd, if_neg q]
    exact go_callS_ hd hl hc (hb q) hstk hst (Nat.le_refl _) (Nat.le_of_eq (Nat.mul_succ 40 d).symm) (Nat.le_refl _) (Nat.le_refl _) (fun q => absurd hS.1 (Nat.ne_of_lt q)) (fun _ _ z => z.elim) (fun E' h' z => by obtain ⟨rfl, rfl⟩ := z; exact gox_out hnl hh (Nat.le_refl _) (Nat.le_refl _) ⟨hk, hF⟩)
end
/-! what must be so -/
theorem r_needPerson {l : Launch} {d c P : Nat} {h : Hp} {x : Int32} (hl : l.stackTraces = false) (hS : St h) (hc : CityAt c) (hbc : hR h 0 5 = some c) (hpe : hI h c 1 = nI P) : (okX P x → Ex l (d + 6) mX9_needPerson [.ref 0, .int x] h none h) ∧ (¬ okX P x → Th l (d + 6) mX9_needPerson [.ref 0, .int x] h nNSE) := by
  refine ⟨fun q => ?_, fun q => ?_⟩
  · refine run_lv [some (.ref 0), some (.int x)] (go := ?_)
    refine go_iloadn dX9_needPerson_0 rfl ?_
    refine go_if_lt (tgt := 15) dX9_needPerson_1 (by decide) (fun c1 => absurd c1 (Int32.not_lt.mpr q.1)) (fun c1 => ?_)
    refine go_iloadn dX9_needPerson_4 rfl ?_
    refine go_aloadn dX9_needPerson_5 rfl ?_
    refine sg_getR dX9_needPerson_6 fX9_31 rfl (wo_L rfl) hS hbc ?_
    refine sg_getI dX9_needPerson_9 fX9_138 rfl (ct_L hc) hS ?_
    rw [hpe]
    refine go_icmp_lt (tgt := 23) dX9_needPerson_12 (by decide) (fun c12 => ?_) (fun c12 => absurd q.2 c12)
    refine go_return dX9_needPerson_23 rfl (Nat.zero_le _) (Nat.zero_le _) ?_
    exact ⟨rfl, rfl⟩
  · refine run_lv [some (.ref 0), some (.int x)] (go := ?_)
    refine go_iloadn dX9_needPerson_0 rfl ?_
    refine go_if_lt (tgt := 15) dX9_needPerson_1 (by decide) (fun c1 => ?_) (fun c1 => ?_)
    · exact go_throwN hl rfl (by decide) rfl dX9_needPerson_15 dX9_needPerson_18 dX9_needPerson_19 dX9_needPerson_22 (Nat.le_of_ble_eq_true rfl) (by simp only [rmOf]; omega) (by simp only [rmOf]; omega) (Nat.le_refl _) (Nat.le_refl _) (Nat.le_refl _) (Nat.le_refl _) hS.1 ⟨rfl, rfl⟩
    · refine go_iloadn dX9_needPerson_4 rfl ?_
      refine go_aloadn dX9_needPerson_5 rfl ?_
      refine sg_getR dX9_needPerson_6 fX9_31 rfl (wo_L rfl) hS hbc ?_
      refine sg_getI dX9_needPerson_9 fX9_138 rfl (ct_L hc) hS ?_
      rw [hpe]
      refine go_icmp_lt (tgt := 23) dX9_needPerson_12 (by decide) (fun c12 => absurd ⟨Int32.not_lt.mp c1, c12⟩ q) (fun c12 => ?_)
      exact go_throwN hl rfl (by decide) rfl dX9_needPerson_15 dX9_needPerson_18 dX9_needPerson_19 dX9_needPerson_22 (Nat.le_of_ble_eq_true rfl) (by simp only [rmOf]; omega) (by simp only [rmOf]; omega) (Nat.le_refl _) (Nat.le_refl _) (Nat.le_refl _) (Nat.le_refl _) hS.1 ⟨rfl, rfl⟩
theorem r_needThing {l : Launch} {d c N : Nat} {h : Hp} {x : Int32} (hl : l.stackTraces = false) (hS : St h) (hc : CityAt c) (hbc : hR h 0 5 = some c) (hth : hI h c 2 = nI N) : (okX N x → Ex l (d + 6) mX9_needThing [.ref 0, .int x] h none h) ∧ (¬ okX N x → Th l (d + 6) mX9_needThing [.ref 0, .int x] h nNSE) := by
  refine ⟨fun q => ?_, fun q => ?_⟩
  · refine run_lv [some (.ref 0), some (.int x)] (go := ?_)
    refine go_iloadn dX9_needThing_0 rfl ?_
    refine go_if_lt (tgt := 15) dX9_needThing_1 (by decide) (fun c1 => absurd c1 (Int32.not_lt.mpr q.1)) (fun c1 => ?_)
    refine go_iloadn dX9_needThing_4 rfl ?_
    refine go_aloadn dX9_needThing_5 rfl ?_
    refine sg_getR dX9_needThing_6 fX9_31 rfl (wo_L rfl) hS hbc ?_
    refine sg_getI dX9_needThing_9 fX9_141 rfl (ct_L hc) hS ?_
    rw [hth]
    refine go_icmp_lt (tgt := 23) dX9_needThing_12 (by decide) (fun c12 => ?_) (fun c12 => absurd q.2 c12)
    refine go_return dX9_needThing_23 rfl (Nat.zero_le _) (Nat.zero_le _) ?_
    exact ⟨rfl, rfl⟩
  · refine run_lv [some (.ref 0), some (.int x)] (go := ?_)
    refine go_iloadn dX9_needThing_0 rfl ?_
    refine go_if_lt (tgt := 15) dX9_needThing_1 (by decide) (fun c1 => ?_) (fun c1 => ?_)
    · exact go_throwN hl rfl (by decide) rfl dX9_needThing_15 dX9_needThing_18 dX9_needThing_19 dX9_needThing_22 (Nat.le_of_ble_eq_true rfl) (by simp only [rmOf]; omega) (by simp only [rmOf]; omega) (Nat.le_refl _) (Nat.le_refl _) (Nat.le_refl _) (Nat.le_refl _) hS.1 ⟨rfl, rfl⟩
    · refine go_iloadn dX9_needThing_4 rfl ?_
      refine go_aloadn dX9_needThing_5 rfl ?_
      refine sg_getR dX9_needThing_6 fX9_31 rfl (wo_L rfl) hS hbc ?_
      refine sg_getI dX9_needThing_9 fX9_141 rfl (ct_L hc) hS ?_
      rw [hth]
      refine go_icmp_lt (tgt := 23) dX9_needThing_12 (by decide) (fun c12 => absurd ⟨Int32.not_lt.mp c1, c12⟩ q) (fun c12 => ?_)
      exact go_throwN hl rfl (by decide) rfl dX9_needThing_15 dX9_needThing_18 dX9_needThing_19 dX9_needThing_22 (Nat.le_of_ble_eq_true rfl) (by simp only [rmOf]; omega) (by simp only [rmOf]; omega) (Nat.le_refl _) (Nat.le_refl _) (Nat.le_refl _) (Nat.le_refl _) hS.1 ⟨rfl, rfl⟩
theorem r_needWhat {l : Launch} {d : Nat} {h : Hp} {x m : Int32} (hl : l.stackTraces = false) (hS : St h) : (0 ≤ x ∧ x ≤ m → Ex l (d + 6) mX9_needWhat [.int x, .int m] h none h) ∧ (¬ (0 ≤ x ∧ x ≤ m) → Th l (d + 6) mX9_needWhat [.int x, .int m] h nNSE) := by
  refine ⟨fun q => ?_, fun q => ?_⟩
  · refine run_lv [some (.int x), some (.int m)] (go := ?_)
    refine go_iloadn dX9_needWhat_0 rfl ?_
    refine go_if_lt (tgt := 9) dX9_needWhat_1 (by decide) (fun c1 => absurd c1 (Int32.not_lt.mpr q.1)) (fun c1 => ?_)
    refine go_iloadn dX9_needWhat_4 rfl ?_
    refine go_iloadn dX9_needWhat_5 rfl ?_
    refine go_icmp_le (tgt := 17) dX9_needWhat_6 (by decide) (fun c6 => ?_) (fun c6 => absurd q.2 c6)
    refine go_return dX9_needWhat_17 rfl (Nat.zero_le _) (Nat.zero_le _) ?_
    exact ⟨rfl, rfl⟩
  · refine run_lv [some (.int x), some (.int m)] (go := ?_)
    refine go_iloadn dX9_needWhat_0 rfl ?_
    refine go_if_lt (tgt := 9) dX9_needWhat_1 (by decide) (fun c1 => ?_) (fun c1 => ?_)
    · exact go_throwN hl rfl (by decide) rfl dX9_needWhat_9 dX9_needWhat_12 dX9_needWhat_13 dX9_needWhat_16 (Nat.le_of_ble_eq_true rfl) (by simp only [rmOf]; omega) (by simp only [rmOf]; omega) (Nat.le_refl _) (Nat.le_refl _) (Nat.le_refl _) (Nat.le_refl _) hS.1 ⟨rfl, rfl⟩
    · refine go_iloadn dX9_needWhat_4 rfl ?_
      refine go_iloadn dX9_needWhat_5 rfl ?_
      refine go_icmp_le (tgt := 17) dX9_needWhat_6 (by decide) (fun c6 => absurd ⟨Int32.not_lt.mp c1, c6⟩ q) (fun c6 => ?_)
      exact go_throwN hl rfl (by decide) rfl dX9_needWhat_9 dX9_needWhat_12 dX9_needWhat_13 dX9_needWhat_16 (Nat.le_of_ble_eq_true rfl) (by simp only [rmOf]; omega) (by simp only [rmOf]; omega) (Nat.le_refl _) (Nat.le_refl _) (Nat.le_refl _) (Nat.le_refl _) hS.1 ⟨rfl, rfl⟩
theorem r_needWithin {l : Launch} {d : Nat} {h : Hp} {x lo hi : Int32} (hl : l.stackTraces = false) (hS : St h) : (lo ≤ x ∧ x ≤ hi → Ex l (d + 6) mX9_needWithin [.int x, .int lo, .int hi] h none h) ∧ (¬ (lo ≤ x ∧ x ≤ hi) → Th l (d + 6) mX9_needWithin [.int x, .int lo, .int hi] h nIAE) := by
  refine ⟨fun q => ?_, fun q => ?_⟩
  · refine run_lv [some (.int x), some (.int lo), some (.int hi)] (go := ?_)
    refine go_iloadn dX9_needWithin_0 rfl ?_
    refine go_iloadn dX9_needWithin_1 rfl ?_
    refine go_icmp_lt (tgt := 10) dX9_needWithin_2 (by decide) (fun c2 => absurd c2 (Int32.not_lt.mpr q.1)) (fun c2 => ?_)
    refine go_iloadn dX9_needWithin_5 rfl ?_
    refine go_iloadn dX9_needWithin_6 rfl ?_
    refine go_icmp_le (tgt := 18) dX9_needWithin_7 (by decide) (fun c7 => ?_) (fun c7 => absurd q.2 c7)
    refine go_return dX9_needWithin_18 rfl (Nat.zero_le _) (Nat.zero_le _) ?_
    exact ⟨rfl, rfl⟩
  · refine run_lv [some (.int x), some (.int lo), some (.int hi)] (go := ?_)
    refine go_iloadn dX9_needWithin_0 rfl ?_
    refine go_iloadn dX9_needWithin_1 rfl ?_
    refine go_icmp_lt (tgt := 10) dX9_needWithin_2 (by decide) (fun c2 => ?_) (fun c2 => ?_)
    · exact go_throwI hl rfl (by decide) rfl dX9_needWithin_10 dX9_needWithin_13 dX9_needWithin_14 dX9_needWithin_17 (Nat.le_of_ble_eq_true rfl) (by simp only [rmOf]; omega) (by simp only [rmOf]; omega) (Nat.le_refl _) (Nat.le_refl _) (Nat.le_refl _) (Nat.le_refl _) hS.1 ⟨rfl, rfl⟩
    · refine go_iloadn dX9_needWithin_5 rfl ?_
      refine go_iloadn dX9_needWithin_6 rfl ?_
      refine go_icmp_le (tgt := 18) dX9_needWithin_7 (by decide) (fun c7 => absurd ⟨Int32.not_lt.mp c2, c7⟩ q) (fun c7 => ?_)
      exact go_throwI hl rfl (by decide) rfl dX9_needWithin_10 dX9_needWithin_13 dX9_needWithin_14 dX9_needWithin_17 (Nat.le_of_ble_eq_true rfl) (by simp only [rmOf]; omega) (by simp only [rmOf]; omega) (Nat.le_refl _) (Nat.le_refl _) (Nat.le_refl _) (Nat.le_refl _) hS.1 ⟨rfl, rfl⟩
