/-! the model's next token: the walk -/
def isG (c : Nat) : Bool := decide (c = 59) || decide (c = 40) || decide (c = 41) || decide (c = 43) || decide (c = 45) || decide (c = 42) || decide (c = 47) || decide (c = 60) || decide (c = 61)
def tkW (b : Nat → Nat) (n i : Nat) : Nat := spn (fun j => isW (b j)) n i
def tkK (b : Nat → Nat) (n s : Nat) : Nat := if n ≤ s then 0 else if isL (b s) = true then 1 else if isD (b s) = true then 2 else if isG (b s) = true then 3 else 4
def tkE (b : Nat → Nat) (n s : Nat) : Nat := if n ≤ s then s else if isL (b s) = true then spn (fun j => isL (b j)) n s else if isD (b s) = true then spn (fun j => isD (b j)) n s else s + 1
def wdN (b : Nat → Nat) (s : Nat) : Nat → Nat := foF (fun j a => if j < 7 then 32 * a + (b (s + j) - 96) else a) 0
def SGo (a k : Nat) : Prop := a = 77 ∧ 17 ≤ k ∧ k ≤ 22
/-- the token from s to e, as the model holds it -/
def TKm (g : Hp) (b : Nat → Nat) (n s e : Nat) : Prop := hI g 77 17 = nI e ∧ hI g 77 18 = nI (tkK b n s) ∧ hI g 77 19 = nI s ∧ hI g 77 20 = nI (e - s) ∧ hI g 77 21 = (if tkK b n s = 2 then nI (nvN b s (e - s)) else 0) ∧ hI g 77 22 = nI (if s < n then b s else 0) ∧ hJ g 77 23 = (if tkK b n s = 1 then lN (wdN b s (e - s)) else 0)
theorem TM.fj {S : Nat → Nat → Prop} {h g : Hp} {b : Nat → Nat} {n : Nat} (H : TM h b n) (F : Fj S h g) (hs : ¬ S 77 16 ∧ ∀ k, ¬ S 82 k) : TM g b n := ⟨by rw [F.I hs.1]; exact H.1, H.2.1, fun i hi => by rw [F.I (hs.2 _)]; exact H.2.2 i hi⟩
theorem TM.go {h g : Hp} {b : Nat → Nat} {n : Nat} (H : TM h b n) (F : Fj SGo h g) : TM g b n := H.fj F (by unfold SGo; exact ⟨by omega, fun k => by omega⟩)
theorem isW_n {c : Nat} : isW c = true ↔ c = 32 ∨ c = 10 := by unfold isW; simp
theorem q_skips {l : Launch} {d n i : Nat} {b : Nat → Nat} {h : Hp} {Z : ZT} (hS : St h) (H : TM h b n) (he : hI h 77 17 = nI i) (hi : i ≤ n) {n0 : Nat} (k : ∀ g, Fz SGo h g → hI g 77 17 = nI (tkW b n i) → Go l (rmOf (d + 2) (0, 0)) mX10_goes n0 Z 50 [some (.ref 77), none] [] g 0 0) : Go l (rmOf (d + 2) (0, 0)) mX10_goes n0 Z 0 [some (.ref 77), none] [] h 0 0 := by
  have n7 := H.2.1
  unfold tkW at k
  obtain ⟨s1, s2, s3, s4⟩ := spn_ok (p := fun j => isW (b j)) (n := n) (i := i)
  have s4 := s4 hi
  generalize spn (fun j => isW (b j)) n i = e at *
  refine go_loopR (lvf := fun _ => [some (.ref 77), none]) (e - i) (fun k g => Fz SGo h g ∧ hI g 77 17 = nI (i + k)) (fun j g hj hh ih => ?_) (fun g hh => ?_) 0 h (Nat.zero_le _) ⟨Fz.rf, he⟩
  · obtain ⟨F, e17⟩ := hh
    have hS := F.St hS
    have H2 := H.go F.j
    obtain ⟨k1, k2⟩ := s1 (i + j) (by omega) (by omega)
    have t2 := (H2.2.2 _ k1).2
    have e32 : nI (b (i + j)) = 32 ↔ b (i + j) = 32 := nI_eq (b := 32) (by omega) (by decide)
    have e10 : nI (b (i + j)) = 10 ↔ b (i + j) = 10 := nI_eq (b := 10) (by omega) (by decide)
    have kw := isW_n.mp k2
    refine go_aloadn dX10_goes_0 rfl ?_
    refine sg_getI dX10_goes_1 fX10_115 rfl (mo_L rfl) hS ?_
    rw [e17]
    refine go_aloadn dX10_goes_4 rfl ?_
    refine sg_getI dX10_goes_5 fX10_112 rfl (mo_L rfl) hS ?_
    rw [H2.1]
    refine go_icmp_ge (tgt := 50) dX10_goes_8 (by decide) (fun c8 => absurd c8 (nI_ge k1 (by omega))) (fun c8 => ?_)
    refine go_aloadn dX10_goes_11 rfl ?_
    refine go_aloadn dX10_goes_12 rfl ?_
    refine sg_getI dX10_goes_13 fX10_115 rfl (mo_L rfl) hS ?_
    rw [e17]
    refine sg_cVi (M' := mX10_byteAt) ([.int (nI (i + j))]) dX10_goes_16 lX10_118 vX10_byteAt (mo_L rfl) (by decide) rfl hS (q_byteAt hS H2 (by omega)) rfl (Nat.le_of_ble_eq_true rfl) (Nat.zero_le _) (Nat.zero_le _) ?_
    rw [if_pos k1]
    refine go_bipush (v := 32) dX10_goes_19 rfl ?_
    refine go_icmp_eq (tgt := 37) dX10_goes_21 (by decide) (fun c21 => ?_) (fun c21 => ?_)
    · refine go_aloadn dX10_goes_37 rfl ?_
      refine go_dup dX10_goes_38 rfl ?_
      refine sg_getI dX10_goes_39 fX10_115 rfl (mo_L rfl) hS ?_
      refine go_iconst (v := 1) dX10_goes_42 rfl ?_
      refine go_iadd dX10_goes_43 ?_
      rw [e17, nI_1]
      refine sg_putI dX10_goes_44 fX10_115 rfl rfl (mo_L rfl) hS ?_
      refine go_goto (tgt := 0) dX10_goes_47 (by decide) ?_
      exact go_cong (ih _ ⟨F.uI (by unfold SGo; omega), hI_uI_eq⟩) rfl rfl
    · refine go_aloadn dX10_goes_24 rfl ?_
      refine go_aloadn dX10_goes_25 rfl ?_
      refine sg_getI dX10_goes_26 fX10_115 rfl (mo_L rfl) hS ?_
      rw [e17]
      refine sg_cVi (M' := mX10_byteAt) ([.int (nI (i + j))]) dX10_goes_29 lX10_118 vX10_byteAt (mo_L rfl) (by decide) rfl hS (q_byteAt hS H2 (by omega)) rfl (Nat.le_of_ble_eq_true rfl) (Nat.zero_le _) (Nat.zero_le _) ?_
      rw [if_pos k1]
      refine go_bipush (v := 10) dX10_goes_32 rfl ?_
      refine go_icmp_ne (tgt := 50) dX10_goes_34 (by decide) (fun c34 => absurd (kw.elim (fun q => absurd (e32.mpr q) c21) (fun q => e10.mpr q)) c34) (fun c34 => ?_)
      refine go_aloadn dX10_goes_37 rfl ?_
      refine go_dup dX10_goes_38 rfl ?_
      refine sg_getI dX10_goes_39 fX10_115 rfl (mo_L rfl) hS ?_
      refine go_iconst (v := 1) dX10_goes_42 rfl ?_
      refine go_iadd dX10_goes_43 ?_
      rw [e17, nI_1]
      refine sg_putI dX10_goes_44 fX10_115 rfl rfl (mo_L rfl) hS ?_
      refine go_goto (tgt := 0) dX10_goes_47 (by decide) ?_
      exact go_cong (ih _ ⟨F.uI (by unfold SGo; omega), hI_uI_eq⟩) rfl rfl
  · obtain ⟨F, e17⟩ := hh
    have hS := F.St hS
    have H2 := H.go F.j
    rw [show i + (e - i) = e by omega] at e17
    by_cases q : e < n
    · have t2 := (H2.2.2 _ q).2
      have e32 : nI (b e) = 32 ↔ b e = 32 := nI_eq (b := 32) (by omega) (by decide)
      have e10 : nI (b e) = 10 ↔ b e = 10 := nI_eq (b := 10) (by omega) (by decide)
      have kw : ¬ (b e = 32 ∨ b e = 10) := fun z => s2 ⟨q, isW_n.mpr z⟩
      refine go_aloadn dX10_goes_0 rfl ?_
      refine sg_getI dX10_goes_1 fX10_115 rfl (mo_L rfl) hS ?_
      rw [e17]
      refine go_aloadn dX10_goes_4 rfl ?_
      refine sg_getI dX10_goes_5 fX10_112 rfl (mo_L rfl) hS ?_
      rw [H2.1]
      refine go_icmp_ge (tgt := 50) dX10_goes_8 (by decide) (fun c8 => absurd c8 (nI_ge q (by omega))) (fun c8 => ?_)
      refine go_aloadn dX10_goes_11 rfl ?_
      refine go_aloadn dX10_goes_12 rfl ?_
      refine sg_getI dX10_goes_13 fX10_115 rfl (mo_L rfl) hS ?_
      rw [e17]
      refine sg_cVi (M' := mX10_byteAt) ([.int (nI e)]) dX10_goes_16 lX10_118 vX10_byteAt (mo_L rfl) (by decide) rfl hS (q_byteAt hS H2 (by omega)) rfl (Nat.le_of_ble_eq_true rfl) (Nat.zero_le _) (Nat.zero_le _) ?_
      rw [if_pos q]
      refine go_bipush (v := 32) dX10_goes_19 rfl ?_
      refine go_icmp_eq (tgt := 37) dX10_goes_21 (by decide) (fun c21 => absurd (Or.inl (e32.mp c21)) kw) (fun c21 => ?_)
      refine go_aloadn dX10_goes_24 rfl ?_
      refine go_aloadn dX10_goes_25 rfl ?_
      refine sg_getI dX10_goes_26 fX10_115 rfl (mo_L rfl) hS ?_
      rw [e17]
      refine sg_cVi (M' := mX10_byteAt) ([.int (nI e)]) dX10_goes_29 lX10_118 vX10_byteAt (mo_L rfl) (by decide) rfl hS (q_byteAt hS H2 (by omega)) rfl (Nat.le_of_ble_eq_true rfl) (Nat.zero_le _) (Nat.zero_le _) ?_
      rw [if_pos q]
      refine go_bipush (v := 10) dX10_goes_32 rfl ?_
      refine go_icmp_ne (tgt := 50) dX10_goes_34 (by decide) (fun c34 => ?_) (fun c34 => absurd (Or.inr (e10.mp c34)) kw)
      exact k g F e17
    · refine go_aloadn dX10_goes_0 rfl ?_
      refine sg_getI dX10_goes_1 fX10_115 rfl (mo_L rfl) hS ?_
      rw [e17]
      refine go_aloadn dX10_goes_4 rfl ?_
      refine sg_getI dX10_goes_5 fX10_112 rfl (mo_L rfl) hS ?_
      rw [H2.1]
      refine go_icmp_ge (tgt := 50) dX10_goes_8 (by decide) (fun c8 => ?_) (fun c8 => absurd (nI_le (by omega) (by omega)) c8)
      exact k g F e17
