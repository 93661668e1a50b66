/-! the model's state, and its acts -/
/-- a row in the words of an array -/
def MR (f : Nat → Int32) (b : Nat) (C : Cy) (T : Tn) : Prop := f b = nI (tD T) ∧ (∀ t, t < cN C → f (b + (1 + t)) = tO T t ∧ f (b + (11 + t)) = tB T t ∧ f (b + (21 + t)) = tS T t ∧ f (b + (31 + t)) = tX T t) ∧ (∀ p, p < cP C → f (b + (41 + p)) = tH T p ∧ f (b + (49 + p)) = tV T p) ∧ ∀ i, i < 6 * cP C → f (b + (57 + i)) = tW T i
theorem MR.cp {f g : Nat → Int32} {b b' : Nat} {C : Cy} {T : Tn} (W : WC C) (H : MR f b C T) (e : ∀ j, j < 105 → g (b' + j) = f (b + j)) : MR g b' C T := by
  obtain ⟨h1, h2, h3, h4⟩ := H
  have hN1 := W.1.1
  have hP := W.1.2.1
  refine ⟨(e 0 (by omega)).trans h1, fun t ht => ?_, fun p hp => ?_, fun i hi => ?_⟩
  · rw [e _ (by omega), e _ (by omega), e _ (by omega), e _ (by omega)]; exact h2 t ht
  · rw [e _ (by omega), e _ (by omega)]; exact h3 p hp
  · rw [e _ (by omega)]; exact h4 i hi
theorem mr_mt {h : Hp} {b : Nat} {C : Cy} {T : Tn} : MR (hI h 91) b C T ↔ MT h b C T := Iff.rfl
/-- the acts kept, in the words of an array -/
def MA (f : Nat → Int32) (n : Int32) (C : Cy) (A : List Tn) : Prop := n = nI A.length ∧ A.length ≤ 40 ∧ ∀ i, i < A.length → MR f (105 * i) C (A.getD i T00)
/-- notes, in the words of an array -/
def MQn (f : Nat → Int32) (n : Int32) (N : Nat) (Q : Nt) : Prop := n = nI (qM Q) ∧ qM Q ≤ 8 ∧ ∀ i, i < qM Q → f (3 * i) = nI (qT Q i) ∧ f (3 * i + 1) = nI (qD Q i) ∧ f (3 * i + 2) = qW Q i ∧ qT Q i < N ∧ qD Q i ≤ 30
theorem mq_mn {h : Hp} {N : Nat} {Q : Nt} : MQn (hI h 97) (hI h 77 51) N Q ↔ MN h N Q := Iff.rfl
def MI' (h : Hp) (C : Cy) : Option (Tn × List Tn × Nt) → Prop
  | none => hI h 77 56 = 0
  | some I => hI h 77 56 = 1 ∧ MR (hI h 100) 0 C I.1 ∧ MA (hI h 101) (hI h 77 57) C I.2.1 ∧ MQn (hI h 102) (hI h 77 58) (cN C) I.2.2
/-- all of the model but the town -/
def MVr (h : Hp) (C : Cy) (A : List Tn) (Q : Nt) (I : Option (Tn × List Tn × Nt)) (P : Nat × (Nat → Nat)) (f : Int32) (R : Nat → Int32) : Prop := MA (hI h 92) (hI h 77 44) C A ∧ MN h (cN C) Q ∧ MI' h C I ∧ (hI h 77 12 = nI P.1 ∧ ∀ i, i < P.1 → hI h 82 i = nI (P.2 i)) ∧ hI h 77 14 = f ∧ ∀ i, i < 3 → hI h 83 i = R i
def MV (h : Hp) (S : Sx) : Prop := ∃ as ar, MB h as ar (sC S) (sT S) ∧ MVr h (sC S) (sA S) (sQ S) (sM S) (sP S) (sF S) (sR S)
/-- what the model's acts may change of the rest: the acts kept -/
def SK (a k : Nat) : Prop := SM a k ∨ a = 91 ∨ a = 92 ∨ (a = 77 ∧ k = 44)
theorem MI'.eq {h g : Hp} {C : Cy} {I : Option (Tn × List Tn × Nt)} (K : MI' h C I) (e : ∀ k, (a : Nat) → (a = 100 ∨ a = 101 ∨ a = 102 ∨ (a = 77 ∧ (k = 56 ∨ k = 57 ∨ k = 58))) → hI g a k = hI h a k) : MI' g C I := by
  have e0 : hI g 100 = hI h 100 := funext fun k => e k 100 (by omega)
  have e1 : hI g 101 = hI h 101 := funext fun k => e k 101 (by omega)
  have e2 : hI g 102 = hI h 102 := funext fun k => e k 102 (by omega)
  cases I with
  | none => exact (e 56 77 (by omega)).trans K
  | some I =>
    obtain ⟨k1, k2, k3, k4⟩ := K
    exact ⟨(e 56 77 (by omega)).trans k1, by rw [e0]; exact k2, by rw [e1, e 57 77 (by omega)]; exact k3, by rw [e2, e 58 77 (by omega)]; exact k4⟩
theorem MVr.acts {h g : Hp} {C : Cy} {A A' : List Tn} {Q : Nt} {I : Option (Tn × List Tn × Nt)} {P : Nat × (Nat → Nat)} {f : Int32} {R : Nat → Int32} (K : MVr h C A Q I P f R) (F : Fz SK h g) (hA : MA (hI g 92) (hI g 77 44) C A') : MVr g C A' Q I P f R := by
  obtain ⟨h1, h2, h3, ⟨h4, h5⟩, h6, h7⟩ := K
  refine ⟨hA, h2.fz F (by unfold SK SM; exact ⟨by omega, fun k => by omega⟩), h3.eq (fun k a q => F.I (by unfold SK SM; omega)), ⟨by rw [F.I (by unfold SK SM; omega)]; exact h4, fun i hi => by rw [F.I (by unfold SK SM; omega)]; exact h5 i hi⟩, by rw [F.I (by unfold SK SM; omega)]; exact h6, fun i hi => by rw [F.I (by unfold SK SM; omega)]; exact h7 i hi⟩
theorem Fz.smk {h g : Hp} (F : Fz SM h g) : Fz SK h g := F.sub (fun _ _ => Or.inl)
theorem MVr.sm {h g : Hp} {C : Cy} {A : List Tn} {Q : Nt} {I : Option (Tn × List Tn × Nt)} {P : Nat × (Nat → Nat)} {f : Int32} {R : Nat → Int32} (K : MVr h C A Q I P f R) (F : Fz SM h g) : MVr g C A Q I P f R :=
  K.acts F.smk (by
    have e : hI g 92 = hI h 92 := funext fun k => F.I (by unfold SM; omega)
    rw [e, F.I (by unfold SM; omega)]; exact K.1)
/-- a question leaves the state -/
theorem MV.sm {h g : Hp} {S : Sx} (W : WC (sC S)) (K : MV h S) (F : Fz SM h g) : MV g S := by
  obtain ⟨as, ar, h1, h2⟩ := K
  exact ⟨as, ar, h1.sm W F, h2.sm F⟩
/-- the model leaves the class alone -/
def SA (a _k : Nat) : Prop := 77 ≤ a
theorem Fz.sa {h g : Hp} (F : Fz SM h g) : Fz SA h g := F.sub (fun a k q => by unfold SM at q; unfold SA; omega)
theorem Fz.ka {h g : Hp} (F : Fz SK h g) : Fz SA h g := F.sub (fun a k q => by unfold SK SM at q; unfold SA; omega)
abbrev Qx (o : Sa) (h : Hp) : Option Value → Hp → Prop := fun v g => (∃ r, v = some (.int r) ∧ (o.1 = 0 → r = o.2.1)) ∧ hI g 77 0 = nI o.1 ∧ MV g o.2.2 ∧ Fz SA h g
/-- an act of the model -/
def Mo (l : Launch) (d : Nat) (M : MI) (as : List Value) (h : Hp) (o : Sa) : Prop := Run l d (0, 0) M as h (Qx o h) noX
def SH (a k : Nat) : Prop := a = 92 ∨ (a = 77 ∧ k = 44)
theorem Fz.hk {h g : Hp} (F : Fz SH h g) : Fz SK h g := F.sub (fun a k q => by unfold SH at q; unfold SK; omega)
theorem MB.sh {h g : Hp} {as ar : Nat} {C : Cy} {T : Tn} (W : WC C) (H : MB h as ar C T) (F : Fz SH h g) : MB g as ar C T := ⟨H.1.fz F (fun a k q => by unfold SH at q; omega), H.2.1.fz W F (fun k _ _ => by unfold SH; omega), by rw [F.I (by unfold SH; omega)]; exact H.2.2⟩
theorem q_keeps {l : Launch} {d as ar : Nat} {C : Cy} {T : Tn} {A : List Tn} {h : Hp} (W : WC C) (H : MB h as ar C T) (hA : MA (hI h 92) (hI h 77 44) C A) : Ey l (d + 1) mX10_keeps [.ref 77] h none (fun g => Fz SH h g ∧ MA (hI g 92) (hI g 77 44) C (keepL A T)) := by
  have hS := H.1.1
  refine run_lv [some (.ref 77), none] (go := ?_)
  have fin : ∀ (g : Hp) (B : List Tn) (lo : Option Value), Fz SH h g → MA (hI g 92) (hI g 77 44) C B → B.length ≤ 39 → B ++ [T] = keepL A T → Go l (rmOf (d + 1) (0, 0)) mX10_keeps (hN h) (Zm (0, 0) (fun v h1 => v = none ∧ Fz SH h h1 ∧ MA (hI h1 92) (hI h1 77 44) C (keepL A T)) noX) 50 [some (.ref 77), lo] [] g 0 0 := by
    intro g B lo F hB hl hk
    obtain ⟨b1, b2, b3⟩ := hB
    refine go_iconst (v := 0) dX10_keeps_50 rfl ?_
    refine go_ist1 dX10_keeps_51 rfl ?_
    refine go_loopR (lvf := fun k => [some (.ref 77), some (.int (nI k))]) 105 (fun k g2 => Fz (fun a x => a = 92 ∧ 105 * B.length ≤ x) g g2 ∧ ∀ j, j < k → hI g2 92 (105 * B.length + j) = hI g 91 j) (fun k g2 hk2 hh ih => ?_) (fun g2 hh => ?_) 0 g (Nat.zero_le _) ⟨Fz.rf, fun _ q => absurd q (by omega)⟩
    · obtain ⟨F2, e⟩ := hh
      have hS := F2.St (F.St hS)
      have a1 : hI g2 77 44 = nI B.length := by rw [F2.I (by omega)]; exact b1
      refine go_iloadn dX10_keeps_52 rfl ?_
      refine go_bipush (v := 105) dX10_keeps_53 rfl ?_
      refine go_icmp_ge (tgt := 84) dX10_keeps_55 (by decide) (fun c55 => absurd c55 (nI_ge (b := 105) hk2 (by decide))) (fun c55 => ?_)
      refine go_aloadn dX10_keeps_58 rfl ?_
      refine sg_getR dX10_keeps_59 fX10_69 rfl (mo_L rfl) hS (mo_r43 hS rfl) ?_
      refine go_bipush (v := 105) dX10_keeps_62 rfl ?_
      refine go_aloadn dX10_keeps_64 rfl ?_
      refine sg_getI dX10_keeps_65 fX10_283 rfl (mo_L rfl) hS ?_
      rw [a1]
      refine go_imul dX10_keeps_68 ?_
      refine go_iloadn dX10_keeps_69 rfl ?_
      refine go_iadd dX10_keeps_70 ?_
      refine go_aloadn dX10_keeps_71 rfl ?_
      refine sg_getR dX10_keeps_72 fX10_66 rfl (mo_L rfl) hS (mo_r42 hS rfl) ?_
      refine go_iloadn dX10_keeps_75 rfl ?_
      refine sg_ialdN (i := k) (x := hI g 91 k) dX10_keeps_76 (mo_42 rfl) hS (by simp only [lit_nI, nI_add, pk_mul, Nat.add_assoc, Nat.zero_add, Nat.add_zero]) (by omega) ((F2.I (by omega))) ?_
      refine sg_iastN (i := 105 * B.length + k) dX10_keeps_77 (mo_43 rfl) hS (by simp only [lit_nI, nI_add, pk_mul, Nat.add_assoc, Nat.zero_add, Nat.add_zero]) (by omega) ?_
      refine go_iinc1 (c1 := 1) dX10_keeps_78 rfl rfl ?_
      refine go_goto (tgt := 52) dX10_keeps_81 (by decide) ?_
      exact go_cong (ih _ ⟨F2.uI ⟨rfl, by omega⟩, fun j hj => by rw [hI_uI]; by_cases z : j = k; (· subst z; rw [if_pos ⟨rfl, rfl⟩]); (rw [if_neg (by omega)]; exact e j (by omega))⟩) (by simp [nI_1]) rfl
    · obtain ⟨F2, e⟩ := hh
      have hS := F2.St (F.St hS)
      have a1 : hI g2 77 44 = nI B.length := by rw [F2.I (by omega)]; exact b1
      have H2 := H.sh W F
      have e92 : hI (uI g2 77 44 (nI (B.length + 1))) 92 = hI g2 92 := funext fun k => hI_uI_ne (by omega)
      refine go_iloadn dX10_keeps_52 rfl ?_
      refine go_bipush (v := 105) dX10_keeps_53 rfl ?_
      refine go_icmp_ge (tgt := 84) dX10_keeps_55 (by decide) (fun c55 => ?_) (fun c55 => absurd (by decide) c55)
      refine go_aloadn dX10_keeps_84 rfl ?_
      refine go_dup dX10_keeps_85 rfl ?_
      refine sg_getI dX10_keeps_86 fX10_283 rfl (mo_L rfl) hS ?_
      refine go_iconst (v := 1) dX10_keeps_89 rfl ?_
      refine go_iadd dX10_keeps_90 ?_
      rw [a1, nI_1]
      refine sg_putI dX10_keeps_91 fX10_283 rfl rfl (mo_L rfl) hS ?_
      refine go_return dX10_keeps_94 rfl (Nat.zero_le _) (Nat.zero_le _) ?_
      exact ⟨rfl, (F.tr (F2.sub (fun a k q => by unfold SH; omega))).uI (Or.inr ⟨rfl, rfl⟩), by rw [← hk, e92, hI_uI_eq]; exact ⟨by rw [List.length_append]; rfl, by rw [List.length_append]; show B.length + 1 ≤ 40; omega, fun i hi => by rw [List.length_append] at hi; simp only [List.length_cons, List.length_nil] at hi; by_cases z : i = B.length; (· rw [z, gT_r]; exact MR.cp W (mr_mt.mpr H2.2.1) (fun j hj => by rw [Nat.zero_add]; exact e j hj)); (rw [gT_l (by omega)]; exact MR.cp W (b3 i (by omega)) (fun j hj => F2.I (by omega)))⟩⟩
  obtain ⟨a1, a2, a3⟩ := hA
  by_cases z : A.length = 40
  · have hk : A.drop 1 ++ [T] = keepL A T := by rw [keepL, if_neg (by omega)]
    refine go_aloadn dX10_keeps_0 rfl ?_
    refine sg_getI dX10_keeps_1 fX10_283 rfl (mo_L rfl) hS ?_
    refine go_bipush (v := 40) dX10_keeps_4 rfl ?_
    rw [a1, z]
    refine go_icmp_ne (tgt := 50) dX10_keeps_6 (by decide) (fun c6 => absurd rfl c6) (fun c6 => ?_)
    refine go_bipush (v := 105) dX10_keeps_9 rfl ?_
    refine go_ist1 dX10_keeps_11 rfl ?_
    skip
    refine go_cong (go_loopR (lvf := fun k => [some (.ref 77), some (.int (nI (105 + k)))]) 4095 (fun k g => Fz (fun a _ => a = 92) h g ∧ (∀ j, j < k → hI g 92 j = hI h 92 (105 + j)) ∧ ∀ j, 105 + k ≤ 105 + j → k ≤ j → hI g 92 j = hI h 92 j) (fun k g hk2 hh ih => ?_) (fun g hh => ?_) 0 h (Nat.zero_le _) ⟨Fz.rf, fun _ q => absurd q (by omega), fun _ _ _ => rfl⟩) rfl rfl
    · obtain ⟨F, e1, e2⟩ := hh
      have hS := F.St hS
      have sb : nI (105 + k) - 105 = nI k := by rw [← nI_add]; show nI 105 + nI k - nI 105 = nI k; rw [Int32.add_comm, Int32.add_sub_cancel]
      refine go_iloadn dX10_keeps_12 rfl ?_
      refine go_sipush (v := 4200) dX10_keeps_13 rfl ?_
      refine go_icmp_ge (tgt := 40) dX10_keeps_16 (by decide) (fun c16 => absurd c16 (nI_ge (b := 4200) (by omega) (by decide))) (fun c16 => ?_)
      refine go_aloadn dX10_keeps_19 rfl ?_
      refine sg_getR dX10_keeps_20 fX10_69 rfl (mo_L rfl) hS (mo_r43 hS rfl) ?_
      refine go_iloadn dX10_keeps_23 rfl ?_
      refine go_bipush (v := 105) dX10_keeps_24 rfl ?_
      refine go_isub dX10_keeps_26 ?_
      refine go_aloadn dX10_keeps_27 rfl ?_
      refine sg_getR dX10_keeps_28 fX10_69 rfl (mo_L rfl) hS (mo_r43 hS rfl) ?_
      refine go_iloadn dX10_keeps_31 rfl ?_
      refine sg_ialdN (i := 105 + k) (x := hI h 92 (105 + k)) dX10_keeps_32 (mo_43 rfl) hS (by simp only [lit_nI, nI_add, pk_mul, Nat.add_assoc, Nat.zero_add, Nat.add_zero]) (by omega) ((e2 _ (by omega) (by omega))) ?_
      rw [sb]
      refine sg_iastN (i := k) dX10_keeps_33 (mo_43 rfl) hS (by simp only [lit_nI, nI_add, pk_mul, Nat.add_assoc, Nat.zero_add, Nat.add_zero]) (by omega) ?_
      refine go_iinc1 (c1 := 1) dX10_keeps_34 rfl rfl ?_
      refine go_goto (tgt := 12) dX10_keeps_37 (by decide) ?_
      exact go_cong (ih _ ⟨F.uI rfl, fun j hj => by rw [hI_uI]; by_cases z : j = k; (· subst z; rw [if_pos ⟨rfl, rfl⟩]); (rw [if_neg (by omega)]; exact e1 j (by omega)), fun j _ hj => by rw [hI_uI_ne (by omega)]; exact e2 j (by omega) (by omega)⟩) (by simp [nI_1, Nat.add_assoc]) rfl
    · obtain ⟨F, e1, -⟩ := hh
      have hS := F.St hS
      have b1 : hI g 77 44 = nI 40 := by rw [F.I (by omega), a1, z]
      have e92 : hI (uI g 77 44 (nI 39)) 92 = hI g 92 := funext fun k => hI_uI_ne (by omega)
      refine go_iloadn dX10_keeps_12 rfl ?_
      refine go_sipush (v := 4200) dX10_keeps_13 rfl ?_
      refine go_icmp_ge (tgt := 40) dX10_keeps_16 (by decide) (fun c16 => ?_) (fun c16 => absurd (by decide) c16)
      refine go_aloadn dX10_keeps_40 rfl ?_
      refine go_dup dX10_keeps_41 rfl ?_
      refine sg_getI dX10_keeps_42 fX10_283 rfl (mo_L rfl) hS ?_
      refine go_iconst (v := 1) dX10_keeps_45 rfl ?_
      rw [b1]
      refine go_isub dX10_keeps_46 ?_
      refine sg_putI dX10_keeps_47 fX10_283 rfl rfl (mo_L rfl) hS ?_
      exact fin _ (A.drop 1) _ ((F.sub (fun a k q => by unfold SH; omega)).uI (Or.inr ⟨rfl, rfl⟩)) (by rw [show nI 40 - 1 = nI 39 from rfl, e92, hI_uI_eq]; exact ⟨by rw [List.length_drop, z], by rw [List.length_drop]; omega, fun i hi => by rw [List.length_drop] at hi; rw [gT_d]; exact MR.cp W (a3 (i + 1) (by omega)) (fun j hj => by rw [e1 _ (by omega)]; congr 1; omega)⟩) (by rw [List.length_drop]; omega) hk
  · have hk : A ++ [T] = keepL A T := by rw [keepL, if_pos (by omega)]
    refine go_aloadn dX10_keeps_0 rfl ?_
    refine sg_getI dX10_keeps_1 fX10_283 rfl (mo_L rfl) hS ?_
    refine go_bipush (v := 40) dX10_keeps_4 rfl ?_
    rw [a1]
    refine go_icmp_ne (tgt := 50) dX10_keeps_6 (by decide) (fun c6 => ?_) (fun c6 => absurd ((nI_eq (b := 40) (by omega) (by decide)).mp c6) z)
    exact fin h A _ Fz.rf ⟨a1, a2, a3⟩ (by omega) hk
