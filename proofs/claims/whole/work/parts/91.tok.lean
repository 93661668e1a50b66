/-! tokens -/
/-- the end of the span from i on -/
def spn (p : Nat → Bool) (n i : Nat) : Nat := i + (fsN (fun k => ¬ (i + k < n ∧ p (i + k) = true)) (n + 1)).getD 0
theorem spn_ok {p : Nat → Bool} {n i : Nat} : (∀ j, i ≤ j → j < spn p n i → j < n ∧ p j = true) ∧ ¬ (spn p n i < n ∧ p (spn p n i) = true) ∧ i ≤ spn p n i ∧ (i ≤ n → spn p n i ≤ n) := by
  cases hf : fsN (fun k => ¬ (i + k < n ∧ p (i + k) = true)) (n + 1) with
  | none => exact absurd (fun q => by omega) (fs_of_none hf n (by omega))
  | some m =>
    obtain ⟨h1, h2, h3⟩ := fs_of_some hf
    have e : spn p n i = i + m := by unfold spn; rw [hf]; rfl
    rw [e]
    have h4 : ∀ j, i ≤ j → j < i + m → j < n ∧ p j = true := fun j h4 h5 => by
      have := Decidable.not_not.mp (h3 (j - i) (by omega))
      rw [show i + (j - i) = j by omega] at this; exact this
    refine ⟨h4, h2, by omega, fun hi => ?_⟩
    rcases Nat.eq_zero_or_pos m with q | q
    · omega
    · have := (h4 (i + m - 1) (by omega) (by omega)).1; omega
def isL (c : Nat) : Bool := decide (97 ≤ c) && decide (c ≤ 122)
def isD (c : Nat) : Bool := decide (48 ≤ c) && decide (c ≤ 57)
def isW (c : Nat) : Bool := decide (c = 32) || decide (c = 10)
theorem by_L : ∀ n : Fin 256, isL n.val = (decide (97 ≤ byI n.val) && decide (byI n.val ≤ 122)) := by decide +kernel
theorem by_D : ∀ n : Fin 256, isD n.val = (decide (48 ≤ byI n.val) && decide (byI n.val ≤ 57)) := by decide +kernel
theorem by_W : ∀ n : Fin 256, isW n.val = (decide (byI n.val = 32) || decide (byI n.val = 10)) := by decide +kernel
theorem by_n : ∀ n : Fin 128, byI n.val = nI n.val := by decide +kernel
section
variable {l : Launch} {R : Room} {M : MI} {n0 : Nat} {Z : ZT} {pc : Nat} {lv : List (Option Value)} {st : List Value} {h : Hp} {u w : Nat}
theorem sg_baldN {a n i : Nat} {x y : Int32} (hd : decode M.2.1 pc = .ok (.baload, 1)) (ha : lay a = .inr (1, n)) (hS : St h) (he : y = nI i) (hi : i < n ∧ n < 2 ^ 31) (hv : hI h a i = x) (kk : Go l R M n0 Z (pc + 1) lv (.int x :: st) h u w) : Go l R M n0 Z pc lv (.int y :: .ref a :: st) h u w := by
  subst he
  refine sg_bald hd ha hS (vp_in_nI hi.1 hi.2) ?_
  rw [cl_nI (by omega), hv]; exact kk
end
/-- the class's text -/
def TX (g : Hp) (b : Nat → Nat) (n : Nat) : Prop := hR g 3 0 = some 1 ∧ hI g 3 1 = nI n ∧ n ≤ 700 ∧ ∀ i, i < n → hI g 1 i = byI (b i) ∧ b i < 256
theorem TX.fz {S : Nat → Nat → Prop} {h g : Hp} {b : Nat → Nat} {n : Nat} (H : TX h b n) (F : Fz S h g) (hs : ¬ S 3 1 ∧ ∀ k, ¬ S 1 k) : TX g b n := ⟨by rw [F.1]; exact H.1, by rw [F.I hs.1]; exact H.2.1, H.2.2.1, fun i hi => by rw [F.I (hs.2 _)]; exact H.2.2.2 i hi⟩
theorem r_nextWord {l : Launch} {d n i : Nat} {b : Nat → Nat} {h : Hp} (hS : St h) (H : TX h b n) (he : hI h 3 4 = nI i) (hi : i ≤ n) : Ey l (d + 1) mX3_nextWord [.ref 3] h none (fun g => Fz (fun a k => a = 3 ∧ (k = 2 ∨ k = 4)) h g ∧ hI g 3 2 = 1 ∧ hI g 3 4 = nI (spn (fun j => isL (b j)) n i)) := by
  have n7 := H.2.2.1
  obtain ⟨s1, s2, s3, s4⟩ := spn_ok (p := fun j => isL (b j)) (n := n) (i := i)
  have s4 := s4 hi
  generalize spn (fun j => isL (b j)) n i = e at *
  refine run_lv [some (.ref 3)] (go := ?_)
  refine go_aloadn dX3_nextWord_0 rfl ?_
  refine go_iconst (v := 1) dX3_nextWord_1 rfl ?_
  refine sg_putI dX3_nextWord_2 fX3_57 rfl rfl (rd_L rfl) hS ?_
  refine go_cong (go_loopR (lvf := fun _ => [some (.ref 3)]) (e - i) (fun k g => Fz (fun a k => a = 3 ∧ (k = 2 ∨ k = 4)) h g ∧ hI g 3 2 = 1 ∧ hI g 3 4 = nI (i + k)) (fun k g hk hh ih => ?_) (fun g hh => ?_) 0 (uI h 3 2 1) (Nat.zero_le _) ⟨Fz.rf.uI ⟨rfl, Or.inl rfl⟩, hI_uI_eq, by rw [hI_uI_ne (by omega)]; exact he⟩) rfl rfl
  · obtain ⟨F, e2, e4⟩ := hh
    have hS := F.St hS
    have H2 := H.fz F ⟨by omega, fun k => by omega⟩
    obtain ⟨k1, k2⟩ := s1 (i + k) (by omega) (by omega)
    obtain ⟨t1, t2⟩ := H2.2.2.2 _ k1
    have k2 := k2
    rw [by_L ⟨_, t2⟩, Bool.and_eq_true, decide_eq_true_eq, decide_eq_true_eq] at k2
    refine go_aloadn dX3_nextWord_5 rfl ?_
    refine sg_getI dX3_nextWord_6 fX3_38 rfl (rd_L rfl) hS ?_
    rw [e4]
    refine go_aloadn dX3_nextWord_9 rfl ?_
    refine sg_getI dX3_nextWord_10 fX3_25 rfl (rd_L rfl) hS ?_
    rw [H2.2.1]
    refine go_icmp_ge (tgt := 57) dX3_nextWord_13 (by decide) (fun c13 => absurd c13 (nI_ge k1 (by omega))) (fun c13 => ?_)
    refine go_aloadn dX3_nextWord_16 rfl ?_
    refine sg_getR dX3_nextWord_17 fX3_9 rfl (rd_L rfl) hS H2.1 ?_
    refine go_aloadn dX3_nextWord_20 rfl ?_
    refine sg_getI dX3_nextWord_21 fX3_38 rfl (rd_L rfl) hS ?_
    rw [e4]
    refine sg_baldN (i := i + k) (x := byI (b (i + k))) dX3_nextWord_24 rfl hS (by simp only [lit_nI, nI_add, pk_mul, Nat.add_assoc, Nat.zero_add, Nat.add_zero]) (by omega) (t1) ?_
    refine go_bipush (v := 97) dX3_nextWord_25 rfl ?_
    refine go_icmp_lt (tgt := 57) dX3_nextWord_27 (by decide) (fun c27 => absurd c27 (Int32.not_lt.mpr k2.1)) (fun c27 => ?_)
    refine go_aloadn dX3_nextWord_30 rfl ?_
    refine sg_getR dX3_nextWord_31 fX3_9 rfl (rd_L rfl) hS H2.1 ?_
    refine go_aloadn dX3_nextWord_34 rfl ?_
    refine sg_getI dX3_nextWord_35 fX3_38 rfl (rd_L rfl) hS ?_
    rw [e4]
    refine sg_baldN (i := i + k) (x := byI (b (i + k))) dX3_nextWord_38 rfl hS (by simp only [lit_nI, nI_add, pk_mul, Nat.add_assoc, Nat.zero_add, Nat.add_zero]) (by omega) (t1) ?_
    refine go_bipush (v := 122) dX3_nextWord_39 rfl ?_
    refine go_icmp_gt (tgt := 57) dX3_nextWord_41 (by decide) (fun c41 => absurd c41 (Int32.not_lt.mpr k2.2)) (fun c41 => ?_)
    refine go_aloadn dX3_nextWord_44 rfl ?_
    refine go_dup dX3_nextWord_45 rfl ?_
    refine sg_getI dX3_nextWord_46 fX3_38 rfl (rd_L rfl) hS ?_
    refine go_iconst (v := 1) dX3_nextWord_49 rfl ?_
    refine go_iadd dX3_nextWord_50 ?_
    rw [e4, nI_1]
    refine sg_putI dX3_nextWord_51 fX3_38 rfl rfl (rd_L rfl) hS ?_
    refine go_goto (tgt := 5) dX3_nextWord_54 (by decide) ?_
    exact go_cong (ih _ ⟨F.uI ⟨rfl, Or.inr rfl⟩, by rw [hI_uI_ne (by omega)]; exact e2, hI_uI_eq⟩) rfl rfl
  · obtain ⟨F, e2, e4⟩ := hh
    have hS := F.St hS
    have H2 := H.fz F ⟨by omega, fun k => by omega⟩
    rw [show i + (e - i) = e by omega] at e4
    by_cases q : e < n
    · obtain ⟨t1, t2⟩ := H2.2.2.2 _ q
      have k2 : ¬ isL (b e) = true := fun z => s2 ⟨q, z⟩
      rw [by_L ⟨_, t2⟩, Bool.and_eq_true, decide_eq_true_eq, decide_eq_true_eq] at k2
      refine go_aloadn dX3_nextWord_5 rfl ?_
      refine sg_getI dX3_nextWord_6 fX3_38 rfl (rd_L rfl) hS ?_
      rw [e4]
      refine go_aloadn dX3_nextWord_9 rfl ?_
      refine sg_getI dX3_nextWord_10 fX3_25 rfl (rd_L rfl) hS ?_
      rw [H2.2.1]
      refine go_icmp_ge (tgt := 57) dX3_nextWord_13 (by decide) (fun c13 => absurd c13 (nI_ge q (by omega))) (fun c13 => ?_)
      refine go_aloadn dX3_nextWord_16 rfl ?_
      refine sg_getR dX3_nextWord_17 fX3_9 rfl (rd_L rfl) hS H2.1 ?_
      refine go_aloadn dX3_nextWord_20 rfl ?_
      refine sg_getI dX3_nextWord_21 fX3_38 rfl (rd_L rfl) hS ?_
      rw [e4]
      refine sg_baldN (i := e) (x := byI (b e)) dX3_nextWord_24 rfl hS (by simp only [lit_nI, nI_add, pk_mul, Nat.add_assoc, Nat.zero_add, Nat.add_zero]) (by omega) (t1) ?_
      refine go_bipush (v := 97) dX3_nextWord_25 rfl ?_
      refine go_icmp_lt (tgt := 57) dX3_nextWord_27 (by decide) (fun c27 => ?_) (fun c27 => ?_)
      · refine go_return dX3_nextWord_57 rfl (Nat.zero_le _) (Nat.zero_le _) ?_
        exact ⟨rfl, F, e2, e4⟩
      · refine go_aloadn dX3_nextWord_30 rfl ?_
        refine sg_getR dX3_nextWord_31 fX3_9 rfl (rd_L rfl) hS H2.1 ?_
        refine go_aloadn dX3_nextWord_34 rfl ?_
        refine sg_getI dX3_nextWord_35 fX3_38 rfl (rd_L rfl) hS ?_
        rw [e4]
        refine sg_baldN (i := e) (x := byI (b e)) dX3_nextWord_38 rfl hS (by simp only [lit_nI, nI_add, pk_mul, Nat.add_assoc, Nat.zero_add, Nat.add_zero]) (by omega) (t1) ?_
        refine go_bipush (v := 122) dX3_nextWord_39 rfl ?_
        refine go_icmp_gt (tgt := 57) dX3_nextWord_41 (by decide) (fun c41 => ?_) (fun c41 => absurd ⟨Int32.not_lt.mp c27, Int32.not_lt.mp c41⟩ k2)
        refine go_return dX3_nextWord_57 rfl (Nat.zero_le _) (Nat.zero_le _) ?_
        exact ⟨rfl, F, e2, e4⟩
    · refine go_aloadn dX3_nextWord_5 rfl ?_
      refine sg_getI dX3_nextWord_6 fX3_38 rfl (rd_L rfl) hS ?_
      rw [e4]
      refine go_aloadn dX3_nextWord_9 rfl ?_
      refine sg_getI dX3_nextWord_10 fX3_25 rfl (rd_L rfl) hS ?_
      rw [H2.2.1]
      refine go_icmp_ge (tgt := 57) dX3_nextWord_13 (by decide) (fun c13 => ?_) (fun c13 => absurd (nI_le (by omega) (by omega)) c13)
      refine go_return dX3_nextWord_57 rfl (Nat.zero_le _) (Nat.zero_le _) ?_
      exact ⟨rfl, F, e2, e4⟩
