/-! the words that are known, in the model's order -/
def kwT : List (List Nat) := [[111, 100, 100], [119, 101, 105, 103, 104, 116], [99, 111, 117, 110, 116], [101, 121, 101, 115], [111, 119, 110, 101, 114], [118, 97, 110, 105, 116, 121], [100, 97, 121], [115, 104, 97, 109, 101], [109, 97, 110, 121], [112, 108, 97, 99, 101, 115], [112, 101, 114, 115, 111, 110], [98, 108, 105, 110, 100], [116, 104, 105, 110, 103], [98, 121], [116, 101, 114, 109], [115, 104, 97, 109, 101, 115], [114, 101, 116, 117, 114, 110, 115], [97, 110, 100], [111, 114], [110, 111, 116]]
/-- the word of the class's text i -/
def tmT : List Nat := [20, 9, 10, 11, 12, 13, 14, 15, 19, 0, 1, 2, 3, 5, 4, 6, 7, 8, 18, 17, 16]
/-- the token is the word L -/
abbrev isWd (b : Nat → Nat) (n s : Nat) (L : List Nat) : Prop := tkK b n s = 1 ∧ tkE b n s - s = L.length ∧ ∀ i, i < L.length → b (s + i) = L.getD i 0
def kwN (b : Nat → Nat) (n s : Nat) : Nat := (fsN (fun k => isWd b n s (kwT.getD k [])) 20).getD 20
theorem isWd_eq {b : Nat → Nat} {n s : Nat} {L L' : List Nat} (h : isWd b n s L) (h' : isWd b n s L') : L = L' := by
  have e : L.length = L'.length := h.2.1.symm.trans h'.2.1
  refine List.ext_getElem e (fun i h1 h2 => ?_)
  have a := h.2.2 i h1
  have c := h'.2.2 i h2
  rw [List.getD_eq_getElem?_getD, List.getElem?_eq_getElem h1] at a
  rw [List.getD_eq_getElem?_getD, List.getElem?_eq_getElem h2] at c
  exact a.symm.trans c
theorem kwT_inj : ∀ i j : Fin 20, kwT.getD i.val [] = kwT.getD j.val [] → i = j := by decide +kernel
theorem kwN_iff {b : Nat → Nat} {n s k : Nat} (hk : k < 20) : kwN b n s = k ↔ isWd b n s (kwT.getD k []) := by
  unfold kwN
  cases hf : fsN (fun k => isWd b n s (kwT.getD k [])) 20 with
  | none => exact ⟨fun q => absurd (show (20 : Nat) = k from q) (by omega), fun q => absurd q (fs_of_none hf k hk)⟩
  | some m =>
    obtain ⟨f1, f2, -⟩ := fs_of_some hf
    refine ⟨fun q => ?_, fun q => ?_⟩
    · have : m = k := q
      rw [← this]; exact f2
    · have := kwT_inj ⟨m, f1⟩ ⟨k, hk⟩ (isWd_eq f2 q)
      exact congrArg Fin.val this
theorem kwN_le {b : Nat → Nat} {n s : Nat} : kwN b n s ≤ 20 := by
  unfold kwN
  cases hf : fsN (fun k => isWd b n s (kwT.getD k [])) 20 with
  | none => exact Nat.le_refl _
  | some m => exact Nat.le_of_lt (fs_of_some hf).1
theorem kwN_1 {b : Nat → Nat} {n s : Nat} (h : ¬ tkK b n s = 1) : kwN b n s = 20 := by
  have := kwN_le (b := b) (n := n) (s := s)
  by_cases q : kwN b n s = 20
  · exact q
  · exact absurd ((kwN_iff (by omega)).mp rfl).1 h
theorem tm_ok : ∀ i : Fin 21, 0 < i.val → tmT.getD i.val 0 < 20 ∧ (kwT.getD (tmT.getD i.val 0) []).length = strL.getD i.val 0 ∧ strL.getD i.val 0 ≤ 7 ∧ ∀ j : Fin 7, j.val < strL.getD i.val 0 → (strB.getD i.val []).getD j.val 0 = nI ((kwT.getD (tmT.getD i.val 0) []).getD j.val 0) ∧ (kwT.getD (tmT.getD i.val 0) []).getD j.val 0 < 128 := by decide +kernel
theorem nI_sb {a s : Nat} (h : s ≤ a) : nI a - nI s = nI (a - s) := by
  have := nI_subS (s := s) (k := a - s)
  rwa [show s + (a - s) = a by omega] at this
theorem r_isWord {l : Launch} {d n s i : Nat} {b : Nat → Nat} {h : Hp} (hS : St h) (R : RC h b n s) (hi : i < 21) (i0 : 0 < i) : Ex l (d + 5) mX3_isWord [.ref 3, .ref (1001 + i)] h (some (.int (if kwN b n s = tmT.getD i 0 then 1 else 0))) h := by
  obtain ⟨H2, r2, r3, r4, r5, -⟩ := R
  have n7 := H2.2.2.1
  have te := tkE_le (b := b) r5
  have k5 := tkK_lt (b := b) (n := n) (s := s)
  obtain ⟨m1, m2, m3, m4⟩ := tm_ok ⟨i, hi⟩ i0
  dsimp only at m1 m2 m3 m4
  have e1 : nI (tkK b n s) = 1 ↔ tkK b n s = 1 := nI_eq (b := 1) (by omega) (by decide)
  have kw := kwN_iff (b := b) (n := n) (s := s) m1
  refine run_lv [some (.ref 3), some (.ref (1001 + i)), none] (go := ?_)
  by_cases z : tkK b n s = 1
  · have se : s ≤ tkE b n s := tkE_ge
    by_cases y : tkE b n s - s = strL.getD i 0
    · have go28 : ∀ j, j ≤ strL.getD i 0 → (∀ t, t < j → b (s + t) = (kwT.getD (tmT.getD i 0) []).getD t 0) → Go l (rmOf (d + 5) (0, 0)) mX3_isWord (hN h) (Zm (0, 0) (fun v h1 => v = some (.int (if kwN b n s = tmT.getD i 0 then 1 else 0)) ∧ h1 = h) noX) 28 [some (.ref 3), some (.ref (1001 + i)), some (.int (nI j))] [] h 0 0 := by
        intro j hj hp
        generalize hk : strL.getD i 0 - j = k
        induction k generalizing j with
        | zero =>
          have ej : j = strL.getD i 0 := by omega
          refine go_iloadn dX3_isWord_28 rfl ?_
          refine go_aloadn dX3_isWord_29 rfl ?_
          refine sg_cT (M' := mJ0_length_8abf5) ([]) dX3_isWord_30 lX3_83 vJ0_length_8abf5 hi rfl hS (t_length hS hi) rfl (Nat.le_of_ble_eq_true rfl) (Nat.zero_le _) (Nat.zero_le _) ?_
          refine go_icmp_ge (tgt := 63) dX3_isWord_33 (by decide) (fun c33 => ?_) (fun c33 => absurd (by rw [ej]; exact Int32.le_refl _) c33)
          refine go_iconst (v := 1) dX3_isWord_63 rfl ?_
          refine go_ireturn dX3_isWord_64 rfl rfl (Nat.zero_le _) (Nat.zero_le _) ?_
          exact ⟨by rw [if_pos (kw.mpr ⟨z, y.trans m2.symm, fun t ht => hp t (by omega)⟩)], rfl⟩
        | succ k ih =>
          have jl : j < strL.getD i 0 := by omega
          have jn : s + j < n := by omega
          obtain ⟨t1, t2⟩ := H2.2.2.2 _ jn
          obtain ⟨c1, c2⟩ := m4 ⟨j, by omega⟩ jl
          have eb := by_c ⟨b (s + j), t2⟩ ⟨_, c2⟩
          dsimp only at eb c1
          rw [← c1] at eb
          by_cases x : b (s + j) = (kwT.getD (tmT.getD i 0) []).getD j 0
          · refine go_iloadn dX3_isWord_28 rfl ?_
            refine go_aloadn dX3_isWord_29 rfl ?_
            refine sg_cT (M' := mJ0_length_8abf5) ([]) dX3_isWord_30 lX3_83 vJ0_length_8abf5 hi rfl hS (t_length hS hi) rfl (Nat.le_of_ble_eq_true rfl) (Nat.zero_le _) (Nat.zero_le _) ?_
            refine go_icmp_ge (tgt := 63) dX3_isWord_33 (by decide) (fun c33 => absurd c33 (nI_ge jl (by omega))) (fun c33 => ?_)
            refine go_aloadn dX3_isWord_36 rfl ?_
            refine sg_getR dX3_isWord_37 fX3_9 rfl (rd_L rfl) hS H2.1 ?_
            refine go_aloadn dX3_isWord_40 rfl ?_
            refine sg_getI dX3_isWord_41 fX3_60 rfl (rd_L rfl) hS ?_
            refine go_iloadn dX3_isWord_44 rfl ?_
            rw [r3]
            refine go_iadd dX3_isWord_45 ?_
            refine sg_baldN (i := s + j) (x := byI (b (s + j))) dX3_isWord_46 rfl hS (by simp only [lit_nI, nI_add, pk_mul, Nat.add_assoc, Nat.zero_add, Nat.add_zero]) (by omega) (t1) ?_
            refine go_aloadn dX3_isWord_47 rfl ?_
            refine go_iloadn dX3_isWord_48 rfl ?_
            refine sg_cT (M' := mJ0_charAt_5068e) ([.int (nI j)]) dX3_isWord_49 lX3_86 vJ0_charAt_5068e hi rfl hS (t_charAt hS hi jl) rfl (Nat.le_of_ble_eq_true rfl) (Nat.zero_le _) (Nat.zero_le _) ?_
            refine go_icmp_eq (tgt := 57) dX3_isWord_52 (by decide) (fun c52 => ?_) (fun c52 => absurd (eb.mpr x) c52)
            refine go_iinc2 (c1 := 1) dX3_isWord_57 rfl rfl ?_
            rw [nI_1]
            refine go_goto (tgt := 28) dX3_isWord_60 (by decide) ?_
            exact ih (j + 1) (by omega) (fun t ht => by by_cases q : t < j; exact hp t q; rw [show t = j by omega]; exact x) (by omega)
          · refine go_iloadn dX3_isWord_28 rfl ?_
            refine go_aloadn dX3_isWord_29 rfl ?_
            refine sg_cT (M' := mJ0_length_8abf5) ([]) dX3_isWord_30 lX3_83 vJ0_length_8abf5 hi rfl hS (t_length hS hi) rfl (Nat.le_of_ble_eq_true rfl) (Nat.zero_le _) (Nat.zero_le _) ?_
            refine go_icmp_ge (tgt := 63) dX3_isWord_33 (by decide) (fun c33 => absurd c33 (nI_ge jl (by omega))) (fun c33 => ?_)
            refine go_aloadn dX3_isWord_36 rfl ?_
            refine sg_getR dX3_isWord_37 fX3_9 rfl (rd_L rfl) hS H2.1 ?_
            refine go_aloadn dX3_isWord_40 rfl ?_
            refine sg_getI dX3_isWord_41 fX3_60 rfl (rd_L rfl) hS ?_
            refine go_iloadn dX3_isWord_44 rfl ?_
            rw [r3]
            refine go_iadd dX3_isWord_45 ?_
            refine sg_baldN (i := s + j) (x := byI (b (s + j))) dX3_isWord_46 rfl hS (by simp only [lit_nI, nI_add, pk_mul, Nat.add_assoc, Nat.zero_add, Nat.add_zero]) (by omega) (t1) ?_
            refine go_aloadn dX3_isWord_47 rfl ?_
            refine go_iloadn dX3_isWord_48 rfl ?_
            refine sg_cT (M' := mJ0_charAt_5068e) ([.int (nI j)]) dX3_isWord_49 lX3_86 vJ0_charAt_5068e hi rfl hS (t_charAt hS hi jl) rfl (Nat.le_of_ble_eq_true rfl) (Nat.zero_le _) (Nat.zero_le _) ?_
            refine go_icmp_eq (tgt := 57) dX3_isWord_52 (by decide) (fun c52 => absurd (eb.mp c52) x) (fun c52 => ?_)
            refine go_iconst (v := 0) dX3_isWord_55 rfl ?_
            refine go_ireturn dX3_isWord_56 rfl rfl (Nat.zero_le _) (Nat.zero_le _) ?_
            exact ⟨by rw [if_neg (fun q => x ((kw.mp q).2.2 j (by omega)))], rfl⟩
      refine go_aloadn dX3_isWord_0 rfl ?_
      refine sg_getI dX3_isWord_1 fX3_57 rfl (rd_L rfl) hS ?_
      rw [r2]
      refine go_iconst (v := 1) dX3_isWord_4 rfl ?_
      refine go_icmp_ne (tgt := 24) dX3_isWord_5 (by decide) (fun c5 => absurd (e1.mpr z) c5) (fun c5 => ?_)
      refine go_aloadn dX3_isWord_8 rfl ?_
      refine sg_getI dX3_isWord_9 fX3_38 rfl (rd_L rfl) hS ?_
      rw [r4]
      refine go_aloadn dX3_isWord_12 rfl ?_
      refine sg_getI dX3_isWord_13 fX3_60 rfl (rd_L rfl) hS ?_
      rw [r3]
      refine go_isub dX3_isWord_16 ?_
      rw [nI_sb se]
      refine go_aloadn dX3_isWord_17 rfl ?_
      refine sg_cT (M' := mJ0_length_8abf5) ([]) dX3_isWord_18 lX3_83 vJ0_length_8abf5 hi rfl hS (t_length hS hi) rfl (Nat.le_of_ble_eq_true rfl) (Nat.zero_le _) (Nat.zero_le _) ?_
      refine go_icmp_eq (tgt := 26) dX3_isWord_21 (by decide) (fun c21 => ?_) (fun c21 => absurd (by rw [y]) c21)
      refine go_iconst (v := 0) dX3_isWord_26 rfl ?_
      refine go_ist2 dX3_isWord_27 rfl ?_
      exact go28 0 (by omega) (fun t ht => by omega)
    · refine go_aloadn dX3_isWord_0 rfl ?_
      refine sg_getI dX3_isWord_1 fX3_57 rfl (rd_L rfl) hS ?_
      rw [r2]
      refine go_iconst (v := 1) dX3_isWord_4 rfl ?_
      refine go_icmp_ne (tgt := 24) dX3_isWord_5 (by decide) (fun c5 => absurd (e1.mpr z) c5) (fun c5 => ?_)
      refine go_aloadn dX3_isWord_8 rfl ?_
      refine sg_getI dX3_isWord_9 fX3_38 rfl (rd_L rfl) hS ?_
      rw [r4]
      refine go_aloadn dX3_isWord_12 rfl ?_
      refine sg_getI dX3_isWord_13 fX3_60 rfl (rd_L rfl) hS ?_
      rw [r3]
      refine go_isub dX3_isWord_16 ?_
      rw [nI_sb se]
      refine go_aloadn dX3_isWord_17 rfl ?_
      refine sg_cT (M' := mJ0_length_8abf5) ([]) dX3_isWord_18 lX3_83 vJ0_length_8abf5 hi rfl hS (t_length hS hi) rfl (Nat.le_of_ble_eq_true rfl) (Nat.zero_le _) (Nat.zero_le _) ?_
      refine go_icmp_eq (tgt := 26) dX3_isWord_21 (by decide) (fun c21 => absurd ((nI_eq (by omega) (by omega)).mp c21) y) (fun c21 => ?_)
      refine go_iconst (v := 0) dX3_isWord_24 rfl ?_
      refine go_ireturn dX3_isWord_25 rfl rfl (Nat.zero_le _) (Nat.zero_le _) ?_
      exact ⟨by rw [if_neg (fun q => y ((kw.mp q).2.1.trans m2))], rfl⟩
  · refine go_aloadn dX3_isWord_0 rfl ?_
    refine sg_getI dX3_isWord_1 fX3_57 rfl (rd_L rfl) hS ?_
    rw [r2]
    refine go_iconst (v := 1) dX3_isWord_4 rfl ?_
    refine go_icmp_ne (tgt := 24) dX3_isWord_5 (by decide) (fun c5 => ?_) (fun c5 => absurd (e1.mp c5) z)
    refine go_iconst (v := 0) dX3_isWord_24 rfl ?_
    refine go_ireturn dX3_isWord_25 rfl rfl (Nat.zero_le _) (Nat.zero_le _) ?_
    exact ⟨by rw [if_neg (fun q => z (kw.mp q).1)], rfl⟩
