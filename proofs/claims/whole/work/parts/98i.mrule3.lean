/-! rules of the model: levels -/
def hsT : List Nat → Nat
  | [] => 0
  | o :: W => if o = 0 then 0 else if o = 4 ∨ o = 5 then 1 else hsT W
def TBl (t : Nat → Int32) : List Nat → Nat → Prop
  | [], d => d = 1
  | o :: W, d => if o = 0 then 2 ≤ d ∧ t (d - 1) = nI (hsT W) ∧ TBl t W (d - 1) else TBl t W d
theorem hs_c {o : Nat} {W : List Nat} : hsT (o :: W) = if o = 0 then 0 else if o = 4 ∨ o = 5 then 1 else hsT W := rfl
theorem tb_c {t : Nat → Int32} {o d : Nat} {W : List Nat} : TBl t (o :: W) d = if o = 0 then 2 ≤ d ∧ t (d - 1) = nI (hsT W) ∧ TBl t W (d - 1) else TBl t W d := rfl
theorem hs_le : ∀ {W : List Nat}, hsT W ≤ 1
  | [] => Nat.zero_le _
  | o :: W => by rw [hs_c]; split; omega; split; omega; exact hs_le
theorem hs_rk : ∀ {W : List Nat}, WW W → hsT W = 1 → 9 ≤ rk W
  | [], _, h => absurd h (show ¬ (0 : Nat) = 1 by decide)
  | o :: W, hw, h => by
    rw [hs_c] at h
    by_cases q : o = 0
    · rw [if_pos q] at h; exact absurd h (by decide)
    · rw [if_neg q] at h
      by_cases t : o = 4 ∨ o = 5
      · rw [rk_c, if_neg q, if_neg (by omega), if_neg (by omega), if_pos (by omega)]; exact Nat.le_refl _
      · rw [if_neg t] at h
        have := hs_rk hw.1 h
        have := (hw.2.2.resolve_left q).1
        omega
theorem hs_pop {m : Nat} (hm : 5 ≤ m) : ∀ {W : List Nat} {p : Pr}, WW W → hsT (popW m W p).1 = hsT W
  | [], _, _ => rfl
  | o :: W, p, hw => by
    rw [popW_c]
    split
    · have h9 := hw.2.1
      have := (bd_0 ⟨o, by omega⟩).2.2.2.2.2.2
      dsimp only at this
      rw [hs_pop hm hw.1, hs_c, if_neg (by omega), if_neg (by omega)]
    · rfl
theorem tb_pop {t : Nat → Int32} {m d : Nat} (hm : 0 < m) : ∀ {W : List Nat} {p : Pr}, WW W → TBl t W d → TBl t (popW m W p).1 d
  | [], _, _, h => h
  | o :: W, p, hw, h => by
    rw [popW_c]
    split
    · have h9 := hw.2.1
      have := (bd_0 ⟨o, by omega⟩).1
      dsimp only at this
      rw [tb_c, if_neg (by omega)] at h
      exact tb_pop hm hw.1 h
    · exact h
theorem tb_cong {t t' : Nat → Int32} : ∀ {W : List Nat} {d : Nat}, (∀ j, j < d → t' j = t j) → TBl t W d → TBl t' W d
  | [], _, _, h => h
  | o :: W, d, e, h => by
    rw [tb_c] at h ⊢
    by_cases q : o = 0
    · rw [if_pos q] at h ⊢
      exact ⟨h.1, by rw [e _ (by omega)]; exact h.2.1, tb_cong (fun j hj => e j (by omega)) h.2.2⟩
    · rw [if_neg q] at h ⊢; exact tb_cong e h
/-- a test waits on the level: it is on top below what is tighter -/
theorem hs_5 : ∀ {W : List Nat} {p : Pr}, WW W → (topB (popW 5 W p).1 = 4 ↔ hsT W = 1)
  | [], _, _ => ⟨fun q => absurd q (show ¬ (0 : Nat) = 4 by decide), fun q => absurd q (show ¬ (0 : Nat) = 1 by decide)⟩
  | o :: W, p, hw => by
    have h9 := hw.2.1
    obtain ⟨a1, a2, a3, a4, a5, a6, a7⟩ := bd_0 ⟨o, by omega⟩
    dsimp only at a1 a2 a3 a4 a5 a6 a7
    rw [popW_c]
    by_cases z : 5 ≤ bdN o
    · rw [if_pos z, hs_c, if_neg (by have := a7 z; omega), if_neg (by have := a7 z; omega)]
      exact hs_5 hw.1
    · rw [if_neg z]
      show bdN o = 4 ↔ _
      rw [hs_c, a6]
      by_cases q : o = 0
      · rw [if_pos q]; exact ⟨fun y => by omega, fun y => absurd y (by decide)⟩
      · rw [if_neg q]
        by_cases t : o = 4 ∨ o = 5
        · rw [if_pos t]; exact ⟨fun _ => rfl, fun _ => t⟩
        · rw [if_neg t]
          refine ⟨fun y => absurd y t, fun y => ?_⟩
          have h1 := hs_rk hw.1 y
          have h2 := (hw.2.2.resolve_left q).1
          have h3 := (rk_top hw).2.2.1 (by show bdN o ≤ 3; omega)
          omega
theorem pop_45 : ∀ {W : List Nat} {p : Pr}, WW W → hsT W = 0 → popW 4 W p = popW 5 W p
  | [], _, _, _ => rfl
  | o :: W, p, hw, h => by
    have h9 := hw.2.1
    obtain ⟨a1, a2, a3, a4, a5, a6, a7⟩ := bd_0 ⟨o, by omega⟩
    dsimp only at a1 a2 a3 a4 a5 a6 a7
    rw [popW_c, popW_c]
    rw [hs_c] at h
    by_cases z : 5 ≤ bdN o
    · rw [if_pos z, if_pos (by omega)]
      rw [if_neg (by have := a7 z; omega), if_neg (by have := a7 z; omega)] at h
      exact pop_45 hw.1 h
    · rw [if_neg z]
      by_cases y : bdN o = 4
      · have t := a6.mp y
        rw [if_neg (by omega), if_pos t] at h; exact absurd h (by decide)
      · rw [if_neg (by omega)]
def MU (g : Hp) (tp : Nat) (U : Ru) : Prop := SKm g tp (uW U) (uP U) ∧ hI g 77 34 = nI (uE U + 1) ∧ hI g 90 (uE U + 1) = nI (hsT (uW U)) ∧ TBl (hI g 90) (uW U) (uE U + 1)
theorem tm_22 {g : Hp} {b : Nat → Nat} {n s : Nat} {f : Nat × Nat} (R : RM g b n s f) : (if s < n then b s else 0) < 256 := by
  by_cases q : s < n
  · rw [if_pos q]; exact (R.1.2.2 s q).2
  · rw [if_neg q]; decide
theorem q_isSignR {l : Launch} {d n s c : Nat} {b : Nat → Nat} {f : Nat × Nat} {h : Hp} (hS : St h) (R : RM h b n s f) (hc : c < 256) : Ex l (d + 1) mX10_isSign [.ref 77, .int (nI c)] h (some (.int (if tkK b n s = 3 ∧ b s = c then 1 else 0))) h := by
  have := q_isSign (l := l) (d := d) (y := nI c) hS
  have k5 := tkK_lt (b := b) (n := n) (s := s)
  have t := tm_22 R
  have e : (hI h 77 18 = 3 ∧ hI h 77 22 = nI c) ↔ (tkK b n s = 3 ∧ b s = c) := by
    rw [R.2.1.2.1, R.2.1.2.2.2.2.2.1]
    have x1 : nI (tkK b n s) = 3 ↔ tkK b n s = 3 := nI_eq (b := 3) (by omega) (by decide)
    rw [x1]
    refine ⟨fun q => ⟨q.1, ?_⟩, fun q => ⟨q.1, ?_⟩⟩
    · have sn := tk3 (b := b) (n := n) (s := s) (by omega)
      have := (nI_eq (by omega) (by omega)).mp q.2
      rw [if_pos sn] at this; exact this
    · have sn := tk3 (b := b) (n := n) (s := s) (by omega)
      rw [if_pos sn, q.2]
  by_cases q : tkK b n s = 3 ∧ b s = c
  · rw [if_pos (e.mpr q)] at this; rw [if_pos q]; exact this
  · rw [if_neg (fun z => q (e.mp z))] at this; rw [if_neg q]; exact this
theorem q_deeper {l : Launch} {d dd : Nat} {h : Hp} (hS : St h) (h34 : hI h 77 34 = nI dd) (hd : dd < 6) : Ex l (d + 2) mX10_deeper [.ref 77] h none (uI (uI h 77 34 (nI (dd + 1))) 90 (dd + 1) 0) := by
  refine run_lv [some (.ref 77)] (go := ?_)
  refine go_aloadn dX10_deeper_0 rfl ?_
  refine sg_getI dX10_deeper_1 fX10_196 rfl (mo_L rfl) hS ?_
  refine go_bipush (v := 6) dX10_deeper_4 rfl ?_
  rw [h34]
  refine go_icmp_ge (tgt := 30) dX10_deeper_6 (by decide) (fun c6 => absurd c6 (nI_ge (b := 6) hd (by decide))) (fun c6 => ?_)
  refine go_aloadn dX10_deeper_9 rfl ?_
  refine go_dup dX10_deeper_10 rfl ?_
  refine sg_getI dX10_deeper_11 fX10_196 rfl (mo_L rfl) hS ?_
  refine go_iconst (v := 1) dX10_deeper_14 rfl ?_
  refine go_iadd dX10_deeper_15 ?_
  rw [h34, nI_1]
  refine sg_putI dX10_deeper_16 fX10_196 rfl rfl (mo_L rfl) hS ?_
  refine go_aloadn dX10_deeper_19 rfl ?_
  refine sg_getR dX10_deeper_20 fX10_63 rfl (mo_L rfl) hS (mo_r41 hS rfl) ?_
  refine go_aloadn dX10_deeper_23 rfl ?_
  refine sg_getI dX10_deeper_24 fX10_196 rfl (mo_L rfl) hS ?_
  refine go_iconst (v := 0) dX10_deeper_27 rfl ?_
  rw [hI_uI_eq]
  refine sg_zastN (i := dd + 1) dX10_deeper_28 (mo_41 rfl) hS (by simp only [lit_nI, nI_add, pk_mul, Nat.add_assoc, Nat.zero_add, Nat.add_zero]) (by omega) ?_
  refine go_return dX10_deeper_29 rfl (Nat.zero_le _) (Nat.zero_le _) ?_
  exact ⟨rfl, rfl⟩
theorem q_deeperF {l : Launch} {d n s : Nat} {b : Nat → Nat} {f : Nat × Nat} {h : Hp} (hS : St h) (h34 : hI h 77 34 = nI 6) (R : RM h b n s f) : Ex l (d + 2) mX10_deeper [.ref 77] h none (wrH h (nI (if tkK b n s = 2 ∨ tkK b n s = 1 ∨ (tkK b n s = 3 ∧ b s = 40) then 2 else 1))) := by
  refine run_lv [some (.ref 77)] (go := ?_)
  have k5 := tkK_lt (b := b) (n := n) (s := s)
  have e18 := R.2.1.2.1
  have x1 : nI (tkK b n s) = 1 ↔ tkK b n s = 1 := nI_eq (b := 1) (by omega) (by decide)
  have x2 : nI (tkK b n s) = 2 ↔ tkK b n s = 2 := nI_eq (b := 2) (by omega) (by decide)
  have isg := fun d => q_isSignR (l := l) (d := d) (c := 40) hS R (by decide)
  by_cases z : tkK b n s = 2 ∨ tkK b n s = 1 ∨ (tkK b n s = 3 ∧ b s = 40)
  · rw [if_pos z]
    have go61 : Go l (rmOf (d + 2) (0, 0)) mX10_deeper (hN h) (Zm (0, 0) (fun v h1 => v = none ∧ h1 = wrH h (nI 2)) noX) 61 [some (.ref 77)] [.int 2, .ref 77] h 0 0 := by
      refine sg_cV0 (M' := mX10_wrong) ([.int (nI 2)]) dX10_deeper_61 lX10_168 vX10_wrong (mo_L rfl) (by decide) rfl hS (q_wrong hS) rfl (Nat.le_of_ble_eq_true rfl) (Nat.zero_le _) (Nat.zero_le _) ?_
      refine go_return dX10_deeper_64 rfl (Nat.zero_le _) (Nat.zero_le _) ?_
      exact ⟨rfl, rfl⟩
    refine go_aloadn dX10_deeper_0 rfl ?_
    refine sg_getI dX10_deeper_1 fX10_196 rfl (mo_L rfl) hS ?_
    refine go_bipush (v := 6) dX10_deeper_4 rfl ?_
    rw [h34]
    refine go_icmp_ge (tgt := 30) dX10_deeper_6 (by decide) (fun c6 => ?_) (fun c6 => absurd (Int32.le_refl _) c6)
    refine go_aloadn dX10_deeper_30 rfl ?_
    refine go_aloadn dX10_deeper_31 rfl ?_
    refine sg_getI dX10_deeper_32 fX10_135 rfl (mo_L rfl) hS ?_
    rw [e18]
    refine go_iconst (v := 2) dX10_deeper_35 rfl ?_
    refine go_icmp_eq (tgt := 56) dX10_deeper_36 (by decide) (fun c36 => ?_) (fun c36 => ?_)
    · refine go_iconst (v := 2) dX10_deeper_56 rfl ?_
      refine go_goto (tgt := 61) dX10_deeper_57 (by decide) ?_
      exact go61
    · refine go_aloadn dX10_deeper_39 rfl ?_
      refine sg_getI dX10_deeper_40 fX10_135 rfl (mo_L rfl) hS ?_
      rw [e18]
      refine go_iconst (v := 1) dX10_deeper_43 rfl ?_
      refine go_icmp_eq (tgt := 56) dX10_deeper_44 (by decide) (fun c44 => ?_) (fun c44 => ?_)
      · refine go_iconst (v := 2) dX10_deeper_56 rfl ?_
        refine go_goto (tgt := 61) dX10_deeper_57 (by decide) ?_
        exact go61
      · refine go_aloadn dX10_deeper_47 rfl ?_
        refine go_bipush (v := 40) dX10_deeper_48 rfl ?_
        refine sg_cVi (M' := mX10_isSign) ([.int (nI 40)]) dX10_deeper_50 lX10_199 vX10_isSign (mo_L rfl) (by decide) rfl hS (isg _) rfl (Nat.le_of_ble_eq_true rfl) (Nat.zero_le _) (Nat.zero_le _) ?_
        refine go_if_eq (tgt := 60) dX10_deeper_53 (by decide) (fun c53 => absurd (i_0 c53) (fun q => q (z.elim (fun q => absurd (x2.mpr q) c36) (fun q => q.elim (fun q => absurd (x1.mpr q) c44) id)))) (fun c53 => ?_)
        refine go_iconst (v := 2) dX10_deeper_56 rfl ?_
        refine go_goto (tgt := 61) dX10_deeper_57 (by decide) ?_
        exact go61
  · rw [if_neg z]
    rw [if_neg (fun q => z (Or.inr (Or.inr q)))] at isg
    refine go_aloadn dX10_deeper_0 rfl ?_
    refine sg_getI dX10_deeper_1 fX10_196 rfl (mo_L rfl) hS ?_
    refine go_bipush (v := 6) dX10_deeper_4 rfl ?_
    rw [h34]
    refine go_icmp_ge (tgt := 30) dX10_deeper_6 (by decide) (fun c6 => ?_) (fun c6 => absurd (Int32.le_refl _) c6)
    refine go_aloadn dX10_deeper_30 rfl ?_
    refine go_aloadn dX10_deeper_31 rfl ?_
    refine sg_getI dX10_deeper_32 fX10_135 rfl (mo_L rfl) hS ?_
    rw [e18]
    refine go_iconst (v := 2) dX10_deeper_35 rfl ?_
    refine go_icmp_eq (tgt := 56) dX10_deeper_36 (by decide) (fun c36 => absurd (Or.inl (x2.mp c36)) z) (fun c36 => ?_)
    refine go_aloadn dX10_deeper_39 rfl ?_
    refine sg_getI dX10_deeper_40 fX10_135 rfl (mo_L rfl) hS ?_
    rw [e18]
    refine go_iconst (v := 1) dX10_deeper_43 rfl ?_
    refine go_icmp_eq (tgt := 56) dX10_deeper_44 (by decide) (fun c44 => absurd (Or.inr (Or.inl (x1.mp c44))) z) (fun c44 => ?_)
    refine go_aloadn dX10_deeper_47 rfl ?_
    refine go_bipush (v := 40) dX10_deeper_48 rfl ?_
    refine sg_cVi (M' := mX10_isSign) ([.int (nI 40)]) dX10_deeper_50 lX10_199 vX10_isSign (mo_L rfl) (by decide) rfl hS (isg _) rfl (Nat.le_of_ble_eq_true rfl) (Nat.zero_le _) (Nat.zero_le _) ?_
    refine go_if_eq (tgt := 60) dX10_deeper_53 (by decide) (fun c53 => ?_) (fun c53 => absurd rfl c53)
    refine go_iconst (v := 1) dX10_deeper_60 rfl ?_
    refine sg_cV0 (M' := mX10_wrong) ([.int (nI 1)]) dX10_deeper_61 lX10_168 vX10_wrong (mo_L rfl) (by decide) rfl hS (q_wrong hS) rfl (Nat.le_of_ble_eq_true rfl) (Nat.zero_le _) (Nat.zero_le _) ?_
    refine go_return dX10_deeper_64 rfl (Nat.zero_le _) (Nat.zero_le _) ?_
    exact ⟨rfl, rfl⟩
