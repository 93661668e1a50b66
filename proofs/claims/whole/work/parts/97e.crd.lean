/-! the class's reader: where it stands -/
def RC (g : Hp) (b : Nat → Nat) (n s : Nat) : Prop := TX g b n ∧ hI g 3 2 = nI (tkK b n s) ∧ hI g 3 3 = nI s ∧ hI g 3 4 = nI (tkE b n s) ∧ s ≤ n ∧ (tkK b n s = 2 → hI g 3 5 = nI (nvT b n s) ∧ hI g 3 6 = nI (tkE b n s - s))
theorem tk3 {b : Nat → Nat} {n s : Nat} (h : ¬ tkK b n s = 0) : s < n := by
  unfold tkK at h
  by_cases a : n ≤ s
  · rw [if_pos a] at h; exact absurd rfl h
  · omega
theorem by_c : ∀ n : Fin 256, ∀ c : Fin 128, byI n.val = nI c.val ↔ n.val = c.val := by decide +kernel
theorem r_isSign {l : Launch} {d n s c : Nat} {b : Nat → Nat} {h : Hp} (hS : St h) (R : RC h b n s) (hc : c < 128) : Ex l (d + 1) mX3_isSign [.ref 3, .int (nI c)] h (some (.int (if tkK b n s = 3 ∧ b s = c then 1 else 0))) h := by
  obtain ⟨H2, r2, r3, -, -, -⟩ := R
  have n7 := H2.2.2.1
  have k5 := tkK_lt (b := b) (n := n) (s := s)
  have e3 : nI (tkK b n s) = 3 ↔ tkK b n s = 3 := nI_eq (b := 3) (by omega) (by decide)
  refine run_lv [some (.ref 3), some (.int (nI c))] (go := ?_)
  by_cases z : tkK b n s = 3
  · have sn := tk3 (b := b) (n := n) (s := s) (by omega)
    obtain ⟨t1, t2⟩ := H2.2.2.2 s sn
    have eb := by_c ⟨b s, t2⟩ ⟨c, hc⟩
    dsimp only at eb
    refine go_aloadn dX3_isSign_0 rfl ?_
    refine sg_getI dX3_isSign_1 fX3_57 rfl (rd_L rfl) hS ?_
    rw [r2]
    refine go_iconst (v := 3) dX3_isSign_4 rfl ?_
    refine go_icmp_ne (tgt := 25) dX3_isSign_5 (by decide) (fun c5 => absurd (e3.mpr z) c5) (fun c5 => ?_)
    refine go_aloadn dX3_isSign_8 rfl ?_
    refine sg_getR dX3_isSign_9 fX3_9 rfl (rd_L rfl) hS H2.1 ?_
    refine go_aloadn dX3_isSign_12 rfl ?_
    refine sg_getI dX3_isSign_13 fX3_60 rfl (rd_L rfl) hS ?_
    rw [r3]
    refine sg_baldN (i := s) (x := byI (b s)) dX3_isSign_16 rfl hS (by simp only [lit_nI, nI_add, pk_mul, Nat.add_assoc, Nat.zero_add, Nat.add_zero]) (by omega) (t1) ?_
    refine go_iloadn dX3_isSign_17 rfl ?_
    refine go_icmp_ne (tgt := 25) dX3_isSign_18 (by decide) (fun c18 => ?_) (fun c18 => ?_)
    · refine go_iconst (v := 0) dX3_isSign_25 rfl ?_
      refine go_ireturn dX3_isSign_26 rfl rfl (Nat.zero_le _) (Nat.zero_le _) ?_
      first | exact ⟨by rw [if_pos (And.intro z (eb.mp c18))], rfl⟩ | exact ⟨by rw [if_neg (fun q => c18 (eb.mpr q.2))], rfl⟩
    · refine go_iconst (v := 1) dX3_isSign_21 rfl ?_
      refine go_goto (tgt := 26) dX3_isSign_22 (by decide) ?_
      refine go_ireturn dX3_isSign_26 rfl rfl (Nat.zero_le _) (Nat.zero_le _) ?_
      first | exact ⟨by rw [if_pos (And.intro z (eb.mp c18))], rfl⟩ | exact ⟨by rw [if_neg (fun q => c18 (eb.mpr q.2))], rfl⟩
  · refine go_aloadn dX3_isSign_0 rfl ?_
    refine sg_getI dX3_isSign_1 fX3_57 rfl (rd_L rfl) hS ?_
    rw [r2]
    refine go_iconst (v := 3) dX3_isSign_4 rfl ?_
    refine go_icmp_ne (tgt := 25) dX3_isSign_5 (by decide) (fun c5 => ?_) (fun c5 => absurd (e3.mp c5) z)
    refine go_iconst (v := 0) dX3_isSign_25 rfl ?_
    refine go_ireturn dX3_isSign_26 rfl rfl (Nat.zero_le _) (Nat.zero_le _) ?_
    exact ⟨by rw [if_neg (fun q => z q.1)], rfl⟩
theorem r_hasMore {l : Launch} {d n s : Nat} {b : Nat → Nat} {h : Hp} (hS : St h) (R : RC h b n s) : Ex l (d + 1) mX3_hasMore [.ref 3] h (some (.int (if tkK b n s = 0 then 0 else 1))) h := by
  have r2 := R.2.1
  have k5 := tkK_lt (b := b) (n := n) (s := s)
  have e0 : nI (tkK b n s) = 0 ↔ tkK b n s = 0 := nI_eq (b := 0) (by omega) (by decide)
  refine run_lv [some (.ref 3)] (go := ?_)
  refine go_aloadn dX3_hasMore_0 rfl ?_
  refine sg_getI dX3_hasMore_1 fX3_57 rfl (rd_L rfl) hS ?_
  rw [r2]
  refine go_if_eq (tgt := 11) dX3_hasMore_4 (by decide) (fun c4 => ?_) (fun c4 => ?_)
  · refine go_iconst (v := 0) dX3_hasMore_11 rfl ?_
    refine go_ireturn dX3_hasMore_12 rfl rfl (Nat.zero_le _) (Nat.zero_le _) ?_
    first | exact ⟨by rw [if_pos (e0.mp c4)], rfl⟩ | exact ⟨by rw [if_neg (fun q => c4 (e0.mpr q))], rfl⟩
  · refine go_iconst (v := 1) dX3_hasMore_7 rfl ?_
    refine go_goto (tgt := 12) dX3_hasMore_8 (by decide) ?_
    refine go_ireturn dX3_hasMore_12 rfl rfl (Nat.zero_le _) (Nat.zero_le _) ?_
    first | exact ⟨by rw [if_pos (e0.mp c4)], rfl⟩ | exact ⟨by rw [if_neg (fun q => c4 (e0.mpr q))], rfl⟩
