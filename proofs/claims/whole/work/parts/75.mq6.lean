/-! the model: whose, rings, counts, meeting -/
theorem q_comesTo {l : Launch} {d as ar p : Nat} {C : Cy} {T : Tn} {h : Hp} (W : WC C) (H : MB h as ar C T) (V : WT C T) (hp : p < cP C) : Ex l (d + 1) mX10_comesTo [.ref 77, .int (nI p)] h (some (.int (ciT C T p (cP C)))) h := by
  rw [← co_ci W V hp]
  have hS := H.1.1
  have hN := W.1.1
  have hP := W.1.2.1
  have hpe := H.1.2.1.2.1
  have hth := H.1.2.1.2.2.1
  refine run_lv [some (.ref 77), some (.int (nI p)), none, none, none] (go := ?_)
  refine go_iconst (v := 0) dX10_comesTo_0 rfl ?_
  refine go_ist2 dX10_comesTo_1 rfl ?_
  refine go_iconst (v := 0) dX10_comesTo_2 rfl ?_
  refine go_ist3 dX10_comesTo_3 rfl ?_
  refine go_loop (lvf := fun k => [some (.ref 77), some (.int (nI p)), some (.int (coT C T p k)), some (.int (nI k)), none]) (hf := fun _ => h) (cP C) (fun _ => True) (fun k hk _ ih => ?_) (fun _ => ?_) 0 (Nat.zero_le _) trivial
  · have es : coT C T p (k + 1) = co1 C T p (coT C T p k) (cN C) := rfl
    rw [es] at ih
    generalize coT C T p k = v at *
    refine go_iloadn dX10_comesTo_4 rfl ?_
    refine go_aloadn dX10_comesTo_5 rfl ?_
    refine sg_getI dX10_comesTo_6 fX10_273 rfl (mo_L rfl) hS ?_
    rw [hpe]
    refine go_icmp_ge (tgt := 96) dX10_comesTo_9 (by decide) (fun c9 => absurd c9 (nI_ge hk (by omega))) (fun c9 => ?_)
    refine go_iconst (v := 0) dX10_comesTo_12 rfl ?_
    refine go_ist4 dX10_comesTo_13 rfl ?_
    skip
    refine go_loop (lvf := fun t => [some (.ref 77), some (.int (nI p)), some (.int (co1 C T p v t)), some (.int (nI k)), some (.int (nI t))]) (hf := fun _ => h) (cN C) (fun _ => True) (fun t ht _ ih2 => ?_) (fun _ => ?_) 0 (Nat.zero_le _) trivial
    · have es2 : co1 C T p v (t + 1) = if tB T t = nI p ∨ (¬ tB T t = -1 ∧ co1 C T p v t >>> (tB T t &&& 31) &&& 1 = 1) then co1 C T p v t ||| (1 <<< (tO T t &&& 31)) else co1 C T p v t := rfl
      rw [es2] at ih2
      obtain ⟨m1, m2, -⟩ := mB0 H.2.1 ht
      refine go_iload dX10_comesTo_15 rfl ?_
      refine go_aloadn dX10_comesTo_17 rfl ?_
      refine sg_getI dX10_comesTo_18 fX10_276 rfl (mo_L rfl) hS ?_
      rw [hth]
      refine go_icmp_ge (tgt := 90) dX10_comesTo_21 (by decide) (fun c21 => absurd c21 (nI_ge ht (by omega))) (fun c21 => ?_)
      refine go_aloadn dX10_comesTo_24 rfl ?_
      refine sg_getR dX10_comesTo_25 fX10_66 rfl (mo_L rfl) hS (mo_r42 hS rfl) ?_
      refine go_bipush (v := 11) dX10_comesTo_28 rfl ?_
      refine go_iload dX10_comesTo_30 rfl ?_
      refine go_iadd dX10_comesTo_32 ?_
      refine sg_ialdN (i := 11 + t) dX10_comesTo_33 (mo_42 rfl) hS (by simp only [lit_nI, nI_add, pk_mul, Nat.add_assoc, Nat.zero_add, Nat.add_zero]) (by omega) (m2) ?_
      refine go_iloadn dX10_comesTo_34 rfl ?_
      refine go_icmp_eq (tgt := 70) dX10_comesTo_35 (by decide) (fun c35 => ?_) (fun c35 => ?_)
      · refine go_iloadn dX10_comesTo_70 rfl ?_
        refine go_iconst (v := 1) dX10_comesTo_71 rfl ?_
        refine go_aloadn dX10_comesTo_72 rfl ?_
        refine sg_getR dX10_comesTo_73 fX10_66 rfl (mo_L rfl) hS (mo_r42 hS rfl) ?_
        refine go_iconst (v := 1) dX10_comesTo_76 rfl ?_
        refine go_iload dX10_comesTo_77 rfl ?_
        refine go_iadd dX10_comesTo_79 ?_
        refine sg_ialdN (i := 1 + t) dX10_comesTo_80 (mo_42 rfl) hS (by simp only [lit_nI, nI_add, pk_mul, Nat.add_assoc, Nat.zero_add, Nat.add_zero]) (by omega) (m1) ?_
        refine go_ishl dX10_comesTo_81 ?_
        refine go_ior dX10_comesTo_82 ?_
        refine go_ist2 dX10_comesTo_83 rfl ?_
        refine go_iinc4 (c1 := 1) dX10_comesTo_84 rfl rfl ?_
        refine go_goto (tgt := 15) dX10_comesTo_87 (by decide) ?_
        exact go_cong (ih2 trivial) (by first | (rw [if_pos (Or.inl c35)]; simp [nI_1]; done) | (rw [if_neg (fun q => q.elim c35 (fun q => q.1 c49))]; simp [nI_1]; done) | (rw [if_neg (fun q => q.elim c35 (fun q => c67 q.2))]; simp [nI_1]; done) | (rw [if_pos (Or.inr ⟨c49, c67⟩)]; simp [nI_1]; done) | (rw [if_pos (Or.inr ⟨c49, Decidable.not_not.mp c67⟩)]; simp [nI_1])) rfl
      · refine go_aloadn dX10_comesTo_38 rfl ?_
        refine sg_getR dX10_comesTo_39 fX10_66 rfl (mo_L rfl) hS (mo_r42 hS rfl) ?_
        refine go_bipush (v := 11) dX10_comesTo_42 rfl ?_
        refine go_iload dX10_comesTo_44 rfl ?_
        refine go_iadd dX10_comesTo_46 ?_
        refine sg_ialdN (i := 11 + t) dX10_comesTo_47 (mo_42 rfl) hS (by simp only [lit_nI, nI_add, pk_mul, Nat.add_assoc, Nat.zero_add, Nat.add_zero]) (by omega) (m2) ?_
        refine go_iconst (v := -1) dX10_comesTo_48 rfl ?_
        refine go_icmp_eq (tgt := 84) dX10_comesTo_49 (by decide) (fun c49 => ?_) (fun c49 => ?_)
        · refine go_iinc4 (c1 := 1) dX10_comesTo_84 rfl rfl ?_
          refine go_goto (tgt := 15) dX10_comesTo_87 (by decide) ?_
          exact go_cong (ih2 trivial) (by first | (rw [if_pos (Or.inl c35)]; simp [nI_1]; done) | (rw [if_neg (fun q => q.elim c35 (fun q => q.1 c49))]; simp [nI_1]; done) | (rw [if_neg (fun q => q.elim c35 (fun q => c67 q.2))]; simp [nI_1]; done) | (rw [if_pos (Or.inr ⟨c49, c67⟩)]; simp [nI_1]; done) | (rw [if_pos (Or.inr ⟨c49, Decidable.not_not.mp c67⟩)]; simp [nI_1])) rfl
        · refine go_iloadn dX10_comesTo_52 rfl ?_
          refine go_aloadn dX10_comesTo_53 rfl ?_
          refine sg_getR dX10_comesTo_54 fX10_66 rfl (mo_L rfl) hS (mo_r42 hS rfl) ?_
          refine go_bipush (v := 11) dX10_comesTo_57 rfl ?_
          refine go_iload dX10_comesTo_59 rfl ?_
          refine go_iadd dX10_comesTo_61 ?_
          refine sg_ialdN (i := 11 + t) dX10_comesTo_62 (mo_42 rfl) hS (by simp only [lit_nI, nI_add, pk_mul, Nat.add_assoc, Nat.zero_add, Nat.add_zero]) (by omega) (m2) ?_
          refine go_ishr dX10_comesTo_63 ?_
          refine go_iconst (v := 1) dX10_comesTo_64 rfl ?_
          refine go_iand dX10_comesTo_65 ?_
          refine go_iconst (v := 1) dX10_comesTo_66 rfl ?_
          refine go_icmp_ne (tgt := 84) dX10_comesTo_67 (by decide) (fun c67 => ?_) (fun c67 => ?_)
          · refine go_iinc4 (c1 := 1) dX10_comesTo_84 rfl rfl ?_
            refine go_goto (tgt := 15) dX10_comesTo_87 (by decide) ?_
            exact go_cong (ih2 trivial) (by first | (rw [if_pos (Or.inl c35)]; simp [nI_1]; done) | (rw [if_neg (fun q => q.elim c35 (fun q => q.1 c49))]; simp [nI_1]; done) | (rw [if_neg (fun q => q.elim c35 (fun q => c67 q.2))]; simp [nI_1]; done) | (rw [if_pos (Or.inr ⟨c49, c67⟩)]; simp [nI_1]; done) | (rw [if_pos (Or.inr ⟨c49, Decidable.not_not.mp c67⟩)]; simp [nI_1])) rfl
          · refine go_iloadn dX10_comesTo_70 rfl ?_
            refine go_iconst (v := 1) dX10_comesTo_71 rfl ?_
            refine go_aloadn dX10_comesTo_72 rfl ?_
            refine sg_getR dX10_comesTo_73 fX10_66 rfl (mo_L rfl) hS (mo_r42 hS rfl) ?_
            refine go_iconst (v := 1) dX10_comesTo_76 rfl ?_
            refine go_iload dX10_comesTo_77 rfl ?_
            refine go_iadd dX10_comesTo_79 ?_
            refine sg_ialdN (i := 1 + t) dX10_comesTo_80 (mo_42 rfl) hS (by simp only [lit_nI, nI_add, pk_mul, Nat.add_assoc, Nat.zero_add, Nat.add_zero]) (by omega) (m1) ?_
            refine go_ishl dX10_comesTo_81 ?_
            refine go_ior dX10_comesTo_82 ?_
            refine go_ist2 dX10_comesTo_83 rfl ?_
            refine go_iinc4 (c1 := 1) dX10_comesTo_84 rfl rfl ?_
            refine go_goto (tgt := 15) dX10_comesTo_87 (by decide) ?_
            exact go_cong (ih2 trivial) (by first | (rw [if_pos (Or.inl c35)]; simp [nI_1]; done) | (rw [if_neg (fun q => q.elim c35 (fun q => q.1 c49))]; simp [nI_1]; done) | (rw [if_neg (fun q => q.elim c35 (fun q => c67 q.2))]; simp [nI_1]; done) | (rw [if_pos (Or.inr ⟨c49, c67⟩)]; simp [nI_1]; done) | (rw [if_pos (Or.inr ⟨c49, Decidable.not_not.mp c67⟩)]; simp [nI_1])) rfl
    · refine go_iload dX10_comesTo_15 rfl ?_
      refine go_aloadn dX10_comesTo_17 rfl ?_
      refine sg_getI dX10_comesTo_18 fX10_276 rfl (mo_L rfl) hS ?_
      rw [hth]
      refine go_icmp_ge (tgt := 90) dX10_comesTo_21 (by decide) (fun c21 => ?_) (fun c21 => absurd (nI_le (Nat.le_refl _) (by omega)) c21)
      refine go_iinc3 (c1 := 1) dX10_comesTo_90 rfl rfl ?_
      refine go_goto (tgt := 4) dX10_comesTo_93 (by decide) ?_
      exact go_back (ih trivial) (by simp [lsub, nI_1]) rfl
  · refine go_iloadn dX10_comesTo_4 rfl ?_
    refine go_aloadn dX10_comesTo_5 rfl ?_
    refine sg_getI dX10_comesTo_6 fX10_273 rfl (mo_L rfl) hS ?_
    rw [hpe]
    refine go_icmp_ge (tgt := 96) dX10_comesTo_9 (by decide) (fun c9 => ?_) (fun c9 => absurd (nI_le (Nat.le_refl _) (by omega)) c9)
    refine go_iloadn dX10_comesTo_96 rfl ?_
    refine go_ireturn dX10_comesTo_97 rfl rfl (Nat.zero_le _) (Nat.zero_le _) ?_
    exact ⟨rfl, rfl⟩
theorem q_ringsNow {l : Launch} {d as ar : Nat} {C : Cy} {T : Tn} {h : Hp} (W : WC C) (H : MB h as ar C T) (V : WT C T) : Ex l (d + 2) mX10_ringsNow [.ref 77] h (some (.int (rgT C T (cP C)))) h := by
  have hS := H.1.1
  have hP := W.1.2.1
  have hpe := H.1.2.1.2.1
  refine run_lv [some (.ref 77), none, none] (go := ?_)
  refine go_iconst (v := 0) dX10_ringsNow_0 rfl ?_
  refine go_ist1 dX10_ringsNow_1 rfl ?_
  refine go_iconst (v := 0) dX10_ringsNow_2 rfl ?_
  refine go_ist2 dX10_ringsNow_3 rfl ?_
  refine go_loop (lvf := fun k => [some (.ref 77), some (.int (rgT C T k)), some (.int (nI k))]) (hf := fun _ => h) (cP C) (fun _ => True) (fun k hk _ ih => ?_) (fun _ => ?_) 0 (Nat.zero_le _) trivial
  · refine go_iloadn dX10_ringsNow_4 rfl ?_
    refine go_aloadn dX10_ringsNow_5 rfl ?_
    refine sg_getI dX10_ringsNow_6 fX10_273 rfl (mo_L rfl) hS ?_
    rw [hpe]
    refine go_icmp_ge (tgt := 30) dX10_ringsNow_9 (by decide) (fun c9 => absurd c9 (nI_ge hk (by omega))) (fun c9 => ?_)
    refine go_iloadn dX10_ringsNow_12 rfl ?_
    refine go_aloadn dX10_ringsNow_13 rfl ?_
    refine go_iloadn dX10_ringsNow_14 rfl ?_
    refine sg_cVi (M' := mX10_comesTo) ([.int (nI k)]) dX10_ringsNow_15 lX10_346 vX10_comesTo (mo_L rfl) (by decide) rfl hS (q_comesTo W H V hk) rfl (Nat.le_of_ble_eq_true rfl) (Nat.zero_le _) (Nat.zero_le _) ?_
    refine go_iconst (v := 1) dX10_ringsNow_18 rfl ?_
    refine go_iloadn dX10_ringsNow_19 rfl ?_
    refine go_ishl dX10_ringsNow_20 ?_
    refine go_iand dX10_ringsNow_21 ?_
    refine go_ior dX10_ringsNow_22 ?_
    refine go_ist1 dX10_ringsNow_23 rfl ?_
    refine go_iinc2 (c1 := 1) dX10_ringsNow_24 rfl rfl ?_
    refine go_goto (tgt := 4) dX10_ringsNow_27 (by decide) ?_
    exact go_cong (ih trivial) (by simp [nI_1, rgT, foF]) rfl
  · refine go_iloadn dX10_ringsNow_4 rfl ?_
    refine go_aloadn dX10_ringsNow_5 rfl ?_
    refine sg_getI dX10_ringsNow_6 fX10_273 rfl (mo_L rfl) hS ?_
    rw [hpe]
    refine go_icmp_ge (tgt := 30) dX10_ringsNow_9 (by decide) (fun c9 => ?_) (fun c9 => absurd (nI_le (Nat.le_refl _) (by omega)) c9)
    refine go_iloadn dX10_ringsNow_30 rfl ?_
    refine go_ireturn dX10_ringsNow_31 rfl rfl (Nat.zero_le _) (Nat.zero_le _) ?_
    exact ⟨rfl, rfl⟩
theorem q_shameAll {l : Launch} {d as ar b : Nat} {C : Cy} {T : Tn} {h : Hp} (W : WC C) (H : MC h as ar C) (hT : MT h b C T) (hb : b ≤ 105) : Ex l (d + 1) mX10_shameAll [.ref 77, .int (nI b)] h (some (.int (smF (tH T) (cP C)))) h := by
  have hS := H.1
  have hP := W.1.2.1
  have hpe := H.2.1.2.1
  refine run_lv [some (.ref 77), some (.int (nI b)), none, none] (go := ?_)
  refine go_iconst (v := 0) dX10_shameAll_0 rfl ?_
  refine go_ist2 dX10_shameAll_1 rfl ?_
  refine go_iconst (v := 0) dX10_shameAll_2 rfl ?_
  refine go_ist3 dX10_shameAll_3 rfl ?_
  refine go_loop (lvf := fun k => [some (.ref 77), some (.int (nI b)), some (.int (smF (tH T) k)), some (.int (nI k))]) (hf := fun _ => h) (cP C) (fun _ => True) (fun k hk _ ih => ?_) (fun _ => ?_) 0 (Nat.zero_le _) trivial
  · refine go_iloadn dX10_shameAll_4 rfl ?_
    refine go_aloadn dX10_shameAll_5 rfl ?_
    refine sg_getI dX10_shameAll_6 fX10_273 rfl (mo_L rfl) hS ?_
    rw [hpe]
    refine go_icmp_ge (tgt := 32) dX10_shameAll_9 (by decide) (fun c9 => absurd c9 (nI_ge hk (by omega))) (fun c9 => ?_)
    refine go_iloadn dX10_shameAll_12 rfl ?_
    refine go_aloadn dX10_shameAll_13 rfl ?_
    refine sg_getR dX10_shameAll_14 fX10_66 rfl (mo_L rfl) hS (mo_r42 hS rfl) ?_
    refine go_iloadn dX10_shameAll_17 rfl ?_
    refine go_bipush (v := 41) dX10_shameAll_18 rfl ?_
    refine go_iadd dX10_shameAll_20 ?_
    refine go_iloadn dX10_shameAll_21 rfl ?_
    refine go_iadd dX10_shameAll_22 ?_
    refine sg_ialdN (i := b + (41 + k)) dX10_shameAll_23 (mo_42 rfl) hS (by simp only [lit_nI, nI_add, pk_mul, Nat.add_assoc, Nat.zero_add, Nat.add_zero]) (by omega) ((hT.2.2.1 k hk).1) ?_
    refine go_iadd dX10_shameAll_24 ?_
    refine go_ist2 dX10_shameAll_25 rfl ?_
    refine go_iinc3 (c1 := 1) dX10_shameAll_26 rfl rfl ?_
    refine go_goto (tgt := 4) dX10_shameAll_29 (by decide) ?_
    exact go_cong (ih trivial) (by simp [nI_1, smF, foF]) rfl
  · refine go_iloadn dX10_shameAll_4 rfl ?_
    refine go_aloadn dX10_shameAll_5 rfl ?_
    refine sg_getI dX10_shameAll_6 fX10_273 rfl (mo_L rfl) hS ?_
    rw [hpe]
    refine go_icmp_ge (tgt := 32) dX10_shameAll_9 (by decide) (fun c9 => ?_) (fun c9 => absurd (nI_le (Nat.le_refl _) (by omega)) c9)
    refine go_iloadn dX10_shameAll_32 rfl ?_
    refine go_ireturn dX10_shameAll_33 rfl rfl (Nat.zero_le _) (Nat.zero_le _) ?_
    exact ⟨rfl, rfl⟩
theorem m_whose {l : Launch} {d as ar : Nat} {x : Int32} {C : Cy} {T : Tn} {h : Hp} (W : WC C) (H : MB h as ar C T) (V : WT C T) : Qm l (d + 3) mX10_whose [.ref 77, .int x] h (vWhose C T x) := by
  have hS := H.1.1
  have hP := W.1.2.1
  refine run_lv [some (.ref 77), some (.int x)] (go := ?_)
  unfold vWhose
  refine go_aloadn dX10_whose_0 rfl ?_
  refine go_iconst (v := 0) dX10_whose_1 rfl ?_
  refine sg_putI dX10_whose_2 fX10_102 rfl rfl (mo_L rfl) hS ?_
  have hF : Fz SM h (uI h 77 0 0) := Fz.rf.uI sm0
  have H := H.sm W hF
  have h0 : hI (uI h 77 0 0) 77 0 = 0 := hI_uI_eq
  generalize uI h 77 0 0 = h1 at *
  have hS := H.1.1
  refine go_aloadn dX10_whose_5 rfl ?_
  refine go_iloadn dX10_whose_6 rfl ?_
  refine sg_mnd (M' := mX10_isPerson) ([.int x]) dX10_whose_7 lX10_362 vX10_isPerson (mo_L rfl) (by decide) rfl hS (q_isPerson H.1 h0).1 (q_isPerson H.1 h0).2 rfl (Nat.le_of_ble_eq_true rfl) (fun k7 => ?_) (fun k7 => ?_)
  · refine go_if_eq (tgt := 21) dX10_whose_10 (by decide) (fun _ => ?_) (fun c => absurd rfl c)
    refine go_iconst (v := 0) dX10_whose_21 rfl ?_
    refine go_ireturn dX10_whose_22 rfl rfl (Nat.zero_le _) (Nat.zero_le _) ?_
    exact ⟨⟨0, rfl, fun q => absurd q (by decide)⟩, hI_uI_eq, hF.uI sm0⟩
  refine go_if_eq (tgt := 21) dX10_whose_10 (by decide) (fun c10 => absurd c10 (by decide)) (fun c10 => ?_)
  obtain ⟨p, hp, rfl⟩ := ok_nI (by omega) k7
  rw [cl_nI (show p < 2 ^ 31 by omega)]
  refine go_aloadn dX10_whose_13 rfl ?_
  refine go_iloadn dX10_whose_14 rfl ?_
  refine sg_cVi (M' := mX10_comesTo) ([.int (nI p)]) dX10_whose_15 lX10_346 vX10_comesTo (mo_L rfl) (by decide) rfl hS (q_comesTo W H V hp) rfl (Nat.le_of_ble_eq_true rfl) (Nat.zero_le _) (Nat.zero_le _) ?_
  refine go_goto (tgt := 22) dX10_whose_18 (by decide) ?_
  refine go_ireturn dX10_whose_22 rfl rfl (Nat.zero_le _) (Nat.zero_le _) ?_
  exact qn_ok rfl h0 hF
theorem m_count {l : Launch} {d as ar a q p : Nat} {R : Nat → Int32} {w : Int32} {C : Cy} {T : Tn} {h : Hp} (W : WC C) (H : MB h as ar C T) (V : WT C T) (ha : hI h 77 44 = nI a) (hq : hI h 77 51 = nI q) (hp : hI h 77 12 = nI p) (hs : ∀ i, i < 3 → hI h 83 i = R i) : Qm l (d + 4) mX10_count [.ref 77, .int w] h (vCount C T a q p R w) := by
  have hS := H.1.1
  refine run_lv [some (.ref 77), some (.int w)] (go := ?_)
  unfold vCount
  refine go_aloadn dX10_count_0 rfl ?_
  refine go_iconst (v := 0) dX10_count_1 rfl ?_
  refine sg_putI dX10_count_2 fX10_102 rfl rfl (mo_L rfl) hS ?_
  have hF : Fz SM h (uI h 77 0 0) := Fz.rf.uI sm0
  have H := H.sm W hF
  have h0 : hI (uI h 77 0 0) 77 0 = 0 := hI_uI_eq
  have ha : hI (uI h 77 0 0) 77 44 = nI a := by rw [hI_uI_ne (by omega)]; exact ha
  have hq : hI (uI h 77 0 0) 77 51 = nI q := by rw [hI_uI_ne (by omega)]; exact hq
  have hp : hI (uI h 77 0 0) 77 12 = nI p := by rw [hI_uI_ne (by omega)]; exact hp
  have hs : ∀ i, i < 3 → hI (uI h 77 0 0) 83 i = R i := fun i hi => by rw [hI_uI_ne (by omega)]; exact hs i hi
  generalize uI h 77 0 0 = h1 at *
  have hS := H.1.1
  refine go_aloadn dX10_count_5 rfl ?_
  refine go_iloadn dX10_count_6 rfl ?_
  refine go_iconst (v := 0) dX10_count_7 rfl ?_
  refine go_bipush (v := 13) dX10_count_8 rfl ?_
  refine sg_cSi (M' := mX10_within) ([.int w, .int 0, .int 13]) dX10_count_10 lX10_349 sX10_within hS (q_within) rfl (Nat.le_of_ble_eq_true rfl) (Nat.zero_le _) (Nat.zero_le _) ?_
  refine go_iconst (v := 1) dX10_count_13 rfl ?_
  refine sg_mnd (M' := mX10_right) ([.int _, .int (nI 1)]) dX10_count_14 lX10_266 vX10_right (mo_L rfl) (by decide) rfl hS (q_right hS h0 (by decide) (by decide)).1 (q_right hS h0 (by decide) (by decide)).2 rfl (Nat.le_of_ble_eq_true rfl) (fun k14 => ?_) (fun k14 => ?_)
  · refine go_if_ne (tgt := 22) dX10_count_17 (by decide) (fun c => absurd rfl c) (fun _ => ?_)
    refine go_iconst (v := 0) dX10_count_20 rfl ?_
    refine go_ireturn dX10_count_21 rfl rfl (Nat.zero_le _) (Nat.zero_le _) ?_
    exact ⟨⟨0, rfl, fun q => absurd q (by decide)⟩, hI_uI_eq, hF.uI sm0⟩
  refine go_if_ne (tgt := 22) dX10_count_17 (by decide) (fun c17 => ?_) (fun c17 => absurd c17 (by decide))
  obtain ⟨j, -, hj, rfl⟩ := rg_nI (a := 0) (b := 13) rfl rfl (by decide) (by decide) k14
  rw [cl_nI (show j < 2 ^ 31 by omega)]
  refine go_iloadn dX10_count_22 rfl ?_
  refine go_tab 11 0 139 [80, 85, 90, 95, 100, 107, 113, 118, 124, 129, 134] dX10_count_23 rfl rfl rfl rfl rfl (by decide) (fun c23 => ?_) (fun i hi c23 => ?_)
  · have e : 11 ≤ j := by (rcases Nat.lt_or_ge j 11 with q | q; (exact absurd (by rw [Nat.zero_add]) (c23 j q)); exact q)
    refine go_aloadn dX10_count_139 rfl ?_
    refine sg_getR dX10_count_140 fX10_42 rfl (mo_L rfl) hS (mo_r15 hS rfl) ?_
    refine go_iloadn dX10_count_143 rfl ?_
    refine go_bipush (v := 11) dX10_count_144 rfl ?_
    refine go_isub dX10_count_146 ?_
    rw [show nI j - 11 = nI (j - 11) from pk_sub (b := 11) e]
    refine sg_ialdN (i := j - 11) dX10_count_147 (mo_15 rfl) hS (by simp only [lit_nI, nI_add, pk_mul, Nat.add_assoc, Nat.zero_add, Nat.add_zero]) (by omega) (hs _ (by omega)) ?_
    refine go_ireturn dX10_count_148 rfl rfl (Nat.zero_le _) (Nat.zero_le _) ?_
    exact qn_ok (cvF_d e).symm h0 hF
  · match i, hi, c23 with
    | 0, _, c23 =>
      have e := (nI_eq (by omega) (by omega)).mp c23
      subst e
      refine go_aloadn dX10_count_80 rfl ?_
      refine sg_getI dX10_count_81 fX10_7 rfl (mo_L rfl) hS ?_
      rw [H.1.2.1.1]
      refine go_ireturn dX10_count_84 rfl rfl (Nat.zero_le _) (Nat.zero_le _) ?_
      exact qn_ok rfl h0 hF
    | 1, _, c23 =>
      have e := (nI_eq (by omega) (by omega)).mp c23
      subst e
      refine go_aloadn dX10_count_85 rfl ?_
      refine sg_getI dX10_count_86 fX10_273 rfl (mo_L rfl) hS ?_
      rw [H.1.2.1.2.1]
      refine go_ireturn dX10_count_89 rfl rfl (Nat.zero_le _) (Nat.zero_le _) ?_
      exact qn_ok rfl h0 hF
    | 2, _, c23 =>
      have e := (nI_eq (by omega) (by omega)).mp c23
      subst e
      refine go_aloadn dX10_count_90 rfl ?_
      refine sg_getI dX10_count_91 fX10_276 rfl (mo_L rfl) hS ?_
      rw [H.1.2.1.2.2.1]
      refine go_ireturn dX10_count_94 rfl rfl (Nat.zero_le _) (Nat.zero_le _) ?_
      exact qn_ok rfl h0 hF
    | 3, _, c23 =>
      have e := (nI_eq (by omega) (by omega)).mp c23
      subst e
      refine go_aloadn dX10_count_95 rfl ?_
      refine sg_getI dX10_count_96 fX10_13 rfl (mo_L rfl) hS ?_
      rw [H.1.2.1.2.2.2]
      refine go_ireturn dX10_count_99 rfl rfl (Nat.zero_le _) (Nat.zero_le _) ?_
      exact qn_ok rfl h0 hF
    | 4, _, c23 =>
      have e := (nI_eq (by omega) (by omega)).mp c23
      subst e
      refine go_aloadn dX10_count_100 rfl ?_
      refine sg_getR dX10_count_101 fX10_66 rfl (mo_L rfl) hS (mo_r42 hS rfl) ?_
      refine go_iconst (v := 0) dX10_count_104 rfl ?_
      refine sg_ialdN (i := 0) (x := nI (tD T)) dX10_count_105 (mo_42 rfl) hS (by simp only [lit_nI, nI_add, pk_mul, Nat.add_assoc, Nat.zero_add, Nat.add_zero]) (by omega) (H.2.1.1) ?_
      refine go_ireturn dX10_count_106 rfl rfl (Nat.zero_le _) (Nat.zero_le _) ?_
      exact qn_ok rfl h0 hF
    | 5, _, c23 =>
      have e := (nI_eq (by omega) (by omega)).mp c23
      subst e
      refine go_aloadn dX10_count_107 rfl ?_
      refine go_iconst (v := 0) dX10_count_108 rfl ?_
      refine sg_cVi (M' := mX10_wornOnes) ([.int (nI 0)]) dX10_count_109 lX10_353 vX10_wornOnes (mo_L rfl) (by decide) rfl hS (q_wornOnes W H.1 H.2.1 (by omega)) rfl (Nat.le_of_ble_eq_true rfl) (Nat.zero_le _) (Nat.zero_le _) ?_
      refine go_ireturn dX10_count_112 rfl rfl (Nat.zero_le _) (Nat.zero_le _) ?_
      exact qn_ok rfl h0 hF
    | 6, _, c23 =>
      have e := (nI_eq (by omega) (by omega)).mp c23
      subst e
      refine go_aloadn dX10_count_113 rfl ?_
      refine sg_cVi (M' := mX10_ringsNow) ([]) dX10_count_114 lX10_356 vX10_ringsNow (mo_L rfl) (by decide) rfl hS (q_ringsNow W H V) rfl (Nat.le_of_ble_eq_true rfl) (Nat.zero_le _) (Nat.zero_le _) ?_
      refine go_ireturn dX10_count_117 rfl rfl (Nat.zero_le _) (Nat.zero_le _) ?_
      exact qn_ok rfl h0 hF
    | 7, _, c23 =>
      have e := (nI_eq (by omega) (by omega)).mp c23
      subst e
      refine go_aloadn dX10_count_118 rfl ?_
      refine go_iconst (v := 0) dX10_count_119 rfl ?_
      refine sg_cVi (M' := mX10_shameAll) ([.int (nI 0)]) dX10_count_120 lX10_359 vX10_shameAll (mo_L rfl) (by decide) rfl hS (q_shameAll W H.1 H.2.1 (by omega)) rfl (Nat.le_of_ble_eq_true rfl) (Nat.zero_le _) (Nat.zero_le _) ?_
      refine go_ireturn dX10_count_123 rfl rfl (Nat.zero_le _) (Nat.zero_le _) ?_
      exact qn_ok rfl h0 hF
    | 8, _, c23 =>
      have e := (nI_eq (by omega) (by omega)).mp c23
      subst e
      refine go_aloadn dX10_count_124 rfl ?_
      refine sg_getI dX10_count_125 fX10_283 rfl (mo_L rfl) hS ?_
      rw [ha]
      refine go_ireturn dX10_count_128 rfl rfl (Nat.zero_le _) (Nat.zero_le _) ?_
      exact qn_ok rfl h0 hF
    | 9, _, c23 =>
      have e := (nI_eq (by omega) (by omega)).mp c23
      subst e
      refine go_aloadn dX10_count_129 rfl ?_
      refine sg_getI dX10_count_130 fX10_286 rfl (mo_L rfl) hS ?_
      rw [hq]
      refine go_ireturn dX10_count_133 rfl rfl (Nat.zero_le _) (Nat.zero_le _) ?_
      exact qn_ok rfl h0 hF
    | 10, _, c23 =>
      have e := (nI_eq (by omega) (by omega)).mp c23
      subst e
      refine go_aloadn dX10_count_134 rfl ?_
      refine sg_getI dX10_count_135 fX10_105 rfl (mo_L rfl) hS ?_
      rw [hp]
      refine go_ireturn dX10_count_138 rfl rfl (Nat.zero_le _) (Nat.zero_le _) ?_
      exact qn_ok rfl h0 hF
    | (i + 11), hi, _ => exact absurd hi (by omega)
theorem m_meet {l : Launch} {d as ar : Nat} {x y : Int32} {C : Cy} {T : Tn} {h : Hp} (W : WC C) (H : MB h as ar C T) (hD9 : tD T ≤ 9999) : Qm l (d + 3) mX10_meet [.ref 77, .int x, .int y] h (vMeet C T x y) := by
  have hS := H.1.1
  have hP := W.1.2.1
  refine run_lv [some (.ref 77), some (.int x), some (.int y), none] (go := ?_)
  unfold vMeet
  refine go_aloadn dX10_meet_0 rfl ?_
  refine go_iconst (v := 0) dX10_meet_1 rfl ?_
  refine sg_putI dX10_meet_2 fX10_102 rfl rfl (mo_L rfl) hS ?_
  have hF : Fz SM h (uI h 77 0 0) := Fz.rf.uI sm0
  have H := H.sm W hF
  have h0 : hI (uI h 77 0 0) 77 0 = 0 := hI_uI_eq
  generalize uI h 77 0 0 = h1 at *
  have hS := H.1.1
  refine go_aloadn dX10_meet_5 rfl ?_
  refine go_iloadn dX10_meet_6 rfl ?_
  refine sg_mnd (M' := mX10_isPerson) ([.int x]) dX10_meet_7 lX10_362 vX10_isPerson (mo_L rfl) (by decide) rfl hS (q_isPerson H.1 h0).1 (q_isPerson H.1 h0).2 rfl (Nat.le_of_ble_eq_true rfl) (fun k7 => ?_) (fun k7 => ?_)
  · refine go_if_eq (tgt := 21) dX10_meet_10 (by decide) (fun _ => ?_) (fun c => absurd rfl c)
    refine go_iconst (v := 0) dX10_meet_21 rfl ?_
    refine go_ireturn dX10_meet_22 rfl rfl (Nat.zero_le _) (Nat.zero_le _) ?_
    exact ⟨⟨0, rfl, fun q => absurd q (by decide)⟩, hI_uI_eq, hF.uI sm0⟩
  refine go_if_eq (tgt := 21) dX10_meet_10 (by decide) (fun c10 => absurd c10 (by decide)) (fun c10 => ?_)
  refine go_aloadn dX10_meet_13 rfl ?_
  refine go_iloadn dX10_meet_14 rfl ?_
  refine sg_mnd (M' := mX10_isPerson) ([.int y]) dX10_meet_15 lX10_362 vX10_isPerson (mo_L rfl) (by decide) rfl hS (q_isPerson H.1 h0).1 (q_isPerson H.1 h0).2 rfl (Nat.le_of_ble_eq_true rfl) (fun k15 => ?_) (fun k15 => ?_)
  · refine go_if_ne (tgt := 23) dX10_meet_18 (by decide) (fun c => absurd rfl c) (fun _ => ?_)
    refine go_iconst (v := 0) dX10_meet_21 rfl ?_
    refine go_ireturn dX10_meet_22 rfl rfl (Nat.zero_le _) (Nat.zero_le _) ?_
    exact ⟨⟨0, rfl, fun q => absurd q (by decide)⟩, hI_uI_eq, hF.uI sm0⟩
  refine go_if_ne (tgt := 23) dX10_meet_18 (by decide) (fun c18 => ?_) (fun c18 => absurd c18 (by decide))
  refine go_iconst (v := 0) dX10_meet_23 rfl ?_
  refine go_ist3 dX10_meet_24 rfl ?_
  skip
  obtain ⟨p, hp, rfl⟩ := ok_nI (by omega) k7
  obtain ⟨o, ho, rfl⟩ := ok_nI (by omega) k15
  rw [cl_nI (show p < 2 ^ 31 by omega), cl_nI (show o < 2 ^ 31 by omega)]
  by_cases z : nI p = nI o
  · rw [if_pos z]
    refine go_iloadn dX10_meet_25 rfl ?_
    refine go_bipush (v := 100) dX10_meet_26 rfl ?_
    refine go_icmp_ge (tgt := 77) dX10_meet_28 (by decide) (fun c28 => absurd c28 (by decide)) (fun c28 => ?_)
    refine go_iloadn dX10_meet_31 rfl ?_
    refine go_iloadn dX10_meet_32 rfl ?_
    refine go_icmp_eq (tgt := 77) dX10_meet_33 (by decide) (fun c33 => ?_) (fun c33 => absurd z c33)
    refine go_iconst (v := -1) dX10_meet_77 rfl ?_
    refine go_ireturn dX10_meet_78 rfl rfl (Nat.zero_le _) (Nat.zero_le _) ?_
    exact qn_ok rfl h0 hF
  · rw [if_neg z]
    refine go_loop (lvf := fun k => [some (.ref 77), some (.int (nI p)), some (.int (nI o)), some (.int (nI k))]) (hf := fun _ => h1) 100 (fun k => ∀ j, j < k → ¬ plT C T p (tD T + j) = plT C T o (tD T + j)) (fun k hk hh ih => ?_) (fun hh => ?_) 0 (Nat.zero_le _) (fun _ q => absurd q (by omega))
    · refine go_iloadn dX10_meet_25 rfl ?_
      refine go_bipush (v := 100) dX10_meet_26 rfl ?_
      refine go_icmp_ge (tgt := 77) dX10_meet_28 (by decide) (fun c28 => absurd c28 (nI_ge (b := 100) hk (by decide))) (fun c28 => ?_)
      refine go_iloadn dX10_meet_31 rfl ?_
      refine go_iloadn dX10_meet_32 rfl ?_
      refine go_icmp_eq (tgt := 77) dX10_meet_33 (by decide) (fun c33 => absurd c33 z) (fun c33 => ?_)
      refine go_aloadn dX10_meet_36 rfl ?_
      refine go_iconst (v := 0) dX10_meet_37 rfl ?_
      refine go_iloadn dX10_meet_38 rfl ?_
      refine go_aloadn dX10_meet_39 rfl ?_
      refine sg_getR dX10_meet_40 fX10_66 rfl (mo_L rfl) hS (mo_r42 hS rfl) ?_
      refine go_iconst (v := 0) dX10_meet_43 rfl ?_
      refine sg_ialdN (i := 0) (x := nI (tD T)) dX10_meet_44 (mo_42 rfl) hS (by simp only [lit_nI, nI_add, pk_mul, Nat.add_assoc, Nat.zero_add, Nat.add_zero]) (by omega) (H.2.1.1) ?_
      refine go_iloadn dX10_meet_45 rfl ?_
      refine go_iadd dX10_meet_46 ?_
      rw [nI_add]
      refine sg_cVi (M' := mX10_placeOn) ([.int (nI 0), .int (nI p), .int (nI (tD T + k))]) dX10_meet_47 lX10_297 vX10_placeOn (mo_L rfl) (by decide) rfl hS (q_placeOn W H.1 H.2.1 (by omega) hp (by omega)) rfl (Nat.le_of_ble_eq_true rfl) (Nat.zero_le _) (Nat.zero_le _) ?_
      refine go_aloadn dX10_meet_50 rfl ?_
      refine go_iconst (v := 0) dX10_meet_51 rfl ?_
      refine go_iloadn dX10_meet_52 rfl ?_
      refine go_aloadn dX10_meet_53 rfl ?_
      refine sg_getR dX10_meet_54 fX10_66 rfl (mo_L rfl) hS (mo_r42 hS rfl) ?_
      refine go_iconst (v := 0) dX10_meet_57 rfl ?_
      refine sg_ialdN (i := 0) (x := nI (tD T)) dX10_meet_58 (mo_42 rfl) hS (by simp only [lit_nI, nI_add, pk_mul, Nat.add_assoc, Nat.zero_add, Nat.add_zero]) (by omega) (H.2.1.1) ?_
      refine go_iloadn dX10_meet_59 rfl ?_
      refine go_iadd dX10_meet_60 ?_
      rw [nI_add]
      refine sg_cVi (M' := mX10_placeOn) ([.int (nI 0), .int (nI o), .int (nI (tD T + k))]) dX10_meet_61 lX10_297 vX10_placeOn (mo_L rfl) (by decide) rfl hS (q_placeOn W H.1 H.2.1 (by omega) ho (by omega)) rfl (Nat.le_of_ble_eq_true rfl) (Nat.zero_le _) (Nat.zero_le _) ?_
      refine go_icmp_ne (tgt := 71) dX10_meet_64 (by decide) (fun c64 => ?_) (fun c64 => ?_)
      · refine go_iinc3 (c1 := 1) dX10_meet_71 rfl rfl ?_
        refine go_goto (tgt := 25) dX10_meet_74 (by decide) ?_
        exact go_cong (ih (fun j hj => by by_cases e : j = k; (· subst e; exact c64); exact hh j (by omega))) (by simp [nI_1]) rfl
      · refine go_iloadn dX10_meet_67 rfl ?_
        refine go_iconst (v := 1) dX10_meet_68 rfl ?_
        refine go_iadd dX10_meet_69 ?_
        refine go_ireturn dX10_meet_70 rfl rfl (Nat.zero_le _) (Nat.zero_le _) ?_
        first | exact qn_ok (by rw [ftT, fs_some hk c64 hh, nI_1]; rfl) h0 hF | exact qn_ok (by rw [ftT, fs_some hk (Decidable.not_not.mp c64) hh, nI_1]; rfl) h0 hF
    · refine go_iloadn dX10_meet_25 rfl ?_
      refine go_bipush (v := 100) dX10_meet_26 rfl ?_
      refine go_icmp_ge (tgt := 77) dX10_meet_28 (by decide) (fun c28 => ?_) (fun c28 => absurd (by decide) c28)
      refine go_iconst (v := -1) dX10_meet_77 rfl ?_
      refine go_ireturn dX10_meet_78 rfl rfl (Nat.zero_le _) (Nat.zero_le _) ?_
      exact qn_ok (by rw [ftT, fs_none hh]; rfl) h0 hF
theorem lk_bit {C : Cy} {T : Tn} {w o dd : Nat} (W : WC C) (hw : w < cP C) (ho : o < cP C) : (lkT C T w dd >>> (nI o &&& 31) &&& 1 = 1) ↔ ((cBl C o = 0 ∧ plT C T o dd = plT C T w dd) ∧ o ≠ w) := by
  have hP := W.1.2.1
  rw [sh_bit1 (by omega), lkT, bI_btF (by omega) (by omega), decide_eq_true_eq]
  exact ⟨fun z => z.2, fun z => ⟨ho, z⟩⟩
theorem fc_ok {C : Cy} {T : Tn} {w o k : Nat} {h g : Hp} (hk : k < 100) (q : (cBl C o = 0 ∧ plT C T o (tD T + k) = plT C T w (tD T + k)) ∧ o ≠ w) (hh : ∀ j, j < k → ¬ (cBl C o = 0 ∧ plT C T w (tD T + j) = plT C T o (tD T + j))) (h0 : hI g 77 0 = 0) (F : Fz SM h g) (hw : w < 8 := by omega) : Qn (0, if nI w = -1 ∨ ¬ cBl C o = 0 then -1 else ftT C T w o) h (some (.int (nI k + 1))) g :=
  qn_ok (by rw [if_neg (fun z => z.elim (nI_m1 (by omega)) (fun z => z q.1.1)), ftT, fs_some hk q.1.2.symm (fun j hj z => hh j hj ⟨q.1.1, z⟩), nI_1]; rfl) h0 F
theorem m_faced {l : Launch} {d as ar : Nat} {x : Int32} {C : Cy} {T : Tn} {h : Hp} (W : WC C) (H : MB h as ar C T) (V : WT C T) (VN : WN C T) (hD9 : tD T ≤ 9999) : Qm l (d + 3) mX10_faced [.ref 77, .int x] h (vFaced C T x) := by
  have hS := H.1.1
  have hN := W.1.1
  have hP := W.1.2.1
  refine run_lv [some (.ref 77), some (.int x), none] (go := ?_)
  unfold vFaced
  refine go_aloadn dX10_faced_0 rfl ?_
  refine go_iconst (v := 0) dX10_faced_1 rfl ?_
  refine sg_putI dX10_faced_2 fX10_102 rfl rfl (mo_L rfl) hS ?_
  have hF : Fz SM h (uI h 77 0 0) := Fz.rf.uI sm0
  have H := H.sm W hF
  have h0 : hI (uI h 77 0 0) 77 0 = 0 := hI_uI_eq
  generalize uI h 77 0 0 = h1 at *
  have hS := H.1.1
  refine go_aloadn dX10_faced_5 rfl ?_
  refine go_iloadn dX10_faced_6 rfl ?_
  refine sg_mnd (M' := mX10_isThing) ([.int x]) dX10_faced_7 lX10_377 vX10_isThing (mo_L rfl) (by decide) rfl hS (q_isThing H.1 h0).1 (q_isThing H.1 h0).2 rfl (Nat.le_of_ble_eq_true rfl) (fun k7 => ?_) (fun k7 => ?_)
  · refine go_if_ne (tgt := 15) dX10_faced_10 (by decide) (fun c => absurd rfl c) (fun _ => ?_)
    refine go_iconst (v := 0) dX10_faced_13 rfl ?_
    refine go_ireturn dX10_faced_14 rfl rfl (Nat.zero_le _) (Nat.zero_le _) ?_
    exact ⟨⟨0, rfl, fun q => absurd q (by decide)⟩, hI_uI_eq, hF.uI sm0⟩
  refine go_if_ne (tgt := 15) dX10_faced_10 (by decide) (fun c10 => ?_) (fun c10 => absurd c10 (by decide))
  refine go_iconst (v := 0) dX10_faced_15 rfl ?_
  refine go_ist2 dX10_faced_16 rfl ?_
  skip
  obtain ⟨t, ht, rfl⟩ := ok_nI (by omega) k7
  obtain ⟨m1, m2, -⟩ := mB0 H.2.1 ht
  obtain ⟨⟨o, ho, eo⟩, eb, -⟩ := V.1 t ht
  rw [cl_nI (show t < 2 ^ 31 by omega), eo, cl_nI (show o < 2 ^ 31 by omega)]
  rw [eo] at m1
  by_cases z : tB T t = -1
  · rw [if_pos (Or.inl z)]
    refine go_iloadn dX10_faced_17 rfl ?_
    refine go_bipush (v := 100) dX10_faced_18 rfl ?_
    refine go_icmp_ge (tgt := 83) dX10_faced_20 (by decide) (fun c20 => absurd c20 (by decide)) (fun c20 => ?_)
    refine go_aloadn dX10_faced_23 rfl ?_
    refine sg_getR dX10_faced_24 fX10_66 rfl (mo_L rfl) hS (mo_r42 hS rfl) ?_
    refine go_bipush (v := 11) dX10_faced_27 rfl ?_
    refine go_iloadn dX10_faced_29 rfl ?_
    refine go_iadd dX10_faced_30 ?_
    refine sg_ialdN (i := 11 + t) dX10_faced_31 (mo_42 rfl) hS (by simp only [lit_nI, nI_add, pk_mul, Nat.add_assoc, Nat.zero_add, Nat.add_zero]) (by omega) (m2) ?_
    refine go_iconst (v := -1) dX10_faced_32 rfl ?_
    refine go_icmp_eq (tgt := 83) dX10_faced_33 (by decide) (fun c33 => ?_) (fun c33 => absurd z c33)
    refine go_iconst (v := -1) dX10_faced_83 rfl ?_
    refine go_ireturn dX10_faced_84 rfl rfl (Nat.zero_le _) (Nat.zero_le _) ?_
    exact qn_ok rfl h0 hF
  · obtain ⟨w, hw, ew⟩ := eb.resolve_left z
    have ne : o ≠ w := fun e => VN t ht (by rw [ew, eo, e])
    rw [ew, cl_nI (show w < 2 ^ 31 by omega)]
    rw [ew] at m2
    refine go_loop (lvf := fun k => [some (.ref 77), some (.int (nI t)), some (.int (nI k))]) (hf := fun _ => h1) 100 (fun k => ∀ j, j < k → ¬ (cBl C o = 0 ∧ plT C T w (tD T + j) = plT C T o (tD T + j))) (fun k hk hh ih => ?_) (fun hh => ?_) 0 (Nat.zero_le _) (fun _ q => absurd q (by omega))
    · have lb := lk_bit (T := T) (dd := tD T + k) W hw ho
      refine go_iloadn dX10_faced_17 rfl ?_
      refine go_bipush (v := 100) dX10_faced_18 rfl ?_
      refine go_icmp_ge (tgt := 83) dX10_faced_20 (by decide) (fun c20 => absurd c20 (nI_ge (b := 100) hk (by decide))) (fun c20 => ?_)
      refine go_aloadn dX10_faced_23 rfl ?_
      refine sg_getR dX10_faced_24 fX10_66 rfl (mo_L rfl) hS (mo_r42 hS rfl) ?_
      refine go_bipush (v := 11) dX10_faced_27 rfl ?_
      refine go_iloadn dX10_faced_29 rfl ?_
      refine go_iadd dX10_faced_30 ?_
      refine sg_ialdN (i := 11 + t) dX10_faced_31 (mo_42 rfl) hS (by simp only [lit_nI, nI_add, pk_mul, Nat.add_assoc, Nat.zero_add, Nat.add_zero]) (by omega) (m2) ?_
      refine go_iconst (v := -1) dX10_faced_32 rfl ?_
      refine go_icmp_eq (tgt := 83) dX10_faced_33 (by decide) (fun c33 => absurd c33 (nI_m1 (by omega))) (fun c33 => ?_)
      refine go_aloadn dX10_faced_36 rfl ?_
      refine go_iconst (v := 0) dX10_faced_37 rfl ?_
      refine go_aloadn dX10_faced_38 rfl ?_
      refine sg_getR dX10_faced_39 fX10_66 rfl (mo_L rfl) hS (mo_r42 hS rfl) ?_
      refine go_bipush (v := 11) dX10_faced_42 rfl ?_
      refine go_iloadn dX10_faced_44 rfl ?_
      refine go_iadd dX10_faced_45 ?_
      refine sg_ialdN (i := 11 + t) dX10_faced_46 (mo_42 rfl) hS (by simp only [lit_nI, nI_add, pk_mul, Nat.add_assoc, Nat.zero_add, Nat.add_zero]) (by omega) (m2) ?_
      refine go_aloadn dX10_faced_47 rfl ?_
      refine sg_getR dX10_faced_48 fX10_66 rfl (mo_L rfl) hS (mo_r42 hS rfl) ?_
      refine go_iconst (v := 0) dX10_faced_51 rfl ?_
      refine sg_ialdN (i := 0) (x := nI (tD T)) dX10_faced_52 (mo_42 rfl) hS (by simp only [lit_nI, nI_add, pk_mul, Nat.add_assoc, Nat.zero_add, Nat.add_zero]) (by omega) (H.2.1.1) ?_
      refine go_iloadn dX10_faced_53 rfl ?_
      refine go_iadd dX10_faced_54 ?_
      rw [nI_add]
      refine sg_cVi (M' := mX10_looksAt) ([.int (nI 0), .int (nI w), .int (nI (tD T + k))]) dX10_faced_55 lX10_306 vX10_looksAt (mo_L rfl) (by decide) rfl hS (q_looksAt W H.1 H.2.1 (by omega) hw (by omega)) rfl (Nat.le_of_ble_eq_true rfl) (Nat.zero_le _) (Nat.zero_le _) ?_
      refine go_aloadn dX10_faced_58 rfl ?_
      refine sg_getR dX10_faced_59 fX10_66 rfl (mo_L rfl) hS (mo_r42 hS rfl) ?_
      refine go_iconst (v := 1) dX10_faced_62 rfl ?_
      refine go_iloadn dX10_faced_63 rfl ?_
      refine go_iadd dX10_faced_64 ?_
      refine sg_ialdN (i := 1 + t) dX10_faced_65 (mo_42 rfl) hS (by simp only [lit_nI, nI_add, pk_mul, Nat.add_assoc, Nat.zero_add, Nat.add_zero]) (by omega) (m1) ?_
      refine go_ishr dX10_faced_66 ?_
      refine go_iconst (v := 1) dX10_faced_67 rfl ?_
      refine go_iand dX10_faced_68 ?_
      refine go_iconst (v := 1) dX10_faced_69 rfl ?_
      refine go_icmp_ne (tgt := 77) dX10_faced_70 (by decide) (fun c70 => ?_) (fun c70 => ?_)
      · refine go_iinc2 (c1 := 1) dX10_faced_77 rfl rfl ?_
        refine go_goto (tgt := 17) dX10_faced_80 (by decide) ?_
        exact go_cong (ih (fun j hj => by by_cases e : j = k; (· subst e; exact fun q => c70 (lb.mpr ⟨⟨q.1, q.2.symm⟩, ne⟩)); exact hh j (by omega))) (by simp [nI_1]) rfl
      · refine go_iloadn dX10_faced_73 rfl ?_
        refine go_iconst (v := 1) dX10_faced_74 rfl ?_
        refine go_iadd dX10_faced_75 ?_
        refine go_ireturn dX10_faced_76 rfl rfl (Nat.zero_le _) (Nat.zero_le _) ?_
        exact fc_ok hk (lb.mp (by first | exact c70 | exact Decidable.not_not.mp c70)) (fun j hj => hh j hj) h0 hF
    · refine go_iloadn dX10_faced_17 rfl ?_
      refine go_bipush (v := 100) dX10_faced_18 rfl ?_
      refine go_icmp_ge (tgt := 83) dX10_faced_20 (by decide) (fun c20 => ?_) (fun c20 => absurd (by decide) c20)
      refine go_iconst (v := -1) dX10_faced_83 rfl ?_
      refine go_ireturn dX10_faced_84 rfl rfl (Nat.zero_le _) (Nat.zero_le _) ?_
      exact qn_ok (by by_cases b : cBl C o = 0; (· rw [if_neg (fun q => q.elim (nI_m1 (by omega)) (fun q => q b)), ftT, fs_none (fun j hj q => hh j hj ⟨b, q⟩)]; rfl); rw [if_pos (Or.inr b)]) h0 hF
