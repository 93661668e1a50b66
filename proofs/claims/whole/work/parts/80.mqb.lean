/-! the model: whom to look at next -/
theorem go_cut {l : Launch} {R : Room} {M : MI} {n0 : Nat} {Z : _} {pc u w : Nat} {lv : List (Option Value)} {st : List Value} {h : Hp} {ι : Type} {lvf : ι → List (Option Value)} (pc' : Nat) {st' : List Value} {h' : Hp} {u' w' : Nat} (k : ∀ i, Go l R M n0 Z pc' (lvf i) st' h' u' w') (c : (∀ i, Go l R M n0 Z pc' (lvf i) st' h' u' w') → Go l R M n0 Z pc lv st h u w) : Go l R M n0 Z pc lv st h u w := c k
theorem oc_16 : ∀ a : Fin 100, ∀ b : Fin 9, (nI a.val <<< ((4 : Int32) &&& 31)) ||| nI b.val = nI (16 * a.val + b.val) := by decide +kernel
/-- the wearer as a number -/
theorem wr_n {C : Cy} {T : Tn} {t : Nat} (W : WC C) (V : WT C T) (ht : t < cN C) : ∃ b, b < 9 ∧ tB T t + 1 = nI b := by
  have hP := W.1.2.1
  rcases (V.1 t ht).2.1 with q | ⟨w, hw, q⟩
  · exact ⟨0, by omega, by rw [q]; rfl⟩
  · exact ⟨w + 1, by omega, by rw [q, show (1 : Int32) = nI 1 from rfl, nI_add]⟩
theorem oc_inj {C : Cy} {T T' : Tn} {t : Nat} (W : WC C) (V : WT C T) (V' : WT C T') (ht : t < cN C) : ocI (tS T t) (tB T t) = ocI (tS T' t) (tB T' t) ↔ tB T t = tB T' t ∧ tS T t = tS T' t := by
  obtain ⟨a, ha, ea⟩ := (V.1 t ht).2.2.1
  obtain ⟨a', ha', ea'⟩ := (V'.1 t ht).2.2.1
  obtain ⟨b, hb, eb⟩ := wr_n W V ht
  obtain ⟨b', hb', eb'⟩ := wr_n W V' ht
  unfold ocI
  rw [ea, ea', eb, eb', oc_16 ⟨a, ha⟩ ⟨b, hb⟩, oc_16 ⟨a', ha'⟩ ⟨b', hb'⟩]
  dsimp only
  rw [nI_eq (by omega) (by omega), nI_eq (by omega) (by omega)]
  constructor
  · intro q
    have h1 : a = a' := by omega
    have h2 : b = b' := by omega
    refine ⟨?_, h1⟩
    rw [← h2, ← eb] at eb'
    exact (Int32.add_left_inj 1).mp eb'.symm
  · rintro ⟨q, h1⟩
    have h2 : b = b' := (nI_eq (by omega) (by omega)).mp (by rw [← eb, ← eb', q])
    omega
theorem ao_ok {C : Cy} {T : Tn} {k : Nat} (W : WC C) (V : WT C T) : WT C (aoT C T k) := (V.t0.va (Nat.mod_lt _ (by decide))).dn W
theorem ao_at {C : Cy} {T : Tn} {G : Nat → Nat} {i t : Nat} (ht : t < 10) : aoF C T G (10 * i + t) = ocI (tS (aoT C T (G i)) t) (tB (aoT C T (G i)) t) := by
  unfold aoF
  rw [show (10 * i + t) / 10 = i by omega, show (10 * i + t) % 10 = t by omega]
/-- what all guesses hold -/
def soA (g : Hp) (C : Cy) (T : Tn) (L : List Nat) : Prop := ∀ i, i < L.length → ∀ t, t < cN C → hI g 99 (20 * i + t) = tB (aoT C T (L.getD i 0)) t ∧ hI g 99 (20 * i + 10 + t) = tS (aoT C T (L.getD i 0)) t
theorem soA.i {g : Hp} {C : Cy} {T : Tn} {L : List Nat} (H : soA g C T L) {i t : Nat} (W : WC C) (V : WT C T) (hi : i < L.length) {j : Nat} (hj : j < L.length) (ht : t < cN C) : (hI g 99 (20 * i + t) = hI g 99 (20 * j + t) ∧ hI g 99 (20 * i + 10 + t) = hI g 99 (20 * j + 10 + t)) ↔ aoF C T (fun i => L.getD i 0) (10 * j + t) = aoF C T (fun i => L.getD i 0) (10 * i + t) := by
  have hN1 := W.1.1
  rw [ao_at (by omega), ao_at (by omega), (H i hi t ht).1, (H i hi t ht).2, (H j hj t ht).1, (H j hj t ht).2, oc_inj W (ao_ok W V) (ao_ok W V) ht]
  exact ⟨fun q => ⟨q.1.symm, q.2.symm⟩, fun q => ⟨q.1.symm, q.2.symm⟩⟩
theorem q_areLike {l : Launch} {d i j t : Nat} {C : Cy} {T : Tn} {L : List Nat} {h : Hp} (hS : St h) (W : WC C) (V : WT C T) (H : soA h C T L) (hi : i < L.length) (hj : j < L.length) (hL : L.length ≤ 80) (ht : t < cN C) : Ex l (d + 1) mX10_areLike [.ref 77, .int (nI i), .int (nI j), .int (nI t)] h (some (.int (if aoF C T (fun i => L.getD i 0) (10 * j + t) = aoF C T (fun i => L.getD i 0) (10 * i + t) then 1 else 0))) h := by
  have hN1 := W.1.1
  have ei := H.i W V hi hj ht
  refine run_lv [some (.ref 77), some (.int (nI i)), some (.int (nI j)), some (.int (nI t))] (go := ?_)
  refine go_aloadn dX10_areLike_0 rfl ?_
  refine sg_getR dX10_areLike_1 fX10_90 rfl (mo_L rfl) hS (mo_r54 hS rfl) ?_
  refine go_bipush (v := 20) dX10_areLike_4 rfl ?_
  refine go_iloadn dX10_areLike_6 rfl ?_
  refine go_imul dX10_areLike_7 ?_
  refine go_iloadn dX10_areLike_8 rfl ?_
  refine go_iadd dX10_areLike_9 ?_
  refine sg_ialdN (i := 20 * i + t) (x := hI h 99 (20 * i + t)) dX10_areLike_10 (mo_54 rfl) hS (by simp only [lit_nI, nI_add, pk_mul, Nat.add_assoc, Nat.zero_add, Nat.add_zero]) (by omega) (rfl) ?_
  refine go_aloadn dX10_areLike_11 rfl ?_
  refine sg_getR dX10_areLike_12 fX10_90 rfl (mo_L rfl) hS (mo_r54 hS rfl) ?_
  refine go_bipush (v := 20) dX10_areLike_15 rfl ?_
  refine go_iloadn dX10_areLike_17 rfl ?_
  refine go_imul dX10_areLike_18 ?_
  refine go_iloadn dX10_areLike_19 rfl ?_
  refine go_iadd dX10_areLike_20 ?_
  refine sg_ialdN (i := 20 * j + t) (x := hI h 99 (20 * j + t)) dX10_areLike_21 (mo_54 rfl) hS (by simp only [lit_nI, nI_add, pk_mul, Nat.add_assoc, Nat.zero_add, Nat.add_zero]) (by omega) (rfl) ?_
  refine go_icmp_ne (tgt := 60) dX10_areLike_22 (by decide) (fun c22 => ?_) (fun c22 => ?_)
  · refine go_iconst (v := 0) dX10_areLike_60 rfl ?_
    refine go_ireturn dX10_areLike_61 rfl rfl (Nat.zero_le _) (Nat.zero_le _) ?_
    first | exact ⟨by rw [if_pos (ei.mp (And.intro c22 c53))], rfl⟩ | exact ⟨by rw [if_neg (fun q => c53 (ei.mpr q).2)], rfl⟩ | exact ⟨by rw [if_neg (fun q => c22 (ei.mpr q).1)], rfl⟩
  · refine go_aloadn dX10_areLike_25 rfl ?_
    refine sg_getR dX10_areLike_26 fX10_90 rfl (mo_L rfl) hS (mo_r54 hS rfl) ?_
    refine go_bipush (v := 20) dX10_areLike_29 rfl ?_
    refine go_iloadn dX10_areLike_31 rfl ?_
    refine go_imul dX10_areLike_32 ?_
    refine go_bipush (v := 10) dX10_areLike_33 rfl ?_
    refine go_iadd dX10_areLike_35 ?_
    refine go_iloadn dX10_areLike_36 rfl ?_
    refine go_iadd dX10_areLike_37 ?_
    refine sg_ialdN (i := 20 * i + 10 + t) (x := hI h 99 (20 * i + 10 + t)) dX10_areLike_38 (mo_54 rfl) hS (by simp only [lit_nI, nI_add, pk_mul, Nat.add_assoc, Nat.zero_add, Nat.add_zero]) (by omega) (rfl) ?_
    refine go_aloadn dX10_areLike_39 rfl ?_
    refine sg_getR dX10_areLike_40 fX10_90 rfl (mo_L rfl) hS (mo_r54 hS rfl) ?_
    refine go_bipush (v := 20) dX10_areLike_43 rfl ?_
    refine go_iloadn dX10_areLike_45 rfl ?_
    refine go_imul dX10_areLike_46 ?_
    refine go_bipush (v := 10) dX10_areLike_47 rfl ?_
    refine go_iadd dX10_areLike_49 ?_
    refine go_iloadn dX10_areLike_50 rfl ?_
    refine go_iadd dX10_areLike_51 ?_
    refine sg_ialdN (i := 20 * j + 10 + t) (x := hI h 99 (20 * j + 10 + t)) dX10_areLike_52 (mo_54 rfl) hS (by simp only [lit_nI, nI_add, pk_mul, Nat.add_assoc, Nat.zero_add, Nat.add_zero]) (by omega) (rfl) ?_
    refine go_icmp_ne (tgt := 60) dX10_areLike_53 (by decide) (fun c53 => ?_) (fun c53 => ?_)
    · refine go_iconst (v := 0) dX10_areLike_60 rfl ?_
      refine go_ireturn dX10_areLike_61 rfl rfl (Nat.zero_le _) (Nat.zero_le _) ?_
      first | exact ⟨by rw [if_pos (ei.mp (And.intro c22 c53))], rfl⟩ | exact ⟨by rw [if_neg (fun q => c53 (ei.mpr q).2)], rfl⟩ | exact ⟨by rw [if_neg (fun q => c22 (ei.mpr q).1)], rfl⟩
    · refine go_iconst (v := 1) dX10_areLike_56 rfl ?_
      refine go_goto (tgt := 61) dX10_areLike_57 (by decide) ?_
      refine go_ireturn dX10_areLike_61 rfl rfl (Nat.zero_le _) (Nat.zero_le _) ?_
      first | exact ⟨by rw [if_pos (ei.mp (And.intro c22 c53))], rfl⟩ | exact ⟨by rw [if_neg (fun q => c53 (ei.mpr q).2)], rfl⟩ | exact ⟨by rw [if_neg (fun q => c22 (ei.mpr q).1)], rfl⟩
theorem gl_le {C : Cy} {Q : Nt} {T : Tn} {n : Nat} : (glL C Q T n).length ≤ n := by
  have := List.length_filter_le (gsB C Q T) (List.range n)
  rw [List.length_range] at this; exact this
theorem m_ask {l : Launch} {d as ar : Nat} {w : Int32} {C : Cy} {T : Tn} {Q : Nt} {h : Hp} (W : WC C) (H : MB h as ar C T) (V : WT C T) (hD9 : tD T ≤ 9999) (hQ : MN h (cN C) Q) : Qm l (d + 9) mX10_ask [.ref 77, .int w] h (vAsk C Q T w) := by
  have hS := H.1.1
  have hP := W.1.2.1
  have hN1 := W.1.1
  refine run_lv [some (.ref 77), some (.int w), none, none, none, none, none, none, none, none] (go := ?_)
  unfold vAsk
  refine go_aloadn dX10_ask_0 rfl ?_
  refine go_iconst (v := 0) dX10_ask_1 rfl ?_
  refine sg_putI dX10_ask_2 fX10_102 rfl rfl (mo_L rfl) hS ?_
  have hF : Fz SM h (uI h 77 0 0) := Fz.rf.uI sm0
  have H := H.sm W hF
  have hQ := hQ.sm hF
  have h0 : hI (uI h 77 0 0) 77 0 = 0 := hI_uI_eq
  generalize uI h 77 0 0 = h1 at *
  have hS := H.1.1
  refine go_aloadn dX10_ask_5 rfl ?_
  refine go_iloadn dX10_ask_6 rfl ?_
  refine go_iconst (v := 1) dX10_ask_7 rfl ?_
  refine sg_mnd (M' := mX10_isWhat) ([.int w, .int 1]) dX10_ask_8 lX10_365 vX10_isWhat (mo_L rfl) (by decide) rfl hS (q_isWhat hS h0).1 (q_isWhat hS h0).2 rfl (Nat.le_of_ble_eq_true rfl) (fun k8 => ?_) (fun k8 => ?_)
  · refine go_if_ne (tgt := 16) dX10_ask_11 (by decide) (fun c => absurd rfl c) (fun _ => ?_)
    refine go_iconst (v := 0) dX10_ask_14 rfl ?_
    refine go_ireturn dX10_ask_15 rfl rfl (Nat.zero_le _) (Nat.zero_le _) ?_
    exact ⟨⟨0, rfl, fun q => absurd q (by decide)⟩, hI_uI_eq, hF.uI sm0⟩
  refine go_if_ne (tgt := 16) dX10_ask_11 (by decide) (fun c11 => ?_) (fun c11 => absurd c11 (by decide))
  refine go_iconst (v := 0) dX10_ask_16 rfl ?_
  refine go_ist2 dX10_ask_17 rfl ?_
  refine go_iconst (v := 0) dX10_ask_18 rfl ?_
  refine go_ist3 dX10_ask_19 rfl ?_
  skip
  refine go_cong (go_loopR (lvf := fun k => [some (.ref 77), some (.int w), some (.int (nI (glL C Q T k).length)), some (.int (nI k)), none, none, none, none, none, none]) (10 * cP C) (fun k g => Fz SN h1 g ∧ soA g C T (glL C Q T k)) (fun k g hk hh ih => ?_) (fun g hh => ?_) 0 h1 (Nat.zero_le _) ⟨Fz.rf, fun _ q => absurd q (Nat.not_lt_zero _)⟩) rfl rfl
  · obtain ⟨F, A⟩ := hh
    have H2 := H.sn W F
    have hS := H2.1.1
    have hpe := H2.1.2.1.2.1
    have hl := gl_le (C := C) (Q := Q) (T := T) (n := k)
    rw [glL_s] at ih
    by_cases q : gsB C Q T k = true
    · rw [if_pos q, List.length_append] at ih
      refine go_iloadn dX10_ask_20 rfl ?_
      refine go_bipush (v := 10) dX10_ask_21 rfl ?_
      refine go_aloadn dX10_ask_23 rfl ?_
      refine sg_getI dX10_ask_24 fX10_273 rfl (mo_L rfl) hS ?_
      refine go_imul dX10_ask_27 ?_
      rw [hpe, show (10 : Int32) = nI 10 from rfl, pk_mul]
      refine go_icmp_ge (tgt := 86) dX10_ask_28 (by decide) (fun c28 => absurd c28 (nI_ge hk (by omega))) (fun c28 => ?_)
      refine go_aloadn dX10_ask_31 rfl ?_
      refine go_iloadn dX10_ask_32 rfl ?_
      refine sg_rVi (M' := mX10_isGuess) ([.int (nI k)]) dX10_ask_33 lX10_425 vX10_isGuess (mo_L rfl) (by decide) rfl hS (q_isGuess W H2 V hD9 (hQ.sn F) hk) rfl (Nat.le_of_ble_eq_true rfl) (Nat.zero_le _) (Nat.zero_le _) (fun g2 F2 => ?_)
      rw [if_pos q]
      refine go_if_ne (tgt := 42) dX10_ask_36 (by decide) (fun c36 => ?_) (fun c36 => absurd c36 (by decide))
      refine go_iconst (v := 0) dX10_ask_42 rfl ?_
      refine go_ist4 dX10_ask_43 rfl ?_
      skip
      have hS := F2.1.St hS
      generalize hlen : (glL C Q T k).length = m at *
      refine go_back (go_loopR (lvf := fun j => [some (.ref 77), some (.int w), some (.int (nI m)), some (.int (nI k)), some (.int (nI j)), none, none, none, none, none]) 20 (fun j g3 => Fz (fun a x => a = 99 ∧ 20 * m ≤ x) g2 g3 ∧ ∀ i, i < j → hI g3 99 (20 * m + i) = hI g2 98 i) (fun j g3 hj hh ih2 => ?_) (fun g3 hh => ?_) 0 g2 (Nat.zero_le _) ⟨Fz.rf, fun _ q => absurd q (by omega)⟩) (by simp [lsub, nI]) rfl
      · obtain ⟨F3, e⟩ := hh
        have hS := F3.St hS
        refine go_iload dX10_ask_45 rfl ?_
        refine go_bipush (v := 20) dX10_ask_47 rfl ?_
        refine go_icmp_ge (tgt := 77) dX10_ask_49 (by decide) (fun c49 => absurd c49 (nI_ge (b := 20) hj (by decide))) (fun c49 => ?_)
        refine go_aloadn dX10_ask_52 rfl ?_
        refine sg_getR dX10_ask_53 fX10_90 rfl (mo_L rfl) hS (mo_r54 hS rfl) ?_
        refine go_bipush (v := 20) dX10_ask_56 rfl ?_
        refine go_iloadn dX10_ask_58 rfl ?_
        refine go_imul dX10_ask_59 ?_
        refine go_iload dX10_ask_60 rfl ?_
        refine go_iadd dX10_ask_62 ?_
        refine go_aloadn dX10_ask_63 rfl ?_
        refine sg_getR dX10_ask_64 fX10_87 rfl (mo_L rfl) hS (mo_r53 hS rfl) ?_
        refine go_iload dX10_ask_67 rfl ?_
        refine sg_ialdN (i := j) (x := hI g2 98 j) dX10_ask_69 (mo_53 rfl) hS (by simp only [lit_nI, nI_add, pk_mul, Nat.add_assoc, Nat.zero_add, Nat.add_zero]) (by omega) ((F3.I (by omega))) ?_
        refine sg_iastN (i := 20 * m + j) dX10_ask_70 (mo_54 rfl) hS (by simp only [lit_nI, nI_add, pk_mul, Nat.add_assoc, Nat.zero_add, Nat.add_zero]) (by omega) ?_
        refine go_iinc4 (c1 := 1) dX10_ask_71 rfl rfl ?_
        refine go_goto (tgt := 45) dX10_ask_74 (by decide) ?_
        exact go_back (ih2 _ ⟨F3.uI ⟨rfl, by omega⟩, fun i hi => by rw [hI_uI]; by_cases z : i = j; (· subst z; rw [if_pos ⟨rfl, rfl⟩]); (rw [if_neg (by omega)]; exact e i (by omega))⟩) (by simp [lsub, nI_1]) rfl
      · obtain ⟨F3, e⟩ := hh
        have hS := F3.St hS
        have F4 : Fz SN g2 g3 := F3.sub (fun a k q => by unfold SN; omega)
        have A2 : soA g3 C T (glL C Q T k ++ [k]) := by
          intro i hi t ht
          rw [List.length_append, hlen] at hi
          simp only [List.length_cons, List.length_nil] at hi
          by_cases z : i = m
          · subst z
            rw [← hlen, gd_r, hlen, e t (by omega), Nat.add_assoc, e (10 + t) (by omega)]
            exact F2.2 q t ht
          · rw [gd_l (by omega), F3.I (by omega), F3.I (by omega), F2.1.I (fun q => q.2 rfl), F2.1.I (fun q => q.2 rfl)]
            exact A i (by omega) t ht
        refine go_iload dX10_ask_45 rfl ?_
        refine go_bipush (v := 20) dX10_ask_47 rfl ?_
        refine go_icmp_ge (tgt := 77) dX10_ask_49 (by decide) (fun c49 => ?_) (fun c49 => absurd (by decide) c49)
        refine go_iinc2 (c1 := 1) dX10_ask_77 rfl rfl ?_
        refine go_iinc3 (c1 := 1) dX10_ask_80 rfl rfl ?_
        refine go_goto (tgt := 20) dX10_ask_83 (by decide) ?_
        exact go_back (ih g3 ⟨(F.tr F2.1.sg).tr F4, A2⟩) (by simp [lsub, nI_1]) rfl
    · rw [if_neg q] at ih
      refine go_iloadn dX10_ask_20 rfl ?_
      refine go_bipush (v := 10) dX10_ask_21 rfl ?_
      refine go_aloadn dX10_ask_23 rfl ?_
      refine sg_getI dX10_ask_24 fX10_273 rfl (mo_L rfl) hS ?_
      refine go_imul dX10_ask_27 ?_
      rw [hpe, show (10 : Int32) = nI 10 from rfl, pk_mul]
      refine go_icmp_ge (tgt := 86) dX10_ask_28 (by decide) (fun c28 => absurd c28 (nI_ge hk (by omega))) (fun c28 => ?_)
      refine go_aloadn dX10_ask_31 rfl ?_
      refine go_iloadn dX10_ask_32 rfl ?_
      refine sg_rVi (M' := mX10_isGuess) ([.int (nI k)]) dX10_ask_33 lX10_425 vX10_isGuess (mo_L rfl) (by decide) rfl hS (q_isGuess W H2 V hD9 (hQ.sn F) hk) rfl (Nat.le_of_ble_eq_true rfl) (Nat.zero_le _) (Nat.zero_le _) (fun g2 F2 => ?_)
      rw [if_neg q]
      refine go_if_ne (tgt := 42) dX10_ask_36 (by decide) (fun c36 => absurd rfl c36) (fun c36 => ?_)
      refine go_goto (tgt := 80) dX10_ask_39 (by decide) ?_
      refine go_iinc3 (c1 := 1) dX10_ask_80 rfl rfl ?_
      refine go_goto (tgt := 20) dX10_ask_83 (by decide) ?_
      exact go_back (ih g2 ⟨F.tr F2.1.sg, fun i hi t ht => by rw [F2.1.I (fun q => q.2 rfl), F2.1.I (fun q => q.2 rfl)]; exact A i hi t ht⟩) (by simp [lsub, nI_1]) rfl
  · obtain ⟨F, A⟩ := hh
    have H2 := H.sn W F
    have hS := H2.1.1
    have hpe := H2.1.2.1.2.1
    have hth := H2.1.2.1.2.2.1
    have hl := gl_le (C := C) (Q := Q) (T := T) (n := 10 * cP C)
    have eG : gG C Q T = fun i => (glL C Q T (10 * cP C)).getD i 0 := rfl
    rw [eG]
    generalize glL C Q T (10 * cP C) = L at *
    have hlk := fun (i j t d : Nat) (hi : i < L.length) (hj : j < L.length) (ht : t < cN C) => q_areLike (l := l) (d := d) hS W V A hi hj (by omega) ht
    generalize hO : aoF C T (fun i => L.getD i 0) = O at *
    refine go_iloadn dX10_ask_20 rfl ?_
    refine go_bipush (v := 10) dX10_ask_21 rfl ?_
    refine go_aloadn dX10_ask_23 rfl ?_
    refine sg_getI dX10_ask_24 fX10_273 rfl (mo_L rfl) hS ?_
    refine go_imul dX10_ask_27 ?_
    rw [hpe, show (10 : Int32) = nI 10 from rfl, pk_mul]
    refine go_icmp_ge (tgt := 86) dX10_ask_28 (by decide) (fun c28 => ?_) (fun c28 => absurd (nI_le (Nat.le_refl _) (by omega)) c28)
    refine go_iconst (v := -1) dX10_ask_86 rfl ?_
    refine go_ist3 dX10_ask_87 rfl ?_
    refine go_iconst (v := 0) dX10_ask_88 rfl ?_
    refine go_ist4 dX10_ask_89 rfl ?_
    refine go_iconst (v := 0) dX10_ask_91 rfl ?_
    refine go_ist5 dX10_ask_92 rfl ?_
    skip
    refine go_back (go_loop (lvf := fun t => [some (.ref 77), some (.int w), some (.int (nI L.length)), some (.int (cmT O L.length t).1), some (.int (cmT O L.length t).2), some (.int (nI t)), none, none, none, none]) (hf := fun _ => g) (cN C) (fun _ => True) (fun t ht _ ih => ?_) (fun _ => ?_) 0 (Nat.zero_le _) trivial) (by simp [lsub, cmT, foF, nI]) rfl
    · have es : cmT O L.length (t + 1) = if nI (ulN O t L.length) ≤ (cmT O L.length t).2 then cmT O L.length t else (nI t, nI (ulN O t L.length)) := rfl
      rw [es] at ih
      generalize cmT O L.length t = s at *
      refine go_iload dX10_ask_94 rfl ?_
      refine go_aloadn dX10_ask_96 rfl ?_
      refine sg_getI dX10_ask_97 fX10_276 rfl (mo_L rfl) hS ?_
      rw [hth]
      refine go_icmp_ge (tgt := 203) dX10_ask_100 (by decide) (fun c100 => absurd c100 (nI_ge ht (by omega))) (fun c100 => ?_)
      refine go_iconst (v := 0) dX10_ask_103 rfl ?_
      refine go_ist6 dX10_ask_104 rfl ?_
      refine go_iconst (v := 0) dX10_ask_106 rfl ?_
      refine go_ist7 dX10_ask_107 rfl ?_
      skip
      refine go_back (go_loop (lvf := fun i => [some (.ref 77), some (.int w), some (.int (nI L.length)), some (.int s.1), some (.int s.2), some (.int (nI t)), some (.int (nI (ulN O t i))), some (.int (nI i)), none, none]) (hf := fun _ => g) L.length (fun _ => True) (fun i hi _ ih2 => ?_) (fun _ => ?_) 0 (Nat.zero_le _) trivial) (by simp [lsub, ulN, foF, nI]) rfl
      · have es2 : ulN O t (i + 1) = if nwB O t i then ulN O t i + 1 else ulN O t i := rfl
        rw [es2] at ih2
        refine go_cut 159 (lvf := fun lj => [some (.ref 77), some (.int w), some (.int (nI L.length)), some (.int s.1), some (.int s.2), some (.int (nI t)), some (.int (nI (ulN O t i))), some (.int (nI i)), some (.int (if nwB O t i = true then 1 else 0)), lj]) (st' := []) (h' := g) (u' := 0) (w' := 0) ?_ (fun fin => ?_)
        · intro lj
          by_cases z : nwB O t i = true
          · rw [if_pos z] at ih2 ⊢
            refine go_iload dX10_ask_159 rfl ?_
            refine go_iload dX10_ask_161 rfl ?_
            refine go_if_eq (tgt := 170) dX10_ask_163 (by decide) (fun c163 => absurd c163 (by decide)) (fun c163 => ?_)
            refine go_iconst (v := 1) dX10_ask_166 rfl ?_
            refine go_goto (tgt := 171) dX10_ask_167 (by decide) ?_
            refine go_iadd dX10_ask_171 ?_
            refine go_ist6 dX10_ask_172 rfl ?_
            refine go_iinc7 (c1 := 1) dX10_ask_174 rfl rfl ?_
            refine go_goto (tgt := 109) dX10_ask_177 (by decide) ?_
            exact go_back (ih2 trivial) (by simp [lsub, nI_1]) rfl
          · rw [if_neg z] at ih2 ⊢
            refine go_iload dX10_ask_159 rfl ?_
            refine go_iload dX10_ask_161 rfl ?_
            refine go_if_eq (tgt := 170) dX10_ask_163 (by decide) (fun c163 => ?_) (fun c163 => absurd rfl c163)
            refine go_iconst (v := 0) dX10_ask_170 rfl ?_
            refine go_iadd dX10_ask_171 ?_
            refine go_ist6 dX10_ask_172 rfl ?_
            refine go_iinc7 (c1 := 1) dX10_ask_174 rfl rfl ?_
            refine go_goto (tgt := 109) dX10_ask_177 (by decide) ?_
            exact go_back (ih2 trivial) (by simp [lsub, nI_1]) rfl
        refine go_iload dX10_ask_109 rfl ?_
        refine go_iloadn dX10_ask_111 rfl ?_
        refine go_icmp_ge (tgt := 180) dX10_ask_112 (by decide) (fun c112 => absurd c112 (nI_ge hi (by omega))) (fun c112 => ?_)
        refine go_iconst (v := 1) dX10_ask_115 rfl ?_
        refine go_ist8 dX10_ask_116 rfl ?_
        refine go_iconst (v := 0) dX10_ask_118 rfl ?_
        refine go_ist9 dX10_ask_119 rfl ?_
        skip
        refine go_back (go_loop (lvf := fun j => [some (.ref 77), some (.int w), some (.int (nI L.length)), some (.int s.1), some (.int s.2), some (.int (nI t)), some (.int (nI (ulN O t i))), some (.int (nI i)), some (.int 1), some (.int (nI j))]) (hf := fun _ => g) i (fun j => ∀ x, x < j → ¬ O (10 * x + t) = O (10 * i + t)) (fun j hj hh ih3 => ?_) (fun hh => ?_) 0 (Nat.zero_le _) (fun _ q => absurd q (by omega))) (by simp [lsub, nI]) rfl
        · by_cases z : O (10 * j + t) = O (10 * i + t)
          · have nw : ¬ nwB O t i = true := fun q => by rw [nwB, fs_some hj z hh] at q; simp at q
            rw [if_neg nw] at fin
            refine go_iload dX10_ask_121 rfl ?_
            refine go_iload dX10_ask_123 rfl ?_
            refine go_icmp_ge (tgt := 159) dX10_ask_125 (by decide) (fun c125 => absurd c125 (nI_ge hj (by omega))) (fun c125 => ?_)
            refine go_iload dX10_ask_128 rfl ?_
            refine go_if_eq (tgt := 159) dX10_ask_130 (by decide) (fun c130 => absurd c130 (by decide)) (fun c130 => ?_)
            refine go_aloadn dX10_ask_133 rfl ?_
            refine go_iload dX10_ask_134 rfl ?_
            refine go_iload dX10_ask_136 rfl ?_
            refine go_iload dX10_ask_138 rfl ?_
            refine sg_cVi (M' := mX10_areLike) ([.int (nI i), .int (nI j), .int (nI t)]) dX10_ask_140 lX10_428 vX10_areLike (mo_L rfl) (by decide) rfl hS (hlk i j t _ hi (by omega) ht) rfl (Nat.le_of_ble_eq_true rfl) (Nat.zero_le _) (Nat.zero_le _) ?_
            rw [if_pos z]
            refine go_if_ne (tgt := 150) dX10_ask_143 (by decide) (fun c143 => ?_) (fun c143 => absurd c143 (by decide))
            refine go_iconst (v := 0) dX10_ask_150 rfl ?_
            refine go_ist8 dX10_ask_151 rfl ?_
            refine go_iinc9 (c1 := 1) dX10_ask_153 rfl rfl ?_
            refine go_goto (tgt := 121) dX10_ask_156 (by decide) ?_
            skip
            by_cases jl : j + 1 < i
            · refine go_iload dX10_ask_121 rfl ?_
              refine go_iload dX10_ask_123 rfl ?_
              refine go_icmp_ge (tgt := 159) dX10_ask_125 (by decide) (fun c125 => absurd c125 (by rw [nI_1]; exact nI_ge jl (by omega))) (fun c125 => ?_)
              refine go_iload dX10_ask_128 rfl ?_
              refine go_if_eq (tgt := 159) dX10_ask_130 (by decide) (fun c130 => ?_) (fun c130 => absurd rfl c130)
              exact fin _
            · refine go_iload dX10_ask_121 rfl ?_
              refine go_iload dX10_ask_123 rfl ?_
              refine go_icmp_ge (tgt := 159) dX10_ask_125 (by decide) (fun c125 => ?_) (fun c125 => absurd (by rw [nI_1]; exact nI_le (by omega) (by omega)) c125)
              exact fin _
          · refine go_iload dX10_ask_121 rfl ?_
            refine go_iload dX10_ask_123 rfl ?_
            refine go_icmp_ge (tgt := 159) dX10_ask_125 (by decide) (fun c125 => absurd c125 (nI_ge hj (by omega))) (fun c125 => ?_)
            refine go_iload dX10_ask_128 rfl ?_
            refine go_if_eq (tgt := 159) dX10_ask_130 (by decide) (fun c130 => absurd c130 (by decide)) (fun c130 => ?_)
            refine go_aloadn dX10_ask_133 rfl ?_
            refine go_iload dX10_ask_134 rfl ?_
            refine go_iload dX10_ask_136 rfl ?_
            refine go_iload dX10_ask_138 rfl ?_
            refine sg_cVi (M' := mX10_areLike) ([.int (nI i), .int (nI j), .int (nI t)]) dX10_ask_140 lX10_428 vX10_areLike (mo_L rfl) (by decide) rfl hS (hlk i j t _ hi (by omega) ht) rfl (Nat.le_of_ble_eq_true rfl) (Nat.zero_le _) (Nat.zero_le _) ?_
            rw [if_neg z]
            refine go_if_ne (tgt := 150) dX10_ask_143 (by decide) (fun c143 => absurd rfl c143) (fun c143 => ?_)
            refine go_iconst (v := 1) dX10_ask_146 rfl ?_
            refine go_goto (tgt := 151) dX10_ask_147 (by decide) ?_
            refine go_ist8 dX10_ask_151 rfl ?_
            refine go_iinc9 (c1 := 1) dX10_ask_153 rfl rfl ?_
            refine go_goto (tgt := 121) dX10_ask_156 (by decide) ?_
            exact go_back (ih3 (fun x hx => by by_cases e : x = j; (· subst e; exact z); exact hh x (by omega))) (by simp [lsub, nI_1]) rfl
        · have nw : nwB O t i = true := by rw [nwB, fs_none hh]; rfl
          rw [if_pos nw] at fin
          refine go_iload dX10_ask_121 rfl ?_
          refine go_iload dX10_ask_123 rfl ?_
          refine go_icmp_ge (tgt := 159) dX10_ask_125 (by decide) (fun c125 => ?_) (fun c125 => absurd (nI_le (Nat.le_refl _) (by omega)) c125)
          exact fin _
      · refine go_iload dX10_ask_109 rfl ?_
        refine go_iloadn dX10_ask_111 rfl ?_
        refine go_icmp_ge (tgt := 180) dX10_ask_112 (by decide) (fun c112 => ?_) (fun c112 => absurd (nI_le (Nat.le_refl _) (by omega)) c112)
        refine go_iload dX10_ask_180 rfl ?_
        refine go_iload dX10_ask_182 rfl ?_
        refine go_icmp_gt (tgt := 190) dX10_ask_184 (by decide) (fun c184 => ?_) (fun c184 => ?_)
        · refine go_iload dX10_ask_190 rfl ?_
          refine go_ist3 dX10_ask_192 rfl ?_
          refine go_iload dX10_ask_193 rfl ?_
          refine go_ist4 dX10_ask_195 rfl ?_
          refine go_iinc5 (c1 := 1) dX10_ask_197 rfl rfl ?_
          refine go_goto (tgt := 94) dX10_ask_200 (by decide) ?_
          first | exact go_back (ih trivial) (by rw [if_neg (Int32.not_le.mpr c184)]; simp [lsub, nI_1]) rfl | exact go_back (ih trivial) (by rw [if_pos (Int32.not_lt.mp c184)]; simp [lsub, nI_1]) rfl
        · refine go_goto (tgt := 197) dX10_ask_187 (by decide) ?_
          refine go_iinc5 (c1 := 1) dX10_ask_197 rfl rfl ?_
          refine go_goto (tgt := 94) dX10_ask_200 (by decide) ?_
          first | exact go_back (ih trivial) (by rw [if_neg (Int32.not_le.mpr c184)]; simp [lsub, nI_1]) rfl | exact go_back (ih trivial) (by rw [if_pos (Int32.not_lt.mp c184)]; simp [lsub, nI_1]) rfl
    · refine go_iload dX10_ask_94 rfl ?_
      refine go_aloadn dX10_ask_96 rfl ?_
      refine sg_getI dX10_ask_97 fX10_276 rfl (mo_L rfl) hS ?_
      rw [hth]
      refine go_icmp_ge (tgt := 203) dX10_ask_100 (by decide) (fun c100 => ?_) (fun c100 => absurd (nI_le (Nat.le_refl _) (by omega)) c100)
      refine go_iloadn dX10_ask_203 rfl ?_
      refine go_if_ne (tgt := 211) dX10_ask_204 (by decide) (fun c204 => ?_) (fun c204 => ?_)
      · refine go_iload dX10_ask_211 rfl ?_
        refine go_ireturn dX10_ask_213 rfl rfl (Nat.zero_le _) (Nat.zero_le _) ?_
        first | exact qn_ok (by rw [if_pos c204]) (F.t0.trans h0) (hF.tr F.sn) | exact qn_ok (by rw [if_neg c204]) (F.t0.trans h0) (hF.tr F.sn)
      · refine go_iloadn dX10_ask_207 rfl ?_
        refine go_goto (tgt := 213) dX10_ask_208 (by decide) ?_
        refine go_ireturn dX10_ask_213 rfl rfl (Nat.zero_le _) (Nat.zero_le _) ?_
        first | exact qn_ok (by rw [if_pos c204]) (F.t0.trans h0) (hF.tr F.sn) | exact qn_ok (by rw [if_neg c204]) (F.t0.trans h0) (hF.tr F.sn)
