/-! the model: one's own, where to stand, what to steal -/
def mS (s : Int32) : Int32 := if s = -1 then 99999 else s
def oS (s : Int32) : Prop := s = -1 ∨ ∃ k, 1 ≤ k ∧ k ≤ 100 ∧ s = nI k
theorem eo_in {C : Cy} {T : Tn} {t : Nat} {o : Int32} : oS (eoT C T t o) := by
  unfold eoT
  split
  · exact Or.inl rfl
  · split
    · next k hk =>
      have := (fs_of_some hk).1
      generalize (if tO (dnT C T (k + 1)) t = tB T t then (1 : Int32) else 0) = u
      by_cases e : u = o
      · rw [if_pos e]; exact Or.inr ⟨k + 1, by omega, by omega, rfl⟩
      · rw [if_neg e]; exact Or.inl rfl
    · exact Or.inl rfl
theorem q_ownIn {l : Launch} {d as ar t : Nat} {o : Int32} {C : Cy} {T T' : Tn} {h : Hp} (W : WC C) (H : ME h as ar C T T') (V : WT C T') (hD : tD T' + 100 < 2 ^ 30) (ht : t < cN C) (hz : ¬ tB T' t = -1) : Ey l (d + 7) mX10_ownIn [.ref 77, .int (nI t), .int o] h (some (.int (mS (eoT C T' t o)))) (Fz SN h) := by
  have hS := H.1.1.1
  have hN := W.1.1
  refine run_lv [some (.ref 77), some (.int (nI t)), some (.int o), none, none] (go := ?_)
  refine go_aloadn dX10_ownIn_0 rfl ?_
  refine sg_getR dX10_ownIn_1 fX10_66 rfl (mo_L rfl) hS (mo_r42 hS rfl) ?_
  refine go_bipush (v := 116) dX10_ownIn_4 rfl ?_
  refine go_iloadn dX10_ownIn_6 rfl ?_
  refine go_iadd dX10_ownIn_7 ?_
  refine sg_ialdN (i := 116 + t) dX10_ownIn_8 (mo_42 rfl) hS (by simp only [lit_nI, nI_add, pk_mul, Nat.add_assoc, Nat.zero_add, Nat.add_zero]) (by omega) ((mB5 H.2 ht).2.1) ?_
  refine go_ist3 dX10_ownIn_9 rfl ?_
  refine go_iconst (v := 1) dX10_ownIn_10 rfl ?_
  refine go_ist4 dX10_ownIn_11 rfl ?_
  skip
  refine go_loopR (lvf := fun k => [some (.ref 77), some (.int (nI t)), some (.int o), some (.int (tB T' t)), some (.int (nI (k + 1)))]) 100 (fun k g => (Fz SN h g ∧ ME g as ar C T (dnT C T' k)) ∧ ∀ j, j < k → ¬ tB (dnT C T' (j + 1)) t = -1) (fun k g hk hh ih => ?_) (fun g hh => ?_) 0 h (Nat.zero_le _) ⟨⟨Fz.rf, H⟩, fun _ q => absurd q (by omega)⟩
  · obtain ⟨⟨F, H2⟩, hh⟩ := hh
    have hS := H2.1.1.1
    refine go_iload dX10_ownIn_13 rfl ?_
    refine go_bipush (v := 100) dX10_ownIn_15 rfl ?_
    refine go_icmp_gt (tgt := 79) dX10_ownIn_17 (by decide) (fun c17 => absurd c17 (nI_nlt (a := 100) (by omega) (by decide))) (fun c17 => ?_)
    refine go_aloadn dX10_ownIn_20 rfl ?_
    refine go_bipush (v := 105) dX10_ownIn_21 rfl ?_
    refine sg_rV0 (M' := mX10_dayGoes) ([.int (nI 105)]) dX10_ownIn_23 lX10_343 vX10_dayGoes (mo_L rfl) (by decide) rfl hS (q_day W H2 (V.dn W) (by rw [tD_dn]; omega)) rfl (Nat.le_of_ble_eq_true rfl) (Nat.zero_le _) (Nat.zero_le _) (fun g' F' => ?_)
    have H3 : ME g' as ar C T (dnT C T' (k + 1)) := F'.2.1
    have hS := H3.1.1.1
    refine go_aloadn dX10_ownIn_26 rfl ?_
    refine sg_getR dX10_ownIn_27 fX10_66 rfl (mo_L rfl) hS (mo_r42 hS rfl) ?_
    refine go_bipush (v := 116) dX10_ownIn_30 rfl ?_
    refine go_iloadn dX10_ownIn_32 rfl ?_
    refine go_iadd dX10_ownIn_33 ?_
    refine sg_ialdN (i := 116 + t) dX10_ownIn_34 (mo_42 rfl) hS (by simp only [lit_nI, nI_add, pk_mul, Nat.add_assoc, Nat.zero_add, Nat.add_zero]) (by omega) ((mB5 H3.2 ht).2.1) ?_
    refine go_iconst (v := -1) dX10_ownIn_35 rfl ?_
    refine go_icmp_eq (tgt := 42) dX10_ownIn_36 (by decide) (fun c36 => ?_) (fun c36 => ?_)
    · refine go_aloadn dX10_ownIn_42 rfl ?_
      refine sg_getR dX10_ownIn_43 fX10_66 rfl (mo_L rfl) hS (mo_r42 hS rfl) ?_
      refine go_bipush (v := 106) dX10_ownIn_46 rfl ?_
      refine go_iloadn dX10_ownIn_48 rfl ?_
      refine go_iadd dX10_ownIn_49 ?_
      refine sg_ialdN (i := 106 + t) dX10_ownIn_50 (mo_42 rfl) hS (by simp only [lit_nI, nI_add, pk_mul, Nat.add_assoc, Nat.zero_add, Nat.add_zero]) (by omega) ((mB5 H3.2 ht).1) ?_
      refine go_iloadn dX10_ownIn_51 rfl ?_
      refine go_icmp_ne (tgt := 59) dX10_ownIn_52 (by decide) (fun c52 => ?_) (fun c52 => ?_)
      · refine go_iconst (v := 0) dX10_ownIn_59 rfl ?_
        refine go_iloadn dX10_ownIn_60 rfl ?_
        refine go_icmp_ne (tgt := 69) dX10_ownIn_61 (by decide) (fun c61 => ?_) (fun c61 => ?_)
        · refine go_ldcw dX10_ownIn_69 kX10_405 ?_
          refine go_ireturn dX10_ownIn_72 rfl rfl (Nat.zero_le _) (Nat.zero_le _) ?_
          exact ⟨by rw [eoT, if_neg hz, fs_some hk c36 hh]; simp only [c52, if_true, if_false]; first | (rw [if_pos c61, mS, if_neg (nI_m1 (by omega))]) | (rw [if_neg c61]; rfl), F.tr F'.1⟩
        · refine go_iload dX10_ownIn_64 rfl ?_
          refine go_goto (tgt := 72) dX10_ownIn_66 (by decide) ?_
          refine go_ireturn dX10_ownIn_72 rfl rfl (Nat.zero_le _) (Nat.zero_le _) ?_
          exact ⟨by rw [eoT, if_neg hz, fs_some hk c36 hh]; simp only [c52, if_true, if_false]; first | (rw [if_pos c61, mS, if_neg (nI_m1 (by omega))]) | (rw [if_neg c61]; rfl), F.tr F'.1⟩
      · refine go_iconst (v := 1) dX10_ownIn_55 rfl ?_
        refine go_goto (tgt := 60) dX10_ownIn_56 (by decide) ?_
        refine go_iloadn dX10_ownIn_60 rfl ?_
        refine go_icmp_ne (tgt := 69) dX10_ownIn_61 (by decide) (fun c61 => ?_) (fun c61 => ?_)
        · refine go_ldcw dX10_ownIn_69 kX10_405 ?_
          refine go_ireturn dX10_ownIn_72 rfl rfl (Nat.zero_le _) (Nat.zero_le _) ?_
          exact ⟨by rw [eoT, if_neg hz, fs_some hk c36 hh]; simp only [c52, if_true, if_false]; first | (rw [if_pos c61, mS, if_neg (nI_m1 (by omega))]) | (rw [if_neg c61]; rfl), F.tr F'.1⟩
        · refine go_iload dX10_ownIn_64 rfl ?_
          refine go_goto (tgt := 72) dX10_ownIn_66 (by decide) ?_
          refine go_ireturn dX10_ownIn_72 rfl rfl (Nat.zero_le _) (Nat.zero_le _) ?_
          exact ⟨by rw [eoT, if_neg hz, fs_some hk c36 hh]; simp only [c52, if_true, if_false]; first | (rw [if_pos c61, mS, if_neg (nI_m1 (by omega))]) | (rw [if_neg c61]; rfl), F.tr F'.1⟩
    · refine go_goto (tgt := 73) dX10_ownIn_39 (by decide) ?_
      refine go_iinc4 (c1 := 1) dX10_ownIn_73 rfl rfl ?_
      refine go_goto (tgt := 13) dX10_ownIn_76 (by decide) ?_
      exact go_cong (ih g' ⟨⟨F.tr F'.1, H3⟩, fun j hj => by by_cases e : j = k; (· subst e; exact c36); exact hh j (by omega)⟩) (by simp [nI_1]) rfl
  · refine go_iload dX10_ownIn_13 rfl ?_
    refine go_bipush (v := 100) dX10_ownIn_15 rfl ?_
    refine go_icmp_gt (tgt := 79) dX10_ownIn_17 (by decide) (fun c17 => ?_) (fun c17 => absurd (by decide) c17)
    refine go_ldcw dX10_ownIn_79 kX10_405 ?_
    refine go_ireturn dX10_ownIn_82 rfl rfl (Nat.zero_le _) (Nat.zero_le _) ?_
    exact ⟨by rw [eoT, if_neg hz, fs_none hh.2]; rfl, hh.1.1⟩
theorem q_orNone {l : Launch} {d : Nat} {h : Hp} {v : Int32} : Ex l (d + 1) mX10_orNone [.int v] h (some (.int (if v < 99999 then v else -1))) h := by
  refine run_lv [some (.int v)] (go := ?_)
  refine go_iloadn dX10_orNone_0 rfl ?_
  refine go_ldcw dX10_orNone_1 kX10_405 ?_
  refine go_icmp_lt (tgt := 11) dX10_orNone_4 (by decide) (fun c4 => ?_) (fun c4 => ?_)
  · refine go_iloadn dX10_orNone_11 rfl ?_
    refine go_ireturn dX10_orNone_12 rfl rfl (Nat.zero_le _) (Nat.zero_le _) ?_
    first | exact ⟨by rw [if_pos c4], rfl⟩ | exact ⟨by rw [if_neg c4], rfl⟩
  · refine go_iconst (v := -1) dX10_orNone_7 rfl ?_
    refine go_goto (tgt := 12) dX10_orNone_8 (by decide) ?_
    refine go_ireturn dX10_orNone_12 rfl rfl (Nat.zero_le _) (Nat.zero_le _) ?_
    first | exact ⟨by rw [if_pos c4], rfl⟩ | exact ⟨by rw [if_neg c4], rfl⟩
theorem or_mS {s : Int32} (h : oS s) : (if mS s < 99999 then mS s else -1) = s := by
  rcases h with rfl | ⟨k, h1, h2, rfl⟩
  · decide
  · rw [mS, if_neg (nI_m1 (by omega)), if_pos (show nI k < 99999 from nI_lt (b := 99999) (by omega) (by decide))]
theorem sn_mS {k s : Int32} (hk : oS k) (hs : oS s) : (mS k < mS s) ↔ (¬ k = -1 ∧ (s = -1 ∨ k < s)) := by
  rcases hk with rfl | ⟨a, a1, a2, rfl⟩
  · rcases hs with rfl | ⟨b, b1, b2, rfl⟩
    · decide
    · rw [mS, if_pos rfl, mS, if_neg (nI_m1 (by omega))]
      exact ⟨fun z => absurd z (nI_nlt (a := 99999) (by omega) (by decide)), fun z => absurd rfl z.1⟩
  · have n1 : ¬ nI a = -1 := nI_m1 (by omega)
    rw [mS, if_neg n1]
    rcases hs with rfl | ⟨b, b1, b2, rfl⟩
    · rw [mS, if_pos rfl]
      exact ⟨fun _ => ⟨n1, Or.inl rfl⟩, fun _ => nI_lt (b := 99999) (by omega) (by decide)⟩
    · have n2 : ¬ nI b = -1 := nI_m1 (by omega)
      rw [mS, if_neg n2]
      exact ⟨fun z => ⟨n1, Or.inr z⟩, fun z => z.2.resolve_left n2⟩
theorem m_when {l : Launch} {d as ar : Nat} {x w : Int32} {C : Cy} {T : Tn} {h : Hp} (W : WC C) (H : MB h as ar C T) (V : WT C T) (hD9 : tD T ≤ 9999) : Qm l (d + 8) mX10_when [.ref 77, .int x, .int w] h (vWhen C T x w) := by
  have hS := H.1.1
  have hN := W.1.1
  refine run_lv [some (.ref 77), some (.int x), some (.int w)] (go := ?_)
  unfold vWhen
  refine go_aloadn dX10_when_0 rfl ?_
  refine go_iconst (v := 0) dX10_when_1 rfl ?_
  refine sg_putI dX10_when_2 fX10_102 rfl rfl (mo_L rfl) hS ?_
  have hF : Fz SM h (uI h 77 0 0) := Fz.rf.uI sm0
  have H := H.sm W hF
  have h0 : hI (uI h 77 0 0) 77 0 = 0 := hI_uI_eq
  generalize uI h 77 0 0 = h1 at *
  have hS := H.1.1
  refine go_aloadn dX10_when_5 rfl ?_
  refine go_iloadn dX10_when_6 rfl ?_
  refine sg_mnd (M' := mX10_isThing) ([.int x]) dX10_when_7 lX10_377 vX10_isThing (mo_L rfl) (by decide) rfl hS (q_isThing H.1 h0).1 (q_isThing H.1 h0).2 rfl (Nat.le_of_ble_eq_true rfl) (fun k7 => ?_) (fun k7 => ?_)
  · refine go_if_eq (tgt := 22) dX10_when_10 (by decide) (fun _ => ?_) (fun c => absurd rfl c)
    refine go_iconst (v := 0) dX10_when_22 rfl ?_
    refine go_ireturn dX10_when_23 rfl rfl (Nat.zero_le _) (Nat.zero_le _) ?_
    exact ⟨⟨0, rfl, fun q => absurd q (by decide)⟩, hI_uI_eq, hF.uI sm0⟩
  refine go_if_eq (tgt := 22) dX10_when_10 (by decide) (fun c10 => absurd c10 (by decide)) (fun c10 => ?_)
  refine go_aloadn dX10_when_13 rfl ?_
  refine go_iloadn dX10_when_14 rfl ?_
  refine go_iconst (v := 1) dX10_when_15 rfl ?_
  refine sg_mnd (M' := mX10_isWhat) ([.int w, .int 1]) dX10_when_16 lX10_365 vX10_isWhat (mo_L rfl) (by decide) rfl hS (q_isWhat hS h0).1 (q_isWhat hS h0).2 rfl (Nat.le_of_ble_eq_true rfl) (fun k16 => ?_) (fun k16 => ?_)
  · refine go_if_ne (tgt := 24) dX10_when_19 (by decide) (fun c => absurd rfl c) (fun _ => ?_)
    refine go_iconst (v := 0) dX10_when_22 rfl ?_
    refine go_ireturn dX10_when_23 rfl rfl (Nat.zero_le _) (Nat.zero_le _) ?_
    exact ⟨⟨0, rfl, fun q => absurd q (by decide)⟩, hI_uI_eq, hF.uI sm0⟩
  refine go_if_ne (tgt := 24) dX10_when_19 (by decide) (fun c19 => ?_) (fun c19 => absurd c19 (by decide))
  skip
  obtain ⟨p, hp, rfl⟩ := ok_nI (by omega) k7
  rw [cl_nI (show p < 2 ^ 31 by omega)]
  by_cases z : tB T p = -1
  · have z' : tB (t0 T) p = -1 := z
    refine go_aloadn dX10_when_24 rfl ?_
    refine sg_getR dX10_when_25 fX10_66 rfl (mo_L rfl) hS (mo_r42 hS rfl) ?_
    refine go_bipush (v := 11) dX10_when_28 rfl ?_
    refine go_iloadn dX10_when_30 rfl ?_
    refine go_iadd dX10_when_31 ?_
    refine sg_ialdN (i := 11 + p) dX10_when_32 (mo_42 rfl) hS (by simp only [lit_nI, nI_add, pk_mul, Nat.add_assoc, Nat.zero_add, Nat.add_zero]) (by omega) ((mB0 H.2.1 hp).2.1) ?_
    refine go_iconst (v := -1) dX10_when_33 rfl ?_
    refine go_icmp_ne (tgt := 39) dX10_when_34 (by decide) (fun c34 => absurd z c34) (fun c34 => ?_)
    refine go_iconst (v := -1) dX10_when_37 rfl ?_
    refine go_ireturn dX10_when_38 rfl rfl (Nat.zero_le _) (Nat.zero_le _) ?_
    exact qn_ok (by rw [eoT, if_pos z']) h0 hF
  · refine go_aloadn dX10_when_24 rfl ?_
    refine sg_getR dX10_when_25 fX10_66 rfl (mo_L rfl) hS (mo_r42 hS rfl) ?_
    refine go_bipush (v := 11) dX10_when_28 rfl ?_
    refine go_iloadn dX10_when_30 rfl ?_
    refine go_iadd dX10_when_31 ?_
    refine sg_ialdN (i := 11 + p) dX10_when_32 (mo_42 rfl) hS (by simp only [lit_nI, nI_add, pk_mul, Nat.add_assoc, Nat.zero_add, Nat.add_zero]) (by omega) ((mB0 H.2.1 hp).2.1) ?_
    refine go_iconst (v := -1) dX10_when_33 rfl ?_
    refine go_icmp_ne (tgt := 39) dX10_when_34 (by decide) (fun c34 => ?_) (fun c34 => absurd c34 z)
    refine go_aloadn dX10_when_39 rfl ?_
    refine sg_rV0 (M' := mX10_tries) ([]) dX10_when_40 lX10_393 vX10_tries (mo_L rfl) (by decide) rfl hS (q_tries W H) rfl (Nat.le_of_ble_eq_true rfl) (Nat.zero_le _) (Nat.zero_le _) (fun g F => ?_)
    have hS := F.2.1.1.1
    refine go_aloadn dX10_when_43 rfl ?_
    refine go_iloadn dX10_when_44 rfl ?_
    refine go_iloadn dX10_when_45 rfl ?_
    refine go_if_ne (tgt := 53) dX10_when_46 (by decide) (fun c46 => ?_) (fun c46 => ?_)
    · refine go_iconst (v := 0) dX10_when_53 rfl ?_
      refine sg_rVi (M' := mX10_ownIn) ([.int (nI p), .int _]) dX10_when_54 lX10_406 vX10_ownIn (mo_L rfl) (by decide) rfl hS (q_ownIn W F.2 V.t0 (by show tD T + 100 < 2 ^ 30; omega) hp z) rfl (Nat.le_of_ble_eq_true rfl) (Nat.zero_le _) (Nat.zero_le _) (fun g2 F2 => ?_)
      have hS := F2.St hS
      refine sg_cSi (M' := mX10_orNone) ([.int _]) dX10_when_57 lX10_410 sX10_orNone hS (q_orNone) rfl (Nat.le_of_ble_eq_true rfl) (Nat.zero_le _) (Nat.zero_le _) ?_
      refine go_ireturn dX10_when_60 rfl rfl (Nat.zero_le _) (Nat.zero_le _) ?_
      first | exact qn_ok (by rw [or_mS eo_in, if_pos c46]) ((F.1.tr F2).t0.trans h0) (hF.tr (F.1.tr F2).sn) | exact qn_ok (by rw [or_mS eo_in, if_neg c46]) ((F.1.tr F2).t0.trans h0) (hF.tr (F.1.tr F2).sn)
    · refine go_iconst (v := 1) dX10_when_49 rfl ?_
      refine go_goto (tgt := 54) dX10_when_50 (by decide) ?_
      refine sg_rVi (M' := mX10_ownIn) ([.int (nI p), .int _]) dX10_when_54 lX10_406 vX10_ownIn (mo_L rfl) (by decide) rfl hS (q_ownIn W F.2 V.t0 (by show tD T + 100 < 2 ^ 30; omega) hp z) rfl (Nat.le_of_ble_eq_true rfl) (Nat.zero_le _) (Nat.zero_le _) (fun g2 F2 => ?_)
      have hS := F2.St hS
      refine sg_cSi (M' := mX10_orNone) ([.int _]) dX10_when_57 lX10_410 sX10_orNone hS (q_orNone) rfl (Nat.le_of_ble_eq_true rfl) (Nat.zero_le _) (Nat.zero_le _) ?_
      refine go_ireturn dX10_when_60 rfl rfl (Nat.zero_le _) (Nat.zero_le _) ?_
      first | exact qn_ok (by rw [or_mS eo_in, if_pos c46]) ((F.1.tr F2).t0.trans h0) (hF.tr (F.1.tr F2).sn) | exact qn_ok (by rw [or_mS eo_in, if_neg c46]) ((F.1.tr F2).t0.trans h0) (hF.tr (F.1.tr F2).sn)
theorem q_maySteal {l : Launch} {d as ar b t : Nat} {p : Int32} {C : Cy} {T : Tn} {h : Hp} (W : WC C) (H : MC h as ar C) (hT : MT h b C T) (hb : b ≤ 105) (ht : t < cN C) : Ex l (d + 1) mX10_maySteal [.ref 77, .int (nI b), .int p, .int (nI t)] h (some (.int (if tO T t = p ∨ tB T t = p then 0 else 1))) h := by
  have hS := H.1
  have hN := W.1.1
  obtain ⟨m1, m2, -⟩ := hT.2.1 t ht
  refine run_lv [some (.ref 77), some (.int (nI b)), some (.int p), some (.int (nI t))] (go := ?_)
  refine go_aloadn dX10_maySteal_0 rfl ?_
  refine sg_getR dX10_maySteal_1 fX10_66 rfl (mo_L rfl) hS (mo_r42 hS rfl) ?_
  refine go_iloadn dX10_maySteal_4 rfl ?_
  refine go_iconst (v := 1) dX10_maySteal_5 rfl ?_
  refine go_iadd dX10_maySteal_6 ?_
  refine go_iloadn dX10_maySteal_7 rfl ?_
  refine go_iadd dX10_maySteal_8 ?_
  refine sg_ialdN (i := b + (1 + t)) dX10_maySteal_9 (mo_42 rfl) hS (by simp only [lit_nI, nI_add, pk_mul, Nat.add_assoc, Nat.zero_add, Nat.add_zero]) (by omega) (m1) ?_
  refine go_iloadn dX10_maySteal_10 rfl ?_
  refine go_icmp_eq (tgt := 33) dX10_maySteal_11 (by decide) (fun c11 => ?_) (fun c11 => ?_)
  · refine go_iconst (v := 0) dX10_maySteal_33 rfl ?_
    refine go_ireturn dX10_maySteal_34 rfl rfl (Nat.zero_le _) (Nat.zero_le _) ?_
    first | exact ⟨by rw [if_pos (Or.inl c11)], rfl⟩ | exact ⟨by rw [if_pos (Or.inr c26)], rfl⟩ | exact ⟨by rw [if_neg (fun q => q.elim c11 c26)], rfl⟩
  · refine go_aloadn dX10_maySteal_14 rfl ?_
    refine sg_getR dX10_maySteal_15 fX10_66 rfl (mo_L rfl) hS (mo_r42 hS rfl) ?_
    refine go_iloadn dX10_maySteal_18 rfl ?_
    refine go_bipush (v := 11) dX10_maySteal_19 rfl ?_
    refine go_iadd dX10_maySteal_21 ?_
    refine go_iloadn dX10_maySteal_22 rfl ?_
    refine go_iadd dX10_maySteal_23 ?_
    refine sg_ialdN (i := b + (11 + t)) dX10_maySteal_24 (mo_42 rfl) hS (by simp only [lit_nI, nI_add, pk_mul, Nat.add_assoc, Nat.zero_add, Nat.add_zero]) (by omega) (m2) ?_
    refine go_iloadn dX10_maySteal_25 rfl ?_
    refine go_icmp_eq (tgt := 33) dX10_maySteal_26 (by decide) (fun c26 => ?_) (fun c26 => ?_)
    · refine go_iconst (v := 0) dX10_maySteal_33 rfl ?_
      refine go_ireturn dX10_maySteal_34 rfl rfl (Nat.zero_le _) (Nat.zero_le _) ?_
      first | exact ⟨by rw [if_pos (Or.inl c11)], rfl⟩ | exact ⟨by rw [if_pos (Or.inr c26)], rfl⟩ | exact ⟨by rw [if_neg (fun q => q.elim c11 c26)], rfl⟩
    · refine go_iconst (v := 1) dX10_maySteal_29 rfl ?_
      refine go_goto (tgt := 34) dX10_maySteal_30 (by decide) ?_
      refine go_ireturn dX10_maySteal_34 rfl rfl (Nat.zero_le _) (Nat.zero_le _) ?_
      first | exact ⟨by rw [if_pos (Or.inl c11)], rfl⟩ | exact ⟨by rw [if_pos (Or.inr c26)], rfl⟩ | exact ⟨by rw [if_neg (fun q => q.elim c11 c26)], rfl⟩
theorem q_steals {l : Launch} {d b t : Nat} {p : Int32} {h : Hp} (hS : St h) (hb : b ≤ 105) (ht : t < 10) : Ex l (d + 1) mX10_steals [.ref 77, .int (nI b), .int p, .int (nI t)] h none (uI (uI h 91 (b + (11 + t)) p) 91 (b + (21 + t)) 0) := by
  refine run_lv [some (.ref 77), some (.int (nI b)), some (.int p), some (.int (nI t))] (go := ?_)
  refine go_aloadn dX10_steals_0 rfl ?_
  refine sg_getR dX10_steals_1 fX10_66 rfl (mo_L rfl) hS (mo_r42 hS rfl) ?_
  refine go_iloadn dX10_steals_4 rfl ?_
  refine go_bipush (v := 11) dX10_steals_5 rfl ?_
  refine go_iadd dX10_steals_7 ?_
  refine go_iloadn dX10_steals_8 rfl ?_
  refine go_iadd dX10_steals_9 ?_
  refine go_iloadn dX10_steals_10 rfl ?_
  refine sg_iastN (i := b + (11 + t)) dX10_steals_11 (mo_42 rfl) hS (by simp only [lit_nI, nI_add, pk_mul, Nat.add_assoc, Nat.zero_add, Nat.add_zero]) (by omega) ?_
  refine go_aloadn dX10_steals_12 rfl ?_
  refine sg_getR dX10_steals_13 fX10_66 rfl (mo_L rfl) hS (mo_r42 hS rfl) ?_
  refine go_iloadn dX10_steals_16 rfl ?_
  refine go_bipush (v := 21) dX10_steals_17 rfl ?_
  refine go_iadd dX10_steals_19 ?_
  refine go_iloadn dX10_steals_20 rfl ?_
  refine go_iadd dX10_steals_21 ?_
  refine go_iconst (v := 0) dX10_steals_22 rfl ?_
  refine sg_iastN (i := b + (21 + t)) dX10_steals_23 (mo_42 rfl) hS (by simp only [lit_nI, nI_add, pk_mul, Nat.add_assoc, Nat.zero_add, Nat.add_zero]) (by omega) ?_
  refine go_return dX10_steals_24 rfl (Nat.zero_le _) (Nat.zero_le _) ?_
  exact ⟨rfl, rfl⟩
theorem mt_po {g : Hp} {b t : Nat} {x : Int32} {C : Cy} {T : Tn} (W : WC C) (ht : t < cN C) (H : MT g b C T) : MT (uI (uI g 91 (b + (11 + t)) x) 91 (b + (21 + t)) 0) b C (poT x t T) := mt_S W ht (mt_B W ht H)
theorem mt_W {g : Hp} {b k : Nat} {C : Cy} {T : Tn} {v : Int32} (W : WC C) (H : MT g b C T) : MT (uI g 91 (b + (57 + k)) v) b C (wkT k v T) := by
  obtain ⟨h1, h2, h3, h4⟩ := H
  have hN := W.1.1
  have hP := W.1.2.1
  refine ⟨?_, fun t ht => ?_, fun p hp => ?_, fun i hi => ?_⟩
  · rw [hI_uI_ne (by omega)]; exact h1
  · rw [hI_uI_ne (by omega), hI_uI_ne (by omega), hI_uI_ne (by omega), hI_uI_ne (by omega)]; exact h2 t ht
  · rw [hI_uI_ne (by omega), hI_uI_ne (by omega)]; exact h3 p hp
  · show _ = upd (tW T) k v i
    by_cases e : i = k
    · subst e; rw [hI_uI_eq, pk_us]
    · rw [hI_uI_ne (by omega), pk_un e]; exact h4 i hi
theorem bp_in {C : Cy} {T : Tn} {t n : Nat} : oS (bpT C T t n).2 := by
  induction n with
  | zero => exact Or.inl rfl
  | succ n ih =>
    show oS (snr _ _ (bpT C T t n)).2
    unfold snr
    split
    · exact eo_in
    · exact ih
theorem bt_in {C : Cy} {T : Tn} {p : Int32} {n : Nat} : oS (btT C T p n).2 := by
  induction n with
  | zero => exact Or.inl rfl
  | succ n ih =>
    show oS (if tO T n = p ∨ tB T n = p then btT C T p n else snr _ _ (btT C T p n)).2
    split
    · exact ih
    · unfold snr
      split
      · exact eo_in
      · exact ih
theorem WT.sa {C : Cy} {T : Tn} {p pl : Nat} (H : WT C T) (hpl : pl < cL C) : WT C (saT p (nI pl) T) := by
  obtain ⟨h1, h2, h3⟩ := H
  refine ⟨h1, h2, fun i hi => ?_⟩
  show ∃ w, w < cL C ∧ saF p (nI pl) (tW T) 6 i = nI w
  rw [saF_at]
  split
  · exact ⟨pl, hpl, rfl⟩
  · exact h3 i hi
theorem WT.po {C : Cy} {T : Tn} {t : Nat} {x : Int32} (H : WT C T) (hx : x = -1 ∨ ∃ w, w < cP C ∧ x = nI w) : WT C (poT x t T) := by
  obtain ⟨h1, h2, h3⟩ := H
  refine ⟨fun i hi => ?_, h2, h3⟩
  obtain ⟨a1, a2, a3, a4⟩ := h1 i hi
  show _ ∧ (upd (tB T) t x i = -1 ∨ ∃ w, w < cP C ∧ upd (tB T) t x i = nI w) ∧ (∃ s, s < 100 ∧ upd (tS T) t 0 i = nI s) ∧ _
  by_cases e : i = t
  · subst e; rw [pk_us, pk_us]; exact ⟨a1, hx, ⟨0, by omega, rfl⟩, a4⟩
  · rw [pk_un e, pk_un e]; exact ⟨a1, a2, a3, a4⟩
theorem m_toStand {l : Launch} {d as ar : Nat} {x w : Int32} {C : Cy} {T : Tn} {h : Hp} (W : WC C) (H : MB h as ar C T) (V : WT C T) (hD9 : tD T ≤ 9999) : Qm l (d + 8) mX10_toStand [.ref 77, .int x, .int w] h (vToStand C T x w) := by
  have hS := H.1.1
  have hN := W.1.1
  have hP := W.1.2.1
  have hL := W.1.2.2.2.1
  have hL1 := W.1.2.2.1
  refine run_lv [some (.ref 77), some (.int x), some (.int w), none, none, none, none] (go := ?_)
  unfold vToStand
  refine go_aloadn dX10_toStand_0 rfl ?_
  refine go_iconst (v := 0) dX10_toStand_1 rfl ?_
  refine sg_putI dX10_toStand_2 fX10_102 rfl rfl (mo_L rfl) hS ?_
  have hF : Fz SM h (uI h 77 0 0) := Fz.rf.uI sm0
  have H := H.sm W hF
  have h0 : hI (uI h 77 0 0) 77 0 = 0 := hI_uI_eq
  generalize uI h 77 0 0 = h1 at *
  have hS := H.1.1
  refine go_aloadn dX10_toStand_5 rfl ?_
  refine go_iloadn dX10_toStand_6 rfl ?_
  refine sg_mnd (M' := mX10_isThing) ([.int x]) dX10_toStand_7 lX10_377 vX10_isThing (mo_L rfl) (by decide) rfl hS (q_isThing H.1 h0).1 (q_isThing H.1 h0).2 rfl (Nat.le_of_ble_eq_true rfl) (fun k7 => ?_) (fun k7 => ?_)
  · refine go_if_eq (tgt := 22) dX10_toStand_10 (by decide) (fun _ => ?_) (fun c => absurd rfl c)
    refine go_iconst (v := 0) dX10_toStand_22 rfl ?_
    refine go_ireturn dX10_toStand_23 rfl rfl (Nat.zero_le _) (Nat.zero_le _) ?_
    exact ⟨⟨0, rfl, fun q => absurd q (by decide)⟩, hI_uI_eq, hF.uI sm0⟩
  refine go_if_eq (tgt := 22) dX10_toStand_10 (by decide) (fun c10 => absurd c10 (by decide)) (fun c10 => ?_)
  refine go_aloadn dX10_toStand_13 rfl ?_
  refine go_iloadn dX10_toStand_14 rfl ?_
  refine go_iconst (v := 1) dX10_toStand_15 rfl ?_
  refine sg_mnd (M' := mX10_isWhat) ([.int w, .int 1]) dX10_toStand_16 lX10_365 vX10_isWhat (mo_L rfl) (by decide) rfl hS (q_isWhat hS h0).1 (q_isWhat hS h0).2 rfl (Nat.le_of_ble_eq_true rfl) (fun k16 => ?_) (fun k16 => ?_)
  · refine go_if_ne (tgt := 24) dX10_toStand_19 (by decide) (fun c => absurd rfl c) (fun _ => ?_)
    refine go_iconst (v := 0) dX10_toStand_22 rfl ?_
    refine go_ireturn dX10_toStand_23 rfl rfl (Nat.zero_le _) (Nat.zero_le _) ?_
    exact ⟨⟨0, rfl, fun q => absurd q (by decide)⟩, hI_uI_eq, hF.uI sm0⟩
  refine go_if_ne (tgt := 24) dX10_toStand_19 (by decide) (fun c19 => ?_) (fun c19 => absurd c19 (by decide))
  refine go_iconst (v := -1) dX10_toStand_24 rfl ?_
  refine go_ist3 dX10_toStand_25 rfl ?_
  refine go_ldcw dX10_toStand_26 kX10_405 ?_
  refine go_ist4 dX10_toStand_29 rfl ?_
  refine go_iconst (v := 0) dX10_toStand_31 rfl ?_
  refine go_ist5 dX10_toStand_32 rfl ?_
  skip
  obtain ⟨t, ht, rfl⟩ := ok_nI (by omega) k7
  rw [cl_nI (show t < 2 ^ 31 by omega)]
  by_cases z : tB T t = -1
  · rw [if_pos z]
    refine go_iload dX10_toStand_34 rfl ?_
    refine go_aloadn dX10_toStand_36 rfl ?_
    refine sg_getI dX10_toStand_37 fX10_7 rfl (mo_L rfl) hS ?_
    rw [H.1.2.1.1]
    refine go_icmp_ge (tgt := 133) dX10_toStand_40 (by decide) (fun c40 => absurd c40 (nI_ge (a := 0) (by omega) (by omega))) (fun c40 => ?_)
    refine go_aloadn dX10_toStand_43 rfl ?_
    refine sg_getR dX10_toStand_44 fX10_66 rfl (mo_L rfl) hS (mo_r42 hS rfl) ?_
    refine go_bipush (v := 11) dX10_toStand_47 rfl ?_
    refine go_iloadn dX10_toStand_49 rfl ?_
    refine go_iadd dX10_toStand_50 ?_
    refine sg_ialdN (i := 11 + t) dX10_toStand_51 (mo_42 rfl) hS (by simp only [lit_nI, nI_add, pk_mul, Nat.add_assoc, Nat.zero_add, Nat.add_zero]) (by omega) ((mB0 H.2.1 ht).2.1) ?_
    refine go_iconst (v := -1) dX10_toStand_52 rfl ?_
    refine go_icmp_eq (tgt := 133) dX10_toStand_53 (by decide) (fun c53 => ?_) (fun c53 => absurd z c53)
    refine go_iloadn dX10_toStand_133 rfl ?_
    refine go_if_ne (tgt := 141) dX10_toStand_134 (by decide) (fun c134 => ?_) (fun c134 => ?_)
    · refine go_iload dX10_toStand_141 rfl ?_
      refine sg_cSi (M' := mX10_orNone) ([.int _]) dX10_toStand_143 lX10_410 sX10_orNone hS (q_orNone) rfl (Nat.le_of_ble_eq_true rfl) (Nat.zero_le _) (Nat.zero_le _) ?_
      refine go_ireturn dX10_toStand_146 rfl rfl (Nat.zero_le _) (Nat.zero_le _) ?_
      exact qn_ok (by first | rfl | decide) h0 hF
    · refine go_iloadn dX10_toStand_137 rfl ?_
      refine go_goto (tgt := 146) dX10_toStand_138 (by decide) ?_
      refine go_ireturn dX10_toStand_146 rfl rfl (Nat.zero_le _) (Nat.zero_le _) ?_
      exact qn_ok (by first | rfl | decide) h0 hF
  · rw [if_neg z]
    obtain ⟨y, hy, ey⟩ := (V.1 t ht).2.1.resolve_left z
    have ey' : (tB T t).toNatClampNeg = y := by rw [ey]; exact cl_nI (by omega)
    refine go_loopR (lvf := fun n => [some (.ref 77), some (.int (nI t)), some (.int w), some (.int (bpT C T t n).1), some (.int (mS (bpT C T t n).2)), some (.int (nI n)), none]) (cL C) (fun n g => Fz SN h1 g) (fun n g hn F ih => ?_) (fun g F => ?_) 0 h1 (Nat.zero_le _) Fz.rf
    · have H2 := H.sn W F
      have hS := H2.1.1
      have es : bpT C T t (n + 1) = snr (nI n) (eoT C (saT y (nI n) (t0 T)) t 1) (bpT C T t n) := by rw [← ey']; rfl
      have b2 := bp_in (C := C) (T := T) (t := t) (n := n)
      rw [es] at ih
      generalize bpT C T t n = s at *
      obtain ⟨s1, s2⟩ := s
      refine go_iload dX10_toStand_34 rfl ?_
      refine go_aloadn dX10_toStand_36 rfl ?_
      refine sg_getI dX10_toStand_37 fX10_7 rfl (mo_L rfl) hS ?_
      rw [H2.1.2.1.1]
      refine go_icmp_ge (tgt := 133) dX10_toStand_40 (by decide) (fun c40 => absurd c40 (nI_ge hn (by omega))) (fun c40 => ?_)
      refine go_aloadn dX10_toStand_43 rfl ?_
      refine sg_getR dX10_toStand_44 fX10_66 rfl (mo_L rfl) hS (mo_r42 hS rfl) ?_
      refine go_bipush (v := 11) dX10_toStand_47 rfl ?_
      refine go_iloadn dX10_toStand_49 rfl ?_
      refine go_iadd dX10_toStand_50 ?_
      refine sg_ialdN (i := 11 + t) dX10_toStand_51 (mo_42 rfl) hS (by simp only [lit_nI, nI_add, pk_mul, Nat.add_assoc, Nat.zero_add, Nat.add_zero]) (by omega) ((mB0 H2.2.1 ht).2.1) ?_
      refine go_iconst (v := -1) dX10_toStand_52 rfl ?_
      refine go_icmp_eq (tgt := 133) dX10_toStand_53 (by decide) (fun c53 => absurd c53 z) (fun c53 => ?_)
      refine go_aloadn dX10_toStand_56 rfl ?_
      refine sg_rV0 (M' := mX10_tries) ([]) dX10_toStand_57 lX10_393 vX10_tries (mo_L rfl) (by decide) rfl hS (q_tries W H2) rfl (Nat.le_of_ble_eq_true rfl) (Nat.zero_le _) (Nat.zero_le _) (fun g1 F1 => ?_)
      refine go_iconst (v := 0) dX10_toStand_60 rfl ?_
      refine go_ist6 dX10_toStand_61 rfl ?_
      skip
      refine go_loopR (lvf := fun k => [some (.ref 77), some (.int (nI t)), some (.int w), some (.int s1), some (.int (mS s2)), some (.int (nI n)), some (.int (nI k))]) 6 (fun k g => Fz SN h1 g ∧ MT g 105 C (tD T, 0, tO T, tB T, tS T, tX T, tH T, tV T, saF y (nI n) (tW T) k)) (fun k g2 hk hh ih2 => ?_) (fun g2 hh => ?_) 0 g1 (Nat.zero_le _) ⟨F.tr F1.1, F1.2.2⟩
      · obtain ⟨F2, T2⟩ := hh
        have H3 := H.sn W F2
        have hS := H3.1.1
        refine go_iload dX10_toStand_63 rfl ?_
        refine go_bipush (v := 6) dX10_toStand_65 rfl ?_
        refine go_icmp_ge (tgt := 102) dX10_toStand_67 (by decide) (fun c67 => absurd c67 (nI_ge (b := 6) hk (by decide))) (fun c67 => ?_)
        refine go_aloadn dX10_toStand_70 rfl ?_
        refine sg_getR dX10_toStand_71 fX10_66 rfl (mo_L rfl) hS (mo_r42 hS rfl) ?_
        refine go_sipush (v := 162) dX10_toStand_74 rfl ?_
        refine go_bipush (v := 6) dX10_toStand_77 rfl ?_
        refine go_aloadn dX10_toStand_79 rfl ?_
        refine sg_getR dX10_toStand_80 fX10_66 rfl (mo_L rfl) hS (mo_r42 hS rfl) ?_
        refine go_bipush (v := 11) dX10_toStand_83 rfl ?_
        refine go_iloadn dX10_toStand_85 rfl ?_
        refine go_iadd dX10_toStand_86 ?_
        refine sg_ialdN (i := 11 + t) (x := nI y) dX10_toStand_87 (mo_42 rfl) hS (by simp only [lit_nI, nI_add, pk_mul, Nat.add_assoc, Nat.zero_add, Nat.add_zero]) (by omega) (((mB0 H3.2.1 ht).2.1).trans ey) ?_
        refine go_imul dX10_toStand_88 ?_
        refine go_iadd dX10_toStand_89 ?_
        refine go_iload dX10_toStand_90 rfl ?_
        refine go_iadd dX10_toStand_92 ?_
        refine go_iload dX10_toStand_93 rfl ?_
        refine sg_iastN (i := 162 + (6 * y + k)) dX10_toStand_95 (mo_42 rfl) hS (by simp only [lit_nI, nI_add, pk_mul, Nat.add_assoc, Nat.zero_add, Nat.add_zero]) (by omega) ?_
        refine go_iinc6 (c1 := 1) dX10_toStand_96 rfl rfl ?_
        refine go_goto (tgt := 63) dX10_toStand_99 (by decide) ?_
        exact go_cong (ih2 _ ⟨F2.uI (by unfold SN; omega), by have := mt_W (k := 6 * y + k) (v := nI n) W T2; rw [show 105 + (57 + (6 * y + k)) = 162 + (6 * y + k) from by omega] at this; exact this⟩) (by simp [nI_1]) rfl
      · obtain ⟨F2, T2⟩ := hh
        have H3 := H.sn W F2
        have hS := H3.1.1
        have hq := q_ownIn (l := l) (d := d) (o := 1) W (T' := saT y (nI n) (t0 T)) ⟨H3, T2⟩ (V.t0.sa (by omega)) (by show tD T + 100 < 2 ^ 30; omega) ht z
        have sn := sn_mS (eo_in (C := C) (T := saT y (nI n) (t0 T)) (t := t) (o := 1)) b2
        refine go_iload dX10_toStand_63 rfl ?_
        refine go_bipush (v := 6) dX10_toStand_65 rfl ?_
        refine go_icmp_ge (tgt := 102) dX10_toStand_67 (by decide) (fun c67 => ?_) (fun c67 => absurd (by decide) c67)
        refine go_aloadn dX10_toStand_102 rfl ?_
        refine go_iloadn dX10_toStand_103 rfl ?_
        refine go_iconst (v := 1) dX10_toStand_104 rfl ?_
        refine sg_rVi (M' := mX10_ownIn) ([.int (nI t), .int 1]) dX10_toStand_105 lX10_406 vX10_ownIn (mo_L rfl) (by decide) rfl hS (hq) rfl (Nat.le_of_ble_eq_true rfl) (Nat.zero_le _) (Nat.zero_le _) (fun g3 F3 => ?_)
        refine go_ist6 dX10_toStand_108 rfl ?_
        refine go_iload dX10_toStand_110 rfl ?_
        refine go_iload dX10_toStand_112 rfl ?_
        refine go_icmp_lt (tgt := 120) dX10_toStand_114 (by decide) (fun c114 => ?_) (fun c114 => ?_)
        · refine go_iload dX10_toStand_120 rfl ?_
          refine go_ist3 dX10_toStand_122 rfl ?_
          refine go_iload dX10_toStand_123 rfl ?_
          refine go_ist4 dX10_toStand_125 rfl ?_
          refine go_iinc5 (c1 := 1) dX10_toStand_127 rfl rfl ?_
          refine go_goto (tgt := 34) dX10_toStand_130 (by decide) ?_
          first | exact go_back (ih g3 (F2.tr F3)) (by rw [snr, if_pos (sn.mp c114)]; simp [lsub, nI_1]) rfl | exact go_back (ih g3 (F2.tr F3)) (by rw [snr, if_neg (fun q => c114 (sn.mpr q))]; simp [lsub, nI_1]) rfl
        · refine go_goto (tgt := 127) dX10_toStand_117 (by decide) ?_
          refine go_iinc5 (c1 := 1) dX10_toStand_127 rfl rfl ?_
          refine go_goto (tgt := 34) dX10_toStand_130 (by decide) ?_
          first | exact go_back (ih g3 (F2.tr F3)) (by rw [snr, if_pos (sn.mp c114)]; simp [lsub, nI_1]) rfl | exact go_back (ih g3 (F2.tr F3)) (by rw [snr, if_neg (fun q => c114 (sn.mpr q))]; simp [lsub, nI_1]) rfl
    · have H2 := H.sn W F
      have hS := H2.1.1
      refine go_iload dX10_toStand_34 rfl ?_
      refine go_aloadn dX10_toStand_36 rfl ?_
      refine sg_getI dX10_toStand_37 fX10_7 rfl (mo_L rfl) hS ?_
      rw [H2.1.2.1.1]
      refine go_icmp_ge (tgt := 133) dX10_toStand_40 (by decide) (fun c40 => ?_) (fun c40 => absurd (nI_le (Nat.le_refl _) (by omega)) c40)
      refine go_iloadn dX10_toStand_133 rfl ?_
      refine go_if_ne (tgt := 141) dX10_toStand_134 (by decide) (fun c134 => ?_) (fun c134 => ?_)
      · refine go_iload dX10_toStand_141 rfl ?_
        refine sg_cSi (M' := mX10_orNone) ([.int _]) dX10_toStand_143 lX10_410 sX10_orNone hS (q_orNone) rfl (Nat.le_of_ble_eq_true rfl) (Nat.zero_le _) (Nat.zero_le _) ?_
        refine go_ireturn dX10_toStand_146 rfl rfl (Nat.zero_le _) (Nat.zero_le _) ?_
        first | exact qn_ok (by rw [if_pos c134]) (F.t0.trans h0) (hF.tr F.sn) | exact qn_ok (by rw [if_neg c134, or_mS bp_in]) (F.t0.trans h0) (hF.tr F.sn)
      · refine go_iloadn dX10_toStand_137 rfl ?_
        refine go_goto (tgt := 146) dX10_toStand_138 (by decide) ?_
        refine go_ireturn dX10_toStand_146 rfl rfl (Nat.zero_le _) (Nat.zero_le _) ?_
        first | exact qn_ok (by rw [if_pos c134]) (F.t0.trans h0) (hF.tr F.sn) | exact qn_ok (by rw [if_neg c134, or_mS bp_in]) (F.t0.trans h0) (hF.tr F.sn)
theorem m_toSteal {l : Launch} {d as ar : Nat} {x w : Int32} {C : Cy} {T : Tn} {h : Hp} (W : WC C) (H : MB h as ar C T) (V : WT C T) (hD9 : tD T ≤ 9999) : Qm l (d + 8) mX10_toSteal [.ref 77, .int x, .int w] h (vToSteal C T x w) := by
  have hS := H.1.1
  have hN := W.1.1
  have hP := W.1.2.1
  refine run_lv [some (.ref 77), some (.int x), some (.int w), none, none, none, none] (go := ?_)
  unfold vToSteal
  refine go_aloadn dX10_toSteal_0 rfl ?_
  refine go_iconst (v := 0) dX10_toSteal_1 rfl ?_
  refine sg_putI dX10_toSteal_2 fX10_102 rfl rfl (mo_L rfl) hS ?_
  have hF : Fz SM h (uI h 77 0 0) := Fz.rf.uI sm0
  have H := H.sm W hF
  have h0 : hI (uI h 77 0 0) 77 0 = 0 := hI_uI_eq
  generalize uI h 77 0 0 = h1 at *
  have hS := H.1.1
  refine go_aloadn dX10_toSteal_5 rfl ?_
  refine go_iloadn dX10_toSteal_6 rfl ?_
  refine sg_mnd (M' := mX10_isPerson) ([.int x]) dX10_toSteal_7 lX10_362 vX10_isPerson (mo_L rfl) (by decide) rfl hS (q_isPerson H.1 h0).1 (q_isPerson H.1 h0).2 rfl (Nat.le_of_ble_eq_true rfl) (fun k7 => ?_) (fun k7 => ?_)
  · refine go_if_eq (tgt := 22) dX10_toSteal_10 (by decide) (fun _ => ?_) (fun c => absurd rfl c)
    refine go_iconst (v := 0) dX10_toSteal_22 rfl ?_
    refine go_ireturn dX10_toSteal_23 rfl rfl (Nat.zero_le _) (Nat.zero_le _) ?_
    exact ⟨⟨0, rfl, fun q => absurd q (by decide)⟩, hI_uI_eq, hF.uI sm0⟩
  refine go_if_eq (tgt := 22) dX10_toSteal_10 (by decide) (fun c10 => absurd c10 (by decide)) (fun c10 => ?_)
  refine go_aloadn dX10_toSteal_13 rfl ?_
  refine go_iloadn dX10_toSteal_14 rfl ?_
  refine go_iconst (v := 1) dX10_toSteal_15 rfl ?_
  refine sg_mnd (M' := mX10_isWhat) ([.int w, .int 1]) dX10_toSteal_16 lX10_365 vX10_isWhat (mo_L rfl) (by decide) rfl hS (q_isWhat hS h0).1 (q_isWhat hS h0).2 rfl (Nat.le_of_ble_eq_true rfl) (fun k16 => ?_) (fun k16 => ?_)
  · refine go_if_ne (tgt := 24) dX10_toSteal_19 (by decide) (fun c => absurd rfl c) (fun _ => ?_)
    refine go_iconst (v := 0) dX10_toSteal_22 rfl ?_
    refine go_ireturn dX10_toSteal_23 rfl rfl (Nat.zero_le _) (Nat.zero_le _) ?_
    exact ⟨⟨0, rfl, fun q => absurd q (by decide)⟩, hI_uI_eq, hF.uI sm0⟩
  refine go_if_ne (tgt := 24) dX10_toSteal_19 (by decide) (fun c19 => ?_) (fun c19 => absurd c19 (by decide))
  refine go_iconst (v := -1) dX10_toSteal_24 rfl ?_
  refine go_ist3 dX10_toSteal_25 rfl ?_
  refine go_ldcw dX10_toSteal_26 kX10_405 ?_
  refine go_ist4 dX10_toSteal_29 rfl ?_
  refine go_iconst (v := 0) dX10_toSteal_31 rfl ?_
  refine go_ist5 dX10_toSteal_32 rfl ?_
  skip
  obtain ⟨p, hp, rfl⟩ := ok_nI (by omega) k7
  refine go_loopR (lvf := fun n => [some (.ref 77), some (.int (nI p)), some (.int w), some (.int (btT C T (nI p) n).1), some (.int (mS (btT C T (nI p) n).2)), some (.int (nI n)), none]) (cN C) (fun n g => Fz SN h1 g) (fun t g ht F ih => ?_) (fun g F => ?_) 0 h1 (Nat.zero_le _) Fz.rf
  · have H2 := H.sn W F
    have hS := H2.1.1
    have es : btT C T (nI p) (t + 1) = if tO T t = nI p ∨ tB T t = nI p then btT C T (nI p) t else snr (nI t) (eoT C (poT (nI p) t (t0 T)) t 1) (btT C T (nI p) t) := rfl
    have b2 := bt_in (C := C) (T := T) (p := nI p) (n := t)
    rw [es] at ih
    generalize btT C T (nI p) t = s at *
    obtain ⟨s1, s2⟩ := s
    have hms := q_maySteal (l := l) (d := d + 6) (p := nI p) W H2.1 H2.2.1 (by omega) ht
    by_cases z : tO T t = nI p ∨ tB T t = nI p
    · rw [if_pos z] at ih hms
      refine go_iload dX10_toSteal_34 rfl ?_
      refine go_aloadn dX10_toSteal_36 rfl ?_
      refine sg_getI dX10_toSteal_37 fX10_276 rfl (mo_L rfl) hS ?_
      rw [H2.1.2.1.2.2.1]
      refine go_icmp_ge (tgt := 102) dX10_toSteal_40 (by decide) (fun c40 => absurd c40 (nI_ge ht (by omega))) (fun c40 => ?_)
      refine go_aloadn dX10_toSteal_43 rfl ?_
      refine go_iconst (v := 0) dX10_toSteal_44 rfl ?_
      refine go_iloadn dX10_toSteal_45 rfl ?_
      refine go_iload dX10_toSteal_46 rfl ?_
      refine sg_cVi (M' := mX10_maySteal) ([.int (nI 0), .int (nI p), .int (nI t)]) dX10_toSteal_48 lX10_386 vX10_maySteal (mo_L rfl) (by decide) rfl hS (hms) rfl (Nat.le_of_ble_eq_true rfl) (Nat.zero_le _) (Nat.zero_le _) ?_
      refine go_if_ne (tgt := 57) dX10_toSteal_51 (by decide) (fun c51 => absurd rfl c51) (fun c51 => ?_)
      refine go_goto (tgt := 96) dX10_toSteal_54 (by decide) ?_
      refine go_iinc5 (c1 := 1) dX10_toSteal_96 rfl rfl ?_
      refine go_goto (tgt := 34) dX10_toSteal_99 (by decide) ?_
      exact go_back (ih g F) (by simp [lsub, nI_1]) rfl
    · rw [if_neg z] at ih hms
      have zb : ¬ tB (poT (nI p) t (t0 T)) t = -1 := by show ¬ upd (tB T) t (nI p) t = -1; rw [pk_us]; exact nI_m1 (by omega)
      have sn := sn_mS (eo_in (C := C) (T := poT (nI p) t (t0 T)) (t := t) (o := 1)) b2
      refine go_iload dX10_toSteal_34 rfl ?_
      refine go_aloadn dX10_toSteal_36 rfl ?_
      refine sg_getI dX10_toSteal_37 fX10_276 rfl (mo_L rfl) hS ?_
      rw [H2.1.2.1.2.2.1]
      refine go_icmp_ge (tgt := 102) dX10_toSteal_40 (by decide) (fun c40 => absurd c40 (nI_ge ht (by omega))) (fun c40 => ?_)
      refine go_aloadn dX10_toSteal_43 rfl ?_
      refine go_iconst (v := 0) dX10_toSteal_44 rfl ?_
      refine go_iloadn dX10_toSteal_45 rfl ?_
      refine go_iload dX10_toSteal_46 rfl ?_
      refine sg_cVi (M' := mX10_maySteal) ([.int (nI 0), .int (nI p), .int (nI t)]) dX10_toSteal_48 lX10_386 vX10_maySteal (mo_L rfl) (by decide) rfl hS (hms) rfl (Nat.le_of_ble_eq_true rfl) (Nat.zero_le _) (Nat.zero_le _) ?_
      refine go_if_ne (tgt := 57) dX10_toSteal_51 (by decide) (fun c51 => ?_) (fun c51 => absurd c51 (by decide))
      refine go_aloadn dX10_toSteal_57 rfl ?_
      refine sg_rV0 (M' := mX10_tries) ([]) dX10_toSteal_58 lX10_393 vX10_tries (mo_L rfl) (by decide) rfl hS (q_tries W H2) rfl (Nat.le_of_ble_eq_true rfl) (Nat.zero_le _) (Nat.zero_le _) (fun g1 F1 => ?_)
      have hS := F1.2.1.1.1
      refine go_aloadn dX10_toSteal_61 rfl ?_
      refine go_bipush (v := 105) dX10_toSteal_62 rfl ?_
      refine go_iloadn dX10_toSteal_64 rfl ?_
      refine go_iload dX10_toSteal_65 rfl ?_
      refine sg_cV0 (M' := mX10_steals) ([.int (nI 105), .int (nI p), .int (nI t)]) dX10_toSteal_67 lX10_389 vX10_steals (mo_L rfl) (by decide) rfl hS (q_steals hS (by omega) (by omega)) rfl (Nat.le_of_ble_eq_true rfl) (Nat.zero_le _) (Nat.zero_le _) ?_
      have F2 : Fz SN h1 (uI (uI g1 91 (105 + (11 + t)) (nI p)) 91 (105 + (21 + t)) 0) := ((F.tr F1.1).uI (by unfold SN; omega)).uI (by unfold SN; omega)
      have T2 : MT (uI (uI g1 91 (105 + (11 + t)) (nI p)) 91 (105 + (21 + t)) 0) 105 C (poT (nI p) t (t0 T)) := mt_po W ht F1.2.2
      have hq := q_ownIn (l := l) (d := d) (o := 1) W ⟨H.sn W F2, T2⟩ (V.t0.po (Or.inr ⟨p, hp, rfl⟩)) (by show tD T + 100 < 2 ^ 30; omega) ht zb
      have hS := (H.sn W F2).1.1
      refine go_aloadn dX10_toSteal_70 rfl ?_
      refine go_iload dX10_toSteal_71 rfl ?_
      refine go_iconst (v := 1) dX10_toSteal_73 rfl ?_
      refine sg_rVi (M' := mX10_ownIn) ([.int (nI t), .int 1]) dX10_toSteal_74 lX10_406 vX10_ownIn (mo_L rfl) (by decide) rfl hS (hq) rfl (Nat.le_of_ble_eq_true rfl) (Nat.zero_le _) (Nat.zero_le _) (fun g3 F3 => ?_)
      refine go_ist6 dX10_toSteal_77 rfl ?_
      refine go_iload dX10_toSteal_79 rfl ?_
      refine go_iload dX10_toSteal_81 rfl ?_
      refine go_icmp_lt (tgt := 89) dX10_toSteal_83 (by decide) (fun c83 => ?_) (fun c83 => ?_)
      · refine go_iload dX10_toSteal_89 rfl ?_
        refine go_ist3 dX10_toSteal_91 rfl ?_
        refine go_iload dX10_toSteal_92 rfl ?_
        refine go_ist4 dX10_toSteal_94 rfl ?_
        refine go_iinc5 (c1 := 1) dX10_toSteal_96 rfl rfl ?_
        refine go_goto (tgt := 34) dX10_toSteal_99 (by decide) ?_
        first | exact go_back (ih g3 (F2.tr F3)) (by rw [snr, if_pos (sn.mp c83)]; simp [lsub, nI_1]) rfl | exact go_back (ih g3 (F2.tr F3)) (by rw [snr, if_neg (fun q => c83 (sn.mpr q))]; simp [lsub, nI_1]) rfl
      · refine go_goto (tgt := 96) dX10_toSteal_86 (by decide) ?_
        refine go_iinc5 (c1 := 1) dX10_toSteal_96 rfl rfl ?_
        refine go_goto (tgt := 34) dX10_toSteal_99 (by decide) ?_
        first | exact go_back (ih g3 (F2.tr F3)) (by rw [snr, if_pos (sn.mp c83)]; simp [lsub, nI_1]) rfl | exact go_back (ih g3 (F2.tr F3)) (by rw [snr, if_neg (fun q => c83 (sn.mpr q))]; simp [lsub, nI_1]) rfl
  · have H2 := H.sn W F
    have hS := H2.1.1
    refine go_iload dX10_toSteal_34 rfl ?_
    refine go_aloadn dX10_toSteal_36 rfl ?_
    refine sg_getI dX10_toSteal_37 fX10_276 rfl (mo_L rfl) hS ?_
    rw [H2.1.2.1.2.2.1]
    refine go_icmp_ge (tgt := 102) dX10_toSteal_40 (by decide) (fun c40 => ?_) (fun c40 => absurd (nI_le (Nat.le_refl _) (by omega)) c40)
    refine go_iloadn dX10_toSteal_102 rfl ?_
    refine go_if_ne (tgt := 110) dX10_toSteal_103 (by decide) (fun c103 => ?_) (fun c103 => ?_)
    · refine go_iload dX10_toSteal_110 rfl ?_
      refine sg_cSi (M' := mX10_orNone) ([.int _]) dX10_toSteal_112 lX10_410 sX10_orNone hS (q_orNone) rfl (Nat.le_of_ble_eq_true rfl) (Nat.zero_le _) (Nat.zero_le _) ?_
      refine go_ireturn dX10_toSteal_115 rfl rfl (Nat.zero_le _) (Nat.zero_le _) ?_
      first | exact qn_ok (by rw [if_pos c103]) (F.t0.trans h0) (hF.tr F.sn) | exact qn_ok (by rw [if_neg c103, or_mS bt_in]) (F.t0.trans h0) (hF.tr F.sn)
    · refine go_iloadn dX10_toSteal_106 rfl ?_
      refine go_goto (tgt := 115) dX10_toSteal_107 (by decide) ?_
      refine go_ireturn dX10_toSteal_115 rfl rfl (Nat.zero_le _) (Nat.zero_le _) ?_
      first | exact qn_ok (by rw [if_pos c103]) (F.t0.trans h0) (hF.tr F.sn) | exact qn_ok (by rw [if_neg c103, or_mS bt_in]) (F.t0.trans h0) (hF.tr F.sn)
