/-! the model: fog, the game -/
theorem and1 (x : Int32) : x &&& 1 = 0 ∨ x &&& 1 = 1 := by
  obtain ⟨j, hj, e⟩ := pk_andE x (m := 1) 1 (by decide)
  have : j = 0 ∨ j = 1 := by omega
  rcases this with rfl | rfl
  · exact Or.inl e
  · exact Or.inr e
theorem nd_and {A B : Prop} [Decidable A] [Decidable B] {k : Nat} {o : An} : nd A k (nd B k o) = nd (A ∧ B) k o := by
  unfold nd
  by_cases a : A
  · rw [if_pos a]
    by_cases b : B
    · rw [if_pos b, if_pos ⟨a, b⟩]
    · rw [if_neg b, if_neg (fun q => b q.2)]
  · rw [if_neg a, if_neg (fun q => a q.1)]
/-- scratch, and whether there is fog -/
def SF (a k : Nat) : Prop := SN a k ∨ (a = 77 ∧ k = 47)
theorem Fz.sf {h g : Hp} (F : Fz SN h g) : Fz SF h g := F.sub (fun _ _ => Or.inl)
theorem fz_fs {h g : Hp} (F : Fz SF h g) (h0 : hI h 77 47 = 0) : Fz SN h (uI g 77 47 0) := by
  refine ⟨F.1, F.2.1, F.2.2.1, fun a k q => ?_⟩
  by_cases z : a = 77 ∧ k = 47
  · rw [z.1, z.2, hI_uI_eq, h0]
  · rw [hI_uI_ne (by omega)]
    exact F.2.2.2 a k (fun y => y.elim q z)
theorem Fz.ft {h g : Hp} (F : Fz SF h g) : hI g 77 0 = hI h 77 0 := F.I (by unfold SF SN; omega)
def MF (h : Hp) (as ar : Nat) (C : Cy) (T : Tn) : Prop := MC h as ar C ∧ MT h 0 C T
theorem MF.fz {h g : Hp} {as ar : Nat} {C : Cy} {T : Tn} (W : WC C) (H : MF h as ar C T) (F : Fz SF h g) : MF g as ar C T := ⟨H.1.fz F (fun a k q => by unfold SF SN at q; omega), H.2.fz W F (fun k _ h2 q => by unfold SF SN at q; omega)⟩
theorem mt_fo {h : Hp} {b : Nat} {C : Cy} {T : Tn} {v : Int32} (W : WC C) (H : MT h b C T) (hb : b ≤ 105) : MT (uI h 77 47 v) b C T := H.fz (S := fun a k => a = 77 ∧ k = 47) W (Fz.rf.uI ⟨rfl, rfl⟩) (fun k _ _ => by omega)
theorem q_triesF {l : Launch} {d as ar : Nat} {C : Cy} {T : Tn} {h : Hp} (W : WC C) (H : MF h as ar C T) : Ey l (d + 1) mX10_tries [.ref 77] h none (fun g => Fz SF h g ∧ MT g 105 C (t0 T)) := by
  have hN := W.1.1
  have hP := W.1.2.1
  refine run_lv [some (.ref 77), none] (go := ?_)
  refine go_iconst (v := 0) dX10_tries_0 rfl ?_
  refine go_ist1 dX10_tries_1 rfl ?_
  refine go_loopR (lvf := fun k => [some (.ref 77), some (.int (nI k))]) 105 (fun k g => Fz SF h g ∧ ∀ j, j < k → hI g 91 (105 + j) = hI h 91 j) (fun k g hk hh ih => ?_) (fun g hh => ?_) 0 h (Nat.zero_le _) ⟨Fz.rf, fun _ q => absurd q (by omega)⟩
  · obtain ⟨F, e⟩ := hh
    have hS := F.St H.1.1
    refine go_iloadn dX10_tries_2 rfl ?_
    refine go_bipush (v := 105) dX10_tries_3 rfl ?_
    refine go_icmp_ge (tgt := 29) dX10_tries_5 (by decide) (fun c5 => absurd c5 (nI_ge (b := 105) hk (by decide))) (fun c5 => ?_)
    refine go_aloadn dX10_tries_8 rfl ?_
    refine sg_getR dX10_tries_9 fX10_66 rfl (mo_L rfl) hS (mo_r42 hS rfl) ?_
    refine go_bipush (v := 105) dX10_tries_12 rfl ?_
    refine go_iloadn dX10_tries_14 rfl ?_
    refine go_iadd dX10_tries_15 ?_
    refine go_aloadn dX10_tries_16 rfl ?_
    refine sg_getR dX10_tries_17 fX10_66 rfl (mo_L rfl) hS (mo_r42 hS rfl) ?_
    refine go_iloadn dX10_tries_20 rfl ?_
    refine sg_ialdN (i := k) (x := hI h 91 k) dX10_tries_21 (mo_42 rfl) hS (by simp only [lit_nI, nI_add, pk_mul, Nat.add_assoc, Nat.zero_add, Nat.add_zero]) (by omega) ((F.I (by unfold SF SN; omega))) ?_
    refine sg_iastN (i := 105 + k) dX10_tries_22 (mo_42 rfl) hS (by simp only [lit_nI, nI_add, pk_mul, Nat.add_assoc, Nat.zero_add, Nat.add_zero]) (by omega) ?_
    refine go_iinc1 (c1 := 1) dX10_tries_23 rfl rfl ?_
    refine go_goto (tgt := 2) dX10_tries_26 (by decide) ?_
    exact go_cong (ih _ ⟨F.uI (by unfold SF SN; omega), fun j hj => by rw [hI_uI]; by_cases z : j = k; (· subst z; rw [if_pos ⟨rfl, rfl⟩]); (rw [if_neg (by omega)]; exact e j (by omega))⟩) (by simp [nI_1]) rfl
  · obtain ⟨F, e⟩ := hh
    have hS := F.St H.1.1
    obtain ⟨m1, m2, m3, m4⟩ := H.2
    refine go_iloadn dX10_tries_2 rfl ?_
    refine go_bipush (v := 105) dX10_tries_3 rfl ?_
    refine go_icmp_ge (tgt := 29) dX10_tries_5 (by decide) (fun c5 => ?_) (fun c5 => absurd (by decide) c5)
    refine go_return dX10_tries_29 rfl (Nat.zero_le _) (Nat.zero_le _) ?_
    exact ⟨rfl, F, (e 0 (by omega)).trans m1, fun t ht => by rw [e _ (by omega), e _ (by omega), e _ (by omega), e _ (by omega)]; have := m2 t ht; rw [Nat.zero_add, Nat.zero_add, Nat.zero_add, Nat.zero_add] at this; exact this, fun p hp => by rw [e _ (by omega), e _ (by omega)]; have := m3 p hp; rw [Nat.zero_add, Nat.zero_add] at this; exact this, fun i hi => by rw [e _ (by omega)]; have := m4 i hi; rw [Nat.zero_add] at this; exact this⟩
theorem q_dayF {l : Launch} {d as ar : Nat} {C : Cy} {T' : Tn} {h : Hp} (W : WC C) (H : MC h as ar C) (hT : MT h 105 C T') (V : WT C T') (hD : tD T' + 1 < 2 ^ 30) : Ey l (d + 6) mX10_dayGoes [.ref 77, .int (nI 105)] h none (fun g => Fz SN h g ∧ MT g 105 C (dayT C (hI h 77 47) T')) := by
  refine (q_dayGoes W H hT V (Nat.le_refl _) hD).mono (fun g q => ?_)
  obtain ⟨F, m, o⟩ := q
  refine ⟨F.sub (fun _ _ => sdn), ?_⟩
  rw [day_t0]; exact m
theorem WT.fi {C : Cy} {T : Tn} {ten : Int32} {y k : Nat} (W : WC C) (V : WT C T) : WT C (fiT C T ten y k).2 := by
  induction k with
  | zero => exact V.t0
  | succ k ih => exact WT.day W ih
theorem m_fog {l : Launch} {d as ar : Nat} {x n t : Int32} {C : Cy} {T : Tn} {h : Hp} (W : WC C) (H : MB h as ar C T) (V : WT C T) (hD9 : tD T ≤ 9999) : Qm l (d + 8) mX10_fog [.ref 77, .int x, .int n, .int t] h (vFog C T x n t) := by
  have hS := H.1.1
  have hN1 := W.1.1
  refine run_lv [some (.ref 77), some (.int x), some (.int n), some (.int t), none, none, none, none] (go := ?_)
  unfold vFog
  refine go_aloadn dX10_fog_0 rfl ?_
  refine go_iconst (v := 0) dX10_fog_1 rfl ?_
  refine sg_putI dX10_fog_2 fX10_102 rfl rfl (mo_L rfl) hS ?_
  have hF : Fz SM h (uI h 77 0 0) := Fz.rf.uI sm0
  have H := H.sm W hF
  have h0 : hI (uI h 77 0 0) 77 0 = 0 := hI_uI_eq
  generalize uI h 77 0 0 = h1 at *
  have hS := H.1.1
  refine go_aloadn dX10_fog_5 rfl ?_
  refine go_iloadn dX10_fog_6 rfl ?_
  refine sg_mnd (M' := mX10_isThing) ([.int x]) dX10_fog_7 lX10_377 vX10_isThing (mo_L rfl) (by decide) rfl hS (q_isThing H.1 h0).1 (q_isThing H.1 h0).2 rfl (Nat.le_of_ble_eq_true rfl) (fun k7 => ?_) (fun k7 => ?_)
  · refine go_if_eq (tgt := 45) dX10_fog_10 (by decide) (fun _ => ?_) (fun c => absurd rfl c)
    refine go_iconst (v := 0) dX10_fog_45 rfl ?_
    refine go_ireturn dX10_fog_46 rfl rfl (Nat.zero_le _) (Nat.zero_le _) ?_
    exact ⟨⟨0, rfl, fun q => absurd q (by decide)⟩, hI_uI_eq, hF.uI sm0⟩
  refine go_if_eq (tgt := 45) dX10_fog_10 (by decide) (fun c10 => absurd c10 (by decide)) (fun c10 => ?_)
  skip
  obtain ⟨p, hp, rfl⟩ := ok_nI (by omega) k7
  rw [cl_nI (show p < 2 ^ 31 by omega), nd_and]
  have e38 : ∀ u : Int32, u = (if (1 ≤ n ∧ n ≤ 5) ∧ (0 ≤ t ∧ t ≤ 10) then 1 else 0) → Go l (rmOf (d + 8) (0, 0)) mX10_fog (hN h) (Zm (0, 0) (Qn (nd ((1 ≤ n ∧ n ≤ 5) ∧ (0 ≤ t ∧ t ≤ 10)) 2 (0, fgT C T p n.toNatClampNeg t (2 ^ n.toNatClampNeg))) h) noX) 38 [some (.ref 77), some (.int (nI p)), some (.int n), some (.int t), none, none, none, none] [.int u, .ref 77] h1 0 0 := by
    intro u hu
    subst hu
    refine go_iconst (v := 2) dX10_fog_38 rfl ?_
    refine sg_mnd (M' := mX10_right) ([.int _, .int (nI 2)]) dX10_fog_39 lX10_266 vX10_right (mo_L rfl) (by decide) rfl hS (q_right hS h0 (by decide) (by decide)).1 (q_right hS h0 (by decide) (by decide)).2 rfl (Nat.le_of_ble_eq_true rfl) (fun k39 => ?_) (fun k39 => ?_)
    · refine go_if_ne (tgt := 47) dX10_fog_42 (by decide) (fun c => absurd rfl c) (fun _ => ?_)
      refine go_iconst (v := 0) dX10_fog_45 rfl ?_
      refine go_ireturn dX10_fog_46 rfl rfl (Nat.zero_le _) (Nat.zero_le _) ?_
      exact ⟨⟨0, rfl, fun q => absurd q (by decide)⟩, hI_uI_eq, hF.uI sm0⟩
    refine go_if_ne (tgt := 47) dX10_fog_42 (by decide) (fun c42 => ?_) (fun c42 => absurd c42 (by decide))
    refine go_iconst (v := 0) dX10_fog_47 rfl ?_
    refine go_ist4 dX10_fog_48 rfl ?_
    refine go_iconst (v := 0) dX10_fog_50 rfl ?_
    refine go_ist5 dX10_fog_51 rfl ?_
    skip
    obtain ⟨j, -, hj, rfl⟩ := rg_nI (a := 1) (b := 5) rfl rfl (by decide) (by decide) k39.1
    rw [cl_nI (show j < 2 ^ 31 by omega)]
    have s5 := sh5 ⟨j, by omega⟩
    dsimp only at s5
    have p5 : 2 ^ j ≤ 32 := Nat.pow_le_pow_right (n := 2) (by decide) hj
    have HF : MF h1 as ar C T := ⟨H.1, H.2.1⟩
    refine go_cong (go_loopR (lvf := fun y => [some (.ref 77), some (.int (nI p)), some (.int (nI j)), some (.int t), some (.int (fgT C T p j t y)), some (.int (nI y)), none, none]) (2 ^ j) (fun y g => Fz SF h1 g) (fun y g hy F ih => ?_) (fun g F => ?_) 0 h1 (Nat.zero_le _) Fz.rf) rfl rfl
    · have H2 := HF.fz W F
      have hS := H2.1.1
      refine go_iload dX10_fog_53 rfl ?_
      refine go_iconst (v := 1) dX10_fog_55 rfl ?_
      refine go_iloadn dX10_fog_56 rfl ?_
      refine go_ishl dX10_fog_57 ?_
      rw [s5]
      refine go_icmp_ge (tgt := 166) dX10_fog_58 (by decide) (fun c58 => absurd c58 (nI_ge hy (by omega))) (fun c58 => ?_)
      refine go_iconst (v := 1) dX10_fog_61 rfl ?_
      refine go_ist6 dX10_fog_62 rfl ?_
      refine go_aloadn dX10_fog_64 rfl ?_
      refine sg_rV0 (M' := mX10_tries) ([]) dX10_fog_65 lX10_393 vX10_tries (mo_L rfl) (by decide) rfl hS (q_triesF W H2) rfl (Nat.le_of_ble_eq_true rfl) (Nat.zero_le _) (Nat.zero_le _) (fun g1 F1 => ?_)
      refine go_iconst (v := 0) dX10_fog_68 rfl ?_
      refine go_ist7 dX10_fog_69 rfl ?_
      skip
      refine go_back (go_loopR (lvf := fun i => [some (.ref 77), some (.int (nI p)), some (.int (nI j)), some (.int t), some (.int (fgT C T p j t y)), some (.int (nI y)), some (.int (fiT C T t y i).1), some (.int (nI i))]) j (fun i g' => Fz SF h1 g' ∧ MT g' 105 C (fiT C T t y i).2) (fun i g' hi hh ih2 => ?_) (fun g' hh => ?_) 0 g1 (Nat.zero_le _) ⟨F.tr F1.1, F1.2⟩) (by simp [lsub, fiT, foF, nI]) rfl
      · obtain ⟨F2, H3⟩ := hh
        have H4 := HF.fz W F2
        have hS := H4.1.1
        have es : fiT C T t y (i + 1) = ((fiT C T t y i).1 * (if fgB y i = 0 then 10 - t else t), dayT C (fgB y i) (fiT C T t y i).2) := rfl
        rw [es] at ih2
        have Fo : ∀ v : Int32, Fz SF g' (uI g' 77 47 v) := fun v => Fz.rf.uI (Or.inr ⟨rfl, rfl⟩)
        rcases and1 (nI y >>> (nI i &&& 31)) with z | z
        · have ef : fgB y i = 0 := if_pos z
          rw [ef, if_pos rfl] at ih2
          refine go_iload dX10_fog_71 rfl ?_
          refine go_iloadn dX10_fog_73 rfl ?_
          refine go_icmp_ge (tgt := 129) dX10_fog_74 (by decide) (fun c74 => absurd c74 (nI_ge hi (by omega))) (fun c74 => ?_)
          refine go_aloadn dX10_fog_77 rfl ?_
          refine go_iload dX10_fog_78 rfl ?_
          refine go_iload dX10_fog_80 rfl ?_
          refine go_ishr dX10_fog_82 ?_
          refine go_iconst (v := 1) dX10_fog_83 rfl ?_
          refine go_iand dX10_fog_84 ?_
          refine go_iconst (v := 1) dX10_fog_85 rfl ?_
          rw [z]
          refine go_icmp_ne (tgt := 93) dX10_fog_86 (by decide) (fun c86 => ?_) (fun c86 => absurd c86 (by decide))
          refine go_iconst (v := 0) dX10_fog_93 rfl ?_
          refine sg_putZ dX10_fog_94 fX10_303 rfl rfl (mo_L rfl) hS (by decide) ?_
          skip
          have H5 := H4.fz W (Fo 0)
          have H6 := mt_fo (v := 0) W H3 (by decide)
          have hS := H5.1.1
          have e47 : hI (uI g' 77 47 0) 77 47 = 0 := hI_uI_eq
          refine go_cong (h' := uI g' 77 47 0) ?_ rfl rfl
          have F5 := F2.tr (Fo 0)
          generalize uI g' 77 47 0 = g2 at *
          refine go_iload dX10_fog_97 rfl ?_
          refine go_aloadn dX10_fog_99 rfl ?_
          refine sg_getI dX10_fog_100 fX10_303 rfl (mo_L rfl) hS ?_
          rw [e47]
          refine go_if_eq (tgt := 110) dX10_fog_103 (by decide) (fun c103 => ?_) (fun c103 => absurd rfl c103)
          refine go_bipush (v := 10) dX10_fog_110 rfl ?_
          refine go_iloadn dX10_fog_112 rfl ?_
          refine go_isub dX10_fog_113 ?_
          refine go_imul dX10_fog_114 ?_
          refine go_ist6 dX10_fog_115 rfl ?_
          refine go_aloadn dX10_fog_117 rfl ?_
          refine go_bipush (v := 105) dX10_fog_118 rfl ?_
          refine sg_rV0 (M' := mX10_dayGoes) ([.int (nI 105)]) dX10_fog_120 lX10_343 vX10_dayGoes (mo_L rfl) (by decide) rfl hS (q_dayF W H5.1 H6 (WT.fi W V) (by rw [tD_fi]; omega)) rfl (Nat.le_of_ble_eq_true rfl) (Nat.zero_le _) (Nat.zero_le _) (fun g3 F3 => ?_)
          refine go_iinc7 (c1 := 1) dX10_fog_123 rfl rfl ?_
          refine go_goto (tgt := 71) dX10_fog_126 (by decide) ?_
          exact go_back (ih2 g3 ⟨F5.tr F3.1.sf, by have := F3.2; rw [e47] at this; exact this⟩) (by simp [lsub, nI_1]) rfl
        · have ef : fgB y i = 1 := if_neg (by rw [z]; decide)
          rw [ef, if_neg (by decide)] at ih2
          refine go_iload dX10_fog_71 rfl ?_
          refine go_iloadn dX10_fog_73 rfl ?_
          refine go_icmp_ge (tgt := 129) dX10_fog_74 (by decide) (fun c74 => absurd c74 (nI_ge hi (by omega))) (fun c74 => ?_)
          refine go_aloadn dX10_fog_77 rfl ?_
          refine go_iload dX10_fog_78 rfl ?_
          refine go_iload dX10_fog_80 rfl ?_
          refine go_ishr dX10_fog_82 ?_
          refine go_iconst (v := 1) dX10_fog_83 rfl ?_
          refine go_iand dX10_fog_84 ?_
          refine go_iconst (v := 1) dX10_fog_85 rfl ?_
          rw [z]
          refine go_icmp_ne (tgt := 93) dX10_fog_86 (by decide) (fun c86 => absurd rfl c86) (fun c86 => ?_)
          refine go_iconst (v := 1) dX10_fog_89 rfl ?_
          refine go_goto (tgt := 94) dX10_fog_90 (by decide) ?_
          refine sg_putZ dX10_fog_94 fX10_303 rfl rfl (mo_L rfl) hS (by decide) ?_
          skip
          have H5 := H4.fz W (Fo 1)
          have H6 := mt_fo (v := 1) W H3 (by decide)
          have hS := H5.1.1
          have e47 : hI (uI g' 77 47 1) 77 47 = 1 := hI_uI_eq
          refine go_cong (h' := uI g' 77 47 1) ?_ rfl rfl
          have F5 := F2.tr (Fo 1)
          generalize uI g' 77 47 1 = g2 at *
          refine go_iload dX10_fog_97 rfl ?_
          refine go_aloadn dX10_fog_99 rfl ?_
          refine sg_getI dX10_fog_100 fX10_303 rfl (mo_L rfl) hS ?_
          rw [e47]
          refine go_if_eq (tgt := 110) dX10_fog_103 (by decide) (fun c103 => absurd c103 (by decide)) (fun c103 => ?_)
          refine go_iloadn dX10_fog_106 rfl ?_
          refine go_goto (tgt := 114) dX10_fog_107 (by decide) ?_
          refine go_imul dX10_fog_114 ?_
          refine go_ist6 dX10_fog_115 rfl ?_
          refine go_aloadn dX10_fog_117 rfl ?_
          refine go_bipush (v := 105) dX10_fog_118 rfl ?_
          refine sg_rV0 (M' := mX10_dayGoes) ([.int (nI 105)]) dX10_fog_120 lX10_343 vX10_dayGoes (mo_L rfl) (by decide) rfl hS (q_dayF W H5.1 H6 (WT.fi W V) (by rw [tD_fi]; omega)) rfl (Nat.le_of_ble_eq_true rfl) (Nat.zero_le _) (Nat.zero_le _) (fun g3 F3 => ?_)
          refine go_iinc7 (c1 := 1) dX10_fog_123 rfl rfl ?_
          refine go_goto (tgt := 71) dX10_fog_126 (by decide) ?_
          exact go_back (ih2 g3 ⟨F5.tr F3.1.sf, by have := F3.2; rw [e47] at this; exact this⟩) (by simp [lsub, nI_1]) rfl
      · obtain ⟨F2, H3⟩ := hh
        have H4 := HF.fz W F2
        have hS := H4.1.1
        have es : fgT C T p j t (y + 1) = if tO (fiT C T t y j).2 p = tO T p then fgT C T p j t y else fgT C T p j t y + (fiT C T t y j).1 := rfl
        refine go_iload dX10_fog_71 rfl ?_
        refine go_iloadn dX10_fog_73 rfl ?_
        refine go_icmp_ge (tgt := 129) dX10_fog_74 (by decide) (fun c74 => ?_) (fun c74 => absurd (nI_le (Nat.le_refl _) (by omega)) c74)
        refine go_iload dX10_fog_129 rfl ?_
        refine go_aloadn dX10_fog_131 rfl ?_
        refine sg_getR dX10_fog_132 fX10_66 rfl (mo_L rfl) hS (mo_r42 hS rfl) ?_
        refine go_bipush (v := 106) dX10_fog_135 rfl ?_
        refine go_iloadn dX10_fog_137 rfl ?_
        refine go_iadd dX10_fog_138 ?_
        refine sg_ialdN (i := 106 + p) dX10_fog_139 (mo_42 rfl) hS (by simp only [lit_nI, nI_add, pk_mul, Nat.add_assoc, Nat.zero_add, Nat.add_zero]) (by omega) ((mB5 H3 hp).1) ?_
        refine go_aloadn dX10_fog_140 rfl ?_
        refine sg_getR dX10_fog_141 fX10_66 rfl (mo_L rfl) hS (mo_r42 hS rfl) ?_
        refine go_iconst (v := 1) dX10_fog_144 rfl ?_
        refine go_iloadn dX10_fog_145 rfl ?_
        refine go_iadd dX10_fog_146 ?_
        refine sg_ialdN (i := 1 + p) dX10_fog_147 (mo_42 rfl) hS (by simp only [lit_nI, nI_add, pk_mul, Nat.add_assoc, Nat.zero_add, Nat.add_zero]) (by omega) ((mB0 H4.2 hp).1) ?_
        refine go_icmp_eq (tgt := 156) dX10_fog_148 (by decide) (fun c148 => ?_) (fun c148 => ?_)
        · refine go_iconst (v := 0) dX10_fog_156 rfl ?_
          refine go_iadd dX10_fog_157 ?_
          refine go_ist4 dX10_fog_158 rfl ?_
          refine go_iinc5 (c1 := 1) dX10_fog_160 rfl rfl ?_
          refine go_goto (tgt := 53) dX10_fog_163 (by decide) ?_
          first | exact go_back (ih g' F2) (by rw [es, if_pos c148]; simp [lsub, nI_1]) rfl | exact go_back (ih g' F2) (by rw [es, if_neg c148]; simp [lsub, nI_1]) rfl
        · refine go_iload dX10_fog_151 rfl ?_
          refine go_goto (tgt := 157) dX10_fog_153 (by decide) ?_
          refine go_iadd dX10_fog_157 ?_
          refine go_ist4 dX10_fog_158 rfl ?_
          refine go_iinc5 (c1 := 1) dX10_fog_160 rfl rfl ?_
          refine go_goto (tgt := 53) dX10_fog_163 (by decide) ?_
          first | exact go_back (ih g' F2) (by rw [es, if_pos c148]; simp [lsub, nI_1]) rfl | exact go_back (ih g' F2) (by rw [es, if_neg c148]; simp [lsub, nI_1]) rfl
    · have H2 := HF.fz W F
      have hS := H2.1.1
      have F2 := fz_fs F H.2.2
      refine go_iload dX10_fog_53 rfl ?_
      refine go_iconst (v := 1) dX10_fog_55 rfl ?_
      refine go_iloadn dX10_fog_56 rfl ?_
      refine go_ishl dX10_fog_57 ?_
      rw [s5]
      refine go_icmp_ge (tgt := 166) dX10_fog_58 (by decide) (fun c58 => ?_) (fun c58 => absurd (nI_le (Nat.le_refl _) (by omega)) c58)
      refine go_aloadn dX10_fog_166 rfl ?_
      refine go_iconst (v := 0) dX10_fog_167 rfl ?_
      refine sg_putZ dX10_fog_168 fX10_303 rfl rfl (mo_L rfl) hS (by decide) ?_
      refine go_iload dX10_fog_171 rfl ?_
      refine go_ireturn dX10_fog_173 rfl rfl (Nat.zero_le _) (Nat.zero_le _) ?_
      exact qn_ok rfl (F2.t0.trans h0) (hF.tr F2.sn)
  by_cases a : 1 ≤ n ∧ n ≤ 5
  · by_cases b : 0 ≤ t ∧ t ≤ 10
    · refine go_aloadn dX10_fog_13 rfl ?_
      refine go_iloadn dX10_fog_14 rfl ?_
      refine go_iconst (v := 1) dX10_fog_15 rfl ?_
      refine go_iconst (v := 5) dX10_fog_16 rfl ?_
      refine sg_cSi (M' := mX10_within) ([.int n, .int 1, .int 5]) dX10_fog_17 lX10_349 sX10_within hS (q_within) rfl (Nat.le_of_ble_eq_true rfl) (Nat.zero_le _) (Nat.zero_le _) ?_
      rw [if_pos a]
      refine go_if_eq (tgt := 37) dX10_fog_20 (by decide) (fun c20 => absurd c20 (by decide)) (fun c20 => ?_)
      refine go_iloadn dX10_fog_23 rfl ?_
      refine go_iconst (v := 0) dX10_fog_24 rfl ?_
      refine go_bipush (v := 10) dX10_fog_25 rfl ?_
      refine sg_cSi (M' := mX10_within) ([.int t, .int 0, .int 10]) dX10_fog_27 lX10_349 sX10_within hS (q_within) rfl (Nat.le_of_ble_eq_true rfl) (Nat.zero_le _) (Nat.zero_le _) ?_
      rw [if_pos b]
      refine go_if_eq (tgt := 37) dX10_fog_30 (by decide) (fun c30 => absurd c30 (by decide)) (fun c30 => ?_)
      refine go_iconst (v := 1) dX10_fog_33 rfl ?_
      refine go_goto (tgt := 38) dX10_fog_34 (by decide) ?_
      exact e38 1 (if_pos ⟨a, b⟩).symm
    · refine go_aloadn dX10_fog_13 rfl ?_
      refine go_iloadn dX10_fog_14 rfl ?_
      refine go_iconst (v := 1) dX10_fog_15 rfl ?_
      refine go_iconst (v := 5) dX10_fog_16 rfl ?_
      refine sg_cSi (M' := mX10_within) ([.int n, .int 1, .int 5]) dX10_fog_17 lX10_349 sX10_within hS (q_within) rfl (Nat.le_of_ble_eq_true rfl) (Nat.zero_le _) (Nat.zero_le _) ?_
      rw [if_pos a]
      refine go_if_eq (tgt := 37) dX10_fog_20 (by decide) (fun c20 => absurd c20 (by decide)) (fun c20 => ?_)
      refine go_iloadn dX10_fog_23 rfl ?_
      refine go_iconst (v := 0) dX10_fog_24 rfl ?_
      refine go_bipush (v := 10) dX10_fog_25 rfl ?_
      refine sg_cSi (M' := mX10_within) ([.int t, .int 0, .int 10]) dX10_fog_27 lX10_349 sX10_within hS (q_within) rfl (Nat.le_of_ble_eq_true rfl) (Nat.zero_le _) (Nat.zero_le _) ?_
      rw [if_neg b]
      refine go_if_eq (tgt := 37) dX10_fog_30 (by decide) (fun c30 => ?_) (fun c30 => absurd rfl c30)
      refine go_iconst (v := 0) dX10_fog_37 rfl ?_
      exact e38 0 (if_neg (fun q => b q.2)).symm
  · refine go_aloadn dX10_fog_13 rfl ?_
    refine go_iloadn dX10_fog_14 rfl ?_
    refine go_iconst (v := 1) dX10_fog_15 rfl ?_
    refine go_iconst (v := 5) dX10_fog_16 rfl ?_
    refine sg_cSi (M' := mX10_within) ([.int n, .int 1, .int 5]) dX10_fog_17 lX10_349 sX10_within hS (q_within) rfl (Nat.le_of_ble_eq_true rfl) (Nat.zero_le _) (Nat.zero_le _) ?_
    rw [if_neg a]
    refine go_if_eq (tgt := 37) dX10_fog_20 (by decide) (fun c20 => ?_) (fun c20 => absurd rfl c20)
    refine go_iconst (v := 0) dX10_fog_37 rfl ?_
    exact e38 0 (if_neg (fun q => a q.1)).symm
