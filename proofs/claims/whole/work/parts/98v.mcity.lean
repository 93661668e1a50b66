/-! the model's city -/
abbrev Qj (o : Sa) (h : Hp) : Option Value → Hp → Prop := fun v g => (∃ r, v = some (.int r) ∧ (o.1 = 0 → r = o.2.1)) ∧ hI g 77 0 = nI o.1 ∧ MV g o.2.2 ∧ Fj SA h g
/-- behind all lines -/
def ME' (h g : Hp) (b : Nat → Nat) (n : Nat) (Y : Ry) : Prop := Fj SLn h g ∧ ((yF Y).1 = 0 → RM g b n (yS Y) (0, 0) ∧ MY g Y) ∧ (¬ (yF Y).1 = 0 → ∃ s, RM g b n s (yF Y))
theorem q_ct117 {l : Launch} {d n : Nat} {x : Int32} {b : Nat → Nat} {h : Hp} {Z : ZT} {n0 : Nat} {x2 : Option Value} (hS0 : St h) : ∀ (k : Nat) (Y : Ry) (g : Hp), n + 1 - yS Y ≤ k → (yF Y).1 = 0 → YI n Y → RM g b n (yS Y) (0, 0) → MY g Y → Fj SLn h g → (∀ g2, ME' h g2 b n (yFin b n Y) → Go l (rmOf (d + 8) (0, 0)) mX10_city n0 Z 138 [some (.ref 77), some (.int x), x2] [] g2 0 0) → Go l (rmOf (d + 8) (0, 0)) mX10_city n0 Z 117 [some (.ref 77), some (.int x), x2] [] g 0 0 := by
  intro k
  induction k with
  | zero => intro Y g hk _ I; have := I.1.1.1; omega
  | succ k ih =>
    intro Y g hk f0 I R M F kk
    have hS := F.St hS0
    have gd : hI g 77 13 = 0 := R.good.mpr rfl
    have ig := fun d => q_isGood (l := l) (d := d) hS
    rw [if_pos gd] at ig
    have k5 := tkK_lt (b := b) (n := n) (s := yS Y)
    have e18 := R.2.1.2.1
    by_cases z : tkK b n (yS Y) = 0
    · rw [yfin_t (fun q => q.2 z)] at kk
      rw [z] at e18
      refine go_aloadn dX10_city_117 rfl ?_
      refine sg_cVi (M' := mX10_isGood) ([]) dX10_city_118 lX10_161 vX10_isGood (mo_L rfl) (by decide) rfl hS (ig _) rfl (Nat.le_of_ble_eq_true rfl) (Nat.zero_le _) (Nat.zero_le _) ?_
      refine go_if_eq (tgt := 138) dX10_city_121 (by decide) (fun c121 => absurd c121 (by decide)) (fun c121 => ?_)
      refine go_aloadn dX10_city_124 rfl ?_
      refine sg_getI dX10_city_125 fX10_135 rfl (mo_L rfl) hS ?_
      rw [e18]
      refine go_if_eq (tgt := 138) dX10_city_128 (by decide) (fun c128 => ?_) (fun c128 => absurd rfl c128)
      exact kk g ⟨F, fun _ => ⟨R, M⟩, fun q => absurd f0 q⟩
    · rw [← yfin_l f0 z] at kk
      have ln := fun d => q_line (l := l) (d := d) hS R M I f0
      have go117 : ∀ g2, LNm g g2 b n (yLine b n Y) → Go l (rmOf (d + 8) (0, 0)) mX10_city n0 Z 117 [some (.ref 77), some (.int x), x2] [] g2 0 0 := by
        intro g2 L
        obtain ⟨L1, L2, L3⟩ := L
        have F2 := F.tr L1
        by_cases y : (yF (yLine b n Y)).1 = 0
        · obtain ⟨I2, lt⟩ := yi_line I y
          exact ih (yLine b n Y) g2 (by omega) y I2 (L2 y).1 (L2 y).2 F2 kk
        · rw [yfin_t (fun q => y q.1)] at kk
          obtain ⟨s, R2⟩ := L3 y
          have hS := F2.St hS0
          have ig2 := fun d => q_isGood (l := l) (d := d) hS
          rw [if_neg (fun q => y (R2.good.mp q))] at ig2
          refine go_aloadn dX10_city_117 rfl ?_
          refine sg_cVi (M' := mX10_isGood) ([]) dX10_city_118 lX10_161 vX10_isGood (mo_L rfl) (by decide) rfl hS (ig2 _) rfl (Nat.le_of_ble_eq_true rfl) (Nat.zero_le _) (Nat.zero_le _) ?_
          refine go_if_eq (tgt := 138) dX10_city_121 (by decide) (fun c121 => ?_) (fun c121 => absurd rfl c121)
          exact kk g2 ⟨F2, fun q => absurd q y, fun _ => ⟨s, R2⟩⟩
      refine go_aloadn dX10_city_117 rfl ?_
      refine sg_cVi (M' := mX10_isGood) ([]) dX10_city_118 lX10_161 vX10_isGood (mo_L rfl) (by decide) rfl hS (ig _) rfl (Nat.le_of_ble_eq_true rfl) (Nat.zero_le _) (Nat.zero_le _) ?_
      refine go_if_eq (tgt := 138) dX10_city_121 (by decide) (fun c121 => absurd c121 (by decide)) (fun c121 => ?_)
      refine go_aloadn dX10_city_124 rfl ?_
      refine sg_getI dX10_city_125 fX10_135 rfl (mo_L rfl) hS ?_
      rw [e18]
      refine go_if_eq (tgt := 138) dX10_city_128 (by decide) (fun c128 => absurd c128 (nI_ne0 (by omega) (by omega))) (fun c128 => ?_)
      refine go_aloadn dX10_city_131 rfl ?_
      refine sg_rV0 (M' := mX10_line) ([]) dX10_city_132 lX10_270 vX10_line (mo_L rfl) (by decide) rfl hS (ln _) rfl (Nat.le_of_ble_eq_true rfl) (Nat.zero_le _) (Nat.zero_le _) (fun g2 L => ?_)
      refine go_goto (tgt := 117) dX10_city_135 (by decide) ?_
      exact go117 g2 L
/-- what `city` lays out first -/
def Sci (a k : Nat) : Prop := (a = 77 ∧ (k = 0 ∨ (12 ≤ k ∧ k ≤ 34))) ∨ a = 86
theorem q_ct32 {l : Launch} {d n : Nat} {b : Nat → Nat} {h : Hp} {Z : ZT} {n0 : Nat} (hS0 : St h) (hS : St h) (n7 : n ≤ 700) (hb : ∀ i, i < n → hI h 82 i = nI (b i) ∧ b i < 256) (h0 : hI h 77 0 = 0) (kk : ∀ g2, hI g2 77 0 = 0 → hI g2 77 12 = 0 → Fj (fun a k => Sci a k ∨ SLn a k) h g2 → ((yF (yFin b n (y00 (tkW b n 0)))).1 = 0 → RM g2 b n (yS (yFin b n (y00 (tkW b n 0)))) (0, 0) ∧ MY g2 (yFin b n (y00 (tkW b n 0)))) → (¬ (yF (yFin b n (y00 (tkW b n 0)))).1 = 0 → ∃ s, RM g2 b n s (yF (yFin b n (y00 (tkW b n 0))))) → Go l (rmOf (d + 8) (0, 0)) mX10_city n0 Z 138 [some (.ref 77), some (.int (nI n)), some (.int (nI 105))] [] g2 0 0) : Go l (rmOf (d + 8) (0, 0)) mX10_city n0 Z 32 [some (.ref 77), some (.int (nI n)), none] [] h 0 0 := by
  have F1 : Fz (fun a k => a = 77 ∧ ((12 ≤ k ∧ k ≤ 17) ∨ (24 ≤ k ∧ k ≤ 29))) h (uI (uI (uI (uI (uI (uI (uI (uI (uI (uI (uI h 77 12 0) 77 14 (-1)) 77 13 0) 77 16 (nI n)) 77 17 0) 77 24 (-1)) 77 25 0) 77 26 0) 77 27 (-1)) 77 28 (-1)) 77 29 (-1)) := ((((((((((Fz.rf.uI (by omega)).uI (by omega)).uI (by omega)).uI (by omega)).uI (by omega)).uI (by omega)).uI (by omega)).uI (by omega)).uI (by omega)).uI (by omega)).uI (by omega)
  have v : ∀ g, g = uI (uI (uI (uI (uI (uI (uI (uI (uI (uI (uI h 77 12 0) 77 14 (-1)) 77 13 0) 77 16 (nI n)) 77 17 0) 77 24 (-1)) 77 25 0) 77 26 0) 77 27 (-1)) 77 28 (-1)) 77 29 (-1) → hI g 77 12 = 0 ∧ hI g 77 14 = -1 ∧ hI g 77 13 = 0 ∧ hI g 77 16 = nI n ∧ hI g 77 17 = 0 ∧ hI g 77 24 = -1 ∧ hI g 77 25 = 0 ∧ hI g 77 26 = 0 ∧ hI g 77 27 = -1 ∧ hI g 77 28 = -1 ∧ hI g 77 29 = -1 := by
    intro g hg
    rw [hg]
    refine ⟨?_, ?_, ?_, ?_, ?_, ?_, ?_, ?_, ?_, ?_, ?_⟩
    all_goals repeat first | rw [hI_uI_ne (by omega)] | rw [hI_uI_eq]
  have v := v _ rfl
  refine go_aloadn dX10_city_32 rfl ?_
  refine go_iconst (v := 0) dX10_city_33 rfl ?_
  refine sg_putI dX10_city_34 fX10_105 rfl rfl (mo_L rfl) hS ?_
  refine go_aloadn dX10_city_37 rfl ?_
  refine go_iconst (v := -1) dX10_city_38 rfl ?_
  refine sg_putI dX10_city_39 fX10_39 rfl rfl (mo_L rfl) hS ?_
  refine go_aloadn dX10_city_42 rfl ?_
  refine go_iconst (v := 0) dX10_city_43 rfl ?_
  refine sg_putI dX10_city_44 fX10_158 rfl rfl (mo_L rfl) hS ?_
  refine go_aloadn dX10_city_47 rfl ?_
  refine go_iloadn dX10_city_48 rfl ?_
  refine sg_putI dX10_city_49 fX10_112 rfl rfl (mo_L rfl) hS ?_
  refine go_aloadn dX10_city_52 rfl ?_
  refine go_iconst (v := 0) dX10_city_53 rfl ?_
  refine sg_putI dX10_city_54 fX10_115 rfl rfl (mo_L rfl) hS ?_
  refine go_aloadn dX10_city_57 rfl ?_
  refine go_iconst (v := -1) dX10_city_58 rfl ?_
  refine sg_putI dX10_city_59 fX10_231 rfl rfl (mo_L rfl) hS ?_
  refine go_aloadn dX10_city_62 rfl ?_
  refine go_iconst (v := 0) dX10_city_63 rfl ?_
  refine sg_putI dX10_city_64 fX10_224 rfl rfl (mo_L rfl) hS ?_
  refine go_aloadn dX10_city_67 rfl ?_
  refine go_iconst (v := 0) dX10_city_68 rfl ?_
  refine sg_putI dX10_city_69 fX10_237 rfl rfl (mo_L rfl) hS ?_
  refine go_aloadn dX10_city_72 rfl ?_
  refine go_iconst (v := -1) dX10_city_73 rfl ?_
  refine sg_putI dX10_city_74 fX10_250 rfl rfl (mo_L rfl) hS ?_
  refine go_aloadn dX10_city_77 rfl ?_
  refine go_iconst (v := -1) dX10_city_78 rfl ?_
  refine sg_putI dX10_city_79 fX10_253 rfl rfl (mo_L rfl) hS ?_
  refine go_aloadn dX10_city_82 rfl ?_
  refine go_iconst (v := -1) dX10_city_83 rfl ?_
  refine sg_putI dX10_city_84 fX10_260 rfl rfl (mo_L rfl) hS ?_
  refine go_iconst (v := 0) dX10_city_87 rfl ?_
  refine go_ist2 dX10_city_88 rfl ?_
  skip
  generalize uI (uI (uI (uI (uI (uI (uI (uI (uI (uI (uI h 77 12 0) 77 14 (-1)) 77 13 0) 77 16 (nI n)) 77 17 0) 77 24 (-1)) 77 25 0) 77 26 0) 77 27 (-1)) 77 28 (-1)) 77 29 (-1) = h1 at *
  obtain ⟨v12, v14, v13, v16, v17, v24, v25, v26, v27, v28, v29⟩ := v
  have S1 := F1.St hS
  refine go_cong (go_loopR (lvf := fun k => [some (.ref 77), some (.int (nI n)), some (.int (nI k))]) 105 (fun k g => Fz (fun a _ => a = 86) h1 g ∧ ∀ j, j < k → hI g 86 j = 0) (fun k g hk hh ih => ?_) (fun g hh => ?_) 0 h1 (Nat.zero_le _) ⟨Fz.rf, fun j hj => absurd hj (Nat.not_lt_zero _)⟩) rfl rfl
  · obtain ⟨F2, e⟩ := hh
    have hS := F2.St S1
    refine go_iloadn dX10_city_89 rfl ?_
    refine go_bipush (v := 105) dX10_city_90 rfl ?_
    refine go_icmp_ge (tgt := 108) dX10_city_92 (by decide) (fun c92 => absurd c92 (nI_ge (b := 105) hk (by decide))) (fun c92 => ?_)
    refine go_aloadn dX10_city_95 rfl ?_
    refine sg_getR dX10_city_96 fX10_51 rfl (mo_L rfl) hS (mo_r37 hS rfl) ?_
    refine go_iloadn dX10_city_99 rfl ?_
    refine go_iconst (v := 0) dX10_city_100 rfl ?_
    refine sg_iastN (i := k) dX10_city_101 (mo_37 rfl) hS (by simp only [lit_nI, nI_add, pk_mul, Nat.add_assoc, Nat.zero_add, Nat.add_zero]) (by omega) ?_
    refine go_iinc2 (c1 := 1) dX10_city_102 rfl rfl ?_
    rw [nI_1]
    refine go_goto (tgt := 89) dX10_city_105 (by decide) ?_
    exact go_cong (ih _ ⟨F2.uI rfl, fun j hj => by by_cases q : j = k; rw [q, hI_uI_eq]; rw [hI_uI_ne (by omega)]; exact e j (by omega)⟩) rfl rfl
  · obtain ⟨F2, e⟩ := hh
    have hS := F2.St S1
    have F3 : Fz (fun a k => a = 77 ∧ k = 30) g (uI g 77 30 0) := Fz.rf.uI ⟨rfl, rfl⟩
    have w30 : hI (uI g 77 30 0) 77 30 = 0 := hI_uI_eq
    have fin : ∀ g3, g3 = uI g 77 30 0 → Go l (rmOf (d + 8) (0, 0)) mX10_city n0 Z 113 [some (.ref 77), some (.int (nI n)), some (.int (nI 105))] [] g3 0 0 := by
      intro g3 hg
      rw [← hg] at F3 w30
      have S3 := F3.St hS
      have T3 : TM g3 b n := ⟨by rw [F3.I (by omega), F2.I (by omega)]; exact v16, n7, fun i hi => ⟨by rw [F3.I (by omega), F2.I (by omega), F1.I (by omega)]; exact (hb i hi).1, (hb i hi).2⟩⟩
      have go := fun d => q_goes (l := l) (d := d) (i := 0) S3 T3 (by rw [F3.I (by omega), F2.I (by omega), v17]; rfl) (Nat.zero_le _)
      have sn : tkW b n 0 ≤ n := (spn_ok (p := fun j => isW (b j)) (n := n) (i := 0)).2.2.2 (Nat.zero_le _)
      have go117 : ∀ g4, (Fj SGo g3 g4 ∧ TKm g4 b n (tkW b n 0) (tkE b n (tkW b n 0))) → Go l (rmOf (d + 8) (0, 0)) mX10_city n0 Z 117 [some (.ref 77), some (.int (nI n)), some (.int (nI 105))] [] g4 0 0 := by
        intro g4 G
        have e4 : ∀ a k, ¬ SGo a k → hI g4 a k = hI g3 a k := fun a k q => G.1.I q
        have R4 : RM g4 b n (tkW b n 0) (0, 0) := ⟨T3.go G.1, G.2, sn, by rw [e4 _ _ (by unfold SGo; omega), F3.I (by omega), F2.I (by omega), v13]; rfl, Nat.zero_le _, by rw [e4 _ _ (by unfold SGo; omega), F3.I (by omega), F2.I (by omega), v14]; rfl⟩
        have ez : ∀ j, j < 105 → hI g4 86 j = 0 := fun j hj => by rw [e4 _ _ (by unfold SGo; omega), F3.I (by omega)]; exact e j hj
        have M4 : MY g4 (y00 (tkW b n 0)) := by
          refine ⟨⟨?_, ?_, ?_, ?_, ?_, ?_, ?_⟩, fun p hp => absurd hp (Nat.not_lt_zero _), fun i hi => ez _ (by omega), fun t ht => absurd ht (Nat.not_lt_zero _), ez 0 (by decide), fun q => absurd rfl q, fun q => absurd rfl q⟩
          · rw [e4 _ _ (by unfold SGo; omega), F3.I (by omega), F2.I (by omega), v24]; rfl
          · rw [e4 _ _ (by unfold SGo; omega), F3.I (by omega), F2.I (by omega), v25]; rfl
          · rw [e4 _ _ (by unfold SGo; omega), F3.I (by omega), F2.I (by omega), v26]; rfl
          · rw [e4 _ _ (by unfold SGo; omega), F3.I (by omega), F2.I (by omega), v27]; rfl
          · rw [e4 _ _ (by unfold SGo; omega), F3.I (by omega), F2.I (by omega), v28]; rfl
          · rw [e4 _ _ (by unfold SGo; omega), F3.I (by omega), F2.I (by omega), v29]; rfl
          · rw [e4 _ _ (by unfold SGo; omega), w30]; rfl
        have F4 : Fj Sci h g4 := (((F1.j.sub (fun a k q => show Sci a k by unfold Sci; omega)).tr (F2.j.sub (fun a k q => show Sci a k by unfold Sci; omega))).tr (F3.j.sub (fun a k q => show Sci a k by unfold Sci; omega))).tr (G.1.sub (fun a k q => show Sci a k by unfold SGo at q; unfold Sci; omega))
        have S4 := F4.St hS0
        have z0 : hI g4 77 0 = 0 := by rw [e4 _ _ (by unfold SGo; omega), F3.I (by omega), F2.I (by omega), F1.I (by omega)]; exact h0
        have z12 : hI g4 77 12 = 0 := by rw [e4 _ _ (by unfold SGo; omega), F3.I (by omega), F2.I (by omega)]; exact v12
        refine q_ct117 S4 (n + 1) (y00 (tkW b n 0)) g4 (by omega) rfl (yi_00 sn n7) R4 M4 Fj.rf (fun g5 E => ?_)
        refine kk g5 (by rw [E.1.I (by unfold SLn; omega)]; exact z0) (by rw [E.1.I (by unfold SLn; omega)]; exact z12) ((F4.sub (fun _ _ q => Or.inl q)).tr (E.1.sub (fun _ _ q => Or.inr q))) E.2.1 E.2.2
      have hS := S3
      refine go_aloadn dX10_city_113 rfl ?_
      refine sg_rV0 (M' := mX10_goes) ([]) dX10_city_114 lX10_165 vX10_goes (mo_L rfl) (by decide) rfl hS (go _) rfl (Nat.le_of_ble_eq_true rfl) (Nat.zero_le _) (Nat.zero_le _) (fun g4 G => ?_)
      exact go117 g4 G
    refine go_iloadn dX10_city_89 rfl ?_
    refine go_bipush (v := 105) dX10_city_90 rfl ?_
    refine go_icmp_ge (tgt := 108) dX10_city_92 (by decide) (fun c92 => ?_) (fun c92 => absurd (Int32.le_refl _) c92)
    refine go_aloadn dX10_city_108 rfl ?_
    refine go_iconst (v := 0) dX10_city_109 rfl ?_
    refine sg_putI dX10_city_110 fX10_171 rfl rfl (mo_L rfl) hS ?_
    exact fin _ rfl
