/-! a day -/
/-- the cells that a day of the town b may change -/
def Tt (b a : Nat) : Prop := a = b ∨ a = b + 2 ∨ (b + 5 ≤ a ∧ a ≤ b + 11)
def FrT (b : Nat) (g g' : Hp) : Prop := hR g' = hR g ∧ hN g' = hN g ∧ hJ g' = hJ g ∧ ∀ a k, ¬ Tt b a → hI g' a k = hI g a k
theorem FrT.rf {b : Nat} {g : Hp} : FrT b g g := ⟨rfl, rfl, rfl, fun _ _ _ => rfl⟩
theorem FrT.tr {b : Nat} {g g1 g2 : Hp} (h1 : FrT b g g1) (h2 : FrT b g1 g2) : FrT b g g2 := ⟨h2.1.trans h1.1, h2.2.1.trans h1.2.1, h2.2.2.1.trans h1.2.2.1, fun a k q => (h2.2.2.2 a k q).trans (h1.2.2.2 a k q)⟩
theorem FrT.uI {b : Nat} {g g1 : Hp} (h : FrT b g g1) {a k : Nat} {v : Int32} (ha : Tt b a) : FrT b g (uI g1 a k v) := h.tr ⟨rfl, rfl, rfl, fun a' k' q => hI_uI_ne (fun z => q (z.1 ▸ ha))⟩
theorem FrT.uF {b : Nat} {g g1 : Hp} (h : FrT b g g1) {a : Nat} {f : Nat → Int32} (ha : Tt b a) : FrT b g (uF g1 a f) := h.tr ⟨rfl, rfl, rfl, fun a' k' q => hI_uF_ne (fun z => q (z ▸ ha))⟩
theorem tt_i {b i : Nat} (h : i = 2 ∨ (5 ≤ i ∧ i ≤ 11)) : Tt b (b + i) := by rcases h with rfl | h <;> simp [Tt] <;> omega
theorem tt_c {b c i : Nat} (hb : TownAt b) (hc : CityAt c) (hi : i ≤ 11) : ¬ Tt b (c + i) := by
  unfold Tt
  rcases hb with rfl | rfl <;> rcases hc with rfl | rfl <;> omega
theorem TC.fr {b c N P : Nat} {g g' : Hp} (H : TC g b c N P) (F : FrT b g g') : TC g' b c N P := by
  obtain ⟨h1, h2, h3, h4, h5, h6, h7, h8⟩ := H
  have hc := tt_c (i := 0) h2 h3 (by omega)
  exact ⟨⟨F.2.1.trans h1.1, fun q hq => by rw [F.1]; exact h1.2 q hq⟩, h2, h3, by rw [F.1]; exact h4, by rw [F.2.2.2 c 2 hc]; exact h5, h6, by rw [F.2.2.2 c 1 hc]; exact h7, h8⟩
theorem WK.fr {b c P : Nat} {g g' : Hp} (H : WK g b c P) (hb : TownAt b) (hc : CityAt c) (F : FrT b g g') : WK g' b c P :=
  ⟨fun p hp => by rw [F.2.2.2 (c + 3) p (tt_c hb hc (by omega))]; exact H.1 p hp, fun i hi => by rw [F.2.2.2 (b + 3) i (by unfold Tt; omega)]; exact H.2 i hi⟩
theorem RU.fr {b c fs ns fr nr : Nat} {g g' : Hp} (H : RU g c fs ns fr nr) (hb : TownAt b) (hc : CityAt c) (F : FrT b g g') : RU g' c fs ns fr nr := by
  unfold RU
  rw [F.2.2.2 (c + 10) 0 (tt_c hb hc (by omega)), F.2.2.2 (c + 10) 1 (tt_c hb hc (by omega)), F.2.2.2 (c + 11) 0 (tt_c hb hc (by omega)), F.2.2.2 (c + 11) 1 (tt_c hb hc (by omega))]
  exact H
theorem fr_sbH {h : Hp} {b c fs ns t w : Nat} {lk : Int32} : FrT b h (sbH h b c fs ns t w lk) := by
  unfold sbH
  split
  · exact FrT.rf
  · exact (FrT.rf.uF (tt_i (by omega))).uF (tt_i (by omega))
theorem fr_gbH {h : Hp} {b c fr nr p : Nat} : FrT b h (gbH h b c fr nr p) := by
  unfold gbH
  split
  · exact FrT.rf
  · exact (FrT.rf.uF (tt_i (by omega))).uF (tt_i (by omega))
abbrev mn99 (x : Int32) : Int32 := if x < 99 then x else 99
def wd2 (h : Hp) (b c fs ns t w : Nat) (lk : Int32) : Hp := uI (sbH h b c fs ns t w lk) (b + 2) w (mn99 (hI h (b + 2) w + sbF h b c fs ns t w lk))
def wd3 (h : Hp) (b c fs ns t w : Nat) (lk : Int32) : Hp := uI (wd2 h b c fs ns t w lk) (b + 7) t (hI (wd2 h b c fs ns t w lk) (b + 7) t + 1)
def wd5 (g : Hp) (b t w : Nat) : Hp := uI (uI (uI g (b + 5) t (nI w)) (b + 6) t (-1)) (b + 7) t 0
def wd6 (g : Hp) (b t w : Nat) : Hp := uI (wd5 g b t w) b 2 (hI (wd5 g b t w) b 2 + 1)
/-- the thing t is worn for a day by w, at whom lk look -/
def wdH (h : Hp) (b c fs ns t w : Nat) (lk : Int32) : Hp := if lk = 0 then wd2 h b c fs ns t w lk else if hI (wd3 h b c fs ns t w lk) (b + 7) t < hI (wd3 h b c fs ns t w lk) c 3 then wd3 h b c fs ns t w lk else wd6 (wd3 h b c fs ns t w lk) b t w
theorem fr_wd2 {h : Hp} {b c fs ns t w : Nat} {lk : Int32} : FrT b h (wd2 h b c fs ns t w lk) := fr_sbH.uI (tt_i (by omega))
theorem fr_wd3 {h : Hp} {b c fs ns t w : Nat} {lk : Int32} : FrT b h (wd3 h b c fs ns t w lk) := fr_wd2.uI (tt_i (by omega))
theorem fr_wdH {h : Hp} {b c fs ns t w : Nat} {lk : Int32} : FrT b h (wdH h b c fs ns t w lk) := by
  unfold wdH
  split
  · exact fr_wd2
  · split
    · exact fr_wd3
    · exact (((fr_wd3.uI (tt_i (by omega))).uI (tt_i (by omega))).uI (tt_i (by omega))).uI (Or.inl rfl)
theorem r_wearForADay {l : Launch} {d b c N P fs ns fr nr t w : Nat} {h : Hp} {lk : Int32} (H : TC h b c N P) (U : RU h c fs ns fr nr) (ht : t < 10) (hw : w < 8) (hwt : hI h (b + 6) t = nI w) :
    Ex l (d + 4) mX6_wearForADay [.ref b, .int (nI t), .int lk] h none (wdH h b c fs ns t w lk) := by
  obtain ⟨hS0, hb, hc, -⟩ := id H
  have hS := H.1
  have e0 : (nI t).toNatClampNeg = t := cl_nI (by omega)
  have e1 : (nI w).toNatClampNeg = w := cl_nI (by omega)
  have hT : vp_in (nI t) 10 := vp_in_nI ht (by decide)
  have hV : vp_in (nI w) 8 := vp_in_nI hw (by decide)
  refine run_lv [some (.ref b), some (.int (nI t)), some (.int lk), none] (go := ?_)
  refine go_aloadn dX6_wearForADay_0 rfl ?_
  refine sg_getR dX6_wearForADay_1 fX6_27 rfl (tw_L hb) hS (tw_r8 hS hb) ?_
  refine go_iloadn dX6_wearForADay_4 rfl ?_
  refine sg_iald dX6_wearForADay_5 (tw_8 hb) hS (hT) ?_
  rw [e0, hwt]
  refine go_ist3 dX6_wearForADay_6 rfl ?_
  refine go_aloadn dX6_wearForADay_7 rfl ?_
  refine sg_getR dX6_wearForADay_8 fX6_15 rfl (tw_L hb) hS (tw_r4 hS hb) ?_
  refine go_iloadn dX6_wearForADay_11 rfl ?_
  refine go_bipush (v := 99) dX6_wearForADay_12 rfl ?_
  refine go_aloadn dX6_wearForADay_14 rfl ?_
  refine sg_getR dX6_wearForADay_15 fX6_15 rfl (tw_L hb) hS (tw_r4 hS hb) ?_
  refine go_iloadn dX6_wearForADay_18 rfl ?_
  refine sg_iald dX6_wearForADay_19 (tw_4 hb) hS (hV) ?_
  rw [e1]
  refine go_aloadn dX6_wearForADay_20 rfl ?_
  refine go_iloadn dX6_wearForADay_21 rfl ?_
  refine go_iloadn dX6_wearForADay_22 rfl ?_
  refine sg_cVi (M' := mX6_shameBy) ([.int (nI t), .int lk]) dX6_wearForADay_23 lX6_117 vX6_shameBy (tw_L hb) (by decide) rfl hS (r_shameBy H U ht hw hwt) rfl (Nat.le_of_ble_eq_true rfl) (Nat.zero_le _) (Nat.zero_le _) ?_
  have hS : St (sbH h b c fs ns t w lk) := (H.fr fr_sbH).1
  refine go_iadd dX6_wearForADay_26 ?_
  refine go_min dX6_wearForADay_27 lX6_75 (Nat.le_of_ble_eq_true rfl) (by simp only [rmOf]; omega) (by simp only [rmOf]; omega) (Nat.zero_le _) (Nat.zero_le _) ?_
  refine sg_iast dX6_wearForADay_30 (tw_4 hb) hS (hV) ?_
  rw [e1]
  have F2 : TC (wd2 h b c fs ns t w lk) b c N P := H.fr fr_wd2
  have hbc := F2.2.2.2.1
  refine go_cong (h' := wd2 h b c fs ns t w lk) ?_ rfl rfl
  have hS := F2.1
  refine go_iloadn dX6_wearForADay_31 rfl ?_
  refine go_if_ne (tgt := 36) dX6_wearForADay_32 (by decide) (fun c32 => ?_) (fun c32 => ?_)
  · refine go_aloadn dX6_wearForADay_36 rfl ?_
    refine sg_getR dX6_wearForADay_37 fX6_30 rfl (tw_L hb) hS (tw_r9 hS hb) ?_
    refine go_iloadn dX6_wearForADay_40 rfl ?_
    refine go_dup2 dX6_wearForADay_41 rfl rfl ?_
    refine sg_iald dX6_wearForADay_42 (tw_9 hb) hS (hT) ?_
    refine go_iconst (v := 1) dX6_wearForADay_43 rfl ?_
    refine go_iadd dX6_wearForADay_44 ?_
    refine sg_iast dX6_wearForADay_45 (tw_9 hb) hS (hT) ?_
    rw [e0]
    refine go_cong (h' := wd3 h b c fs ns t w lk) ?_ rfl rfl
    refine go_aloadn dX6_wearForADay_46 rfl ?_
    refine sg_getR dX6_wearForADay_47 fX6_30 rfl (tw_L hb) hS (tw_r9 hS hb) ?_
    refine go_iloadn dX6_wearForADay_50 rfl ?_
    refine sg_iald dX6_wearForADay_51 (tw_9 hb) hS (hT) ?_
    rw [e0]
    refine go_aloadn dX6_wearForADay_52 rfl ?_
    refine sg_getR dX6_wearForADay_53 fX6_47 rfl (tw_L hb) hS hbc ?_
    refine sg_getI dX6_wearForADay_56 fX6_120 rfl (ct_L hc) hS ?_
    refine go_icmp_lt (tgt := 85) dX6_wearForADay_59 (by decide) (fun c59 => ?_) (fun c59 => ?_)
    · refine go_return dX6_wearForADay_85 rfl (Nat.zero_le _) (Nat.zero_le _) ⟨rfl, by rw [wdH, if_neg c32, if_pos c59]⟩
    · refine go_aloadn dX6_wearForADay_62 rfl ?_
      refine sg_getR dX6_wearForADay_63 fX6_24 rfl (tw_L hb) hS (tw_r7 hS hb) ?_
      refine go_iloadn dX6_wearForADay_66 rfl ?_
      refine go_iloadn dX6_wearForADay_67 rfl ?_
      refine sg_iast dX6_wearForADay_68 (tw_7 hb) hS (hT) ?_
      rw [e0]
      refine go_aloadn dX6_wearForADay_69 rfl ?_
      refine go_iconst (v := -1) dX6_wearForADay_70 rfl ?_
      refine go_iloadn dX6_wearForADay_71 rfl ?_
      refine sg_cV0 (M' := mX6_putOn) ([.int (-1), .int (nI t)]) dX6_wearForADay_72 lX6_123 vX6_putOn (tw_L hb) (by decide) rfl hS (r_putOn hS hb hT) rfl (Nat.le_of_ble_eq_true rfl) (Nat.zero_le _) (Nat.zero_le _) ?_
      rw [e0]
      refine go_cong (h' := wd5 (wd3 h b c fs ns t w lk) b t w) ?_ rfl rfl
      refine go_aloadn dX6_wearForADay_75 rfl ?_
      refine go_dup dX6_wearForADay_76 rfl ?_
      refine sg_getI dX6_wearForADay_77 fX6_55 rfl (tw_L hb) hS ?_
      refine go_iconst (v := 1) dX6_wearForADay_80 rfl ?_
      refine go_iadd dX6_wearForADay_81 ?_
      refine sg_putI dX6_wearForADay_82 fX6_55 rfl rfl (tw_L hb) hS ?_
      refine go_return dX6_wearForADay_85 rfl (Nat.zero_le _) (Nat.zero_le _) ?_
      exact ⟨rfl, by rw [wdH, if_neg c32, if_neg c59]; rfl⟩
  · refine go_return dX6_wearForADay_35 rfl (Nat.zero_le _) (Nat.zero_le _) ⟨rfl, by rw [wdH, if_pos c32]⟩
/-- who wears a thing is one of P people -/
def WR (h : Hp) (b N P : Nat) : Prop := ∀ t, t < N → hI h (b + 6) t = -1 ∨ ∃ w, w < P ∧ hI h (b + 6) t = nI w
/-- how many things each wears -/
def cwF (h : Hp) (b : Nat) (f : Nat → Int32) : Nat → (Nat → Int32) := foF (fun t m => if hI h (b + 6) t = -1 then m else upd m (hI h (b + 6) t).toNatClampNeg (m (hI h (b + 6) t).toNatClampNeg + 1)) f
def cwH (h : Hp) (b N : Nat) : Hp := uF h (b + 9) (cwF h b (flF (hI h (b + 9)) 0 8) N)
theorem r_countWorn {l : Launch} {d b c N P : Nat} {h : Hp} (H : TC h b c N P) (Wr : WR h b N P) : Ex l (d + 2) mX6_countWorn [.ref b] h none (cwH h b N) := by
  obtain ⟨hS, hb, hc, -⟩ := id H
  refine run_lv [some (.ref b), none] (go := ?_)
  refine go_aloadn dX6_countWorn_0 rfl ?_
  refine sg_getR dX6_countWorn_1 fX6_36 rfl (tw_L hb) hS (tw_r11 hS hb) ?_
  refine go_iconst (v := 0) dX6_countWorn_4 rfl ?_
  refine sg_cS0 (M' := mJ7_fill_53178) ([.ref (b + 9), .int 0]) dX6_countWorn_5 lX6_65 sJ7_fill_53178 hS (r_fill hS (tw_11 hb) (by decide)) rfl (Nat.le_of_ble_eq_true rfl) (Nat.zero_le _) (Nat.zero_le _) ?_
  refine go_iconst (v := 0) dX6_countWorn_8 rfl ?_
  refine go_ist1 dX6_countWorn_9 rfl ?_
  skip
  refine go_loop (lvf := fun k => [some (.ref b), some (.int (nI k))]) (hf := fun k => uF h (b + 9) (cwF h b (flF (hI h (b + 9)) 0 8) k)) N (fun _ => True) (fun k hk _ ih => ?_) (fun _ => ?_) 0 (Nat.zero_le _) trivial
  · obtain ⟨hS, -, -, hbc, hth, hN, -, hP⟩ := id (H.uF (a := b + 9) (f := cwF h b (flF (hI h (b + 9)) 0 8) k) (ct_ne hb hc (by omega)))
    have e0 : (nI k).toNatClampNeg = k := cl_nI (by omega)
    have e6 : hI (uF h (b + 9) (cwF h b (flF (hI h (b + 9)) 0 8) k)) (b + 6) (nI k).toNatClampNeg = hI h (b + 6) k := by rw [hI_uF_ne (by omega), e0]
    have hv : ¬ hI h (b + 6) k = -1 → vp_in (hI h (b + 6) k) 8 := fun q => by
      rcases Wr k hk with z | ⟨w, z1, z2⟩
      · exact absurd z q
      · rw [z2]; exact vp_in_nI (by omega) (by decide)
    refine go_iloadn dX6_countWorn_10 rfl ?_
    refine go_aloadn dX6_countWorn_11 rfl ?_
    refine sg_getR dX6_countWorn_12 fX6_47 rfl (tw_L hb) hS hbc ?_
    refine sg_getI dX6_countWorn_15 fX6_91 rfl (ct_L hc) hS ?_
    refine go_icmp_ge (tgt := 52) dX6_countWorn_18 (by decide) (fun c18 => ?_) (fun c18 => ?_)
    · exact absurd (hth ▸ c18) (nI_ge hk (by omega))
    · refine go_aloadn dX6_countWorn_21 rfl ?_
      refine sg_getR dX6_countWorn_22 fX6_27 rfl (tw_L hb) hS (tw_r8 hS hb) ?_
      refine go_iloadn dX6_countWorn_25 rfl ?_
      refine sg_iald dX6_countWorn_26 (tw_8 hb) hS (vp_in_nI (by omega) (by decide)) ?_
      rw [e6]
      refine go_iconst (v := -1) dX6_countWorn_27 rfl ?_
      refine go_icmp_eq (tgt := 46) dX6_countWorn_28 (by decide) (fun c28 => ?_) (fun c28 => ?_)
      · refine go_iinc1 (c1 := 1) dX6_countWorn_46 rfl rfl ?_
        refine go_goto (tgt := 10) dX6_countWorn_49 (by decide) ?_
        exact go_cong (ih trivial) (by simp [nI_1]) (by first | (simp only [hI_uF_eq, uI_uF]; simp [cwF, foF, c28]; done) | simp [cwF, foF, c28])
      · refine go_aloadn dX6_countWorn_31 rfl ?_
        refine sg_getR dX6_countWorn_32 fX6_36 rfl (tw_L hb) hS (tw_r11 hS hb) ?_
        refine go_aloadn dX6_countWorn_35 rfl ?_
        refine sg_getR dX6_countWorn_36 fX6_27 rfl (tw_L hb) hS (tw_r8 hS hb) ?_
        refine go_iloadn dX6_countWorn_39 rfl ?_
        refine sg_iald dX6_countWorn_40 (tw_8 hb) hS (vp_in_nI (by omega) (by decide)) ?_
        rw [e6]
        refine go_dup2 dX6_countWorn_41 rfl rfl ?_
        refine sg_iald dX6_countWorn_42 (tw_11 hb) hS (hv c28) ?_
        refine go_iconst (v := 1) dX6_countWorn_43 rfl ?_
        refine go_iadd dX6_countWorn_44 ?_
        refine sg_iast dX6_countWorn_45 (tw_11 hb) hS (hv c28) ?_
        refine go_iinc1 (c1 := 1) dX6_countWorn_46 rfl rfl ?_
        refine go_goto (tgt := 10) dX6_countWorn_49 (by decide) ?_
        exact go_cong (ih trivial) (by simp [nI_1]) (by first | (simp only [hI_uF_eq, uI_uF]; simp [cwF, foF, c28]; done) | simp [cwF, foF, c28])
  · obtain ⟨hS, -, -, hbc, hth, hN, -⟩ := id (H.uF (a := b + 9) (f := cwF h b (flF (hI h (b + 9)) 0 8) N) (ct_ne hb hc (by omega)))
    refine go_iloadn dX6_countWorn_10 rfl ?_
    refine go_aloadn dX6_countWorn_11 rfl ?_
    refine sg_getR dX6_countWorn_12 fX6_47 rfl (tw_L hb) hS hbc ?_
    refine sg_getI dX6_countWorn_15 fX6_91 rfl (ct_L hc) hS ?_
    refine go_icmp_ge (tgt := 52) dX6_countWorn_18 (by decide) (fun c18 => ?_) (fun c18 => ?_)
    · refine go_return dX6_countWorn_52 rfl (Nat.zero_le _) (Nat.zero_le _) ?_
      exact ⟨rfl, rfl⟩
    · exact absurd (by rw [hth]; exact nI_le (Nat.le_refl _) (by omega)) c18
/-- all that a town needs for its days -/
def TI (h : Hp) (b c N P fs ns fr nr D : Nat) : Prop := TC h b c N P ∧ WK h b c P ∧ RU h c fs ns fr nr ∧ WR h b N P ∧ hI h b 1 = nI D ∧ D < 2 ^ 30
/-- who looks at w by what was seen -/
def lsF (g : Hp) (b c w D : Nat) : Int32 := hI g (b + 8) (plN g b c w D).toNatClampNeg &&& notB w
/-- the thing t on a day: foggy or not -/
def d1F (b c fs ns D : Nat) (fog : Int32) (t : Nat) (g : Hp) : Hp := if hI g (b + 6) t = -1 then g else wdH g b c fs ns t (hI g (b + 6) t).toNatClampNeg (if fog = 0 then lsF g b c (hI g (b + 6) t).toNatClampNeg D else 0)
def mx0 (x : Int32) : Int32 := if 0 < x then x else 0
def d2A (b c N fr nr p : Nat) (g : Hp) : Hp :=
  if hI g (b + 9) p ≤ 0 then g else if gbF g b c fr nr p = 0 then gbH g b c fr nr p else uI (uI (offF b (nI p) (gbH g b c fr nr p) N) (b + 2) p 0) (b + 9) p 0
/-- the person p in the evening -/
def d2F (b c N fr nr : Nat) (p : Nat) (g : Hp) : Hp := if hI (d2A b c N fr nr p g) (b + 9) p = 0 then uI (d2A b c N fr nr p g) (b + 2) p (mx0 (hI (d2A b c N fr nr p g) (b + 2) p - 2)) else d2A b c N fr nr p g
def d1H (h : Hp) (b c P fs ns D : Nat) (fog : Int32) (k : Nat) : Hp := foF (d1F b c fs ns D fog) (laF h b c P D) k
def d2H (h : Hp) (b c N fr nr k : Nat) : Hp := foF (d2F b c N fr nr) (cwH h b N) k
def dyH (h : Hp) (b : Nat) : Hp := uI h b 1 (hI h b 1 + 1)
/-- a day goes by -/
def pdH (h : Hp) (b c N P fs ns fr nr D : Nat) (fog : Int32) : Hp := dyH (d2H (d1H h b c P fs ns D fog N) b c N fr nr P) b
/-- what a day does at most, but for the day's own number -/
def Dy (b : Nat) (g g' : Hp) : Prop := FrT b g g' ∧ hI g' b 1 = hI g b 1 ∧ ∀ t, hI g' (b + 6) t = hI g (b + 6) t ∨ hI g' (b + 6) t = -1
theorem Dy.rf {b : Nat} {g : Hp} : Dy b g g := ⟨FrT.rf, rfl, fun _ => Or.inl rfl⟩
theorem Dy.tr {b : Nat} {g g1 g2 : Hp} (h1 : Dy b g g1) (h2 : Dy b g1 g2) : Dy b g g2 := ⟨h1.1.tr h2.1, h2.2.1.trans h1.2.1, fun t => by
  rcases h2.2.2 t with q | q
  · rw [q]; exact h1.2.2 t
  · exact Or.inr q⟩
theorem Dy.uI {b : Nat} {g g1 : Hp} (h : Dy b g g1) {a k : Nat} {v : Int32} (ha : Tt b a) (h1 : a ≠ b ∨ k ≠ 1) (h6 : a ≠ b + 6 ∨ v = -1) : Dy b g (uI g1 a k v) := h.tr ⟨FrT.rf.uI ha, hI_uI_ne (fun q => by omega), fun t => by
  by_cases q : b + 6 = a ∧ t = k
  · rcases h6 with z | z
    · exact absurd q.1.symm z
    · right; rw [q.1, q.2, hI_uI_eq, z]
  · left; exact hI_uI_ne q⟩
theorem Dy.uF {b : Nat} {g g1 : Hp} (h : Dy b g g1) {a : Nat} {f : Nat → Int32} (ha : Tt b a) (h1 : a ≠ b) (h6 : a ≠ b + 6) : Dy b g (uF g1 a f) := h.tr ⟨FrT.rf.uF ha, hI_uF_ne (Ne.symm h1), fun t => Or.inl (hI_uF_ne (Ne.symm h6))⟩
theorem TI.dy {b c N P fs ns fr nr D : Nat} {g g' : Hp} (H : TI g b c N P fs ns fr nr D) (F : Dy b g g') : TI g' b c N P fs ns fr nr D := by
  obtain ⟨h1, h2, h3, h4, h5, h6⟩ := H
  refine ⟨h1.fr F.1, h2.fr h1.2.1 h1.2.2.1 F.1, h3.fr h1.2.1 h1.2.2.1 F.1, fun t ht => ?_, by rw [F.2.1]; exact h5, h6⟩
  rcases F.2.2 t with q | q
  · rw [q]; exact h4 t ht
  · exact Or.inl q
theorem dy_laF {h : Hp} {b c P D : Nat} : Dy b h (laF h b c P D) := Dy.rf.uF (tt_i (by omega)) (by omega) (by omega)
theorem dy_cwH {h : Hp} {b N : Nat} : Dy b h (cwH h b N) := Dy.rf.uF (tt_i (by omega)) (by omega) (by omega)
theorem dy_sbH {h : Hp} {b c fs ns t w : Nat} {lk : Int32} : Dy b h (sbH h b c fs ns t w lk) := by
  unfold sbH
  split
  · exact Dy.rf
  · exact (Dy.rf.uF (tt_i (by omega)) (by omega) (by omega)).uF (tt_i (by omega)) (by omega) (by omega)
theorem dy_gbH {h : Hp} {b c fr nr p : Nat} : Dy b h (gbH h b c fr nr p) := by
  unfold gbH
  split
  · exact Dy.rf
  · exact (Dy.rf.uF (tt_i (by omega)) (by omega) (by omega)).uF (tt_i (by omega)) (by omega) (by omega)
theorem dy_wdH {h : Hp} {b c fs ns t w : Nat} {lk : Int32} : Dy b h (wdH h b c fs ns t w lk) := by
  have h2 : Dy b h (wd2 h b c fs ns t w lk) := dy_sbH.uI (tt_i (by omega)) (by omega) (Or.inl (by omega))
  have h3 : Dy b h (wd3 h b c fs ns t w lk) := h2.uI (tt_i (by omega)) (by omega) (Or.inl (by omega))
  unfold wdH
  split
  · exact h2
  · split
    · exact h3
    · exact (((h3.uI (tt_i (by omega)) (by omega) (Or.inl (by omega))).uI (tt_i (by omega)) (by omega) (Or.inr rfl)).uI (tt_i (by omega)) (by omega) (Or.inl (by omega))).uI (Or.inl rfl) (Or.inr (by omega)) (Or.inl (by omega))
theorem dy_offF {h : Hp} {b : Nat} {p : Int32} {k : Nat} : Dy b h (offF b p h k) := by
  induction k with
  | zero => exact Dy.rf
  | succ k ih =>
    simp only [offF, foF] at ih ⊢
    split
    · exact (ih.uI (tt_i (by omega)) (by omega) (Or.inr rfl)).uI (tt_i (by omega)) (by omega) (Or.inl (by omega))
    · exact ih
theorem dy_d1F {b c fs ns D t : Nat} {fog : Int32} {g : Hp} : Dy b g (d1F b c fs ns D fog t g) := by
  unfold d1F
  split
  · exact Dy.rf
  · exact dy_wdH
theorem dy_d2A {b c N fr nr p : Nat} {g : Hp} : Dy b g (d2A b c N fr nr p g) := by
  unfold d2A
  split
  · exact Dy.rf
  · split
    · exact dy_gbH
    · exact ((dy_gbH.tr dy_offF).uI (tt_i (by omega)) (by omega) (Or.inl (by omega))).uI (tt_i (by omega)) (by omega) (Or.inl (by omega))
theorem dy_d2F {b c N fr nr p : Nat} {g : Hp} : Dy b g (d2F b c N fr nr p g) := by
  unfold d2F
  split
  · exact dy_d2A.uI (tt_i (by omega)) (by omega) (Or.inl (by omega))
  · exact dy_d2A
theorem dy_d1H {h : Hp} {b c P fs ns D : Nat} {fog : Int32} (k : Nat) : Dy b h (d1H h b c P fs ns D fog k) := by
  induction k with
  | zero => exact dy_laF
  | succ k ih => exact ih.tr dy_d1F
theorem dy_d2H {h : Hp} {b c N fr nr : Nat} (k : Nat) : Dy b h (d2H h b c N fr nr k) := by
  induction k with
  | zero => exact dy_cwH
  | succ k ih => exact ih.tr dy_d2F
