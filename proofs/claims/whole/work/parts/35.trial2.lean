/-! Trials: fog, the game, years -/
def fgB (y i : Nat) : Int32 := if nI y >>> (nI i &&& 31) &&& 1 = 0 then 0 else 1
def fiT (C : Cy) (T : Tn) (ten : Int32) (y : Nat) : Nat → Int32 × Tn := foF (fun i s => (s.1 * (if fgB y i = 0 then 10 - ten else ten), dayT C (fgB y i) s.2)) (1, t0 T)
def fgT (C : Cy) (T : Tn) (t n : Nat) (ten : Int32) : Nat → Int32 := foF (fun y a => if tO (fiT C T ten y n).2 t = tO T t then a else a + (fiT C T ten y n).1) 0
theorem sh5 : ∀ n : Fin 6, (1 : Int32) <<< (nI n.val &&& 31) = nI (2 ^ n.val) := by decide
theorem tD_fi {C : Cy} {T : Tn} {ten : Int32} {y k : Nat} : tD (fiT C T ten y k).2 = tD T + k := by
  induction k with
  | zero => rfl
  | succ k ih => show tD (dayT C _ (fiT C T ten y k).2) = _; rw [tD_day, ih]; rfl
theorem r_inFog {l : Launch} {d c fs fr t n : Nat} {C : Cy} {T : Tn} {h : Hp} {ten : Int32} (W : WC C) (H : TV h 30 c fs fr C T) (hD : tD T + 100 < 2 ^ 30) (ht : t < cN C) (hn : n ≤ 5) : Ey l (d + 6) mX7_inFog [.ref 55, .ref 30, .int (nI t), .int (nI n), .int ten] h (some (.int (fgT C T t n ten (2 ^ n)))) (F6 h) := by
  have hN := W.1.1
  have e0 : (nI t).toNatClampNeg = t := cl_nI (by omega)
  have hT : vp_in (nI t) 10 := vp_in_nI (by omega) (by decide)
  have s5 := sh5 ⟨n, by omega⟩
  dsimp only at s5
  have p5 : 2 ^ n ≤ 32 := Nat.pow_le_pow_right (n := 2) (by decide) hn
  refine run_lv [some (.ref 55), some (.ref 30), some (.int (nI t)), some (.int (nI n)), some (.int ten), none, none, none, none, none] (go := ?_)
  refine go_iconst (v := 0) dX7_inFog_0 rfl ?_
  refine go_ist5 dX7_inFog_1 rfl ?_
  refine go_iconst (v := 0) dX7_inFog_3 rfl ?_
  refine go_ist6 dX7_inFog_4 rfl ?_
  refine go_loopR (lvf := fun k => [some (.ref 55), some (.ref 30), some (.int (nI t)), some (.int (nI n)), some (.int ten), some (.int (fgT C T t n ten k)), some (.int (nI k)), none, none, none]) (2 ^ n) (fun k g => F6 h g) (fun y g hy F ih => ?_) (fun g F => ?_) 0 h (Nat.zero_le _) Fq.rf
  · have H2 := H.fc (F6c F)
    have hS := H2.hc.2.2
    refine go_iload dX7_inFog_6 rfl ?_
    refine go_iconst (v := 1) dX7_inFog_8 rfl ?_
    refine go_iloadn dX7_inFog_9 rfl ?_
    refine go_ishl dX7_inFog_10 ?_
    rw [s5]
    refine go_icmp_ge (tgt := 114) dX7_inFog_11 (by decide) (fun c11 => absurd c11 (nI_ge hy (by omega))) (fun c11 => ?_)
    refine go_aloadn dX7_inFog_14 rfl ?_
    refine go_aloadn dX7_inFog_15 rfl ?_
    refine sg_rV0 (M' := mX7_start) ([.ref 30]) dX7_inFog_16 lX7_29 vX7_start (tr_L rfl) (by decide) rfl hS (r_start H2) rfl (Nat.le_of_ble_eq_true rfl) (Nat.zero_le _) (Nat.zero_le _) (fun g1 F1 => ?_)
    refine go_iconst (v := 1) dX7_inFog_19 rfl ?_
    refine go_ist7 dX7_inFog_20 rfl ?_
    refine go_iconst (v := 0) dX7_inFog_22 rfl ?_
    refine go_ist8 dX7_inFog_23 rfl ?_
    skip
    refine go_loopR (lvf := fun i => [some (.ref 55), some (.ref 30), some (.int (nI t)), some (.int (nI n)), some (.int ten), some (.int (fgT C T t n ten y)), some (.int (nI y)), some (.int (fiT C T ten y i).1), some (.int (nI i)), none]) n (fun i g' => F6 h g' ∧ TV g' 56 c fs fr C (fiT C T ten y i).2) (fun i g' hi hh ih2 => ?_) (fun g' hh => ?_) 0 g1 (Nat.zero_le _) ⟨F.tr F1.1, F1.2⟩
    · obtain ⟨F2, H3⟩ := hh
      have hS := H3.hc.2.2
      have es : fiT C T ten y (i + 1) = ((fiT C T ten y i).1 * (if fgB y i = 0 then 10 - ten else ten), dayT C (fgB y i) (fiT C T ten y i).2) := rfl
      rw [es] at ih2
      unfold fgB at ih2
      refine go_iload dX7_inFog_25 rfl ?_
      refine go_iloadn dX7_inFog_27 rfl ?_
      refine go_icmp_ge (tgt := 83) dX7_inFog_28 (by decide) (fun c28 => ?_) (fun c28 => ?_)
      · exact absurd c28 (nI_ge hi (by omega))
      · refine go_iload dX7_inFog_31 rfl ?_
        refine go_iload dX7_inFog_33 rfl ?_
        refine go_ishr dX7_inFog_35 ?_
        refine go_iconst (v := 1) dX7_inFog_36 rfl ?_
        refine go_iand dX7_inFog_37 ?_
        refine go_if_eq (tgt := 45) dX7_inFog_38 (by decide) (fun c38 => ?_) (fun c38 => ?_)
        · refine go_iconst (v := 0) dX7_inFog_45 rfl ?_
          have eb : fgB y i = if nI y >>> (nI i &&& 31) &&& 1 = 0 then 0 else 1 := rfl
          refine go_ist9 dX7_inFog_46 rfl ?_
          refine go_iload dX7_inFog_48 rfl ?_
          refine go_iload dX7_inFog_50 rfl ?_
          refine go_if_eq (tgt := 60) dX7_inFog_52 (by decide) (fun c52 => ?_) (fun c52 => ?_)
          · first | exact absurd c52 (by decide) | (refine go_bipush (v := 10) dX7_inFog_60 rfl ?_; refine go_iload dX7_inFog_62 rfl ?_; refine go_isub dX7_inFog_64 ?_; refine go_imul dX7_inFog_65 ?_; refine go_ist7 dX7_inFog_66 rfl ?_; refine go_aloadn dX7_inFog_68 rfl ?_; refine sg_getR dX7_inFog_69 fX7_12 rfl (tr_L rfl) hS (tr_r0 hS rfl) ?_; refine go_iload dX7_inFog_72 rfl ?_; refine sg_rV0 (M' := mX6_passDay) ([.int 0]) dX7_inFog_74 lX7_36 vX6_passDay (tw_L (at56)) (by decide) rfl hS (r_day56 W H3 (by rw [tD_fi]; omega)) rfl (Nat.le_of_ble_eq_true rfl) (Nat.zero_le _) (Nat.zero_le _) (fun g2 F3 => ?_); refine go_iinc8 (c1 := 1) dX7_inFog_77 rfl rfl ?_; refine go_goto (tgt := 25) dX7_inFog_80 (by decide) ?_; exact go_back (ih2 g2 (by rw [if_pos c38]; exact ⟨F2.tr F3.1, F3.2⟩)) (by rw [if_pos c38]; simp [lsub, nI_1]) rfl)
          · first | exact absurd rfl c52 | (refine go_iload dX7_inFog_55 rfl ?_; refine go_goto (tgt := 65) dX7_inFog_57 (by decide) ?_; refine go_imul dX7_inFog_65 ?_; refine go_ist7 dX7_inFog_66 rfl ?_; refine go_aloadn dX7_inFog_68 rfl ?_; refine sg_getR dX7_inFog_69 fX7_12 rfl (tr_L rfl) hS (tr_r0 hS rfl) ?_; refine go_iload dX7_inFog_72 rfl ?_; refine sg_rV0 (M' := mX6_passDay) ([.int 1]) dX7_inFog_74 lX7_36 vX6_passDay (tw_L (at56)) (by decide) rfl hS (r_day56 W H3 (by rw [tD_fi]; omega)) rfl (Nat.le_of_ble_eq_true rfl) (Nat.zero_le _) (Nat.zero_le _) (fun g2 F3 => ?_); refine go_iinc8 (c1 := 1) dX7_inFog_77 rfl rfl ?_; refine go_goto (tgt := 25) dX7_inFog_80 (by decide) ?_; exact go_back (ih2 g2 (by rw [if_neg c38]; exact ⟨F2.tr F3.1, F3.2⟩)) (by rw [if_neg c38]; simp [lsub, nI_1]) rfl)
        · refine go_iconst (v := 1) dX7_inFog_41 rfl ?_
          refine go_goto (tgt := 46) dX7_inFog_42 (by decide) ?_
          have eb : fgB y i = if nI y >>> (nI i &&& 31) &&& 1 = 0 then 0 else 1 := rfl
          refine go_ist9 dX7_inFog_46 rfl ?_
          refine go_iload dX7_inFog_48 rfl ?_
          refine go_iload dX7_inFog_50 rfl ?_
          refine go_if_eq (tgt := 60) dX7_inFog_52 (by decide) (fun c52 => ?_) (fun c52 => ?_)
          · first | exact absurd c52 (by decide) | (refine go_bipush (v := 10) dX7_inFog_60 rfl ?_; refine go_iload dX7_inFog_62 rfl ?_; refine go_isub dX7_inFog_64 ?_; refine go_imul dX7_inFog_65 ?_; refine go_ist7 dX7_inFog_66 rfl ?_; refine go_aloadn dX7_inFog_68 rfl ?_; refine sg_getR dX7_inFog_69 fX7_12 rfl (tr_L rfl) hS (tr_r0 hS rfl) ?_; refine go_iload dX7_inFog_72 rfl ?_; refine sg_rV0 (M' := mX6_passDay) ([.int 0]) dX7_inFog_74 lX7_36 vX6_passDay (tw_L (at56)) (by decide) rfl hS (r_day56 W H3 (by rw [tD_fi]; omega)) rfl (Nat.le_of_ble_eq_true rfl) (Nat.zero_le _) (Nat.zero_le _) (fun g2 F3 => ?_); refine go_iinc8 (c1 := 1) dX7_inFog_77 rfl rfl ?_; refine go_goto (tgt := 25) dX7_inFog_80 (by decide) ?_; exact go_back (ih2 g2 (by rw [if_pos c38]; exact ⟨F2.tr F3.1, F3.2⟩)) (by rw [if_pos c38]; simp [lsub, nI_1]) rfl)
          · first | exact absurd rfl c52 | (refine go_iload dX7_inFog_55 rfl ?_; refine go_goto (tgt := 65) dX7_inFog_57 (by decide) ?_; refine go_imul dX7_inFog_65 ?_; refine go_ist7 dX7_inFog_66 rfl ?_; refine go_aloadn dX7_inFog_68 rfl ?_; refine sg_getR dX7_inFog_69 fX7_12 rfl (tr_L rfl) hS (tr_r0 hS rfl) ?_; refine go_iload dX7_inFog_72 rfl ?_; refine sg_rV0 (M' := mX6_passDay) ([.int 1]) dX7_inFog_74 lX7_36 vX6_passDay (tw_L (at56)) (by decide) rfl hS (r_day56 W H3 (by rw [tD_fi]; omega)) rfl (Nat.le_of_ble_eq_true rfl) (Nat.zero_le _) (Nat.zero_le _) (fun g2 F3 => ?_); refine go_iinc8 (c1 := 1) dX7_inFog_77 rfl rfl ?_; refine go_goto (tgt := 25) dX7_inFog_80 (by decide) ?_; exact go_back (ih2 g2 (by rw [if_neg c38]; exact ⟨F2.tr F3.1, F3.2⟩)) (by rw [if_neg c38]; simp [lsub, nI_1]) rfl)
    · obtain ⟨F2, H3⟩ := hh
      have hS := H3.hc.2.2
      have H4 := H.fc (F6c F2)
      have es : fgT C T t n ten (y + 1) = if tO (fiT C T ten y n).2 t = tO T t then fgT C T t n ten y else fgT C T t n ten y + (fiT C T ten y n).1 := rfl
      refine go_iload dX7_inFog_25 rfl ?_
      refine go_iloadn dX7_inFog_27 rfl ?_
      refine go_icmp_ge (tgt := 83) dX7_inFog_28 (by decide) (fun c28 => ?_) (fun c28 => ?_)
      · refine go_aloadn dX7_inFog_83 rfl ?_
        refine sg_getR dX7_inFog_84 fX7_12 rfl (tr_L rfl) hS (tr_r0 hS rfl) ?_
        refine sg_getR dX7_inFog_87 fX7_43 rfl (tw_L (at56)) hS (tw_r7 hS (at56)) ?_
        refine go_iloadn dX7_inFog_90 rfl ?_
        refine sg_iald dX7_inFog_91 (tw_7 (at56)) hS (hT) ?_
        rw [e0, (H3.2.2.1 t ht).1]
        refine go_aloadn dX7_inFog_92 rfl ?_
        refine sg_getR dX7_inFog_93 fX7_43 rfl (tw_L at30) hS (tw_r7 hS at30) ?_
        refine go_iloadn dX7_inFog_96 rfl ?_
        refine sg_iald dX7_inFog_97 (tw_7 at30) hS (hT) ?_
        rw [e0, (H4.2.2.1 t ht).1]
        refine go_icmp_eq (tgt := 108) dX7_inFog_98 (by decide) (fun c98 => ?_) (fun c98 => ?_)
        · refine go_iinc6 (c1 := 1) dX7_inFog_108 rfl rfl ?_
          refine go_goto (tgt := 6) dX7_inFog_111 (by decide) ?_
          exact go_back (ih g' F2) (by rw [es]; first | (rw [if_pos c98]; simp [lsub, nI_1]; done) | (rw [if_neg c98]; simp [lsub, nI_1])) rfl
        · refine go_iload dX7_inFog_101 rfl ?_
          refine go_iload dX7_inFog_103 rfl ?_
          refine go_iadd dX7_inFog_105 ?_
          refine go_ist5 dX7_inFog_106 rfl ?_
          refine go_iinc6 (c1 := 1) dX7_inFog_108 rfl rfl ?_
          refine go_goto (tgt := 6) dX7_inFog_111 (by decide) ?_
          exact go_back (ih g' F2) (by rw [es]; first | (rw [if_pos c98]; simp [lsub, nI_1]; done) | (rw [if_neg c98]; simp [lsub, nI_1])) rfl
      · exact absurd (nI_le (Nat.le_refl _) (by omega)) c28
  · refine go_iload dX7_inFog_6 rfl ?_
    refine go_iconst (v := 1) dX7_inFog_8 rfl ?_
    refine go_iloadn dX7_inFog_9 rfl ?_
    refine go_ishl dX7_inFog_10 ?_
    rw [s5]
    refine go_icmp_ge (tgt := 114) dX7_inFog_11 (by decide) (fun c11 => ?_) (fun c11 => absurd (nI_le (Nat.le_refl _) (by omega)) c11)
    refine go_iload dX7_inFog_114 rfl ?_
    refine go_ireturn dX7_inFog_116 rfl rfl (Nat.zero_le _) (Nat.zero_le _) ?_
    exact ⟨rfl, F⟩
theorem tv_out {h : Hp} {c fs fr a k : Nat} {v : Int32} {C : Cy} {T : Tn} (H : TV h 56 c fs fr C T) (ha : 68 ≤ a) : TV (uI h a k v) 56 c fs fr C T := by
  obtain ⟨⟨h1, ⟨k1, k2⟩, U, Wr, hD, hDl⟩, hC, ⟨e1, e2, e3, e4⟩⟩ := H
  have hc := h1.2.2.1
  have e : ∀ x, x < 68 → ∀ j, hI (uI h a k v) x j = hI h x j := fun x hx j => hI_uI_ne (by omega)
  have ec : ∀ i, i ≤ 11 → ∀ j, hI (uI h a k v) (c + i) j = hI h (c + i) j := fun i hi j => e _ (by rcases hc with rfl | rfl <;> omega) j
  refine ⟨⟨h1.uI (by rcases hc with rfl | rfl <;> omega), ⟨fun p hp => by rw [ec 3 (by omega)]; exact k1 p hp, fun i hi => by rw [e _ (by omega)]; exact k2 i hi⟩, ?_, fun t ht => by rw [e _ (by omega)]; exact Wr t ht, (e 56 (by omega) 1).trans hD, hDl⟩, ?_, ⟨fun t ht => ?_, fun p hp => ?_, fun i hi => ?_, (e 56 (by omega) 2).trans e4⟩⟩
  · unfold RU; rw [ec 10 (by omega), ec 10 (by omega), ec 11 (by omega), ec 11 (by omega)]; exact U
  · obtain ⟨⟨c1, c2⟩, c3, c4, c5, c6⟩ := hC
    refine ⟨⟨(ec 0 (by omega) 0).trans c1, (ec 0 (by omega) 3).trans c2⟩, fun p hp => ?_, fun t ht => ?_, fun j hj => ?_, fun j hj => ?_⟩
    · rw [ec 2 (by omega), ec 3 (by omega)]; exact c3 p hp
    · rw [ec 5 (by omega)]; exact c4 t ht
    · rw [ec 9 (by omega)]; exact c5 j hj
    · rw [ec 9 (by omega)]; exact c6 j hj
  · rw [e _ (by omega), e _ (by omega), e _ (by omega), e _ (by omega)]; exact e1 t ht
  · rw [e _ (by omega), e _ (by omega)]; exact e2 p hp
  · rw [e _ (by omega)]; exact e3 i hi
/-- all that p wears is put off -/
def ofT (C : Cy) (p : Nat) (T : Tn) : Tn := (tD T, tC T, tO T, fun t => if t < cN C ∧ tB T t = nI p then -1 else tB T t, fun t => if t < cN C ∧ tB T t = nI p then 0 else tS T t, tX T, tH T, tV T, tW T)
theorem TV.of {h : Hp} {c fs fr p : Nat} {C : Cy} {T : Tn} (H : TV h 56 c fs fr C T) (hp : p < 2 ^ 31) : TV (offF 56 (nI p) h (cN C)) 56 c fs fr C (ofT C p T) := by
  obtain ⟨hI0, hC, hE⟩ := H
  exact ⟨hI0.dy dy_offF, hC.fr at56 hI0.1.2.2.1 dy_offF.1, offF_TE hp hE (Nat.le_refl _)⟩
theorem r_off56 {l : Launch} {d c fs fr p : Nat} {C : Cy} {T : Tn} {h : Hp} (H : TV h 56 c fs fr C T) (hp : p < 2 ^ 31) : Ey l (d + 2) mX6_putOffAll [.ref 56, .int (nI p)] h none (fun g => F6 h g ∧ TV g 56 c fs fr C (ofT C p T)) :=
  (r_putOffAll H.1.1).y.mono (fun g q => by rw [q]; exact ⟨dy_offF.1.f6, H.of hp⟩)
/-- what p gains -/
def gnT (C : Cy) (T : Tn) (p : Nat) : Int32 := 4 * bcF (btF (fun t => tO T t = nI p) (cN C)) - tH T p / 8
theorem r_gain {l : Launch} {d c fs fr p : Nat} {C : Cy} {T : Tn} {h : Hp} (W : WC C) (H : TV h 56 c fs fr C T) (hp : p < cP C) : Ex l (d + 2) mX7_gain [.ref 55, .int (nI p)] h (some (.int (gnT C T p))) h := by
  have hP := W.1.2.1
  have e0 : (nI p).toNatClampNeg = p := cl_nI (by omega)
  have hV : vp_in (nI p) 8 := vp_in_nI (by omega) (by decide)
  have hS := H.hc.2.2
  have eo : btF (fun t => hI h (56 + 5) t = nI p) (cN C) = btF (fun t => tO T t = nI p) (cN C) := btF_cong (fun t ht => by rw [(H.2.2.1 t ht).1])
  refine run_lv [some (.ref 55), some (.int (nI p))] (go := ?_)
  refine go_iconst (v := 4) dX7_gain_0 rfl ?_
  refine go_aloadn dX7_gain_1 rfl ?_
  refine sg_getR dX7_gain_2 fX7_12 rfl (tr_L rfl) hS (tr_r0 hS rfl) ?_
  refine go_iloadn dX7_gain_5 rfl ?_
  refine sg_cVi (M' := mX6_ownsBits) ([.int (nI p)]) dX7_gain_6 lX7_91 vX6_ownsBits (tw_L (at56)) (by decide) rfl hS (r_ownsBits H.1.1) rfl (Nat.le_of_ble_eq_true rfl) (Nat.zero_le _) (Nat.zero_le _) ?_
  rw [eo]
  refine sg_cSi (M' := mJ6_bitCount_0f7a4) ([.int _]) dX7_gain_9 lX7_94 sJ6_bitCount_0f7a4 hS (r_bitCount) rfl (Nat.le_of_ble_eq_true rfl) (Nat.zero_le _) (Nat.zero_le _) ?_
  refine go_imul dX7_gain_12 ?_
  refine go_aloadn dX7_gain_13 rfl ?_
  refine sg_getR dX7_gain_14 fX7_12 rfl (tr_L rfl) hS (tr_r0 hS rfl) ?_
  refine sg_getR dX7_gain_17 fX7_77 rfl (tw_L (at56)) hS (tw_r4 hS (at56)) ?_
  refine go_iloadn dX7_gain_20 rfl ?_
  refine sg_iald dX7_gain_21 (tw_4 (at56)) hS (hV) ?_
  rw [e0, (H.2.2.2.1 p hp).1]
  refine go_bipush (v := 8) dX7_gain_22 rfl ?_
  refine go_idiv dX7_gain_24 (by decide) ?_
  refine go_isub dX7_gain_25 ?_
  refine go_ireturn dX7_gain_26 rfl rfl (Nat.zero_le _) (Nat.zero_le _) ?_
  exact ⟨rfl, rfl⟩
/-- the town behind the game's days, by the couple k of choices -/
def gmT (C : Cy) (T : Tn) (p o k : Nat) : Tn := dnT C ((fun T => if k % 2 = 1 then ofT C o T else T) (if k / 2 = 1 then ofT C p (t0 T) else t0 T)) 12
theorem k4a : ∀ k : Fin 4, (nI k.val &&& 2 = 0 ↔ ¬ k.val / 2 = 1) ∧ (nI k.val &&& 1 = 0 ↔ ¬ k.val % 2 = 1) := by decide
theorem r_play {l : Launch} {d c fs fr p o : Nat} {C : Cy} {T : Tn} {h : Hp} (W : WC C) (H : TV h 30 c fs fr C T) (hD : tD T + 100 < 2 ^ 30) (hp : p < cP C) (ho : o < cP C) : Ey l (d + 7) mX7_play [.ref 55, .ref 30, .int (nI p), .int (nI o)] h none (fun g => Fc h g ∧ ∀ j, j < 4 → hI g 68 j = gnT C (gmT C T p o j) p ∧ hI g 69 j = gnT C (gmT C T p o j) o) := by
  have hP := W.1.2.1
  refine run_lv [some (.ref 55), some (.ref 30), some (.int (nI p)), some (.int (nI o)), none] (go := ?_)
  refine go_iconst (v := 0) dX7_play_0 rfl ?_
  refine go_ist4 dX7_play_1 rfl ?_
  refine go_loopR (lvf := fun k => [some (.ref 55), some (.ref 30), some (.int (nI p)), some (.int (nI o)), some (.int (nI k))]) 4 (fun k g => Fc h g ∧ ∀ j, j < k → hI g 68 j = gnT C (gmT C T p o j) p ∧ hI g 69 j = gnT C (gmT C T p o j) o) (fun k g hk hh ih => ?_) (fun g hh => ?_) 0 h (Nat.zero_le _) ⟨Fq.rf, fun _ q => absurd q (by omega)⟩
  · obtain ⟨F, hh⟩ := hh
    have H2 := H.fc F
    have hS := H2.hc.2.2
    obtain ⟨ka, kb⟩ := k4a ⟨k, hk⟩
    dsimp only at ka kb
    have hk4 : vp_in (nI k) 4 := vp_in_nI hk (by decide)
    have e0 : (nI k).toNatClampNeg = k := cl_nI (by omega)
    have last : ∀ g', F6 g g' → TV g' 56 c fs fr C ((fun T => if k % 2 = 1 then ofT C o T else T) (if k / 2 = 1 then ofT C p (t0 T) else t0 T)) → Go l (rmOf (d + 7) (0, 0)) mX7_play (hN h) (Zm (0, 0) (fun v h1 => v = none ∧ Fc h h1 ∧ ∀ j, j < 4 → hI h1 68 j = gnT C (gmT C T p o j) p ∧ hI h1 69 j = gnT C (gmT C T p o j) o) noX) 44 [some (.ref 55), some (.ref 30), some (.int (nI p)), some (.int (nI o)), some (.int (nI k))] [] g' 0 0 := by
      intro g' F' H3
      have hS := H3.hc.2.2
      have hd3 : tD ((fun T => if k % 2 = 1 then ofT C o T else T) (if k / 2 = 1 then ofT C p (t0 T) else t0 T)) = tD T := by dsimp only; split <;> split <;> rfl
      refine go_aloadn dX7_play_44 rfl ?_
      refine go_bipush (v := 12) dX7_play_45 rfl ?_
      refine sg_rV0 (M' := mX7_passDays) ([.int (nI 12)]) dX7_play_47 lX7_32 vX7_passDays (tr_L rfl) (by decide) rfl hS (r_passDays W H3 (by rw [hd3]; omega)) rfl (Nat.le_of_ble_eq_true rfl) (Nat.zero_le _) (Nat.zero_le _) (fun g2 F2 => ?_)
      have H4 : TV g2 56 c fs fr C (gmT C T p o k) := F2.2
      have hS := H4.hc.2.2
      refine go_aloadn dX7_play_50 rfl ?_
      refine sg_getR dX7_play_51 fX7_18 rfl (tr_L rfl) hS (tr_r2 hS rfl) ?_
      refine go_iload dX7_play_54 rfl ?_
      refine go_aloadn dX7_play_56 rfl ?_
      refine go_iloadn dX7_play_57 rfl ?_
      refine sg_cVi (M' := mX7_gain) ([.int (nI p)]) dX7_play_58 lX7_87 vX7_gain (tr_L rfl) (by decide) rfl hS (r_gain W H4 hp) rfl (Nat.le_of_ble_eq_true rfl) (Nat.zero_le _) (Nat.zero_le _) ?_
      refine sg_iast dX7_play_61 (tr_2 rfl) hS (hk4) ?_
      rw [e0]
      have H5 : TV (uI g2 68 k (gnT C (gmT C T p o k) p)) 56 c fs fr C (gmT C T p o k) := tv_out H4 (by decide)
      have hS := H5.hc.2.2
      refine go_aloadn dX7_play_62 rfl ?_
      refine sg_getR dX7_play_63 fX7_22 rfl (tr_L rfl) hS (tr_r3 hS rfl) ?_
      refine go_iload dX7_play_66 rfl ?_
      refine go_aloadn dX7_play_68 rfl ?_
      refine go_iloadn dX7_play_69 rfl ?_
      refine sg_cVi (M' := mX7_gain) ([.int (nI o)]) dX7_play_70 lX7_87 vX7_gain (tr_L rfl) (by decide) rfl hS (r_gain W H5 ho) rfl (Nat.le_of_ble_eq_true rfl) (Nat.zero_le _) (Nat.zero_le _) ?_
      refine sg_iast dX7_play_73 (tr_3 rfl) hS (hk4) ?_
      refine go_iinc4 (c1 := 1) dX7_play_74 rfl rfl ?_
      refine go_goto (tgt := 3) dX7_play_77 (by decide) ?_
      exact go_cong (ih (uI (uI g2 68 k (gnT C (gmT C T p o k) p)) 69 k (gnT C (gmT C T p o k) o)) ⟨(((F.tr (F6c F')).tr (F6c F2.1)).uI (by unfold Sc; omega)).uI (by unfold Sc; omega), fun j hj => by
      have a1 : ∀ x, x = 68 ∨ x = 69 → hI g2 x j = hI g x j := fun x hx => by rw [F2.1.2.2.2 x j (by unfold S6; omega), F'.2.2.2 x j (by unfold S6; omega)]
      by_cases e : j = k
      · subst e; exact ⟨by rw [hI_uI_ne (by omega), hI_uI_eq], hI_uI_eq⟩
      · rw [hI_uI_ne (by omega), hI_uI_ne (by omega), hI_uI_ne (by omega), hI_uI_ne (by omega), a1 68 (Or.inl rfl), a1 69 (Or.inr rfl)]; exact hh j (by omega)⟩) (by simp [nI_1]) (by rw [e0])
    have mid : ∀ g', F6 g g' → TV g' 56 c fs fr C (if k / 2 = 1 then ofT C p (t0 T) else t0 T) → Go l (rmOf (d + 7) (0, 0)) mX7_play (hN h) (Zm (0, 0) (fun v h1 => v = none ∧ Fc h h1 ∧ ∀ j, j < 4 → hI h1 68 j = gnT C (gmT C T p o j) p ∧ hI h1 69 j = gnT C (gmT C T p o j) o) noX) 29 [some (.ref 55), some (.ref 30), some (.int (nI p)), some (.int (nI o)), some (.int (nI k))] [] g' 0 0 := by
      intro g' F' H3
      have hS := H3.hc.2.2
      refine go_iload dX7_play_29 rfl ?_
      refine go_iconst (v := 1) dX7_play_31 rfl ?_
      refine go_iand dX7_play_32 ?_
      refine go_if_eq (tgt := 44) dX7_play_33 (by decide) (fun c33 => ?_) (fun c33 => ?_)
      · exact last g' F' (by dsimp only; rw [if_neg (kb.mp c33)]; exact H3)
      · refine go_aloadn dX7_play_36 rfl ?_
        refine sg_getR dX7_play_37 fX7_12 rfl (tr_L rfl) hS (tr_r0 hS rfl) ?_
        refine go_iloadn dX7_play_40 rfl ?_
        refine sg_rV0 (M' := mX6_putOffAll) ([.int (nI o)]) dX7_play_41 lX7_84 vX6_putOffAll (tw_L (at56)) (by decide) rfl hS (r_off56 H3 (by omega)) rfl (Nat.le_of_ble_eq_true rfl) (Nat.zero_le _) (Nat.zero_le _) (fun g2 F2 => ?_)
        exact last g2 (F'.tr F2.1) (by dsimp only; rw [if_pos (Decidable.not_not.mp (mt kb.mpr c33))]; exact F2.2)
    refine go_iload dX7_play_3 rfl ?_
    refine go_iconst (v := 4) dX7_play_5 rfl ?_
    refine go_icmp_ge (tgt := 80) dX7_play_6 (by decide) (fun c6 => ?_) (fun c6 => ?_)
    · exact absurd c6 (nI_ge (b := 4) hk (by decide))
    · refine go_aloadn dX7_play_9 rfl ?_
      refine go_aloadn dX7_play_10 rfl ?_
      refine sg_rV0 (M' := mX7_start) ([.ref 30]) dX7_play_11 lX7_29 vX7_start (tr_L rfl) (by decide) rfl hS (r_start H2) rfl (Nat.le_of_ble_eq_true rfl) (Nat.zero_le _) (Nat.zero_le _) (fun g1 F1 => ?_)
      have hS := F1.2.hc.2.2
      refine go_iload dX7_play_14 rfl ?_
      refine go_iconst (v := 2) dX7_play_16 rfl ?_
      refine go_iand dX7_play_17 ?_
      refine go_if_eq (tgt := 29) dX7_play_18 (by decide) (fun c18 => ?_) (fun c18 => ?_)
      · exact mid g1 F1.1 (by rw [if_neg (ka.mp c18)]; exact F1.2)
      · refine go_aloadn dX7_play_21 rfl ?_
        refine sg_getR dX7_play_22 fX7_12 rfl (tr_L rfl) hS (tr_r0 hS rfl) ?_
        refine go_iloadn dX7_play_25 rfl ?_
        refine sg_rV0 (M' := mX6_putOffAll) ([.int (nI p)]) dX7_play_26 lX7_84 vX6_putOffAll (tw_L (at56)) (by decide) rfl hS (r_off56 F1.2 (by omega)) rfl (Nat.le_of_ble_eq_true rfl) (Nat.zero_le _) (Nat.zero_le _) (fun g2 F2 => ?_)
        exact mid g2 (F1.1.tr F2.1) (by rw [if_pos (Decidable.not_not.mp (mt ka.mpr c18))]; exact F2.2)
  · refine go_iload dX7_play_3 rfl ?_
    refine go_iconst (v := 4) dX7_play_5 rfl ?_
    refine go_icmp_ge (tgt := 80) dX7_play_6 (by decide) (fun c6 => ?_) (fun c6 => ?_)
    · refine go_return dX7_play_80 rfl (Nat.zero_le _) (Nat.zero_le _) ?_
      exact ⟨rfl, hh⟩
    · exact absurd (by decide) c6
/-- a couple at which neither would rather choose otherwise -/
def rsB (A B : Nat → Int32) (k : Nat) : Bool := !decide (A k < A (k ^^^ 2)) && !decide (B k < B (k ^^^ 1))
theorem k4x : ∀ k : Fin 4, nI k.val ^^^ 2 = nI (k.val ^^^ 2) ∧ nI k.val ^^^ 1 = nI (k.val ^^^ 1) ∧ k.val ^^^ 2 < 4 ∧ k.val ^^^ 1 < 4 := by decide
theorem r_rests {l : Launch} {d k : Nat} {h : Hp} (hS : St h) (hk : k < 4) : Ex l (d + 1) mX7_rests [.ref 55, .int (nI k)] h (some (.int (if rsB (hI h 68) (hI h 69) k then 1 else 0))) h := by
  obtain ⟨x1, x2, x3, x4⟩ := k4x ⟨k, hk⟩
  dsimp only at x1 x2 x3 x4
  have hk4 : vp_in (nI k) 4 := vp_in_nI hk (by decide)
  have e0 : (nI k).toNatClampNeg = k := cl_nI (by omega)
  have e2 : (nI (k ^^^ 2)).toNatClampNeg = k ^^^ 2 := cl_nI (by omega)
  have e1 : (nI (k ^^^ 1)).toNatClampNeg = k ^^^ 1 := cl_nI (by omega)
  refine run_lv [some (.ref 55), some (.int (nI k))] (go := ?_)
  refine go_aloadn dX7_rests_0 rfl ?_
  refine sg_getR dX7_rests_1 fX7_18 rfl (tr_L rfl) hS (tr_r2 hS rfl) ?_
  refine go_iloadn dX7_rests_4 rfl ?_
  refine sg_iald dX7_rests_5 (tr_2 rfl) hS (hk4) ?_
  rw [e0]
  refine go_aloadn dX7_rests_6 rfl ?_
  refine sg_getR dX7_rests_7 fX7_18 rfl (tr_L rfl) hS (tr_r2 hS rfl) ?_
  refine go_iloadn dX7_rests_10 rfl ?_
  refine go_iconst (v := 2) dX7_rests_11 rfl ?_
  refine go_ixor dX7_rests_12 ?_
  rw [x1]
  refine sg_iald dX7_rests_13 (tr_2 rfl) hS (vp_in_nI x3 (by decide)) ?_
  rw [e2]
  refine go_icmp_lt (tgt := 38) dX7_rests_14 (by decide) (fun c14 => ?_) (fun c14 => ?_)
  · refine go_iconst (v := 0) dX7_rests_38 rfl ?_
    refine go_ireturn dX7_rests_39 rfl rfl (Nat.zero_le _) (Nat.zero_le _) ?_
    exact ⟨by unfold rsB; simp [*], rfl⟩
  · refine go_aloadn dX7_rests_17 rfl ?_
    refine sg_getR dX7_rests_18 fX7_22 rfl (tr_L rfl) hS (tr_r3 hS rfl) ?_
    refine go_iloadn dX7_rests_21 rfl ?_
    refine sg_iald dX7_rests_22 (tr_3 rfl) hS (hk4) ?_
    rw [e0]
    refine go_aloadn dX7_rests_23 rfl ?_
    refine sg_getR dX7_rests_24 fX7_22 rfl (tr_L rfl) hS (tr_r3 hS rfl) ?_
    refine go_iloadn dX7_rests_27 rfl ?_
    refine go_iconst (v := 1) dX7_rests_28 rfl ?_
    refine go_ixor dX7_rests_29 ?_
    rw [x2]
    refine sg_iald dX7_rests_30 (tr_3 rfl) hS (vp_in_nI x4 (by decide)) ?_
    rw [e1]
    refine go_icmp_lt (tgt := 38) dX7_rests_31 (by decide) (fun c31 => ?_) (fun c31 => ?_)
    · refine go_iconst (v := 0) dX7_rests_38 rfl ?_
      refine go_ireturn dX7_rests_39 rfl rfl (Nat.zero_le _) (Nat.zero_le _) ?_
      exact ⟨by unfold rsB; simp [*], rfl⟩
    · refine go_iconst (v := 1) dX7_rests_34 rfl ?_
      refine go_goto (tgt := 39) dX7_rests_35 (by decide) ?_
      refine go_ireturn dX7_rests_39 rfl rfl (Nat.zero_le _) (Nat.zero_le _) ?_
      exact ⟨by unfold rsB; simp [*], rfl⟩
def car (A B : Nat → Int32) : Nat → Nat := foF (fun k a => if rsB A B k then a + 1 else a) 0
theorem r_couplesAtRest {l : Launch} {d : Nat} {h : Hp} (hS : St h) : Ex l (d + 2) mX7_couplesAtRest [.ref 55] h (some (.int (nI (car (hI h 68) (hI h 69) 4)))) h := by
  refine run_lv [some (.ref 55), none, none] (go := ?_)
  refine go_iconst (v := 0) dX7_couplesAtRest_0 rfl ?_
  refine go_ist1 dX7_couplesAtRest_1 rfl ?_
  refine go_iconst (v := 0) dX7_couplesAtRest_2 rfl ?_
  refine go_ist2 dX7_couplesAtRest_3 rfl ?_
  refine go_loop (lvf := fun k => [some (.ref 55), some (.int (nI (car (hI h 68) (hI h 69) k))), some (.int (nI k))]) (hf := fun _ => h) 4 (fun _ => True) (fun k hk _ ih => ?_) (fun _ => ?_) 0 (Nat.zero_le _) trivial
  · have es : car (hI h 68) (hI h 69) (k + 1) = if rsB (hI h 68) (hI h 69) k then car (hI h 68) (hI h 69) k + 1 else car (hI h 68) (hI h 69) k := rfl
    rw [es] at ih
    refine go_iloadn dX7_couplesAtRest_4 rfl ?_
    refine go_iconst (v := 4) dX7_couplesAtRest_5 rfl ?_
    refine go_icmp_ge (tgt := 26) dX7_couplesAtRest_6 (by decide) (fun c6 => ?_) (fun c6 => ?_)
    · exact absurd c6 (nI_ge (b := 4) hk (by decide))
    · refine go_aloadn dX7_couplesAtRest_9 rfl ?_
      refine go_iloadn dX7_couplesAtRest_10 rfl ?_
      refine sg_cVi (M' := mX7_rests) ([.int (nI k)]) dX7_couplesAtRest_11 lX7_99 vX7_rests (tr_L rfl) (by decide) rfl hS (r_rests hS hk) rfl (Nat.le_of_ble_eq_true rfl) (Nat.zero_le _) (Nat.zero_le _) ?_
      refine go_if_eq (tgt := 20) dX7_couplesAtRest_14 (by decide) (fun c14 => ?_) (fun c14 => ?_)
      · refine go_iinc2 (c1 := 1) dX7_couplesAtRest_20 rfl rfl ?_
        refine go_goto (tgt := 4) dX7_couplesAtRest_23 (by decide) ?_
        exact go_cong (ih trivial) (by by_cases q : rsB (hI h 68) (hI h 69) k = true; (· rw [if_pos q] at c14 ⊢; first | exact absurd c14 (by decide) | simp [nI_1]); (rw [if_neg q] at c14 ⊢; first | exact absurd rfl c14 | simp [nI_1])) rfl
      · refine go_iinc1 (c1 := 1) dX7_couplesAtRest_17 rfl rfl ?_
        refine go_iinc2 (c1 := 1) dX7_couplesAtRest_20 rfl rfl ?_
        refine go_goto (tgt := 4) dX7_couplesAtRest_23 (by decide) ?_
        exact go_cong (ih trivial) (by by_cases q : rsB (hI h 68) (hI h 69) k = true; (· rw [if_pos q] at c14 ⊢; first | exact absurd c14 (by decide) | simp [nI_1]); (rw [if_neg q] at c14 ⊢; first | exact absurd rfl c14 | simp [nI_1])) rfl
  · refine go_iloadn dX7_couplesAtRest_4 rfl ?_
    refine go_iconst (v := 4) dX7_couplesAtRest_5 rfl ?_
    refine go_icmp_ge (tgt := 26) dX7_couplesAtRest_6 (by decide) (fun c6 => ?_) (fun c6 => ?_)
    · refine go_iloadn dX7_couplesAtRest_26 rfl ?_
      refine go_ireturn dX7_couplesAtRest_27 rfl rfl (Nat.zero_le _) (Nat.zero_le _) ?_
      exact ⟨rfl, rfl⟩
    · exact absurd (by decide) c6
theorem k4r : ∀ k : Fin 4, 10 * (nI k.val >>> ((1 : Int32) &&& 31)) + (nI k.val &&& 1) = nI (10 * (k.val / 2) + k.val % 2) := by decide
theorem r_firstCoupleAtRest {l : Launch} {d : Nat} {h : Hp} (hS : St h) : Ex l (d + 2) mX7_firstCoupleAtRest [.ref 55] h (some (.int (oN (fun k => nI (10 * (k / 2) + k % 2)) (fsN (fun k => rsB (hI h 68) (hI h 69) k = true) 4)))) h := by
  refine run_lv [some (.ref 55), none] (go := ?_)
  refine go_iconst (v := 0) dX7_firstCoupleAtRest_0 rfl ?_
  refine go_ist1 dX7_firstCoupleAtRest_1 rfl ?_
  refine go_loop (lvf := fun k => [some (.ref 55), some (.int (nI k))]) (hf := fun _ => h) 4 (fun k => ∀ j, j < k → ¬ rsB (hI h 68) (hI h 69) j = true) (fun k hk hh ih => ?_) (fun hh => ?_) 0 (Nat.zero_le _) (fun _ q => absurd q (by omega))
  · have kr := k4r ⟨k, hk⟩
    dsimp only at kr
    refine go_iloadn dX7_firstCoupleAtRest_2 rfl ?_
    refine go_iconst (v := 4) dX7_firstCoupleAtRest_3 rfl ?_
    refine go_icmp_ge (tgt := 32) dX7_firstCoupleAtRest_4 (by decide) (fun c4 => ?_) (fun c4 => ?_)
    · exact absurd c4 (nI_ge (b := 4) hk (by decide))
    · refine go_aloadn dX7_firstCoupleAtRest_7 rfl ?_
      refine go_iloadn dX7_firstCoupleAtRest_8 rfl ?_
      refine sg_cVi (M' := mX7_rests) ([.int (nI k)]) dX7_firstCoupleAtRest_9 lX7_99 vX7_rests (tr_L rfl) (by decide) rfl hS (r_rests hS hk) rfl (Nat.le_of_ble_eq_true rfl) (Nat.zero_le _) (Nat.zero_le _) ?_
      refine go_if_eq (tgt := 26) dX7_firstCoupleAtRest_12 (by decide) (fun c12 => ?_) (fun c12 => ?_)
      · refine go_iinc1 (c1 := 1) dX7_firstCoupleAtRest_26 rfl rfl ?_
        refine go_goto (tgt := 2) dX7_firstCoupleAtRest_29 (by decide) ?_
        exact go_cong (ih (fun j hj => by by_cases e : j = k; (· subst e; intro q; rw [if_pos q] at c12; exact absurd c12 (by decide)); exact hh j (by omega))) (by simp [nI_1]) rfl
      · refine go_bipush (v := 10) dX7_firstCoupleAtRest_15 rfl ?_
        refine go_iloadn dX7_firstCoupleAtRest_17 rfl ?_
        refine go_iconst (v := 1) dX7_firstCoupleAtRest_18 rfl ?_
        refine go_ishr dX7_firstCoupleAtRest_19 ?_
        refine go_imul dX7_firstCoupleAtRest_20 ?_
        refine go_iloadn dX7_firstCoupleAtRest_21 rfl ?_
        refine go_iconst (v := 1) dX7_firstCoupleAtRest_22 rfl ?_
        refine go_iand dX7_firstCoupleAtRest_23 ?_
        refine go_iadd dX7_firstCoupleAtRest_24 ?_
        refine go_ireturn dX7_firstCoupleAtRest_25 rfl rfl (Nat.zero_le _) (Nat.zero_le _) ?_
        exact ⟨by rw [fs_some hk (by by_cases q : rsB (hI h 68) (hI h 69) k = true; exact q; rw [if_neg q] at c12; exact absurd rfl c12) hh, kr]; rfl, rfl⟩
  · refine go_iloadn dX7_firstCoupleAtRest_2 rfl ?_
    refine go_iconst (v := 4) dX7_firstCoupleAtRest_3 rfl ?_
    refine go_icmp_ge (tgt := 32) dX7_firstCoupleAtRest_4 (by decide) (fun c4 => ?_) (fun c4 => ?_)
    · refine go_iconst (v := -1) dX7_firstCoupleAtRest_32 rfl ?_
      refine go_ireturn dX7_firstCoupleAtRest_33 rfl rfl (Nat.zero_le _) (Nat.zero_le _) ?_
      exact ⟨by rw [fs_none hh]; rfl, rfl⟩
    · exact absurd (by decide) c4
