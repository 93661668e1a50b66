/-! Trials: days that may come -/
theorem at30 : TownAt 30 := Or.inl rfl
theorem at56 : TownAt 56 := Or.inr rfl
theorem at42 : ActsAt 42 := Or.inl rfl
theorem at49 : ActsAt 49 := Or.inr rfl
theorem at44 : NotesAt 44 := Or.inl rfl
theorem at51 : NotesAt 51 := Or.inr rfl
/-- what the class's questions may change: scratch rows -/
def Sc (a : Nat) : Prop := 38 ≤ a ∧ a ≤ 41 ∨ 55 ≤ a ∧ a ≤ 76
def Fq (S : Nat → Prop) (g g' : Hp) : Prop := (∀ a k, ¬ (a = 56 ∧ k = 0) → hR g' a k = hR g a k) ∧ hN g' = hN g ∧ hJ g' = hJ g ∧ ∀ a k, ¬ S a → hI g' a k = hI g a k
/-- the trial town -/
def S6 (a : Nat) : Prop := 56 ≤ a ∧ a ≤ 67
abbrev Fc (g g' : Hp) : Prop := Fq Sc g g'
abbrev F6 (g g' : Hp) : Prop := Fq S6 g g'
theorem Fq.rf {S : Nat → Prop} {g : Hp} : Fq S g g := ⟨fun _ _ _ => rfl, rfl, rfl, fun _ _ _ => rfl⟩
theorem Fq.tr {S : Nat → Prop} {g g1 g2 : Hp} (h1 : Fq S g g1) (h2 : Fq S g1 g2) : Fq S g g2 := ⟨fun a k q => (h2.1 a k q).trans (h1.1 a k q), h2.2.1.trans h1.2.1, h2.2.2.1.trans h1.2.2.1, fun a k q => (h2.2.2.2 a k q).trans (h1.2.2.2 a k q)⟩
theorem Fq.sub {S S' : Nat → Prop} {g g' : Hp} (h : Fq S g g') (i : ∀ a, S a → S' a) : Fq S' g g' := ⟨h.1, h.2.1, h.2.2.1, fun a k q => h.2.2.2 a k (fun z => q (i a z))⟩
theorem Fr.fq {S : Nat → Prop} {g g' : Hp} (h : Fr S g g') : Fq S g g' := ⟨fun a k _ => by rw [h.1], h.2.1, h.2.2.1, fun a k q => h.2.2.2 a k q⟩
theorem Fr.fc {S : Nat → Prop} {g g' : Hp} (h : Fr S g g') (i : ∀ a, S a → Sc a) : Fc g g' := h.fq.sub i
theorem FrT.f6 {g g' : Hp} (h : FrT 56 g g') : F6 g g' := (Fr.fq (S := Tt 56) h).sub (fun a q => by unfold Tt at q; unfold S6; omega)
theorem Fq.uI {S : Nat → Prop} {g g1 : Hp} (h : Fq S g g1) {a k : Nat} {v : Int32} (ha : S a) : Fq S g (uI g1 a k v) := h.tr (Fr.rf.uI (S := S) ha).fq
theorem Fq.uF {S : Nat → Prop} {g g1 : Hp} (h : Fq S g g1) {a : Nat} {f : Nat → Int32} (ha : S a) : Fq S g (uF g1 a f) := h.tr (Fr.rf.uF (S := S) ha).fq
theorem Fq.St {S : Nat → Prop} {g g' : Hp} (h : Fq S g g') (hS : St g) : St g' := ⟨h.2.1.trans hS.1, fun q hq => by rw [h.1 _ _ (frefs_0 q hq).2.1]; exact hS.2 q hq⟩
theorem Fq.I {S : Nat → Prop} {g g' : Hp} (h : Fq S g g') {a : Nat} (q : ¬ S a) : hI g' a = hI g a := funext fun k => h.2.2.2 a k q
theorem F6c {g g' : Hp} (h : F6 g g') : Fc g g' := h.sub (fun a q => by unfold S6 at q; unfold Sc; omega)
theorem sc_c {c i : Nat} (hc : CityAt c) (hi : i ≤ 11) : ¬ Sc (c + i) := by unfold Sc; rcases hc with rfl | rfl <;> omega
theorem CC.fc {h g : Hp} {c fs fr : Nat} {C : Cy} (H : CC h c fs fr C) (hc : CityAt c) (F : Fc h g) : CC g c fs fr C := by
  have e : ∀ i, i ≤ 11 → ∀ k, hI g (c + i) k = hI h (c + i) k := fun i hi k => F.2.2.2 _ _ (sc_c hc hi)
  obtain ⟨⟨h1, h2⟩, h3, h4, h5, h6⟩ := H
  refine ⟨⟨(e 0 (by omega) 0).trans h1, (e 0 (by omega) 3).trans h2⟩, fun p hp => ?_, fun t ht => ?_, fun j hj => ?_, fun j hj => ?_⟩
  · rw [e 2 (by omega), e 3 (by omega)]; exact h3 p hp
  · rw [e 5 (by omega)]; exact h4 t ht
  · rw [e 9 (by omega)]; exact h5 j hj
  · rw [e 9 (by omega)]; exact h6 j hj
theorem RU.fc {h g : Hp} {c fs ns fr nr : Nat} (H : RU h c fs ns fr nr) (hc : CityAt c) (F : Fc h g) : RU g c fs ns fr nr := by
  unfold RU; rw [F.I (sc_c hc (by omega)), F.I (sc_c hc (by omega))]; exact H
theorem TV.fc {h g : Hp} {c fs fr : Nat} {C : Cy} {T : Tn} (H : TV h 30 c fs fr C T) (F : Fc h g) : TV g 30 c fs fr C T := by
  obtain ⟨⟨⟨h1, h2, h3, h4, h5, h6, h7, h8⟩, ⟨k1, k2⟩, U, Wr, hD, hDl⟩, hC, ⟨e1, e2, e3, e4⟩⟩ := H
  have e : ∀ i, i ≤ 7 → ∀ k, hI g (30 + i) k = hI h (30 + i) k := fun i hi k => F.2.2.2 _ _ (by unfold Sc; omega)
  have ec : ∀ i, i ≤ 11 → ∀ k, hI g (c + i) k = hI h (c + i) k := fun i hi k => F.2.2.2 _ _ (sc_c h3 hi)
  refine ⟨⟨⟨F.St h1, h2, h3, by rw [F.1 _ _ (by omega)]; exact h4, (ec 0 (by omega) 2).trans h5, h6, (ec 0 (by omega) 1).trans h7, h8⟩, ⟨fun p hp => by rw [ec 3 (by omega)]; exact k1 p hp, fun i hi => by rw [e 3 (by omega)]; exact k2 i hi⟩, U.fc h3 F, fun t ht => by rw [e 6 (by omega)]; exact Wr t ht, (e 0 (by omega) 1).trans hD, hDl⟩, hC.fc h3 F, ⟨fun t ht => ?_, fun p hp => ?_, fun i hi => ?_, (e 0 (by omega) 2).trans e4⟩⟩
  · rw [e 5 (by omega), e 6 (by omega), e 7 (by omega), e 4 (by omega)]; exact e1 t ht
  · rw [e 2 (by omega), e 1 (by omega)]; exact e2 p hp
  · rw [e 3 (by omega)]; exact e3 i hi
/-- no changes yet -/
def t0 (T : Tn) : Tn := (tD T, 0, T.2.2)
theorem hI_cpH {g : Hp} {a b n x k : Nat} : hI (cpH g a b n) x k = if x = b then (if k < n then hI g a k else hI g b k) else hI g x k := by
  unfold cpH
  by_cases e : x = b
  · subst e; rw [hI_uF_eq, if_pos rfl]; rfl
  · rw [hI_uF_ne e, if_neg e]
theorem cf_f6 {h : Hp} {c : Nat} : F6 h (cfH h 56 30 c) := by
  refine ⟨fun a k q => ?_, rfl, rfl, fun a k q => ?_⟩
  · show up2 h.2.1 56 0 (some c) a k = h.2.1 a k
    simp only [up2, if_neg q]
  · have : ∀ i, 56 ≤ i → i ≤ 67 → a ≠ i := fun i h1 h2 e => q (by unfold S6; omega)
    unfold cfH rf0
    simp only [hI_cpH, hI_uI]
    have e1 : hI (uR h 56 0 (some c)) a k = hI h a k := rfl
    simp [this 56 (by omega) (by omega), this 57 (by omega) (by omega), this 58 (by omega) (by omega), this 59 (by omega) (by omega), this 60 (by omega) (by omega), this 61 (by omega) (by omega), this 62 (by omega) (by omega), this 63 (by omega) (by omega), e1]
theorem cf_at {h : Hp} {c k : Nat} : hI (cfH h 56 30 c) 56 1 = hI h 30 1 ∧ hI (cfH h 56 30 c) 56 2 = 0 ∧ (k < 8 → hI (cfH h 56 30 c) 57 k = hI h 31 k ∧ hI (cfH h 56 30 c) 58 k = hI h 32 k) ∧ (k < 48 → hI (cfH h 56 30 c) 59 k = hI h 33 k) ∧ (k < 10 → hI (cfH h 56 30 c) 60 k = hI h 34 k ∧ hI (cfH h 56 30 c) 61 k = hI h 35 k ∧ hI (cfH h 56 30 c) 62 k = hI h 36 k ∧ hI (cfH h 56 30 c) 63 k = hI h 37 k) := by
  have e1 : ∀ a k, hI (uR h 56 0 (some c)) a k = hI h a k := fun _ _ => rfl
  unfold cfH rf0
  refine ⟨?_, ?_, fun q => ⟨?_, ?_⟩, fun q => ?_, fun q => ⟨?_, ?_, ?_, ?_⟩⟩ <;> simp [hI_cpH, hI_uI, e1, *]
theorem TV.cf {h : Hp} {c fs fr : Nat} {C : Cy} {T : Tn} (H : TV h 30 c fs fr C T) : TV (cfH h 56 30 c) 56 c fs fr C (t0 T) := by
  have F := F6c (cf_f6 (h := h) (c := c))
  obtain ⟨⟨⟨h1, h2, h3, h4, h5, h6, h7, h8⟩, ⟨k1, k2⟩, U, Wr, hD, hDl⟩, hC, ⟨e1, e2, e3, e4⟩⟩ := H
  have ec : ∀ i, i ≤ 11 → ∀ k, hI (cfH h 56 30 c) (c + i) k = hI h (c + i) k := fun i hi k => F.2.2.2 _ _ (sc_c h3 hi)
  have a := fun k => cf_at (h := h) (c := c) (k := k)
  refine ⟨⟨⟨F.St h1, at56, h3, ?_, (ec 0 (by omega) 2).trans h5, h6, (ec 0 (by omega) 1).trans h7, h8⟩, ⟨fun p hp => by rw [ec 3 (by omega)]; exact k1 p hp, fun i hi => by rw [(a i).2.2.2.1 (by omega)]; exact k2 i hi⟩, U.fc h3 F, fun t ht => by rw [((a t).2.2.2.2 (by omega)).2.2.1]; exact Wr t ht, ((a 0).1).trans hD, hDl⟩, hC.fc h3 F, ⟨fun t ht => ?_, fun p hp => ?_, fun i hi => ?_, (a 0).2.1⟩⟩
  · show up2 h.2.1 56 0 (some c) 56 0 = some c
    simp [up2]
  · obtain ⟨z1, z2, z3, z4⟩ := (a t).2.2.2.2 (by omega)
    rw [z1, z2, z3, z4]; exact e1 t ht
  · obtain ⟨z1, z2⟩ := (a p).2.2.1 (by omega)
    rw [z1, z2]; exact e2 p hp
  · rw [(a i).2.2.2.1 (by omega)]; exact e3 i hi
theorem TV.hc {h : Hp} {b c fs fr : Nat} {C : Cy} {T : Tn} (H : TV h b c fs fr C T) : CityAt c ∧ hR h b 0 = some c ∧ St h := ⟨H.1.1.2.2.1, H.1.1.2.2.2.1, H.1.1.1⟩
theorem r_start {l : Launch} {d c fs fr : Nat} {C : Cy} {T : Tn} {h : Hp} (H : TV h 30 c fs fr C T) : Ey l (d + 3) mX7_start [.ref 55, .ref 30] h none (fun g => F6 h g ∧ TV g 56 c fs fr C (t0 T)) := by
  obtain ⟨hc, hac, hS⟩ := H.hc
  refine run_lv [some (.ref 55), some (.ref 30)] (go := ?_)
  refine go_aloadn dX7_start_0 rfl ?_
  refine sg_getR dX7_start_1 fX7_12 rfl (tr_L rfl) hS (tr_r0 hS rfl) ?_
  refine go_aloadn dX7_start_4 rfl ?_
  refine sg_cV0 (M' := mX6_copyFrom) ([.ref 30]) dX7_start_5 lX7_25 vX6_copyFrom (tw_L (at56)) (by decide) rfl hS (r_copyFrom hS at56 at30 hc hac) rfl (Nat.le_of_ble_eq_true rfl) (Nat.zero_le _) (Nat.zero_le _) ?_
  refine go_return dX7_start_8 rfl (Nat.zero_le _) (Nat.zero_le _) ?_
  exact ⟨rfl, cf_f6, H.cf⟩
theorem r_day56 {l : Launch} {d c fs fr : Nat} {C : Cy} {T : Tn} {h : Hp} {fog : Int32} (W : WC C) (H : TV h 56 c fs fr C T) (hD : tD T + 1 < 2 ^ 30) : Ey l (d + 5) mX6_passDay [.ref 56, .int fog] h none (fun g => F6 h g ∧ TV g 56 c fs fr C (dayT C fog T)) :=
  (r_passDay H.1).y.mono (fun g q => by rw [q]; exact ⟨fr_pdH.f6, H.pd W hD⟩)
theorem tD_day {C : Cy} {T : Tn} {fog : Int32} : tD (dayT C fog T) = tD T + 1 := by show tD (d1A C fog T (cN C)) + 1 = _; rw [(d1A_kept (cN C)).1]
theorem tD_dn {C : Cy} {T : Tn} {k : Nat} : tD (dnT C T k) = tD T + k := by
  induction k with
  | zero => rfl
  | succ k ih => show tD (dayT C 0 (dnT C T k)) = _; rw [tD_day, ih]; rfl
theorem r_passDays {l : Launch} {d c fs fr n : Nat} {C : Cy} {T : Tn} {h : Hp} (W : WC C) (H : TV h 56 c fs fr C T) (hD : tD T + n < 2 ^ 30) : Ey l (d + 6) mX7_passDays [.ref 55, .int (nI n)] h none (fun g => F6 h g ∧ TV g 56 c fs fr C (dnT C T n)) := by
  refine run_lv [some (.ref 55), some (.int (nI n)), none] (go := ?_)
  refine go_iconst (v := 0) dX7_passDays_0 rfl ?_
  refine go_ist2 dX7_passDays_1 rfl ?_
  refine go_loopR (lvf := fun k => [some (.ref 55), some (.int (nI n)), some (.int (nI k))]) n (fun k g => F6 h g ∧ TV g 56 c fs fr C (dnT C T k)) (fun k g hk hh ih => ?_) (fun g hh => ?_) 0 h (Nat.zero_le _) ⟨Fq.rf, H⟩
  · obtain ⟨F, H2⟩ := hh
    have hS := H2.hc.2.2
    refine go_iloadn dX7_passDays_2 rfl ?_
    refine go_iloadn dX7_passDays_3 rfl ?_
    refine go_icmp_ge (tgt := 21) dX7_passDays_4 (by decide) (fun c4 => ?_) (fun c4 => ?_)
    · exact absurd c4 (nI_ge hk (by omega))
    · refine go_aloadn dX7_passDays_7 rfl ?_
      refine sg_getR dX7_passDays_8 fX7_12 rfl (tr_L rfl) hS (tr_r0 hS rfl) ?_
      refine go_iconst (v := 0) dX7_passDays_11 rfl ?_
      refine sg_rV0 (M' := mX6_passDay) ([.int 0]) dX7_passDays_12 lX7_36 vX6_passDay (tw_L (at56)) (by decide) rfl hS (r_day56 W H2 (by rw [tD_dn]; omega)) rfl (Nat.le_of_ble_eq_true rfl) (Nat.zero_le _) (Nat.zero_le _) (fun g' F' => ?_)
      refine go_iinc2 (c1 := 1) dX7_passDays_15 rfl rfl ?_
      refine go_goto (tgt := 2) dX7_passDays_18 (by decide) ?_
      exact go_cong (ih g' ⟨F.tr F'.1, F'.2⟩) (by simp [nI_1]) rfl
  · refine go_iloadn dX7_passDays_2 rfl ?_
    refine go_iloadn dX7_passDays_3 rfl ?_
    refine go_icmp_ge (tgt := 21) dX7_passDays_4 (by decide) (fun c4 => ?_) (fun c4 => ?_)
    · refine go_return dX7_passDays_21 rfl (Nat.zero_le _) (Nat.zero_le _) ?_
      exact ⟨rfl, hh⟩
    · exact absurd (nI_le (Nat.le_refl _) (by omega)) c4
theorem r_behind {l : Launch} {d c fs fr n : Nat} {C : Cy} {T : Tn} {h : Hp} (W : WC C) (H : TV h 30 c fs fr C T) (hD : tD T + n < 2 ^ 30) : Ey l (d + 7) mX7_behind [.ref 55, .ref 30, .int (nI n)] h (some (.ref 56)) (fun g => F6 h g ∧ TV g 56 c fs fr C (dnT C (t0 T) n)) := by
  have hS := H.hc.2.2
  refine run_lv [some (.ref 55), some (.ref 30), some (.int (nI n))] (go := ?_)
  refine go_aloadn dX7_behind_0 rfl ?_
  refine go_aloadn dX7_behind_1 rfl ?_
  refine sg_rV0 (M' := mX7_start) ([.ref 30]) dX7_behind_2 lX7_29 vX7_start (tr_L rfl) (by decide) rfl hS (r_start H) rfl (Nat.le_of_ble_eq_true rfl) (Nat.zero_le _) (Nat.zero_le _) (fun g F => ?_)
  have hS := F.2.hc.2.2
  refine go_aloadn dX7_behind_5 rfl ?_
  refine go_iloadn dX7_behind_6 rfl ?_
  refine sg_rV0 (M' := mX7_passDays) ([.int (nI n)]) dX7_behind_7 lX7_32 vX7_passDays (tr_L rfl) (by decide) rfl hS (r_passDays W F.2 hD) rfl (Nat.le_of_ble_eq_true rfl) (Nat.zero_le _) (Nat.zero_le _) (fun g' F' => ?_)
  have hS := F'.2.hc.2.2
  refine go_aloadn dX7_behind_10 rfl ?_
  refine sg_getR dX7_behind_11 fX7_12 rfl (tr_L rfl) hS (tr_r0 hS rfl) ?_
  refine go_areturn dX7_behind_14 rfl (Or.inl ⟨_, rfl⟩) (Nat.zero_le _) (Nat.zero_le _) ?_
  exact ⟨rfl, F.1.tr F'.1, F'.2⟩
/-- behind how many days the thing t is no longer worn, by its new owner or not -/
def eoT (C : Cy) (T : Tn) (t : Nat) (o : Int32) : Int32 := if tB T t = -1 then -1 else match fsN (fun k => tB (dnT C T (k + 1)) t = -1) 100 with
  | some k => if (if tO (dnT C T (k + 1)) t = tB T t then (1 : Int32) else 0) = o then nI (k + 1) else -1
  | none => -1
theorem r_endOfWearing {l : Launch} {d c fs fr t : Nat} {C : Cy} {T : Tn} {h : Hp} {o : Int32} (W : WC C) (H : TV h 56 c fs fr C T) (hD : tD T + 100 < 2 ^ 30) (ht : t < cN C) : Ey l (d + 6) mX7_endOfWearing [.ref 55, .int (nI t), .int o] h (some (.int (eoT C T t o))) (F6 h) := by
  have hN := W.1.1
  have e0 : (nI t).toNatClampNeg = t := cl_nI (by omega)
  have hT : vp_in (nI t) 10 := vp_in_nI (by omega) (by decide)
  have hS := H.hc.2.2
  refine run_lv [some (.ref 55), some (.int (nI t)), some (.int o), none, none] (go := ?_)
  refine go_aloadn dX7_endOfWearing_0 rfl ?_
  refine sg_getR dX7_endOfWearing_1 fX7_12 rfl (tr_L rfl) hS (tr_r0 hS rfl) ?_
  refine sg_getR dX7_endOfWearing_4 fX7_40 rfl (tw_L (at56)) hS (tw_r8 hS (at56)) ?_
  refine go_iloadn dX7_endOfWearing_7 rfl ?_
  refine sg_iald dX7_endOfWearing_8 (tw_8 (at56)) hS (hT) ?_
  rw [e0, (H.2.2.1 t ht).2.1]
  refine go_ist3 dX7_endOfWearing_9 rfl ?_
  refine go_iconst (v := 1) dX7_endOfWearing_10 rfl ?_
  refine go_ist4 dX7_endOfWearing_11 rfl ?_
  by_cases z : tB T t = -1
  · refine go_iload dX7_endOfWearing_13 rfl ?_
    refine go_bipush (v := 100) dX7_endOfWearing_15 rfl ?_
    refine go_icmp_gt (tgt := 89) dX7_endOfWearing_17 (by decide) (fun c17 => ?_) (fun c17 => ?_)
    · exact absurd c17 (by decide)
    · refine go_aloadn dX7_endOfWearing_20 rfl ?_
      refine sg_getR dX7_endOfWearing_21 fX7_12 rfl (tr_L rfl) hS (tr_r0 hS rfl) ?_
      refine sg_getR dX7_endOfWearing_24 fX7_40 rfl (tw_L (at56)) hS (tw_r8 hS (at56)) ?_
      refine go_iloadn dX7_endOfWearing_27 rfl ?_
      refine sg_iald dX7_endOfWearing_28 (tw_8 (at56)) hS (hT) ?_
      refine go_iconst (v := -1) dX7_endOfWearing_29 rfl ?_
      refine go_icmp_eq (tgt := 89) dX7_endOfWearing_30 (by decide) (fun c30 => ?_) (fun c30 => ?_)
      · refine go_iconst (v := -1) dX7_endOfWearing_89 rfl ?_
        refine go_ireturn dX7_endOfWearing_90 rfl rfl (Nat.zero_le _) (Nat.zero_le _) ?_
        exact ⟨by rw [eoT, if_pos z], Fq.rf⟩
      · exact absurd (by rw [e0, (H.2.2.1 t ht).2.1]; exact z) c30
  refine go_loopR (lvf := fun k => [some (.ref 55), some (.int (nI t)), some (.int o), some (.int (tB T t)), some (.int (nI (k + 1)))]) 100 (fun k g => (F6 h g ∧ TV g 56 c fs fr C (dnT C T k)) ∧ ∀ j, j < k → ¬ tB (dnT C T (j + 1)) t = -1) (fun k g hk hh ih => ?_) (fun g hh => ?_) 0 h (Nat.zero_le _) ⟨⟨Fq.rf, H⟩, fun _ q => absurd q (by omega)⟩
  · obtain ⟨⟨F, H2⟩, hh⟩ := hh
    have hS := H2.hc.2.2
    have zk : ¬ tB (dnT C T k) t = -1 := by
      rcases Nat.eq_zero_or_pos k with q | q
      · subst q; exact z
      · have := hh (k - 1) (by omega); rw [show k - 1 + 1 = k by omega] at this; exact this
    refine go_iload dX7_endOfWearing_13 rfl ?_
    refine go_bipush (v := 100) dX7_endOfWearing_15 rfl ?_
    refine go_icmp_gt (tgt := 89) dX7_endOfWearing_17 (by decide) (fun c17 => ?_) (fun c17 => ?_)
    · exact absurd c17 (nI_nlt (a := 100) (by omega) (by decide))
    · refine go_aloadn dX7_endOfWearing_20 rfl ?_
      refine sg_getR dX7_endOfWearing_21 fX7_12 rfl (tr_L rfl) hS (tr_r0 hS rfl) ?_
      refine sg_getR dX7_endOfWearing_24 fX7_40 rfl (tw_L (at56)) hS (tw_r8 hS (at56)) ?_
      refine go_iloadn dX7_endOfWearing_27 rfl ?_
      refine sg_iald dX7_endOfWearing_28 (tw_8 (at56)) hS (hT) ?_
      rw [e0, (H2.2.2.1 t ht).2.1]
      refine go_iconst (v := -1) dX7_endOfWearing_29 rfl ?_
      refine go_icmp_eq (tgt := 89) dX7_endOfWearing_30 (by decide) (fun c30 => ?_) (fun c30 => ?_)
      · exact absurd c30 zk
      · refine go_aloadn dX7_endOfWearing_33 rfl ?_
        refine sg_getR dX7_endOfWearing_34 fX7_12 rfl (tr_L rfl) hS (tr_r0 hS rfl) ?_
        refine go_iconst (v := 0) dX7_endOfWearing_37 rfl ?_
        refine sg_rV0 (M' := mX6_passDay) ([.int 0]) dX7_endOfWearing_38 lX7_36 vX6_passDay (tw_L (at56)) (by decide) rfl hS (r_day56 W H2 (by rw [tD_dn]; omega)) rfl (Nat.le_of_ble_eq_true rfl) (Nat.zero_le _) (Nat.zero_le _) (fun g' F' => ?_)
        have H3 : TV g' 56 c fs fr C (dnT C T (k + 1)) := F'.2
        have hS := H3.hc.2.2
        refine go_aloadn dX7_endOfWearing_41 rfl ?_
        refine sg_getR dX7_endOfWearing_42 fX7_12 rfl (tr_L rfl) hS (tr_r0 hS rfl) ?_
        refine sg_getR dX7_endOfWearing_45 fX7_40 rfl (tw_L (at56)) hS (tw_r8 hS (at56)) ?_
        refine go_iloadn dX7_endOfWearing_48 rfl ?_
        refine sg_iald dX7_endOfWearing_49 (tw_8 (at56)) hS (hT) ?_
        rw [e0, (H3.2.2.1 t ht).2.1]
        refine go_iconst (v := -1) dX7_endOfWearing_50 rfl ?_
        refine go_icmp_ne (tgt := 83) dX7_endOfWearing_51 (by decide) (fun c51 => ?_) (fun c51 => ?_)
        · refine go_iinc4 (c1 := 1) dX7_endOfWearing_83 rfl rfl ?_
          refine go_goto (tgt := 13) dX7_endOfWearing_86 (by decide) ?_
          exact go_cong (ih g' ⟨⟨F.tr F'.1, H3⟩, fun j hj => by by_cases e : j = k; (· subst e; exact c51); exact hh j (by omega)⟩) (by simp [nI_1]) rfl
        · refine go_aloadn dX7_endOfWearing_54 rfl ?_
          refine sg_getR dX7_endOfWearing_55 fX7_12 rfl (tr_L rfl) hS (tr_r0 hS rfl) ?_
          refine sg_getR dX7_endOfWearing_58 fX7_43 rfl (tw_L (at56)) hS (tw_r7 hS (at56)) ?_
          refine go_iloadn dX7_endOfWearing_61 rfl ?_
          refine sg_iald dX7_endOfWearing_62 (tw_7 (at56)) hS (hT) ?_
          rw [e0, (H3.2.2.1 t ht).1]
          refine go_iloadn dX7_endOfWearing_63 rfl ?_
          refine go_icmp_ne (tgt := 71) dX7_endOfWearing_64 (by decide) (fun c64 => ?_) (fun c64 => ?_)
          · refine go_iconst (v := 0) dX7_endOfWearing_71 rfl ?_
            refine go_iloadn dX7_endOfWearing_72 rfl ?_
            refine go_icmp_ne (tgt := 81) dX7_endOfWearing_73 (by decide) (fun c73 => ?_) (fun c73 => ?_)
            · refine go_iconst (v := -1) dX7_endOfWearing_81 rfl ?_
              refine go_ireturn dX7_endOfWearing_82 rfl rfl (Nat.zero_le _) (Nat.zero_le _) ?_
              exact ⟨by rw [eoT, if_neg z, fs_some hk c51 hh]; simp only [c64, if_true, if_false]; first | rw [if_pos c73] | rw [if_neg c73], F.tr F'.1⟩
            · refine go_iload dX7_endOfWearing_76 rfl ?_
              refine go_goto (tgt := 82) dX7_endOfWearing_78 (by decide) ?_
              refine go_ireturn dX7_endOfWearing_82 rfl rfl (Nat.zero_le _) (Nat.zero_le _) ?_
              exact ⟨by rw [eoT, if_neg z, fs_some hk c51 hh]; simp only [c64, if_true, if_false]; first | rw [if_pos c73] | rw [if_neg c73], F.tr F'.1⟩
          · refine go_iconst (v := 1) dX7_endOfWearing_67 rfl ?_
            refine go_goto (tgt := 72) dX7_endOfWearing_68 (by decide) ?_
            refine go_iloadn dX7_endOfWearing_72 rfl ?_
            refine go_icmp_ne (tgt := 81) dX7_endOfWearing_73 (by decide) (fun c73 => ?_) (fun c73 => ?_)
            · refine go_iconst (v := -1) dX7_endOfWearing_81 rfl ?_
              refine go_ireturn dX7_endOfWearing_82 rfl rfl (Nat.zero_le _) (Nat.zero_le _) ?_
              exact ⟨by rw [eoT, if_neg z, fs_some hk c51 hh]; simp only [c64, if_true, if_false]; first | rw [if_pos c73] | rw [if_neg c73], F.tr F'.1⟩
            · refine go_iload dX7_endOfWearing_76 rfl ?_
              refine go_goto (tgt := 82) dX7_endOfWearing_78 (by decide) ?_
              refine go_ireturn dX7_endOfWearing_82 rfl rfl (Nat.zero_le _) (Nat.zero_le _) ?_
              exact ⟨by rw [eoT, if_neg z, fs_some hk c51 hh]; simp only [c64, if_true, if_false]; first | rw [if_pos c73] | rw [if_neg c73], F.tr F'.1⟩
  · refine go_iload dX7_endOfWearing_13 rfl ?_
    refine go_bipush (v := 100) dX7_endOfWearing_15 rfl ?_
    refine go_icmp_gt (tgt := 89) dX7_endOfWearing_17 (by decide) (fun c17 => ?_) (fun c17 => ?_)
    · refine go_iconst (v := -1) dX7_endOfWearing_89 rfl ?_
      refine go_ireturn dX7_endOfWearing_90 rfl rfl (Nat.zero_le _) (Nat.zero_le _) ?_
      exact ⟨by rw [eoT, if_neg z, fs_none hh.2], hh.1.1⟩
    · exact absurd (by decide) c17
theorem r_isSooner {l : Launch} {d : Nat} {h : Hp} {k s : Int32} : Ex l (d + 1) mX7_isSooner [.int k, .int s] h (some (.int (if ¬ k = -1 ∧ (s = -1 ∨ k < s) then 1 else 0))) h := by
  refine run_lv [some (.int k), some (.int s)] (go := ?_)
  refine go_iloadn dX7_isSooner_0 rfl ?_
  refine go_iconst (v := -1) dX7_isSooner_1 rfl ?_
  refine go_icmp_eq (tgt := 19) dX7_isSooner_2 (by decide) (fun c2 => ?_) (fun c2 => ?_)
  · refine go_iconst (v := 0) dX7_isSooner_19 rfl ?_
    refine go_ireturn dX7_isSooner_20 rfl rfl (Nat.zero_le _) (Nat.zero_le _) ?_
    exact ⟨by first | (have q := Int32.not_lt.mpr c12; simp [*]; done) | (have q := Int32.not_le.mp c12; simp [*]; done) | simp [*], rfl⟩
  · refine go_iloadn dX7_isSooner_5 rfl ?_
    refine go_iconst (v := -1) dX7_isSooner_6 rfl ?_
    refine go_icmp_eq (tgt := 15) dX7_isSooner_7 (by decide) (fun c7 => ?_) (fun c7 => ?_)
    · refine go_iconst (v := 1) dX7_isSooner_15 rfl ?_
      refine go_goto (tgt := 20) dX7_isSooner_16 (by decide) ?_
      refine go_ireturn dX7_isSooner_20 rfl rfl (Nat.zero_le _) (Nat.zero_le _) ?_
      exact ⟨by first | (have q := Int32.not_lt.mpr c12; simp [*]; done) | (have q := Int32.not_le.mp c12; simp [*]; done) | simp [*], rfl⟩
    · refine go_iloadn dX7_isSooner_10 rfl ?_
      refine go_iloadn dX7_isSooner_11 rfl ?_
      refine go_icmp_ge (tgt := 19) dX7_isSooner_12 (by decide) (fun c12 => ?_) (fun c12 => ?_)
      · refine go_iconst (v := 0) dX7_isSooner_19 rfl ?_
        refine go_ireturn dX7_isSooner_20 rfl rfl (Nat.zero_le _) (Nat.zero_le _) ?_
        exact ⟨by first | (have q := Int32.not_lt.mpr c12; simp [*]; done) | (have q := Int32.not_le.mp c12; simp [*]; done) | simp [*], rfl⟩
      · refine go_iconst (v := 1) dX7_isSooner_15 rfl ?_
        refine go_goto (tgt := 20) dX7_isSooner_16 (by decide) ?_
        refine go_ireturn dX7_isSooner_20 rfl rfl (Nat.zero_le _) (Nat.zero_le _) ?_
        exact ⟨by first | (have q := Int32.not_lt.mpr c12; simp [*]; done) | (have q := Int32.not_le.mp c12; simp [*]; done) | simp [*], rfl⟩
def snr (x k : Int32) (s : Int32 × Int32) : Int32 × Int32 := if ¬ k = -1 ∧ (s.2 = -1 ∨ k < s.2) then (x, k) else s
/-- one stands always at a place; a thing is put on -/
def saT (p : Nat) (pl : Int32) (T : Tn) : Tn := (tD T, tC T, tO T, tB T, tS T, tX T, tH T, tV T, saF p pl (tW T) 6)
def poT (x : Int32) (t : Nat) (T : Tn) : Tn := (tD T, tC T, tO T, upd (tB T) t x, upd (tS T) t 0, tX T, tH T, tV T, tW T)
theorem TV.sa {h : Hp} {c fs fr p pl : Nat} {C : Cy} {T : Tn} (H : TV h 56 c fs fr C T) (hp : p < cP C) (hpl : pl < 6) : TV (uF h 59 (saF p (nI pl) (hI h 59) 6)) 56 c fs fr C (saT p (nI pl) T) := by
  have F : Fc h (uF h 59 (saF p (nI pl) (hI h 59) 6)) := Fq.rf.uF (by unfold Sc; omega)
  obtain ⟨⟨h1, ⟨k1, k2⟩, U, Wr, hD, hDl⟩, hC, ⟨e1, e2, e3, e4⟩⟩ := H
  have hP := h1.2.2.2.2.2.2.2
  have hc := h1.2.2.1
  have e : ∀ a, a ≠ 59 → ∀ k, hI (uF h 59 (saF p (nI pl) (hI h 59) 6)) a k = hI h a k := fun a q k => hI_uF_ne q
  refine ⟨⟨h1.uF (by rcases hc with rfl | rfl <;> decide), ⟨fun p hp => by rw [F.I (sc_c hc (by omega))]; exact k1 p hp, fun i hi => ?_⟩, U.fc hc F, fun t ht => by rw [e _ (by decide)]; exact Wr t ht, (e 56 (by decide) 1).trans hD, hDl⟩, hC.fc hc F, ⟨fun t ht => ?_, fun p hp => ?_, fun i hi => ?_, (e 56 (by decide) 2).trans e4⟩⟩
  · show vp_in (hI (uF h 59 (saF p (nI pl) (hI h 59) 6)) 59 i) 6
    rw [hI_uF_eq, saF_at]
    split
    · exact vp_in_nI (by omega) (by decide)
    · exact k2 i hi
  · rw [e _ (by decide), e _ (by decide), e _ (by decide), e _ (by decide)]; exact e1 t ht
  · rw [e _ (by decide), e _ (by decide)]; exact e2 p hp
  · show hI (uF h 59 (saF p (nI pl) (hI h 59) 6)) 59 i = saF p (nI pl) (tW T) 6 i
    rw [hI_uF_eq, saF_at, saF_at]
    split
    · rfl
    · exact e3 i hi
theorem TV.po {h : Hp} {b c fs fr t : Nat} {x : Int32} {C : Cy} {T : Tn} (H : TV h b c fs fr C T) (hx : x = -1 ∨ ∃ w, w < cP C ∧ x = nI w) : TV (uI (uI h (b + 6) t x) (b + 7) t 0) b c fs fr C (poT x t T) := by
  obtain ⟨⟨h1, K, U, Wr, hD, hDl⟩, hC, hE⟩ := H
  have hb := h1.2.1
  have hc := h1.2.2.1
  have F : FrT b h (uI (uI h (b + 6) t x) (b + 7) t 0) := (FrT.rf.uI (tt_i (by omega))).uI (tt_i (by omega))
  refine ⟨⟨h1.fr F, K.fr hb hc F, U.fr hb hc F, fun t' ht => ?_, ?_, hDl⟩, hC.fr hb hc F, te_S (te_B hE)⟩
  · rw [hI_uI_ne (by omega), hI_uI]
    split
    · exact hx
    · exact Wr t' ht
  · rw [hI_uI_ne (by omega), hI_uI_ne (by omega)]; exact hD
def bpT (C : Cy) (T : Tn) (t : Nat) : Nat → Int32 × Int32 := foF (fun pl s => snr (nI pl) (eoT C (saT (tB T t).toNatClampNeg (nI pl) (t0 T)) t 1) s) (-1, -1)
theorem r_bestPlace {l : Launch} {d c fs fr t : Nat} {C : Cy} {T : Tn} {h : Hp} {o : Int32} (W : WC C) (H : TV h 30 c fs fr C T) (hD : tD T + 100 < 2 ^ 30) (ht : t < cN C) : Ey l (d + 7) mX7_bestPlace [.ref 55, .ref 30, .int (nI t), .int o] h (some (.int (if tB T t = -1 then -1 else if o = 0 then (bpT C T t (cL C)).2 else (bpT C T t (cL C)).1))) (F6 h) := by
  have hN := W.1.1
  have hL := W.1.2.2.2.1
  have hP := W.1.2.1
  have e0 : (nI t).toNatClampNeg = t := cl_nI (by omega)
  have hT : vp_in (nI t) 10 := vp_in_nI (by omega) (by decide)
  obtain ⟨hc, hbc, hS⟩ := H.hc
  refine run_lv [some (.ref 55), some (.ref 30), some (.int (nI t)), some (.int o), none, none, none, none, none] (go := ?_)
  refine go_aloadn dX7_bestPlace_0 rfl ?_
  refine sg_getR dX7_bestPlace_1 fX7_40 rfl (tw_L at30) hS (tw_r8 hS at30) ?_
  refine go_iloadn dX7_bestPlace_4 rfl ?_
  refine sg_iald dX7_bestPlace_5 (tw_8 at30) hS (hT) ?_
  rw [e0, (H.2.2.1 t ht).2.1]
  refine go_ist4 dX7_bestPlace_6 rfl ?_
  refine go_iconst (v := -1) dX7_bestPlace_8 rfl ?_
  refine go_ist5 dX7_bestPlace_9 rfl ?_
  refine go_iconst (v := -1) dX7_bestPlace_11 rfl ?_
  refine go_ist6 dX7_bestPlace_12 rfl ?_
  refine go_iconst (v := 0) dX7_bestPlace_14 rfl ?_
  refine go_ist7 dX7_bestPlace_15 rfl ?_
  by_cases z : tB T t = -1
  · refine go_iload dX7_bestPlace_17 rfl ?_
    refine go_iconst (v := -1) dX7_bestPlace_19 rfl ?_
    refine go_icmp_eq (tgt := 83) dX7_bestPlace_20 (by decide) (fun c20 => ?_) (fun c20 => ?_)
    · refine go_iloadn dX7_bestPlace_83 rfl ?_
      refine go_if_eq (tgt := 92) dX7_bestPlace_84 (by decide) (fun c84 => ?_) (fun c84 => ?_)
      · refine go_iload dX7_bestPlace_92 rfl ?_
        refine go_ireturn dX7_bestPlace_94 rfl rfl (Nat.zero_le _) (Nat.zero_le _) ?_
        exact ⟨by rw [if_pos z], Fq.rf⟩
      · refine go_iload dX7_bestPlace_87 rfl ?_
        refine go_goto (tgt := 94) dX7_bestPlace_89 (by decide) ?_
        refine go_ireturn dX7_bestPlace_94 rfl rfl (Nat.zero_le _) (Nat.zero_le _) ?_
        exact ⟨by rw [if_pos z], Fq.rf⟩
    · exact absurd z c20
  obtain ⟨w, hw, zw⟩ : ∃ w, w < cP C ∧ tB T t = nI w := by
    have := H.1.2.2.2.1 t ht; rw [(H.2.2.1 t ht).2.1] at this; exact this.resolve_left z
  have ew : (tB T t).toNatClampNeg = w := by rw [zw]; exact cl_nI (by omega)
  refine go_loopR (lvf := fun k => [some (.ref 55), some (.ref 30), some (.int (nI t)), some (.int o), some (.int (tB T t)), some (.int (bpT C T t k).1), some (.int (bpT C T t k).2), some (.int (nI k)), none]) (cL C) (fun k g => F6 h g) (fun k g hk F ih => ?_) (fun g F => ?_) 0 h (Nat.zero_le _) Fq.rf
  · have H2 := H.fc (F6c F)
    obtain ⟨-, hbc, hS⟩ := H2.hc
    have es : bpT C T t (k + 1) = snr (nI k) (eoT C (saT w (nI k) (t0 T)) t 1) (bpT C T t k) := by rw [← ew]; rfl
    refine go_iload dX7_bestPlace_17 rfl ?_
    refine go_iconst (v := -1) dX7_bestPlace_19 rfl ?_
    refine go_icmp_eq (tgt := 83) dX7_bestPlace_20 (by decide) (fun c20 => ?_) (fun c20 => ?_)
    · exact absurd c20 z
    · refine go_iload dX7_bestPlace_23 rfl ?_
      refine go_aloadn dX7_bestPlace_25 rfl ?_
      refine sg_getR dX7_bestPlace_26 fX7_46 rfl (tw_L at30) hS hbc ?_
      refine sg_getI dX7_bestPlace_29 fX7_50 rfl (ct_L hc) hS ?_
      rw [H2.2.1.1.1]
      refine go_icmp_ge (tgt := 83) dX7_bestPlace_32 (by decide) (fun c32 => ?_) (fun c32 => ?_)
      · exact absurd c32 (nI_ge hk (by omega))
      · refine go_aloadn dX7_bestPlace_35 rfl ?_
        refine go_aloadn dX7_bestPlace_36 rfl ?_
        refine sg_rV0 (M' := mX7_start) ([.ref 30]) dX7_bestPlace_37 lX7_29 vX7_start (tr_L rfl) (by decide) rfl hS (r_start H2) rfl (Nat.le_of_ble_eq_true rfl) (Nat.zero_le _) (Nat.zero_le _) (fun g1 F1 => ?_)
        have hS := F1.2.hc.2.2
        have rs : Ex l (d + 6) mX6_standAlways [.ref 56, .int (tB T t), .int (nI k)] g1 none (uF g1 59 (saF w (nI k) (hI g1 59) 6)) := by rw [zw]; exact r_standAlways hS at56 (by omega)
        refine go_aloadn dX7_bestPlace_40 rfl ?_
        refine sg_getR dX7_bestPlace_41 fX7_12 rfl (tr_L rfl) hS (tr_r0 hS rfl) ?_
        refine go_iload dX7_bestPlace_44 rfl ?_
        refine go_iload dX7_bestPlace_46 rfl ?_
        refine sg_cV0 (M' := mX6_standAlways) ([.int (tB T t), .int (nI k)]) dX7_bestPlace_48 lX7_56 vX6_standAlways (tw_L (at56)) (by decide) rfl hS (rs) rfl (Nat.le_of_ble_eq_true rfl) (Nat.zero_le _) (Nat.zero_le _) ?_
        have H3 := F1.2.sa hw (show k < 6 by omega)
        have F2 : F6 h (uF g1 59 (saF w (nI k) (hI g1 59) 6)) := (F.tr F1.1).uF (by unfold S6; omega)
        have hS := H3.hc.2.2
        refine go_aloadn dX7_bestPlace_51 rfl ?_
        refine go_iloadn dX7_bestPlace_52 rfl ?_
        refine go_iconst (v := 1) dX7_bestPlace_53 rfl ?_
        refine sg_rVi (M' := mX7_endOfWearing) ([.int (nI t), .int 1]) dX7_bestPlace_54 lX7_60 vX7_endOfWearing (tr_L rfl) (by decide) rfl hS (r_endOfWearing W H3 hD ht) rfl (Nat.le_of_ble_eq_true rfl) (Nat.zero_le _) (Nat.zero_le _) (fun g2 F3 => ?_)
        have hS := F3.St hS
        refine go_ist8 dX7_bestPlace_57 rfl ?_
        refine go_iload dX7_bestPlace_59 rfl ?_
        refine go_iload dX7_bestPlace_61 rfl ?_
        refine sg_cSi (M' := mX7_isSooner) ([.int _, .int _]) dX7_bestPlace_63 lX7_64 sX7_isSooner hS (r_isSooner) rfl (Nat.le_of_ble_eq_true rfl) (Nat.zero_le _) (Nat.zero_le _) ?_
        refine go_if_eq (tgt := 77) dX7_bestPlace_66 (by decide) (fun c66 => ?_) (fun c66 => ?_)
        · refine go_iinc7 (c1 := 1) dX7_bestPlace_77 rfl rfl ?_
          refine go_goto (tgt := 17) dX7_bestPlace_80 (by decide) ?_
          exact go_back (ih g2 (F2.tr F3)) (by rw [es, snr]; by_cases q : ¬ eoT C (saT w (nI k) (t0 T)) t 1 = -1 ∧ ((bpT C T t k).2 = -1 ∨ eoT C (saT w (nI k) (t0 T)) t 1 < (bpT C T t k).2); (· rw [if_pos q] at c66 ⊢; first | exact absurd c66 (by decide) | simp [lsub, nI_1, zw]); (rw [if_neg q] at c66 ⊢; first | exact absurd rfl c66 | simp [lsub, nI_1, zw])) rfl
        · refine go_iload dX7_bestPlace_69 rfl ?_
          refine go_ist5 dX7_bestPlace_71 rfl ?_
          refine go_iload dX7_bestPlace_73 rfl ?_
          refine go_ist6 dX7_bestPlace_75 rfl ?_
          refine go_iinc7 (c1 := 1) dX7_bestPlace_77 rfl rfl ?_
          refine go_goto (tgt := 17) dX7_bestPlace_80 (by decide) ?_
          exact go_back (ih g2 (F2.tr F3)) (by rw [es, snr]; by_cases q : ¬ eoT C (saT w (nI k) (t0 T)) t 1 = -1 ∧ ((bpT C T t k).2 = -1 ∨ eoT C (saT w (nI k) (t0 T)) t 1 < (bpT C T t k).2); (· rw [if_pos q] at c66 ⊢; first | exact absurd c66 (by decide) | simp [lsub, nI_1, zw]); (rw [if_neg q] at c66 ⊢; first | exact absurd rfl c66 | simp [lsub, nI_1, zw])) rfl
  · have H2 := H.fc (F6c F)
    obtain ⟨-, hbc, hS⟩ := H2.hc
    refine go_iload dX7_bestPlace_17 rfl ?_
    refine go_iconst (v := -1) dX7_bestPlace_19 rfl ?_
    refine go_icmp_eq (tgt := 83) dX7_bestPlace_20 (by decide) (fun c20 => ?_) (fun c20 => ?_)
    · exact absurd c20 z
    · refine go_iload dX7_bestPlace_23 rfl ?_
      refine go_aloadn dX7_bestPlace_25 rfl ?_
      refine sg_getR dX7_bestPlace_26 fX7_46 rfl (tw_L at30) hS hbc ?_
      refine sg_getI dX7_bestPlace_29 fX7_50 rfl (ct_L hc) hS ?_
      rw [H2.2.1.1.1]
      refine go_icmp_ge (tgt := 83) dX7_bestPlace_32 (by decide) (fun c32 => ?_) (fun c32 => ?_)
      · refine go_iloadn dX7_bestPlace_83 rfl ?_
        refine go_if_eq (tgt := 92) dX7_bestPlace_84 (by decide) (fun c84 => ?_) (fun c84 => ?_)
        · refine go_iload dX7_bestPlace_92 rfl ?_
          refine go_ireturn dX7_bestPlace_94 rfl rfl (Nat.zero_le _) (Nat.zero_le _) ?_
          exact ⟨by rw [if_neg z]; simp only [c84, if_true, if_false], F⟩
        · refine go_iload dX7_bestPlace_87 rfl ?_
          refine go_goto (tgt := 94) dX7_bestPlace_89 (by decide) ?_
          refine go_ireturn dX7_bestPlace_94 rfl rfl (Nat.zero_le _) (Nat.zero_le _) ?_
          exact ⟨by rw [if_neg z]; simp only [c84, if_true, if_false], F⟩
      · exact absurd (nI_le (Nat.le_refl _) (by omega)) c32
def btT (C : Cy) (T : Tn) (p : Int32) : Nat → Int32 × Int32 := foF (fun t s => if tO T t = p ∨ tB T t = p then s else snr (nI t) (eoT C (poT p t (t0 T)) t 1) s) (-1, -1)
theorem r_bestThing {l : Launch} {d c fs fr p : Nat} {C : Cy} {T : Tn} {h : Hp} {o : Int32} (W : WC C) (H : TV h 30 c fs fr C T) (hD : tD T + 100 < 2 ^ 30) (hp : p < cP C) : Ey l (d + 7) mX7_bestThing [.ref 55, .ref 30, .int (nI p), .int o] h (some (.int (if o = 0 then (btT C T (nI p) (cN C)).2 else (btT C T (nI p) (cN C)).1))) (F6 h) := by
  have hN := W.1.1
  have hP := W.1.2.1
  obtain ⟨hc, hbc, hS⟩ := H.hc
  refine run_lv [some (.ref 55), some (.ref 30), some (.int (nI p)), some (.int o), none, none, none, none] (go := ?_)
  refine go_iconst (v := -1) dX7_bestThing_0 rfl ?_
  refine go_ist4 dX7_bestThing_1 rfl ?_
  refine go_iconst (v := -1) dX7_bestThing_3 rfl ?_
  refine go_ist5 dX7_bestThing_4 rfl ?_
  refine go_iconst (v := 0) dX7_bestThing_6 rfl ?_
  refine go_ist6 dX7_bestThing_7 rfl ?_
  refine go_loopR (lvf := fun k => [some (.ref 55), some (.ref 30), some (.int (nI p)), some (.int o), some (.int (btT C T (nI p) k).1), some (.int (btT C T (nI p) k).2), some (.int (nI k)), none]) (cN C) (fun k g => F6 h g) (fun k g hk F ih => ?_) (fun g F => ?_) 0 h (Nat.zero_le _) Fq.rf
  · have H2 := H.fc (F6c F)
    obtain ⟨-, hbc, hS⟩ := H2.hc
    have hth := H2.1.1.2.2.2.2.1
    have e0 : (nI k).toNatClampNeg = k := cl_nI (by omega)
    have hT : vp_in (nI k) 10 := vp_in_nI (by omega) (by decide)
    obtain ⟨z1, z2, -⟩ := H2.2.2.1 k hk
    have es : btT C T (nI p) (k + 1) = if tO T k = nI p ∨ tB T k = nI p then btT C T (nI p) k else snr (nI k) (eoT C (poT (nI p) k (t0 T)) k 1) (btT C T (nI p) k) := rfl
    rw [es] at ih
    refine go_iload dX7_bestThing_9 rfl ?_
    refine go_aloadn dX7_bestThing_11 rfl ?_
    refine sg_getR dX7_bestThing_12 fX7_46 rfl (tw_L at30) hS hbc ?_
    refine sg_getI dX7_bestThing_15 fX7_68 rfl (ct_L hc) hS ?_
    refine go_icmp_ge (tgt := 82) dX7_bestThing_18 (by decide) (fun c18 => ?_) (fun c18 => ?_)
    · exact absurd (hth ▸ c18) (nI_ge hk (by omega))
    · refine go_aloadn dX7_bestThing_21 rfl ?_
      refine go_iloadn dX7_bestThing_22 rfl ?_
      refine go_iload dX7_bestThing_23 rfl ?_
      refine sg_cVi (M' := mX6_maySteal) ([.int (nI p), .int (nI k)]) dX7_bestThing_25 lX7_71 vX6_maySteal (tw_L at30) (by decide) rfl hS (r_maySteal H2.1.1 hT) rfl (Nat.le_of_ble_eq_true rfl) (Nat.zero_le _) (Nat.zero_le _) ?_
      rw [e0, z1, z2]
      refine go_if_ne (tgt := 34) dX7_bestThing_28 (by decide) (fun c28 => ?_) (fun c28 => ?_)
      · have nq : ¬ (tO T k = nI p ∨ tB T k = nI p) := fun q => c28 (by rw [if_pos q])
        rw [if_neg nq] at ih
        refine go_aloadn dX7_bestThing_34 rfl ?_
        refine go_aloadn dX7_bestThing_35 rfl ?_
        refine sg_rV0 (M' := mX7_start) ([.ref 30]) dX7_bestThing_36 lX7_29 vX7_start (tr_L rfl) (by decide) rfl hS (r_start H2) rfl (Nat.le_of_ble_eq_true rfl) (Nat.zero_le _) (Nat.zero_le _) (fun g1 F1 => ?_)
        have hS := F1.2.hc.2.2
        refine go_aloadn dX7_bestThing_39 rfl ?_
        refine sg_getR dX7_bestThing_40 fX7_12 rfl (tr_L rfl) hS (tr_r0 hS rfl) ?_
        refine go_iloadn dX7_bestThing_43 rfl ?_
        refine go_iload dX7_bestThing_44 rfl ?_
        refine sg_cV0 (M' := mX6_putOn) ([.int (nI p), .int (nI k)]) dX7_bestThing_46 lX7_74 vX6_putOn (tw_L (at56)) (by decide) rfl hS (r_putOn hS at56 hT) rfl (Nat.le_of_ble_eq_true rfl) (Nat.zero_le _) (Nat.zero_le _) ?_
        rw [e0]
        have H3 := F1.2.po (t := k) (x := nI p) (Or.inr ⟨p, hp, rfl⟩)
        have F2 : F6 h (uI (uI g1 (56 + 6) k (nI p)) (56 + 7) k 0) := ((F.tr F1.1).uI (by unfold S6; omega)).uI (by unfold S6; omega)
        have hS := H3.hc.2.2
        refine go_aloadn dX7_bestThing_49 rfl ?_
        refine go_iload dX7_bestThing_50 rfl ?_
        refine go_iconst (v := 1) dX7_bestThing_52 rfl ?_
        refine sg_rVi (M' := mX7_endOfWearing) ([.int (nI k), .int 1]) dX7_bestThing_53 lX7_60 vX7_endOfWearing (tr_L rfl) (by decide) rfl hS (r_endOfWearing W H3 hD hk) rfl (Nat.le_of_ble_eq_true rfl) (Nat.zero_le _) (Nat.zero_le _) (fun g2 F3 => ?_)
        have hS := F3.St hS
        refine go_ist7 dX7_bestThing_56 rfl ?_
        refine go_iload dX7_bestThing_58 rfl ?_
        refine go_iload dX7_bestThing_60 rfl ?_
        refine sg_cSi (M' := mX7_isSooner) ([.int _, .int _]) dX7_bestThing_62 lX7_64 sX7_isSooner hS (r_isSooner) rfl (Nat.le_of_ble_eq_true rfl) (Nat.zero_le _) (Nat.zero_le _) ?_
        refine go_if_eq (tgt := 76) dX7_bestThing_65 (by decide) (fun c65 => ?_) (fun c65 => ?_)
        · refine go_iinc6 (c1 := 1) dX7_bestThing_76 rfl rfl ?_
          refine go_goto (tgt := 9) dX7_bestThing_79 (by decide) ?_
          exact go_back (ih g2 (F2.tr F3)) (by rw [snr]; by_cases q : ¬ eoT C (poT (nI p) k (t0 T)) k 1 = -1 ∧ ((btT C T (nI p) k).2 = -1 ∨ eoT C (poT (nI p) k (t0 T)) k 1 < (btT C T (nI p) k).2); (· rw [if_pos q] at c65 ⊢; first | exact absurd c65 (by decide) | simp [lsub, nI_1]); (rw [if_neg q] at c65 ⊢; first | exact absurd rfl c65 | simp [lsub, nI_1])) rfl
        · refine go_iload dX7_bestThing_68 rfl ?_
          refine go_ist4 dX7_bestThing_70 rfl ?_
          refine go_iload dX7_bestThing_72 rfl ?_
          refine go_ist5 dX7_bestThing_74 rfl ?_
          refine go_iinc6 (c1 := 1) dX7_bestThing_76 rfl rfl ?_
          refine go_goto (tgt := 9) dX7_bestThing_79 (by decide) ?_
          exact go_back (ih g2 (F2.tr F3)) (by rw [snr]; by_cases q : ¬ eoT C (poT (nI p) k (t0 T)) k 1 = -1 ∧ ((btT C T (nI p) k).2 = -1 ∨ eoT C (poT (nI p) k (t0 T)) k 1 < (btT C T (nI p) k).2); (· rw [if_pos q] at c65 ⊢; first | exact absurd c65 (by decide) | simp [lsub, nI_1]); (rw [if_neg q] at c65 ⊢; first | exact absurd rfl c65 | simp [lsub, nI_1])) rfl
      · refine go_goto (tgt := 76) dX7_bestThing_31 (by decide) ?_
        refine go_iinc6 (c1 := 1) dX7_bestThing_76 rfl rfl ?_
        refine go_goto (tgt := 9) dX7_bestThing_79 (by decide) ?_
        exact go_back (ih g F) (by by_cases q : tO T k = nI p ∨ tB T k = nI p; (· rw [if_pos q]; simp [lsub, nI_1]); (rw [if_neg q] at c28; exact absurd c28 (by decide))) rfl
  · have H2 := H.fc (F6c F)
    obtain ⟨-, hbc, hS⟩ := H2.hc
    have hth := H2.1.1.2.2.2.2.1
    refine go_iload dX7_bestThing_9 rfl ?_
    refine go_aloadn dX7_bestThing_11 rfl ?_
    refine sg_getR dX7_bestThing_12 fX7_46 rfl (tw_L at30) hS hbc ?_
    refine sg_getI dX7_bestThing_15 fX7_68 rfl (ct_L hc) hS ?_
    refine go_icmp_ge (tgt := 82) dX7_bestThing_18 (by decide) (fun c18 => ?_) (fun c18 => ?_)
    · refine go_iloadn dX7_bestThing_82 rfl ?_
      refine go_if_eq (tgt := 91) dX7_bestThing_83 (by decide) (fun c83 => ?_) (fun c83 => ?_)
      · refine go_iload dX7_bestThing_91 rfl ?_
        refine go_ireturn dX7_bestThing_93 rfl rfl (Nat.zero_le _) (Nat.zero_le _) ?_
        exact ⟨by simp only [c83, if_true, if_false], F⟩
      · refine go_iload dX7_bestThing_86 rfl ?_
        refine go_goto (tgt := 93) dX7_bestThing_88 (by decide) ?_
        refine go_ireturn dX7_bestThing_93 rfl rfl (Nat.zero_le _) (Nat.zero_le _) ?_
        exact ⟨by simp only [c83, if_true, if_false], F⟩
    · exact absurd (by rw [hth]; exact nI_le (Nat.le_refl _) (by omega)) c18
theorem r_daysToShame {l : Launch} {d c fs fr p : Nat} {C : Cy} {T : Tn} {h : Hp} {m : Int32} (W : WC C) (H : TV h 56 c fs fr C T) (hD : tD T + 101 < 2 ^ 30) (hp : p < cP C) : Ey l (d + 6) mX7_daysToShame [.ref 55, .int (nI p), .int m] h (some (.int (oN nI (fsN (fun k => m ≤ tH (dnT C T k) p) 101)))) (F6 h) := by
  have hP := W.1.2.1
  have e0 : (nI p).toNatClampNeg = p := cl_nI (by omega)
  have hV : vp_in (nI p) 8 := vp_in_nI (by omega) (by decide)
  refine run_lv [some (.ref 55), some (.int (nI p)), some (.int m), none] (go := ?_)
  refine go_iconst (v := 0) dX7_daysToShame_0 rfl ?_
  refine go_ist3 dX7_daysToShame_1 rfl ?_
  refine go_loopR (lvf := fun k => [some (.ref 55), some (.int (nI p)), some (.int m), some (.int (nI k))]) 101 (fun k g => (F6 h g ∧ TV g 56 c fs fr C (dnT C T k)) ∧ ∀ j, j < k → ¬ m ≤ tH (dnT C T j) p) (fun k g hk hh ih => ?_) (fun g hh => ?_) 0 h (Nat.zero_le _) ⟨⟨Fq.rf, H⟩, fun _ q => absurd q (by omega)⟩
  · obtain ⟨⟨F, H2⟩, hh⟩ := hh
    have hS := H2.hc.2.2
    refine go_iloadn dX7_daysToShame_2 rfl ?_
    refine go_bipush (v := 100) dX7_daysToShame_3 rfl ?_
    refine go_icmp_gt (tgt := 37) dX7_daysToShame_5 (by decide) (fun c5 => ?_) (fun c5 => ?_)
    · exact absurd c5 (nI_nlt (a := 100) (by omega) (by decide))
    · refine go_aloadn dX7_daysToShame_8 rfl ?_
      refine sg_getR dX7_daysToShame_9 fX7_12 rfl (tr_L rfl) hS (tr_r0 hS rfl) ?_
      refine sg_getR dX7_daysToShame_12 fX7_77 rfl (tw_L (at56)) hS (tw_r4 hS (at56)) ?_
      refine go_iloadn dX7_daysToShame_15 rfl ?_
      refine sg_iald dX7_daysToShame_16 (tw_4 (at56)) hS (hV) ?_
      rw [e0, (H2.2.2.2.1 p hp).1]
      refine go_iloadn dX7_daysToShame_17 rfl ?_
      refine go_icmp_lt (tgt := 23) dX7_daysToShame_18 (by decide) (fun c18 => ?_) (fun c18 => ?_)
      · refine go_aloadn dX7_daysToShame_23 rfl ?_
        refine sg_getR dX7_daysToShame_24 fX7_12 rfl (tr_L rfl) hS (tr_r0 hS rfl) ?_
        refine go_iconst (v := 0) dX7_daysToShame_27 rfl ?_
        refine sg_rV0 (M' := mX6_passDay) ([.int 0]) dX7_daysToShame_28 lX7_36 vX6_passDay (tw_L (at56)) (by decide) rfl hS (r_day56 W H2 (by rw [tD_dn]; omega)) rfl (Nat.le_of_ble_eq_true rfl) (Nat.zero_le _) (Nat.zero_le _) (fun g' F' => ?_)
        refine go_iinc3 (c1 := 1) dX7_daysToShame_31 rfl rfl ?_
        refine go_goto (tgt := 2) dX7_daysToShame_34 (by decide) ?_
        exact go_cong (ih g' ⟨⟨F.tr F'.1, F'.2⟩, fun j hj => by by_cases e : j = k; (· subst e; exact Int32.not_le.mpr c18); exact hh j (by omega)⟩) (by simp [nI_1]) rfl
      · refine go_iloadn dX7_daysToShame_21 rfl ?_
        refine go_ireturn dX7_daysToShame_22 rfl rfl (Nat.zero_le _) (Nat.zero_le _) ?_
        exact ⟨by rw [fs_some hk (Int32.not_lt.mp c18) hh]; rfl, F⟩
  · refine go_iloadn dX7_daysToShame_2 rfl ?_
    refine go_bipush (v := 100) dX7_daysToShame_3 rfl ?_
    refine go_icmp_gt (tgt := 37) dX7_daysToShame_5 (by decide) (fun c5 => ?_) (fun c5 => ?_)
    · refine go_iconst (v := -1) dX7_daysToShame_37 rfl ?_
      refine go_ireturn dX7_daysToShame_38 rfl rfl (Nat.zero_le _) (Nat.zero_le _) ?_
      exact ⟨by rw [fs_none hh.2]; rfl, hh.1.1⟩
    · exact absurd (by decide) c5
/-- all that is worn -/
def woT (C : Cy) (T : Tn) : Int32 := btF (fun t => ¬ tB T t = -1) (cN C)
def nwT (C : Cy) (T : Tn) : Nat → Int32 := foF (fun k v => v ||| woT C (dnT C T (k + 1))) (woT C T)
theorem wo_TV {h : Hp} {b c fs fr : Nat} {C : Cy} {T : Tn} (H : TV h b c fs fr C T) : btF (fun t => ¬ hI h (b + 6) t = -1) (cN C) = woT C T := btF_cong (fun t ht => by rw [(H.2.2.1 t ht).2.1])
theorem r_neverWorn {l : Launch} {d c fs fr n : Nat} {C : Cy} {T : Tn} {h : Hp} (W : WC C) (H : TV h 56 c fs fr C T) (hD : tD T + n < 2 ^ 30) : Ey l (d + 6) mX7_neverWorn [.ref 55, .int (nI n)] h (some (.int (((1 <<< (nI (cN C) &&& 31)) - 1) &&& (nwT C T n ^^^ (-1))))) (F6 h) := by
  obtain ⟨hc, hbc, hS⟩ := H.hc
  refine run_lv [some (.ref 55), some (.int (nI n)), none, none] (go := ?_)
  refine go_aloadn dX7_neverWorn_0 rfl ?_
  refine sg_getR dX7_neverWorn_1 fX7_12 rfl (tr_L rfl) hS (tr_r0 hS rfl) ?_
  refine sg_cVi (M' := mX6_wornBits) ([]) dX7_neverWorn_4 lX7_80 vX6_wornBits (tw_L (at56)) (by decide) rfl hS (r_wornBits H.1.1) rfl (Nat.le_of_ble_eq_true rfl) (Nat.zero_le _) (Nat.zero_le _) ?_
  rw [wo_TV H]
  refine go_ist2 dX7_neverWorn_7 rfl ?_
  refine go_iconst (v := 0) dX7_neverWorn_8 rfl ?_
  refine go_ist3 dX7_neverWorn_9 rfl ?_
  skip
  refine go_loopR (lvf := fun k => [some (.ref 55), some (.int (nI n)), some (.int (nwT C T k)), some (.int (nI k))]) n (fun k g => F6 h g ∧ TV g 56 c fs fr C (dnT C T k)) (fun k g hk hh ih => ?_) (fun g hh => ?_) 0 h (Nat.zero_le _) ⟨Fq.rf, H⟩
  · obtain ⟨F, H2⟩ := hh
    have hS := H2.hc.2.2
    refine go_iloadn dX7_neverWorn_10 rfl ?_
    refine go_iloadn dX7_neverWorn_11 rfl ?_
    refine go_icmp_ge (tgt := 39) dX7_neverWorn_12 (by decide) (fun c12 => ?_) (fun c12 => ?_)
    · exact absurd c12 (nI_ge hk (by omega))
    · refine go_aloadn dX7_neverWorn_15 rfl ?_
      refine sg_getR dX7_neverWorn_16 fX7_12 rfl (tr_L rfl) hS (tr_r0 hS rfl) ?_
      refine go_iconst (v := 0) dX7_neverWorn_19 rfl ?_
      refine sg_rV0 (M' := mX6_passDay) ([.int 0]) dX7_neverWorn_20 lX7_36 vX6_passDay (tw_L (at56)) (by decide) rfl hS (r_day56 W H2 (by rw [tD_dn]; omega)) rfl (Nat.le_of_ble_eq_true rfl) (Nat.zero_le _) (Nat.zero_le _) (fun g' F' => ?_)
      have hS := F'.2.hc.2.2
      refine go_iloadn dX7_neverWorn_23 rfl ?_
      refine go_aloadn dX7_neverWorn_24 rfl ?_
      refine sg_getR dX7_neverWorn_25 fX7_12 rfl (tr_L rfl) hS (tr_r0 hS rfl) ?_
      refine sg_cVi (M' := mX6_wornBits) ([]) dX7_neverWorn_28 lX7_80 vX6_wornBits (tw_L (at56)) (by decide) rfl hS (r_wornBits F'.2.1.1) rfl (Nat.le_of_ble_eq_true rfl) (Nat.zero_le _) (Nat.zero_le _) ?_
      rw [wo_TV F'.2]
      refine go_ior dX7_neverWorn_31 ?_
      refine go_ist2 dX7_neverWorn_32 rfl ?_
      refine go_iinc3 (c1 := 1) dX7_neverWorn_33 rfl rfl ?_
      refine go_goto (tgt := 10) dX7_neverWorn_36 (by decide) ?_
      exact go_cong (ih g' ⟨F.tr F'.1, F'.2⟩) (by simp [nI_1, nwT, foF, dnT]) rfl
  · obtain ⟨F, H2⟩ := hh
    obtain ⟨-, hbc, hS⟩ := H2.hc
    have hth := H2.1.1.2.2.2.2.1
    refine go_iloadn dX7_neverWorn_10 rfl ?_
    refine go_iloadn dX7_neverWorn_11 rfl ?_
    refine go_icmp_ge (tgt := 39) dX7_neverWorn_12 (by decide) (fun c12 => ?_) (fun c12 => ?_)
    · refine go_iconst (v := 1) dX7_neverWorn_39 rfl ?_
      refine go_aloadn dX7_neverWorn_40 rfl ?_
      refine sg_getR dX7_neverWorn_41 fX7_12 rfl (tr_L rfl) hS (tr_r0 hS rfl) ?_
      refine sg_getR dX7_neverWorn_44 fX7_46 rfl (tw_L (at56)) hS hbc ?_
      refine sg_getI dX7_neverWorn_47 fX7_68 rfl (ct_L hc) hS ?_
      rw [hth]
      refine go_ishl dX7_neverWorn_50 ?_
      refine go_iconst (v := 1) dX7_neverWorn_51 rfl ?_
      refine go_isub dX7_neverWorn_52 ?_
      refine go_iloadn dX7_neverWorn_53 rfl ?_
      refine go_iconst (v := -1) dX7_neverWorn_54 rfl ?_
      refine go_ixor dX7_neverWorn_55 ?_
      refine go_iand dX7_neverWorn_56 ?_
      refine go_ireturn dX7_neverWorn_57 rfl rfl (Nat.zero_le _) (Nat.zero_le _) ?_
      exact ⟨rfl, F⟩
    · exact absurd (nI_le (Nat.le_refl _) (by omega)) c12
