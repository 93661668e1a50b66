/-! rows that are filled; who looks -/
theorem uI_uF {h : Hp} {a k : Nat} {f : Nat → Int32} {v : Int32} : uI (uF h a f) a k v = uF h a (upd f k v) := by
  refine Prod.ext ?_ rfl
  funext a' k'
  simp only [uI, uF, up2, upd]
  by_cases h1 : a' = a <;> by_cases h2 : k' = k <;> simp [h1, h2]
theorem uF_self {h : Hp} {a : Nat} : uF h a (hI h a) = h := by
  refine Prod.ext ?_ rfl
  funext a' k'
  simp only [uF, hI]
  split
  · next q => rw [q]
  · rfl
theorem uF_uF {h : Hp} {a : Nat} {f g : Nat → Int32} : uF (uF h a f) a g = uF h a g := by
  refine Prod.ext ?_ rfl
  funext a' k'
  simp only [uF]
  split <;> rfl
/-- a row filled up to n -/
def flF (f : Nat → Int32) (v : Int32) (n : Nat) : Nat → Int32 := fun k => if k < n then v else f k
theorem flF_succ {f : Nat → Int32} {v : Int32} {n : Nat} : upd (flF f v n) n v = flF f v (n + 1) := by
  funext k
  simp only [upd, flF]
  by_cases h1 : k = n
  · subst h1; simp
  · have : (k < n + 1) = (k < n) := by simp; omega
    simp [h1, this]
theorem flF_zero {f : Nat → Int32} {v : Int32} : flF f v 0 = f := by funext k; simp [flF]
theorem r_fill {l : Launch} {d a n : Nat} {h : Hp} {v : Int32} (hS : St h) (ha : lay a = .inr (0, n)) (hn : n < 2 ^ 31) :
    Ex l (d + 1) mJ7_fill_53178 [.ref a, .int v] h none (uF h a (flF (hI h a) v n)) := by
  refine run_lv [some (.ref a), some (.int v), none, none] (go := ?_)
  refine go_iconst (v := 0) dJ7_fill_53178_0 rfl ?_
  refine go_ist2 dJ7_fill_53178_1 rfl ?_
  refine go_aloadn dJ7_fill_53178_2 rfl ?_
  refine sg_alen (v := nI n) dJ7_fill_53178_3 ha hS rfl ?_
  refine go_ist3 dJ7_fill_53178_4 rfl ?_
  refine go_cong (go_loop (lvf := fun k => [some (.ref a), some (.int v), some (.int (nI k)), some (.int (nI n))]) (hf := fun k => uF h a (flF (hI h a) v k)) n (fun _ => True) (fun k hk _ ih => ?_) (fun _ => ?_) 0 (Nat.zero_le _) trivial) rfl (by rw [flF_zero, uF_self])
  · refine go_iloadn dJ7_fill_53178_5 rfl ?_
    refine go_iloadn dJ7_fill_53178_6 rfl ?_
    refine go_icmp_ge (tgt := 20) dJ7_fill_53178_7 (by decide) (fun c7 => ?_) (fun c7 => ?_)
    · exact absurd c7 (nI_ge hk hn)
    · refine go_aloadn dJ7_fill_53178_10 rfl ?_
      refine go_iloadn dJ7_fill_53178_11 rfl ?_
      refine go_iloadn dJ7_fill_53178_12 rfl ?_
      refine sg_iast dJ7_fill_53178_13 ha hS (vp_in_nI hk hn) ?_
      refine go_iinc2 (c1 := 1) dJ7_fill_53178_14 rfl rfl ?_
      refine go_goto (tgt := 5) dJ7_fill_53178_17 (by decide) ?_
      exact go_cong (ih trivial) (by simp [nI_1]) (by rw [cl_nI (by omega), uI_uF, flF_succ])
  · refine go_iloadn dJ7_fill_53178_5 rfl ?_
    refine go_iloadn dJ7_fill_53178_6 rfl ?_
    refine go_icmp_ge (tgt := 20) dJ7_fill_53178_7 (by decide) (fun c7 => ?_) (fun c7 => ?_)
    · refine go_return dJ7_fill_53178_20 rfl (Nat.zero_le _) (Nat.zero_le _) ⟨rfl, rfl⟩
    · exact absurd (nI_le (Nat.le_refl _) hn) c7
/-- walks are as they should be -/
def WK (h : Hp) (b c P : Nat) : Prop := (∀ p, p < P → ∃ w, hI h (c + 3) p = nI w ∧ 1 ≤ w ∧ w ≤ 6) ∧ ∀ i, i < 6 * P → vp_in (hI h (b + 3) i) 6
theorem plF_at {wl wk : Nat → Int32} {p w dd : Nat} (hp : p < 8) (hw : wl p = nI w) (h1 : 1 ≤ w) (h6 : w ≤ 6) (hd : dd < 2 ^ 31) :
    (¬ wl (nI p).toNatClampNeg < 1 → 0 ≤ nI dd → vp_in (nI p * 6 + (nI dd - nI dd / wl (nI p).toNatClampNeg * wl (nI p).toNatClampNeg)) 48) ∧ plF wl wk (nI p) (nI dd) = wk (6 * p + dd % w) := by
  have e0 : (nI p).toNatClampNeg = p := cl_nI (by omega)
  have hm : dd % w < w := Nat.mod_lt _ (by omega)
  have e1 : nI p * 6 + (nI dd - nI dd / nI w * nI w) = nI (6 * p + dd % w) := by
    rw [pk_rem hd (by omega) (by omega), show (6 : Int32) = nI 6 from rfl, pk_mul, nI_add, Nat.mul_comm p 6]
  have e2 : ¬ nI w < 1 := by rw [show (1 : Int32) = nI 1 from rfl, nI_ltI (by omega) (by omega)]; omega
  refine ⟨fun _ _ => ?_, ?_⟩
  · rw [e0, hw, e1]
    exact vp_in_nI (by omega) (by decide)
  · rw [plF, e0, hw, if_neg e2, if_pos (nI_pos' hd), e1, cl_nI (by omega)]
/-- the place of p on day dd -/
def plN (h : Hp) (b c p dd : Nat) : Int32 := hI h (b + 3) (6 * p + dd % (hI h (c + 3) p).toNatClampNeg)
theorem WK.pl {h : Hp} {b c P p dd : Nat} (H : WK h b c P) (hP : P ≤ 8) (hp : p < P) (hd : dd < 2 ^ 31) :
    (¬ hI h (c + 3) (nI p).toNatClampNeg < 1 → 0 ≤ nI dd → vp_in (nI p * 6 + (nI dd - nI dd / hI h (c + 3) (nI p).toNatClampNeg * hI h (c + 3) (nI p).toNatClampNeg)) 48) ∧ plF (hI h (c + 3)) (hI h (b + 3)) (nI p) (nI dd) = plN h b c p dd ∧ vp_in (plN h b c p dd) 6 := by
  obtain ⟨w, e, h1, h6⟩ := H.1 p hp
  obtain ⟨a, b'⟩ := plF_at (wk := hI h (b + 3)) (dd := dd) (by omega) e h1 h6 hd
  have hm : dd % w < w := Nat.mod_lt _ (by omega)
  refine ⟨a, ?_, ?_⟩
  · rw [b', plN, e, cl_nI (by omega)]
  · rw [plN, e, cl_nI (by omega)]
    exact H.2 _ (by omega)
theorem r_place {l : Launch} {d b c N P p dd : Nat} {h : Hp} (H : TC h b c N P) (K : WK h b c P) (hp : p < P) (hd : dd < 2 ^ 31) : Ex l (d + 1) mX6_placeOn [.ref b, .int (nI p), .int (nI dd)] h (some (.int (plN h b c p dd))) h := by
  have hP := H.2.2.2.2.2.2.2
  obtain ⟨a, e, -⟩ := K.pl hP hp hd
  rw [← e]
  exact r_placeOn H (vp_in_nI (by omega) (by decide)) a
theorem tn_ne {b c i j : Nat} (hb : TownAt b) (hc : CityAt c) (hi : i ≤ 11) (hj : j ≤ 11) : c + i ≠ b + j := by rcases hb with rfl | rfl <;> rcases hc with rfl | rfl <;> omega
/-- what is seen at each place: the bits of those who aren't blind -/
def sgF (h : Hp) (b c dd : Nat) (f : Nat → Int32) : Nat → (Nat → Int32) := foF (fun p s => if hI h (c + 2) p = 0 then upd s (plN h b c p dd).toNatClampNeg (s (plN h b c p dd).toNatClampNeg ||| (1 <<< (nI p &&& 31))) else s) f
theorem WK.uF {h : Hp} {b c P j : Nat} {f : Nat → Int32} (H : WK h b c P) (hb : TownAt b) (hc : CityAt c) (hj : j ≤ 11) (h3 : j ≠ 3) : WK (uF h (b + j) f) b c P := by
  have e1 : ∀ p, hI (Jvm.Pilot.@@N@@.uF h (b + j) f) (c + 3) p = hI h (c + 3) p := fun p => hI_uF_ne (tn_ne hb hc (by omega) hj)
  have e2 : ∀ p, hI (Jvm.Pilot.@@N@@.uF h (b + j) f) (b + 3) p = hI h (b + 3) p := fun p => hI_uF_ne (by omega)
  exact ⟨fun p hp => by rw [e1]; exact H.1 p hp, fun i hi => by rw [e2]; exact H.2 i hi⟩
theorem plN_uF {h : Hp} {b c p dd j : Nat} {f : Nat → Int32} (hb : TownAt b) (hc : CityAt c) (hj : j ≤ 11) (h3 : j ≠ 3) : plN (uF h (b + j) f) b c p dd = plN h b c p dd := by
  simp only [plN, hI_uF_ne (tn_ne hb hc (show 3 ≤ 11 by omega) hj), hI_uF_ne (show b + 3 ≠ b + j by omega)]
theorem r_lookAround {l : Launch} {d b c N P dd : Nat} {h : Hp} (H : TC h b c N P) (K : WK h b c P) (hd : dd < 2 ^ 31) :
    Ex l (d + 2) mX6_lookAround [.ref b, .int (nI dd)] h none (uF h (b + 8) (sgF h b c dd (flF (hI h (b + 8)) 0 6) P)) := by
  obtain ⟨hS, hb, hc, hbc, -⟩ := id H
  refine run_lv [some (.ref b), some (.int (nI dd)), none] (go := ?_)
  refine go_aloadn dX6_lookAround_0 rfl ?_
  refine sg_getR dX6_lookAround_1 fX6_33 rfl (tw_L hb) hS (tw_r10 hS hb) ?_
  refine go_iconst (v := 0) dX6_lookAround_4 rfl ?_
  refine sg_cS0 (M' := mJ7_fill_53178) ([.ref (b + 8), .int 0]) dX6_lookAround_5 lX6_65 sJ7_fill_53178 hS (r_fill hS (tw_10 hb) (by decide)) rfl (Nat.le_of_ble_eq_true rfl) (Nat.zero_le _) (Nat.zero_le _) ?_
  refine go_iconst (v := 0) dX6_lookAround_8 rfl ?_
  refine go_ist2 dX6_lookAround_9 rfl ?_
  skip
  refine go_loop (lvf := fun k => [some (.ref b), some (.int (nI dd)), some (.int (nI k))]) (hf := fun k => uF h (b + 8) (sgF h b c dd (flF (hI h (b + 8)) 0 6) k)) P (fun _ => True) (fun k hk _ ih => ?_) (fun _ => ?_) 0 (Nat.zero_le _) trivial
  · have H2 := H.uF (a := b + 8) (f := sgF h b c dd (flF (hI h (b + 8)) 0 6) k) (ct_ne hb hc (by omega))
    have K2 := K.uF (f := sgF h b c dd (flF (hI h (b + 8)) 0 6) k) hb hc (show 8 ≤ 11 by omega) (by omega)
    have hpl := (K.pl (dd := dd) H.2.2.2.2.2.2.2 hk hd).2.2
    obtain ⟨hS, -, -, hbc, -, -, hpe, hP⟩ := id H2
    have e2 : hI (uF h (b + 8) (sgF h b c dd (flF (hI h (b + 8)) 0 6) k)) (c + 2) (nI k).toNatClampNeg = hI h (c + 2) k := by rw [hI_uF_ne (tn_ne hb hc (by omega) (by omega)), cl_nI (by omega)]
    refine go_iloadn dX6_lookAround_10 rfl ?_
    refine go_aloadn dX6_lookAround_11 rfl ?_
    refine sg_getR dX6_lookAround_12 fX6_47 rfl (tw_L hb) hS hbc ?_
    refine sg_getI dX6_lookAround_15 fX6_104 rfl (ct_L hc) hS ?_
    refine go_icmp_ge (tgt := 56) dX6_lookAround_18 (by decide) (fun c18 => ?_) (fun c18 => ?_)
    · exact absurd (hpe ▸ c18) (nI_ge hk (by omega))
    · refine go_aloadn dX6_lookAround_21 rfl ?_
      refine sg_getR dX6_lookAround_22 fX6_47 rfl (tw_L hb) hS hbc ?_
      refine sg_getR dX6_lookAround_25 fX6_159 rfl (ct_L hc) hS (ct_r5 hS hc) ?_
      refine go_iloadn dX6_lookAround_28 rfl ?_
      refine sg_iald dX6_lookAround_29 (ct_5 hc) hS (vp_in_nI (by omega) (by decide)) ?_
      refine go_if_ne (tgt := 50) dX6_lookAround_30 (by decide) (fun c30 => ?_) (fun c30 => ?_)
      · refine go_iinc2 (c1 := 1) dX6_lookAround_50 rfl rfl ?_
        refine go_goto (tgt := 10) dX6_lookAround_53 (by decide) ?_
        exact go_cong (ih trivial) (by simp [nI_1]) (by rw [e2] at c30; simp [sgF, foF, c30, hI_uF_eq, uI_uF])
      · refine go_aloadn dX6_lookAround_33 rfl ?_
        refine sg_getR dX6_lookAround_34 fX6_33 rfl (tw_L hb) hS (tw_r10 hS hb) ?_
        refine go_aloadn dX6_lookAround_37 rfl ?_
        refine go_iloadn dX6_lookAround_38 rfl ?_
        refine go_iloadn dX6_lookAround_39 rfl ?_
        refine sg_cVi (M' := mX6_placeOn) ([.int (nI k), .int (nI dd)]) dX6_lookAround_40 lX6_162 vX6_placeOn (tw_L hb) (by decide) rfl hS (r_place H2 K2 hk hd) rfl (Nat.le_of_ble_eq_true rfl) (Nat.zero_le _) (Nat.zero_le _) ?_
        rw [plN_uF hb hc (by omega) (by omega)]
        refine go_dup2 dX6_lookAround_43 rfl rfl ?_
        refine sg_iald dX6_lookAround_44 (tw_10 hb) hS (hpl) ?_
        refine go_iconst (v := 1) dX6_lookAround_45 rfl ?_
        refine go_iloadn dX6_lookAround_46 rfl ?_
        refine go_ishl dX6_lookAround_47 ?_
        refine go_ior dX6_lookAround_48 ?_
        refine sg_iast dX6_lookAround_49 (tw_10 hb) hS (hpl) ?_
        refine go_iinc2 (c1 := 1) dX6_lookAround_50 rfl rfl ?_
        refine go_goto (tgt := 10) dX6_lookAround_53 (by decide) ?_
        exact go_cong (ih trivial) (by simp [nI_1]) (by rw [e2] at c30; simp [sgF, foF, c30, hI_uF_eq, uI_uF])
  · obtain ⟨hS, -, -, hbc, -, -, hpe, hP⟩ := id (H.uF (a := b + 8) (f := sgF h b c dd (flF (hI h (b + 8)) 0 6) P) (ct_ne hb hc (by omega)))
    refine go_iloadn dX6_lookAround_10 rfl ?_
    refine go_aloadn dX6_lookAround_11 rfl ?_
    refine sg_getR dX6_lookAround_12 fX6_47 rfl (tw_L hb) hS hbc ?_
    refine sg_getI dX6_lookAround_15 fX6_104 rfl (ct_L hc) hS ?_
    refine go_icmp_ge (tgt := 56) dX6_lookAround_18 (by decide) (fun c18 => ?_) (fun c18 => ?_)
    · refine go_return dX6_lookAround_56 rfl (Nat.zero_le _) (Nat.zero_le _) ?_
      exact ⟨rfl, rfl⟩
    · exact absurd (by rw [hpe]; exact nI_le (Nat.le_refl _) (by omega)) c18
