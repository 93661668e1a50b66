/-! Ties -/
def S8 (a : Nat) : Prop := 73 ≤ a ∧ a ≤ 76
theorem s8c {a : Nat} (q : S8 a) : Sc a := by unfold S8 at q; unfold Sc; omega
abbrev F8 (g g' : Hp) : Prop := Fq S8 g g'
theorem we_TV {h : Hp} {b c fs fr : Nat} {C : Cy} {T : Tn} (H : TV h b c fs fr C T) {p : Int32} : btF (fun t => hI h (b + 6) t = p) (cN C) = btF (fun t => tB T t = p) (cN C) := btF_cong (fun t ht => by rw [(H.2.2.1 t ht).2.1])
/-- whose the things are -/
def owF (C : Cy) (T : Tn) (v : Int32) : Nat → Int32 := foF (fun t a => if v >>> (nI t &&& 31) &&& 1 = 0 then a else a ||| (1 <<< (tO T t &&& 31))) 0
theorem r_ownersOf {l : Launch} {d c fs fr : Nat} {C : Cy} {T : Tn} {h : Hp} {v : Int32} (W : WC C) (H : TV h 30 c fs fr C T) : Ex l (d + 1) mX5_ownersOf [.ref 30, .int v] h (some (.int (owF C T v (cN C)))) h := by
  obtain ⟨hc, hbc, hS⟩ := H.hc
  have hth := H.1.1.2.2.2.2.1
  have hN1 := W.1.1
  refine run_lv [some (.ref 30), some (.int v), none, none] (go := ?_)
  refine go_iconst (v := 0) dX5_ownersOf_0 rfl ?_
  refine go_ist2 dX5_ownersOf_1 rfl ?_
  refine go_iconst (v := 0) dX5_ownersOf_2 rfl ?_
  refine go_ist3 dX5_ownersOf_3 rfl ?_
  refine go_loop (lvf := fun k => [some (.ref 30), some (.int v), some (.int (owF C T v k)), some (.int (nI k))]) (hf := fun _ => h) (cN C) (fun _ => True) (fun k hk _ ih => ?_) (fun _ => ?_) 0 (Nat.zero_le _) trivial
  · have e0 : (nI k).toNatClampNeg = k := cl_nI (by omega)
    refine go_iloadn dX5_ownersOf_4 rfl ?_
    refine go_aloadn dX5_ownersOf_5 rfl ?_
    refine sg_getR dX5_ownersOf_6 fX5_21 rfl (tw_L at30) hS hbc ?_
    refine sg_getI dX5_ownersOf_9 fX5_44 rfl (ct_L hc) hS ?_
    refine go_icmp_ge (tgt := 40) dX5_ownersOf_12 (by decide) (fun c12 => ?_) (fun c12 => ?_)
    · exact absurd (hth ▸ c12) (nI_ge hk (by omega))
    · refine go_iloadn dX5_ownersOf_15 rfl ?_
      refine go_iloadn dX5_ownersOf_16 rfl ?_
      refine go_ishr dX5_ownersOf_17 ?_
      refine go_iconst (v := 1) dX5_ownersOf_18 rfl ?_
      refine go_iand dX5_ownersOf_19 ?_
      refine go_if_eq (tgt := 34) dX5_ownersOf_20 (by decide) (fun c20 => ?_) (fun c20 => ?_)
      · refine go_iinc3 (c1 := 1) dX5_ownersOf_34 rfl rfl ?_
        refine go_goto (tgt := 4) dX5_ownersOf_37 (by decide) ?_
        exact go_cong (ih trivial) (by simp [owF, foF, c20, nI_1]) rfl
      · refine go_iloadn dX5_ownersOf_23 rfl ?_
        refine go_iconst (v := 1) dX5_ownersOf_24 rfl ?_
        refine go_aloadn dX5_ownersOf_25 rfl ?_
        refine sg_getR dX5_ownersOf_26 fX5_47 rfl (tw_L at30) hS (tw_r7 hS at30) ?_
        refine go_iloadn dX5_ownersOf_29 rfl ?_
        refine sg_iald dX5_ownersOf_30 (tw_7 at30) hS (vp_in_nI (by omega) (by decide)) ?_
        rw [e0, (H.2.2.1 k hk).1]
        refine go_ishl dX5_ownersOf_31 ?_
        refine go_ior dX5_ownersOf_32 ?_
        refine go_ist2 dX5_ownersOf_33 rfl ?_
        refine go_iinc3 (c1 := 1) dX5_ownersOf_34 rfl rfl ?_
        refine go_goto (tgt := 4) dX5_ownersOf_37 (by decide) ?_
        exact go_cong (ih trivial) (by simp [owF, foF, c20, nI_1]) rfl
  · refine go_iloadn dX5_ownersOf_4 rfl ?_
    refine go_aloadn dX5_ownersOf_5 rfl ?_
    refine sg_getR dX5_ownersOf_6 fX5_21 rfl (tw_L at30) hS hbc ?_
    refine sg_getI dX5_ownersOf_9 fX5_44 rfl (ct_L hc) hS ?_
    refine go_icmp_ge (tgt := 40) dX5_ownersOf_12 (by decide) (fun c12 => ?_) (fun c12 => ?_)
    · refine go_iloadn dX5_ownersOf_40 rfl ?_
      refine go_ireturn dX5_ownersOf_41 rfl rfl (Nat.zero_le _) (Nat.zero_le _) ?_
      exact ⟨rfl, rfl⟩
    · exact absurd (by rw [hth]; exact nI_le (Nat.le_refl _) (by omega)) c12
def rwT (C : Cy) (T : Tn) (q : Nat) : Int32 := owF C T (btF (fun t => tB T t = nI q) (cN C)) (cN C)
def ci1 (C : Cy) (T : Tn) (v : Int32) : Nat → Int32 := foF (fun q v => if v >>> (nI q &&& 31) &&& 1 = 0 then v else v ||| rwT C T q) v
def ciT (C : Cy) (T : Tn) (p : Nat) : Nat → Int32 := foF (fun _ v => ci1 C T v (cP C)) (rwT C T p)
theorem r_cameTo {l : Launch} {d c fs fr p : Nat} {C : Cy} {T : Tn} {h : Hp} (W : WC C) (H : TV h 30 c fs fr C T) (hp : p < cP C) : Ey l (d + 2) mX5_cameTo [.ref 73, .ref 30, .int (nI p)] h (some (.int (ciT C T p (cP C)))) (F8 h) := by
  obtain ⟨hc, hbc, hS⟩ := H.hc
  have hP := W.1.2.1
  refine run_lv [some (.ref 73), some (.ref 30), some (.int (nI p)), none, none, none] (go := ?_)
  refine go_iconst (v := 0) dX5_cameTo_0 rfl ?_
  refine go_ist3 dX5_cameTo_1 rfl ?_
  refine go_loopR (lvf := fun k => [some (.ref 73), some (.ref 30), some (.int (nI p)), some (.int (nI k)), none, none]) (cP C) (fun k g => F8 h g ∧ ∀ j, j < k → hI g 74 j = rwT C T j) (fun k g hk hh ih => ?_) (fun g hh => ?_) 0 h (Nat.zero_le _) ⟨Fq.rf, fun _ q => absurd q (by omega)⟩
  · obtain ⟨F, hh⟩ := hh
    have H2 := H.fc (F.sub (fun _ => s8c))
    obtain ⟨-, hbc, hS⟩ := H2.hc
    have hpe := H2.1.1.2.2.2.2.2.2.1
    refine go_iloadn dX5_cameTo_2 rfl ?_
    refine go_aloadn dX5_cameTo_3 rfl ?_
    refine sg_getR dX5_cameTo_4 fX5_21 rfl (tw_L at30) hS hbc ?_
    refine sg_getI dX5_cameTo_7 fX5_27 rfl (ct_L hc) hS ?_
    refine go_icmp_ge (tgt := 34) dX5_cameTo_10 (by decide) (fun c10 => ?_) (fun c10 => ?_)
    · exact absurd (hpe ▸ c10) (nI_ge hk (by omega))
    · refine go_aloadn dX5_cameTo_13 rfl ?_
      refine sg_getR dX5_cameTo_14 fX5_9 rfl (ti_L rfl) hS (ti_r0 hS rfl) ?_
      refine go_iloadn dX5_cameTo_17 rfl ?_
      refine go_aloadn dX5_cameTo_18 rfl ?_
      refine go_aloadn dX5_cameTo_19 rfl ?_
      refine go_iloadn dX5_cameTo_20 rfl ?_
      refine sg_cVi (M' := mX6_wearsBits) ([.int (nI k)]) dX5_cameTo_21 lX5_37 vX6_wearsBits (tw_L at30) (by decide) rfl hS (r_wearsBits H2.1.1) rfl (Nat.le_of_ble_eq_true rfl) (Nat.zero_le _) (Nat.zero_le _) ?_
      rw [we_TV H2]
      refine sg_cSi (M' := mX5_ownersOf) ([.ref 30, .int _]) dX5_cameTo_24 lX5_41 sX5_ownersOf hS (r_ownersOf W H2) rfl (Nat.le_of_ble_eq_true rfl) (Nat.zero_le _) (Nat.zero_le _) ?_
      refine sg_iast dX5_cameTo_27 (ti_0 rfl) hS (vp_in_nI (by omega) (by decide)) ?_
      rw [cl_nI (by omega)]
      refine go_iinc3 (c1 := 1) dX5_cameTo_28 rfl rfl ?_
      refine go_goto (tgt := 2) dX5_cameTo_31 (by decide) ?_
      exact go_cong (ih _ ⟨F.uI (by unfold S8; omega), fun j hj => by by_cases e : j = k; (· subst e; exact hI_uI_eq); (rw [hI_uI_ne (by omega)]; exact hh j (by omega))⟩) (by simp [nI_1]) rfl
  · obtain ⟨F, hh⟩ := hh
    have H2 := H.fc (F.sub (fun _ => s8c))
    obtain ⟨-, hbc, hS⟩ := H2.hc
    have hpe := H2.1.1.2.2.2.2.2.2.1
    refine go_iloadn dX5_cameTo_2 rfl ?_
    refine go_aloadn dX5_cameTo_3 rfl ?_
    refine sg_getR dX5_cameTo_4 fX5_21 rfl (tw_L at30) hS hbc ?_
    refine sg_getI dX5_cameTo_7 fX5_27 rfl (ct_L hc) hS ?_
    refine go_icmp_ge (tgt := 34) dX5_cameTo_10 (by decide) (fun c10 => ?_) (fun c10 => absurd (by rw [hpe]; exact nI_le (Nat.le_refl _) (by omega)) c10)
    refine go_aloadn dX5_cameTo_34 rfl ?_
    refine sg_getR dX5_cameTo_35 fX5_9 rfl (ti_L rfl) hS (ti_r0 hS rfl) ?_
    refine go_iloadn dX5_cameTo_38 rfl ?_
    refine sg_iald dX5_cameTo_39 (ti_0 rfl) hS (vp_in_nI (by omega) (by decide)) ?_
    rw [cl_nI (by omega), hh p hp]
    refine go_ist3 dX5_cameTo_40 rfl ?_
    refine go_iconst (v := 0) dX5_cameTo_41 rfl ?_
    refine go_ist4 dX5_cameTo_42 rfl ?_
    refine go_back (lv' := [some (.ref 73), some (.ref 30), some (.int (nI p)), some (.int (rwT C T p)), some (.int 0), none]) ?_ (by simp [lsub]) rfl
    refine go_loop (lvf := fun k => [some (.ref 73), some (.ref 30), some (.int (nI p)), some (.int (ciT C T p k)), some (.int (nI k)), none]) (hf := fun _ => g) (cP C) (fun _ => True) (fun k hk _ ih => ?_) (fun _ => ?_) 0 (Nat.zero_le _) trivial
    · have es : ciT C T p (k + 1) = ci1 C T (ciT C T p k) (cP C) := rfl
      rw [es] at ih
      generalize ciT C T p k = v at *
      refine go_iload dX5_cameTo_44 rfl ?_
      refine go_aloadn dX5_cameTo_46 rfl ?_
      refine sg_getR dX5_cameTo_47 fX5_21 rfl (tw_L at30) hS hbc ?_
      refine sg_getI dX5_cameTo_50 fX5_27 rfl (ct_L hc) hS ?_
      refine go_icmp_ge (tgt := 102) dX5_cameTo_53 (by decide) (fun c53 => absurd (hpe ▸ c53) (nI_ge hk (by omega))) (fun c53 => ?_)
      refine go_iconst (v := 0) dX5_cameTo_56 rfl ?_
      refine go_ist5 dX5_cameTo_57 rfl ?_
      refine go_loop (lvf := fun q => [some (.ref 73), some (.ref 30), some (.int (nI p)), some (.int (ci1 C T v q)), some (.int (nI k)), some (.int (nI q))]) (hf := fun _ => g) (cP C) (fun _ => True) (fun q hq _ ih2 => ?_) (fun _ => ?_) 0 (Nat.zero_le _) trivial
      · have es2 : ci1 C T v (q + 1) = if ci1 C T v q >>> (nI q &&& 31) &&& 1 = 0 then ci1 C T v q else ci1 C T v q ||| rwT C T q := rfl
        rw [es2] at ih2
        refine go_iload dX5_cameTo_59 rfl ?_
        refine go_aloadn dX5_cameTo_61 rfl ?_
        refine sg_getR dX5_cameTo_62 fX5_21 rfl (tw_L at30) hS hbc ?_
        refine sg_getI dX5_cameTo_65 fX5_27 rfl (ct_L hc) hS ?_
        refine go_icmp_ge (tgt := 96) dX5_cameTo_68 (by decide) (fun c68 => ?_) (fun c68 => ?_)
        · exact absurd (hpe ▸ c68) (nI_ge hq (by omega))
        · refine go_iloadn dX5_cameTo_71 rfl ?_
          refine go_iload dX5_cameTo_72 rfl ?_
          refine go_ishr dX5_cameTo_74 ?_
          refine go_iconst (v := 1) dX5_cameTo_75 rfl ?_
          refine go_iand dX5_cameTo_76 ?_
          refine go_if_eq (tgt := 90) dX5_cameTo_77 (by decide) (fun c77 => ?_) (fun c77 => ?_)
          · refine go_iinc5 (c1 := 1) dX5_cameTo_90 rfl rfl ?_
            refine go_goto (tgt := 59) dX5_cameTo_93 (by decide) ?_
            exact go_cong (ih2 trivial) (by first | (rw [if_pos c77]; simp [nI_1]; done) | (rw [if_neg c77]; simp [nI_1])) rfl
          · refine go_iloadn dX5_cameTo_80 rfl ?_
            refine go_aloadn dX5_cameTo_81 rfl ?_
            refine sg_getR dX5_cameTo_82 fX5_9 rfl (ti_L rfl) hS (ti_r0 hS rfl) ?_
            refine go_iload dX5_cameTo_85 rfl ?_
            refine sg_iald dX5_cameTo_87 (ti_0 rfl) hS (vp_in_nI (by omega) (by decide)) ?_
            rw [cl_nI (by omega), hh q hq]
            refine go_ior dX5_cameTo_88 ?_
            refine go_ist3 dX5_cameTo_89 rfl ?_
            refine go_iinc5 (c1 := 1) dX5_cameTo_90 rfl rfl ?_
            refine go_goto (tgt := 59) dX5_cameTo_93 (by decide) ?_
            exact go_cong (ih2 trivial) (by first | (rw [if_pos c77]; simp [nI_1]; done) | (rw [if_neg c77]; simp [nI_1])) rfl
      · refine go_iload dX5_cameTo_59 rfl ?_
        refine go_aloadn dX5_cameTo_61 rfl ?_
        refine sg_getR dX5_cameTo_62 fX5_21 rfl (tw_L at30) hS hbc ?_
        refine sg_getI dX5_cameTo_65 fX5_27 rfl (ct_L hc) hS ?_
        refine go_icmp_ge (tgt := 96) dX5_cameTo_68 (by decide) (fun c68 => ?_) (fun c68 => ?_)
        · refine go_iinc4 (c1 := 1) dX5_cameTo_96 rfl rfl ?_
          refine go_goto (tgt := 44) dX5_cameTo_99 (by decide) ?_
          exact go_back (ih trivial) (by simp [lsub, nI_1]) rfl
        · exact absurd (by rw [hpe]; exact nI_le (Nat.le_refl _) (by omega)) c68
    · refine go_iload dX5_cameTo_44 rfl ?_
      refine go_aloadn dX5_cameTo_46 rfl ?_
      refine sg_getR dX5_cameTo_47 fX5_21 rfl (tw_L at30) hS hbc ?_
      refine sg_getI dX5_cameTo_50 fX5_27 rfl (ct_L hc) hS ?_
      refine go_icmp_ge (tgt := 102) dX5_cameTo_53 (by decide) (fun c53 => ?_) (fun c53 => ?_)
      · refine go_iloadn dX5_cameTo_102 rfl ?_
        refine go_ireturn dX5_cameTo_103 rfl rfl (Nat.zero_le _) (Nat.zero_le _) ?_
        exact ⟨rfl, F⟩
      · exact absurd (by rw [hpe]; exact nI_le (Nat.le_refl _) (by omega)) c53
def rgT (C : Cy) (T : Tn) : Nat → Int32 := foF (fun p a => a ||| (ciT C T p (cP C) &&& (1 <<< (nI p &&& 31)))) 0
theorem r_rings {l : Launch} {d c fs fr : Nat} {C : Cy} {T : Tn} {h : Hp} (W : WC C) (H : TV h 30 c fs fr C T) : Ey l (d + 3) mX5_rings [.ref 73, .ref 30] h (some (.int (rgT C T (cP C)))) (F8 h) := by
  obtain ⟨hc, hbc, hS⟩ := H.hc
  have hP := W.1.2.1
  refine run_lv [some (.ref 73), some (.ref 30), none, none] (go := ?_)
  refine go_iconst (v := 0) dX5_rings_0 rfl ?_
  refine go_ist2 dX5_rings_1 rfl ?_
  refine go_iconst (v := 0) dX5_rings_2 rfl ?_
  refine go_ist3 dX5_rings_3 rfl ?_
  refine go_loopR (lvf := fun k => [some (.ref 73), some (.ref 30), some (.int (rgT C T k)), some (.int (nI k))]) (cP C) (fun k g => F8 h g) (fun k g hk F ih => ?_) (fun g F => ?_) 0 h (Nat.zero_le _) Fq.rf
  · have H2 := H.fc (F.sub (fun _ => s8c))
    obtain ⟨-, hbc, hS⟩ := H2.hc
    have hpe := H2.1.1.2.2.2.2.2.2.1
    refine go_iloadn dX5_rings_4 rfl ?_
    refine go_aloadn dX5_rings_5 rfl ?_
    refine sg_getR dX5_rings_6 fX5_21 rfl (tw_L at30) hS hbc ?_
    refine sg_getI dX5_rings_9 fX5_27 rfl (ct_L hc) hS ?_
    refine go_icmp_ge (tgt := 34) dX5_rings_12 (by decide) (fun c12 => ?_) (fun c12 => ?_)
    · exact absurd (hpe ▸ c12) (nI_ge hk (by omega))
    · refine go_iloadn dX5_rings_15 rfl ?_
      refine go_aloadn dX5_rings_16 rfl ?_
      refine go_aloadn dX5_rings_17 rfl ?_
      refine go_iloadn dX5_rings_18 rfl ?_
      refine sg_rVi (M' := mX5_cameTo) ([.ref 30, .int (nI k)]) dX5_rings_19 lX5_33 vX5_cameTo (ti_L rfl) (by decide) rfl hS (r_cameTo W H2 hk) rfl (Nat.le_of_ble_eq_true rfl) (Nat.zero_le _) (Nat.zero_le _) (fun g' F' => ?_)
      refine go_iconst (v := 1) dX5_rings_22 rfl ?_
      refine go_iloadn dX5_rings_23 rfl ?_
      refine go_ishl dX5_rings_24 ?_
      refine go_iand dX5_rings_25 ?_
      refine go_ior dX5_rings_26 ?_
      refine go_ist2 dX5_rings_27 rfl ?_
      refine go_iinc3 (c1 := 1) dX5_rings_28 rfl rfl ?_
      refine go_goto (tgt := 4) dX5_rings_31 (by decide) ?_
      exact go_cong (ih g' (F.tr F')) (by simp [nI_1, rgT, foF]) rfl
  · have H2 := H.fc (F.sub (fun _ => s8c))
    obtain ⟨-, hbc, hS⟩ := H2.hc
    have hpe := H2.1.1.2.2.2.2.2.2.1
    refine go_iloadn dX5_rings_4 rfl ?_
    refine go_aloadn dX5_rings_5 rfl ?_
    refine sg_getR dX5_rings_6 fX5_21 rfl (tw_L at30) hS hbc ?_
    refine sg_getI dX5_rings_9 fX5_27 rfl (ct_L hc) hS ?_
    refine go_icmp_ge (tgt := 34) dX5_rings_12 (by decide) (fun c12 => ?_) (fun c12 => ?_)
    · refine go_iloadn dX5_rings_34 rfl ?_
      refine go_ireturn dX5_rings_35 rfl rfl (Nat.zero_le _) (Nat.zero_le _) ?_
      exact ⟨rfl, F⟩
    · exact absurd (by rw [hpe]; exact nI_le (Nat.le_refl _) (by omega)) c12
/-- the place of p on a day -/
theorem r_pl {l : Launch} {d b c fs fr p dd : Nat} {C : Cy} {T : Tn} {h : Hp} (W : WC C) (H : TV h b c fs fr C T) (hp : p < cP C) (hd : dd < 2 ^ 31) : Ex l (d + 1) mX6_placeOn [.ref b, .int (nI p), .int (nI dd)] h (some (.int (plT C T p dd))) h := by
  rw [← plN_plT W H.2.1 H.2.2 hp]; exact r_place H.1.1 H.1.2.1 hp hd
def poF (C : Cy) (T : Tn) (p : Nat) : Nat → Int32 := foF (fun k a => a ||| (1 <<< (plT C T p (tD T + k) &&& 31))) 0
theorem r_placesOf {l : Launch} {d c fs fr p n : Nat} {C : Cy} {T : Tn} {h : Hp} (W : WC C) (H : TV h 30 c fs fr C T) (hp : p < cP C) (hn : n ≤ 100) : Ex l (d + 2) mX5_placesOf [.ref 30, .int (nI p), .int (nI n)] h (some (.int (poF C T p n))) h := by
  have hS := H.hc.2.2
  have hD := H.1.2.2.2.2.1
  have hDl := H.1.2.2.2.2.2
  refine run_lv [some (.ref 30), some (.int (nI p)), some (.int (nI n)), none, none] (go := ?_)
  refine go_iconst (v := 0) dX5_placesOf_0 rfl ?_
  refine go_ist3 dX5_placesOf_1 rfl ?_
  refine go_iconst (v := 0) dX5_placesOf_2 rfl ?_
  refine go_ist4 dX5_placesOf_3 rfl ?_
  refine go_loop (lvf := fun k => [some (.ref 30), some (.int (nI p)), some (.int (nI n)), some (.int (poF C T p k)), some (.int (nI k))]) (hf := fun _ => h) n (fun _ => True) (fun k hk _ ih => ?_) (fun _ => ?_) 0 (Nat.zero_le _) trivial
  · refine go_iload dX5_placesOf_5 rfl ?_
    refine go_iloadn dX5_placesOf_7 rfl ?_
    refine go_icmp_ge (tgt := 34) dX5_placesOf_8 (by decide) (fun c8 => ?_) (fun c8 => ?_)
    · exact absurd c8 (nI_ge hk (by omega))
    · refine go_iloadn dX5_placesOf_11 rfl ?_
      refine go_iconst (v := 1) dX5_placesOf_12 rfl ?_
      refine go_aloadn dX5_placesOf_13 rfl ?_
      refine go_iloadn dX5_placesOf_14 rfl ?_
      refine go_aloadn dX5_placesOf_15 rfl ?_
      refine sg_getI dX5_placesOf_16 fX5_66 rfl (tw_L at30) hS ?_
      rw [hD]
      refine go_iload dX5_placesOf_19 rfl ?_
      refine go_iadd dX5_placesOf_21 ?_
      rw [nI_add]
      refine sg_cVi (M' := mX6_placeOn) ([.int (nI p), .int (nI (tD T + k))]) dX5_placesOf_22 lX5_69 vX6_placeOn (tw_L at30) (by decide) rfl hS (r_pl W H hp (by omega)) rfl (Nat.le_of_ble_eq_true rfl) (Nat.zero_le _) (Nat.zero_le _) ?_
      refine go_ishl dX5_placesOf_25 ?_
      refine go_ior dX5_placesOf_26 ?_
      refine go_ist3 dX5_placesOf_27 rfl ?_
      refine go_iinc4 (c1 := 1) dX5_placesOf_28 rfl rfl ?_
      refine go_goto (tgt := 5) dX5_placesOf_31 (by decide) ?_
      exact go_cong (ih trivial) (by simp [nI_1, poF, foF]) rfl
  · refine go_iload dX5_placesOf_5 rfl ?_
    refine go_iloadn dX5_placesOf_7 rfl ?_
    refine go_icmp_ge (tgt := 34) dX5_placesOf_8 (by decide) (fun c8 => ?_) (fun c8 => ?_)
    · refine go_iloadn dX5_placesOf_34 rfl ?_
      refine go_ireturn dX5_placesOf_35 rfl rfl (Nat.zero_le _) (Nat.zero_le _) ?_
      exact ⟨rfl, rfl⟩
    · exact absurd (nI_le (Nat.le_refl _) (by omega)) c8
def frT (C : Cy) (T : Tn) (n p : Nat) : Int32 := if btF (fun t => tB T t = nI p) (cN C) = 0 then -1 else poF C T p n
/-- whether all who wear something are met at the places x -/
def meB (R : Nat → Int32) (P : Nat) (x : Int32) : Bool := decide (fsN (fun q => ¬ R q = -1 ∧ R q &&& x = 0) P = none)
theorem r_meetsAll {l : Launch} {d c fs fr : Nat} {C : Cy} {T : Tn} {R : Nat → Int32} {h : Hp} {x : Int32} (W : WC C) (H : TV h 30 c fs fr C T) (hR : ∀ q, q < cP C → hI h 74 q = R q) : Ex l (d + 1) mX5_meetsAll [.ref 73, .ref 30, .int x] h (some (.int (if meB R (cP C) x then 1 else 0))) h := by
  obtain ⟨hc, hbc, hS⟩ := H.hc
  have hpe := H.1.1.2.2.2.2.2.2.1
  have hP := W.1.2.1
  refine run_lv [some (.ref 73), some (.ref 30), some (.int x), none] (go := ?_)
  refine go_iconst (v := 0) dX5_meetsAll_0 rfl ?_
  refine go_ist3 dX5_meetsAll_1 rfl ?_
  refine go_loop (lvf := fun k => [some (.ref 73), some (.ref 30), some (.int x), some (.int (nI k))]) (hf := fun _ => h) (cP C) (fun k => ∀ j, j < k → ¬ (¬ R j = -1 ∧ R j &&& x = 0)) (fun k hk hh ih => ?_) (fun hh => ?_) 0 (Nat.zero_le _) (fun _ q => absurd q (by omega))
  · have e0 : (nI k).toNatClampNeg = k := cl_nI (by omega)
    refine go_iloadn dX5_meetsAll_2 rfl ?_
    refine go_aloadn dX5_meetsAll_3 rfl ?_
    refine sg_getR dX5_meetsAll_4 fX5_21 rfl (tw_L at30) hS hbc ?_
    refine sg_getI dX5_meetsAll_7 fX5_27 rfl (ct_L hc) hS ?_
    refine go_icmp_ge (tgt := 42) dX5_meetsAll_10 (by decide) (fun c10 => ?_) (fun c10 => ?_)
    · exact absurd (hpe ▸ c10) (nI_ge hk (by omega))
    · refine go_aloadn dX5_meetsAll_13 rfl ?_
      refine sg_getR dX5_meetsAll_14 fX5_9 rfl (ti_L rfl) hS (ti_r0 hS rfl) ?_
      refine go_iloadn dX5_meetsAll_17 rfl ?_
      refine sg_iald dX5_meetsAll_18 (ti_0 rfl) hS (vp_in_nI (by omega) (by decide)) ?_
      rw [e0, hR k hk]
      refine go_iconst (v := -1) dX5_meetsAll_19 rfl ?_
      refine go_icmp_eq (tgt := 36) dX5_meetsAll_20 (by decide) (fun c20 => ?_) (fun c20 => ?_)
      · refine go_iinc3 (c1 := 1) dX5_meetsAll_36 rfl rfl ?_
        refine go_goto (tgt := 2) dX5_meetsAll_39 (by decide) ?_
        exact go_cong (ih (fun j hj => by by_cases e : j = k; (· subst e; rintro ⟨q1, q2⟩; first | exact q1 c20 | exact c31 q2); exact hh j (by omega))) (by simp [nI_1]) rfl
      · refine go_aloadn dX5_meetsAll_23 rfl ?_
        refine sg_getR dX5_meetsAll_24 fX5_9 rfl (ti_L rfl) hS (ti_r0 hS rfl) ?_
        refine go_iloadn dX5_meetsAll_27 rfl ?_
        refine sg_iald dX5_meetsAll_28 (ti_0 rfl) hS (vp_in_nI (by omega) (by decide)) ?_
        rw [e0, hR k hk]
        refine go_iloadn dX5_meetsAll_29 rfl ?_
        refine go_iand dX5_meetsAll_30 ?_
        refine go_if_ne (tgt := 36) dX5_meetsAll_31 (by decide) (fun c31 => ?_) (fun c31 => ?_)
        · refine go_iinc3 (c1 := 1) dX5_meetsAll_36 rfl rfl ?_
          refine go_goto (tgt := 2) dX5_meetsAll_39 (by decide) ?_
          exact go_cong (ih (fun j hj => by by_cases e : j = k; (· subst e; rintro ⟨q1, q2⟩; first | exact q1 c20 | exact c31 q2); exact hh j (by omega))) (by simp [nI_1]) rfl
        · refine go_iconst (v := 0) dX5_meetsAll_34 rfl ?_
          refine go_ireturn dX5_meetsAll_35 rfl rfl (Nat.zero_le _) (Nat.zero_le _) ?_
          exact ⟨by rw [if_neg (fun q => by rw [meB, fs_some hk ⟨c20, c31⟩ hh] at q; simp at q)], rfl⟩
  · refine go_iloadn dX5_meetsAll_2 rfl ?_
    refine go_aloadn dX5_meetsAll_3 rfl ?_
    refine sg_getR dX5_meetsAll_4 fX5_21 rfl (tw_L at30) hS hbc ?_
    refine sg_getI dX5_meetsAll_7 fX5_27 rfl (ct_L hc) hS ?_
    refine go_icmp_ge (tgt := 42) dX5_meetsAll_10 (by decide) (fun c10 => ?_) (fun c10 => ?_)
    · refine go_iconst (v := 1) dX5_meetsAll_42 rfl ?_
      refine go_ireturn dX5_meetsAll_43 rfl rfl (Nat.zero_le _) (Nat.zero_le _) ?_
      exact ⟨by rw [if_pos (by rw [meB, fs_none hh]; rfl)], rfl⟩
    · exact absurd (by rw [hpe]; exact nI_le (Nat.le_refl _) (by omega)) c10
theorem sh6 : ∀ n : Fin 9, (1 : Int32) <<< (nI n.val &&& 31) - 1 = nI (2 ^ n.val - 1) := by decide
def fpT (C : Cy) (T : Tn) (n : Nat) : Nat → Int32 := foF (fun x b => if bcF (nI x) < bcF b ∧ meB (frT C T n) (cP C) (nI x) = true then nI x else b) (nI (2 ^ cL C - 1))
theorem r_fewestPlaces {l : Launch} {d c fs fr n : Nat} {C : Cy} {T : Tn} {h : Hp} (W : WC C) (H : TV h 30 c fs fr C T) (hn : n ≤ 100) : Ey l (d + 3) mX5_fewestPlaces [.ref 73, .ref 30, .int (nI n)] h (some (.int (fpT C T n (2 ^ cL C)))) (F8 h) := by
  obtain ⟨hc, hbc, hS⟩ := H.hc
  have hP := W.1.2.1
  have hL := W.1.2.2.2.1
  have p6 : 2 ^ cL C ≤ 64 := Nat.pow_le_pow_right (n := 2) (by decide) hL
  have p0 : 0 < 2 ^ cL C := Nat.two_pow_pos _
  refine run_lv [some (.ref 73), some (.ref 30), some (.int (nI n)), none, none, none] (go := ?_)
  refine go_iconst (v := 0) dX5_fewestPlaces_0 rfl ?_
  refine go_ist3 dX5_fewestPlaces_1 rfl ?_
  refine go_loopR (lvf := fun k => [some (.ref 73), some (.ref 30), some (.int (nI n)), some (.int (nI k)), none, none]) (cP C) (fun k g => F8 h g ∧ ∀ j, j < k → hI g 74 j = frT C T n j) (fun k g hk hh ih => ?_) (fun g hh => ?_) 0 h (Nat.zero_le _) ⟨Fq.rf, fun _ q => absurd q (by omega)⟩
  · obtain ⟨F, hh⟩ := hh
    have H2 := H.fc (F.sub (fun _ => s8c))
    obtain ⟨-, hbc, hS⟩ := H2.hc
    have hpe := H2.1.1.2.2.2.2.2.2.1
    refine go_iloadn dX5_fewestPlaces_2 rfl ?_
    refine go_aloadn dX5_fewestPlaces_3 rfl ?_
    refine sg_getR dX5_fewestPlaces_4 fX5_21 rfl (tw_L at30) hS hbc ?_
    refine sg_getI dX5_fewestPlaces_7 fX5_27 rfl (ct_L hc) hS ?_
    refine go_icmp_ge (tgt := 43) dX5_fewestPlaces_10 (by decide) (fun c10 => ?_) (fun c10 => ?_)
    · exact absurd (hpe ▸ c10) (nI_ge hk (by omega))
    · refine go_aloadn dX5_fewestPlaces_13 rfl ?_
      refine sg_getR dX5_fewestPlaces_14 fX5_9 rfl (ti_L rfl) hS (ti_r0 hS rfl) ?_
      refine go_iloadn dX5_fewestPlaces_17 rfl ?_
      refine go_aloadn dX5_fewestPlaces_18 rfl ?_
      refine go_iloadn dX5_fewestPlaces_19 rfl ?_
      refine sg_cVi (M' := mX6_wearsBits) ([.int (nI k)]) dX5_fewestPlaces_20 lX5_37 vX6_wearsBits (tw_L at30) (by decide) rfl hS (r_wearsBits H2.1.1) rfl (Nat.le_of_ble_eq_true rfl) (Nat.zero_le _) (Nat.zero_le _) ?_
      rw [we_TV H2]
      refine go_if_ne (tgt := 30) dX5_fewestPlaces_23 (by decide) (fun c23 => ?_) (fun c23 => ?_)
      · refine go_aloadn dX5_fewestPlaces_30 rfl ?_
        refine go_iloadn dX5_fewestPlaces_31 rfl ?_
        refine go_iloadn dX5_fewestPlaces_32 rfl ?_
        refine sg_cSi (M' := mX5_placesOf) ([.ref 30, .int (nI k), .int (nI n)]) dX5_fewestPlaces_33 lX5_50 sX5_placesOf hS (r_placesOf W H2 hk hn) rfl (Nat.le_of_ble_eq_true rfl) (Nat.zero_le _) (Nat.zero_le _) ?_
        refine sg_iast dX5_fewestPlaces_36 (ti_0 rfl) hS (vp_in_nI (by omega) (by decide)) ?_
        rw [cl_nI (by omega)]
        refine go_iinc3 (c1 := 1) dX5_fewestPlaces_37 rfl rfl ?_
        refine go_goto (tgt := 2) dX5_fewestPlaces_40 (by decide) ?_
        exact go_cong (ih _ ⟨F.uI (by unfold S8; omega), fun j hj => by by_cases e : j = k; (· subst e; rw [hI_uI_eq, frT]; first | rw [if_pos c23] | rw [if_neg c23]); (rw [hI_uI_ne (by omega)]; exact hh j (by omega))⟩) (by simp [nI_1]) rfl
      · refine go_iconst (v := -1) dX5_fewestPlaces_26 rfl ?_
        refine go_goto (tgt := 36) dX5_fewestPlaces_27 (by decide) ?_
        refine sg_iast dX5_fewestPlaces_36 (ti_0 rfl) hS (vp_in_nI (by omega) (by decide)) ?_
        rw [cl_nI (by omega)]
        refine go_iinc3 (c1 := 1) dX5_fewestPlaces_37 rfl rfl ?_
        refine go_goto (tgt := 2) dX5_fewestPlaces_40 (by decide) ?_
        exact go_cong (ih _ ⟨F.uI (by unfold S8; omega), fun j hj => by by_cases e : j = k; (· subst e; rw [hI_uI_eq, frT]; first | rw [if_pos c23] | rw [if_neg c23]); (rw [hI_uI_ne (by omega)]; exact hh j (by omega))⟩) (by simp [nI_1]) rfl
  · obtain ⟨F, hh⟩ := hh
    have H2 := H.fc (F.sub (fun _ => s8c))
    obtain ⟨-, hbc, hS⟩ := H2.hc
    have hpe := H2.1.1.2.2.2.2.2.2.1
    have s6 := sh6 ⟨cL C, by omega⟩
    dsimp only at s6
    refine go_iloadn dX5_fewestPlaces_2 rfl ?_
    refine go_aloadn dX5_fewestPlaces_3 rfl ?_
    refine sg_getR dX5_fewestPlaces_4 fX5_21 rfl (tw_L at30) hS hbc ?_
    refine sg_getI dX5_fewestPlaces_7 fX5_27 rfl (ct_L hc) hS ?_
    refine go_icmp_ge (tgt := 43) dX5_fewestPlaces_10 (by decide) (fun c10 => ?_) (fun c10 => absurd (by rw [hpe]; exact nI_le (Nat.le_refl _) (by omega)) c10)
    refine go_iconst (v := 1) dX5_fewestPlaces_43 rfl ?_
    refine go_aloadn dX5_fewestPlaces_44 rfl ?_
    refine sg_getR dX5_fewestPlaces_45 fX5_21 rfl (tw_L at30) hS hbc ?_
    refine sg_getI dX5_fewestPlaces_48 fX5_54 rfl (ct_L hc) hS ?_
    rw [H2.2.1.1.1]
    refine go_ishl dX5_fewestPlaces_51 ?_
    refine go_iconst (v := 1) dX5_fewestPlaces_52 rfl ?_
    refine go_isub dX5_fewestPlaces_53 ?_
    rw [s6]
    refine go_ist3 dX5_fewestPlaces_54 rfl ?_
    refine go_iloadn dX5_fewestPlaces_55 rfl ?_
    refine go_ist4 dX5_fewestPlaces_56 rfl ?_
    refine go_iconst (v := 0) dX5_fewestPlaces_58 rfl ?_
    refine go_ist5 dX5_fewestPlaces_59 rfl ?_
    refine go_loop (lvf := fun k => [some (.ref 73), some (.ref 30), some (.int (nI n)), some (.int (nI (2 ^ cL C - 1))), some (.int (fpT C T n k)), some (.int (nI k))]) (hf := fun _ => g) (2 ^ cL C) (fun _ => True) (fun k hk _ ih => ?_) (fun _ => ?_) 0 (Nat.zero_le _) trivial
    · have es : fpT C T n (k + 1) = if bcF (nI k) < bcF (fpT C T n k) ∧ meB (frT C T n) (cP C) (nI k) = true then nI k else fpT C T n k := rfl
      rw [es] at ih
      refine go_iload dX5_fewestPlaces_61 rfl ?_
      refine go_iloadn dX5_fewestPlaces_63 rfl ?_
      refine go_icmp_gt (tgt := 100) dX5_fewestPlaces_64 (by decide) (fun c64 => ?_) (fun c64 => ?_)
      · exact absurd c64 (nI_nlt (by omega) (by omega))
      · refine go_iload dX5_fewestPlaces_67 rfl ?_
        refine sg_cSi (M' := mJ6_bitCount_0f7a4) ([.int _]) dX5_fewestPlaces_69 lX5_57 sJ6_bitCount_0f7a4 hS (r_bitCount) rfl (Nat.le_of_ble_eq_true rfl) (Nat.zero_le _) (Nat.zero_le _) ?_
        refine go_iload dX5_fewestPlaces_72 rfl ?_
        refine sg_cSi (M' := mJ6_bitCount_0f7a4) ([.int _]) dX5_fewestPlaces_74 lX5_57 sJ6_bitCount_0f7a4 hS (r_bitCount) rfl (Nat.le_of_ble_eq_true rfl) (Nat.zero_le _) (Nat.zero_le _) ?_
        refine go_icmp_ge (tgt := 94) dX5_fewestPlaces_77 (by decide) (fun c77 => ?_) (fun c77 => ?_)
        · exact (by
          refine go_iinc5 (c1 := 1) dX5_fewestPlaces_94 rfl rfl ?_
          refine go_goto (tgt := 61) dX5_fewestPlaces_97 (by decide) ?_
          exact go_cong (ih trivial) (by rw [if_neg (fun q => absurd q.1 (Int32.not_lt.mpr c77))]; simp [nI_1]) rfl)
        · refine go_aloadn dX5_fewestPlaces_80 rfl ?_
          refine go_aloadn dX5_fewestPlaces_81 rfl ?_
          refine go_iload dX5_fewestPlaces_82 rfl ?_
          refine sg_cVi (M' := mX5_meetsAll) ([.ref 30, .int (nI k)]) dX5_fewestPlaces_84 lX5_62 vX5_meetsAll (ti_L rfl) (by decide) rfl hS (r_meetsAll W H2 hh) rfl (Nat.le_of_ble_eq_true rfl) (Nat.zero_le _) (Nat.zero_le _) ?_
          refine go_if_eq (tgt := 94) dX5_fewestPlaces_87 (by decide) (fun c87 => ?_) (fun c87 => ?_)
          · refine go_iinc5 (c1 := 1) dX5_fewestPlaces_94 rfl rfl ?_
            refine go_goto (tgt := 61) dX5_fewestPlaces_97 (by decide) ?_
            exact go_cong (ih trivial) (by by_cases q : meB (frT C T n) (cP C) (nI k) = true; (· rw [if_pos q] at c87; rw [if_pos ⟨Int32.not_le.mp c77, q⟩]; first | exact absurd c87 (by decide) | simp [nI_1]); (rw [if_neg q] at c87; rw [if_neg (fun z => q z.2)]; first | exact absurd rfl c87 | simp [nI_1])) rfl
          · refine go_iload dX5_fewestPlaces_90 rfl ?_
            refine go_ist4 dX5_fewestPlaces_92 rfl ?_
            refine go_iinc5 (c1 := 1) dX5_fewestPlaces_94 rfl rfl ?_
            refine go_goto (tgt := 61) dX5_fewestPlaces_97 (by decide) ?_
            exact go_cong (ih trivial) (by by_cases q : meB (frT C T n) (cP C) (nI k) = true; (· rw [if_pos q] at c87; rw [if_pos ⟨Int32.not_le.mp c77, q⟩]; first | exact absurd c87 (by decide) | simp [nI_1]); (rw [if_neg q] at c87; rw [if_neg (fun z => q z.2)]; first | exact absurd rfl c87 | simp [nI_1])) rfl
    · refine go_iload dX5_fewestPlaces_61 rfl ?_
      refine go_iloadn dX5_fewestPlaces_63 rfl ?_
      refine go_icmp_gt (tgt := 100) dX5_fewestPlaces_64 (by decide) (fun c64 => ?_) (fun c64 => ?_)
      · refine go_iload dX5_fewestPlaces_100 rfl ?_
        refine go_ireturn dX5_fewestPlaces_102 rfl rfl (Nat.zero_le _) (Nat.zero_le _) ?_
        exact ⟨rfl, F⟩
      · exact absurd (nI_lt (by omega) (by omega)) c64
def vi1 (C : Cy) (T : Tn) (pl : Int32) (p : Nat) (a : Nat) : Nat → Nat := foF (fun k a => if plT C T p (tD T + k) = pl then a + 1 else a) a
def viT (C : Cy) (T : Tn) (pl : Int32) (n : Nat) : Nat → Nat := foF (fun p a => vi1 C T pl p a n) 0
theorem r_visits {l : Launch} {d c fs fr n : Nat} {C : Cy} {T : Tn} {h : Hp} {pl : Int32} (W : WC C) (H : TV h 30 c fs fr C T) (hn : n ≤ 100) : Ex l (d + 2) mX5_visits [.ref 30, .int pl, .int (nI n)] h (some (.int (nI (viT C T pl n (cP C))))) h := by
  obtain ⟨hc, hbc, hS⟩ := H.hc
  have hD := H.1.2.2.2.2.1
  have hDl := H.1.2.2.2.2.2
  have hpe := H.1.1.2.2.2.2.2.2.1
  have hP := W.1.2.1
  refine run_lv [some (.ref 30), some (.int pl), some (.int (nI n)), none, none, none] (go := ?_)
  refine go_iconst (v := 0) dX5_visits_0 rfl ?_
  refine go_ist3 dX5_visits_1 rfl ?_
  refine go_iconst (v := 0) dX5_visits_2 rfl ?_
  refine go_ist4 dX5_visits_3 rfl ?_
  refine go_loop (lvf := fun k => [some (.ref 30), some (.int pl), some (.int (nI n)), some (.int (nI (viT C T pl n k))), some (.int (nI k)), none]) (hf := fun _ => h) (cP C) (fun _ => True) (fun p hp _ ih => ?_) (fun _ => ?_) 0 (Nat.zero_le _) trivial
  · have es : viT C T pl n (p + 1) = vi1 C T pl p (viT C T pl n p) n := rfl
    rw [es] at ih
    generalize viT C T pl n p = a at *
    refine go_iload dX5_visits_5 rfl ?_
    refine go_aloadn dX5_visits_7 rfl ?_
    refine sg_getR dX5_visits_8 fX5_21 rfl (tw_L at30) hS hbc ?_
    refine sg_getI dX5_visits_11 fX5_27 rfl (ct_L hc) hS ?_
    refine go_icmp_ge (tgt := 58) dX5_visits_14 (by decide) (fun c14 => absurd (hpe ▸ c14) (nI_ge hp (by omega))) (fun c14 => ?_)
    refine go_iconst (v := 0) dX5_visits_17 rfl ?_
    refine go_ist5 dX5_visits_18 rfl ?_
    refine go_loop (lvf := fun k => [some (.ref 30), some (.int pl), some (.int (nI n)), some (.int (nI (vi1 C T pl p a k))), some (.int (nI p)), some (.int (nI k))]) (hf := fun _ => h) n (fun _ => True) (fun k hk _ ih2 => ?_) (fun _ => ?_) 0 (Nat.zero_le _) trivial
    · have es2 : vi1 C T pl p a (k + 1) = if plT C T p (tD T + k) = pl then vi1 C T pl p a k + 1 else vi1 C T pl p a k := rfl
      rw [es2] at ih2
      refine go_iload dX5_visits_20 rfl ?_
      refine go_iloadn dX5_visits_22 rfl ?_
      refine go_icmp_ge (tgt := 52) dX5_visits_23 (by decide) (fun c23 => ?_) (fun c23 => ?_)
      · exact absurd c23 (nI_ge hk (by omega))
      · refine go_aloadn dX5_visits_26 rfl ?_
        refine go_iload dX5_visits_27 rfl ?_
        refine go_aloadn dX5_visits_29 rfl ?_
        refine sg_getI dX5_visits_30 fX5_66 rfl (tw_L at30) hS ?_
        rw [hD]
        refine go_iload dX5_visits_33 rfl ?_
        refine go_iadd dX5_visits_35 ?_
        rw [nI_add]
        refine sg_cVi (M' := mX6_placeOn) ([.int (nI p), .int (nI (tD T + k))]) dX5_visits_36 lX5_69 vX6_placeOn (tw_L at30) (by decide) rfl hS (r_pl W H hp (by omega)) rfl (Nat.le_of_ble_eq_true rfl) (Nat.zero_le _) (Nat.zero_le _) ?_
        refine go_iloadn dX5_visits_39 rfl ?_
        refine go_icmp_ne (tgt := 46) dX5_visits_40 (by decide) (fun c40 => ?_) (fun c40 => ?_)
        · refine go_iinc5 (c1 := 1) dX5_visits_46 rfl rfl ?_
          refine go_goto (tgt := 20) dX5_visits_49 (by decide) ?_
          exact go_cong (ih2 trivial) (by first | (rw [if_pos c40]; simp [nI_1]; done) | (rw [if_neg c40]; simp [nI_1])) rfl
        · refine go_iinc3 (c1 := 1) dX5_visits_43 rfl rfl ?_
          refine go_iinc5 (c1 := 1) dX5_visits_46 rfl rfl ?_
          refine go_goto (tgt := 20) dX5_visits_49 (by decide) ?_
          exact go_cong (ih2 trivial) (by first | (rw [if_pos c40]; simp [nI_1]; done) | (rw [if_neg c40]; simp [nI_1])) rfl
    · refine go_iload dX5_visits_20 rfl ?_
      refine go_iloadn dX5_visits_22 rfl ?_
      refine go_icmp_ge (tgt := 52) dX5_visits_23 (by decide) (fun c23 => ?_) (fun c23 => ?_)
      · refine go_iinc4 (c1 := 1) dX5_visits_52 rfl rfl ?_
        refine go_goto (tgt := 5) dX5_visits_55 (by decide) ?_
        exact go_back (ih trivial) (by simp [lsub, nI_1]) rfl
      · exact absurd (nI_le (Nat.le_refl _) (by omega)) c23
  · refine go_iload dX5_visits_5 rfl ?_
    refine go_aloadn dX5_visits_7 rfl ?_
    refine sg_getR dX5_visits_8 fX5_21 rfl (tw_L at30) hS hbc ?_
    refine sg_getI dX5_visits_11 fX5_27 rfl (ct_L hc) hS ?_
    refine go_icmp_ge (tgt := 58) dX5_visits_14 (by decide) (fun c14 => ?_) (fun c14 => ?_)
    · refine go_iloadn dX5_visits_58 rfl ?_
      refine go_ireturn dX5_visits_59 rfl rfl (Nat.zero_le _) (Nat.zero_le _) ?_
      exact ⟨rfl, rfl⟩
    · exact absurd (by rw [hpe]; exact nI_le (Nat.le_refl _) (by omega)) c14
def buT (C : Cy) (T : Tn) (n : Nat) : Nat → Int32 × Int32 := foF (fun x s => if nI (viT C T (nI x) n (cP C)) ≤ s.2 then s else (nI x, nI (viT C T (nI x) n (cP C)))) (0, 0)
theorem r_busiest {l : Launch} {d c fs fr n : Nat} {C : Cy} {T : Tn} {h : Hp} (W : WC C) (H : TV h 30 c fs fr C T) (hn : n ≤ 100) : Ex l (d + 3) mX5_busiest [.ref 73, .ref 30, .int (nI n)] h (some (.int (buT C T n (cL C)).1)) h := by
  obtain ⟨hc, hbc, hS⟩ := H.hc
  have hL := W.1.2.2.2.1
  have hpl := H.2.1.1.1
  refine run_lv [some (.ref 73), some (.ref 30), some (.int (nI n)), none, none, none, none] (go := ?_)
  refine go_iconst (v := 0) dX5_busiest_0 rfl ?_
  refine go_ist3 dX5_busiest_1 rfl ?_
  refine go_iconst (v := 0) dX5_busiest_2 rfl ?_
  refine go_ist4 dX5_busiest_3 rfl ?_
  refine go_iconst (v := 0) dX5_busiest_5 rfl ?_
  refine go_ist5 dX5_busiest_6 rfl ?_
  refine go_loop (lvf := fun k => [some (.ref 73), some (.ref 30), some (.int (nI n)), some (.int (buT C T n k).1), some (.int (buT C T n k).2), some (.int (nI k)), none]) (hf := fun _ => h) (cL C) (fun _ => True) (fun k hk _ ih => ?_) (fun _ => ?_) 0 (Nat.zero_le _) trivial
  · have es : buT C T n (k + 1) = if nI (viT C T (nI k) n (cP C)) ≤ (buT C T n k).2 then buT C T n k else (nI k, nI (viT C T (nI k) n (cP C))) := rfl
    rw [es] at ih
    refine go_iload dX5_busiest_8 rfl ?_
    refine go_aloadn dX5_busiest_10 rfl ?_
    refine sg_getR dX5_busiest_11 fX5_21 rfl (tw_L at30) hS hbc ?_
    refine sg_getI dX5_busiest_14 fX5_54 rfl (ct_L hc) hS ?_
    refine go_icmp_ge (tgt := 49) dX5_busiest_17 (by decide) (fun c17 => ?_) (fun c17 => ?_)
    · exact absurd (hpl ▸ c17) (nI_ge hk (by omega))
    · refine go_aloadn dX5_busiest_20 rfl ?_
      refine go_iload dX5_busiest_21 rfl ?_
      refine go_iloadn dX5_busiest_23 rfl ?_
      refine sg_cSi (M' := mX5_visits) ([.ref 30, .int (nI k), .int (nI n)]) dX5_busiest_24 lX5_73 sX5_visits hS (r_visits W H hn) rfl (Nat.le_of_ble_eq_true rfl) (Nat.zero_le _) (Nat.zero_le _) ?_
      refine go_ist6 dX5_busiest_27 rfl ?_
      refine go_iload dX5_busiest_29 rfl ?_
      refine go_iload dX5_busiest_31 rfl ?_
      refine go_icmp_le (tgt := 43) dX5_busiest_33 (by decide) (fun c33 => ?_) (fun c33 => ?_)
      · refine go_iinc5 (c1 := 1) dX5_busiest_43 rfl rfl ?_
        refine go_goto (tgt := 8) dX5_busiest_46 (by decide) ?_
        exact go_back (ih trivial) (by first | (rw [if_pos c33]; simp [lsub, nI_1]; done) | (rw [if_neg c33]; simp [lsub, nI_1])) rfl
      · refine go_iload dX5_busiest_36 rfl ?_
        refine go_ist3 dX5_busiest_38 rfl ?_
        refine go_iload dX5_busiest_39 rfl ?_
        refine go_ist4 dX5_busiest_41 rfl ?_
        refine go_iinc5 (c1 := 1) dX5_busiest_43 rfl rfl ?_
        refine go_goto (tgt := 8) dX5_busiest_46 (by decide) ?_
        exact go_back (ih trivial) (by first | (rw [if_pos c33]; simp [lsub, nI_1]; done) | (rw [if_neg c33]; simp [lsub, nI_1])) rfl
  · refine go_iload dX5_busiest_8 rfl ?_
    refine go_aloadn dX5_busiest_10 rfl ?_
    refine sg_getR dX5_busiest_11 fX5_21 rfl (tw_L at30) hS hbc ?_
    refine sg_getI dX5_busiest_14 fX5_54 rfl (ct_L hc) hS ?_
    refine go_icmp_ge (tgt := 49) dX5_busiest_17 (by decide) (fun c17 => ?_) (fun c17 => ?_)
    · refine go_iloadn dX5_busiest_49 rfl ?_
      refine go_ireturn dX5_busiest_50 rfl rfl (Nat.zero_le _) (Nat.zero_le _) ?_
      exact ⟨rfl, rfl⟩
    · exact absurd (by rw [hpl]; exact nI_le (Nat.le_refl _) (by omega)) c17
