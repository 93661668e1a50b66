/-! Town: where one is; who looks -/
def plF (wl wk : Nat → Int32) (p d : Int32) : Int32 := if wl p.toNatClampNeg < 1 then 0 else if 0 ≤ d then wk (p * 6 + (d - d / wl p.toNatClampNeg * wl p.toNatClampNeg)).toNatClampNeg else 0
theorem r_placeOn {l : Launch} {d b c : Nat} {h : Hp} {p dy : Int32} (hS : St h) (hb : TownAt b) (hc : CityAt c) (hbc : hR h b 0 = some c) (hp : vp_in p 8) (hw : ¬ hI h (c + 3) p.toNatClampNeg < 1 → 0 ≤ dy → vp_in (p * 6 + (dy - dy / hI h (c + 3) p.toNatClampNeg * hI h (c + 3) p.toNatClampNeg)) 48) :
    Run l (d + 1) (0, 0) mX6_placeOn [.ref b, .int p, .int dy] h (fun v h' => v = some (.int (plF (hI h (c + 3)) (hI h (b + 3)) p dy)) ∧ h' = h) noX := by
  refine run_lv [some (.ref b), some (.int p), some (.int dy), none] (go := ?_)
  refine go_aloadn dX6_placeOn_0 rfl ?_
  refine sg_getR dX6_placeOn_1 fX6_47 rfl (tw_L hb) hS hbc ?_
  refine sg_getR dX6_placeOn_4 fX6_156 rfl (ct_L hc) hS (ct_r6 hS hc) ?_
  refine go_iloadn dX6_placeOn_7 rfl ?_
  refine sg_iald dX6_placeOn_8 (ct_6 hc) hS (hp) ?_
  refine go_ist3 dX6_placeOn_9 rfl ?_
  refine go_iloadn dX6_placeOn_10 rfl ?_
  refine go_iconst (v := 1) dX6_placeOn_11 rfl ?_
  refine go_icmp_lt (tgt := 19) dX6_placeOn_12 (by decide) (fun c1 => ?_) (fun c1 => ?_)
  · refine go_iconst (v := 0) dX6_placeOn_19 rfl ?_
    refine go_goto (tgt := 36) dX6_placeOn_20 (by decide) ?_
    exact go_ireturn dX6_placeOn_36 rfl rfl (Nat.le_refl _) (Nat.le_refl _) ⟨by rw [plF, if_pos c1], rfl⟩
  · refine go_iloadn dX6_placeOn_15 rfl ?_
    refine go_if_ge (tgt := 23) dX6_placeOn_16 (by decide) (fun c2 => ?_) (fun c2 => ?_)
    · refine go_aloadn dX6_placeOn_23 rfl ?_
      refine sg_getR dX6_placeOn_24 fX6_18 rfl (tw_L hb) hS (tw_r5 hS hb) ?_
      refine go_iloadn dX6_placeOn_27 rfl ?_
      refine go_bipush (v := 6) dX6_placeOn_28 rfl ?_
      refine go_imul dX6_placeOn_30 ?_
      refine go_iloadn dX6_placeOn_31 rfl ?_
      refine go_iloadn dX6_placeOn_32 rfl ?_
      refine go_irem dX6_placeOn_33 (fun q => c1 (by rw [q]; decide)) ?_
      refine go_iadd dX6_placeOn_34 ?_
      refine sg_iald dX6_placeOn_35 (tw_5 hb) hS (hw c1 c2) ?_
      exact go_ireturn dX6_placeOn_36 rfl rfl (Nat.le_refl _) (Nat.le_refl _) ⟨by rw [plF, if_neg c1, if_pos c2], rfl⟩
    · refine go_iconst (v := 0) dX6_placeOn_19 rfl ?_
      refine go_goto (tgt := 36) dX6_placeOn_20 (by decide) ?_
      exact go_ireturn dX6_placeOn_36 rfl rfl (Nat.le_refl _) (Nat.le_refl _) ⟨by rw [plF, if_neg c1, if_neg c2], rfl⟩
theorem r_wornBits {l : Launch} {d b c N : Nat} {h : Hp} (hS : St h) (hb : TownAt b) (hc : CityAt c) (hbc : hR h b 0 = some c) (hth : hI h c 2 = nI N) (hN : N ≤ 10) :
    Run l (d + 1) (0, 0) mX6_wornBits [.ref b] h (fun v h' => v = some (.int (btF (fun t => ¬ hI h (b + 6) t = -1) N)) ∧ h' = h) noX := by
  refine run_lv [some (.ref b), none, none] (go := ?_)
  refine go_iconst (v := 0) dX6_wornBits_0 rfl ?_
  refine go_ist1 dX6_wornBits_1 rfl ?_
  refine go_iconst (v := 0) dX6_wornBits_2 rfl ?_
  refine go_ist2 dX6_wornBits_3 rfl ?_
  refine go_loop (lvf := fun k => [some (.ref b), some (.int (btF (fun t => ¬ hI h (b + 6) t = -1) k)), some (.int (nI k))]) (hf := fun _ => h) N (fun _ => True) (fun k hk _ ih => ?_) (fun _ => ?_) 0 (Nat.zero_le _) trivial
  · refine go_iloadn dX6_wornBits_4 rfl ?_
    refine go_aloadn dX6_wornBits_5 rfl ?_
    refine sg_getR dX6_wornBits_6 fX6_47 rfl (tw_L hb) hS hbc ?_
    refine sg_getI dX6_wornBits_9 fX6_91 rfl (ct_L hc) hS ?_
    refine go_icmp_ge (tgt := 37) dX6_wornBits_12 (by decide) (fun c12 => ?_) (fun c12 => ?_)
    · exact absurd (hth ▸ c12) (nI_ge hk (by omega))
    · refine go_aloadn dX6_wornBits_15 rfl ?_
      refine sg_getR dX6_wornBits_16 fX6_27 rfl (tw_L hb) hS (tw_r8 hS hb) ?_
      refine go_iloadn dX6_wornBits_19 rfl ?_
      refine sg_iald dX6_wornBits_20 (tw_8 hb) hS (vp_in_nI (by omega) (by decide)) ?_
      rw [cl_nI (by omega)]
      refine go_iconst (v := -1) dX6_wornBits_21 rfl ?_
      refine go_icmp_eq (tgt := 31) dX6_wornBits_22 (by decide) (fun c22 => ?_) (fun c22 => ?_)
      · refine go_iinc2 (c1 := 1) dX6_wornBits_31 rfl rfl ?_
        refine go_goto (tgt := 4) dX6_wornBits_34 (by decide) ?_
        exact go_cong (ih trivial) (by simp [btF, c22, nI_1]) rfl
      · refine go_iloadn dX6_wornBits_25 rfl ?_
        refine go_iconst (v := 1) dX6_wornBits_26 rfl ?_
        refine go_iloadn dX6_wornBits_27 rfl ?_
        refine go_ishl dX6_wornBits_28 ?_
        refine go_ior dX6_wornBits_29 ?_
        refine go_ist1 dX6_wornBits_30 rfl ?_
        refine go_iinc2 (c1 := 1) dX6_wornBits_31 rfl rfl ?_
        refine go_goto (tgt := 4) dX6_wornBits_34 (by decide) ?_
        exact go_cong (ih trivial) (by simp [btF, c22, nI_1]) rfl
  · refine go_iloadn dX6_wornBits_4 rfl ?_
    refine go_aloadn dX6_wornBits_5 rfl ?_
    refine sg_getR dX6_wornBits_6 fX6_47 rfl (tw_L hb) hS hbc ?_
    refine sg_getI dX6_wornBits_9 fX6_91 rfl (ct_L hc) hS ?_
    refine go_icmp_ge (tgt := 37) dX6_wornBits_12 (by decide) (fun c12 => ?_) (fun c12 => ?_)
    · refine go_iloadn dX6_wornBits_37 rfl ?_
      refine go_ireturn dX6_wornBits_38 rfl rfl (Nat.zero_le _) (Nat.zero_le _) ?_
      exact ⟨rfl, rfl⟩
    · exact absurd (by rw [hth]; exact nI_le (Nat.le_refl _) (by omega)) c12
