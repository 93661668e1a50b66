/-! Town: where one is; who looks -/
def plF (wl wk : Nat → Int32) (p d : Int32) : Int32 := if wl p.toNatClampNeg < 1 then 0 else if 0 ≤ d then wk (p * 6 + (d - d / wl p.toNatClampNeg * wl p.toNatClampNeg)).toNatClampNeg else 0
theorem r_placeOn {l : Launch} {d b c : Nat} {h : Hp} {p dy : Int32} (hS : St h) (hb : TownAt b) (hc : CityAt c) (hbc : hR h b 0 = some c) (hp : vp_in p 8) (hw : ¬ hI h (c + 3) p.toNatClampNeg < 1 → 0 ≤ dy → vp_in (p * 6 + (dy - dy / hI h (c + 3) p.toNatClampNeg * hI h (c + 3) p.toNatClampNeg)) 48) :
    Run l (d + 1) (0, 0) mX6_placeOn [.ref b, .int p, .int dy] h (fun v h' => v = some (.int (plF (hI h (c + 3)) (hI h (b + 3)) p dy)) ∧ h' = h) noX := by
  refine run_lv [some (.ref b), some (.int p), some (.int dy), none] (go := ?_)
  refine go_aloadn dX6_placeOn_0 rfl ?_
  refine sg_getR dX6_placeOn_1 fX6_47 rfl (tw_L hb) hS hbc ?_
  refine sg_getR dX6_placeOn_4 fX6_156 rfl (ct_L hc) hS (ct_r6 hS hc) ?_
  refine go_iloadn dX6_placeOn_7 rfl ?_
  refine sg_iald dX6_placeOn_8 (ct_6 hc) hS (hp) ?_
  refine go_ist3 dX6_placeOn_9 rfl ?_
  refine go_iloadn dX6_placeOn_10 rfl ?_
  refine go_iconst (v := 1) dX6_placeOn_11 rfl ?_
  refine go_icmp_lt (tgt := 19) dX6_placeOn_12 (by decide) (fun c1 => ?_) (fun c1 => ?_)
  · refine go_iconst (v := 0) dX6_placeOn_19 rfl ?_
    refine go_goto (tgt := 36) dX6_placeOn_20 (by decide) ?_
    exact go_ireturn dX6_placeOn_36 rfl rfl (Nat.le_refl _) (Nat.le_refl _) ⟨by rw [plF, if_pos c1], rfl⟩
  · refine go_iloadn dX6_placeOn_15 rfl ?_
    refine go_if_ge (tgt := 23) dX6_placeOn_16 (by decide) (fun c2 => ?_) (fun c2 => ?_)
    · refine go_aloadn dX6_placeOn_23 rfl ?_
      refine sg_getR dX6_placeOn_24 fX6_18 rfl (tw_L hb) hS (tw_r5 hS hb) ?_
      refine go_iloadn dX6_placeOn_27 rfl ?_
      refine go_bipush (v := 6) dX6_placeOn_28 rfl ?_
      refine go_imul dX6_placeOn_30 ?_
      refine go_iloadn dX6_placeOn_31 rfl ?_
      refine go_iloadn dX6_placeOn_32 rfl ?_
      refine go_irem dX6_placeOn_33 (fun q => c1 (by rw [q]; decide)) ?_
      refine go_iadd dX6_placeOn_34 ?_
      refine sg_iald dX6_placeOn_35 (tw_5 hb) hS (hw c1 c2) ?_
      exact go_ireturn dX6_placeOn_36 rfl rfl (Nat.le_refl _) (Nat.le_refl _) ⟨by rw [plF, if_neg c1, if_pos c2], rfl⟩
    · refine go_iconst (v := 0) dX6_placeOn_19 rfl ?_
      refine go_goto (tgt := 36) dX6_placeOn_20 (by decide) ?_
      exact go_ireturn dX6_placeOn_36 rfl rfl (Nat.le_refl _) (Nat.le_refl _) ⟨by rw [plF, if_neg c1, if_neg c2], rfl⟩
