/-! Town: where one is, who looks -/
def plF (wl wk : Nat → Int32) (p d : Int32) : Int32 := if wl p.toNatClampNeg < 1 then 0 else if 0 ≤ d then wk (p * 6 + (d - d / wl p.toNatClampNeg * wl p.toNatClampNeg)).toNatClampNeg else 0
theorem r_placeOn {l : Launch} {d b c N P : Nat} {h : Hp} {p dy : Int32} (H : TC h b c N P) (hp : vp_in p 8) (hw : ¬ hI h (c + 3) p.toNatClampNeg < 1 → 0 ≤ dy → vp_in (p * 6 + (dy - dy / hI h (c + 3) p.toNatClampNeg * hI h (c + 3) p.toNatClampNeg)) 48) :
    Ex l (d + 1) mX6_placeOn [.ref b, .int p, .int dy] h (some (.int (plF (hI h (c + 3)) (hI h (b + 3)) p dy))) h := by
  obtain ⟨hS, hb, hc, hbc, -⟩ := id H
  refine run_lv [some (.ref b), some (.int p), some (.int dy), none] (go := ?_)
  refine go_aloadn dX6_placeOn_0 rfl ?_
  refine sg_getR dX6_placeOn_1 fX6_47 rfl (tw_L hb) hS hbc ?_
  refine sg_getR dX6_placeOn_4 fX6_156 rfl (ct_L hc) hS (ct_r6 hS hc) ?_
  refine go_iloadn dX6_placeOn_7 rfl ?_
  refine sg_iald dX6_placeOn_8 (ct_6 hc) hS (hp) ?_
  refine go_ist3 dX6_placeOn_9 rfl ?_
  refine go_iloadn dX6_placeOn_10 rfl ?_
  refine go_iconst (v := 1) dX6_placeOn_11 rfl ?_
  refine go_icmp_lt (tgt := 19) dX6_placeOn_12 (by decide) (fun c12 => ?_) (fun c12 => ?_)
  · refine go_iconst (v := 0) dX6_placeOn_19 rfl ?_
    refine go_goto (tgt := 36) dX6_placeOn_20 (by decide) ?_
    refine go_ireturn dX6_placeOn_36 rfl rfl (Nat.zero_le _) (Nat.zero_le _) ?_
    exact ⟨by simp [plF, *], rfl⟩
  · refine go_iloadn dX6_placeOn_15 rfl ?_
    refine go_if_ge (tgt := 23) dX6_placeOn_16 (by decide) (fun c16 => ?_) (fun c16 => ?_)
    · refine go_aloadn dX6_placeOn_23 rfl ?_
      refine sg_getR dX6_placeOn_24 fX6_18 rfl (tw_L hb) hS (tw_r5 hS hb) ?_
      refine go_iloadn dX6_placeOn_27 rfl ?_
      refine go_bipush (v := 6) dX6_placeOn_28 rfl ?_
      refine go_imul dX6_placeOn_30 ?_
      refine go_iloadn dX6_placeOn_31 rfl ?_
      refine go_iloadn dX6_placeOn_32 rfl ?_
      refine go_irem dX6_placeOn_33 (fun q => c12 (by rw [q]; decide)) ?_
      refine go_iadd dX6_placeOn_34 ?_
      refine sg_iald dX6_placeOn_35 (tw_5 hb) hS (hw c12 c16) ?_
      refine go_ireturn dX6_placeOn_36 rfl rfl (Nat.zero_le _) (Nat.zero_le _) ?_
      exact ⟨by simp [plF, *], rfl⟩
    · refine go_iconst (v := 0) dX6_placeOn_19 rfl ?_
      refine go_goto (tgt := 36) dX6_placeOn_20 (by decide) ?_
      refine go_ireturn dX6_placeOn_36 rfl rfl (Nat.zero_le _) (Nat.zero_le _) ?_
      exact ⟨by simp [plF, *], rfl⟩
theorem r_wornBits {l : Launch} {d b c N P : Nat} {h : Hp} (H : TC h b c N P) :
    Ex l (d + 1) mX6_wornBits [.ref b] h (some (.int (btF (fun t => ¬ hI h (b + 6) t = -1) N))) h := by
  obtain ⟨hS, hb, hc, hbc, hth, hN, -⟩ := id H
  refine run_lv [some (.ref b), none, none] (go := ?_)
  refine go_iconst (v := 0) dX6_wornBits_0 rfl ?_
  refine go_ist1 dX6_wornBits_1 rfl ?_
  refine go_iconst (v := 0) dX6_wornBits_2 rfl ?_
  refine go_ist2 dX6_wornBits_3 rfl ?_
  refine go_loop (lvf := fun k => [some (.ref b), some (.int (btF (fun t => ¬ hI h (b + 6) t = -1) k)), some (.int (nI k))]) (hf := fun _ => h) N (fun _ => True) (fun k hk _ ih => ?_) (fun _ => ?_) 0 (Nat.zero_le _) trivial
  · refine go_iloadn dX6_wornBits_4 rfl ?_
    refine go_aloadn dX6_wornBits_5 rfl ?_
    refine sg_getR dX6_wornBits_6 fX6_47 rfl (tw_L hb) hS hbc ?_
    refine sg_getI dX6_wornBits_9 fX6_91 rfl (ct_L hc) hS ?_
    refine go_icmp_ge (tgt := 37) dX6_wornBits_12 (by decide) (fun c12 => ?_) (fun c12 => ?_)
    · exact absurd (hth ▸ c12) (nI_ge hk (by omega))
    · refine go_aloadn dX6_wornBits_15 rfl ?_
      refine sg_getR dX6_wornBits_16 fX6_27 rfl (tw_L hb) hS (tw_r8 hS hb) ?_
      refine go_iloadn dX6_wornBits_19 rfl ?_
      refine sg_iald dX6_wornBits_20 (tw_8 hb) hS (vp_in_nI (by omega) (by decide)) ?_
      rw [cl_nI (by omega)]
      refine go_iconst (v := -1) dX6_wornBits_21 rfl ?_
      refine go_icmp_eq (tgt := 31) dX6_wornBits_22 (by decide) (fun c22 => ?_) (fun c22 => ?_)
      · refine go_iinc2 (c1 := 1) dX6_wornBits_31 rfl rfl ?_
        refine go_goto (tgt := 4) dX6_wornBits_34 (by decide) ?_
        exact go_cong (ih trivial) (by simp [btF, c22, nI_1]) rfl
      · refine go_iloadn dX6_wornBits_25 rfl ?_
        refine go_iconst (v := 1) dX6_wornBits_26 rfl ?_
        refine go_iloadn dX6_wornBits_27 rfl ?_
        refine go_ishl dX6_wornBits_28 ?_
        refine go_ior dX6_wornBits_29 ?_
        refine go_ist1 dX6_wornBits_30 rfl ?_
        refine go_iinc2 (c1 := 1) dX6_wornBits_31 rfl rfl ?_
        refine go_goto (tgt := 4) dX6_wornBits_34 (by decide) ?_
        exact go_cong (ih trivial) (by simp [btF, c22, nI_1]) rfl
  · refine go_iloadn dX6_wornBits_4 rfl ?_
    refine go_aloadn dX6_wornBits_5 rfl ?_
    refine sg_getR dX6_wornBits_6 fX6_47 rfl (tw_L hb) hS hbc ?_
    refine sg_getI dX6_wornBits_9 fX6_91 rfl (ct_L hc) hS ?_
    refine go_icmp_ge (tgt := 37) dX6_wornBits_12 (by decide) (fun c12 => ?_) (fun c12 => ?_)
    · refine go_iloadn dX6_wornBits_37 rfl ?_
      refine go_ireturn dX6_wornBits_38 rfl rfl (Nat.zero_le _) (Nat.zero_le _) ?_
      exact ⟨rfl, rfl⟩
    · exact absurd (by rw [hth]; exact nI_le (Nat.le_refl _) (by omega)) c12
theorem r_wearsBits {l : Launch} {d b c N P : Nat} {h : Hp} {p : Int32} (H : TC h b c N P) :
    Ex l (d + 1) mX6_wearsBits [.ref b, .int p] h (some (.int (btF (fun t => hI h (b + 6) t = p) N))) h := by
  obtain ⟨hS, hb, hc, hbc, hth, hN, -⟩ := id H
  refine run_lv [some (.ref b), some (.int p), none, none] (go := ?_)
  refine go_iconst (v := 0) dX6_wearsBits_0 rfl ?_
  refine go_ist2 dX6_wearsBits_1 rfl ?_
  refine go_iconst (v := 0) dX6_wearsBits_2 rfl ?_
  refine go_ist3 dX6_wearsBits_3 rfl ?_
  refine go_loop (lvf := fun k => [some (.ref b), some (.int p), some (.int (btF (fun t => hI h (b + 6) t = p) k)), some (.int (nI k))]) (hf := fun _ => h) N (fun _ => True) (fun k hk _ ih => ?_) (fun _ => ?_) 0 (Nat.zero_le _) trivial
  · refine go_iloadn dX6_wearsBits_4 rfl ?_
    refine go_aloadn dX6_wearsBits_5 rfl ?_
    refine sg_getR dX6_wearsBits_6 fX6_47 rfl (tw_L hb) hS hbc ?_
    refine sg_getI dX6_wearsBits_9 fX6_91 rfl (ct_L hc) hS ?_
    refine go_icmp_ge (tgt := 37) dX6_wearsBits_12 (by decide) (fun c12 => ?_) (fun c12 => ?_)
    · exact absurd (hth ▸ c12) (nI_ge hk (by omega))
    · refine go_aloadn dX6_wearsBits_15 rfl ?_
      refine sg_getR dX6_wearsBits_16 fX6_27 rfl (tw_L hb) hS (tw_r8 hS hb) ?_
      refine go_iloadn dX6_wearsBits_19 rfl ?_
      refine sg_iald dX6_wearsBits_20 (tw_8 hb) hS (vp_in_nI (by omega) (by decide)) ?_
      rw [cl_nI (by omega)]
      refine go_iloadn dX6_wearsBits_21 rfl ?_
      refine go_icmp_ne (tgt := 31) dX6_wearsBits_22 (by decide) (fun c22 => ?_) (fun c22 => ?_)
      · refine go_iinc3 (c1 := 1) dX6_wearsBits_31 rfl rfl ?_
        refine go_goto (tgt := 4) dX6_wearsBits_34 (by decide) ?_
        exact go_cong (ih trivial) (by simp [btF, c22, nI_1]) rfl
      · refine go_iloadn dX6_wearsBits_25 rfl ?_
        refine go_iconst (v := 1) dX6_wearsBits_26 rfl ?_
        refine go_iloadn dX6_wearsBits_27 rfl ?_
        refine go_ishl dX6_wearsBits_28 ?_
        refine go_ior dX6_wearsBits_29 ?_
        refine go_ist2 dX6_wearsBits_30 rfl ?_
        refine go_iinc3 (c1 := 1) dX6_wearsBits_31 rfl rfl ?_
        refine go_goto (tgt := 4) dX6_wearsBits_34 (by decide) ?_
        exact go_cong (ih trivial) (by simp [btF, c22, nI_1]) rfl
  · refine go_iloadn dX6_wearsBits_4 rfl ?_
    refine go_aloadn dX6_wearsBits_5 rfl ?_
    refine sg_getR dX6_wearsBits_6 fX6_47 rfl (tw_L hb) hS hbc ?_
    refine sg_getI dX6_wearsBits_9 fX6_91 rfl (ct_L hc) hS ?_
    refine go_icmp_ge (tgt := 37) dX6_wearsBits_12 (by decide) (fun c12 => ?_) (fun c12 => ?_)
    · refine go_iloadn dX6_wearsBits_37 rfl ?_
      refine go_ireturn dX6_wearsBits_38 rfl rfl (Nat.zero_le _) (Nat.zero_le _) ?_
      exact ⟨rfl, rfl⟩
    · exact absurd (by rw [hth]; exact nI_le (Nat.le_refl _) (by omega)) c12
theorem r_ownsBits {l : Launch} {d b c N P : Nat} {h : Hp} {p : Int32} (H : TC h b c N P) :
    Ex l (d + 1) mX6_ownsBits [.ref b, .int p] h (some (.int (btF (fun t => hI h (b + 5) t = p) N))) h := by
  obtain ⟨hS, hb, hc, hbc, hth, hN, -⟩ := id H
  refine run_lv [some (.ref b), some (.int p), none, none] (go := ?_)
  refine go_iconst (v := 0) dX6_ownsBits_0 rfl ?_
  refine go_ist2 dX6_ownsBits_1 rfl ?_
  refine go_iconst (v := 0) dX6_ownsBits_2 rfl ?_
  refine go_ist3 dX6_ownsBits_3 rfl ?_
  refine go_loop (lvf := fun k => [some (.ref b), some (.int p), some (.int (btF (fun t => hI h (b + 5) t = p) k)), some (.int (nI k))]) (hf := fun _ => h) N (fun _ => True) (fun k hk _ ih => ?_) (fun _ => ?_) 0 (Nat.zero_le _) trivial
  · refine go_iloadn dX6_ownsBits_4 rfl ?_
    refine go_aloadn dX6_ownsBits_5 rfl ?_
    refine sg_getR dX6_ownsBits_6 fX6_47 rfl (tw_L hb) hS hbc ?_
    refine sg_getI dX6_ownsBits_9 fX6_91 rfl (ct_L hc) hS ?_
    refine go_icmp_ge (tgt := 37) dX6_ownsBits_12 (by decide) (fun c12 => ?_) (fun c12 => ?_)
    · exact absurd (hth ▸ c12) (nI_ge hk (by omega))
    · refine go_aloadn dX6_ownsBits_15 rfl ?_
      refine sg_getR dX6_ownsBits_16 fX6_24 rfl (tw_L hb) hS (tw_r7 hS hb) ?_
      refine go_iloadn dX6_ownsBits_19 rfl ?_
      refine sg_iald dX6_ownsBits_20 (tw_7 hb) hS (vp_in_nI (by omega) (by decide)) ?_
      rw [cl_nI (by omega)]
      refine go_iloadn dX6_ownsBits_21 rfl ?_
      refine go_icmp_ne (tgt := 31) dX6_ownsBits_22 (by decide) (fun c22 => ?_) (fun c22 => ?_)
      · refine go_iinc3 (c1 := 1) dX6_ownsBits_31 rfl rfl ?_
        refine go_goto (tgt := 4) dX6_ownsBits_34 (by decide) ?_
        exact go_cong (ih trivial) (by simp [btF, c22, nI_1]) rfl
      · refine go_iloadn dX6_ownsBits_25 rfl ?_
        refine go_iconst (v := 1) dX6_ownsBits_26 rfl ?_
        refine go_iloadn dX6_ownsBits_27 rfl ?_
        refine go_ishl dX6_ownsBits_28 ?_
        refine go_ior dX6_ownsBits_29 ?_
        refine go_ist2 dX6_ownsBits_30 rfl ?_
        refine go_iinc3 (c1 := 1) dX6_ownsBits_31 rfl rfl ?_
        refine go_goto (tgt := 4) dX6_ownsBits_34 (by decide) ?_
        exact go_cong (ih trivial) (by simp [btF, c22, nI_1]) rfl
  · refine go_iloadn dX6_ownsBits_4 rfl ?_
    refine go_aloadn dX6_ownsBits_5 rfl ?_
    refine sg_getR dX6_ownsBits_6 fX6_47 rfl (tw_L hb) hS hbc ?_
    refine sg_getI dX6_ownsBits_9 fX6_91 rfl (ct_L hc) hS ?_
    refine go_icmp_ge (tgt := 37) dX6_ownsBits_12 (by decide) (fun c12 => ?_) (fun c12 => ?_)
    · refine go_iloadn dX6_ownsBits_37 rfl ?_
      refine go_ireturn dX6_ownsBits_38 rfl rfl (Nat.zero_le _) (Nat.zero_le _) ?_
      exact ⟨rfl, rfl⟩
    · exact absurd (by rw [hth]; exact nI_le (Nat.le_refl _) (by omega)) c12
/-- the weight of those whose bits are set -/
def wtF (f : Nat → Int32) (v : Int32) : Nat → Int32 := foF (fun t a => if v >>> (nI t &&& 31) &&& 1 = 0 then a else a + f t) 0
theorem r_weightOf {l : Launch} {d b c N P : Nat} {h : Hp} {v : Int32} (H : TC h b c N P) :
    Ex l (d + 1) mX6_weightOf [.ref b, .int v] h (some (.int (wtF (hI h (c + 5)) v N))) h := by
  obtain ⟨hS, hb, hc, hbc, hth, hN, -⟩ := id H
  refine run_lv [some (.ref b), some (.int v), none, none] (go := ?_)
  refine go_iconst (v := 0) dX6_weightOf_0 rfl ?_
  refine go_ist2 dX6_weightOf_1 rfl ?_
  refine go_iconst (v := 0) dX6_weightOf_2 rfl ?_
  refine go_ist3 dX6_weightOf_3 rfl ?_
  refine go_loop (lvf := fun k => [some (.ref b), some (.int v), some (.int (wtF (hI h (c + 5)) v k)), some (.int (nI k))]) (hf := fun _ => h) N (fun _ => True) (fun k hk _ ih => ?_) (fun _ => ?_) 0 (Nat.zero_le _) trivial
  · refine go_iloadn dX6_weightOf_4 rfl ?_
    refine go_aloadn dX6_weightOf_5 rfl ?_
    refine sg_getR dX6_weightOf_6 fX6_47 rfl (tw_L hb) hS hbc ?_
    refine sg_getI dX6_weightOf_9 fX6_91 rfl (ct_L hc) hS ?_
    refine go_icmp_ge (tgt := 41) dX6_weightOf_12 (by decide) (fun c12 => ?_) (fun c12 => ?_)
    · exact absurd (hth ▸ c12) (nI_ge hk (by omega))
    · refine go_iloadn dX6_weightOf_15 rfl ?_
      refine go_iloadn dX6_weightOf_16 rfl ?_
      refine go_ishr dX6_weightOf_17 ?_
      refine go_iconst (v := 1) dX6_weightOf_18 rfl ?_
      refine go_iand dX6_weightOf_19 ?_
      refine go_if_eq (tgt := 35) dX6_weightOf_20 (by decide) (fun c20 => ?_) (fun c20 => ?_)
      · refine go_iinc3 (c1 := 1) dX6_weightOf_35 rfl rfl ?_
        refine go_goto (tgt := 4) dX6_weightOf_38 (by decide) ?_
        exact go_cong (ih trivial) (by simp [wtF, foF, c20, nI_1, cl_nI (show k < 2 ^ 31 by omega)]) rfl
      · refine go_iloadn dX6_weightOf_23 rfl ?_
        refine go_aloadn dX6_weightOf_24 rfl ?_
        refine sg_getR dX6_weightOf_25 fX6_47 rfl (tw_L hb) hS hbc ?_
        refine sg_getR dX6_weightOf_28 fX6_143 rfl (ct_L hc) hS (ct_r8 hS hc) ?_
        refine go_iloadn dX6_weightOf_31 rfl ?_
        refine sg_iald dX6_weightOf_32 (ct_8 hc) hS (vp_in_nI (by omega) (by decide)) ?_
        refine go_iadd dX6_weightOf_33 ?_
        refine go_ist2 dX6_weightOf_34 rfl ?_
        refine go_iinc3 (c1 := 1) dX6_weightOf_35 rfl rfl ?_
        refine go_goto (tgt := 4) dX6_weightOf_38 (by decide) ?_
        exact go_cong (ih trivial) (by simp [wtF, foF, c20, nI_1, cl_nI (show k < 2 ^ 31 by omega)]) rfl
  · refine go_iloadn dX6_weightOf_4 rfl ?_
    refine go_aloadn dX6_weightOf_5 rfl ?_
    refine sg_getR dX6_weightOf_6 fX6_47 rfl (tw_L hb) hS hbc ?_
    refine sg_getI dX6_weightOf_9 fX6_91 rfl (ct_L hc) hS ?_
    refine go_icmp_ge (tgt := 41) dX6_weightOf_12 (by decide) (fun c12 => ?_) (fun c12 => ?_)
    · refine go_iloadn dX6_weightOf_41 rfl ?_
      refine go_ireturn dX6_weightOf_42 rfl rfl (Nat.zero_le _) (Nat.zero_le _) ?_
      exact ⟨rfl, rfl⟩
    · exact absurd (by rw [hth]; exact nI_le (Nat.le_refl _) (by omega)) c12
theorem r_missed {l : Launch} {d b c N P : Nat} {h : Hp} {p : Int32} (H : TC h b c N P) :
    Ex l (d + 2) mX6_missed [.ref b, .int p] h (some (.int (btF (fun t => hI h (b + 5) t = p) N &&& btF (fun t => ¬ hI h (b + 6) t = -1) N))) h := by
  obtain ⟨hS, hb, hc, hbc, hth, hN, -⟩ := id H
  refine run_lv [some (.ref b), some (.int p)] (go := ?_)
  refine go_aloadn dX6_missed_0 rfl ?_
  refine go_iloadn dX6_missed_1 rfl ?_
  refine sg_cVi (M' := mX6_ownsBits) ([.int p]) dX6_missed_2 lX6_172 vX6_ownsBits (tw_L hb) (by decide) rfl hS (r_ownsBits H) rfl (Nat.le_of_ble_eq_true rfl) (Nat.zero_le _) (Nat.zero_le _) ?_
  refine go_aloadn dX6_missed_5 rfl ?_
  refine sg_cVi (M' := mX6_wornBits) ([]) dX6_missed_6 lX6_175 vX6_wornBits (tw_L hb) (by decide) rfl hS (r_wornBits H) rfl (Nat.le_of_ble_eq_true rfl) (Nat.zero_le _) (Nat.zero_le _) ?_
  refine go_iand dX6_missed_9 ?_
  refine go_ireturn dX6_missed_10 rfl rfl (Nat.zero_le _) (Nat.zero_le _) ?_
  exact ⟨rfl, rfl⟩
theorem r_load {l : Launch} {d b c N P : Nat} {h : Hp} {p : Int32} (H : TC h b c N P) :
    Ex l (d + 2) mX6_load [.ref b, .int p] h (some (.int (wtF (hI h (c + 5)) (btF (fun t => hI h (b + 6) t = p) N) N))) h := by
  obtain ⟨hS, hb, hc, hbc, hth, hN, -⟩ := id H
  refine run_lv [some (.ref b), some (.int p)] (go := ?_)
  refine go_aloadn dX6_load_0 rfl ?_
  refine go_aloadn dX6_load_1 rfl ?_
  refine go_iloadn dX6_load_2 rfl ?_
  refine sg_cVi (M' := mX6_wearsBits) ([.int p]) dX6_load_3 lX6_165 vX6_wearsBits (tw_L hb) (by decide) rfl hS (r_wearsBits H) rfl (Nat.le_of_ble_eq_true rfl) (Nat.zero_le _) (Nat.zero_le _) ?_
  refine sg_cVi (M' := mX6_weightOf) ([.int _]) dX6_load_6 lX6_179 vX6_weightOf (tw_L hb) (by decide) rfl hS (r_weightOf H) rfl (Nat.le_of_ble_eq_true rfl) (Nat.zero_le _) (Nat.zero_le _) ?_
  refine go_ireturn dX6_load_9 rfl rfl (Nat.zero_le _) (Nat.zero_le _) ?_
  exact ⟨rfl, rfl⟩
theorem r_wealth {l : Launch} {d b c N P : Nat} {h : Hp} {p : Int32} (H : TC h b c N P) :
    Ex l (d + 2) mX6_wealth [.ref b, .int p] h (some (.int (wtF (hI h (c + 5)) (btF (fun t => hI h (b + 5) t = p) N) N))) h := by
  obtain ⟨hS, hb, hc, hbc, hth, hN, -⟩ := id H
  refine run_lv [some (.ref b), some (.int p)] (go := ?_)
  refine go_aloadn dX6_wealth_0 rfl ?_
  refine go_aloadn dX6_wealth_1 rfl ?_
  refine go_iloadn dX6_wealth_2 rfl ?_
  refine sg_cVi (M' := mX6_ownsBits) ([.int p]) dX6_wealth_3 lX6_172 vX6_ownsBits (tw_L hb) (by decide) rfl hS (r_ownsBits H) rfl (Nat.le_of_ble_eq_true rfl) (Nat.zero_le _) (Nat.zero_le _) ?_
  refine sg_cVi (M' := mX6_weightOf) ([.int _]) dX6_wealth_6 lX6_179 vX6_weightOf (tw_L hb) (by decide) rfl hS (r_weightOf H) rfl (Nat.le_of_ble_eq_true rfl) (Nat.zero_le _) (Nat.zero_le _) ?_
  refine go_ireturn dX6_wealth_9 rfl rfl (Nat.zero_le _) (Nat.zero_le _) ?_
  exact ⟨rfl, rfl⟩
theorem r_maySteal {l : Launch} {d b c N P : Nat} {h : Hp} {p t : Int32} (H : TC h b c N P) (ht : vp_in t 10) :
    Ex l (d + 1) mX6_maySteal [.ref b, .int p, .int t] h (some (.int (if hI h (b + 5) t.toNatClampNeg = p ∨ hI h (b + 6) t.toNatClampNeg = p then 0 else 1))) h := by
  obtain ⟨hS, hb, hc, hbc, hth, hN, -⟩ := id H
  refine run_lv [some (.ref b), some (.int p), some (.int t)] (go := ?_)
  refine go_aloadn dX6_maySteal_0 rfl ?_
  refine sg_getR dX6_maySteal_1 fX6_24 rfl (tw_L hb) hS (tw_r7 hS hb) ?_
  refine go_iloadn dX6_maySteal_4 rfl ?_
  refine sg_iald dX6_maySteal_5 (tw_7 hb) hS (ht) ?_
  refine go_iloadn dX6_maySteal_6 rfl ?_
  refine go_icmp_eq (tgt := 24) dX6_maySteal_7 (by decide) (fun c7 => ?_) (fun c7 => ?_)
  · refine go_iconst (v := 0) dX6_maySteal_24 rfl ?_
    refine go_ireturn dX6_maySteal_25 rfl rfl (Nat.zero_le _) (Nat.zero_le _) ?_
    exact ⟨by simp [*], rfl⟩
  · refine go_aloadn dX6_maySteal_10 rfl ?_
    refine sg_getR dX6_maySteal_11 fX6_27 rfl (tw_L hb) hS (tw_r8 hS hb) ?_
    refine go_iloadn dX6_maySteal_14 rfl ?_
    refine sg_iald dX6_maySteal_15 (tw_8 hb) hS (ht) ?_
    refine go_iloadn dX6_maySteal_16 rfl ?_
    refine go_icmp_eq (tgt := 24) dX6_maySteal_17 (by decide) (fun c17 => ?_) (fun c17 => ?_)
    · refine go_iconst (v := 0) dX6_maySteal_24 rfl ?_
      refine go_ireturn dX6_maySteal_25 rfl rfl (Nat.zero_le _) (Nat.zero_le _) ?_
      exact ⟨by simp [*], rfl⟩
    · refine go_iconst (v := 1) dX6_maySteal_20 rfl ?_
      refine go_goto (tgt := 25) dX6_maySteal_21 (by decide) ?_
      refine go_ireturn dX6_maySteal_25 rfl rfl (Nat.zero_le _) (Nat.zero_le _) ?_
      exact ⟨by simp [*], rfl⟩
theorem r_putOn {l : Launch} {d b : Nat} {h : Hp} {p t : Int32} (hS : St h) (hb : TownAt b) (ht : vp_in t 10) :
    Ex l (d + 1) mX6_putOn [.ref b, .int p, .int t] h none (uI (uI h (b + 6) t.toNatClampNeg p) (b + 7) t.toNatClampNeg 0) := by
  refine run_lv [some (.ref b), some (.int p), some (.int t)] (go := ?_)
  refine go_aloadn dX6_putOn_0 rfl ?_
  refine sg_getR dX6_putOn_1 fX6_27 rfl (tw_L hb) hS (tw_r8 hS hb) ?_
  refine go_iloadn dX6_putOn_4 rfl ?_
  refine go_iloadn dX6_putOn_5 rfl ?_
  refine sg_iast dX6_putOn_6 (tw_8 hb) hS (ht) ?_
  refine go_aloadn dX6_putOn_7 rfl ?_
  refine sg_getR dX6_putOn_8 fX6_30 rfl (tw_L hb) hS (tw_r9 hS hb) ?_
  refine go_iloadn dX6_putOn_11 rfl ?_
  refine go_iconst (v := 0) dX6_putOn_12 rfl ?_
  refine sg_iast dX6_putOn_13 (tw_9 hb) hS (ht) ?_
  refine go_return dX6_putOn_14 rfl (Nat.zero_le _) (Nat.zero_le _) ?_
  exact ⟨rfl, rfl⟩
/-- all that p wears is put off, thing by thing -/
def offF (b : Nat) (p : Int32) (h : Hp) : Nat → Hp := foF (fun t g => if hI g (b + 6) t = p then uI (uI g (b + 6) t (-1)) (b + 7) t 0 else g) h
theorem TC_offF {h : Hp} {b c N P : Nat} (H : TC h b c N P) (p : Int32) (k : Nat) : TC (offF b p h k) b c N P := by
  induction k with
  | zero => exact H
  | succ k ih =>
    simp only [offF, foF] at ih ⊢
    split
    · exact (ih.uI (ct_ne H.2.1 H.2.2.1 (by omega))).uI (ct_ne H.2.1 H.2.2.1 (by omega))
    · exact ih
theorem r_putOffAll {l : Launch} {d b c N P : Nat} {h : Hp} {p : Int32} (H : TC h b c N P) :
    Ex l (d + 2) mX6_putOffAll [.ref b, .int p] h none (offF b p h N) := by
  obtain ⟨hS0, hb, hc, -⟩ := id H
  refine run_lv [some (.ref b), some (.int p), none] (go := ?_)
  refine go_iconst (v := 0) dX6_putOffAll_0 rfl ?_
  refine go_ist2 dX6_putOffAll_1 rfl ?_
  refine go_loop (lvf := fun k => [some (.ref b), some (.int p), some (.int (nI k))]) (hf := fun k => offF b p h k) N (fun _ => True) (fun k hk _ ih => ?_) (fun _ => ?_) 0 (Nat.zero_le _) trivial
  · obtain ⟨hS, -, -, hbc, hth, hN, -⟩ := id (TC_offF H p k)
    refine go_iloadn dX6_putOffAll_2 rfl ?_
    refine go_aloadn dX6_putOffAll_3 rfl ?_
    refine sg_getR dX6_putOffAll_4 fX6_47 rfl (tw_L hb) hS hbc ?_
    refine sg_getI dX6_putOffAll_7 fX6_91 rfl (ct_L hc) hS ?_
    refine go_icmp_ge (tgt := 35) dX6_putOffAll_10 (by decide) (fun c10 => ?_) (fun c10 => ?_)
    · exact absurd (hth ▸ c10) (nI_ge hk (by omega))
    · refine go_aloadn dX6_putOffAll_13 rfl ?_
      refine sg_getR dX6_putOffAll_14 fX6_27 rfl (tw_L hb) hS (tw_r8 hS hb) ?_
      refine go_iloadn dX6_putOffAll_17 rfl ?_
      refine sg_iald dX6_putOffAll_18 (tw_8 hb) hS (vp_in_nI (by omega) (by decide)) ?_
      rw [cl_nI (by omega)]
      refine go_iloadn dX6_putOffAll_19 rfl ?_
      refine go_icmp_ne (tgt := 29) dX6_putOffAll_20 (by decide) (fun c20 => ?_) (fun c20 => ?_)
      · refine go_iinc2 (c1 := 1) dX6_putOffAll_29 rfl rfl ?_
        refine go_goto (tgt := 2) dX6_putOffAll_32 (by decide) ?_
        exact go_cong (ih trivial) (by simp [nI_1]) (by simp [offF, foF] at c20 ⊢; simp [c20, cl_nI (show k < 2 ^ 31 by omega)])
      · refine go_aloadn dX6_putOffAll_23 rfl ?_
        refine go_iconst (v := -1) dX6_putOffAll_24 rfl ?_
        refine go_iloadn dX6_putOffAll_25 rfl ?_
        refine sg_cV0 (M' := mX6_putOn) ([.int (-1), .int (nI k)]) dX6_putOffAll_26 lX6_123 vX6_putOn (tw_L hb) (by decide) rfl hS (r_putOn hS hb (vp_in_nI (by omega) (by decide))) rfl (Nat.le_of_ble_eq_true rfl) (Nat.zero_le _) (Nat.zero_le _) ?_
        refine go_iinc2 (c1 := 1) dX6_putOffAll_29 rfl rfl ?_
        refine go_goto (tgt := 2) dX6_putOffAll_32 (by decide) ?_
        exact go_cong (ih trivial) (by simp [nI_1]) (by simp [offF, foF] at c20 ⊢; simp [c20, cl_nI (show k < 2 ^ 31 by omega)])
  · obtain ⟨hS, -, -, hbc, hth, hN, -⟩ := id (TC_offF H p N)
    refine go_iloadn dX6_putOffAll_2 rfl ?_
    refine go_aloadn dX6_putOffAll_3 rfl ?_
    refine sg_getR dX6_putOffAll_4 fX6_47 rfl (tw_L hb) hS hbc ?_
    refine sg_getI dX6_putOffAll_7 fX6_91 rfl (ct_L hc) hS ?_
    refine go_icmp_ge (tgt := 35) dX6_putOffAll_10 (by decide) (fun c10 => ?_) (fun c10 => ?_)
    · refine go_return dX6_putOffAll_35 rfl (Nat.zero_le _) (Nat.zero_le _) ?_
      exact ⟨rfl, rfl⟩
    · exact absurd (by rw [hth]; exact nI_le (Nat.le_refl _) (by omega)) c10
