/-! Town.passDay -/
theorem r_passDay {l : Launch} {d b c N P fs ns fr nr D : Nat} {h : Hp} {fog : Int32} (H0 : TI h b c N P fs ns fr nr D) : Ex l (d + 5) mX6_passDay [.ref b, .int fog] h none (pdH h b c N P fs ns fr nr D fog) := by
  obtain ⟨H, K, U, Wr, hD, hDl⟩ := id H0
  obtain ⟨hS, hb, hc, hbc, -⟩ := id H
  refine run_lv [some (.ref b), some (.int fog), none] (go := ?_)
  refine go_aloadn dX6_passDay_0 rfl ?_
  refine go_aloadn dX6_passDay_1 rfl ?_
  refine sg_getI dX6_passDay_2 fX6_51 rfl (tw_L hb) hS ?_
  rw [hD]
  refine sg_cV0 (M' := mX6_lookAround) ([.int (nI D)]) dX6_passDay_5 lX6_87 vX6_lookAround (tw_L hb) (by decide) rfl hS (r_lookAround H K (by omega)) rfl (Nat.le_of_ble_eq_true rfl) (Nat.zero_le _) (Nat.zero_le _) ?_
  refine go_iconst (v := 0) dX6_passDay_8 rfl ?_
  refine go_ist2 dX6_passDay_9 rfl ?_
  skip
  refine go_loop (lvf := fun k => [some (.ref b), some (.int fog), some (.int (nI k))]) (hf := fun k => d1H h b c P fs ns D fog k) N (fun _ => True) (fun k hk _ ih => ?_) (fun _ => ?_) 0 (Nat.zero_le _) trivial
  · have HI := H0.dy (dy_d1H (c := c) (P := P) (fs := fs) (ns := ns) (D := D) (fog := fog) k)
    have es : d1H h b c P fs ns D fog (k + 1) = d1F b c fs ns D fog k (d1H h b c P fs ns D fog k) := rfl
    rw [es] at ih
    generalize d1H h b c P fs ns D fog k = g at ih HI ⊢
    obtain ⟨H2, K2, U2, W2, hD2, -⟩ := id HI
    obtain ⟨hS, -, -, hbc, hth, hN, -, hP⟩ := id H2
    have e0 : (nI k).toNatClampNeg = k := cl_nI (by omega)
    refine go_iloadn dX6_passDay_10 rfl ?_
    refine go_aloadn dX6_passDay_11 rfl ?_
    refine sg_getR dX6_passDay_12 fX6_47 rfl (tw_L hb) hS hbc ?_
    refine sg_getI dX6_passDay_15 fX6_91 rfl (ct_L hc) hS ?_
    refine go_icmp_ge (tgt := 64) dX6_passDay_18 (by decide) (fun c18 => ?_) (fun c18 => ?_)
    · exact absurd (hth ▸ c18) (nI_ge hk (by omega))
    · refine go_aloadn dX6_passDay_21 rfl ?_
      refine sg_getR dX6_passDay_22 fX6_27 rfl (tw_L hb) hS (tw_r8 hS hb) ?_
      refine go_iloadn dX6_passDay_25 rfl ?_
      refine sg_iald dX6_passDay_26 (tw_8 hb) hS (vp_in_nI (by omega) (by decide)) ?_
      rw [e0]
      refine go_iconst (v := -1) dX6_passDay_27 rfl ?_
      refine go_icmp_eq (tgt := 58) dX6_passDay_28 (by decide) (fun c28 => ?_) (fun c28 => ?_)
      · refine go_iinc2 (c1 := 1) dX6_passDay_58 rfl rfl ?_
        refine go_goto (tgt := 10) dX6_passDay_61 (by decide) ?_
        exact go_cong (ih trivial) (by simp [nI_1]) (by first | (rw [d1F, if_pos c28]; done) | (rw [d1F, if_neg c28, e1, if_pos c34] <;> rfl) | (rw [d1F, if_neg c28, e1, if_neg c34] <;> rfl))
      · obtain ⟨w, hw, hwt⟩ : ∃ w, w < P ∧ hI g (b + 6) k = nI w := (W2 k hk).resolve_left c28
        have e1 : (hI g (b + 6) k).toNatClampNeg = w := by rw [hwt]; exact cl_nI (by omega)
        refine go_aloadn dX6_passDay_31 rfl ?_
        refine go_iloadn dX6_passDay_32 rfl ?_
        refine go_iloadn dX6_passDay_33 rfl ?_
        refine go_if_eq (tgt := 41) dX6_passDay_34 (by decide) (fun c34 => ?_) (fun c34 => ?_)
        · refine go_aloadn dX6_passDay_41 rfl ?_
          refine go_aloadn dX6_passDay_42 rfl ?_
          refine sg_getR dX6_passDay_43 fX6_27 rfl (tw_L hb) hS (tw_r8 hS hb) ?_
          refine go_iloadn dX6_passDay_46 rfl ?_
          refine sg_iald dX6_passDay_47 (tw_8 hb) hS (vp_in_nI (by omega) (by decide)) ?_
          rw [e0, hwt]
          refine go_aloadn dX6_passDay_48 rfl ?_
          refine sg_getI dX6_passDay_49 fX6_51 rfl (tw_L hb) hS ?_
          rw [hD2]
          refine sg_cVi (M' := mX6_lookersAt) ([.int (nI w), .int (nI D)]) dX6_passDay_52 lX6_94 vX6_lookersAt (tw_L hb) (by decide) rfl hS (r_lookersAt H2 K2 hw (by omega)) rfl (Nat.le_of_ble_eq_true rfl) (Nat.zero_le _) (Nat.zero_le _) ?_
          refine sg_cV0 (M' := mX6_wearForADay) ([.int (nI k), .int _]) dX6_passDay_55 lX6_97 vX6_wearForADay (tw_L hb) (by decide) rfl hS (r_wearForADay H2 U2 (by omega) (by omega) hwt) rfl (Nat.le_of_ble_eq_true rfl) (Nat.zero_le _) (Nat.zero_le _) ?_
          refine go_iinc2 (c1 := 1) dX6_passDay_58 rfl rfl ?_
          refine go_goto (tgt := 10) dX6_passDay_61 (by decide) ?_
          exact go_cong (ih trivial) (by simp [nI_1]) (by first | (rw [d1F, if_pos c28]; done) | (rw [d1F, if_neg c28, e1, if_pos c34] <;> rfl) | (rw [d1F, if_neg c28, e1, if_neg c34] <;> rfl))
        · refine go_iconst (v := 0) dX6_passDay_37 rfl ?_
          refine go_goto (tgt := 55) dX6_passDay_38 (by decide) ?_
          refine sg_cV0 (M' := mX6_wearForADay) ([.int (nI k), .int _]) dX6_passDay_55 lX6_97 vX6_wearForADay (tw_L hb) (by decide) rfl hS (r_wearForADay H2 U2 (by omega) (by omega) hwt) rfl (Nat.le_of_ble_eq_true rfl) (Nat.zero_le _) (Nat.zero_le _) ?_
          refine go_iinc2 (c1 := 1) dX6_passDay_58 rfl rfl ?_
          refine go_goto (tgt := 10) dX6_passDay_61 (by decide) ?_
          exact go_cong (ih trivial) (by simp [nI_1]) (by first | (rw [d1F, if_pos c28]; done) | (rw [d1F, if_neg c28, e1, if_pos c34] <;> rfl) | (rw [d1F, if_neg c28, e1, if_neg c34] <;> rfl))
  · have HI := H0.dy (dy_d1H (c := c) (P := P) (fs := fs) (ns := ns) (D := D) (fog := fog) N)
    show Go l _ mX6_passDay _ _ _ _ _ (d1H h b c P fs ns D fog N) _ _
    unfold pdH
    generalize d1H h b c P fs ns D fog N = h1 at HI ⊢
    obtain ⟨H2, K2, U2, W2, hD2, -⟩ := id HI
    obtain ⟨hS, -, -, hbc, hth, hN, -, hP⟩ := id H2
    refine go_iloadn dX6_passDay_10 rfl ?_
    refine go_aloadn dX6_passDay_11 rfl ?_
    refine sg_getR dX6_passDay_12 fX6_47 rfl (tw_L hb) hS hbc ?_
    refine sg_getI dX6_passDay_15 fX6_91 rfl (ct_L hc) hS ?_
    refine go_icmp_ge (tgt := 64) dX6_passDay_18 (by decide) (fun c18 => ?_) (fun c18 => absurd (by rw [hth]; exact nI_le (Nat.le_refl _) (by omega)) c18)
    refine go_aloadn dX6_passDay_64 rfl ?_
    refine sg_cV0 (M' := mX6_countWorn) ([]) dX6_passDay_65 lX6_101 vX6_countWorn (tw_L hb) (by decide) rfl hS (r_countWorn H2 W2) rfl (Nat.le_of_ble_eq_true rfl) (Nat.zero_le _) (Nat.zero_le _) ?_
    refine go_iconst (v := 0) dX6_passDay_68 rfl ?_
    refine go_ist2 dX6_passDay_69 rfl ?_
    skip
    refine go_loop (lvf := fun k => [some (.ref b), some (.int fog), some (.int (nI k))]) (hf := fun k => d2H h1 b c N fr nr k) P (fun _ => True) (fun k hk _ ih => ?_) (fun _ => ?_) 0 (Nat.zero_le _) trivial
    · have HJ := HI.dy (dy_d2H (c := c) (N := N) (fr := fr) (nr := nr) k)
      have es : d2H h1 b c N fr nr (k + 1) = d2F b c N fr nr k (d2H h1 b c N fr nr k) := rfl
      rw [es] at ih
      generalize d2H h1 b c N fr nr k = g at ih HJ ⊢
      obtain ⟨H3, K3, U3, W3, hD3, -⟩ := id HJ
      obtain ⟨hS, -, -, hbc, -, -, hpe, -⟩ := id H3
      have e0 : (nI k).toNatClampNeg = k := cl_nI (by omega)
      have hV : vp_in (nI k) 8 := vp_in_nI (by omega) (by decide)
      have HA := H3.fr (dy_d2A (c := c) (N := N) (fr := fr) (nr := nr) (p := k) (g := g)).1
      have HG := H3.fr (dy_gbH (h := g) (b := b) (c := c) (fr := fr) (nr := nr) (p := k)).1
      have HO := H3.fr (dy_gbH.tr (dy_offF (h := gbH g b c fr nr k) (b := b) (p := nI k) (k := N))).1
      refine go_iloadn dX6_passDay_70 rfl ?_
      refine go_aloadn dX6_passDay_71 rfl ?_
      refine sg_getR dX6_passDay_72 fX6_47 rfl (tw_L hb) hS hbc ?_
      refine sg_getI dX6_passDay_75 fX6_104 rfl (ct_L hc) hS ?_
      refine go_icmp_ge (tgt := 150) dX6_passDay_78 (by decide) (fun c78 => ?_) (fun c78 => ?_)
      · exact absurd (hpe ▸ c78) (nI_ge hk (by omega))
      · refine go_aloadn dX6_passDay_81 rfl ?_
        refine sg_getR dX6_passDay_82 fX6_36 rfl (tw_L hb) hS (tw_r11 hS hb) ?_
        refine go_iloadn dX6_passDay_85 rfl ?_
        refine sg_iald dX6_passDay_86 (tw_11 hb) hS (hV) ?_
        rw [e0]
        refine go_if_le (tgt := 117) dX6_passDay_87 (by decide) (fun c87 => ?_) (fun c87 => ?_)
        · refine go_cong (h' := d2A b c N fr nr k g) ?_ rfl (by first | (rw [d2A, if_pos c87]; done) | (rw [d2A, if_neg c87, if_pos c95]; done) | (rw [d2A, if_neg c87, if_neg c95, e0]))
          have hS := HA.1
          refine go_aloadn dX6_passDay_117 rfl ?_
          refine sg_getR dX6_passDay_118 fX6_36 rfl (tw_L hb) hS (tw_r11 hS hb) ?_
          refine go_iloadn dX6_passDay_121 rfl ?_
          refine sg_iald dX6_passDay_122 (tw_11 hb) hS (hV) ?_
          rw [e0]
          refine go_if_ne (tgt := 144) dX6_passDay_123 (by decide) (fun c123 => ?_) (fun c123 => ?_)
          · refine go_iinc2 (c1 := 1) dX6_passDay_144 rfl rfl ?_
            refine go_goto (tgt := 70) dX6_passDay_147 (by decide) ?_
            exact go_cong (ih trivial) (by simp [nI_1]) (by first | (rw [d2F, if_pos c123, e0] <;> rfl) | (rw [d2F, if_neg c123]))
          · refine go_aloadn dX6_passDay_126 rfl ?_
            refine sg_getR dX6_passDay_127 fX6_15 rfl (tw_L hb) hS (tw_r4 hS hb) ?_
            refine go_iloadn dX6_passDay_130 rfl ?_
            refine go_iconst (v := 0) dX6_passDay_131 rfl ?_
            refine go_aloadn dX6_passDay_132 rfl ?_
            refine sg_getR dX6_passDay_133 fX6_15 rfl (tw_L hb) hS (tw_r4 hS hb) ?_
            refine go_iloadn dX6_passDay_136 rfl ?_
            refine sg_iald dX6_passDay_137 (tw_4 hb) hS (hV) ?_
            rw [e0]
            refine go_iconst (v := 2) dX6_passDay_138 rfl ?_
            refine go_isub dX6_passDay_139 ?_
            refine go_max dX6_passDay_140 lX6_114 (Nat.le_of_ble_eq_true rfl) (by simp only [rmOf]; omega) (by simp only [rmOf]; omega) (Nat.zero_le _) (Nat.zero_le _) ?_
            refine sg_iast dX6_passDay_143 (tw_4 hb) hS (hV) ?_
            refine go_iinc2 (c1 := 1) dX6_passDay_144 rfl rfl ?_
            refine go_goto (tgt := 70) dX6_passDay_147 (by decide) ?_
            exact go_cong (ih trivial) (by simp [nI_1]) (by first | (rw [d2F, if_pos c123, e0] <;> rfl) | (rw [d2F, if_neg c123]))
        · refine go_aloadn dX6_passDay_90 rfl ?_
          refine go_iloadn dX6_passDay_91 rfl ?_
          refine sg_cVi (M' := mX6_givesBack) ([.int (nI k)]) dX6_passDay_92 lX6_107 vX6_givesBack (tw_L hb) (by decide) rfl hS (r_givesBack H3 U3 (by omega)) rfl (Nat.le_of_ble_eq_true rfl) (Nat.zero_le _) (Nat.zero_le _) ?_
          refine go_if_eq (tgt := 117) dX6_passDay_95 (by decide) (fun c95 => ?_) (fun c95 => ?_)
          · refine go_cong (h' := d2A b c N fr nr k g) ?_ rfl (by first | (rw [d2A, if_pos c87]; done) | (rw [d2A, if_neg c87, if_pos c95]; done) | (rw [d2A, if_neg c87, if_neg c95, e0]))
            have hS := HA.1
            refine go_aloadn dX6_passDay_117 rfl ?_
            refine sg_getR dX6_passDay_118 fX6_36 rfl (tw_L hb) hS (tw_r11 hS hb) ?_
            refine go_iloadn dX6_passDay_121 rfl ?_
            refine sg_iald dX6_passDay_122 (tw_11 hb) hS (hV) ?_
            rw [e0]
            refine go_if_ne (tgt := 144) dX6_passDay_123 (by decide) (fun c123 => ?_) (fun c123 => ?_)
            · refine go_iinc2 (c1 := 1) dX6_passDay_144 rfl rfl ?_
              refine go_goto (tgt := 70) dX6_passDay_147 (by decide) ?_
              exact go_cong (ih trivial) (by simp [nI_1]) (by first | (rw [d2F, if_pos c123, e0] <;> rfl) | (rw [d2F, if_neg c123]))
            · refine go_aloadn dX6_passDay_126 rfl ?_
              refine sg_getR dX6_passDay_127 fX6_15 rfl (tw_L hb) hS (tw_r4 hS hb) ?_
              refine go_iloadn dX6_passDay_130 rfl ?_
              refine go_iconst (v := 0) dX6_passDay_131 rfl ?_
              refine go_aloadn dX6_passDay_132 rfl ?_
              refine sg_getR dX6_passDay_133 fX6_15 rfl (tw_L hb) hS (tw_r4 hS hb) ?_
              refine go_iloadn dX6_passDay_136 rfl ?_
              refine sg_iald dX6_passDay_137 (tw_4 hb) hS (hV) ?_
              rw [e0]
              refine go_iconst (v := 2) dX6_passDay_138 rfl ?_
              refine go_isub dX6_passDay_139 ?_
              refine go_max dX6_passDay_140 lX6_114 (Nat.le_of_ble_eq_true rfl) (by simp only [rmOf]; omega) (by simp only [rmOf]; omega) (Nat.zero_le _) (Nat.zero_le _) ?_
              refine sg_iast dX6_passDay_143 (tw_4 hb) hS (hV) ?_
              refine go_iinc2 (c1 := 1) dX6_passDay_144 rfl rfl ?_
              refine go_goto (tgt := 70) dX6_passDay_147 (by decide) ?_
              exact go_cong (ih trivial) (by simp [nI_1]) (by first | (rw [d2F, if_pos c123, e0] <;> rfl) | (rw [d2F, if_neg c123]))
          · refine go_aloadn dX6_passDay_98 rfl ?_
            refine go_iloadn dX6_passDay_99 rfl ?_
            refine sg_cV0 (M' := mX6_putOffAll) ([.int (nI k)]) dX6_passDay_100 lX6_111 vX6_putOffAll (tw_L hb) (by decide) rfl HG.1 (r_putOffAll HG) rfl (Nat.le_of_ble_eq_true rfl) (Nat.zero_le _) (Nat.zero_le _) ?_
            have hS := HO.1
            refine go_aloadn dX6_passDay_103 rfl ?_
            refine sg_getR dX6_passDay_104 fX6_15 rfl (tw_L hb) hS (tw_r4 hS hb) ?_
            refine go_iloadn dX6_passDay_107 rfl ?_
            refine go_iconst (v := 0) dX6_passDay_108 rfl ?_
            refine sg_iast dX6_passDay_109 (tw_4 hb) hS (hV) ?_
            refine go_aloadn dX6_passDay_110 rfl ?_
            refine sg_getR dX6_passDay_111 fX6_36 rfl (tw_L hb) hS (tw_r11 hS hb) ?_
            refine go_iloadn dX6_passDay_114 rfl ?_
            refine go_iconst (v := 0) dX6_passDay_115 rfl ?_
            refine sg_iast dX6_passDay_116 (tw_11 hb) hS (hV) ?_
            refine go_cong (h' := d2A b c N fr nr k g) ?_ rfl (by first | (rw [d2A, if_pos c87]; done) | (rw [d2A, if_neg c87, if_pos c95]; done) | (rw [d2A, if_neg c87, if_neg c95, e0]))
            have hS := HA.1
            refine go_aloadn dX6_passDay_117 rfl ?_
            refine sg_getR dX6_passDay_118 fX6_36 rfl (tw_L hb) hS (tw_r11 hS hb) ?_
            refine go_iloadn dX6_passDay_121 rfl ?_
            refine sg_iald dX6_passDay_122 (tw_11 hb) hS (hV) ?_
            rw [e0]
            refine go_if_ne (tgt := 144) dX6_passDay_123 (by decide) (fun c123 => ?_) (fun c123 => ?_)
            · refine go_iinc2 (c1 := 1) dX6_passDay_144 rfl rfl ?_
              refine go_goto (tgt := 70) dX6_passDay_147 (by decide) ?_
              exact go_cong (ih trivial) (by simp [nI_1]) (by first | (rw [d2F, if_pos c123, e0] <;> rfl) | (rw [d2F, if_neg c123]))
            · refine go_aloadn dX6_passDay_126 rfl ?_
              refine sg_getR dX6_passDay_127 fX6_15 rfl (tw_L hb) hS (tw_r4 hS hb) ?_
              refine go_iloadn dX6_passDay_130 rfl ?_
              refine go_iconst (v := 0) dX6_passDay_131 rfl ?_
              refine go_aloadn dX6_passDay_132 rfl ?_
              refine sg_getR dX6_passDay_133 fX6_15 rfl (tw_L hb) hS (tw_r4 hS hb) ?_
              refine go_iloadn dX6_passDay_136 rfl ?_
              refine sg_iald dX6_passDay_137 (tw_4 hb) hS (hV) ?_
              rw [e0]
              refine go_iconst (v := 2) dX6_passDay_138 rfl ?_
              refine go_isub dX6_passDay_139 ?_
              refine go_max dX6_passDay_140 lX6_114 (Nat.le_of_ble_eq_true rfl) (by simp only [rmOf]; omega) (by simp only [rmOf]; omega) (Nat.zero_le _) (Nat.zero_le _) ?_
              refine sg_iast dX6_passDay_143 (tw_4 hb) hS (hV) ?_
              refine go_iinc2 (c1 := 1) dX6_passDay_144 rfl rfl ?_
              refine go_goto (tgt := 70) dX6_passDay_147 (by decide) ?_
              exact go_cong (ih trivial) (by simp [nI_1]) (by first | (rw [d2F, if_pos c123, e0] <;> rfl) | (rw [d2F, if_neg c123]))
    · have HJ := HI.dy (dy_d2H (c := c) (N := N) (fr := fr) (nr := nr) P)
      show Go l _ mX6_passDay _ _ _ _ _ (d2H h1 b c N fr nr P) _ _
      generalize d2H h1 b c N fr nr P = g at HJ ⊢
      obtain ⟨H3, -⟩ := id HJ
      obtain ⟨hS, -, -, hbc, -, -, hpe, -⟩ := id H3
      refine go_iloadn dX6_passDay_70 rfl ?_
      refine go_aloadn dX6_passDay_71 rfl ?_
      refine sg_getR dX6_passDay_72 fX6_47 rfl (tw_L hb) hS hbc ?_
      refine sg_getI dX6_passDay_75 fX6_104 rfl (ct_L hc) hS ?_
      refine go_icmp_ge (tgt := 150) dX6_passDay_78 (by decide) (fun c78 => ?_) (fun c78 => ?_)
      · refine go_aloadn dX6_passDay_150 rfl ?_
        refine go_dup dX6_passDay_151 rfl ?_
        refine sg_getI dX6_passDay_152 fX6_51 rfl (tw_L hb) hS ?_
        refine go_iconst (v := 1) dX6_passDay_155 rfl ?_
        refine go_iadd dX6_passDay_156 ?_
        refine sg_putI dX6_passDay_157 fX6_51 rfl rfl (tw_L hb) hS ?_
        refine go_return dX6_passDay_160 rfl (Nat.zero_le _) (Nat.zero_le _) ?_
        exact ⟨rfl, rfl⟩
      · exact absurd (by rw [hpe]; exact nI_le (Nat.le_refl _) (by omega)) c78
