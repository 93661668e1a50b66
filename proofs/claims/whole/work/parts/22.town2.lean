/-! Town: who looks at one; sums and bests; first days -/
abbrev notB (p : Nat) : Int32 := (1 <<< (nI p &&& 31)) ^^^ (-1)
theorem r_lookersAt {l : Launch} {d b c N P p dd : Nat} {h : Hp} (H : TC h b c N P) (K : WK h b c P) (hp : p < P) (hd : dd < 2 ^ 31) :
    Ex l (d + 2) mX6_lookersAt [.ref b, .int (nI p), .int (nI dd)] h (some (.int (hI h (b + 8) (plN h b c p dd).toNatClampNeg &&& notB p))) h := by
  obtain ⟨hS, hb, hc, hbc, -, -, -, hP⟩ := id H
  have hpl := (K.pl (dd := dd) hP hp hd).2.2
  refine run_lv [some (.ref b), some (.int (nI p)), some (.int (nI dd))] (go := ?_)
  refine go_aloadn dX6_lookersAt_0 rfl ?_
  refine sg_getR dX6_lookersAt_1 fX6_33 rfl (tw_L hb) hS (tw_r10 hS hb) ?_
  refine go_aloadn dX6_lookersAt_4 rfl ?_
  refine go_iloadn dX6_lookersAt_5 rfl ?_
  refine go_iloadn dX6_lookersAt_6 rfl ?_
  refine sg_cVi (M' := mX6_placeOn) ([.int (nI p), .int (nI dd)]) dX6_lookersAt_7 lX6_162 vX6_placeOn (tw_L hb) (by decide) rfl hS (r_place H K hp hd) rfl (Nat.le_of_ble_eq_true rfl) (Nat.zero_le _) (Nat.zero_le _) ?_
  refine sg_iald dX6_lookersAt_10 (tw_10 hb) hS (hpl) ?_
  refine go_iconst (v := 1) dX6_lookersAt_11 rfl ?_
  refine go_iloadn dX6_lookersAt_12 rfl ?_
  refine go_ishl dX6_lookersAt_13 ?_
  refine go_iconst (v := -1) dX6_lookersAt_14 rfl ?_
  refine go_ixor dX6_lookersAt_15 ?_
  refine go_iand dX6_lookersAt_16 ?_
  refine go_ireturn dX6_lookersAt_17 rfl rfl (Nat.zero_le _) (Nat.zero_le _) ?_
  exact ⟨rfl, rfl⟩
/-- the heap behind a look round; who looks at p then -/
def laF (h : Hp) (b c P dd : Nat) : Hp := uF h (b + 8) (sgF h b c dd (flF (hI h (b + 8)) 0 6) P)
def lkF (h : Hp) (b c P p dd : Nat) : Int32 := sgF h b c dd (flF (hI h (b + 8)) 0 6) P (plN h b c p dd).toNatClampNeg &&& notB p
theorem r_lookersOn {l : Launch} {d b c N P p dd : Nat} {h : Hp} (H : TC h b c N P) (K : WK h b c P) (hp : p < P) (hd : dd < 2 ^ 31) :
    Ex l (d + 3) mX6_lookersOn [.ref b, .int (nI p), .int (nI dd)] h (some (.int (lkF h b c P p dd))) (laF h b c P dd) := by
  obtain ⟨hS, hb, hc, hbc, -, -, -, hP⟩ := id H
  refine run_lv [some (.ref b), some (.int (nI p)), some (.int (nI dd))] (go := ?_)
  have H2 : TC (laF h b c P dd) b c N P := H.uF (ct_ne hb hc (by omega))
  have K2 : WK (laF h b c P dd) b c P := K.uF hb hc (by omega) (by omega)
  refine go_aloadn dX6_lookersOn_0 rfl ?_
  refine go_iloadn dX6_lookersOn_1 rfl ?_
  refine sg_cV0 (M' := mX6_lookAround) ([.int (nI dd)]) dX6_lookersOn_2 lX6_87 vX6_lookAround (tw_L hb) (by decide) rfl hS (r_lookAround H K hd) rfl (Nat.le_of_ble_eq_true rfl) (Nat.zero_le _) (Nat.zero_le _) ?_
  refine go_aloadn dX6_lookersOn_5 rfl ?_
  refine go_iloadn dX6_lookersOn_6 rfl ?_
  refine go_iloadn dX6_lookersOn_7 rfl ?_
  skip
  refine sg_cVi (M' := mX6_lookersAt) ([.int (nI p), .int (nI dd)]) dX6_lookersOn_8 lX6_94 vX6_lookersAt (tw_L hb) (by decide) rfl H2.1 (r_lookersAt H2 K2 hp hd) rfl (Nat.le_of_ble_eq_true rfl) (Nat.zero_le _) (Nat.zero_le _) ?_
  refine go_ireturn dX6_lookersOn_11 rfl rfl (Nat.zero_le _) (Nat.zero_le _) ⟨?_, rfl⟩
  simp only [hI_uF_eq, plN_uF hb hc (show 8 ≤ 11 by omega) (show 8 ≠ 3 by omega), lkF]
def smF (f : Nat → Int32) : Nat → Int32 := foF (fun t a => a + f t) 0
theorem r_shameOfAll {l : Launch} {d b c N P : Nat} {h : Hp} (H : TC h b c N P) : Ex l (d + 1) mX6_shameOfAll [.ref b] h (some (.int (smF (hI h (b + 2)) P))) h := by
  obtain ⟨hS, hb, hc, hbc, -, -, hpe, hP⟩ := id H
  refine run_lv [some (.ref b), none, none] (go := ?_)
  refine go_iconst (v := 0) dX6_shameOfAll_0 rfl ?_
  refine go_ist1 dX6_shameOfAll_1 rfl ?_
  refine go_iconst (v := 0) dX6_shameOfAll_2 rfl ?_
  refine go_ist2 dX6_shameOfAll_3 rfl ?_
  refine go_loop (lvf := fun k => [some (.ref b), some (.int (smF (hI h (b + 2)) k)), some (.int (nI k))]) (hf := fun _ => h) P (fun _ => True) (fun k hk _ ih => ?_) (fun _ => ?_) 0 (Nat.zero_le _) trivial
  · refine go_iloadn dX6_shameOfAll_4 rfl ?_
    refine go_aloadn dX6_shameOfAll_5 rfl ?_
    refine sg_getR dX6_shameOfAll_6 fX6_47 rfl (tw_L hb) hS hbc ?_
    refine sg_getI dX6_shameOfAll_9 fX6_104 rfl (ct_L hc) hS ?_
    refine go_icmp_ge (tgt := 30) dX6_shameOfAll_12 (by decide) (fun c12 => ?_) (fun c12 => ?_)
    · exact absurd (hpe ▸ c12) (nI_ge hk (by omega))
    · refine go_iloadn dX6_shameOfAll_15 rfl ?_
      refine go_aloadn dX6_shameOfAll_16 rfl ?_
      refine sg_getR dX6_shameOfAll_17 fX6_15 rfl (tw_L hb) hS (tw_r4 hS hb) ?_
      refine go_iloadn dX6_shameOfAll_20 rfl ?_
      refine sg_iald dX6_shameOfAll_21 (tw_4 hb) hS (vp_in_nI (by omega) (by decide)) ?_
      refine go_iadd dX6_shameOfAll_22 ?_
      refine go_ist1 dX6_shameOfAll_23 rfl ?_
      refine go_iinc2 (c1 := 1) dX6_shameOfAll_24 rfl rfl ?_
      refine go_goto (tgt := 4) dX6_shameOfAll_27 (by decide) ?_
      exact go_cong (ih trivial) (by simp [smF, foF, nI_1, cl_nI (show k < 2 ^ 31 by omega)]) rfl
  · refine go_iloadn dX6_shameOfAll_4 rfl ?_
    refine go_aloadn dX6_shameOfAll_5 rfl ?_
    refine sg_getR dX6_shameOfAll_6 fX6_47 rfl (tw_L hb) hS hbc ?_
    refine sg_getI dX6_shameOfAll_9 fX6_104 rfl (ct_L hc) hS ?_
    refine go_icmp_ge (tgt := 30) dX6_shameOfAll_12 (by decide) (fun c12 => ?_) (fun c12 => ?_)
    · refine go_iloadn dX6_shameOfAll_30 rfl ?_
      refine go_ireturn dX6_shameOfAll_31 rfl rfl (Nat.zero_le _) (Nat.zero_le _) ?_
      exact ⟨rfl, rfl⟩
    · exact absurd (by rw [hpe]; exact nI_le (Nat.le_refl _) (by omega)) c12
/-- the first of those with Q that is greater than all ahead of it; -1 without any -/
def beF (Q : Nat → Prop) [DecidablePred Q] (f : Nat → Int32) : Nat → Int32 := foF (fun t a => if Q t ∧ (a = -1 ∨ f a.toNatClampNeg < f t) then nI t else a) (-1)
theorem beF_in (Q : Nat → Prop) [DecidablePred Q] (f : Nat → Int32) {n : Nat} (hn : n < 2 ^ 31) : beF Q f n = -1 ∨ ∃ j, j < n ∧ beF Q f n = nI j := by
  induction n with
  | zero => exact Or.inl rfl
  | succ n ih =>
    simp only [beF, foF]
    split
    · exact Or.inr ⟨n, by omega, rfl⟩
    · rcases ih (by omega) with h | ⟨j, h1, h2⟩
      · exact Or.inl h
      · exact Or.inr ⟨j, by omega, h2⟩
theorem beF_ok {Q : Nat → Prop} [DecidablePred Q] {f : Nat → Int32} {n m : Nat} (hn : n ≤ m) (hm : m < 2 ^ 31) (h : ¬ beF Q f n = -1) : vp_in (beF Q f n) m := by
  rcases beF_in Q f (n := n) (by omega) with h1 | ⟨j, h1, h2⟩
  · exact absurd h1 h
  · rw [h2]; exact vp_in_nI (by omega) hm
theorem beF_nI {Q : Nat → Prop} [DecidablePred Q] {f : Nat → Int32} {n : Nat} (hm : n < 2 ^ 31) (h : ¬ beF Q f n = -1) : nI (beF Q f n).toNatClampNeg = beF Q f n := by
  rcases beF_in Q f hm with h1 | ⟨j, h1, h2⟩
  · exact absurd h1 h
  · rw [h2, cl_nI (by omega)]
theorem beF_s {Q : Nat → Prop} [DecidablePred Q] {f : Nat → Int32} {k : Nat} : beF Q f (k + 1) = if Q k ∧ (beF Q f k = -1 ∨ f (beF Q f k).toNatClampNeg < f k) then nI k else beF Q f k := rfl
theorem r_oddest {l : Launch} {d b c N P : Nat} {h : Hp} {p : Int32} (H : TC h b c N P) : Ex l (d + 1) mX6_oddest [.ref b, .int p] h (some (.int (beF (fun t => hI h (b + 6) t = p) (hI h (b + 4)) N))) h := by
  obtain ⟨hS, hb, hc, hbc, hth, hN, -⟩ := id H
  refine run_lv [some (.ref b), some (.int p), none, none] (go := ?_)
  refine go_iconst (v := -1) dX6_oddest_0 rfl ?_
  refine go_ist2 dX6_oddest_1 rfl ?_
  refine go_iconst (v := 0) dX6_oddest_2 rfl ?_
  refine go_ist3 dX6_oddest_3 rfl ?_
  refine go_loop (lvf := fun k => [some (.ref b), some (.int p), some (.int (beF (fun t => hI h (b + 6) t = p) (hI h (b + 4)) k)), some (.int (nI k))]) (hf := fun _ => h) N (fun _ => True) (fun k hk _ ih => ?_) (fun _ => ?_) 0 (Nat.zero_le _) trivial
  · have e0 : (nI k).toNatClampNeg = k := cl_nI (by omega)
    refine go_iloadn dX6_oddest_4 rfl ?_
    refine go_aloadn dX6_oddest_5 rfl ?_
    refine sg_getR dX6_oddest_6 fX6_47 rfl (tw_L hb) hS hbc ?_
    refine sg_getI dX6_oddest_9 fX6_91 rfl (ct_L hc) hS ?_
    refine go_icmp_ge (tgt := 53) dX6_oddest_12 (by decide) (fun c12 => ?_) (fun c12 => ?_)
    · exact absurd (hth ▸ c12) (nI_ge hk (by omega))
    · refine go_aloadn dX6_oddest_15 rfl ?_
      refine sg_getR dX6_oddest_16 fX6_27 rfl (tw_L hb) hS (tw_r8 hS hb) ?_
      refine go_iloadn dX6_oddest_19 rfl ?_
      refine sg_iald dX6_oddest_20 (tw_8 hb) hS (vp_in_nI (by omega) (by decide)) ?_
      refine go_iloadn dX6_oddest_21 rfl ?_
      refine go_icmp_ne (tgt := 47) dX6_oddest_22 (by decide) (fun c22 => ?_) (fun c22 => ?_)
      · refine go_iinc3 (c1 := 1) dX6_oddest_47 rfl rfl ?_
        refine go_goto (tgt := 4) dX6_oddest_50 (by decide) ?_
        exact go_cong (ih trivial) (by rw [e0] at *; rw [beF_s]; first | (have q := Int32.not_lt.mpr c42; simp [q, c22, c27, nI_1]; done) | (have q := Int32.not_le.mp c42; simp [q, c22, c27, nI_1]; done) | (simp [c22, c27, nI_1]; done) | simp [c22, nI_1]) rfl
      · refine go_iloadn dX6_oddest_25 rfl ?_
        refine go_iconst (v := -1) dX6_oddest_26 rfl ?_
        refine go_icmp_eq (tgt := 45) dX6_oddest_27 (by decide) (fun c27 => ?_) (fun c27 => ?_)
        · refine go_iloadn dX6_oddest_45 rfl ?_
          refine go_ist2 dX6_oddest_46 rfl ?_
          refine go_iinc3 (c1 := 1) dX6_oddest_47 rfl rfl ?_
          refine go_goto (tgt := 4) dX6_oddest_50 (by decide) ?_
          exact go_cong (ih trivial) (by rw [e0] at *; rw [beF_s]; first | (have q := Int32.not_lt.mpr c42; simp [q, c22, c27, nI_1]; done) | (have q := Int32.not_le.mp c42; simp [q, c22, c27, nI_1]; done) | (simp [c22, c27, nI_1]; done) | simp [c22, nI_1]) rfl
        · refine go_aloadn dX6_oddest_30 rfl ?_
          refine sg_getR dX6_oddest_31 fX6_21 rfl (tw_L hb) hS (tw_r6 hS hb) ?_
          refine go_iloadn dX6_oddest_34 rfl ?_
          refine sg_iald dX6_oddest_35 (tw_6 hb) hS (vp_in_nI (by omega) (by decide)) ?_
          refine go_aloadn dX6_oddest_36 rfl ?_
          refine sg_getR dX6_oddest_37 fX6_21 rfl (tw_L hb) hS (tw_r6 hS hb) ?_
          refine go_iloadn dX6_oddest_40 rfl ?_
          refine sg_iald dX6_oddest_41 (tw_6 hb) hS (beF_ok (by omega) (by decide) c27) ?_
          refine go_icmp_le (tgt := 47) dX6_oddest_42 (by decide) (fun c42 => ?_) (fun c42 => ?_)
          · refine go_iinc3 (c1 := 1) dX6_oddest_47 rfl rfl ?_
            refine go_goto (tgt := 4) dX6_oddest_50 (by decide) ?_
            exact go_cong (ih trivial) (by rw [e0] at *; rw [beF_s]; first | (have q := Int32.not_lt.mpr c42; simp [q, c22, c27, nI_1]; done) | (have q := Int32.not_le.mp c42; simp [q, c22, c27, nI_1]; done) | (simp [c22, c27, nI_1]; done) | simp [c22, nI_1]) rfl
          · refine go_iloadn dX6_oddest_45 rfl ?_
            refine go_ist2 dX6_oddest_46 rfl ?_
            refine go_iinc3 (c1 := 1) dX6_oddest_47 rfl rfl ?_
            refine go_goto (tgt := 4) dX6_oddest_50 (by decide) ?_
            exact go_cong (ih trivial) (by rw [e0] at *; rw [beF_s]; first | (have q := Int32.not_lt.mpr c42; simp [q, c22, c27, nI_1]; done) | (have q := Int32.not_le.mp c42; simp [q, c22, c27, nI_1]; done) | (simp [c22, c27, nI_1]; done) | simp [c22, nI_1]) rfl
  · refine go_iloadn dX6_oddest_4 rfl ?_
    refine go_aloadn dX6_oddest_5 rfl ?_
    refine sg_getR dX6_oddest_6 fX6_47 rfl (tw_L hb) hS hbc ?_
    refine sg_getI dX6_oddest_9 fX6_91 rfl (ct_L hc) hS ?_
    refine go_icmp_ge (tgt := 53) dX6_oddest_12 (by decide) (fun c12 => ?_) (fun c12 => ?_)
    · refine go_iloadn dX6_oddest_53 rfl ?_
      refine go_ireturn dX6_oddest_54 rfl rfl (Nat.zero_le _) (Nat.zero_le _) ?_
      exact ⟨rfl, rfl⟩
    · exact absurd (by rw [hth]; exact nI_le (Nat.le_refl _) (by omega)) c12
theorem r_mostAshamed {l : Launch} {d b c N P : Nat} {h : Hp} (H : TC h b c N P) : Ex l (d + 1) mX6_mostAshamed [.ref b] h (some (.int (beF (fun _ => True) (hI h (b + 2)) P))) h := by
  obtain ⟨hS, hb, hc, hbc, -, -, hpe, hP⟩ := id H
  refine run_lv [some (.ref b), none, none] (go := ?_)
  refine go_iconst (v := -1) dX6_mostAshamed_0 rfl ?_
  refine go_ist1 dX6_mostAshamed_1 rfl ?_
  refine go_iconst (v := 0) dX6_mostAshamed_2 rfl ?_
  refine go_ist2 dX6_mostAshamed_3 rfl ?_
  refine go_loop (lvf := fun k => [some (.ref b), some (.int (beF (fun _ => True) (hI h (b + 2)) k)), some (.int (nI k))]) (hf := fun _ => h) P (fun _ => True) (fun k hk _ ih => ?_) (fun _ => ?_) 0 (Nat.zero_le _) trivial
  · have e0 : (nI k).toNatClampNeg = k := cl_nI (by omega)
    refine go_iloadn dX6_mostAshamed_4 rfl ?_
    refine go_aloadn dX6_mostAshamed_5 rfl ?_
    refine sg_getR dX6_mostAshamed_6 fX6_47 rfl (tw_L hb) hS hbc ?_
    refine sg_getI dX6_mostAshamed_9 fX6_104 rfl (ct_L hc) hS ?_
    refine go_icmp_ge (tgt := 43) dX6_mostAshamed_12 (by decide) (fun c12 => ?_) (fun c12 => ?_)
    · exact absurd (hpe ▸ c12) (nI_ge hk (by omega))
    · refine go_iloadn dX6_mostAshamed_15 rfl ?_
      refine go_iconst (v := -1) dX6_mostAshamed_16 rfl ?_
      refine go_icmp_eq (tgt := 35) dX6_mostAshamed_17 (by decide) (fun c17 => ?_) (fun c17 => ?_)
      · refine go_iloadn dX6_mostAshamed_35 rfl ?_
        refine go_ist1 dX6_mostAshamed_36 rfl ?_
        refine go_iinc2 (c1 := 1) dX6_mostAshamed_37 rfl rfl ?_
        refine go_goto (tgt := 4) dX6_mostAshamed_40 (by decide) ?_
        exact go_cong (ih trivial) (by rw [beF_s]; first | (have q := Int32.not_lt.mpr c32; rw [e0] at q; simp [q, c17, nI_1]; done) | (have q := Int32.not_le.mp c32; rw [e0] at q; simp [q, c17, nI_1]; done) | simp [c17, nI_1]) rfl
      · refine go_aloadn dX6_mostAshamed_20 rfl ?_
        refine sg_getR dX6_mostAshamed_21 fX6_15 rfl (tw_L hb) hS (tw_r4 hS hb) ?_
        refine go_iloadn dX6_mostAshamed_24 rfl ?_
        refine sg_iald dX6_mostAshamed_25 (tw_4 hb) hS (vp_in_nI (by omega) (by decide)) ?_
        refine go_aloadn dX6_mostAshamed_26 rfl ?_
        refine sg_getR dX6_mostAshamed_27 fX6_15 rfl (tw_L hb) hS (tw_r4 hS hb) ?_
        refine go_iloadn dX6_mostAshamed_30 rfl ?_
        refine sg_iald dX6_mostAshamed_31 (tw_4 hb) hS (beF_ok (by omega) (by decide) c17) ?_
        refine go_icmp_le (tgt := 37) dX6_mostAshamed_32 (by decide) (fun c32 => ?_) (fun c32 => ?_)
        · refine go_iinc2 (c1 := 1) dX6_mostAshamed_37 rfl rfl ?_
          refine go_goto (tgt := 4) dX6_mostAshamed_40 (by decide) ?_
          exact go_cong (ih trivial) (by rw [beF_s]; first | (have q := Int32.not_lt.mpr c32; rw [e0] at q; simp [q, c17, nI_1]; done) | (have q := Int32.not_le.mp c32; rw [e0] at q; simp [q, c17, nI_1]; done) | simp [c17, nI_1]) rfl
        · refine go_iloadn dX6_mostAshamed_35 rfl ?_
          refine go_ist1 dX6_mostAshamed_36 rfl ?_
          refine go_iinc2 (c1 := 1) dX6_mostAshamed_37 rfl rfl ?_
          refine go_goto (tgt := 4) dX6_mostAshamed_40 (by decide) ?_
          exact go_cong (ih trivial) (by rw [beF_s]; first | (have q := Int32.not_lt.mpr c32; rw [e0] at q; simp [q, c17, nI_1]; done) | (have q := Int32.not_le.mp c32; rw [e0] at q; simp [q, c17, nI_1]; done) | simp [c17, nI_1]) rfl
  · refine go_iloadn dX6_mostAshamed_4 rfl ?_
    refine go_aloadn dX6_mostAshamed_5 rfl ?_
    refine sg_getR dX6_mostAshamed_6 fX6_47 rfl (tw_L hb) hS hbc ?_
    refine sg_getI dX6_mostAshamed_9 fX6_104 rfl (ct_L hc) hS ?_
    refine go_icmp_ge (tgt := 43) dX6_mostAshamed_12 (by decide) (fun c12 => ?_) (fun c12 => ?_)
    · refine go_iloadn dX6_mostAshamed_43 rfl ?_
      refine go_ireturn dX6_mostAshamed_44 rfl rfl (Nat.zero_le _) (Nat.zero_le _) ?_
      exact ⟨rfl, rfl⟩
    · exact absurd (by rw [hpe]; exact nI_le (Nat.le_refl _) (by omega)) c12
def weF (h : Hp) (b c N : Nat) (p : Int32) : Int32 := wtF (hI h (c + 5)) (btF (fun t => hI h (b + 5) t = p) N) N
theorem r_richest {l : Launch} {d b c N P : Nat} {h : Hp} (H : TC h b c N P) : Ex l (d + 3) mX6_richest [.ref b] h (some (.int (beF (fun _ => True) (fun p => weF h b c N (nI p)) P))) h := by
  obtain ⟨hS, hb, hc, hbc, -, -, hpe, hP⟩ := id H
  refine run_lv [some (.ref b), none, none] (go := ?_)
  refine go_iconst (v := -1) dX6_richest_0 rfl ?_
  refine go_ist1 dX6_richest_1 rfl ?_
  refine go_iconst (v := 0) dX6_richest_2 rfl ?_
  refine go_ist2 dX6_richest_3 rfl ?_
  refine go_loop (lvf := fun k => [some (.ref b), some (.int (beF (fun _ => True) (fun p => weF h b c N (nI p)) k)), some (.int (nI k))]) (hf := fun _ => h) P (fun _ => True) (fun k hk _ ih => ?_) (fun _ => ?_) 0 (Nat.zero_le _) trivial
  · refine go_iloadn dX6_richest_4 rfl ?_
    refine go_aloadn dX6_richest_5 rfl ?_
    refine sg_getR dX6_richest_6 fX6_47 rfl (tw_L hb) hS hbc ?_
    refine sg_getI dX6_richest_9 fX6_104 rfl (ct_L hc) hS ?_
    refine go_icmp_ge (tgt := 41) dX6_richest_12 (by decide) (fun c12 => ?_) (fun c12 => ?_)
    · exact absurd (hpe ▸ c12) (nI_ge hk (by omega))
    · refine go_iloadn dX6_richest_15 rfl ?_
      refine go_iconst (v := -1) dX6_richest_16 rfl ?_
      refine go_icmp_eq (tgt := 33) dX6_richest_17 (by decide) (fun c17 => ?_) (fun c17 => ?_)
      · refine go_iloadn dX6_richest_33 rfl ?_
        refine go_ist1 dX6_richest_34 rfl ?_
        refine go_iinc2 (c1 := 1) dX6_richest_35 rfl rfl ?_
        refine go_goto (tgt := 4) dX6_richest_38 (by decide) ?_
        exact go_cong (ih trivial) (by rw [beF_s]; first | (have q := Int32.not_lt.mpr c30; have e9 := beF_nI (show k < 2 ^ 31 by omega) c17; simp only [e9]; simp only [weF] at q c17 ⊢; simp [q, c17, nI_1]; done) | (have q := Int32.not_le.mp c30; have e9 := beF_nI (show k < 2 ^ 31 by omega) c17; simp only [e9]; simp only [weF] at q c17 ⊢; simp [q, c17, nI_1]; done) | simp [c17, nI_1]) rfl
      · refine go_aloadn dX6_richest_20 rfl ?_
        refine go_iloadn dX6_richest_21 rfl ?_
        refine sg_cVi (M' := mX6_wealth) ([.int (nI k)]) dX6_richest_22 lX6_182 vX6_wealth (tw_L hb) (by decide) rfl hS (r_wealth H) rfl (Nat.le_of_ble_eq_true rfl) (Nat.zero_le _) (Nat.zero_le _) ?_
        refine go_aloadn dX6_richest_25 rfl ?_
        refine go_iloadn dX6_richest_26 rfl ?_
        refine sg_cVi (M' := mX6_wealth) ([.int (beF (fun _ => True) (fun p => weF h b c N (nI p)) k)]) dX6_richest_27 lX6_182 vX6_wealth (tw_L hb) (by decide) rfl hS (r_wealth H) rfl (Nat.le_of_ble_eq_true rfl) (Nat.zero_le _) (Nat.zero_le _) ?_
        refine go_icmp_le (tgt := 35) dX6_richest_30 (by decide) (fun c30 => ?_) (fun c30 => ?_)
        · refine go_iinc2 (c1 := 1) dX6_richest_35 rfl rfl ?_
          refine go_goto (tgt := 4) dX6_richest_38 (by decide) ?_
          exact go_cong (ih trivial) (by rw [beF_s]; first | (have q := Int32.not_lt.mpr c30; have e9 := beF_nI (show k < 2 ^ 31 by omega) c17; simp only [e9]; simp only [weF] at q c17 ⊢; simp [q, c17, nI_1]; done) | (have q := Int32.not_le.mp c30; have e9 := beF_nI (show k < 2 ^ 31 by omega) c17; simp only [e9]; simp only [weF] at q c17 ⊢; simp [q, c17, nI_1]; done) | simp [c17, nI_1]) rfl
        · refine go_iloadn dX6_richest_33 rfl ?_
          refine go_ist1 dX6_richest_34 rfl ?_
          refine go_iinc2 (c1 := 1) dX6_richest_35 rfl rfl ?_
          refine go_goto (tgt := 4) dX6_richest_38 (by decide) ?_
          exact go_cong (ih trivial) (by rw [beF_s]; first | (have q := Int32.not_lt.mpr c30; have e9 := beF_nI (show k < 2 ^ 31 by omega) c17; simp only [e9]; simp only [weF] at q c17 ⊢; simp [q, c17, nI_1]; done) | (have q := Int32.not_le.mp c30; have e9 := beF_nI (show k < 2 ^ 31 by omega) c17; simp only [e9]; simp only [weF] at q c17 ⊢; simp [q, c17, nI_1]; done) | simp [c17, nI_1]) rfl
  · refine go_iloadn dX6_richest_4 rfl ?_
    refine go_aloadn dX6_richest_5 rfl ?_
    refine sg_getR dX6_richest_6 fX6_47 rfl (tw_L hb) hS hbc ?_
    refine sg_getI dX6_richest_9 fX6_104 rfl (ct_L hc) hS ?_
    refine go_icmp_ge (tgt := 41) dX6_richest_12 (by decide) (fun c12 => ?_) (fun c12 => ?_)
    · refine go_iloadn dX6_richest_41 rfl ?_
      refine go_ireturn dX6_richest_42 rfl rfl (Nat.zero_le _) (Nat.zero_le _) ?_
      exact ⟨rfl, rfl⟩
    · exact absurd (by rw [hpe]; exact nI_le (Nat.le_refl _) (by omega)) c12
