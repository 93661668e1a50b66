/-! the class's questions: games, years, meeting, counts -/
theorem rsB_cong {A B A' B' : Nat → Int32} {k : Nat} (hk : k < 4) (hA : ∀ j, j < 4 → A j = A' j) (hB : ∀ j, j < 4 → B j = B' j) : rsB A B k = rsB A' B' k := by
  have h2 : k ^^^ 2 < 4 := Nat.xor_lt_two_pow (n := 2) hk (by decide)
  have h1 : k ^^^ 1 < 4 := Nat.xor_lt_two_pow (n := 2) hk (by decide)
  unfold rsB
  rw [hA k hk, hB k hk, hA _ h2, hB _ h1]
theorem car_cong {A B A' B' : Nat → Int32} (hA : ∀ j, j < 4 → A j = A' j) (hB : ∀ j, j < 4 → B j = B' j) : car A B 4 = car A' B' 4 := foF_cong (fun i hi a => by rw [rsB_cong hi hA hB])
def gmA (C : Cy) (T : Tn) (p o q k : Nat) : Int32 := gnT C (gmT C T p o k) q
def gaF (C : Cy) (T : Tn) (p o : Nat) (w : Int32) : Int32 := if btF (fun t => tB T t = nI p) (cN C) = 0 ∨ btF (fun t => tB T t = nI o) (cN C) = 0 then -1 else if w = 0 then nI (car (gmA C T p o p) (gmA C T p o o) 4) else oN (fun k => nI (10 * (k / 2) + k % 2)) (fsN (fun k => rsB (gmA C T p o p) (gmA C T p o o) k = true) 4)
def vGame (C : Cy) (T : Tn) (x y w : Int32) : An := nd (okX (cP C) x) 1 (nd (okX (cP C) y) 1 (nd (0 ≤ w ∧ w ≤ 1) 1 (nd (¬ x = y) 2 (0, gaF C T x.toNatClampNeg y.toNatClampNeg w))))
theorem k_game {l : Launch} {d c fs fr : Nat} {z x y w : Int32} {C : Cy} {T : Tn} {h : Hp} (hl : l.stackTraces = false) (W : WC C) (K : KB h c fs fr z C T) (hD9 : tD T ≤ 9999) : Qc l (d + 8) mX9_game [.ref 0, .int x, .int y, .int w] h (vGame C T x y w) nNSE nIAE := by
  obtain ⟨hbc, H, hv⟩ := K
  obtain ⟨hc, -, hS⟩ := H.hc
  have hpe := H.1.1.2.2.2.2.2.2.1
  have hP := W.1.2.1
  have hD9' : tD (sX z T) ≤ 9999 := hD9
  refine run_lv [some (.ref 0), some (.int x), some (.int y), some (.int w)] (go := ?_)
  unfold vGame
  refine go_aloadn dX9_game_0 rfl ?_
  refine go_iloadn dX9_game_1 rfl ?_
  refine sg_ndV (M' := mX9_needPerson) ([.int x]) dX9_game_2 lX9_165 vX9_needPerson (wo_L rfl) (by decide) rfl hS (r_needPerson hl hS hc hbc hpe).1 (r_needPerson hl hS hc hbc hpe).2 (Or.inl ⟨rfl, rfl⟩) Fq.rf (by decide) rfl rfl (Nat.le_of_ble_eq_true rfl) (fun k2 => ?_)
  refine go_aloadn dX9_game_5 rfl ?_
  refine go_iloadn dX9_game_6 rfl ?_
  refine sg_ndV (M' := mX9_needPerson) ([.int y]) dX9_game_7 lX9_165 vX9_needPerson (wo_L rfl) (by decide) rfl hS (r_needPerson hl hS hc hbc hpe).1 (r_needPerson hl hS hc hbc hpe).2 (Or.inl ⟨rfl, rfl⟩) Fq.rf (by decide) rfl rfl (Nat.le_of_ble_eq_true rfl) (fun k7 => ?_)
  refine go_iloadn dX9_game_10 rfl ?_
  refine go_iconst (v := 1) dX9_game_11 rfl ?_
  refine sg_ndS (M' := mX9_needWhat) ([.int w, .int 1]) dX9_game_12 lX9_131 sX9_needWhat hS (r_needWhat hl hS).1 (r_needWhat hl hS).2 (Or.inl ⟨rfl, rfl⟩) Fq.rf (by decide) rfl rfl (Nat.le_of_ble_eq_true rfl) (fun k12 => ?_)
  refine go_iloadn dX9_game_15 rfl ?_
  refine go_iloadn dX9_game_16 rfl ?_
  refine go_icmp_ne (tgt := 28) dX9_game_17 (by decide) (fun c17 => ?_) (fun c17 => ?_)
  · rw [show nd (¬ x = y) 2 (0, gaF C T x.toNatClampNeg y.toNatClampNeg w) = (0, gaF C T x.toNatClampNeg y.toNatClampNeg w) from if_pos c17]
    obtain ⟨p, hp, rfl⟩ := ok_nI (by omega) k2
    obtain ⟨o, ho, rfl⟩ := ok_nI (by omega) k7
    rw [cl_nI (show p < 2 ^ 31 by omega), cl_nI (show o < 2 ^ 31 by omega)]
    refine go_aloadn dX9_game_28 rfl ?_
    refine sg_getR dX9_game_29 fX9_41 rfl (wo_L rfl) hS (wo_r7 hS rfl) ?_
    refine go_iloadn dX9_game_32 rfl ?_
    refine sg_cVi (M' := mX6_wearsBits) ([.int (nI p)]) dX9_game_33 lX9_180 vX6_wearsBits (tw_L (at30)) (by decide) rfl hS (r_wearsBits H.1.1) rfl (Nat.le_of_ble_eq_true rfl) (Nat.zero_le _) (Nat.zero_le _) ?_
    rw [we_TV H]
    refine go_if_eq (tgt := 50) dX9_game_36 (by decide) (fun c36 => ?_) (fun c36 => ?_)
    · refine go_iconst (v := -1) dX9_game_50 rfl ?_
      refine go_ireturn dX9_game_51 rfl rfl (Nat.zero_le _) (Nat.zero_le _) ?_
      first | exact ⟨⟨rfl, congrArg (fun z => some (Value.int z)) (if_pos (Or.inl c36)).symm⟩, Fq.rf⟩ | exact ⟨⟨rfl, congrArg (fun z => some (Value.int z)) (if_pos (Or.inr c47)).symm⟩, Fq.rf⟩
    · refine go_aloadn dX9_game_39 rfl ?_
      refine sg_getR dX9_game_40 fX9_41 rfl (wo_L rfl) hS (wo_r7 hS rfl) ?_
      refine go_iloadn dX9_game_43 rfl ?_
      refine sg_cVi (M' := mX6_wearsBits) ([.int (nI o)]) dX9_game_44 lX9_180 vX6_wearsBits (tw_L (at30)) (by decide) rfl hS (r_wearsBits H.1.1) rfl (Nat.le_of_ble_eq_true rfl) (Nat.zero_le _) (Nat.zero_le _) ?_
      rw [we_TV H]
      refine go_if_ne (tgt := 52) dX9_game_47 (by decide) (fun c47 => ?_) (fun c47 => ?_)
      · refine go_aloadn dX9_game_52 rfl ?_
        refine sg_getR dX9_game_53 fX9_71 rfl (wo_L rfl) hS (wo_r14 hS rfl) ?_
        refine go_aloadn dX9_game_56 rfl ?_
        refine sg_getR dX9_game_57 fX9_41 rfl (wo_L rfl) hS (wo_r7 hS rfl) ?_
        refine go_iloadn dX9_game_60 rfl ?_
        refine go_iloadn dX9_game_61 rfl ?_
        refine sg_rV0 (M' := mX7_play) ([.ref 30, .int (nI p), .int (nI o)]) dX9_game_62 lX9_323 vX7_play (tr_L (rfl)) (by decide) rfl hS (r_play W H (by omega) hp ho) rfl (Nat.le_of_ble_eq_true rfl) (Nat.zero_le _) (Nat.zero_le _) (fun g F => ?_)
        have hS := F.1.St hS
        refine go_iloadn dX9_game_65 rfl ?_
        refine go_if_ne (tgt := 79) dX9_game_66 (by decide) (fun c66 => ?_) (fun c66 => ?_)
        · refine go_aloadn dX9_game_79 rfl ?_
          refine sg_getR dX9_game_80 fX9_71 rfl (wo_L rfl) hS (wo_r14 hS rfl) ?_
          refine sg_cVi (M' := mX7_firstCoupleAtRest) ([]) dX9_game_83 lX9_330 vX7_firstCoupleAtRest (tr_L (rfl)) (by decide) rfl hS (r_firstCoupleAtRest hS) rfl (Nat.le_of_ble_eq_true rfl) (Nat.zero_le _) (Nat.zero_le _) ?_
          refine go_ireturn dX9_game_86 rfl rfl (Nat.zero_le _) (Nat.zero_le _) ?_
          first | exact ⟨⟨rfl, congrArg (fun z => some (Value.int z)) (by show _ = gaF C T p o w; rw [gaF, if_neg (fun q => q.elim c36 c47), if_pos c66]; exact congrArg nI (car_cong (fun j hj => (F.2 j hj).1) (fun j hj => (F.2 j hj).2)))⟩, F.1⟩ | exact ⟨⟨rfl, congrArg (fun z => some (Value.int z)) (by show _ = gaF C T p o w; rw [gaF, if_neg (fun q => q.elim c36 c47), if_neg c66]; exact congrArg (oN (fun k => nI (10 * (k / 2) + k % 2))) (fs_cong (fun j hj => by rw [rsB_cong hj (fun j hj => (F.2 j hj).1) (fun j hj => (F.2 j hj).2)]; exact Iff.rfl)))⟩, F.1⟩
        · refine go_aloadn dX9_game_69 rfl ?_
          refine sg_getR dX9_game_70 fX9_71 rfl (wo_L rfl) hS (wo_r14 hS rfl) ?_
          refine sg_cVi (M' := mX7_couplesAtRest) ([]) dX9_game_73 lX9_327 vX7_couplesAtRest (tr_L (rfl)) (by decide) rfl hS (r_couplesAtRest hS) rfl (Nat.le_of_ble_eq_true rfl) (Nat.zero_le _) (Nat.zero_le _) ?_
          refine go_goto (tgt := 86) dX9_game_76 (by decide) ?_
          refine go_ireturn dX9_game_86 rfl rfl (Nat.zero_le _) (Nat.zero_le _) ?_
          first | exact ⟨⟨rfl, congrArg (fun z => some (Value.int z)) (by show _ = gaF C T p o w; rw [gaF, if_neg (fun q => q.elim c36 c47), if_pos c66]; exact congrArg nI (car_cong (fun j hj => (F.2 j hj).1) (fun j hj => (F.2 j hj).2)))⟩, F.1⟩ | exact ⟨⟨rfl, congrArg (fun z => some (Value.int z)) (by show _ = gaF C T p o w; rw [gaF, if_neg (fun q => q.elim c36 c47), if_neg c66]; exact congrArg (oN (fun k => nI (10 * (k / 2) + k % 2))) (fs_cong (fun j hj => by rw [rsB_cong hj (fun j hj => (F.2 j hj).1) (fun j hj => (F.2 j hj).2)]; exact Iff.rfl)))⟩, F.1⟩
      · refine go_iconst (v := -1) dX9_game_50 rfl ?_
        refine go_ireturn dX9_game_51 rfl rfl (Nat.zero_le _) (Nat.zero_le _) ?_
        first | exact ⟨⟨rfl, congrArg (fun z => some (Value.int z)) (if_pos (Or.inl c36)).symm⟩, Fq.rf⟩ | exact ⟨⟨rfl, congrArg (fun z => some (Value.int z)) (if_pos (Or.inr c47)).symm⟩, Fq.rf⟩
  · exact go_throwI hl rfl (by decide) rfl dX9_game_20 dX9_game_23 dX9_game_24 dX9_game_27 (Nat.le_of_ble_eq_true rfl) (by simp only [rmOf]; omega) (by simp only [rmOf]; omega) (Nat.le_refl _) (Nat.le_refl _) (Nat.le_refl _) (Nat.le_refl _) hS.1 ⟨Or.inr ⟨by rw [nd, if_neg (fun q => q c17)], rfl⟩, Fq.rf⟩
def vYears (C : Cy) (T : Tn) (s n w : Int32) : An := nd (0 ≤ w ∧ w ≤ 2) 1 (nd (0 ≤ n ∧ n ≤ 100) 2 (0, if w = 0 then tC (yrT C T s n.toNatClampNeg).2 else if w = 1 then smF (tH (yrT C T s n.toNatClampNeg).2) (cP C) else bcF (woT C (yrT C T s n.toNatClampNeg).2)))
theorem k_years {l : Launch} {d c fs fr : Nat} {z s n w : Int32} {C : Cy} {T : Tn} {h : Hp} (hl : l.stackTraces = false) (W : WC C) (K : KB h c fs fr z C T) (hD9 : tD T ≤ 9999) : Qc l (d + 7) mX9_years [.ref 0, .int s, .int n, .int w] h (vYears C T s n w) nNSE nIAE := by
  obtain ⟨hbc, H, hv⟩ := K
  obtain ⟨hc, -, hS⟩ := H.hc
  have hD9' : tD (sX z T) ≤ 9999 := hD9
  refine run_lv [some (.ref 0), some (.int s), some (.int n), some (.int w), none] (go := ?_)
  unfold vYears
  refine go_iloadn dX9_years_0 rfl ?_
  refine go_iconst (v := 2) dX9_years_1 rfl ?_
  refine sg_ndS (M' := mX9_needWhat) ([.int w, .int 2]) dX9_years_2 lX9_131 sX9_needWhat hS (r_needWhat hl hS).1 (r_needWhat hl hS).2 (Or.inl ⟨rfl, rfl⟩) Fq.rf (by decide) rfl rfl (Nat.le_of_ble_eq_true rfl) (fun k2 => ?_)
  refine go_iloadn dX9_years_5 rfl ?_
  refine go_iconst (v := 0) dX9_years_6 rfl ?_
  refine go_bipush (v := 100) dX9_years_7 rfl ?_
  refine sg_ndS (M' := mX9_needWithin) ([.int n, .int 0, .int 100]) dX9_years_9 lX9_244 sX9_needWithin hS (r_needWithin hl hS).1 (r_needWithin hl hS).2 (Or.inr ⟨rfl, rfl⟩) Fq.rf (by decide) rfl rfl (Nat.le_of_ble_eq_true rfl) (fun k9 => ?_)
  obtain ⟨j, -, hj, rfl⟩ := rg_nI (a := 0) (b := 100) rfl rfl (by decide) (by decide) k9
  rw [cl_nI (show j < 2 ^ 31 by omega)]
  refine go_aloadn dX9_years_12 rfl ?_
  refine sg_getR dX9_years_13 fX9_71 rfl (wo_L rfl) hS (wo_r14 hS rfl) ?_
  refine go_aloadn dX9_years_16 rfl ?_
  refine sg_getR dX9_years_17 fX9_41 rfl (wo_L rfl) hS (wo_r7 hS rfl) ?_
  refine go_iloadn dX9_years_20 rfl ?_
  refine go_iloadn dX9_years_21 rfl ?_
  refine sg_rVi (M' := mX7_drawYears) ([.ref 30, .int s, .int (nI j)]) dX9_years_22 lX9_333 vX7_drawYears (tr_L (rfl)) (by decide) rfl hS (r_drawYears W H (by omega) hj) rfl (Nat.le_of_ble_eq_true rfl) (Nat.zero_le _) (Nat.zero_le _) (fun g F => ?_)
  have hS := F.2.hc.2.2
  refine go_ast4 dX9_years_25 rfl ?_
  refine go_iloadn dX9_years_27 rfl ?_
  refine go_if_ne (tgt := 37) dX9_years_28 (by decide) (fun c28 => ?_) (fun c28 => ?_)
  · refine go_iloadn dX9_years_37 rfl ?_
    refine go_iconst (v := 1) dX9_years_38 rfl ?_
    refine go_icmp_ne (tgt := 50) dX9_years_39 (by decide) (fun c39 => ?_) (fun c39 => ?_)
    · refine go_aload dX9_years_50 rfl ?_
      refine sg_cVi (M' := mX6_wornBits) ([]) dX9_years_52 lX9_150 vX6_wornBits (tw_L at56) (by decide) rfl hS (r_wornBits F.2.1.1) rfl (Nat.le_of_ble_eq_true rfl) (Nat.zero_le _) (Nat.zero_le _) ?_
      rw [wo_TV F.2]
      refine sg_cSi (M' := mJ6_bitCount_0f7a4) ([.int _]) dX9_years_55 lX9_337 sJ6_bitCount_0f7a4 hS (r_bitCount) rfl (Nat.le_of_ble_eq_true rfl) (Nat.zero_le _) (Nat.zero_le _) ?_
      refine go_ireturn dX9_years_58 rfl rfl (Nat.zero_le _) (Nat.zero_le _) ?_
      first | exact ⟨⟨rfl, by rw [if_pos c28]; rfl⟩, F5c F.1⟩ | exact ⟨⟨rfl, by rw [if_neg c28, if_pos c39]; exact congrArg (fun z => some (Value.int z)) (smF_cong (fun t ht => (F.2.2.2.2.1 t ht).1))⟩, F5c F.1⟩ | exact ⟨⟨rfl, by rw [if_neg c28, if_neg c39]; rfl⟩, F5c F.1⟩
    · refine go_aload dX9_years_42 rfl ?_
      refine sg_cVi (M' := mX6_shameOfAll) ([]) dX9_years_44 lX9_158 vX6_shameOfAll (tw_L at56) (by decide) rfl hS (r_shameOfAll F.2.1.1) rfl (Nat.le_of_ble_eq_true rfl) (Nat.zero_le _) (Nat.zero_le _) ?_
      refine go_goto (tgt := 58) dX9_years_47 (by decide) ?_
      refine go_ireturn dX9_years_58 rfl rfl (Nat.zero_le _) (Nat.zero_le _) ?_
      first | exact ⟨⟨rfl, by rw [if_pos c28]; rfl⟩, F5c F.1⟩ | exact ⟨⟨rfl, by rw [if_neg c28, if_pos c39]; exact congrArg (fun z => some (Value.int z)) (smF_cong (fun t ht => (F.2.2.2.2.1 t ht).1))⟩, F5c F.1⟩ | exact ⟨⟨rfl, by rw [if_neg c28, if_neg c39]; rfl⟩, F5c F.1⟩
  · refine go_aload dX9_years_31 rfl ?_
    refine sg_getI dX9_years_33 fX9_265 rfl (tw_L at56) hS ?_
    rw [F.2.2.2.2.2.2]
    refine go_ireturn dX9_years_36 rfl rfl (Nat.zero_le _) (Nat.zero_le _) ?_
    first | exact ⟨⟨rfl, by rw [if_pos c28]; rfl⟩, F5c F.1⟩ | exact ⟨⟨rfl, by rw [if_neg c28, if_pos c39]; exact congrArg (fun z => some (Value.int z)) (smF_cong (fun t ht => (F.2.2.2.2.1 t ht).1))⟩, F5c F.1⟩ | exact ⟨⟨rfl, by rw [if_neg c28, if_neg c39]; rfl⟩, F5c F.1⟩
def ftT (C : Cy) (T : Tn) (p o : Nat) : Int32 := oN (fun k => nI (k + 1)) (fsN (fun k => plT C T p (tD T + k) = plT C T o (tD T + k)) 100)
theorem r_ft30 {l : Launch} {d c fs fr p o : Nat} {C : Cy} {T : Tn} {h : Hp} (W : WC C) (H : TV h 30 c fs fr C T) (hp : p < cP C) (ho : o < cP C) : Ex l (d + 2) mX6_firstTogether [.ref 30, .int (nI p), .int (nI o)] h (some (.int (ftT C T p o))) h := by
  have := r_firstTogether (l := l) (d := d) H.1 hp ho
  have e : ftT C T p o = oN (fun k => nI (k + 1)) (fsN (fun k => plN h 30 c p (tD T + k) = plN h 30 c o (tD T + k)) 100) := congrArg (oN (fun k => nI (k + 1))) (fs_cong (fun k _ => by rw [plN_plT W H.2.1 H.2.2 hp, plN_plT W H.2.1 H.2.2 ho]))
  rw [e]; exact this
def vMeet (C : Cy) (T : Tn) (x y : Int32) : An := nd (okX (cP C) x) 1 (nd (okX (cP C) y) 1 (0, if x = y then -1 else ftT C T x.toNatClampNeg y.toNatClampNeg))
theorem k_meet {l : Launch} {d c fs fr : Nat} {z x y : Int32} {C : Cy} {T : Tn} {h : Hp} (hl : l.stackTraces = false) (W : WC C) (K : KB h c fs fr z C T) : Qc l (d + 7) mX9_meet [.ref 0, .int x, .int y] h (vMeet C T x y) nNSE nIAE := by
  obtain ⟨hbc, H, hv⟩ := K
  obtain ⟨hc, -, hS⟩ := H.hc
  have hpe := H.1.1.2.2.2.2.2.2.1
  have hP := W.1.2.1
  refine run_lv [some (.ref 0), some (.int x), some (.int y)] (go := ?_)
  unfold vMeet
  refine go_aloadn dX9_meet_0 rfl ?_
  refine go_iloadn dX9_meet_1 rfl ?_
  refine sg_ndV (M' := mX9_needPerson) ([.int x]) dX9_meet_2 lX9_165 vX9_needPerson (wo_L rfl) (by decide) rfl hS (r_needPerson hl hS hc hbc hpe).1 (r_needPerson hl hS hc hbc hpe).2 (Or.inl ⟨rfl, rfl⟩) Fq.rf (by decide) rfl rfl (Nat.le_of_ble_eq_true rfl) (fun k2 => ?_)
  refine go_aloadn dX9_meet_5 rfl ?_
  refine go_iloadn dX9_meet_6 rfl ?_
  refine sg_ndV (M' := mX9_needPerson) ([.int y]) dX9_meet_7 lX9_165 vX9_needPerson (wo_L rfl) (by decide) rfl hS (r_needPerson hl hS hc hbc hpe).1 (r_needPerson hl hS hc hbc hpe).2 (Or.inl ⟨rfl, rfl⟩) Fq.rf (by decide) rfl rfl (Nat.le_of_ble_eq_true rfl) (fun k7 => ?_)
  obtain ⟨p, hp, rfl⟩ := ok_nI (by omega) k2
  obtain ⟨o, ho, rfl⟩ := ok_nI (by omega) k7
  rw [cl_nI (show p < 2 ^ 31 by omega), cl_nI (show o < 2 ^ 31 by omega)]
  refine go_iloadn dX9_meet_10 rfl ?_
  refine go_iloadn dX9_meet_11 rfl ?_
  refine go_icmp_ne (tgt := 19) dX9_meet_12 (by decide) (fun c12 => ?_) (fun c12 => ?_)
  · refine go_aloadn dX9_meet_19 rfl ?_
    refine sg_getR dX9_meet_20 fX9_41 rfl (wo_L rfl) hS (wo_r7 hS rfl) ?_
    refine go_iloadn dX9_meet_23 rfl ?_
    refine go_iloadn dX9_meet_24 rfl ?_
    refine sg_cVi (M' := mX6_firstTogether) ([.int (nI p), .int (nI o)]) dX9_meet_25 lX9_342 vX6_firstTogether (tw_L (at30)) (by decide) rfl hS (r_ft30 W H hp ho) rfl (Nat.le_of_ble_eq_true rfl) (Nat.zero_le _) (Nat.zero_le _) ?_
    refine go_ireturn dX9_meet_28 rfl rfl (Nat.zero_le _) (Nat.zero_le _) ?_
    first | exact ⟨⟨rfl, by rw [if_neg c12]; rfl⟩, Fq.rf⟩ | exact ⟨⟨rfl, by rw [if_pos c12]⟩, Fq.rf⟩ | exact ⟨⟨rfl, by rw [if_pos (Decidable.not_not.mp c12)]⟩, Fq.rf⟩
  · refine go_iconst (v := -1) dX9_meet_15 rfl ?_
    refine go_goto (tgt := 28) dX9_meet_16 (by decide) ?_
    refine go_ireturn dX9_meet_28 rfl rfl (Nat.zero_le _) (Nat.zero_le _) ?_
    first | exact ⟨⟨rfl, by rw [if_neg c12]; rfl⟩, Fq.rf⟩ | exact ⟨⟨rfl, by rw [if_pos c12]⟩, Fq.rf⟩ | exact ⟨⟨rfl, by rw [if_pos (Decidable.not_not.mp c12)]⟩, Fq.rf⟩
def vFaced (C : Cy) (T : Tn) (x : Int32) : An := nd (okX (cN C) x) 1 (0, if tB T x.toNatClampNeg = -1 ∨ ¬ cBl C (tO T x.toNatClampNeg).toNatClampNeg = 0 then -1 else ftT C T (tB T x.toNatClampNeg).toNatClampNeg (tO T x.toNatClampNeg).toNatClampNeg)
theorem k_faced {l : Launch} {d c fs fr : Nat} {z x : Int32} {C : Cy} {T : Tn} {h : Hp} (hl : l.stackTraces = false) (W : WC C) (K : KB h c fs fr z C T) (V : WT C T) : Qc l (d + 7) mX9_faced [.ref 0, .int x] h (vFaced C T x) nNSE nIAE := by
  obtain ⟨hbc, H, hv⟩ := K
  obtain ⟨hc, -, hS⟩ := H.hc
  have hth := H.1.1.2.2.2.2.1
  have hN1 := W.1.1
  have hP := W.1.2.1
  refine run_lv [some (.ref 0), some (.int x), none, none] (go := ?_)
  unfold vFaced
  refine go_aloadn dX9_faced_0 rfl ?_
  refine go_iloadn dX9_faced_1 rfl ?_
  refine sg_ndV (M' := mX9_needThing) ([.int x]) dX9_faced_2 lX9_196 vX9_needThing (wo_L rfl) (by decide) rfl hS (r_needThing hl hS hc hbc hth).1 (r_needThing hl hS hc hbc hth).2 (Or.inl ⟨rfl, rfl⟩) Fq.rf (by decide) rfl rfl (Nat.le_of_ble_eq_true rfl) (fun k2 => ?_)
  obtain ⟨t, ht, rfl⟩ := ok_nI (by omega) k2
  obtain ⟨⟨o, ho, eo⟩, eb, -⟩ := V.1 t ht
  rw [cl_nI (show t < 2 ^ 31 by omega), eo, cl_nI (show o < 2 ^ 31 by omega)]
  refine go_aloadn dX9_faced_5 rfl ?_
  refine sg_getR dX9_faced_6 fX9_41 rfl (wo_L rfl) hS (wo_r7 hS rfl) ?_
  refine sg_getR dX9_faced_9 fX9_208 rfl (tw_L (at30)) hS (tw_r8 hS (at30)) ?_
  refine go_iloadn dX9_faced_12 rfl ?_
  refine sg_ialdN (i := t) (x := tB T t) dX9_faced_13 (tw_8 (at30)) hS (by simp only [lit_nI, nI_add, pk_mul, Nat.add_assoc, Nat.zero_add, Nat.add_zero]) (by omega) ((H.2.2.1 t ht).2.1) ?_
  refine go_ist2 dX9_faced_14 rfl ?_
  refine go_aloadn dX9_faced_15 rfl ?_
  refine sg_getR dX9_faced_16 fX9_41 rfl (wo_L rfl) hS (wo_r7 hS rfl) ?_
  refine sg_getR dX9_faced_19 fX9_205 rfl (tw_L (at30)) hS (tw_r7 hS (at30)) ?_
  refine go_iloadn dX9_faced_22 rfl ?_
  refine sg_ialdN (i := t) (x := nI o) dX9_faced_23 (tw_7 (at30)) hS (by simp only [lit_nI, nI_add, pk_mul, Nat.add_assoc, Nat.zero_add, Nat.add_zero]) (by omega) (((H.2.2.1 t ht).1).trans eo) ?_
  refine go_ist3 dX9_faced_24 rfl ?_
  refine go_iloadn dX9_faced_25 rfl ?_
  refine go_iconst (v := -1) dX9_faced_26 rfl ?_
  refine go_icmp_eq (tgt := 42) dX9_faced_27 (by decide) (fun c27 => ?_) (fun c27 => ?_)
  · refine go_iconst (v := -1) dX9_faced_42 rfl ?_
    refine go_ireturn dX9_faced_43 rfl rfl (Nat.zero_le _) (Nat.zero_le _) ?_
    first | exact ⟨⟨rfl, by rw [if_pos (Or.inl c27)]⟩, Fq.rf⟩ | exact ⟨⟨rfl, by rw [if_pos (Or.inr c39)]⟩, Fq.rf⟩
  · refine go_aloadn dX9_faced_30 rfl ?_
    refine sg_getR dX9_faced_31 fX9_31 rfl (wo_L rfl) hS hbc ?_
    refine sg_getR dX9_faced_34 fX9_177 rfl (ct_L hc) hS (ct_r5 hS hc) ?_
    refine go_iloadn dX9_faced_37 rfl ?_
    refine sg_ialdN (i := o) dX9_faced_38 (ct_5 hc) hS (by simp only [lit_nI, nI_add, pk_mul, Nat.add_assoc, Nat.zero_add, Nat.add_zero]) (by omega) ((H.2.1.2.1 o ho).1) ?_
    refine go_if_eq (tgt := 44) dX9_faced_39 (by decide) (fun c39 => ?_) (fun c39 => ?_)
    · obtain ⟨w, hw, ew⟩ := eb.resolve_left c27
      rw [ew, cl_nI (show w < 2 ^ 31 by omega)]
      refine go_aloadn dX9_faced_44 rfl ?_
      refine sg_getR dX9_faced_45 fX9_41 rfl (wo_L rfl) hS (wo_r7 hS rfl) ?_
      refine go_iloadn dX9_faced_48 rfl ?_
      refine go_iloadn dX9_faced_49 rfl ?_
      refine sg_cVi (M' := mX6_firstTogether) ([.int (nI w), .int (nI o)]) dX9_faced_50 lX9_342 vX6_firstTogether (tw_L (at30)) (by decide) rfl hS (r_ft30 W H hw ho) rfl (Nat.le_of_ble_eq_true rfl) (Nat.zero_le _) (Nat.zero_le _) ?_
      refine go_ireturn dX9_faced_53 rfl rfl (Nat.zero_le _) (Nat.zero_le _) ?_
      exact ⟨⟨rfl, by rw [if_neg (fun q => q.elim (nI_m1 (by omega)) (fun q => q c39))]; rfl⟩, Fq.rf⟩
    · refine go_iconst (v := -1) dX9_faced_42 rfl ?_
      refine go_ireturn dX9_faced_43 rfl rfl (Nat.zero_le _) (Nat.zero_le _) ?_
      first | exact ⟨⟨rfl, by rw [if_pos (Or.inl c27)]⟩, Fq.rf⟩ | exact ⟨⟨rfl, by rw [if_pos (Or.inr c39)]⟩, Fq.rf⟩
def unT (C : Cy) (T : Tn) (n : Nat) : Int32 := btF (fun p => ¬ btF (fun t => tB T t = nI p) (cN C) = 0 ∧ fsN (fun k => ¬ lkT C T p (tD T + k) = 0) n = none) (cP C)
def vWalks (C : Cy) (T : Tn) (n w : Int32) : An := nd (0 ≤ w ∧ w ≤ 1) 1 (nd (1 ≤ n ∧ n ≤ 100) 2 (0, if w = 0 then (buT C T n.toNatClampNeg (cL C)).1 else unT C T n.toNatClampNeg))
theorem k_walks {l : Launch} {d c fs fr : Nat} {z n w : Int32} {C : Cy} {T : Tn} {h : Hp} (hl : l.stackTraces = false) (W : WC C) (K : KB h c fs fr z C T) : Qc l (d + 7) mX9_walks [.ref 0, .int n, .int w] h (vWalks C T n w) nNSE nIAE := by
  obtain ⟨hbc, H, hv⟩ := K
  obtain ⟨hc, -, hS⟩ := H.hc
  refine run_lv [some (.ref 0), some (.int n), some (.int w)] (go := ?_)
  unfold vWalks
  refine go_iloadn dX9_walks_0 rfl ?_
  refine go_iconst (v := 1) dX9_walks_1 rfl ?_
  refine sg_ndS (M' := mX9_needWhat) ([.int w, .int 1]) dX9_walks_2 lX9_131 sX9_needWhat hS (r_needWhat hl hS).1 (r_needWhat hl hS).2 (Or.inl ⟨rfl, rfl⟩) Fq.rf (by decide) rfl rfl (Nat.le_of_ble_eq_true rfl) (fun k2 => ?_)
  refine go_iloadn dX9_walks_5 rfl ?_
  refine go_iconst (v := 1) dX9_walks_6 rfl ?_
  refine go_bipush (v := 100) dX9_walks_7 rfl ?_
  refine sg_ndS (M' := mX9_needWithin) ([.int n, .int 1, .int 100]) dX9_walks_9 lX9_244 sX9_needWithin hS (r_needWithin hl hS).1 (r_needWithin hl hS).2 (Or.inr ⟨rfl, rfl⟩) Fq.rf (by decide) rfl rfl (Nat.le_of_ble_eq_true rfl) (fun k9 => ?_)
  obtain ⟨j, -, hj, rfl⟩ := rg_nI (a := 1) (b := 100) rfl rfl (by decide) (by decide) k9
  rw [cl_nI (show j < 2 ^ 31 by omega)]
  refine go_iloadn dX9_walks_12 rfl ?_
  refine go_if_ne (tgt := 31) dX9_walks_13 (by decide) (fun c13 => ?_) (fun c13 => ?_)
  · refine go_aloadn dX9_walks_31 rfl ?_
    refine sg_getR dX9_walks_32 fX9_41 rfl (wo_L rfl) hS (wo_r7 hS rfl) ?_
    refine go_iloadn dX9_walks_35 rfl ?_
    refine sg_rVi (M' := mX6_unseen) ([.int (nI j)]) dX9_walks_36 lX9_348 vX6_unseen (tw_L (at30)) (by decide) rfl hS (r_unseen H.1 hj) rfl (Nat.le_of_ble_eq_true rfl) (Nat.zero_le _) (Nat.zero_le _) (fun g F => ?_)
    refine go_ireturn dX9_walks_39 rfl rfl (Nat.zero_le _) (Nat.zero_le _) ?_
    first | exact ⟨⟨rfl, by rw [if_pos c13]; rfl⟩, Fq.rf⟩ | exact ⟨⟨rfl, by rw [if_neg c13]; exact congrArg (fun z => some (Value.int z)) (btF_cong (fun p hp => by rw [we_TV H]; exact and_congr Iff.rfl (by rw [fs_cong (fun k _ => by rw [lkA_lkT W H.2.1 H.2.2 hp])]; exact Iff.rfl)))⟩, Fts F⟩
  · refine go_aloadn dX9_walks_16 rfl ?_
    refine sg_getR dX9_walks_17 fX9_85 rfl (wo_L rfl) hS (wo_r16 hS rfl) ?_
    refine go_aloadn dX9_walks_20 rfl ?_
    refine sg_getR dX9_walks_21 fX9_41 rfl (wo_L rfl) hS (wo_r7 hS rfl) ?_
    refine go_iloadn dX9_walks_24 rfl ?_
    refine sg_cVi (M' := mX5_busiest) ([.ref 30, .int (nI j)]) dX9_walks_25 lX9_345 vX5_busiest (ti_L (rfl)) (by decide) rfl hS (r_busiest W H hj) rfl (Nat.le_of_ble_eq_true rfl) (Nat.zero_le _) (Nat.zero_le _) ?_
    refine go_goto (tgt := 39) dX9_walks_28 (by decide) ?_
    refine go_ireturn dX9_walks_39 rfl rfl (Nat.zero_le _) (Nat.zero_le _) ?_
    first | exact ⟨⟨rfl, by rw [if_pos c13]; rfl⟩, Fq.rf⟩ | exact ⟨⟨rfl, by rw [if_neg c13]; exact congrArg (fun z => some (Value.int z)) (btF_cong (fun p hp => by rw [we_TV H]; exact and_congr Iff.rfl (by rw [fs_cong (fun k _ => by rw [lkA_lkT W H.2.1 H.2.2 hp])]; exact Iff.rfl)))⟩, Fts F⟩
def vShamed (C : Cy) (T : Tn) (x m : Int32) : An := nd (okX (cP C) x) 1 (nd (1 ≤ m ∧ m ≤ 99) 2 (0, oN nI (fsN (fun k => m ≤ tH (dnT C (t0 T) k) x.toNatClampNeg) 101)))
theorem k_shamed {l : Launch} {d c fs fr : Nat} {z x m : Int32} {C : Cy} {T : Tn} {h : Hp} (hl : l.stackTraces = false) (W : WC C) (K : KB h c fs fr z C T) (hD9 : tD T ≤ 9999) : Qc l (d + 7) mX9_shamed [.ref 0, .int x, .int m] h (vShamed C T x m) nNSE nIAE := by
  obtain ⟨hbc, H, hv⟩ := K
  obtain ⟨hc, -, hS⟩ := H.hc
  have hpe := H.1.1.2.2.2.2.2.2.1
  have hP := W.1.2.1
  have hD9' : tD (t0 (sX z T)) ≤ 9999 := hD9
  refine run_lv [some (.ref 0), some (.int x), some (.int m)] (go := ?_)
  unfold vShamed
  refine go_aloadn dX9_shamed_0 rfl ?_
  refine go_iloadn dX9_shamed_1 rfl ?_
  refine sg_ndV (M' := mX9_needPerson) ([.int x]) dX9_shamed_2 lX9_165 vX9_needPerson (wo_L rfl) (by decide) rfl hS (r_needPerson hl hS hc hbc hpe).1 (r_needPerson hl hS hc hbc hpe).2 (Or.inl ⟨rfl, rfl⟩) Fq.rf (by decide) rfl rfl (Nat.le_of_ble_eq_true rfl) (fun k2 => ?_)
  refine go_iloadn dX9_shamed_5 rfl ?_
  refine go_iconst (v := 1) dX9_shamed_6 rfl ?_
  refine go_bipush (v := 99) dX9_shamed_7 rfl ?_
  refine sg_ndS (M' := mX9_needWithin) ([.int m, .int 1, .int 99]) dX9_shamed_9 lX9_244 sX9_needWithin hS (r_needWithin hl hS).1 (r_needWithin hl hS).2 (Or.inr ⟨rfl, rfl⟩) Fq.rf (by decide) rfl rfl (Nat.le_of_ble_eq_true rfl) (fun k9 => ?_)
  obtain ⟨p, hp, rfl⟩ := ok_nI (by omega) k2
  rw [cl_nI (show p < 2 ^ 31 by omega)]
  refine go_aloadn dX9_shamed_12 rfl ?_
  refine sg_getR dX9_shamed_13 fX9_71 rfl (wo_L rfl) hS (wo_r14 hS rfl) ?_
  refine go_aloadn dX9_shamed_16 rfl ?_
  refine sg_getR dX9_shamed_17 fX9_41 rfl (wo_L rfl) hS (wo_r7 hS rfl) ?_
  refine sg_rV0 (M' := mX7_start) ([.ref 30]) dX9_shamed_20 lX9_252 vX7_start (tr_L (rfl)) (by decide) rfl hS (r_start H) rfl (Nat.le_of_ble_eq_true rfl) (Nat.zero_le _) (Nat.zero_le _) (fun g F => ?_)
  have hS := F.2.hc.2.2
  refine go_aloadn dX9_shamed_23 rfl ?_
  refine sg_getR dX9_shamed_24 fX9_71 rfl (wo_L rfl) hS (wo_r14 hS rfl) ?_
  refine go_iloadn dX9_shamed_27 rfl ?_
  refine go_iloadn dX9_shamed_28 rfl ?_
  refine sg_rVi (M' := mX7_daysToShame) ([.int (nI p), .int m]) dX9_shamed_29 lX9_351 vX7_daysToShame (tr_L (rfl)) (by decide) rfl hS (r_daysToShame W F.2 (by omega) hp) rfl (Nat.le_of_ble_eq_true rfl) (Nat.zero_le _) (Nat.zero_le _) (fun g2 F2 => ?_)
  refine go_ireturn dX9_shamed_32 rfl rfl (Nat.zero_le _) (Nat.zero_le _) ?_
  exact ⟨⟨rfl, rfl⟩, F6c (F.1.tr F2)⟩
def vHas (C : Cy) (T : Tn) (x n : Int32) : An := nd (okX (cP C) x) 1 (nd (0 ≤ n ∧ n ≤ 100) 2 (0, btF (fun t => tO (dnT C (t0 T) n.toNatClampNeg) t = x) (cN C)))
theorem k_has {l : Launch} {d c fs fr : Nat} {z x n : Int32} {C : Cy} {T : Tn} {h : Hp} (hl : l.stackTraces = false) (W : WC C) (K : KB h c fs fr z C T) (hD9 : tD T ≤ 9999) : Qc l (d + 8) mX9_has [.ref 0, .int x, .int n] h (vHas C T x n) nNSE nIAE := by
  obtain ⟨hbc, H, hv⟩ := K
  obtain ⟨hc, -, hS⟩ := H.hc
  have hpe := H.1.1.2.2.2.2.2.2.1
  have hD9' : tD (sX z T) ≤ 9999 := hD9
  refine run_lv [some (.ref 0), some (.int x), some (.int n)] (go := ?_)
  unfold vHas
  refine go_aloadn dX9_has_0 rfl ?_
  refine go_iloadn dX9_has_1 rfl ?_
  refine sg_ndV (M' := mX9_needPerson) ([.int x]) dX9_has_2 lX9_165 vX9_needPerson (wo_L rfl) (by decide) rfl hS (r_needPerson hl hS hc hbc hpe).1 (r_needPerson hl hS hc hbc hpe).2 (Or.inl ⟨rfl, rfl⟩) Fq.rf (by decide) rfl rfl (Nat.le_of_ble_eq_true rfl) (fun k2 => ?_)
  refine go_iloadn dX9_has_5 rfl ?_
  refine go_iconst (v := 0) dX9_has_6 rfl ?_
  refine go_bipush (v := 100) dX9_has_7 rfl ?_
  refine sg_ndS (M' := mX9_needWithin) ([.int n, .int 0, .int 100]) dX9_has_9 lX9_244 sX9_needWithin hS (r_needWithin hl hS).1 (r_needWithin hl hS).2 (Or.inr ⟨rfl, rfl⟩) Fq.rf (by decide) rfl rfl (Nat.le_of_ble_eq_true rfl) (fun k9 => ?_)
  obtain ⟨j, -, hj, rfl⟩ := rg_nI (a := 0) (b := 100) rfl rfl (by decide) (by decide) k9
  rw [cl_nI (show j < 2 ^ 31 by omega)]
  refine go_aloadn dX9_has_12 rfl ?_
  refine sg_getR dX9_has_13 fX9_71 rfl (wo_L rfl) hS (wo_r14 hS rfl) ?_
  refine go_aloadn dX9_has_16 rfl ?_
  refine sg_getR dX9_has_17 fX9_41 rfl (wo_L rfl) hS (wo_r7 hS rfl) ?_
  refine go_iloadn dX9_has_20 rfl ?_
  refine sg_rVi (M' := mX7_behind) ([.ref 30, .int (nI j)]) dX9_has_21 lX9_248 vX7_behind (tr_L (rfl)) (by decide) rfl hS (r_behind W H (by omega)) rfl (Nat.le_of_ble_eq_true rfl) (Nat.zero_le _) (Nat.zero_le _) (fun g F => ?_)
  have hS := F.2.hc.2.2
  refine go_iloadn dX9_has_24 rfl ?_
  refine sg_cVi (M' := mX6_ownsBits) ([.int x]) dX9_has_25 lX9_354 vX6_ownsBits (tw_L at56) (by decide) rfl hS (r_ownsBits F.2.1.1) rfl (Nat.le_of_ble_eq_true rfl) (Nat.zero_le _) (Nat.zero_le _) ?_
  refine go_ireturn dX9_has_28 rfl rfl (Nat.zero_le _) (Nat.zero_le _) ?_
  exact ⟨⟨rfl, congrArg (fun z => some (Value.int z)) (ow_TV F.2)⟩, F6c F.1⟩
def vTakes (C : Cy) (T : Tn) (x y : Int32) : An := nd (okX (cP C) x) 1 (nd (okX (cP C) y) 1 (0, btF (fun t => tB T t = x) (cN C) &&& btF (fun t => tO T t = y) (cN C)))
theorem k_takes {l : Launch} {d c fs fr : Nat} {z x y : Int32} {C : Cy} {T : Tn} {h : Hp} (hl : l.stackTraces = false) (K : KB h c fs fr z C T) : Qc l (d + 7) mX9_takes [.ref 0, .int x, .int y] h (vTakes C T x y) nNSE nIAE := by
  obtain ⟨hbc, H, hv⟩ := K
  obtain ⟨hc, -, hS⟩ := H.hc
  have hpe := H.1.1.2.2.2.2.2.2.1
  refine run_lv [some (.ref 0), some (.int x), some (.int y)] (go := ?_)
  unfold vTakes
  refine go_aloadn dX9_takes_0 rfl ?_
  refine go_iloadn dX9_takes_1 rfl ?_
  refine sg_ndV (M' := mX9_needPerson) ([.int x]) dX9_takes_2 lX9_165 vX9_needPerson (wo_L rfl) (by decide) rfl hS (r_needPerson hl hS hc hbc hpe).1 (r_needPerson hl hS hc hbc hpe).2 (Or.inl ⟨rfl, rfl⟩) Fq.rf (by decide) rfl rfl (Nat.le_of_ble_eq_true rfl) (fun k2 => ?_)
  refine go_aloadn dX9_takes_5 rfl ?_
  refine go_iloadn dX9_takes_6 rfl ?_
  refine sg_ndV (M' := mX9_needPerson) ([.int y]) dX9_takes_7 lX9_165 vX9_needPerson (wo_L rfl) (by decide) rfl hS (r_needPerson hl hS hc hbc hpe).1 (r_needPerson hl hS hc hbc hpe).2 (Or.inl ⟨rfl, rfl⟩) Fq.rf (by decide) rfl rfl (Nat.le_of_ble_eq_true rfl) (fun k7 => ?_)
  refine go_aloadn dX9_takes_10 rfl ?_
  refine sg_getR dX9_takes_11 fX9_41 rfl (wo_L rfl) hS (wo_r7 hS rfl) ?_
  refine go_iloadn dX9_takes_14 rfl ?_
  refine sg_cVi (M' := mX6_wearsBits) ([.int x]) dX9_takes_15 lX9_180 vX6_wearsBits (tw_L (at30)) (by decide) rfl hS (r_wearsBits H.1.1) rfl (Nat.le_of_ble_eq_true rfl) (Nat.zero_le _) (Nat.zero_le _) ?_
  refine go_aloadn dX9_takes_18 rfl ?_
  refine sg_getR dX9_takes_19 fX9_41 rfl (wo_L rfl) hS (wo_r7 hS rfl) ?_
  refine go_iloadn dX9_takes_22 rfl ?_
  refine sg_cVi (M' := mX6_ownsBits) ([.int y]) dX9_takes_23 lX9_354 vX6_ownsBits (tw_L (at30)) (by decide) rfl hS (r_ownsBits H.1.1) rfl (Nat.le_of_ble_eq_true rfl) (Nat.zero_le _) (Nat.zero_le _) ?_
  refine go_iand dX9_takes_26 ?_
  refine go_ireturn dX9_takes_27 rfl rfl (Nat.zero_le _) (Nat.zero_le _) ?_
  exact ⟨⟨rfl, congrArg (fun z => some (Value.int z)) (by rw [we_TV H, ow_TV H]; rfl)⟩, Fq.rf⟩
def vQuiet (C : Cy) (T : Tn) (n : Int32) : An := nd (0 ≤ n ∧ n ≤ 100) 1 (0, ((1 <<< (nI (cN C) &&& 31)) - 1) &&& (nwT C (t0 T) n.toNatClampNeg ^^^ (-1)))
theorem k_quiet {l : Launch} {d c fs fr : Nat} {z n : Int32} {C : Cy} {T : Tn} {h : Hp} (hl : l.stackTraces = false) (W : WC C) (K : KB h c fs fr z C T) (hD9 : tD T ≤ 9999) : Qc l (d + 7) mX9_quiet [.ref 0, .int n] h (vQuiet C T n) nIAE nIAE := by
  obtain ⟨hbc, H, hv⟩ := K
  obtain ⟨hc, -, hS⟩ := H.hc
  have hD9' : tD (t0 (sX z T)) ≤ 9999 := hD9
  refine run_lv [some (.ref 0), some (.int n)] (go := ?_)
  unfold vQuiet
  refine go_iloadn dX9_quiet_0 rfl ?_
  refine go_iconst (v := 0) dX9_quiet_1 rfl ?_
  refine go_bipush (v := 100) dX9_quiet_2 rfl ?_
  refine sg_ndS (M' := mX9_needWithin) ([.int n, .int 0, .int 100]) dX9_quiet_4 lX9_244 sX9_needWithin hS (r_needWithin hl hS).1 (r_needWithin hl hS).2 (Or.inl ⟨rfl, rfl⟩) Fq.rf (by decide) rfl rfl (Nat.le_of_ble_eq_true rfl) (fun k4 => ?_)
  obtain ⟨j, -, hj, rfl⟩ := rg_nI (a := 0) (b := 100) rfl rfl (by decide) (by decide) k4
  rw [cl_nI (show j < 2 ^ 31 by omega)]
  refine go_aloadn dX9_quiet_7 rfl ?_
  refine sg_getR dX9_quiet_8 fX9_71 rfl (wo_L rfl) hS (wo_r14 hS rfl) ?_
  refine go_aloadn dX9_quiet_11 rfl ?_
  refine sg_getR dX9_quiet_12 fX9_41 rfl (wo_L rfl) hS (wo_r7 hS rfl) ?_
  refine sg_rV0 (M' := mX7_start) ([.ref 30]) dX9_quiet_15 lX9_252 vX7_start (tr_L (rfl)) (by decide) rfl hS (r_start H) rfl (Nat.le_of_ble_eq_true rfl) (Nat.zero_le _) (Nat.zero_le _) (fun g F => ?_)
  have hS := F.2.hc.2.2
  refine go_aloadn dX9_quiet_18 rfl ?_
  refine sg_getR dX9_quiet_19 fX9_71 rfl (wo_L rfl) hS (wo_r14 hS rfl) ?_
  refine go_iloadn dX9_quiet_22 rfl ?_
  refine sg_rVi (M' := mX7_neverWorn) ([.int (nI j)]) dX9_quiet_23 lX9_357 vX7_neverWorn (tr_L (rfl)) (by decide) rfl hS (r_neverWorn W F.2 (by omega)) rfl (Nat.le_of_ble_eq_true rfl) (Nat.zero_le _) (Nat.zero_le _) (fun g2 F2 => ?_)
  refine go_ireturn dX9_quiet_26 rfl rfl (Nat.zero_le _) (Nat.zero_le _) ?_
  exact ⟨⟨rfl, rfl⟩, F6c (F.1.tr F2)⟩
def cvF (C : Cy) (T : Tn) (a q p : Nat) (R : Nat → Int32) (w : Nat) : Int32 := if w = 0 then nI (cL C) else if w = 1 then nI (cP C) else if w = 2 then nI (cN C) else if w = 3 then nI (cM C) else if w = 4 then nI (tD T) else if w = 5 then woT C T else if w = 6 then rgT C T (cP C) else if w = 7 then smF (tH T) (cP C) else if w = 8 then nI a else if w = 9 then nI q else if w = 10 then nI p else R (w - 11)
def vCount (C : Cy) (T : Tn) (a q p : Nat) (R : Nat → Int32) (w : Int32) : An := nd (0 ≤ w ∧ w ≤ 13) 1 (0, cvF C T a q p R w.toNatClampNeg)
theorem cvF_d {C : Cy} {T : Tn} {a q p : Nat} {R : Nat → Int32} {w : Nat} (h : 11 ≤ w) : cvF C T a q p R w = R (w - 11) := by
  unfold cvF
  rw [if_neg (by omega), if_neg (by omega), if_neg (by omega), if_neg (by omega), if_neg (by omega), if_neg (by omega), if_neg (by omega), if_neg (by omega), if_neg (by omega), if_neg (by omega), if_neg (by omega)]
theorem k_count {l : Launch} {d c fs fr a q p : Nat} {R : Nat → Int32} {z w : Int32} {C : Cy} {T : Tn} {h : Hp} (hl : l.stackTraces = false) (W : WC C) (K : KB h c fs fr z C T) (ha : hI h 42 2 = nI a) (hq : hI h 44 0 = nI q) (hp : hI h 0 1 = nI p) (hs : ∀ i, i < 3 → hI h 2 i = R i) : Qc l (d + 7) mX9_count [.ref 0, .int w] h (vCount C T a q p R w) nNSE nIAE := by
  obtain ⟨hbc, H, hv⟩ := K
  obtain ⟨hc, -, hS⟩ := H.hc
  have hD := H.1.2.2.2.2.1
  refine run_lv [some (.ref 0), some (.int w)] (go := ?_)
  unfold vCount
  refine go_iloadn dX9_count_0 rfl ?_
  refine go_bipush (v := 13) dX9_count_1 rfl ?_
  refine sg_ndS (M' := mX9_needWhat) ([.int w, .int 13]) dX9_count_3 lX9_131 sX9_needWhat hS (r_needWhat hl hS).1 (r_needWhat hl hS).2 (Or.inl ⟨rfl, rfl⟩) Fq.rf (by decide) rfl rfl (Nat.le_of_ble_eq_true rfl) (fun k3 => ?_)
  obtain ⟨j, -, hj, rfl⟩ := rg_nI (a := 0) (b := 13) rfl rfl (by decide) (by decide) k3
  rw [cl_nI (show j < 2 ^ 31 by omega)]
  refine go_iloadn dX9_count_6 rfl ?_
  refine go_tab 11 0 153 [64, 72, 80, 88, 96, 104, 112, 124, 132, 140, 148] dX9_count_7 rfl rfl rfl rfl rfl (by decide) (fun c7 => ?_) (fun i hi c7 => ?_)
  · have e : 11 ≤ j := by (rcases Nat.lt_or_ge j 11 with q | q; (exact absurd (by rw [Nat.zero_add]) (c7 j q)); exact q)
    refine go_aloadn dX9_count_153 rfl ?_
    refine sg_getR dX9_count_154 fX9_17 rfl (wo_L rfl) hS (wo_r3 hS rfl) ?_
    refine go_iloadn dX9_count_157 rfl ?_
    refine go_bipush (v := 11) dX9_count_158 rfl ?_
    refine go_isub dX9_count_160 ?_
    rw [show nI j - 11 = nI (j - 11) from pk_sub (b := 11) e]
    refine sg_ialdN (i := j - 11) dX9_count_161 (wo_3 rfl) hS (by simp only [lit_nI, nI_add, pk_mul, Nat.add_assoc, Nat.zero_add, Nat.add_zero]) (by omega) (hs _ (by omega)) ?_
    refine go_ireturn dX9_count_162 rfl rfl (Nat.zero_le _) (Nat.zero_le _) ?_
    exact ⟨⟨rfl, congrArg (fun z => some (Value.int z)) (cvF_d e).symm⟩, Fq.rf⟩
  · match i, hi, c7 with
    | 0, _, c7 =>
      have e := (nI_eq (by omega) (by omega)).mp c7
      subst e
      refine go_aloadn dX9_count_64 rfl ?_
      refine sg_getR dX9_count_65 fX9_31 rfl (wo_L rfl) hS hbc ?_
      refine sg_getI dX9_count_68 fX9_135 rfl (ct_L hc) hS ?_
      rw [H.2.1.1.1]
      refine go_ireturn dX9_count_71 rfl rfl (Nat.zero_le _) (Nat.zero_le _) ?_
      exact ⟨⟨rfl, rfl⟩, Fq.rf⟩
    | 1, _, c7 =>
      have e := (nI_eq (by omega) (by omega)).mp c7
      subst e
      refine go_aloadn dX9_count_72 rfl ?_
      refine sg_getR dX9_count_73 fX9_31 rfl (wo_L rfl) hS hbc ?_
      refine sg_getI dX9_count_76 fX9_138 rfl (ct_L hc) hS ?_
      rw [H.1.1.2.2.2.2.2.2.1]
      refine go_ireturn dX9_count_79 rfl rfl (Nat.zero_le _) (Nat.zero_le _) ?_
      exact ⟨⟨rfl, rfl⟩, Fq.rf⟩
    | 2, _, c7 =>
      have e := (nI_eq (by omega) (by omega)).mp c7
      subst e
      refine go_aloadn dX9_count_80 rfl ?_
      refine sg_getR dX9_count_81 fX9_31 rfl (wo_L rfl) hS hbc ?_
      refine sg_getI dX9_count_84 fX9_141 rfl (ct_L hc) hS ?_
      rw [H.1.1.2.2.2.2.1]
      refine go_ireturn dX9_count_87 rfl rfl (Nat.zero_le _) (Nat.zero_le _) ?_
      exact ⟨⟨rfl, rfl⟩, Fq.rf⟩
    | 3, _, c7 =>
      have e := (nI_eq (by omega) (by omega)).mp c7
      subst e
      refine go_aloadn dX9_count_88 rfl ?_
      refine sg_getR dX9_count_89 fX9_31 rfl (wo_L rfl) hS hbc ?_
      refine sg_getI dX9_count_92 fX9_144 rfl (ct_L hc) hS ?_
      rw [H.2.1.1.2]
      refine go_ireturn dX9_count_95 rfl rfl (Nat.zero_le _) (Nat.zero_le _) ?_
      exact ⟨⟨rfl, rfl⟩, Fq.rf⟩
    | 4, _, c7 =>
      have e := (nI_eq (by omega) (by omega)).mp c7
      subst e
      refine go_aloadn dX9_count_96 rfl ?_
      refine sg_getR dX9_count_97 fX9_41 rfl (wo_L rfl) hS (wo_r7 hS rfl) ?_
      refine sg_getI dX9_count_100 fX9_147 rfl (tw_L (at30)) hS ?_
      rw [hD]
      refine go_ireturn dX9_count_103 rfl rfl (Nat.zero_le _) (Nat.zero_le _) ?_
      exact ⟨⟨rfl, rfl⟩, Fq.rf⟩
    | 5, _, c7 =>
      have e := (nI_eq (by omega) (by omega)).mp c7
      subst e
      refine go_aloadn dX9_count_104 rfl ?_
      refine sg_getR dX9_count_105 fX9_41 rfl (wo_L rfl) hS (wo_r7 hS rfl) ?_
      refine sg_cVi (M' := mX6_wornBits) ([]) dX9_count_108 lX9_150 vX6_wornBits (tw_L (at30)) (by decide) rfl hS (r_wornBits H.1.1) rfl (Nat.le_of_ble_eq_true rfl) (Nat.zero_le _) (Nat.zero_le _) ?_
      rw [wo_TV H]
      refine go_ireturn dX9_count_111 rfl rfl (Nat.zero_le _) (Nat.zero_le _) ?_
      exact ⟨⟨rfl, rfl⟩, Fq.rf⟩
    | 6, _, c7 =>
      have e := (nI_eq (by omega) (by omega)).mp c7
      subst e
      refine go_aloadn dX9_count_112 rfl ?_
      refine sg_getR dX9_count_113 fX9_85 rfl (wo_L rfl) hS (wo_r16 hS rfl) ?_
      refine go_aloadn dX9_count_116 rfl ?_
      refine sg_getR dX9_count_117 fX9_41 rfl (wo_L rfl) hS (wo_r7 hS rfl) ?_
      refine sg_rVi (M' := mX5_rings) ([.ref 30]) dX9_count_120 lX9_154 vX5_rings (ti_L (rfl)) (by decide) rfl hS (r_rings W H) rfl (Nat.le_of_ble_eq_true rfl) (Nat.zero_le _) (Nat.zero_le _) (fun g F => ?_)
      refine go_ireturn dX9_count_123 rfl rfl (Nat.zero_le _) (Nat.zero_le _) ?_
      exact ⟨⟨rfl, rfl⟩, F8c F⟩
    | 7, _, c7 =>
      have e := (nI_eq (by omega) (by omega)).mp c7
      subst e
      refine go_aloadn dX9_count_124 rfl ?_
      refine sg_getR dX9_count_125 fX9_41 rfl (wo_L rfl) hS (wo_r7 hS rfl) ?_
      refine sg_cVi (M' := mX6_shameOfAll) ([]) dX9_count_128 lX9_158 vX6_shameOfAll (tw_L (at30)) (by decide) rfl hS (r_shameOfAll H.1.1) rfl (Nat.le_of_ble_eq_true rfl) (Nat.zero_le _) (Nat.zero_le _) ?_
      refine go_ireturn dX9_count_131 rfl rfl (Nat.zero_le _) (Nat.zero_le _) ?_
      exact ⟨⟨rfl, congrArg (fun z => some (Value.int z)) (smF_cong (fun t ht => (H.2.2.2.1 t ht).1))⟩, Fq.rf⟩
    | 8, _, c7 =>
      have e := (nI_eq (by omega) (by omega)).mp c7
      subst e
      refine go_aloadn dX9_count_132 rfl ?_
      refine sg_getR dX9_count_133 fX9_48 rfl (wo_L rfl) hS (wo_r8 hS rfl) ?_
      refine sg_getI dX9_count_136 fX9_161 rfl (ac_L (at42)) hS ?_
      rw [ha]
      refine go_ireturn dX9_count_139 rfl rfl (Nat.zero_le _) (Nat.zero_le _) ?_
      exact ⟨⟨rfl, rfl⟩, Fq.rf⟩
    | 9, _, c7 =>
      have e := (nI_eq (by omega) (by omega)).mp c7
      subst e
      refine go_aloadn dX9_count_140 rfl ?_
      refine sg_getR dX9_count_141 fX9_55 rfl (wo_L rfl) hS (wo_r9 hS rfl) ?_
      refine sg_getI dX9_count_144 fX9_164 rfl (no_L (at44)) hS ?_
      rw [hq]
      refine go_ireturn dX9_count_147 rfl rfl (Nat.zero_le _) (Nat.zero_le _) ?_
      exact ⟨⟨rfl, rfl⟩, Fq.rf⟩
    | 10, _, c7 =>
      have e := (nI_eq (by omega) (by omega)).mp c7
      subst e
      refine go_aloadn dX9_count_148 rfl ?_
      refine sg_getI dX9_count_149 fX9_93 rfl (wo_L rfl) hS ?_
      rw [hp]
      refine go_ireturn dX9_count_152 rfl rfl (Nat.zero_le _) (Nat.zero_le _) ?_
      exact ⟨⟨rfl, rfl⟩, Fq.rf⟩
    | (i + 11), hi, _ => exact absurd hi (by omega)
