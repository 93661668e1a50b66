/-! shame of a day -/
abbrev usR (x k : Int32) : Int32 := (x.toUInt32 >>> (k.toUInt32 &&& Int32.toUInt32 31)).toInt32
def bc1 (x : Int32) : Int32 := x - (usR x 1 &&& 1431655765)
def bc2 (i : Int32) : Int32 := (i &&& 858993459) + (usR i 2 &&& 858993459)
def bc3 (i : Int32) : Int32 := (i + usR i 4) &&& 252645135
def bc4 (i : Int32) : Int32 := i + usR i 8
def bc5 (i : Int32) : Int32 := i + usR i 16
/-- how many bits are set, as the library counts them -/
def bcF (x : Int32) : Int32 := bc5 (bc4 (bc3 (bc2 (bc1 x)))) &&& 63
theorem r_bitCount {l : Launch} {d : Nat} {h : Hp} {x : Int32} : Ex l (d + 1) mJ6_bitCount_0f7a4 [.int x] h (some (.int (bcF x))) h := by
  refine run_lv [some (.int x)] (go := ?_)
  refine go_iloadn dJ6_bitCount_0f7a4_0 rfl ?_
  refine go_iloadn dJ6_bitCount_0f7a4_1 rfl ?_
  refine go_iconst (v := 1) dJ6_bitCount_0f7a4_2 rfl ?_
  refine go_iushr dJ6_bitCount_0f7a4_3 ?_
  refine go_ldcw dJ6_bitCount_0f7a4_4 kJ6_265 ?_
  refine go_iand dJ6_bitCount_0f7a4_7 ?_
  refine go_isub dJ6_bitCount_0f7a4_8 ?_
  refine go_ist0 dJ6_bitCount_0f7a4_9 ?_
  refine go_iloadn dJ6_bitCount_0f7a4_10 rfl ?_
  refine go_ldcw dJ6_bitCount_0f7a4_11 kJ6_266 ?_
  refine go_iand dJ6_bitCount_0f7a4_14 ?_
  refine go_iloadn dJ6_bitCount_0f7a4_15 rfl ?_
  refine go_iconst (v := 2) dJ6_bitCount_0f7a4_16 rfl ?_
  refine go_iushr dJ6_bitCount_0f7a4_17 ?_
  refine go_ldcw dJ6_bitCount_0f7a4_18 kJ6_266 ?_
  refine go_iand dJ6_bitCount_0f7a4_21 ?_
  refine go_iadd dJ6_bitCount_0f7a4_22 ?_
  refine go_ist0 dJ6_bitCount_0f7a4_23 ?_
  refine go_iloadn dJ6_bitCount_0f7a4_24 rfl ?_
  refine go_iloadn dJ6_bitCount_0f7a4_25 rfl ?_
  refine go_iconst (v := 4) dJ6_bitCount_0f7a4_26 rfl ?_
  refine go_iushr dJ6_bitCount_0f7a4_27 ?_
  refine go_iadd dJ6_bitCount_0f7a4_28 ?_
  refine go_ldcw dJ6_bitCount_0f7a4_29 kJ6_267 ?_
  refine go_iand dJ6_bitCount_0f7a4_32 ?_
  refine go_ist0 dJ6_bitCount_0f7a4_33 ?_
  refine go_iloadn dJ6_bitCount_0f7a4_34 rfl ?_
  refine go_iloadn dJ6_bitCount_0f7a4_35 rfl ?_
  refine go_bipush (v := 8) dJ6_bitCount_0f7a4_36 rfl ?_
  refine go_iushr dJ6_bitCount_0f7a4_38 ?_
  refine go_iadd dJ6_bitCount_0f7a4_39 ?_
  refine go_ist0 dJ6_bitCount_0f7a4_40 ?_
  refine go_iloadn dJ6_bitCount_0f7a4_41 rfl ?_
  refine go_iloadn dJ6_bitCount_0f7a4_42 rfl ?_
  refine go_bipush (v := 16) dJ6_bitCount_0f7a4_43 rfl ?_
  refine go_iushr dJ6_bitCount_0f7a4_45 ?_
  refine go_iadd dJ6_bitCount_0f7a4_46 ?_
  refine go_ist0 dJ6_bitCount_0f7a4_47 ?_
  refine go_iloadn dJ6_bitCount_0f7a4_48 rfl ?_
  refine go_bipush (v := 63) dJ6_bitCount_0f7a4_49 rfl ?_
  refine go_iand dJ6_bitCount_0f7a4_51 ?_
  refine go_ireturn dJ6_bitCount_0f7a4_52 rfl rfl (Nat.zero_le _) (Nat.zero_le _) ?_
  exact ⟨rfl, rfl⟩
theorem uI_is_uF {h : Hp} {a k : Nat} {v : Int32} : uI h a k v = uF h a (upd (hI h a) k v) := by
  have e := uI_uF (h := h) (a := a) (k := k) (f := hI h a) (v := v)
  rw [uF_self] at e
  exact e
/-- the two rules of a city: where they lie in its code -/
def RU (h : Hp) (c fs ns fr nr : Nat) : Prop := (hI h (c + 10) 0 = nI fs ∧ hI h (c + 10) 1 = nI (fs + ns) ∧ fs + ns ≤ 700) ∧ hI h (c + 11) 0 = nI fr ∧ hI h (c + 11) 1 = nI (fr + nr) ∧ fr + nr ≤ 700
theorem hI_uF_nef {h : Hp} {a a' : Nat} {f : Nat → Int32} (q : a' ≠ a) : hI (uF h a f) a' = hI h a' := funext fun k => hI_uF_ne q
theorem told_iff {fs ns : Nat} (h : fs + ns ≤ 700) : (nI (fs + ns) ≤ nI fs) ↔ ns = 0 := by rw [nI_leI (by omega) (by omega)]; omega
theorem told_0 {fs ns : Nat} (h : fs + ns ≤ 700) (c : (if nI (fs + ns) ≤ nI fs then (0 : Int32) else 1) = 0) : ns = 0 := by
  rcases Nat.eq_zero_or_pos ns with q | q
  · exact q
  · rw [if_neg (fun z => by have := (told_iff h).mp z; omega)] at c
    exact absurd c (by decide)
theorem told_1 {fs ns : Nat} (h : fs + ns ≤ 700) (c : ¬ (if nI (fs + ns) ≤ nI fs then (0 : Int32) else 1) = 0) : ¬ ns = 0 := fun q => c (by rw [if_pos ((told_iff h).mpr q)])
/-- the values of SHAMES for the thing t, worn by w, at whom lk look -/
def svF (h : Hp) (b c t w : Nat) (lk : Int32) : Nat → Int32 :=
  upd (upd (upd (upd (upd (upd (upd (hI h (b + 10)) 0 (hI h (b + 4) t)) 1 (hI h (c + 5) t)) 2 (hI h (b + 7) t)) 3 (bcF lk)) 4 (hI h (b + 1) w)) 5 (lk >>> (hI h (b + 5) t &&& 31) &&& 1)) 6 (hI h b 1)
abbrev keptF (x : Int32) : Int32 := if 0 < (if x < 20 then x else 20) then (if x < 20 then x else 20) else 0
def sbF (h : Hp) (b c fs ns t w : Nat) (lk : Int32) : Int32 := keptF (if ns = 0 then hI h (b + 4) t + bcF lk - hI h (b + 1) w else ruF (hI h (c + 9)) (svF h b c t w lk) (hI h (b + 11)) fs ns)
def sbH (h : Hp) (b c fs ns t w : Nat) (lk : Int32) : Hp := if ns = 0 then h else uF (uF h (b + 10) (svF h b c t w lk)) (b + 11) (rsF (hI h (c + 9)) (svF h b c t w lk) fs (hI h (b + 11)) ns).1
theorem r_shameBy {l : Launch} {d b c N P fs ns fr nr t w : Nat} {h : Hp} {lk : Int32} (H : TC h b c N P) (U : RU h c fs ns fr nr) (ht : t < 10) (hw : w < 8) (hwt : hI h (b + 6) t = nI w) :
    Ex l (d + 3) mX6_shameBy [.ref b, .int (nI t), .int lk] h (some (.int (sbF h b c fs ns t w lk))) (sbH h b c fs ns t w lk) := by
  obtain ⟨hS, hb, hc, hbc, -⟩ := id H
  obtain ⟨⟨u0, u1, u2⟩, -⟩ := U
  have e0 : (nI t).toNatClampNeg = t := cl_nI (by omega)
  have e1 : (nI w).toNatClampNeg = w := cl_nI (by omega)
  have hT : vp_in (nI t) 10 := vp_in_nI ht (by decide)
  have hV : vp_in (nI w) 8 := vp_in_nI hw (by decide)
  have x5 : c + 5 ≠ b + 10 := tn_ne hb hc (by omega) (by omega)
  have x9 : c + 9 ≠ b + 10 := tn_ne hb hc (by omega) (by omega)
  have x10 : c + 10 ≠ b + 10 := tn_ne hb hc (by omega) (by omega)
  have xb : b ≠ b + 10 := by omega
  refine run_lv [some (.ref b), some (.int (nI t)), some (.int lk), none, none, none] (go := ?_)
  refine go_aloadn dX6_shameBy_0 rfl ?_
  refine sg_getR dX6_shameBy_1 fX6_27 rfl (tw_L hb) hS (tw_r8 hS hb) ?_
  refine go_iloadn dX6_shameBy_4 rfl ?_
  refine sg_iald dX6_shameBy_5 (tw_8 hb) hS (hT) ?_
  rw [e0, hwt]
  refine go_ist3 dX6_shameBy_6 rfl ?_
  refine go_iloadn dX6_shameBy_7 rfl ?_
  refine sg_cSi (M' := mJ6_bitCount_0f7a4) ([.int lk]) dX6_shameBy_8 lX6_129 sJ6_bitCount_0f7a4 hS (r_bitCount) rfl (Nat.le_of_ble_eq_true rfl) (Nat.zero_le _) (Nat.zero_le _) ?_
  refine go_ist4 dX6_shameBy_11 rfl ?_
  refine go_aloadn dX6_shameBy_13 rfl ?_
  refine sg_getR dX6_shameBy_14 fX6_21 rfl (tw_L hb) hS (tw_r6 hS hb) ?_
  refine go_iloadn dX6_shameBy_17 rfl ?_
  refine sg_iald dX6_shameBy_18 (tw_6 hb) hS (hT) ?_
  refine go_iload dX6_shameBy_19 rfl ?_
  refine go_iadd dX6_shameBy_21 ?_
  refine go_aloadn dX6_shameBy_22 rfl ?_
  refine sg_getR dX6_shameBy_23 fX6_9 rfl (tw_L hb) hS (tw_r3 hS hb) ?_
  refine go_iloadn dX6_shameBy_26 rfl ?_
  refine sg_iald dX6_shameBy_27 (tw_3 hb) hS (hV) ?_
  rw [e0, e1]
  refine go_isub dX6_shameBy_28 ?_
  refine go_ist5 dX6_shameBy_29 rfl ?_
  refine go_aloadn dX6_shameBy_31 rfl ?_
  refine sg_getR dX6_shameBy_32 fX6_47 rfl (tw_L hb) hS hbc ?_
  refine sg_getR dX6_shameBy_35 fX6_135 rfl (ct_L hc) hS (ct_r14 hS hc) ?_
  refine sg_cVi (M' := mX4_isTold) ([]) dX6_shameBy_38 lX6_139 vX4_isTold (ru_L (ct_sh hc)) (by decide) rfl hS (r_isTold hS (ct_sh hc)) rfl (Nat.le_of_ble_eq_true rfl) (Nat.zero_le _) (Nat.zero_le _) ?_
  rw [u0, u1]
  refine go_if_eq (tgt := 157) dX6_shameBy_41 (by decide) (fun c41 => ?_) (fun c41 => ?_)
  · refine go_iconst (v := 0) dX6_shameBy_157 rfl ?_
    refine go_bipush (v := 20) dX6_shameBy_158 rfl ?_
    refine go_iload dX6_shameBy_160 rfl ?_
    refine go_min dX6_shameBy_162 lX6_75 (Nat.le_of_ble_eq_true rfl) (by simp only [rmOf]; omega) (by simp only [rmOf]; omega) (Nat.zero_le _) (Nat.zero_le _) ?_
    refine go_max dX6_shameBy_165 lX6_114 (Nat.le_of_ble_eq_true rfl) (by simp only [rmOf]; omega) (by simp only [rmOf]; omega) (Nat.zero_le _) (Nat.zero_le _) ?_
    refine go_ireturn dX6_shameBy_168 rfl rfl (Nat.zero_le _) (Nat.zero_le _) ?_
    exact ⟨by first | (rw [sbF, if_pos (told_0 u2 c41)]; done) | (rw [sbF, if_neg (told_1 u2 c41), hI_uF_nef x9, hI_uF_eq, hI_uF_nef (show b + 11 ≠ b + 10 by omega)]), by first | (rw [sbH, if_pos (told_0 u2 c41)]; done) | (rw [sbH, if_neg (told_1 u2 c41), hI_uF_nef x9, hI_uF_eq, hI_uF_nef (show b + 11 ≠ b + 10 by omega)])⟩
  · refine go_aloadn dX6_shameBy_44 rfl ?_
    refine sg_getR dX6_shameBy_45 fX6_41 rfl (tw_L hb) hS (tw_r12 hS hb) ?_
    refine go_iconst (v := 0) dX6_shameBy_48 rfl ?_
    refine go_aloadn dX6_shameBy_49 rfl ?_
    refine sg_getR dX6_shameBy_50 fX6_21 rfl (tw_L hb) hS (tw_r6 hS hb) ?_
    refine go_iloadn dX6_shameBy_53 rfl ?_
    refine sg_iald dX6_shameBy_54 (tw_6 hb) hS (hT) ?_
    refine sg_iast dX6_shameBy_55 (tw_12 hb) hS (vp_in_nI (n := 0) (by decide) (by decide)) ?_
    refine go_aloadn dX6_shameBy_56 rfl ?_
    refine sg_getR dX6_shameBy_57 fX6_41 rfl (tw_L hb) hS (tw_r12 hS hb) ?_
    refine go_iconst (v := 1) dX6_shameBy_60 rfl ?_
    refine go_aloadn dX6_shameBy_61 rfl ?_
    refine sg_getR dX6_shameBy_62 fX6_47 rfl (tw_L hb) hS hbc ?_
    refine sg_getR dX6_shameBy_65 fX6_143 rfl (ct_L hc) hS (ct_r8 hS hc) ?_
    refine go_iloadn dX6_shameBy_68 rfl ?_
    refine sg_iald dX6_shameBy_69 (ct_8 hc) hS (hT) ?_
    refine sg_iast dX6_shameBy_70 (tw_12 hb) hS (vp_in_nI (n := 1) (by decide) (by decide)) ?_
    refine go_aloadn dX6_shameBy_71 rfl ?_
    refine sg_getR dX6_shameBy_72 fX6_41 rfl (tw_L hb) hS (tw_r12 hS hb) ?_
    refine go_iconst (v := 2) dX6_shameBy_75 rfl ?_
    refine go_aloadn dX6_shameBy_76 rfl ?_
    refine sg_getR dX6_shameBy_77 fX6_30 rfl (tw_L hb) hS (tw_r9 hS hb) ?_
    refine go_iloadn dX6_shameBy_80 rfl ?_
    refine sg_iald dX6_shameBy_81 (tw_9 hb) hS (hT) ?_
    refine sg_iast dX6_shameBy_82 (tw_12 hb) hS (vp_in_nI (n := 2) (by decide) (by decide)) ?_
    refine go_aloadn dX6_shameBy_83 rfl ?_
    refine sg_getR dX6_shameBy_84 fX6_41 rfl (tw_L hb) hS (tw_r12 hS hb) ?_
    refine go_iconst (v := 3) dX6_shameBy_87 rfl ?_
    refine go_iload dX6_shameBy_88 rfl ?_
    refine sg_iast dX6_shameBy_90 (tw_12 hb) hS (vp_in_nI (n := 3) (by decide) (by decide)) ?_
    refine go_aloadn dX6_shameBy_91 rfl ?_
    refine sg_getR dX6_shameBy_92 fX6_41 rfl (tw_L hb) hS (tw_r12 hS hb) ?_
    refine go_iconst (v := 4) dX6_shameBy_95 rfl ?_
    refine go_aloadn dX6_shameBy_96 rfl ?_
    refine sg_getR dX6_shameBy_97 fX6_9 rfl (tw_L hb) hS (tw_r3 hS hb) ?_
    refine go_iloadn dX6_shameBy_100 rfl ?_
    refine sg_iald dX6_shameBy_101 (tw_3 hb) hS (hV) ?_
    refine sg_iast dX6_shameBy_102 (tw_12 hb) hS (vp_in_nI (n := 4) (by decide) (by decide)) ?_
    refine go_aloadn dX6_shameBy_103 rfl ?_
    refine sg_getR dX6_shameBy_104 fX6_41 rfl (tw_L hb) hS (tw_r12 hS hb) ?_
    refine go_iconst (v := 5) dX6_shameBy_107 rfl ?_
    refine go_iloadn dX6_shameBy_108 rfl ?_
    refine go_aloadn dX6_shameBy_109 rfl ?_
    refine sg_getR dX6_shameBy_110 fX6_24 rfl (tw_L hb) hS (tw_r7 hS hb) ?_
    refine go_iloadn dX6_shameBy_113 rfl ?_
    refine sg_iald dX6_shameBy_114 (tw_7 hb) hS (hT) ?_
    refine go_ishr dX6_shameBy_115 ?_
    refine go_iconst (v := 1) dX6_shameBy_116 rfl ?_
    refine go_iand dX6_shameBy_117 ?_
    refine sg_iast dX6_shameBy_118 (tw_12 hb) hS (vp_in_nI (n := 5) (by decide) (by decide)) ?_
    refine go_aloadn dX6_shameBy_119 rfl ?_
    refine sg_getR dX6_shameBy_120 fX6_41 rfl (tw_L hb) hS (tw_r12 hS hb) ?_
    refine go_bipush (v := 6) dX6_shameBy_123 rfl ?_
    refine go_aloadn dX6_shameBy_125 rfl ?_
    refine sg_getI dX6_shameBy_126 fX6_51 rfl (tw_L hb) hS ?_
    refine sg_iast dX6_shameBy_129 (tw_12 hb) hS (vp_in_nI (n := 6) (by decide) (by decide)) ?_
    refine go_cong (h' := uF h (b + 10) (svF h b c t w lk)) ?_ rfl (by simp only [svF, uI_is_uF, uF_uF, hI_uF_eq, e0, e1, hI_uF_ne x5, hI_uF_ne xb, hI_uF_ne (show b + 4 ≠ b + 10 by omega), hI_uF_ne (show b + 7 ≠ b + 10 by omega), hI_uF_ne (show b + 1 ≠ b + 10 by omega), hI_uF_ne (show b + 5 ≠ b + 10 by omega)]; rfl)
    refine go_aloadn dX6_shameBy_130 rfl ?_
    refine sg_getR dX6_shameBy_131 fX6_47 rfl (tw_L hb) hS hbc ?_
    refine sg_getR dX6_shameBy_134 fX6_135 rfl (ct_L hc) hS (ct_r14 hS hc) ?_
    refine go_aloadn dX6_shameBy_137 rfl ?_
    refine sg_getR dX6_shameBy_138 fX6_47 rfl (tw_L hb) hS hbc ?_
    refine sg_getR dX6_shameBy_141 fX6_146 rfl (ct_L hc) hS (ct_r12 hS hc) ?_
    refine go_aloadn dX6_shameBy_144 rfl ?_
    refine sg_getR dX6_shameBy_145 fX6_41 rfl (tw_L hb) hS (tw_r12 hS hb) ?_
    refine go_aloadn dX6_shameBy_148 rfl ?_
    refine sg_getR dX6_shameBy_149 fX6_44 rfl (tw_L hb) hS (tw_r13 hS hb) ?_
    refine sg_cVi (M' := mX4_result) ([.ref (c + 9), .ref (b + 10), .ref (b + 11)]) dX6_shameBy_152 lX6_149 vX4_result (ru_L (ct_sh hc)) (by decide) rfl hS (r_result (fr := fs) (n := ns) hS (ct_sh hc) hb hc (by rw [hI_uF_ne x10]; exact u0) (by rw [hI_uF_ne x10]; exact u1) u2) rfl (Nat.le_of_ble_eq_true rfl) (Nat.zero_le _) (Nat.zero_le _) ?_
    refine go_ist5 dX6_shameBy_155 rfl ?_
    refine go_iconst (v := 0) dX6_shameBy_157 rfl ?_
    refine go_bipush (v := 20) dX6_shameBy_158 rfl ?_
    refine go_iload dX6_shameBy_160 rfl ?_
    refine go_min dX6_shameBy_162 lX6_75 (Nat.le_of_ble_eq_true rfl) (by simp only [rmOf]; omega) (by simp only [rmOf]; omega) (Nat.zero_le _) (Nat.zero_le _) ?_
    refine go_max dX6_shameBy_165 lX6_114 (Nat.le_of_ble_eq_true rfl) (by simp only [rmOf]; omega) (by simp only [rmOf]; omega) (Nat.zero_le _) (Nat.zero_le _) ?_
    refine go_ireturn dX6_shameBy_168 rfl rfl (Nat.zero_le _) (Nat.zero_le _) ?_
    exact ⟨by first | (rw [sbF, if_pos (told_0 u2 c41)]; done) | (rw [sbF, if_neg (told_1 u2 c41), hI_uF_nef x9, hI_uF_eq, hI_uF_nef (show b + 11 ≠ b + 10 by omega)]), by first | (rw [sbH, if_pos (told_0 u2 c41)]; done) | (rw [sbH, if_neg (told_1 u2 c41), hI_uF_nef x9, hI_uF_eq, hI_uF_nef (show b + 11 ≠ b + 10 by omega)])⟩
/-- the values of RETURNS for p -/
def rvF (h : Hp) (b p : Nat) : Nat → Int32 := upd (upd (upd (upd (hI h (b + 10)) 7 (hI h (b + 2) p)) 4 (hI h (b + 1) p)) 8 (hI h (b + 9) p)) 6 (hI h b 1)
def gbF (h : Hp) (b c fr nr p : Nat) : Int32 := if nr = 0 then (if hI h (b + 2) p < 40 then 0 else 1) else (if ruF (hI h (c + 9)) (rvF h b p) (hI h (b + 11)) fr nr ≤ 0 then 0 else 1)
def gbH (h : Hp) (b c fr nr p : Nat) : Hp := if nr = 0 then h else uF (uF h (b + 10) (rvF h b p)) (b + 11) (rsF (hI h (c + 9)) (rvF h b p) fr (hI h (b + 11)) nr).1
theorem r_givesBack {l : Launch} {d b c N P fs ns fr nr p : Nat} {h : Hp} (H : TC h b c N P) (U : RU h c fs ns fr nr) (hp : p < 8) :
    Ex l (d + 3) mX6_givesBack [.ref b, .int (nI p)] h (some (.int (gbF h b c fr nr p))) (gbH h b c fr nr p) := by
  obtain ⟨hS, hb, hc, hbc, -⟩ := id H
  obtain ⟨-, u0, u1, u2⟩ := U
  have e1 : (nI p).toNatClampNeg = p := cl_nI (by omega)
  have hV : vp_in (nI p) 8 := vp_in_nI hp (by decide)
  have x9 : c + 9 ≠ b + 10 := tn_ne hb hc (by omega) (by omega)
  have x11 : c + 11 ≠ b + 10 := tn_ne hb hc (by omega) (by omega)
  have xb : b ≠ b + 10 := by omega
  refine run_lv [some (.ref b), some (.int (nI p))] (go := ?_)
  refine go_aloadn dX6_givesBack_0 rfl ?_
  refine sg_getR dX6_givesBack_1 fX6_47 rfl (tw_L hb) hS hbc ?_
  refine sg_getR dX6_givesBack_4 fX6_153 rfl (ct_L hc) hS (ct_r15 hS hc) ?_
  refine sg_cVi (M' := mX4_isTold) ([]) dX6_givesBack_7 lX6_139 vX4_isTold (ru_L (ct_re hc)) (by decide) rfl hS (r_isTold hS (ct_re hc)) rfl (Nat.le_of_ble_eq_true rfl) (Nat.zero_le _) (Nat.zero_le _) ?_
  rw [u0, u1]
  refine go_if_ne (tgt := 30) dX6_givesBack_10 (by decide) (fun c10 => ?_) (fun c10 => ?_)
  · refine go_aloadn dX6_givesBack_30 rfl ?_
    refine sg_getR dX6_givesBack_31 fX6_41 rfl (tw_L hb) hS (tw_r12 hS hb) ?_
    refine go_bipush (v := 7) dX6_givesBack_34 rfl ?_
    refine go_aloadn dX6_givesBack_36 rfl ?_
    refine sg_getR dX6_givesBack_37 fX6_15 rfl (tw_L hb) hS (tw_r4 hS hb) ?_
    refine go_iloadn dX6_givesBack_40 rfl ?_
    refine sg_iald dX6_givesBack_41 (tw_4 hb) hS (hV) ?_
    refine sg_iast dX6_givesBack_42 (tw_12 hb) hS (vp_in_nI (n := 7) (by decide) (by decide)) ?_
    refine go_aloadn dX6_givesBack_43 rfl ?_
    refine sg_getR dX6_givesBack_44 fX6_41 rfl (tw_L hb) hS (tw_r12 hS hb) ?_
    refine go_iconst (v := 4) dX6_givesBack_47 rfl ?_
    refine go_aloadn dX6_givesBack_48 rfl ?_
    refine sg_getR dX6_givesBack_49 fX6_9 rfl (tw_L hb) hS (tw_r3 hS hb) ?_
    refine go_iloadn dX6_givesBack_52 rfl ?_
    refine sg_iald dX6_givesBack_53 (tw_3 hb) hS (hV) ?_
    refine sg_iast dX6_givesBack_54 (tw_12 hb) hS (vp_in_nI (n := 4) (by decide) (by decide)) ?_
    refine go_aloadn dX6_givesBack_55 rfl ?_
    refine sg_getR dX6_givesBack_56 fX6_41 rfl (tw_L hb) hS (tw_r12 hS hb) ?_
    refine go_bipush (v := 8) dX6_givesBack_59 rfl ?_
    refine go_aloadn dX6_givesBack_61 rfl ?_
    refine sg_getR dX6_givesBack_62 fX6_36 rfl (tw_L hb) hS (tw_r11 hS hb) ?_
    refine go_iloadn dX6_givesBack_65 rfl ?_
    refine sg_iald dX6_givesBack_66 (tw_11 hb) hS (hV) ?_
    refine sg_iast dX6_givesBack_67 (tw_12 hb) hS (vp_in_nI (n := 8) (by decide) (by decide)) ?_
    refine go_aloadn dX6_givesBack_68 rfl ?_
    refine sg_getR dX6_givesBack_69 fX6_41 rfl (tw_L hb) hS (tw_r12 hS hb) ?_
    refine go_bipush (v := 6) dX6_givesBack_72 rfl ?_
    refine go_aloadn dX6_givesBack_74 rfl ?_
    refine sg_getI dX6_givesBack_75 fX6_51 rfl (tw_L hb) hS ?_
    refine sg_iast dX6_givesBack_78 (tw_12 hb) hS (vp_in_nI (n := 6) (by decide) (by decide)) ?_
    refine go_cong (h' := uF h (b + 10) (rvF h b p)) ?_ rfl (by simp only [rvF, uI_is_uF, uF_uF, hI_uF_eq, e1, hI_uF_ne xb, hI_uF_ne (show b + 2 ≠ b + 10 by omega), hI_uF_ne (show b + 1 ≠ b + 10 by omega), hI_uF_ne (show b + 9 ≠ b + 10 by omega)]; rfl)
    refine go_aloadn dX6_givesBack_79 rfl ?_
    refine sg_getR dX6_givesBack_80 fX6_47 rfl (tw_L hb) hS hbc ?_
    refine sg_getR dX6_givesBack_83 fX6_153 rfl (ct_L hc) hS (ct_r15 hS hc) ?_
    refine go_aloadn dX6_givesBack_86 rfl ?_
    refine sg_getR dX6_givesBack_87 fX6_47 rfl (tw_L hb) hS hbc ?_
    refine sg_getR dX6_givesBack_90 fX6_146 rfl (ct_L hc) hS (ct_r12 hS hc) ?_
    refine go_aloadn dX6_givesBack_93 rfl ?_
    refine sg_getR dX6_givesBack_94 fX6_41 rfl (tw_L hb) hS (tw_r12 hS hb) ?_
    refine go_aloadn dX6_givesBack_97 rfl ?_
    refine sg_getR dX6_givesBack_98 fX6_44 rfl (tw_L hb) hS (tw_r13 hS hb) ?_
    refine sg_cVi (M' := mX4_result) ([.ref (c + 9), .ref (b + 10), .ref (b + 11)]) dX6_givesBack_101 lX6_149 vX4_result (ru_L (ct_re hc)) (by decide) rfl hS (r_result (fr := fr) (n := nr) hS (ct_re hc) hb hc (by rw [hI_uF_ne x11]; exact u0) (by rw [hI_uF_ne x11]; exact u1) u2) rfl (Nat.le_of_ble_eq_true rfl) (Nat.zero_le _) (Nat.zero_le _) ?_
    rw [hI_uF_nef x9, hI_uF_eq, hI_uF_nef (show b + 11 ≠ b + 10 by omega)]
    refine go_if_le (tgt := 111) dX6_givesBack_104 (by decide) (fun c104 => ?_) (fun c104 => ?_)
    · refine go_iconst (v := 0) dX6_givesBack_111 rfl ?_
      refine go_ireturn dX6_givesBack_112 rfl rfl (Nat.zero_le _) (Nat.zero_le _) ?_
      exact ⟨by rw [gbF, if_neg (told_1 u2 c10)]; simp [c104], by rw [gbH, if_neg (told_1 u2 c10)]⟩
    · refine go_iconst (v := 1) dX6_givesBack_107 rfl ?_
      refine go_goto (tgt := 112) dX6_givesBack_108 (by decide) ?_
      refine go_ireturn dX6_givesBack_112 rfl rfl (Nat.zero_le _) (Nat.zero_le _) ?_
      exact ⟨by rw [gbF, if_neg (told_1 u2 c10)]; simp [c104], by rw [gbH, if_neg (told_1 u2 c10)]⟩
  · refine go_aloadn dX6_givesBack_13 rfl ?_
    refine sg_getR dX6_givesBack_14 fX6_15 rfl (tw_L hb) hS (tw_r4 hS hb) ?_
    refine go_iloadn dX6_givesBack_17 rfl ?_
    refine sg_iald dX6_givesBack_18 (tw_4 hb) hS (hV) ?_
    rw [e1]
    refine go_bipush (v := 40) dX6_givesBack_19 rfl ?_
    refine go_icmp_lt (tgt := 28) dX6_givesBack_21 (by decide) (fun c21 => ?_) (fun c21 => ?_)
    · refine go_iconst (v := 0) dX6_givesBack_28 rfl ?_
      refine go_ireturn dX6_givesBack_29 rfl rfl (Nat.zero_le _) (Nat.zero_le _) ?_
      exact ⟨by rw [gbF, if_pos (told_0 u2 c10)]; simp [c21], by rw [gbH, if_pos (told_0 u2 c10)]⟩
    · refine go_iconst (v := 1) dX6_givesBack_24 rfl ?_
      refine go_goto (tgt := 29) dX6_givesBack_25 (by decide) ?_
      refine go_ireturn dX6_givesBack_29 rfl rfl (Nat.zero_le _) (Nat.zero_le _) ?_
      exact ⟨by rw [gbF, if_pos (told_0 u2 c10)]; simp [c21], by rw [gbH, if_pos (told_0 u2 c10)]⟩
