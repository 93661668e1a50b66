/-! Town: rows that are copied, packed, unpacked -/
theorem ac_X6 : inG (.methodLink RX6 81 arraycopyName) := inG_of 531 (by decide +kernel) rfl
theorem ac_X0 : inG (.methodLink RX0 24 arraycopyName) := inG_of 704 (by decide +kernel) rfl
theorem ac_X2 : inG (.methodLink RX2 29 arraycopyName) := inG_of 709 (by decide +kernel) rfl
theorem ac_sta : inG (.static arraycopyName) := inG_of 532 (by decide +kernel) rfl
theorem ac_nat : inG (.native arraycopyName) := inG_of 533 (by decide +kernel) rfl
theorem ac_ini : inG (.initialized "java/lang/System") := ⟨by decide +kernel, rfl⟩
def cpF (f g : Nat → Int32) (n : Nat) : Nat → Int32 := fun k => if k < n then f k else g k
theorem cpF_eq {f g : Nat → Int32} {n : Nat} : va_cpy f g 0 0 n = cpF f g n := by
  funext k
  unfold cpF
  split
  · next q => rw [pk_cpy_in (by omega) (by omega)]; congr 1; omega
  · next q => rw [pk_cpy_out (by omega)]
def cpH (g : Hp) (a b n : Nat) : Hp := uF g b (cpF (hI g a) (hI g b) n)
theorem r_copyRow {l : Launch} {d a b n : Nat} {h : Hp} (hS : St h) (ha : lay a = .inr (0, n)) (hb : lay b = .inr (0, n)) (hn : n < 2 ^ 31) : Ex l (d + 1) mX6_copyRow [.ref a, .ref b] h none (cpH h a b n) := by
  refine run_lv [some (.ref a), some (.ref b)] (go := ?_)
  refine go_aloadn dX6_copyRow_0 rfl ?_
  refine go_iconst (v := 0) dX6_copyRow_1 rfl ?_
  refine go_aloadn dX6_copyRow_2 rfl ?_
  refine go_iconst (v := 0) dX6_copyRow_3 rfl ?_
  refine go_aloadn dX6_copyRow_4 rfl ?_
  refine sg_alen (v := nI n) dX6_copyRow_5 ha hS rfl ?_
  refine go_aloadn dX6_copyRow_6 rfl ?_
  refine sg_alen (v := nI n) dX6_copyRow_7 hb hS rfl ?_
  refine go_min dX6_copyRow_8 lX6_75 (Nat.le_of_ble_eq_true rfl) (by simp only [rmOf]; omega) (by simp only [rmOf]; omega) (Nat.zero_le _) (Nat.zero_le _) ?_
  rw [ite_self]
  refine go_copy dX6_copyRow_11 ac_X6 ac_nat ac_sta ac_ini ha hb hS (by decide) (by decide) (nI_pos hn) (by rw [cl_nI hn]; exact Nat.le_of_eq (Nat.zero_add _)) (by rw [cl_nI hn]; exact Nat.le_of_eq (Nat.zero_add _)) (Nat.le_of_ble_eq_true rfl) (by simp only [rmOf]; omega) (by simp only [rmOf]; omega) ?_
  refine go_return dX6_copyRow_14 rfl (Nat.zero_le _) (Nat.zero_le _) ⟨rfl, ?_⟩
  rw [cl_nI hn]
  exact congrArg (uF h b) cpF_eq
def flH (g : Hp) (a n : Nat) (v : Int32) : Hp := uF g a (flF (hI g a) v n)
def rc0 (h : Hp) (b c : Nat) : Hp := uI (uI (uR h b 0 (some c)) b 1 0) b 2 0
/-- a town begins with its city -/
def bgH (h : Hp) (b c : Nat) : Hp := flH (cpH (cpH (cpH (cpH (flH (cpH (rc0 h b c) (c + 1) (b + 1) 8) (b + 2) 8 0) (c + 4) (b + 3) 48) (c + 6) (b + 4) 10) (c + 7) (b + 5) 10) (c + 8) (b + 6) 10) (b + 7) 10 0
theorem frefs_0 : ∀ q ∈ frefs, ¬ (q.1 = 30 ∧ q.2.1 = 0) ∧ ¬ (q.1 = 56 ∧ q.2.1 = 0) ∧ ¬ (q.1 = 0 ∧ (q.2.1 = 5 ∨ q.2.1 = 6)) ∧ ¬ (q.1 = 3 ∧ ¬ q.2.1 = 12) := by decide
theorem st_uR {h : Hp} {b c : Nat} (hS : St h) (hb : TownAt b) : St (uR h b 0 (some c)) := ⟨hS.1, fun q hq => by
  have z := frefs_0 q hq
  have : hR (uR h b 0 (some c)) q.1 q.2.1 = hR h q.1 q.2.1 := by
    simp only [hR, uR, up2]
    rw [if_neg]
    rcases hb with rfl | rfl
    · exact z.1
    · exact z.2.1
  rw [this]; exact hS.2 q hq⟩
theorem r_begin {l : Launch} {d b c : Nat} {h : Hp} (hS : St h) (hb : TownAt b) (hc : CityAt c) : Ex l (d + 2) mX6_begin [.ref b, .ref c] h none (bgH h b c) := by
  refine run_lv [some (.ref b), some (.ref c)] (go := ?_)
  refine go_aloadn dX6_begin_0 rfl ?_
  refine go_aloadn dX6_begin_1 rfl ?_
  refine sg_putR dX6_begin_2 fX6_47 rfl rfl (tw_L hb) hS ?_
  have hS : St (uR h b 0 (some c)) := st_uR hS hb
  refine go_aloadn dX6_begin_5 rfl ?_
  refine go_iconst (v := 0) dX6_begin_6 rfl ?_
  refine sg_putI dX6_begin_7 fX6_51 rfl rfl (tw_L hb) hS ?_
  refine go_aloadn dX6_begin_10 rfl ?_
  refine go_iconst (v := 0) dX6_begin_11 rfl ?_
  refine sg_putI dX6_begin_12 fX6_55 rfl rfl (tw_L hb) hS ?_
  refine go_aloadn dX6_begin_15 rfl ?_
  refine sg_getR dX6_begin_16 fX6_58 rfl (ct_L hc) hS (ct_r4 hS hc) ?_
  refine go_aloadn dX6_begin_19 rfl ?_
  refine sg_getR dX6_begin_20 fX6_9 rfl (tw_L hb) hS (tw_r3 hS hb) ?_
  refine sg_cS0 (M' := mX6_copyRow) ([.ref (c + 1), .ref (b + 1)]) dX6_begin_23 lX6_61 sX6_copyRow hS (r_copyRow hS (ct_4 hc) (tw_3 hb) (by decide)) rfl (Nat.le_of_ble_eq_true rfl) (Nat.zero_le _) (Nat.zero_le _) ?_
  refine go_aloadn dX6_begin_26 rfl ?_
  refine sg_getR dX6_begin_27 fX6_15 rfl (tw_L hb) hS (tw_r4 hS hb) ?_
  refine go_iconst (v := 0) dX6_begin_30 rfl ?_
  refine sg_cS0 (M' := mJ7_fill_53178) ([.ref (b + 2), .int 0]) dX6_begin_31 lX6_65 sJ7_fill_53178 hS (r_fill hS (tw_4 hb) (by decide)) rfl (Nat.le_of_ble_eq_true rfl) (Nat.zero_le _) (Nat.zero_le _) ?_
  refine go_aloadn dX6_begin_34 rfl ?_
  refine sg_getR dX6_begin_35 fX6_71 rfl (ct_L hc) hS (ct_r7 hS hc) ?_
  refine go_aloadn dX6_begin_38 rfl ?_
  refine sg_getR dX6_begin_39 fX6_18 rfl (tw_L hb) hS (tw_r5 hS hb) ?_
  refine sg_cS0 (M' := mX6_copyRow) ([.ref (c + 4), .ref (b + 3)]) dX6_begin_42 lX6_61 sX6_copyRow hS (r_copyRow hS (ct_7 hc) (tw_5 hb) (by decide)) rfl (Nat.le_of_ble_eq_true rfl) (Nat.zero_le _) (Nat.zero_le _) ?_
  refine go_aloadn dX6_begin_45 rfl ?_
  refine sg_getR dX6_begin_46 fX6_72 rfl (ct_L hc) hS (ct_r9 hS hc) ?_
  refine go_aloadn dX6_begin_49 rfl ?_
  refine sg_getR dX6_begin_50 fX6_21 rfl (tw_L hb) hS (tw_r6 hS hb) ?_
  refine sg_cS0 (M' := mX6_copyRow) ([.ref (c + 6), .ref (b + 4)]) dX6_begin_53 lX6_61 sX6_copyRow hS (r_copyRow hS (ct_9 hc) (tw_6 hb) (by decide)) rfl (Nat.le_of_ble_eq_true rfl) (Nat.zero_le _) (Nat.zero_le _) ?_
  refine go_aloadn dX6_begin_56 rfl ?_
  refine sg_getR dX6_begin_57 fX6_73 rfl (ct_L hc) hS (ct_r10 hS hc) ?_
  refine go_aloadn dX6_begin_60 rfl ?_
  refine sg_getR dX6_begin_61 fX6_24 rfl (tw_L hb) hS (tw_r7 hS hb) ?_
  refine sg_cS0 (M' := mX6_copyRow) ([.ref (c + 7), .ref (b + 5)]) dX6_begin_64 lX6_61 sX6_copyRow hS (r_copyRow hS (ct_10 hc) (tw_7 hb) (by decide)) rfl (Nat.le_of_ble_eq_true rfl) (Nat.zero_le _) (Nat.zero_le _) ?_
  refine go_aloadn dX6_begin_67 rfl ?_
  refine sg_getR dX6_begin_68 fX6_74 rfl (ct_L hc) hS (ct_r11 hS hc) ?_
  refine go_aloadn dX6_begin_71 rfl ?_
  refine sg_getR dX6_begin_72 fX6_27 rfl (tw_L hb) hS (tw_r8 hS hb) ?_
  refine sg_cS0 (M' := mX6_copyRow) ([.ref (c + 8), .ref (b + 6)]) dX6_begin_75 lX6_61 sX6_copyRow hS (r_copyRow hS (ct_11 hc) (tw_8 hb) (by decide)) rfl (Nat.le_of_ble_eq_true rfl) (Nat.zero_le _) (Nat.zero_le _) ?_
  refine go_aloadn dX6_begin_78 rfl ?_
  refine sg_getR dX6_begin_79 fX6_30 rfl (tw_L hb) hS (tw_r9 hS hb) ?_
  refine go_iconst (v := 0) dX6_begin_82 rfl ?_
  refine sg_cS0 (M' := mJ7_fill_53178) ([.ref (b + 7), .int 0]) dX6_begin_83 lX6_65 sJ7_fill_53178 hS (r_fill hS (tw_9 hb) (by decide)) rfl (Nat.le_of_ble_eq_true rfl) (Nat.zero_le _) (Nat.zero_le _) ?_
  refine go_return dX6_begin_86 rfl (Nat.zero_le _) (Nat.zero_le _) ?_
  exact ⟨rfl, rfl⟩
def rf0 (h : Hp) (b c a : Nat) : Hp := uI (uI (uR h b 0 (some c)) b 1 (hI h a 1)) b 2 0
/-- a town as another one is -/
def cfH (h : Hp) (b a c : Nat) : Hp := cpH (cpH (cpH (cpH (cpH (cpH (cpH (rf0 h b c a) (a + 1) (b + 1) 8) (a + 2) (b + 2) 8) (a + 3) (b + 3) 48) (a + 4) (b + 4) 10) (a + 5) (b + 5) 10) (a + 6) (b + 6) 10) (a + 7) (b + 7) 10
theorem r_copyFrom {l : Launch} {d b a c : Nat} {h : Hp} (hS : St h) (hb : TownAt b) (ha : TownAt a) (hc : CityAt c) (hac : hR h a 0 = some c) : Ex l (d + 2) mX6_copyFrom [.ref b, .ref a] h none (cfH h b a c) := by
  refine run_lv [some (.ref b), some (.ref a)] (go := ?_)
  refine go_aloadn dX6_copyFrom_0 rfl ?_
  refine go_aloadn dX6_copyFrom_1 rfl ?_
  refine sg_getR dX6_copyFrom_2 fX6_47 rfl (tw_L ha) hS hac ?_
  refine sg_putR dX6_copyFrom_5 fX6_47 rfl rfl (tw_L hb) hS ?_
  have hS : St (uR h b 0 (some c)) := st_uR hS hb
  refine go_aloadn dX6_copyFrom_8 rfl ?_
  refine go_aloadn dX6_copyFrom_9 rfl ?_
  refine sg_getI dX6_copyFrom_10 fX6_51 rfl (tw_L ha) hS ?_
  refine sg_putI dX6_copyFrom_13 fX6_51 rfl rfl (tw_L hb) hS ?_
  refine go_aloadn dX6_copyFrom_16 rfl ?_
  refine go_iconst (v := 0) dX6_copyFrom_17 rfl ?_
  refine sg_putI dX6_copyFrom_18 fX6_55 rfl rfl (tw_L hb) hS ?_
  refine go_aloadn dX6_copyFrom_21 rfl ?_
  refine sg_getR dX6_copyFrom_22 fX6_9 rfl (tw_L ha) hS (tw_r3 hS ha) ?_
  refine go_aloadn dX6_copyFrom_25 rfl ?_
  refine sg_getR dX6_copyFrom_26 fX6_9 rfl (tw_L hb) hS (tw_r3 hS hb) ?_
  refine sg_cS0 (M' := mX6_copyRow) ([.ref (a + 1), .ref (b + 1)]) dX6_copyFrom_29 lX6_61 sX6_copyRow hS (r_copyRow hS (tw_3 ha) (tw_3 hb) (by decide)) rfl (Nat.le_of_ble_eq_true rfl) (Nat.zero_le _) (Nat.zero_le _) ?_
  refine go_aloadn dX6_copyFrom_32 rfl ?_
  refine sg_getR dX6_copyFrom_33 fX6_15 rfl (tw_L ha) hS (tw_r4 hS ha) ?_
  refine go_aloadn dX6_copyFrom_36 rfl ?_
  refine sg_getR dX6_copyFrom_37 fX6_15 rfl (tw_L hb) hS (tw_r4 hS hb) ?_
  refine sg_cS0 (M' := mX6_copyRow) ([.ref (a + 2), .ref (b + 2)]) dX6_copyFrom_40 lX6_61 sX6_copyRow hS (r_copyRow hS (tw_4 ha) (tw_4 hb) (by decide)) rfl (Nat.le_of_ble_eq_true rfl) (Nat.zero_le _) (Nat.zero_le _) ?_
  refine go_aloadn dX6_copyFrom_43 rfl ?_
  refine sg_getR dX6_copyFrom_44 fX6_18 rfl (tw_L ha) hS (tw_r5 hS ha) ?_
  refine go_aloadn dX6_copyFrom_47 rfl ?_
  refine sg_getR dX6_copyFrom_48 fX6_18 rfl (tw_L hb) hS (tw_r5 hS hb) ?_
  refine sg_cS0 (M' := mX6_copyRow) ([.ref (a + 3), .ref (b + 3)]) dX6_copyFrom_51 lX6_61 sX6_copyRow hS (r_copyRow hS (tw_5 ha) (tw_5 hb) (by decide)) rfl (Nat.le_of_ble_eq_true rfl) (Nat.zero_le _) (Nat.zero_le _) ?_
  refine go_aloadn dX6_copyFrom_54 rfl ?_
  refine sg_getR dX6_copyFrom_55 fX6_21 rfl (tw_L ha) hS (tw_r6 hS ha) ?_
  refine go_aloadn dX6_copyFrom_58 rfl ?_
  refine sg_getR dX6_copyFrom_59 fX6_21 rfl (tw_L hb) hS (tw_r6 hS hb) ?_
  refine sg_cS0 (M' := mX6_copyRow) ([.ref (a + 4), .ref (b + 4)]) dX6_copyFrom_62 lX6_61 sX6_copyRow hS (r_copyRow hS (tw_6 ha) (tw_6 hb) (by decide)) rfl (Nat.le_of_ble_eq_true rfl) (Nat.zero_le _) (Nat.zero_le _) ?_
  refine go_aloadn dX6_copyFrom_65 rfl ?_
  refine sg_getR dX6_copyFrom_66 fX6_24 rfl (tw_L ha) hS (tw_r7 hS ha) ?_
  refine go_aloadn dX6_copyFrom_69 rfl ?_
  refine sg_getR dX6_copyFrom_70 fX6_24 rfl (tw_L hb) hS (tw_r7 hS hb) ?_
  refine sg_cS0 (M' := mX6_copyRow) ([.ref (a + 5), .ref (b + 5)]) dX6_copyFrom_73 lX6_61 sX6_copyRow hS (r_copyRow hS (tw_7 ha) (tw_7 hb) (by decide)) rfl (Nat.le_of_ble_eq_true rfl) (Nat.zero_le _) (Nat.zero_le _) ?_
  refine go_aloadn dX6_copyFrom_76 rfl ?_
  refine sg_getR dX6_copyFrom_77 fX6_27 rfl (tw_L ha) hS (tw_r8 hS ha) ?_
  refine go_aloadn dX6_copyFrom_80 rfl ?_
  refine sg_getR dX6_copyFrom_81 fX6_27 rfl (tw_L hb) hS (tw_r8 hS hb) ?_
  refine sg_cS0 (M' := mX6_copyRow) ([.ref (a + 6), .ref (b + 6)]) dX6_copyFrom_84 lX6_61 sX6_copyRow hS (r_copyRow hS (tw_8 ha) (tw_8 hb) (by decide)) rfl (Nat.le_of_ble_eq_true rfl) (Nat.zero_le _) (Nat.zero_le _) ?_
  refine go_aloadn dX6_copyFrom_87 rfl ?_
  refine sg_getR dX6_copyFrom_88 fX6_30 rfl (tw_L ha) hS (tw_r9 hS ha) ?_
  refine go_aloadn dX6_copyFrom_91 rfl ?_
  refine sg_getR dX6_copyFrom_92 fX6_30 rfl (tw_L hb) hS (tw_r9 hS hb) ?_
  refine sg_cS0 (M' := mX6_copyRow) ([.ref (a + 7), .ref (b + 7)]) dX6_copyFrom_95 lX6_61 sX6_copyRow hS (r_copyRow hS (tw_9 ha) (tw_9 hb) (by decide)) rfl (Nat.le_of_ble_eq_true rfl) (Nat.zero_le _) (Nat.zero_le _) ?_
  refine go_return dX6_copyFrom_98 rfl (Nat.zero_le _) (Nat.zero_le _) ?_
  exact ⟨rfl, rfl⟩
/-- so many elements from q on are put anew -/
def upsF (q : Nat) (v : Nat → Int32) (f : Nat → Int32) : Nat → (Nat → Int32) := foF (fun t f => upd f (q + t) (v t)) f
theorem upsF_at {q : Nat} {v f : Nat → Int32} {n k : Nat} : upsF q v f n k = if q ≤ k ∧ k < q + n then v (k - q) else f k := by
  induction n with
  | zero => rw [if_neg (by omega)]; rfl
  | succ n ih =>
    simp only [upsF, foF] at ih ⊢
    by_cases e : k = q + n
    · subst e; rw [pk_us, if_pos (by omega), Nat.add_sub_cancel_left]
    · rw [pk_un e, ih]
      by_cases q : q ≤ k ∧ k < q + n
      · rw [if_pos q, if_pos (by omega)]
      · rw [if_neg q, if_neg (by omega)]
theorem upsF_s {q : Nat} {v f : Nat → Int32} {n : Nat} : upd (upsF q v f n) (q + n) (v n) = upsF q v f (n + 1) := rfl
/-- a thing, a person in one number -/
def pk1 (h : Hp) (b t : Nat) : Int32 := (((hI h (b + 6) t + 1) ||| (hI h (b + 5) t <<< ((4 : Int32) &&& 31))) ||| (hI h (b + 4) t <<< ((8 : Int32) &&& 31))) ||| (hI h (b + 7) t <<< ((12 : Int32) &&& 31))
def pk2 (h : Hp) (b p : Nat) : Nat → Int32 := foF (fun i v => v ||| (hI h (b + 3) (6 * p + i) <<< ((7 + 3 * nI i) &&& 31))) (hI h (b + 2) p)
def pkF (h : Hp) (b fr : Nat) (f : Nat → Int32) : Nat → Int32 := upsF (fr + 11) (fun p => pk2 h b p 6) (upsF (fr + 1) (pk1 h b) (upd f fr (hI h b 1)) 10) 8
theorem r_pack {l : Launch} {d b a n fr : Nat} {h : Hp} (hS0 : St h) (hb : TownAt b) (ha : lay a = .inr (0, n)) (hab : ∀ i, i ≤ 11 → b + i ≠ a) (hn : n < 2 ^ 30) (hfr : fr + 19 ≤ n) : Ex l (d + 1) mX6_pack [.ref b, .ref a, .int (nI fr)] h none (uF h a (pkF h b fr (hI h a))) := by
  have hS := hS0
  have e1 : nI fr + 1 = nI (fr + 1) := nI_1 fr
  have e2 : nI (fr + 1) + 10 = nI (fr + 11) := nI_add _ 10
  have hIe : ∀ i f, i ≤ 11 → hI (uF h a f) (b + i) = hI h (b + i) := fun i f hi => hI_uF_nef (hab i hi)
  refine run_lv [some (.ref b), some (.ref a), some (.int (nI fr)), none, none, none] (go := ?_)
  refine go_iloadn dX6_pack_0 rfl ?_
  refine go_if_lt (tgt := 13) dX6_pack_1 (by decide) (fun c1 => absurd c1 (nI_pos (by omega))) (fun c1 => ?_)
  refine go_iloadn dX6_pack_4 rfl ?_
  refine go_bipush (v := 19) dX6_pack_5 rfl ?_
  refine go_iadd dX6_pack_7 ?_
  refine go_aloadn dX6_pack_8 rfl ?_
  refine sg_alen (v := nI n) dX6_pack_9 ha hS rfl ?_
  refine go_icmp_le (tgt := 14) dX6_pack_10 (by decide) (fun c10 => ?_) (fun c10 => absurd (by rw [show (19 : Int32) = nI 19 from rfl, nI_add]; exact nI_le hfr (by omega)) c10)
  refine go_aloadn dX6_pack_14 rfl ?_
  refine go_iloadn dX6_pack_15 rfl ?_
  refine go_aloadn dX6_pack_16 rfl ?_
  refine sg_getI dX6_pack_17 fX6_51 rfl (tw_L hb) hS ?_
  refine sg_iast dX6_pack_20 ha hS (vp_in_nI (by omega) (by omega)) ?_
  rw [cl_nI (by omega), uI_is_uF]
  refine go_iconst (v := 0) dX6_pack_21 rfl ?_
  refine go_ist3 dX6_pack_22 rfl ?_
  refine go_loop (lvf := fun k => [some (.ref b), some (.ref a), some (.int (nI fr)), some (.int (nI k)), none, none]) (hf := fun k => uF h a (upsF (fr + 1) (pk1 h b) (upd (hI h a) fr (hI h b 1)) k)) 10 (fun _ => True) (fun k hk _ ih => ?_) (fun _ => ?_) 0 (Nat.zero_le _) trivial
  · have hS : St (uF h a (upsF (fr + 1) (pk1 h b) (upd (hI h a) fr (hI h b 1)) k)) := hS
    have hk10 : vp_in (nI k) 10 := vp_in_nI hk (by decide)
    have e0 : (nI k).toNatClampNeg = k := cl_nI (by omega)
    refine go_iloadn dX6_pack_23 rfl ?_
    refine go_bipush (v := 10) dX6_pack_24 rfl ?_
    refine go_icmp_ge (tgt := 79) dX6_pack_26 (by decide) (fun c26 => ?_) (fun c26 => ?_)
    · exact absurd c26 (nI_ge (b := 10) hk (by decide))
    · refine go_aloadn dX6_pack_29 rfl ?_
      refine go_iloadn dX6_pack_30 rfl ?_
      refine go_iconst (v := 1) dX6_pack_31 rfl ?_
      refine go_iadd dX6_pack_32 ?_
      refine go_iloadn dX6_pack_33 rfl ?_
      refine go_iadd dX6_pack_34 ?_
      refine go_aloadn dX6_pack_35 rfl ?_
      refine sg_getR dX6_pack_36 fX6_27 rfl (tw_L hb) hS (tw_r8 hS hb) ?_
      refine go_iloadn dX6_pack_39 rfl ?_
      refine sg_iald dX6_pack_40 (tw_8 hb) hS (hk10) ?_
      refine go_iconst (v := 1) dX6_pack_41 rfl ?_
      refine go_iadd dX6_pack_42 ?_
      refine go_aloadn dX6_pack_43 rfl ?_
      refine sg_getR dX6_pack_44 fX6_24 rfl (tw_L hb) hS (tw_r7 hS hb) ?_
      refine go_iloadn dX6_pack_47 rfl ?_
      refine sg_iald dX6_pack_48 (tw_7 hb) hS (hk10) ?_
      refine go_iconst (v := 4) dX6_pack_49 rfl ?_
      refine go_ishl dX6_pack_50 ?_
      refine go_ior dX6_pack_51 ?_
      refine go_aloadn dX6_pack_52 rfl ?_
      refine sg_getR dX6_pack_53 fX6_21 rfl (tw_L hb) hS (tw_r6 hS hb) ?_
      refine go_iloadn dX6_pack_56 rfl ?_
      refine sg_iald dX6_pack_57 (tw_6 hb) hS (hk10) ?_
      refine go_bipush (v := 8) dX6_pack_58 rfl ?_
      refine go_ishl dX6_pack_60 ?_
      refine go_ior dX6_pack_61 ?_
      refine go_aloadn dX6_pack_62 rfl ?_
      refine sg_getR dX6_pack_63 fX6_30 rfl (tw_L hb) hS (tw_r9 hS hb) ?_
      refine go_iloadn dX6_pack_66 rfl ?_
      refine sg_iald dX6_pack_67 (tw_9 hb) hS (hk10) ?_
      refine go_bipush (v := 12) dX6_pack_68 rfl ?_
      refine go_ishl dX6_pack_70 ?_
      refine go_ior dX6_pack_71 ?_
      rw [hIe _ _ (by omega), hIe _ _ (by omega), hIe _ _ (by omega), hIe _ _ (by omega), e0, e1, nI_add]
      refine sg_iast dX6_pack_72 ha hS (vp_in_nI (by omega) (by omega)) ?_
      refine go_iinc3 (c1 := 1) dX6_pack_73 rfl rfl ?_
      refine go_goto (tgt := 23) dX6_pack_76 (by decide) ?_
      exact go_cong (ih trivial) (by simp [nI_1]) (by rw [cl_nI (by omega), uI_uF]; rfl)
  · have hS : St (uF h a (upsF (fr + 1) (pk1 h b) (upd (hI h a) fr (hI h b 1)) 10)) := hS
    refine go_iloadn dX6_pack_23 rfl ?_
    refine go_bipush (v := 10) dX6_pack_24 rfl ?_
    refine go_icmp_ge (tgt := 79) dX6_pack_26 (by decide) (fun c26 => ?_) (fun c26 => absurd (by decide) c26)
    refine go_iconst (v := 0) dX6_pack_79 rfl ?_
    refine go_ist3 dX6_pack_80 rfl ?_
    refine go_loop (lvf := fun k => [some (.ref b), some (.ref a), some (.int (nI fr)), some (.int (nI k)), none, none]) (hf := fun k => uF h a (upsF (fr + 11) (fun p => pk2 h b p 6) (upsF (fr + 1) (pk1 h b) (upd (hI h a) fr (hI h b 1)) 10) k)) 8 (fun _ => True) (fun k hk _ ih => ?_) (fun _ => ?_) 0 (Nat.zero_le _) trivial
    · have hS : St (uF h a (upsF (fr + 11) (fun p => pk2 h b p 6) (upsF (fr + 1) (pk1 h b) (upd (hI h a) fr (hI h b 1)) 10) k)) := hS
      have hk8 : vp_in (nI k) 8 := vp_in_nI hk (by decide)
      have e0 : (nI k).toNatClampNeg = k := cl_nI (by omega)
      refine go_iloadn dX6_pack_81 rfl ?_
      refine go_bipush (v := 8) dX6_pack_82 rfl ?_
      refine go_icmp_ge (tgt := 154) dX6_pack_84 (by decide) (fun c84 => absurd c84 (nI_ge (b := 8) hk (by decide))) (fun c84 => ?_)
      refine go_aloadn dX6_pack_87 rfl ?_
      refine sg_getR dX6_pack_88 fX6_15 rfl (tw_L hb) hS (tw_r4 hS hb) ?_
      refine go_iloadn dX6_pack_91 rfl ?_
      refine sg_iald dX6_pack_92 (tw_4 hb) hS (hk8) ?_
      rw [hIe _ _ (by omega), e0]
      refine go_ist4 dX6_pack_93 rfl ?_
      refine go_iconst (v := 0) dX6_pack_95 rfl ?_
      refine go_ist5 dX6_pack_96 rfl ?_
      refine go_loop (lvf := fun i => [some (.ref b), some (.ref a), some (.int (nI fr)), some (.int (nI k)), some (.int (pk2 h b k i)), some (.int (nI i))]) (hf := fun _ => uF h a (upsF (fr + 11) (fun p => pk2 h b p 6) (upsF (fr + 1) (pk1 h b) (upd (hI h a) fr (hI h b 1)) 10) k)) 6 (fun _ => True) (fun i hi _ ih2 => ?_) (fun _ => ?_) 0 (Nat.zero_le _) trivial
      · have e3 : nI k * 6 + nI i = nI (6 * k + i) := by rw [show (6 : Int32) = nI 6 from rfl, pk_mul, nI_add, Nat.mul_comm]
        refine go_iload dX6_pack_98 rfl ?_
        refine go_bipush (v := 6) dX6_pack_100 rfl ?_
        refine go_icmp_ge (tgt := 136) dX6_pack_102 (by decide) (fun c102 => ?_) (fun c102 => ?_)
        · exact absurd c102 (nI_ge (b := 6) hi (by decide))
        · refine go_iload dX6_pack_105 rfl ?_
          refine go_aloadn dX6_pack_107 rfl ?_
          refine sg_getR dX6_pack_108 fX6_18 rfl (tw_L hb) hS (tw_r5 hS hb) ?_
          refine go_iloadn dX6_pack_111 rfl ?_
          refine go_bipush (v := 6) dX6_pack_112 rfl ?_
          refine go_imul dX6_pack_114 ?_
          refine go_iload dX6_pack_115 rfl ?_
          refine go_iadd dX6_pack_117 ?_
          refine sg_iald dX6_pack_118 (tw_5 hb) hS (by rw [e3]; exact vp_in_nI (by omega) (by decide)) ?_
          rw [hIe _ _ (by omega), e3, cl_nI (by omega)]
          refine go_bipush (v := 7) dX6_pack_119 rfl ?_
          refine go_iconst (v := 3) dX6_pack_121 rfl ?_
          refine go_iload dX6_pack_122 rfl ?_
          refine go_imul dX6_pack_124 ?_
          refine go_iadd dX6_pack_125 ?_
          refine go_ishl dX6_pack_126 ?_
          refine go_ior dX6_pack_127 ?_
          refine go_ist4 dX6_pack_128 rfl ?_
          refine go_iinc5 (c1 := 1) dX6_pack_130 rfl rfl ?_
          refine go_goto (tgt := 98) dX6_pack_133 (by decide) ?_
          exact go_cong (ih2 trivial) (by simp [pk2, foF, nI_1]) rfl
      · refine go_iload dX6_pack_98 rfl ?_
        refine go_bipush (v := 6) dX6_pack_100 rfl ?_
        refine go_icmp_ge (tgt := 136) dX6_pack_102 (by decide) (fun c102 => ?_) (fun c102 => ?_)
        · refine go_aloadn dX6_pack_136 rfl ?_
          refine go_iloadn dX6_pack_137 rfl ?_
          refine go_iconst (v := 1) dX6_pack_138 rfl ?_
          refine go_iadd dX6_pack_139 ?_
          refine go_bipush (v := 10) dX6_pack_140 rfl ?_
          refine go_iadd dX6_pack_142 ?_
          refine go_iloadn dX6_pack_143 rfl ?_
          refine go_iadd dX6_pack_144 ?_
          refine go_iload dX6_pack_145 rfl ?_
          rw [e1, e2, nI_add]
          refine sg_iast dX6_pack_147 ha hS (vp_in_nI (by omega) (by omega)) ?_
          refine go_iinc3 (c1 := 1) dX6_pack_148 rfl rfl ?_
          refine go_goto (tgt := 81) dX6_pack_151 (by decide) ?_
          exact go_back (ih trivial) (by simp [lsub, nI_1]) (by rw [cl_nI (by omega), uI_uF]; rfl)
        · exact absurd (by decide) c102
    · have hS : St (uF h a (upsF (fr + 11) (fun p => pk2 h b p 6) (upsF (fr + 1) (pk1 h b) (upd (hI h a) fr (hI h b 1)) 10) 8)) := hS
      refine go_iloadn dX6_pack_81 rfl ?_
      refine go_bipush (v := 8) dX6_pack_82 rfl ?_
      refine go_icmp_ge (tgt := 154) dX6_pack_84 (by decide) (fun c84 => ?_) (fun c84 => absurd (by decide) c84)
      refine go_return dX6_pack_154 rfl (Nat.zero_le _) (Nat.zero_le _) ⟨rfl, rfl⟩
/-- cells of a town that unpack writes -/
def Tu (b a : Nat) : Prop := b ≤ a ∧ a ≤ b + 7
theorem tu_i {b i : Nat} (h : i ≤ 7) : Tu b (b + i) := by unfold Tu; omega
def un1 (b : Nat) (f : Nat → Int32) (fr t : Nat) (g : Hp) : Hp := uI (uI (uI (uI g (b + 6) t ((f (fr + 1 + t) &&& 15) - 1)) (b + 5) t ((f (fr + 1 + t) >>> ((4 : Int32) &&& 31)) &&& 15)) (b + 4) t ((f (fr + 1 + t) >>> ((8 : Int32) &&& 31)) &&& 15)) (b + 7) t (f (fr + 1 + t) >>> ((12 : Int32) &&& 31))
def un2 (b : Nat) (f : Nat → Int32) (fr p : Nat) (g : Hp) : Hp := uF (uI g (b + 2) p (f (fr + 11 + p) &&& 127)) (b + 3) (upsF (6 * p) (fun i => (f (fr + 11 + p) >>> ((7 + 3 * nI i) &&& 31)) &&& 7) (hI g (b + 3)) 6)
def unA (h : Hp) (b a fr k : Nat) : Hp := foF (un1 b (hI h a) fr) (uI h b 1 (hI h a fr)) k
def unB (h : Hp) (b a fr k : Nat) : Hp := foF (un2 b (hI h a) fr) (unA h b a fr 10) k
theorem fu_A {h : Hp} {b a fr : Nat} (k : Nat) : Fr (Tu b) h (unA h b a fr k) := by
  induction k with
  | zero => exact Fr.rf.uI (tu_i (i := 0) (by omega))
  | succ k ih => exact ih.tr ((((Fr.rf.uI (tu_i (by omega))).uI (tu_i (by omega))).uI (tu_i (by omega))).uI (tu_i (by omega)))
theorem fu_B {h : Hp} {b a fr : Nat} (k : Nat) : Fr (Tu b) h (unB h b a fr k) := by
  induction k with
  | zero => exact fu_A 10
  | succ k ih => exact ih.tr ((Fr.rf.uI (tu_i (by omega))).uF (tu_i (by omega)))
theorem r_unpack {l : Launch} {d b a n fr : Nat} {h : Hp} (hS0 : St h) (hb : TownAt b) (ha : lay a = .inr (0, n)) (hab : ¬ Tu b a) (hn : n < 2 ^ 30) (hfr : fr + 19 ≤ n) : Ex l (d + 1) mX6_unpack [.ref b, .ref a, .int (nI fr)] h none (unB h b a fr 8) := by
  have hS := hS0
  have e1 : nI fr + 1 = nI (fr + 1) := nI_1 fr
  have e2 : nI (fr + 1) + 10 = nI (fr + 11) := nI_add _ 10
  refine run_lv [some (.ref b), some (.ref a), some (.int (nI fr)), none, none, none] (go := ?_)
  refine go_iloadn dX6_unpack_0 rfl ?_
  refine go_if_lt (tgt := 13) dX6_unpack_1 (by decide) (fun c1 => absurd c1 (nI_pos (by omega))) (fun c1 => ?_)
  refine go_iloadn dX6_unpack_4 rfl ?_
  refine go_bipush (v := 19) dX6_unpack_5 rfl ?_
  refine go_iadd dX6_unpack_7 ?_
  refine go_aloadn dX6_unpack_8 rfl ?_
  refine sg_alen (v := nI n) dX6_unpack_9 ha hS rfl ?_
  refine go_icmp_le (tgt := 14) dX6_unpack_10 (by decide) (fun c10 => ?_) (fun c10 => absurd (by rw [show (19 : Int32) = nI 19 from rfl, nI_add]; exact nI_le hfr (by omega)) c10)
  refine go_aloadn dX6_unpack_14 rfl ?_
  refine go_aloadn dX6_unpack_15 rfl ?_
  refine go_iloadn dX6_unpack_16 rfl ?_
  refine sg_iald dX6_unpack_17 ha hS (vp_in_nI (by omega) (by omega)) ?_
  refine sg_putI dX6_unpack_18 fX6_51 rfl rfl (tw_L hb) hS ?_
  refine go_iconst (v := 0) dX6_unpack_21 rfl ?_
  refine go_ist3 dX6_unpack_22 rfl ?_
  rw [cl_nI (by omega)]
  refine go_loop (lvf := fun k => [some (.ref b), some (.ref a), some (.int (nI fr)), some (.int (nI k)), none, none]) (hf := fun k => unA h b a fr k) 10 (fun _ => True) (fun k hk _ ih => ?_) (fun _ => ?_) 0 (Nat.zero_le _) trivial
  · have F := fu_A (h := h) (b := b) (a := a) (fr := fr) k
    have es : unA h b a fr (k + 1) = un1 b (hI h a) fr k (unA h b a fr k) := rfl
    rw [es] at ih
    generalize unA h b a fr k = g at ih F ⊢
    have hS := F.St hS0
    have hk10 : vp_in (nI k) 10 := vp_in_nI hk (by decide)
    have e0 : (nI k).toNatClampNeg = k := cl_nI (by omega)
    refine go_iloadn dX6_unpack_23 rfl ?_
    refine go_bipush (v := 10) dX6_unpack_24 rfl ?_
    refine go_icmp_ge (tgt := 95) dX6_unpack_26 (by decide) (fun c26 => ?_) (fun c26 => ?_)
    · exact absurd c26 (nI_ge (b := 10) hk (by decide))
    · refine go_aloadn dX6_unpack_29 rfl ?_
      refine go_iloadn dX6_unpack_30 rfl ?_
      refine go_iconst (v := 1) dX6_unpack_31 rfl ?_
      refine go_iadd dX6_unpack_32 ?_
      refine go_iloadn dX6_unpack_33 rfl ?_
      refine go_iadd dX6_unpack_34 ?_
      rw [e1, nI_add]
      refine sg_iald dX6_unpack_35 ha hS (vp_in_nI (by omega) (by omega)) ?_
      rw [cl_nI (by omega), F.I hab]
      refine go_ist4 dX6_unpack_36 rfl ?_
      refine go_aloadn dX6_unpack_38 rfl ?_
      refine sg_getR dX6_unpack_39 fX6_27 rfl (tw_L hb) hS (tw_r8 hS hb) ?_
      refine go_iloadn dX6_unpack_42 rfl ?_
      refine go_iload dX6_unpack_43 rfl ?_
      refine go_bipush (v := 15) dX6_unpack_45 rfl ?_
      refine go_iand dX6_unpack_47 ?_
      refine go_iconst (v := 1) dX6_unpack_48 rfl ?_
      refine go_isub dX6_unpack_49 ?_
      refine sg_iast dX6_unpack_50 (tw_8 hb) hS (hk10) ?_
      refine go_aloadn dX6_unpack_51 rfl ?_
      refine sg_getR dX6_unpack_52 fX6_24 rfl (tw_L hb) hS (tw_r7 hS hb) ?_
      refine go_iloadn dX6_unpack_55 rfl ?_
      refine go_iload dX6_unpack_56 rfl ?_
      refine go_iconst (v := 4) dX6_unpack_58 rfl ?_
      refine go_ishr dX6_unpack_59 ?_
      refine go_bipush (v := 15) dX6_unpack_60 rfl ?_
      refine go_iand dX6_unpack_62 ?_
      refine sg_iast dX6_unpack_63 (tw_7 hb) hS (hk10) ?_
      refine go_aloadn dX6_unpack_64 rfl ?_
      refine sg_getR dX6_unpack_65 fX6_21 rfl (tw_L hb) hS (tw_r6 hS hb) ?_
      refine go_iloadn dX6_unpack_68 rfl ?_
      refine go_iload dX6_unpack_69 rfl ?_
      refine go_bipush (v := 8) dX6_unpack_71 rfl ?_
      refine go_ishr dX6_unpack_73 ?_
      refine go_bipush (v := 15) dX6_unpack_74 rfl ?_
      refine go_iand dX6_unpack_76 ?_
      refine sg_iast dX6_unpack_77 (tw_6 hb) hS (hk10) ?_
      refine go_aloadn dX6_unpack_78 rfl ?_
      refine sg_getR dX6_unpack_79 fX6_30 rfl (tw_L hb) hS (tw_r9 hS hb) ?_
      refine go_iloadn dX6_unpack_82 rfl ?_
      refine go_iload dX6_unpack_83 rfl ?_
      refine go_bipush (v := 12) dX6_unpack_85 rfl ?_
      refine go_ishr dX6_unpack_87 ?_
      refine sg_iast dX6_unpack_88 (tw_9 hb) hS (hk10) ?_
      refine go_iinc3 (c1 := 1) dX6_unpack_89 rfl rfl ?_
      refine go_goto (tgt := 23) dX6_unpack_92 (by decide) ?_
      exact go_back (ih trivial) (by simp [lsub, nI_1]) (by rw [e0]; rfl)
  · have hS := (fu_A (h := h) (b := b) (a := a) (fr := fr) 10).St hS0
    refine go_iloadn dX6_unpack_23 rfl ?_
    refine go_bipush (v := 10) dX6_unpack_24 rfl ?_
    refine go_icmp_ge (tgt := 95) dX6_unpack_26 (by decide) (fun c26 => ?_) (fun c26 => absurd (by decide) c26)
    refine go_iconst (v := 0) dX6_unpack_95 rfl ?_
    refine go_ist3 dX6_unpack_96 rfl ?_
    refine go_loop (lvf := fun k => [some (.ref b), some (.ref a), some (.int (nI fr)), some (.int (nI k)), none, none]) (hf := fun k => unB h b a fr k) 8 (fun _ => True) (fun k hk _ ih => ?_) (fun _ => ?_) 0 (Nat.zero_le _) trivial
    · have F := fu_B (h := h) (b := b) (a := a) (fr := fr) k
      have es : unB h b a fr (k + 1) = un2 b (hI h a) fr k (unB h b a fr k) := rfl
      rw [es] at ih
      generalize unB h b a fr k = g at ih F ⊢
      have hS := F.St hS0
      have hk8 : vp_in (nI k) 8 := vp_in_nI hk (by decide)
      have e0 : (nI k).toNatClampNeg = k := cl_nI (by omega)
      refine go_iloadn dX6_unpack_97 rfl ?_
      refine go_bipush (v := 8) dX6_unpack_98 rfl ?_
      refine go_icmp_ge (tgt := 173) dX6_unpack_100 (by decide) (fun c84 => absurd c84 (nI_ge (b := 8) hk (by decide))) (fun c84 => ?_)
      refine go_aloadn dX6_unpack_103 rfl ?_
      refine go_iloadn dX6_unpack_104 rfl ?_
      refine go_iconst (v := 1) dX6_unpack_105 rfl ?_
      refine go_iadd dX6_unpack_106 ?_
      refine go_bipush (v := 10) dX6_unpack_107 rfl ?_
      refine go_iadd dX6_unpack_109 ?_
      refine go_iloadn dX6_unpack_110 rfl ?_
      refine go_iadd dX6_unpack_111 ?_
      rw [e1, e2, nI_add]
      refine sg_iald dX6_unpack_112 ha hS (vp_in_nI (by omega) (by omega)) ?_
      rw [cl_nI (by omega), F.I hab]
      refine go_ist4 dX6_unpack_113 rfl ?_
      refine go_aloadn dX6_unpack_115 rfl ?_
      refine sg_getR dX6_unpack_116 fX6_15 rfl (tw_L hb) hS (tw_r4 hS hb) ?_
      refine go_iloadn dX6_unpack_119 rfl ?_
      refine go_iload dX6_unpack_120 rfl ?_
      refine go_bipush (v := 127) dX6_unpack_122 rfl ?_
      refine go_iand dX6_unpack_124 ?_
      refine sg_iast dX6_unpack_125 (tw_4 hb) hS (hk8) ?_
      refine go_iconst (v := 0) dX6_unpack_126 rfl ?_
      refine go_ist5 dX6_unpack_127 rfl ?_
      rw [e0]
      have e9 : hI (uI g (b + 2) k (hI h a (fr + 11 + k) &&& 127)) (b + 3) = hI g (b + 3) := funext fun j => hI_uI_ne (fun q => by omega)
      refine go_cong (go_loop (lvf := fun i => [some (.ref b), some (.ref a), some (.int (nI fr)), some (.int (nI k)), some (.int (hI h a (fr + 11 + k))), some (.int (nI i))]) (hf := fun i => uF (uI g (b + 2) k (hI h a (fr + 11 + k) &&& 127)) (b + 3) (upsF (6 * k) (fun i => (hI h a (fr + 11 + k) >>> ((7 + 3 * nI i) &&& 31)) &&& 7) (hI g (b + 3)) i)) 6 (fun _ => True) (fun i hi _ ih2 => ?_) (fun _ => ?_) 0 (Nat.zero_le _) trivial) rfl (by rw [← e9]; exact uF_self.symm)
      · have hS : St (uF (uI g (b + 2) k (hI h a (fr + 11 + k) &&& 127)) (b + 3) (upsF (6 * k) (fun i => (hI h a (fr + 11 + k) >>> ((7 + 3 * nI i) &&& 31)) &&& 7) (hI g (b + 3)) i)) := hS
        have e3 : nI k * 6 + nI i = nI (6 * k + i) := by rw [show (6 : Int32) = nI 6 from rfl, pk_mul, nI_add, Nat.mul_comm]
        refine go_iload dX6_unpack_129 rfl ?_
        refine go_bipush (v := 6) dX6_unpack_131 rfl ?_
        refine go_icmp_ge (tgt := 167) dX6_unpack_133 (by decide) (fun c133 => ?_) (fun c133 => ?_)
        · exact absurd c133 (nI_ge (b := 6) hi (by decide))
        · refine go_aloadn dX6_unpack_136 rfl ?_
          refine sg_getR dX6_unpack_137 fX6_18 rfl (tw_L hb) hS (tw_r5 hS hb) ?_
          refine go_iloadn dX6_unpack_140 rfl ?_
          refine go_bipush (v := 6) dX6_unpack_141 rfl ?_
          refine go_imul dX6_unpack_143 ?_
          refine go_iload dX6_unpack_144 rfl ?_
          refine go_iadd dX6_unpack_146 ?_
          refine go_iload dX6_unpack_147 rfl ?_
          refine go_bipush (v := 7) dX6_unpack_149 rfl ?_
          refine go_iconst (v := 3) dX6_unpack_151 rfl ?_
          refine go_iload dX6_unpack_152 rfl ?_
          refine go_imul dX6_unpack_154 ?_
          refine go_iadd dX6_unpack_155 ?_
          refine go_ishr dX6_unpack_156 ?_
          refine go_bipush (v := 7) dX6_unpack_157 rfl ?_
          refine go_iand dX6_unpack_159 ?_
          rw [e3]
          refine sg_iast dX6_unpack_160 (tw_5 hb) hS (vp_in_nI (by omega) (by decide)) ?_
          refine go_iinc5 (c1 := 1) dX6_unpack_161 rfl rfl ?_
          refine go_goto (tgt := 129) dX6_unpack_164 (by decide) ?_
          exact go_cong (ih2 trivial) (by simp [nI_1]) (by rw [cl_nI (by omega), uI_uF]; rfl)
      · refine go_iload dX6_unpack_129 rfl ?_
        refine go_bipush (v := 6) dX6_unpack_131 rfl ?_
        refine go_icmp_ge (tgt := 167) dX6_unpack_133 (by decide) (fun c133 => ?_) (fun c133 => ?_)
        · refine go_iinc3 (c1 := 1) dX6_unpack_167 rfl rfl ?_
          refine go_goto (tgt := 97) dX6_unpack_170 (by decide) ?_
          exact go_back (ih trivial) (by simp [lsub, nI_1]) rfl
        · exact absurd (by decide) c133
    · have hS := (fu_B (h := h) (b := b) (a := a) (fr := fr) 8).St hS0
      refine go_iloadn dX6_unpack_97 rfl ?_
      refine go_bipush (v := 8) dX6_unpack_98 rfl ?_
      refine go_icmp_ge (tgt := 173) dX6_unpack_100 (by decide) (fun c84 => ?_) (fun c84 => absurd (by decide) c84)
      refine go_return dX6_unpack_173 rfl (Nat.zero_le _) (Nat.zero_le _) ⟨rfl, rfl⟩
