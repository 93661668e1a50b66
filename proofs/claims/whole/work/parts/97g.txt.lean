/-! texts -/
theorem fs_val : inG (.fieldLink RJ0 9 "java/lang/String" "value" "[B") := ⟨ch9_12 _ (List.mem_of_getElem? (i := 0) rfl), rfl⟩
theorem fs_cod : inG (.fieldLink RJ0 15 "java/lang/String" "coder" "B") := ⟨ch9_11 _ (List.mem_of_getElem? (i := 15) rfl), rfl⟩
theorem fs_cmp : inG (.fieldLink RJ0 38 "java/lang/String" "COMPACT_STRINGS" "Z") := ⟨ch3_13 _ (List.mem_of_getElem? (i := 7) rfl), rfl⟩
theorem fs_fmt : inG (.fieldLink RJ0 1053 "jdk/internal/util/Preconditions" "SIOOBE_FORMATTER" "Ljava/util/function/BiFunction;") := ⟨ch4_0 _ (List.mem_of_getElem? (i := 14) rfl), rfl⟩
theorem fs_bnd : inG (.fieldLink RX3 273 "WornThings$Reader" "BINDING" "[I") := ⟨ch4_12 _ (List.mem_of_getElem? (i := 5) rfl), rfl⟩
section
variable {l : Launch} {M : MI} {n0 : Nat} {Z : ZT} {pc : Nat} {lv : List (Option Value)} {st : List Value} {h : Hp} {u w d : Nat} {B0 : Nat × Nat}
theorem sg_cT {M' : MI} {x : Value} (as : List Value) {i idx : Nat} {h' : Hp} {stk : List Value} (hd : decode M.2.1 pc = .ok (.invokevirtual idx, 3)) (hl : inG (.methodLink M.1.cls idx M'.1)) (hc : CV M' as.length) (hi : i < 21) (hcl : M'.1.cls = "java/lang/String") (hS : St h)
    (hr : Ex l d M' (.ref (1001 + i) :: as) h (some x) h') (hstk : stk = as.reverse ++ .ref (1001 + i) :: st) (hst : (st.map (fun v => v.category)).sum ≤ 8) (hu : u ≤ B0.1) (hw : w ≤ B0.2)
    (kk : Go l (rmOf (d + 1) B0) M n0 Z (pc + 3) lv (x :: st) h' u w) : Go l (rmOf (d + 1) B0) M n0 Z pc lv stk h u w :=
  go_callT as hd hl hc hi hcl hS hr hstk hst hu hw (fun v h1 q => by obtain ⟨rfl, rfl⟩ := q; exact kk)
end
theorem t_coder {l : Launch} {d i : Nat} {h : Hp} (hi : i < 21) : Ex l (d + 1) mJ0_coder_7d493 [.ref (1001 + i)] h (some (.int 0)) h := by
  refine run_lv [some (.ref (1001 + i))] (go := ?_)
  refine go_cmps dJ0_coder_7d493_0 fs_cmp ?_
  refine go_if_eq (tgt := 13) dJ0_coder_7d493_3 (by decide) (fun c3 => absurd c3 (by decide)) (fun c3 => ?_)
  refine go_aloadn dJ0_coder_7d493_6 rfl ?_
  refine go_scod dJ0_coder_7d493_7 fs_cod hi ?_
  refine go_goto (tgt := 14) dJ0_coder_7d493_10 (by decide) ?_
  refine go_ireturn dJ0_coder_7d493_14 rfl rfl (Nat.zero_le _) (Nat.zero_le _) ?_
  exact ⟨rfl, rfl⟩
theorem t_isLatin1 {l : Launch} {d i : Nat} {h : Hp} (hi : i < 21) : Ex l (d + 1) mJ0_isLatin1_aae02 [.ref (1001 + i)] h (some (.int 1)) h := by
  refine run_lv [some (.ref (1001 + i))] (go := ?_)
  refine go_cmps dJ0_isLatin1_aae02_0 fs_cmp ?_
  refine go_if_eq (tgt := 17) dJ0_isLatin1_aae02_3 (by decide) (fun c3 => absurd c3 (by decide)) (fun c3 => ?_)
  refine go_aloadn dJ0_isLatin1_aae02_6 rfl ?_
  refine go_scod dJ0_isLatin1_aae02_7 fs_cod hi ?_
  refine go_if_ne (tgt := 17) dJ0_isLatin1_aae02_10 (by decide) (fun c10 => absurd rfl c10) (fun c10 => ?_)
  refine go_iconst (v := 1) dJ0_isLatin1_aae02_13 rfl ?_
  refine go_goto (tgt := 18) dJ0_isLatin1_aae02_14 (by decide) ?_
  refine go_ireturn dJ0_isLatin1_aae02_18 rfl rfl (Nat.zero_le _) (Nat.zero_le _) ?_
  exact ⟨rfl, rfl⟩
theorem sh_0 {x : Int32} : x >>> ((0 : Int32) &&& 31) = x := by rw [Int32.zero_and, Int32.shiftRight_zero]
theorem t_length {l : Launch} {d i : Nat} {h : Hp} (hS : St h) (hi : i < 21) : Ex l (d + 2) mJ0_length_8abf5 [.ref (1001 + i)] h (some (.int (nI (strL.getD i 0)))) h := by
  refine run_lv [some (.ref (1001 + i))] (go := ?_)
  refine go_aloadn dJ0_length_8abf5_0 rfl ?_
  refine go_sval dJ0_length_8abf5_1 fs_val hi ?_
  refine go_blen dJ0_length_8abf5_4 hi rfl ?_
  refine go_aloadn dJ0_length_8abf5_5 rfl ?_
  refine sg_cT (M' := mJ0_coder_7d493) ([]) dJ0_length_8abf5_6 lJ0_335 vJ0_coder_7d493 hi rfl hS (t_coder hi) rfl (Nat.le_of_ble_eq_true rfl) (Nat.zero_le _) (Nat.zero_le _) ?_
  refine go_ishr dJ0_length_8abf5_9 ?_
  rw [sh_0]
  refine go_ireturn dJ0_length_8abf5_10 rfl rfl (Nat.zero_le _) (Nat.zero_le _) ?_
  exact ⟨rfl, rfl⟩
theorem t_check3 {l : Launch} {d i n : Nat} {v : Value} {h : Hp} (hi : i < n) (hn : n < 2 ^ 31) (hv : v = .null ∨ ∃ a, v = .ref a) : Ex l (d + 1) mJ3_checkIndex_8e157 [.int (nI i), .int (nI n), v] h (some (.int (nI i))) h := by
  rcases hv with rfl | ⟨a, rfl⟩
  · refine run_lv [some (.int (nI i)), some (.int (nI n)), some .null] (go := ?_)
    refine go_iloadn dJ3_checkIndex_8e157_0 rfl ?_
    refine go_if_lt (tgt := 9) dJ3_checkIndex_8e157_1 (by decide) (fun c1 => absurd c1 (Int32.not_lt.mpr (nI_le (a := 0) (by omega) (by omega)))) (fun c1 => ?_)
    refine go_iloadn dJ3_checkIndex_8e157_4 rfl ?_
    refine go_iloadn dJ3_checkIndex_8e157_5 rfl ?_
    refine go_icmp_lt (tgt := 16) dJ3_checkIndex_8e157_6 (by decide) (fun c6 => ?_) (fun c6 => absurd (nI_lt hi hn) c6)
    refine go_iloadn dJ3_checkIndex_8e157_16 rfl ?_
    refine go_ireturn dJ3_checkIndex_8e157_17 rfl rfl (Nat.zero_le _) (Nat.zero_le _) ?_
    exact ⟨rfl, rfl⟩
  · refine run_lv [some (.int (nI i)), some (.int (nI n)), some (.ref a)] (go := ?_)
    refine go_iloadn dJ3_checkIndex_8e157_0 rfl ?_
    refine go_if_lt (tgt := 9) dJ3_checkIndex_8e157_1 (by decide) (fun c1 => absurd c1 (Int32.not_lt.mpr (nI_le (a := 0) (by omega) (by omega)))) (fun c1 => ?_)
    refine go_iloadn dJ3_checkIndex_8e157_4 rfl ?_
    refine go_iloadn dJ3_checkIndex_8e157_5 rfl ?_
    refine go_icmp_lt (tgt := 16) dJ3_checkIndex_8e157_6 (by decide) (fun c6 => ?_) (fun c6 => absurd (nI_lt hi hn) c6)
    refine go_iloadn dJ3_checkIndex_8e157_16 rfl ?_
    refine go_ireturn dJ3_checkIndex_8e157_17 rfl rfl (Nat.zero_le _) (Nat.zero_le _) ?_
    exact ⟨rfl, rfl⟩
theorem t_check0 {l : Launch} {d i n : Nat} {h : Hp} (hS : St h) (hi : i < n) (hn : n < 2 ^ 31) : Ex l (d + 2) mJ0_checkIndex_df160 [.int (nI i), .int (nI n)] h none h := by
  refine run_lv [some (.int (nI i)), some (.int (nI n))] (go := ?_)
  refine go_iloadn dJ0_checkIndex_df160_0 rfl ?_
  refine go_iloadn dJ0_checkIndex_df160_1 rfl ?_
  refine go_fmt dJ0_checkIndex_df160_2 fs_fmt (fun v hv => ?_)
  refine sg_cSi (M' := mJ3_checkIndex_8e157) ([.int (nI i), .int (nI n), v]) dJ0_checkIndex_df160_5 lJ0_1059 sJ3_checkIndex_8e157 hS (t_check3 hi hn (hv.elim Or.inl (fun q => Or.inr ⟨_, q⟩))) rfl (Nat.le_of_ble_eq_true rfl) (Nat.zero_le _) (Nat.zero_le _) ?_
  refine go_pop dJ0_checkIndex_df160_8 rfl ?_
  refine go_return dJ0_checkIndex_df160_9 rfl (Nat.zero_le _) (Nat.zero_le _) ?_
  exact ⟨rfl, rfl⟩
theorem tx_b : ∀ i : Fin 21, ∀ j : Fin 9, ((strB.getD i.val []).getD j.val 0) &&& 255 = (strB.getD i.val []).getD j.val 0 ∧ (((strB.getD i.val []).getD j.val 0).toUInt32 % 65536).toInt32 = (strB.getD i.val []).getD j.val 0 ∧ ((strB.getD i.val []).getD j.val 0).toUInt32.toUInt16.toUInt32.toInt32 = (strB.getD i.val []).getD j.val 0 := by decide +kernel
theorem tx_l : ∀ i : Fin 21, strL.getD i.val 0 ≤ 9 := by decide +kernel
theorem t_charAt1 {l : Launch} {d i j : Nat} {h : Hp} (hS : St h) (hi : i < 21) (hj : j < strL.getD i 0) : Ex l (d + 3) mJ1_charAt_3b067 [.ref (1101 + i), .int (nI j)] h (some (.int ((strB.getD i []).getD j 0))) h := by
  have l9 := tx_l ⟨i, hi⟩
  dsimp only at l9
  obtain ⟨b1, b2, b3⟩ := tx_b ⟨i, hi⟩ ⟨j, by omega⟩
  refine run_lv [some (.ref (1101 + i)), some (.int (nI j))] (go := ?_)
  refine go_iloadn dJ1_charAt_3b067_0 rfl ?_
  refine go_aloadn dJ1_charAt_3b067_1 rfl ?_
  refine go_blen dJ1_charAt_3b067_2 hi rfl ?_
  refine sg_cS0 (M' := mJ0_checkIndex_df160) ([.int (nI j), .int (nI (strL.getD i 0))]) dJ1_charAt_3b067_3 lJ1_9 sJ0_checkIndex_df160 hS (t_check0 hS hj (by omega)) rfl (Nat.le_of_ble_eq_true rfl) (Nat.zero_le _) (Nat.zero_le _) ?_
  refine go_aloadn dJ1_charAt_3b067_6 rfl ?_
  refine go_iloadn dJ1_charAt_3b067_7 rfl ?_
  refine go_bbald dJ1_charAt_3b067_8 hi (vp_in_nI hj (by omega)) ?_
  rw [cl_nI (by omega)]
  refine go_sipush (v := 255) dJ1_charAt_3b067_9 rfl ?_
  refine go_iand dJ1_charAt_3b067_12 ?_
  rw [b1]
  refine go_i2c dJ1_charAt_3b067_13 ?_
  rw [b2]
  refine go_ireturn dJ1_charAt_3b067_14 rfl (congrArg Value.int b3) (Nat.zero_le _) (Nat.zero_le _) ?_
  exact ⟨rfl, rfl⟩
theorem t_charAt {l : Launch} {d i j : Nat} {h : Hp} (hS : St h) (hi : i < 21) (hj : j < strL.getD i 0) : Ex l (d + 4) mJ0_charAt_5068e [.ref (1001 + i), .int (nI j)] h (some (.int ((strB.getD i []).getD j 0))) h := by
  have l9 := tx_l ⟨i, hi⟩
  dsimp only at l9
  obtain ⟨b1, b2, b3⟩ := tx_b ⟨i, hi⟩ ⟨j, by omega⟩
  refine run_lv [some (.ref (1001 + i)), some (.int (nI j))] (go := ?_)
  refine go_aloadn dJ0_charAt_5068e_0 rfl ?_
  refine sg_cT (M' := mJ0_isLatin1_aae02) ([]) dJ0_charAt_5068e_1 lJ0_492 vJ0_isLatin1_aae02 hi rfl hS (t_isLatin1 hi) rfl (Nat.le_of_ble_eq_true rfl) (Nat.zero_le _) (Nat.zero_le _) ?_
  refine go_if_eq (tgt := 16) dJ0_charAt_5068e_4 (by decide) (fun c4 => absurd c4 (by decide)) (fun c4 => ?_)
  refine go_aloadn dJ0_charAt_5068e_7 rfl ?_
  refine go_sval dJ0_charAt_5068e_8 fs_val hi ?_
  refine go_iloadn dJ0_charAt_5068e_11 rfl ?_
  refine sg_cSi (M' := mJ1_charAt_3b067) ([.ref (1101 + i), .int (nI j)]) dJ0_charAt_5068e_12 lJ0_495 sJ1_charAt_3b067 hS (t_charAt1 hS hi hj) rfl (Nat.le_of_ble_eq_true rfl) (Nat.zero_le _) (Nat.zero_le _) ?_
  refine go_ireturn dJ0_charAt_5068e_15 rfl (congrArg Value.int b3) (Nat.zero_le _) (Nat.zero_le _) ?_
  exact ⟨rfl, rfl⟩
/-! where a sign stands among the signs -/
def ixG (c : Nat) : Int32 := match fsN (fun k => (strB.getD 0 []).getD k 0 = byI c) 9 with | some k => nI k | none => -1
theorem ixG_lt : ∀ c : Fin 256, (ixG c.val < 0 ↔ isG c.val = false) := by decide +kernel
theorem tx_lt : ∀ c : Fin 256, (nI c.val).toInt8.toInt32 = byI c.val ∧ (¬ nI c.val < 0) ∧ ¬ (255 < nI c.val) := by decide +kernel
theorem t_ixChar {l : Launch} {d c : Nat} {h : Hp} (hS : St h) (hc : c < 256) : Ex l (d + 1) mJ1_indexOfChar_4cfef [.ref (1101 + 0), .int (nI c), .int 0, .int 9] h (some (.int (ixG c))) h := by
  refine run_lv [some (.ref (1101 + 0)), some (.int (nI c)), some (.int 0), some (.int 9), none, none] (go := ?_)
  obtain ⟨b1, -, -⟩ := tx_lt ⟨c, hc⟩
  unfold ixG
  cases hf : fsN (fun k => (strB.getD 0 []).getD k 0 = byI c) 9 with
  | none =>
    have f1 := fs_of_none hf
    refine go_iloadn dJ1_indexOfChar_4cfef_0 rfl ?_
    refine go_i2b dJ1_indexOfChar_4cfef_1 ?_
    rw [b1]
    refine go_ist4 dJ1_indexOfChar_4cfef_2 rfl ?_
    refine go_iloadn dJ1_indexOfChar_4cfef_4 rfl ?_
    refine go_ist5 dJ1_indexOfChar_4cfef_5 rfl ?_
    skip
    refine go_cong (go_loopR (lvf := fun k => [some (.ref (1101 + 0)), some (.int (nI c)), some (.int 0), some (.int 9), some (.int (byI c)), some (.int (nI k))]) 9 (fun _ g => g = h) (fun k g hk hh ih => ?_) (fun g hh => ?_) 0 h (Nat.zero_le _) rfl) rfl rfl
    · subst hh
      refine go_iload dJ1_indexOfChar_4cfef_7 rfl ?_
      refine go_iloadn dJ1_indexOfChar_4cfef_9 rfl ?_
      refine go_icmp_ge (tgt := 31) dJ1_indexOfChar_4cfef_10 (by decide) (fun c10 => absurd c10 (nI_ge (b := 9) hk (by decide))) (fun c10 => ?_)
      refine go_aloadn dJ1_indexOfChar_4cfef_13 rfl ?_
      refine go_iload dJ1_indexOfChar_4cfef_14 rfl ?_
      refine go_bbald dJ1_indexOfChar_4cfef_16 (by decide) (show vp_in (nI k) 9 from vp_in_nI hk (by decide)) ?_
      rw [cl_nI (by omega)]
      refine go_iload dJ1_indexOfChar_4cfef_17 rfl ?_
      refine go_icmp_ne (tgt := 25) dJ1_indexOfChar_4cfef_19 (by decide) (fun c19 => ?_) (fun c19 => absurd c19 (f1 k hk))
      refine go_iinc5 (c1 := 1) dJ1_indexOfChar_4cfef_25 rfl rfl ?_
      rw [nI_1]
      refine go_goto (tgt := 7) dJ1_indexOfChar_4cfef_28 (by decide) ?_
      exact go_cong (ih _ rfl) rfl rfl
    · subst hh
      refine go_iload dJ1_indexOfChar_4cfef_7 rfl ?_
      refine go_iloadn dJ1_indexOfChar_4cfef_9 rfl ?_
      refine go_icmp_ge (tgt := 31) dJ1_indexOfChar_4cfef_10 (by decide) (fun c10 => ?_) (fun c10 => absurd (Int32.le_refl _) c10)
      refine go_iconst (v := -1) dJ1_indexOfChar_4cfef_31 rfl ?_
      refine go_ireturn dJ1_indexOfChar_4cfef_32 rfl rfl (Nat.zero_le _) (Nat.zero_le _) ?_
      exact ⟨rfl, rfl⟩
  | some m =>
    obtain ⟨f1, f2, f3⟩ := fs_of_some hf
    refine go_iloadn dJ1_indexOfChar_4cfef_0 rfl ?_
    refine go_i2b dJ1_indexOfChar_4cfef_1 ?_
    rw [b1]
    refine go_ist4 dJ1_indexOfChar_4cfef_2 rfl ?_
    refine go_iloadn dJ1_indexOfChar_4cfef_4 rfl ?_
    refine go_ist5 dJ1_indexOfChar_4cfef_5 rfl ?_
    skip
    refine go_cong (go_loopR (lvf := fun k => [some (.ref (1101 + 0)), some (.int (nI c)), some (.int 0), some (.int 9), some (.int (byI c)), some (.int (nI k))]) m (fun _ g => g = h) (fun k g hk hh ih => ?_) (fun g hh => ?_) 0 h (Nat.zero_le _) rfl) rfl rfl
    · subst hh
      refine go_iload dJ1_indexOfChar_4cfef_7 rfl ?_
      refine go_iloadn dJ1_indexOfChar_4cfef_9 rfl ?_
      refine go_icmp_ge (tgt := 31) dJ1_indexOfChar_4cfef_10 (by decide) (fun c10 => absurd c10 (nI_ge (b := 9) (by omega) (by decide))) (fun c10 => ?_)
      refine go_aloadn dJ1_indexOfChar_4cfef_13 rfl ?_
      refine go_iload dJ1_indexOfChar_4cfef_14 rfl ?_
      refine go_bbald dJ1_indexOfChar_4cfef_16 (by decide) (show vp_in (nI _) 9 from vp_in_nI (by omega) (by decide)) ?_
      rw [cl_nI (by omega)]
      refine go_iload dJ1_indexOfChar_4cfef_17 rfl ?_
      refine go_icmp_ne (tgt := 25) dJ1_indexOfChar_4cfef_19 (by decide) (fun c19 => ?_) (fun c19 => absurd c19 (f3 k hk))
      refine go_iinc5 (c1 := 1) dJ1_indexOfChar_4cfef_25 rfl rfl ?_
      rw [nI_1]
      refine go_goto (tgt := 7) dJ1_indexOfChar_4cfef_28 (by decide) ?_
      exact go_cong (ih _ rfl) rfl rfl
    · subst hh
      refine go_iload dJ1_indexOfChar_4cfef_7 rfl ?_
      refine go_iloadn dJ1_indexOfChar_4cfef_9 rfl ?_
      refine go_icmp_ge (tgt := 31) dJ1_indexOfChar_4cfef_10 (by decide) (fun c10 => absurd c10 (nI_ge (b := 9) (by omega) (by decide))) (fun c10 => ?_)
      refine go_aloadn dJ1_indexOfChar_4cfef_13 rfl ?_
      refine go_iload dJ1_indexOfChar_4cfef_14 rfl ?_
      refine go_bbald dJ1_indexOfChar_4cfef_16 (by decide) (show vp_in (nI _) 9 from vp_in_nI (by omega) (by decide)) ?_
      rw [cl_nI (by omega)]
      refine go_iload dJ1_indexOfChar_4cfef_17 rfl ?_
      refine go_icmp_ne (tgt := 25) dJ1_indexOfChar_4cfef_19 (by decide) (fun c19 => absurd f2 c19) (fun c19 => ?_)
      refine go_iload dJ1_indexOfChar_4cfef_22 rfl ?_
      refine go_ireturn dJ1_indexOfChar_4cfef_24 rfl rfl (Nat.zero_le _) (Nat.zero_le _) ?_
      exact ⟨rfl, rfl⟩
theorem t_canEncode {l : Launch} {d c : Nat} {h : Hp} (hc : c < 256) : Ex l (d + 1) mJ1_canEncode_9a6ad [.int (nI c)] h (some (.int 1)) h := by
  obtain ⟨-, b1, b2⟩ := tx_lt ⟨c, hc⟩
  refine run_lv [some (.int (nI c))] (go := ?_)
  refine go_iloadn dJ1_canEncode_9a6ad_0 rfl ?_
  refine go_if_lt (tgt := 15) dJ1_canEncode_9a6ad_1 (by decide) (fun c1 => absurd c1 b1) (fun c1 => ?_)
  refine go_iloadn dJ1_canEncode_9a6ad_4 rfl ?_
  refine go_sipush (v := 255) dJ1_canEncode_9a6ad_5 rfl ?_
  refine go_icmp_gt (tgt := 15) dJ1_canEncode_9a6ad_8 (by decide) (fun c8 => absurd c8 b2) (fun c8 => ?_)
  refine go_iconst (v := 1) dJ1_canEncode_9a6ad_11 rfl ?_
  refine go_goto (tgt := 16) dJ1_canEncode_9a6ad_12 (by decide) ?_
  refine go_ireturn dJ1_canEncode_9a6ad_16 rfl rfl (Nat.zero_le _) (Nat.zero_le _) ?_
  exact ⟨rfl, rfl⟩
theorem t_ix1 {l : Launch} {d c : Nat} {h : Hp} (hS : St h) (hc : c < 256) : Ex l (d + 2) mJ1_indexOf_4cfef [.ref (1101 + 0), .int (nI c), .int 0, .int 9] h (some (.int (ixG c))) h := by
  refine run_lv [some (.ref (1101 + 0)), some (.int (nI c)), some (.int 0), some (.int 9)] (go := ?_)
  refine go_iloadn dJ1_indexOf_4cfef_0 rfl ?_
  refine sg_cSi (M' := mJ1_canEncode_9a6ad) ([.int (nI c)]) dJ1_indexOf_4cfef_1 lJ1_88 sJ1_canEncode_9a6ad hS (t_canEncode hc) rfl (Nat.le_of_ble_eq_true rfl) (Nat.zero_le _) (Nat.zero_le _) ?_
  refine go_if_ne (tgt := 9) dJ1_indexOf_4cfef_4 (by decide) (fun c4 => ?_) (fun c4 => absurd c4 (by decide))
  refine go_iloadn dJ1_indexOf_4cfef_9 rfl ?_
  refine go_iconst (v := 0) dJ1_indexOf_4cfef_10 rfl ?_
  refine go_max dJ1_indexOf_4cfef_11 lJ1_92 (Nat.le_of_ble_eq_true rfl) (by simp only [rmOf]; omega) (by simp only [rmOf]; omega) (Nat.zero_le _) (Nat.zero_le _) ?_
  refine go_ist2 dJ1_indexOf_4cfef_14 rfl ?_
  refine go_iloadn dJ1_indexOf_4cfef_15 rfl ?_
  refine go_aloadn dJ1_indexOf_4cfef_16 rfl ?_
  refine go_blen dJ1_indexOf_4cfef_17 (by decide) rfl ?_
  refine go_min dJ1_indexOf_4cfef_18 lJ1_38 (Nat.le_of_ble_eq_true rfl) (by simp only [rmOf]; omega) (by simp only [rmOf]; omega) (Nat.zero_le _) (Nat.zero_le _) ?_
  refine go_ist3 dJ1_indexOf_4cfef_21 rfl ?_
  refine go_iloadn dJ1_indexOf_4cfef_22 rfl ?_
  refine go_iloadn dJ1_indexOf_4cfef_23 rfl ?_
  refine go_icmp_lt (tgt := 29) dJ1_indexOf_4cfef_24 (by decide) (fun c24 => ?_) (fun c24 => absurd (by decide) c24)
  refine go_aloadn dJ1_indexOf_4cfef_29 rfl ?_
  refine go_iloadn dJ1_indexOf_4cfef_30 rfl ?_
  refine go_iloadn dJ1_indexOf_4cfef_31 rfl ?_
  refine go_iloadn dJ1_indexOf_4cfef_32 rfl ?_
  refine sg_cSi (M' := mJ1_indexOfChar_4cfef) ([.ref (1101 + 0), .int (nI c), .int 0, .int 9]) dJ1_indexOf_4cfef_33 lJ1_95 sJ1_indexOfChar_4cfef hS (t_ixChar hS hc) rfl (Nat.le_of_ble_eq_true rfl) (Nat.zero_le _) (Nat.zero_le _) ?_
  refine go_ireturn dJ1_indexOf_4cfef_36 rfl rfl (Nat.zero_le _) (Nat.zero_le _) ?_
  exact ⟨rfl, rfl⟩
theorem t_ix0 {l : Launch} {d c : Nat} {h : Hp} (hS : St h) (hc : c < 256) : Ex l (d + 3) mJ0_indexOf_7cf53 [.ref (1001 + 0), .int (nI c), .int 0] h (some (.int (ixG c))) h := by
  refine run_lv [some (.ref (1001 + 0)), some (.int (nI c)), some (.int 0)] (go := ?_)
  refine go_aloadn dJ0_indexOf_7cf53_0 rfl ?_
  refine sg_cT (M' := mJ0_isLatin1_aae02) ([]) dJ0_indexOf_7cf53_1 lJ0_492 vJ0_isLatin1_aae02 (by decide) rfl hS (t_isLatin1 (by decide)) rfl (Nat.le_of_ble_eq_true rfl) (Nat.zero_le _) (Nat.zero_le _) ?_
  refine go_if_eq (tgt := 23) dJ0_indexOf_7cf53_4 (by decide) (fun c4 => absurd c4 (by decide)) (fun c4 => ?_)
  refine go_aloadn dJ0_indexOf_7cf53_7 rfl ?_
  refine go_sval dJ0_indexOf_7cf53_8 fs_val (by decide) ?_
  refine go_iloadn dJ0_indexOf_7cf53_11 rfl ?_
  refine go_iloadn dJ0_indexOf_7cf53_12 rfl ?_
  refine go_aloadn dJ0_indexOf_7cf53_13 rfl ?_
  refine sg_cT (M' := mJ0_length_8abf5) ([]) dJ0_indexOf_7cf53_14 lJ0_505 vJ0_length_8abf5 (by decide) rfl hS (t_length hS (by decide)) rfl (Nat.le_of_ble_eq_true rfl) (Nat.zero_le _) (Nat.zero_le _) ?_
  refine sg_cSi (M' := mJ1_indexOf_4cfef) ([.ref (1101 + 0), .int (nI c), .int 0, .int 9]) dJ0_indexOf_7cf53_17 lJ0_637 sJ1_indexOf_4cfef hS (t_ix1 hS hc) rfl (Nat.le_of_ble_eq_true rfl) (Nat.zero_le _) (Nat.zero_le _) ?_
  refine go_goto (tgt := 36) dJ0_indexOf_7cf53_20 (by decide) ?_
  refine go_ireturn dJ0_indexOf_7cf53_36 rfl rfl (Nat.zero_le _) (Nat.zero_le _) ?_
  exact ⟨rfl, rfl⟩
theorem t_ix {l : Launch} {d c : Nat} {h : Hp} (hS : St h) (hc : c < 256) : Ex l (d + 4) mJ0_indexOf_0f7a4 [.ref (1001 + 0), .int (nI c)] h (some (.int (ixG c))) h := by
  refine run_lv [some (.ref (1001 + 0)), some (.int (nI c))] (go := ?_)
  refine go_aloadn dJ0_indexOf_0f7a4_0 rfl ?_
  refine go_iloadn dJ0_indexOf_0f7a4_1 rfl ?_
  refine go_iconst (v := 0) dJ0_indexOf_0f7a4_2 rfl ?_
  refine sg_cT (M' := mJ0_indexOf_7cf53) ([.int (nI c), .int 0]) dJ0_indexOf_0f7a4_3 lJ0_633 vJ0_indexOf_7cf53 (by decide) rfl hS (t_ix0 hS hc) rfl (Nat.le_of_ble_eq_true rfl) (Nat.zero_le _) (Nat.zero_le _) ?_
  refine go_ireturn dJ0_indexOf_0f7a4_6 rfl rfl (Nat.zero_le _) (Nat.zero_le _) ?_
  exact ⟨rfl, rfl⟩
