/-! the tape -/
/-- a byte of a word -/
def bN (v : Int32) (s : Nat) : Nat := v.toBitVec.toNat / 2 ^ s % 256
theorem bN_lt {v : Int32} {s : Nat} : bN v s < 256 := Nat.mod_lt _ (by decide)
def pt1 (P : Nat × (Nat → Nat)) (n : Nat) : Nat × (Nat → Nat) := (P.1 + 1, fun i => if i = P.1 then n else P.2 i)
def ptK (P : Nat × (Nat → Nat)) (v : Int32) : Nat → Nat × (Nat → Nat) := foF (fun i P => pt1 P (bN v (24 - 8 * i))) P
theorem ptK_1 {P : Nat × (Nat → Nat)} {v : Int32} {k : Nat} : (ptK P v k).1 = P.1 + k := by
  induction k with
  | zero => rfl
  | succ k ih => show (ptK P v k).1 + 1 = _; rw [ih]; rfl
theorem ptK_2 {P : Nat × (Nat → Nat)} {v : Int32} {k : Nat} (h : ∀ i, P.2 i < 256) : ∀ i, (ptK P v k).2 i < 256 := by
  induction k with
  | zero => exact h
  | succ k ih =>
    intro i
    show (if i = (ptK P v k).1 then bN v (24 - 8 * k) else (ptK P v k).2 i) < 256
    split
    · exact bN_lt
    · exact ih i
theorem t8 {x y : Int32} (h : x.toBitVec.toNat % 256 = y.toBitVec.toNat % 256) : x.toInt8.toInt32 = y.toInt8.toInt32 := by
  have : x.toInt8 = y.toInt8 := by
    refine Int8.toBitVec_inj.mp ?_
    show x.toBitVec.signExtend 8 = y.toBitVec.signExtend 8
    rw [BitVec.signExtend_eq_setWidth_of_le _ (by decide), BitVec.signExtend_eq_setWidth_of_le _ (by decide)]
    refine BitVec.eq_of_toNat_eq ?_
    rw [BitVec.toNat_setWidth, BitVec.toNat_setWidth]; exact h
  rw [this]
theorem us_k : ∀ k : Fin 4, (((nI (24 - 8 * k.val)).toUInt32 &&& Int32.toUInt32 31).toBitVec % 32).toNat = 24 - 8 * k.val := by decide
theorem ss_k : ∀ k : Fin 4, ((nI (24 - 8 * k.val) &&& 31).toBitVec.smod 32).toNat = 24 - 8 * k.val := by decide
theorem by_us {v : Int32} {k : Nat} (hk : k < 4) : (usR v (nI (24 - 8 * k))).toInt8.toInt32 = byI (bN v (24 - 8 * k)) := by
  unfold byI
  refine t8 ?_
  have := pk_ushr v (nI (24 - 8 * k)) (24 - 8 * k) (us_k ⟨k, hk⟩)
  rw [this, bN]
  have e : (nI (v.toBitVec.toNat / 2 ^ (24 - 8 * k) % 256)).toBitVec.toNat = v.toBitVec.toNat / 2 ^ (24 - 8 * k) % 256 := by
    have := Nat.mod_lt (v.toBitVec.toNat / 2 ^ (24 - 8 * k)) (show 0 < 256 by decide)
    generalize v.toBitVec.toNat / 2 ^ (24 - 8 * k) % 256 = m at *
    show (BitVec.ofNat 32 m).toNat = m
    rw [BitVec.toNat_ofNat]; omega
  rw [e, Nat.mod_mod]
theorem by_ss {v : Int32} {k : Nat} (hk : k < 4) : (v >>> (nI (24 - 8 * k) &&& 31)) &&& 255 = nI (bN v (24 - 8 * k)) := by
  rw [pk_and _ 8 (by decide)]
  have h1 := pk_shr v (nI (24 - 8 * k) &&& 31) (24 - 8 * k) (ss_k ⟨k, hk⟩)
  have n1 := v.toBitVec.isLt
  have n2 := (v >>> (nI (24 - 8 * k) &&& 31)).toBitVec.isLt
  rw [Int.shiftRight_eq_div_pow, toI_n, toI_n] at h1
  unfold bN
  generalize v.toBitVec.toNat = n at *
  generalize (v >>> (nI (24 - 8 * k) &&& 31)).toBitVec.toNat = m at *
  have : m % 2 ^ 8 = n / 2 ^ (24 - 8 * k) % 256 := by
    have : k = 0 ∨ k = 1 ∨ k = 2 ∨ k = 3 := by omega
    rcases this with rfl | rfl | rfl | rfl <;> (split at h1 <;> split at h1 <;> simp at * <;> omega)
  rw [this]
theorem s8n {k : Nat} (hk : k < 4) : nI (32 - 8 * k) - 8 = nI (24 - 8 * k) := by
  have : k = 0 ∨ k = 1 ∨ k = 2 ∨ k = 3 := by omega
  rcases this with rfl | rfl | rfl | rfl <;> rfl
theorem s8s {k : Nat} (hk : k < 4) : nI (24 - 8 * k) + -8 = nI (32 - 8 * (k + 1)) - 8 := by
  have : k = 0 ∨ k = 1 ∨ k = 2 ∨ k = 3 := by omega
  rcases this with rfl | rfl | rfl | rfl <;> rfl
theorem nI_nn {n : Nat} (h : n < 2 ^ 31) : (0 : Int32) ≤ nI n := nI_le (a := 0) (Nat.zero_le _) h
theorem by_nar {n : Nat} : vp_nar .byte (byI n) = byI n := by
  show (byI n).toInt8.toInt32 = byI n
  unfold byI
  rw [Int8.toInt8_toInt32]
/-- the tape of the class -/
def TPc (g : Hp) (P : Nat × (Nat → Nat)) : Prop := hI g 0 1 = nI P.1 ∧ ∀ i, i < P.1 → hI g 1 i = byI (P.2 i)
def SP (a k : Nat) : Prop := (a = 0 ∧ k = 1) ∨ a = 1
theorem tp_1 {g : Hp} {P : Nat × (Nat → Nat)} {n : Nat} (H : TPc g P) : TPc (uI (uI g 1 P.1 (byI n)) 0 1 (nI (P.1 + 1))) (pt1 P n) := by
  refine ⟨hI_uI_eq, fun i hi => ?_⟩
  have hi : i < P.1 + 1 := hi
  show _ = byI (if i = P.1 then n else P.2 i)
  rw [hI_uI_ne (by omega)]
  by_cases z : i = P.1
  · rw [z, hI_uI_eq, if_pos rfl]
  · rw [hI_uI_ne (by omega), if_neg z]; exact H.2 i (by omega)
theorem r_putBytes {l : Launch} {d : Nat} {v : Int32} {P : Nat × (Nat → Nat)} {h : Hp} (hS : St h) (H : TPc h P) (hP : P.1 + 4 ≤ 700) : Ey l (d + 1) mX9_putBytes [.ref 0, .int v] h none (fun g => Fz SP h g ∧ TPc g (ptK P v 4)) := by
  refine run_lv [some (.ref 0), some (.int v), none] (go := ?_)
  refine go_bipush (v := 24) dX9_putBytes_0 rfl ?_
  refine go_ist2 dX9_putBytes_2 rfl ?_
  refine go_cong (go_loopR (lvf := fun k => [some (.ref 0), some (.int v), some (.int (nI (32 - 8 * k) - 8))]) 4 (fun k g => Fz SP h g ∧ TPc g (ptK P v k)) (fun k g hk hh ih => ?_) (fun g hh => ?_) 0 h (Nat.zero_le _) ⟨Fz.rf, H⟩) rfl rfl
  · obtain ⟨F, e⟩ := hh
    have hS := F.St hS
    have e1 := e.1
    rw [ptK_1] at e1
    have h2 := tp_1 (n := bN v (24 - 8 * k)) e
    rw [ptK_1] at h2
    rw [s8n hk]
    refine go_iloadn dX9_putBytes_3 rfl ?_
    refine go_if_lt (tgt := 46) dX9_putBytes_4 (by decide) (fun c4 => absurd c4 (Int32.not_lt.mpr (nI_nn (by omega)))) (fun c4 => ?_)
    refine go_aloadn dX9_putBytes_7 rfl ?_
    refine sg_getI dX9_putBytes_8 fX9_93 rfl (wo_L rfl) hS ?_
    refine go_sipush (v := 700) dX9_putBytes_11 rfl ?_
    rw [e1]
    refine go_icmp_ge (tgt := 40) dX9_putBytes_14 (by decide) (fun c14 => absurd c14 (nI_ge (b := 700) (by omega) (by decide))) (fun c14 => ?_)
    refine go_aloadn dX9_putBytes_17 rfl ?_
    refine sg_getR dX9_putBytes_18 fX9_9 rfl (wo_L rfl) hS (wo_r0 hS rfl) ?_
    refine go_aloadn dX9_putBytes_21 rfl ?_
    refine sg_getI dX9_putBytes_22 fX9_93 rfl (wo_L rfl) hS ?_
    rw [e1]
    refine go_iloadn dX9_putBytes_25 rfl ?_
    refine go_iloadn dX9_putBytes_26 rfl ?_
    refine go_iushr dX9_putBytes_27 ?_
    refine go_i2b dX9_putBytes_28 ?_
    rw [by_us hk]
    refine sg_bast dX9_putBytes_29 (wo_0 rfl) hS (vp_in_nI (by omega) (by decide)) ?_
    refine go_aloadn dX9_putBytes_30 rfl ?_
    refine go_dup dX9_putBytes_31 rfl ?_
    refine sg_getI dX9_putBytes_32 fX9_93 rfl (wo_L rfl) hS ?_
    refine go_iconst (v := 1) dX9_putBytes_35 rfl ?_
    refine go_iadd dX9_putBytes_36 ?_
    rw [hI_uI_ne (by omega), e1, nI_1]
    refine sg_putI dX9_putBytes_37 fX9_93 rfl rfl (wo_L rfl) hS ?_
    refine go_iinc2 (c1 := -8) dX9_putBytes_40 rfl rfl ?_
    refine go_goto (tgt := 3) dX9_putBytes_43 (by decide) ?_
    exact go_cong (ih (uI (uI g 1 (P.1 + k) (byI (bN v (24 - 8 * k)))) 0 1 (nI (P.1 + k + 1))) ⟨(F.uI (Or.inr rfl)).uI (Or.inl ⟨rfl, rfl⟩), h2⟩) (by rw [s8s hk]) (by rw [cl_nI (by omega), by_nar])
  · obtain ⟨F, e⟩ := hh
    have hS := F.St hS
    refine go_iloadn dX9_putBytes_3 rfl ?_
    refine go_if_lt (tgt := 46) dX9_putBytes_4 (by decide) (fun c4 => ?_) (fun c4 => absurd (by decide) c4)
    refine go_return dX9_putBytes_46 rfl (Nat.zero_le _) (Nat.zero_le _) ?_
    exact ⟨rfl, F, e⟩
/-- five words -/
def fdP (P : Nat × (Nat → Nat)) (a b c d e : Int32) : Nat × (Nat → Nat) := ptK (ptK (ptK (ptK (ptK P a 4) b 4) c 4) d 4) e 4
theorem fd_1 {P : Nat × (Nat → Nat)} {a b c d e : Int32} : (fdP P a b c d e).1 = P.1 + 20 := by
  unfold fdP; rw [ptK_1, ptK_1, ptK_1, ptK_1, ptK_1]
def fdS (S : Sx) (P : Nat × (Nat → Nat)) : Sx := (sC S, sT S, sA S, sQ S, sM S, P, sF S, sR S)
def oFeed (S : Sx) (a b c d e : Int32) : Sa := if (sP S).1 + 20 ≤ 700 then (0, nI ((sP S).1 + 20), fdS S (fdP (sP S) a b c d e)) else (0, -1, S)
theorem TPc.fz {S : Nat → Nat → Prop} {h g : Hp} {P : Nat × (Nat → Nat)} (H : TPc h P) (F : Fz S h g) (hs : ¬ S 0 1 ∧ ∀ k, ¬ S 1 k) : TPc g P := ⟨by rw [F.I hs.1]; exact H.1, fun i hi => by rw [F.I (hs.2 _)]; exact H.2 i hi⟩
theorem fz_fw {h g : Hp} (F : Fz SP h g) : Fw h g := ⟨F.2.1, F.2.2.1, fun a ha => ⟨fun k => F.I (by unfold SP; omega), fun k => by rw [F.1]⟩⟩
theorem ki_tape {h g : Hp} {S : Sx} {P : Nat × (Nat → Nat)} (K : KI h S) (F : Fz SP h g) (H : TPc g P) : KI g (fdS S P) := by
  obtain ⟨c, c', fs, fr, z, h0, K1, h1, h2, h3, ⟨h4, h5⟩, h6, h7⟩ := K
  have e : ∀ a k, ¬ SP a k → hI g a k = hI h a k := fun a k q => F.I q
  refine ⟨c, c', fs, fr, z, by rw [F.1]; exact h0, K1.fr F.1 F.2.1 (fun a k q => e a k (by unfold SP; omega)), h1.fr (fun k => e _ _ (by unfold SP; omega)) (funext fun k => e _ _ (by unfold SP; omega)), h2.eq (fun i hi k => e _ _ (by unfold SP; omega)), ?_, H, by rw [e _ _ (by unfold SP; omega)]; exact h6, fun i hi => by rw [e _ _ (by unfold SP; omega)]; exact h7 i hi⟩
  cases hm : sM S with
  | none =>
    rw [hm] at h3
    have h3 : hI h 0 10 = 0 := h3
    show IMr g _ (sM S)
    rw [hm]
    exact (e _ _ (by unfold SP; omega)).trans h3
  | some I =>
    rw [hm] at h3
    obtain ⟨i1, i2, i3, i4⟩ := h3
    show IMr g _ (sM S)
    rw [hm]
    exact ⟨(e _ _ (by unfold SP; omega)).trans i1, by rw [show hI g 48 = hI h 48 from funext fun k => e _ _ (by unfold SP; omega)]; exact i2, i3.fr (fun k => e _ _ (by unfold SP; omega)) (funext fun k => e _ _ (by unfold SP; omega)), i4.eq (fun i hi k => e _ _ (by unfold SP; omega))⟩
theorem k_feed {l : Launch} {d : Nat} {v1 v2 v3 v4 v5 : Int32} {S : Sx} {h : Hp} (W : WS S) (K : KI h S) : Ka l (d + 7) mX9_feed [.ref 0, .int v1, .int v2, .int v3, .int v4, .int v5] h (oFeed S v1 v2 v3 v4 v5) := by
  have K0 := K
  obtain ⟨c, c', fs, fr, z, h0, K1, h1, h2, h3, h4, h6, h7⟩ := K
  have hS := K1.2.1.hc.2.2
  have hT : TPc h (sP S) := h4
  have w7 := W.2.2.2.2.2.1
  refine run_lv [some (.ref 0), some (.int v1), some (.int v2), some (.int v3), some (.int v4), some (.int v5)] (go := ?_)
  unfold oFeed
  by_cases q : (sP S).1 + 20 ≤ 700
  · rw [if_pos q]
    refine go_aloadn dX9_feed_0 rfl ?_
    refine sg_getI dX9_feed_1 fX9_93 rfl (wo_L rfl) hS ?_
    refine go_bipush (v := 20) dX9_feed_4 rfl ?_
    rw [h4.1]
    refine go_iadd dX9_feed_6 ?_
    refine go_sipush (v := 700) dX9_feed_7 rfl ?_
    rw [show (20 : Int32) = nI 20 from rfl, nI_add]
    refine go_icmp_le (tgt := 15) dX9_feed_10 (by decide) (fun c10 => ?_) (fun c10 => absurd (nI_le (b := 700) q (by decide)) c10)
    refine go_aloadn dX9_feed_15 rfl ?_
    refine go_iloadn dX9_feed_16 rfl ?_
    refine sg_rV0 (M' := mX9_putBytes) ([.int v1]) dX9_feed_17 lX9_96 vX9_putBytes (wo_L rfl) (by decide) rfl hS (r_putBytes hS hT (by omega)) rfl (Nat.le_of_ble_eq_true rfl) (Nat.zero_le _) (Nat.zero_le _) (fun g1 F1 => ?_)
    have hS := F1.1.St hS
    refine go_aloadn dX9_feed_20 rfl ?_
    refine go_iloadn dX9_feed_21 rfl ?_
    refine sg_rV0 (M' := mX9_putBytes) ([.int v2]) dX9_feed_22 lX9_96 vX9_putBytes (wo_L rfl) (by decide) rfl hS (r_putBytes hS F1.2 (by rw [ptK_1]; omega)) rfl (Nat.le_of_ble_eq_true rfl) (Nat.zero_le _) (Nat.zero_le _) (fun g2 F2 => ?_)
    have hS := F2.1.St hS
    refine go_aloadn dX9_feed_25 rfl ?_
    refine go_iloadn dX9_feed_26 rfl ?_
    refine sg_rV0 (M' := mX9_putBytes) ([.int v3]) dX9_feed_27 lX9_96 vX9_putBytes (wo_L rfl) (by decide) rfl hS (r_putBytes hS F2.2 (by rw [ptK_1, ptK_1]; omega)) rfl (Nat.le_of_ble_eq_true rfl) (Nat.zero_le _) (Nat.zero_le _) (fun g3 F3 => ?_)
    have hS := F3.1.St hS
    refine go_aloadn dX9_feed_30 rfl ?_
    refine go_iload dX9_feed_31 rfl ?_
    refine sg_rV0 (M' := mX9_putBytes) ([.int v4]) dX9_feed_33 lX9_96 vX9_putBytes (wo_L rfl) (by decide) rfl hS (r_putBytes hS F3.2 (by rw [ptK_1, ptK_1, ptK_1]; omega)) rfl (Nat.le_of_ble_eq_true rfl) (Nat.zero_le _) (Nat.zero_le _) (fun g4 F4 => ?_)
    have hS := F4.1.St hS
    refine go_aloadn dX9_feed_36 rfl ?_
    refine go_iload dX9_feed_37 rfl ?_
    refine sg_rV0 (M' := mX9_putBytes) ([.int v5]) dX9_feed_39 lX9_96 vX9_putBytes (wo_L rfl) (by decide) rfl hS (r_putBytes hS F4.2 (by rw [ptK_1, ptK_1, ptK_1, ptK_1]; omega)) rfl (Nat.le_of_ble_eq_true rfl) (Nat.zero_le _) (Nat.zero_le _) (fun g5 F5 => ?_)
    have hS := F5.1.St hS
    refine go_aloadn dX9_feed_42 rfl ?_
    refine sg_getI dX9_feed_43 fX9_93 rfl (wo_L rfl) hS ?_
    rw [F5.2.1]
    refine go_ireturn dX9_feed_46 rfl rfl (Nat.zero_le _) (Nat.zero_le _) ?_
    exact (have FF := (((F1.1.tr F2.1).tr F3.1).tr F4.1).tr F5.1; ⟨⟨rfl, congrArg (fun z => some (Value.int (nI z))) fd_1⟩, ki_tape K0 FF F5.2, fz_fw FF⟩)
  · rw [if_neg q]
    refine go_aloadn dX9_feed_0 rfl ?_
    refine sg_getI dX9_feed_1 fX9_93 rfl (wo_L rfl) hS ?_
    refine go_bipush (v := 20) dX9_feed_4 rfl ?_
    rw [h4.1]
    refine go_iadd dX9_feed_6 ?_
    refine go_sipush (v := 700) dX9_feed_7 rfl ?_
    rw [show (20 : Int32) = nI 20 from rfl, nI_add]
    refine go_icmp_le (tgt := 15) dX9_feed_10 (by decide) (fun c10 => absurd c10 (Int32.not_le.mpr (nI_lt (a := 700) (by omega) (by omega)))) (fun c10 => ?_)
    refine go_iconst (v := -1) dX9_feed_13 rfl ?_
    refine go_ireturn dX9_feed_14 rfl rfl (Nat.zero_le _) (Nat.zero_le _) ?_
    exact ⟨⟨rfl, rfl⟩, K0, Fw.rf⟩
/-- the tape of the model -/
def TPm (g : Hp) (P : Nat × (Nat → Nat)) : Prop := hI g 77 12 = nI P.1 ∧ ∀ i, i < P.1 → hI g 82 i = nI (P.2 i)
def SQ (a k : Nat) : Prop := (a = 77 ∧ k = 12) ∨ a = 82
theorem tm_1 {g : Hp} {P : Nat × (Nat → Nat)} {n : Nat} (H : TPm g P) : TPm (uI (uI g 82 P.1 (nI n)) 77 12 (nI (P.1 + 1))) (pt1 P n) := by
  refine ⟨hI_uI_eq, fun i hi => ?_⟩
  have hi : i < P.1 + 1 := hi
  show _ = nI (if i = P.1 then n else P.2 i)
  rw [hI_uI_ne (by omega)]
  by_cases z : i = P.1
  · rw [z, hI_uI_eq, if_pos rfl]
  · rw [hI_uI_ne (by omega), if_neg z]; exact H.2 i (by omega)
theorem q_lays {l : Launch} {d : Nat} {v : Int32} {P : Nat × (Nat → Nat)} {h : Hp} (hS : St h) (H : TPm h P) (hP : P.1 + 4 ≤ 700) : Ey l (d + 1) mX10_lays [.ref 77, .int v] h none (fun g => Fz SQ h g ∧ TPm g (ptK P v 4)) := by
  refine run_lv [some (.ref 77), some (.int v), none] (go := ?_)
  refine go_bipush (v := 24) dX10_lays_0 rfl ?_
  refine go_ist2 dX10_lays_2 rfl ?_
  refine go_cong (go_loopR (lvf := fun k => [some (.ref 77), some (.int v), some (.int (nI (32 - 8 * k) - 8))]) 4 (fun k g => Fz SQ h g ∧ TPm g (ptK P v k)) (fun k g hk hh ih => ?_) (fun g hh => ?_) 0 h (Nat.zero_le _) ⟨Fz.rf, H⟩) rfl rfl
  · obtain ⟨F, e⟩ := hh
    have hS := F.St hS
    have e1 := e.1
    rw [ptK_1] at e1
    have h2 := tm_1 (n := bN v (24 - 8 * k)) e
    rw [ptK_1] at h2
    rw [s8n hk]
    refine go_iloadn dX10_lays_3 rfl ?_
    refine go_if_lt (tgt := 39) dX10_lays_4 (by decide) (fun c4 => absurd c4 (Int32.not_lt.mpr (nI_nn (by omega)))) (fun c4 => ?_)
    refine go_aloadn dX10_lays_7 rfl ?_
    refine sg_getR dX10_lays_8 fX10_36 rfl (mo_L rfl) hS (mo_r11 hS rfl) ?_
    refine go_aloadn dX10_lays_11 rfl ?_
    refine sg_getI dX10_lays_12 fX10_105 rfl (mo_L rfl) hS ?_
    rw [e1]
    refine go_iloadn dX10_lays_15 rfl ?_
    refine go_iloadn dX10_lays_16 rfl ?_
    refine go_ishr dX10_lays_17 ?_
    refine go_sipush (v := 255) dX10_lays_18 rfl ?_
    refine go_iand dX10_lays_21 ?_
    rw [by_ss hk]
    refine sg_iastN (i := P.1 + k) dX10_lays_22 (mo_11 rfl) hS (by simp only [lit_nI, nI_add, pk_mul, Nat.add_assoc, Nat.zero_add, Nat.add_zero]) (by omega) ?_
    refine go_aloadn dX10_lays_23 rfl ?_
    refine go_dup dX10_lays_24 rfl ?_
    refine sg_getI dX10_lays_25 fX10_105 rfl (mo_L rfl) hS ?_
    refine go_iconst (v := 1) dX10_lays_28 rfl ?_
    refine go_iadd dX10_lays_29 ?_
    rw [hI_uI_ne (by omega), e1, nI_1]
    refine sg_putI dX10_lays_30 fX10_105 rfl rfl (mo_L rfl) hS ?_
    refine go_iinc2 (c1 := -8) dX10_lays_33 rfl rfl ?_
    refine go_goto (tgt := 3) dX10_lays_36 (by decide) ?_
    exact go_cong (ih (uI (uI g 82 (P.1 + k) (nI (bN v (24 - 8 * k)))) 77 12 (nI (P.1 + k + 1))) ⟨(F.uI (Or.inr rfl)).uI (Or.inl ⟨rfl, rfl⟩), h2⟩) (by rw [s8s hk]) rfl
  · obtain ⟨F, e⟩ := hh
    have hS := F.St hS
    refine go_iloadn dX10_lays_3 rfl ?_
    refine go_if_lt (tgt := 39) dX10_lays_4 (by decide) (fun c4 => ?_) (fun c4 => absurd (by decide) c4)
    refine go_return dX10_lays_39 rfl (Nat.zero_le _) (Nat.zero_le _) ?_
    exact ⟨rfl, F, e⟩
theorem MVr.tape {h g : Hp} {C : Cy} {A : List Tn} {Q : Nt} {I : Option (Tn × List Tn × Nt)} {P P' : Nat × (Nat → Nat)} {f : Int32} {R : Nat → Int32} (K : MVr h C A Q I P f R) (F : Fz SQ h g) (hP : TPm g P') : MVr g C A Q I P' f R := by
  obtain ⟨h1, h2, h3, -, h6, h7⟩ := K
  have e92 : hI g 92 = hI h 92 := funext fun k => F.I (by unfold SQ; omega)
  refine ⟨by rw [e92, F.I (by unfold SQ; omega)]; exact h1, h2.fz F (by unfold SQ; exact ⟨by omega, fun k => by omega⟩), h3.eq (fun k a q => F.I (by unfold SQ; omega)), hP, by rw [F.I (by unfold SQ; omega)]; exact h6, fun i hi => by rw [F.I (by unfold SQ; omega)]; exact h7 i hi⟩
theorem m_feed {l : Launch} {d : Nat} {v1 v2 v3 v4 v5 : Int32} {S : Sx} {h : Hp} (W : WS S) (K : MV h S) : Mo l (d + 3) mX10_feed [.ref 77, .int v1, .int v2, .int v3, .int v4, .int v5] h (oFeed S v1 v2 v3 v4 v5) := by
  have hS := K.St
  have w7 := W.2.2.2.2.2.1
  refine run_lv [some (.ref 77), some (.int v1), some (.int v2), some (.int v3), some (.int v4), some (.int v5)] (go := ?_)
  unfold oFeed
  refine go_aloadn dX10_feed_0 rfl ?_
  refine go_iconst (v := 0) dX10_feed_1 rfl ?_
  refine sg_putI dX10_feed_2 fX10_102 rfl rfl (mo_L rfl) hS ?_
  have hF : Fz SM h (uI h 77 0 0) := Fz.rf.uI sm0
  have KM := K.sm W.1 hF
  have h0 : hI (uI h 77 0 0) 77 0 = 0 := hI_uI_eq
  generalize uI h 77 0 0 = h1 at *
  have hS := KM.St
  obtain ⟨as, ar, H, KR⟩ := id KM
  have hT : TPm h1 (sP S) := KR.2.2.2.1
  by_cases q : (sP S).1 + 20 ≤ 700
  · rw [if_pos q]
    refine go_aloadn dX10_feed_5 rfl ?_
    refine sg_getI dX10_feed_6 fX10_105 rfl (mo_L rfl) hS ?_
    refine go_bipush (v := 20) dX10_feed_9 rfl ?_
    rw [hT.1]
    refine go_iadd dX10_feed_11 ?_
    refine go_sipush (v := 700) dX10_feed_12 rfl ?_
    rw [show (20 : Int32) = nI 20 from rfl, nI_add]
    refine go_icmp_le (tgt := 20) dX10_feed_15 (by decide) (fun c15 => ?_) (fun c15 => absurd (nI_le (b := 700) q (by decide)) c15)
    refine go_aloadn dX10_feed_20 rfl ?_
    refine go_iloadn dX10_feed_21 rfl ?_
    refine sg_rV0 (M' := mX10_lays) ([.int v1]) dX10_feed_22 lX10_108 vX10_lays (mo_L rfl) (by decide) rfl hS (q_lays hS hT (by omega)) rfl (Nat.le_of_ble_eq_true rfl) (Nat.zero_le _) (Nat.zero_le _) (fun g1 F1 => ?_)
    have hS := F1.1.St hS
    refine go_aloadn dX10_feed_25 rfl ?_
    refine go_iloadn dX10_feed_26 rfl ?_
    refine sg_rV0 (M' := mX10_lays) ([.int v2]) dX10_feed_27 lX10_108 vX10_lays (mo_L rfl) (by decide) rfl hS (q_lays hS F1.2 (by rw [ptK_1]; omega)) rfl (Nat.le_of_ble_eq_true rfl) (Nat.zero_le _) (Nat.zero_le _) (fun g2 F2 => ?_)
    have hS := F2.1.St hS
    refine go_aloadn dX10_feed_30 rfl ?_
    refine go_iloadn dX10_feed_31 rfl ?_
    refine sg_rV0 (M' := mX10_lays) ([.int v3]) dX10_feed_32 lX10_108 vX10_lays (mo_L rfl) (by decide) rfl hS (q_lays hS F2.2 (by rw [ptK_1, ptK_1]; omega)) rfl (Nat.le_of_ble_eq_true rfl) (Nat.zero_le _) (Nat.zero_le _) (fun g3 F3 => ?_)
    have hS := F3.1.St hS
    refine go_aloadn dX10_feed_35 rfl ?_
    refine go_iload dX10_feed_36 rfl ?_
    refine sg_rV0 (M' := mX10_lays) ([.int v4]) dX10_feed_38 lX10_108 vX10_lays (mo_L rfl) (by decide) rfl hS (q_lays hS F3.2 (by rw [ptK_1, ptK_1, ptK_1]; omega)) rfl (Nat.le_of_ble_eq_true rfl) (Nat.zero_le _) (Nat.zero_le _) (fun g4 F4 => ?_)
    have hS := F4.1.St hS
    refine go_aloadn dX10_feed_41 rfl ?_
    refine go_iload dX10_feed_42 rfl ?_
    refine sg_rV0 (M' := mX10_lays) ([.int v5]) dX10_feed_44 lX10_108 vX10_lays (mo_L rfl) (by decide) rfl hS (q_lays hS F4.2 (by rw [ptK_1, ptK_1, ptK_1, ptK_1]; omega)) rfl (Nat.le_of_ble_eq_true rfl) (Nat.zero_le _) (Nat.zero_le _) (fun g5 F5 => ?_)
    have hS := F5.1.St hS
    refine go_aloadn dX10_feed_47 rfl ?_
    refine sg_getI dX10_feed_48 fX10_105 rfl (mo_L rfl) hS ?_
    rw [F5.2.1]
    refine go_ireturn dX10_feed_51 rfl rfl (Nat.zero_le _) (Nat.zero_le _) ?_
    exact (have FF := (((F1.1.tr F2.1).tr F3.1).tr F4.1).tr F5.1; qo_ok (congrArg nI fd_1) (by rw [FF.I (by unfold SQ; omega)]; exact h0) ⟨as, ar, ⟨H.1.fz FF (fun a k q => by unfold SQ at q; omega), H.2.1.fz W.1 FF (fun k _ _ => by unfold SQ; omega), by rw [FF.I (by unfold SQ; omega)]; exact H.2.2⟩, KR.tape FF F5.2⟩ (hF.sa.tr (FF.sub (fun a k q => by unfold SQ at q; unfold SA; omega))))
  · rw [if_neg q]
    refine go_aloadn dX10_feed_5 rfl ?_
    refine sg_getI dX10_feed_6 fX10_105 rfl (mo_L rfl) hS ?_
    refine go_bipush (v := 20) dX10_feed_9 rfl ?_
    rw [hT.1]
    refine go_iadd dX10_feed_11 ?_
    refine go_sipush (v := 700) dX10_feed_12 rfl ?_
    rw [show (20 : Int32) = nI 20 from rfl, nI_add]
    refine go_icmp_le (tgt := 20) dX10_feed_15 (by decide) (fun c15 => absurd c15 (Int32.not_le.mpr (nI_lt (a := 700) (by omega) (by omega)))) (fun c15 => ?_)
    refine go_iconst (v := -1) dX10_feed_18 rfl ?_
    refine go_ireturn dX10_feed_19 rfl rfl (Nat.zero_le _) (Nat.zero_le _) ?_
    exact qo_ok rfl h0 KM hF.sa
