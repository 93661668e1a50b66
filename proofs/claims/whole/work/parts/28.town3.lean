/-! Town: what is left of its queries; copying -/
def Ey (l : Launch) (d : Nat) (M : MI) (as : List Value) (h : Hp) (r : Option Value) (Q : Hp → Prop) : Prop := Run l d (0, 0) M as h (fun v h1 => v = r ∧ Q h1) noX
section
variable {l : Launch} {M : MI} {n0 : Nat} {Z : ZT} {pc : Nat} {lv : List (Option Value)} {st : List Value} {h : Hp} {Q : Hp → Prop} {u w d : Nat} {B0 : Nat × Nat}
theorem sg_rVi {M' : MI} {x : Value} (as : List Value) {a ci idx : Nat} {stk : List Value} (hd : decode M.2.1 pc = .ok (.invokevirtual idx, 3)) (hl : inG (.methodLink M.1.cls idx M'.1)) (hc : CV M' as.length) (ha : lay a = .inl ci) (hci : ci < 11) (hcl : clR ci = M'.1.cls) (hS : St h)
    (hr : Ey l d M' (.ref a :: as) h (some x) Q) (hstk : stk = as.reverse ++ .ref a :: st) (hst : (st.map (fun v => v.category)).sum ≤ 8) (hu : u ≤ B0.1) (hw : w ≤ B0.2)
    (kk : ∀ h', Q h' → Go l (rmOf (d + 1) B0) M n0 Z (pc + 3) lv (x :: st) h' u w) : Go l (rmOf (d + 1) B0) M n0 Z pc lv stk h u w :=
  sg_callV as hd hl hc ha hci hcl hS hr hstk hst hu hw (fun v h1 q => by obtain ⟨rfl, q⟩ := q; exact kk h1 q)
theorem sg_rV0 {M' : MI} (as : List Value) {a ci idx : Nat} {stk : List Value} (hd : decode M.2.1 pc = .ok (.invokevirtual idx, 3)) (hl : inG (.methodLink M.1.cls idx M'.1)) (hc : CV M' as.length) (ha : lay a = .inl ci) (hci : ci < 11) (hcl : clR ci = M'.1.cls) (hS : St h)
    (hr : Ey l d M' (.ref a :: as) h none Q) (hstk : stk = as.reverse ++ .ref a :: st) (hst : (st.map (fun v => v.category)).sum ≤ 8) (hu : u ≤ B0.1) (hw : w ≤ B0.2)
    (kk : ∀ h', Q h' → Go l (rmOf (d + 1) B0) M n0 Z (pc + 3) lv st h' u w) : Go l (rmOf (d + 1) B0) M n0 Z pc lv stk h u w :=
  sg_callV as hd hl hc ha hci hcl hS hr hstk hst hu hw (fun v h1 q => by obtain ⟨rfl, q⟩ := q; exact kk h1 q)
theorem sg_rSi {M' : MI} {x : Value} (as : List Value) {idx : Nat} {stk : List Value} (hd : decode M.2.1 pc = .ok (.invokestatic idx, 3)) (hl : inG (.methodLink M.1.cls idx M'.1)) (hc : CS M' as.length) (hS : St h)
    (hr : Ey l d M' as h (some x) Q) (hstk : stk = as.reverse ++ st) (hst : (st.map (fun v => v.category)).sum ≤ 8) (hu : u ≤ B0.1) (hw : w ≤ B0.2)
    (kk : ∀ h', Q h' → Go l (rmOf (d + 1) B0) M n0 Z (pc + 3) lv (x :: st) h' u w) : Go l (rmOf (d + 1) B0) M n0 Z pc lv stk h u w :=
  sg_callS as hd hl hc hS hr hstk hst hu hw (fun v h1 q => by obtain ⟨rfl, q⟩ := q; exact kk h1 q)
theorem sg_rS0 {M' : MI} (as : List Value) {idx : Nat} {stk : List Value} (hd : decode M.2.1 pc = .ok (.invokestatic idx, 3)) (hl : inG (.methodLink M.1.cls idx M'.1)) (hc : CS M' as.length) (hS : St h)
    (hr : Ey l d M' as h none Q) (hstk : stk = as.reverse ++ st) (hst : (st.map (fun v => v.category)).sum ≤ 8) (hu : u ≤ B0.1) (hw : w ≤ B0.2)
    (kk : ∀ h', Q h' → Go l (rmOf (d + 1) B0) M n0 Z (pc + 3) lv st h' u w) : Go l (rmOf (d + 1) B0) M n0 Z pc lv stk h u w :=
  sg_callS as hd hl hc hS hr hstk hst hu hw (fun v h1 q => by obtain ⟨rfl, q⟩ := q; exact kk h1 q)
/-- a loop that counts up over a heap of which something is known -/
theorem go_loopR {R : Room} {lvf : Nat → List (Option Value)} (N : Nat) (I : Nat → Hp → Prop) (body : ∀ k g, k < N → I k g → (∀ g', I (k + 1) g' → Go l R M n0 Z pc (lvf (k + 1)) st g' u w) → Go l R M n0 Z pc (lvf k) st g u w)
    (exit : ∀ g, I N g → Go l R M n0 Z pc (lvf N) st g u w) : ∀ k g, k ≤ N → I k g → Go l R M n0 Z pc (lvf k) st g u w := by
  have h : ∀ j k g, k + j = N → I k g → Go l R M n0 Z pc (lvf k) st g u w := by
    intro j
    induction j with
    | zero => intro k g hk hI; have : k = N := by omega
              subst this; exact exit g hI
    | succ j ih => intro k g hk hI; exact body k g (by omega) hI (fun g' h1 => ih (k + 1) g' (by omega) h1)
  exact fun k g hk hI => h (N - k) k g (by omega) hI
end
theorem Ex.y {l : Launch} {d : Nat} {M : MI} {as : List Value} {h h' : Hp} {r : Option Value} (q : Ex l d M as h r h') : Ey l d M as h r (fun g => g = h') := q
theorem Ey.mono {l : Launch} {d : Nat} {M : MI} {as : List Value} {h : Hp} {r : Option Value} {Q Q' : Hp → Prop} (q : Ey l d M as h r Q) (i : ∀ g, Q g → Q' g) : Ey l d M as h r Q' := Run.mono q (fun _ _ z => ⟨z.1, i _ z.2⟩) (fun _ _ z => z)
/-- ints outside S are as they were; references, longs and the count too -/
def Fr (S : Nat → Prop) (g g' : Hp) : Prop := hR g' = hR g ∧ hN g' = hN g ∧ hJ g' = hJ g ∧ ∀ a k, ¬ S a → hI g' a k = hI g a k
theorem Fr.rf {S : Nat → Prop} {g : Hp} : Fr S g g := ⟨rfl, rfl, rfl, fun _ _ _ => rfl⟩
theorem Fr.tr {S : Nat → Prop} {g g1 g2 : Hp} (h1 : Fr S g g1) (h2 : Fr S g1 g2) : Fr S g g2 := ⟨h2.1.trans h1.1, h2.2.1.trans h1.2.1, h2.2.2.1.trans h1.2.2.1, fun a k q => (h2.2.2.2 a k q).trans (h1.2.2.2 a k q)⟩
theorem Fr.uI {S : Nat → Prop} {g g1 : Hp} (h : Fr S g g1) {a k : Nat} {v : Int32} (ha : S a) : Fr S g (uI g1 a k v) := h.tr ⟨rfl, rfl, rfl, fun a' k' q => hI_uI_ne (fun z => q (z.1 ▸ ha))⟩
theorem Fr.uF {S : Nat → Prop} {g g1 : Hp} (h : Fr S g g1) {a : Nat} {f : Nat → Int32} (ha : S a) : Fr S g (uF g1 a f) := h.tr ⟨rfl, rfl, rfl, fun a' k' q => hI_uF_ne (fun z => q (z ▸ ha))⟩
theorem Fr.sub {S T : Nat → Prop} {g g' : Hp} (h : Fr S g g') (i : ∀ a, S a → T a) : Fr T g g' := ⟨h.1, h.2.1, h.2.2.1, fun a k q => h.2.2.2 a k (fun z => q (i a z))⟩
theorem Fr.I {S : Nat → Prop} {g g' : Hp} (h : Fr S g g') {a : Nat} (q : ¬ S a) : hI g' a = hI g a := funext fun k => h.2.2.2 a k q
theorem Fr.St {S : Nat → Prop} {g g' : Hp} (h : Fr S g g') (hS : St g) : St g' := ⟨h.2.1.trans hS.1, fun q hq => by rw [h.1]; exact hS.2 q hq⟩
/-- a town's scratch rows: sight, many, values, stack -/
def Ts (b a : Nat) : Prop := b + 8 ≤ a ∧ a ≤ b + 11
theorem ts_c {b c i : Nat} (hb : TownAt b) (hc : CityAt c) (hi : i ≤ 11) : ¬ Ts b (c + i) := by
  unfold Ts; rcases hb with rfl | rfl <;> rcases hc with rfl | rfl <;> omega
theorem ts_t {b i : Nat} (hi : i < 8) : ¬ Ts b (b + i) := by unfold Ts; omega
theorem ts_0 {b : Nat} : ¬ Ts b b := by unfold Ts; omega
theorem ts_i {b i : Nat} (h8 : 8 ≤ i) (hi : i ≤ 11) : Ts b (b + i) := by unfold Ts; omega
theorem ts_tt {b a : Nat} (h : Ts b a) : Tt b a := by
  obtain ⟨h1, h2⟩ := h
  obtain ⟨i, rfl⟩ : ∃ i, a = b + i := ⟨a - b, by omega⟩
  exact tt_i (by omega)
theorem plN_fs {h g : Hp} {b c p dd : Nat} (hb : TownAt b) (hc : CityAt c) (F : Fr (Ts b) h g) : plN g b c p dd = plN h b c p dd := by
  unfold plN; rw [F.I (ts_t (by omega)), F.I (ts_c hb hc (by omega))]
theorem lkA_fs {h g : Hp} {b c P p dd : Nat} (hb : TownAt b) (hc : CityAt c) (F : Fr (Ts b) h g) : lkA g b c P p dd = lkA h b c P p dd := by
  unfold lkA; simp only [plN_fs hb hc F, F.I (ts_c hb hc (show 2 ≤ 11 by omega))]
theorem r_lookers {l : Launch} {d b c N P p dd : Nat} {h : Hp} (H : TC h b c N P) (K : WK h b c P) (hp : p < P) (hd : dd < 2 ^ 31) :
    Ey l (d + 3) mX6_lookersOn [.ref b, .int (nI p), .int (nI dd)] h (some (.int (lkA h b c P p dd))) (Fr (Ts b) h) := by
  rw [← lkF_lkA H K hp hd]
  exact (r_lookersOn H K hp hd).y.mono (fun g q => by rw [q]; exact Fr.rf.uF (ts_i (by omega) (by omega)))
theorem fs_sbH {h : Hp} {b c fs ns t w : Nat} {lk : Int32} : Fr (Ts b) h (sbH h b c fs ns t w lk) := by
  unfold sbH
  split
  · exact Fr.rf
  · exact (Fr.rf.uF (ts_i (by omega) (by omega))).uF (ts_i (by omega) (by omega))
/-- the shame of today -/
theorem r_shameToday {l : Launch} {d b c N P fs ns fr nr D t : Nat} {h : Hp} (H0 : TI h b c N P fs ns fr nr D) (ht : t < N) :
    Run l (d + 4) (0, 0) mX6_shameToday [.ref b, .int (nI t)] h (fun v g => Fr (Ts b) h g ∧ ((hI h (b + 6) t = -1 ∧ v = some (.int 0)) ∨ ∃ w g1, w < P ∧ hI h (b + 6) t = nI w ∧ Fr (Ts b) h g1 ∧ v = some (.int (sbF g1 b c fs ns t w (lkA h b c P w D))))) noX := by
  obtain ⟨H, K, U, Wr, hD, hDl⟩ := id H0
  obtain ⟨hS, hb, hc, hbc, -, hN, -, hP⟩ := id H
  have e0 : (nI t).toNatClampNeg = t := cl_nI (by omega)
  have hT : vp_in (nI t) 10 := vp_in_nI (by omega) (by decide)
  refine run_lv [some (.ref b), some (.int (nI t)), none] (go := ?_)
  refine go_aloadn dX6_shameToday_0 rfl ?_
  refine sg_getR dX6_shameToday_1 fX6_27 rfl (tw_L hb) hS (tw_r8 hS hb) ?_
  refine go_iloadn dX6_shameToday_4 rfl ?_
  refine sg_iald dX6_shameToday_5 (tw_8 hb) hS (hT) ?_
  rw [e0]
  rcases Wr t ht with z | ⟨w, hw, z⟩
  · rw [z]
    refine go_ist2 dX6_shameToday_6 rfl ?_
    refine go_iloadn dX6_shameToday_7 rfl ?_
    refine go_iconst (v := -1) dX6_shameToday_8 rfl ?_
    refine go_icmp_ne (tgt := 16) dX6_shameToday_9 (by decide) (fun c9 => ?_) (fun c9 => ?_)
    · exact absurd rfl c9
    · refine go_iconst (v := 0) dX6_shameToday_12 rfl ?_
      refine go_goto (tgt := 30) dX6_shameToday_13 (by decide) ?_
      refine go_ireturn dX6_shameToday_30 rfl rfl (Nat.zero_le _) (Nat.zero_le _) ?_
      exact ⟨Fr.rf, Or.inl ⟨rfl, rfl⟩⟩
  · rw [z]
    refine go_ist2 dX6_shameToday_6 rfl ?_
    refine go_iloadn dX6_shameToday_7 rfl ?_
    refine go_iconst (v := -1) dX6_shameToday_8 rfl ?_
    refine go_icmp_ne (tgt := 16) dX6_shameToday_9 (by decide) (fun c9 => ?_) (fun c9 => ?_)
    · refine go_aloadn dX6_shameToday_16 rfl ?_
      refine go_iloadn dX6_shameToday_17 rfl ?_
      refine go_aloadn dX6_shameToday_18 rfl ?_
      refine go_iloadn dX6_shameToday_19 rfl ?_
      refine go_aloadn dX6_shameToday_20 rfl ?_
      refine sg_getI dX6_shameToday_21 fX6_51 rfl (tw_L hb) hS ?_
      rw [hD]
      refine sg_rVi (M' := mX6_lookersOn) ([.int (nI w), .int (nI D)]) dX6_shameToday_24 lX6_126 vX6_lookersOn (tw_L hb) (by decide) rfl hS (r_lookers H K hw (by omega)) rfl (Nat.le_of_ble_eq_true rfl) (Nat.zero_le _) (Nat.zero_le _) (fun g F => ?_)
      have H2 : TC g b c N P := H.fr (F.sub (fun _ => ts_tt))
      have U2 : RU g c fs ns fr nr := U.fr hb hc (F.sub (fun _ => ts_tt))
      have hS := H2.1
      have z2 : hI g (b + 6) t = nI w := by rw [F.I (ts_t (by omega))]; exact z
      refine sg_cVi (M' := mX6_shameBy) ([.int (nI t), .int _]) dX6_shameToday_27 lX6_117 vX6_shameBy (tw_L hb) (by decide) rfl hS (r_shameBy H2 U2 (by omega) (by omega) z2) rfl (Nat.le_of_ble_eq_true rfl) (Nat.zero_le _) (Nat.zero_le _) ?_
      refine go_ireturn dX6_shameToday_30 rfl rfl (Nat.zero_le _) (Nat.zero_le _) ?_
      exact ⟨F.tr fs_sbH, Or.inr ⟨w, g, hw, rfl, F, rfl⟩⟩
    · exact absurd c9 (fun q => by have := congrArg Int32.toInt q; rw [nI_toInt (by omega)] at this; simp at this)
/-- one stands always at a place -/
def saF (p : Nat) (pl : Int32) (f : Nat → Int32) : Nat → (Nat → Int32) := foF (fun i f => upd f (6 * p + i) pl) f
theorem saF_at {p : Nat} {pl : Int32} {f : Nat → Int32} {n k : Nat} : saF p pl f n k = if 6 * p ≤ k ∧ k < 6 * p + n then pl else f k := by
  induction n with
  | zero => rw [if_neg (by omega)]; rfl
  | succ n ih =>
    simp only [saF, foF] at ih ⊢
    by_cases e : k = 6 * p + n
    · subst e; rw [pk_us, if_pos (by omega)]
    · rw [pk_un e, ih]
      by_cases q : 6 * p ≤ k ∧ k < 6 * p + n
      · rw [if_pos q, if_pos (by omega)]
      · rw [if_neg q, if_neg (by omega)]
theorem r_standAlways {l : Launch} {d b p : Nat} {h : Hp} {pl : Int32} (hS : St h) (hb : TownAt b) (hp : p < 8) :
    Ex l (d + 1) mX6_standAlways [.ref b, .int (nI p), .int pl] h none (uF h (b + 3) (saF p pl (hI h (b + 3)) 6)) := by
  refine run_lv [some (.ref b), some (.int (nI p)), some (.int pl), none] (go := ?_)
  refine go_iconst (v := 0) dX6_standAlways_0 rfl ?_
  refine go_ist3 dX6_standAlways_1 rfl ?_
  refine go_cong (go_loop (lvf := fun k => [some (.ref b), some (.int (nI p)), some (.int pl), some (.int (nI k))]) (hf := fun k => uF h (b + 3) (saF p pl (hI h (b + 3)) k)) 6 (fun _ => True) (fun k hk _ ih => ?_) (fun _ => ?_) 0 (Nat.zero_le _) trivial) rfl (by exact uF_self.symm)
  · have hS : St (uF h (b + 3) (saF p pl (hI h (b + 3)) k)) := hS
    have e1 : nI p * 6 + nI k = nI (6 * p + k) := by rw [show (6 : Int32) = nI 6 from rfl, pk_mul, nI_add, Nat.mul_comm]
    refine go_iloadn dX6_standAlways_2 rfl ?_
    refine go_bipush (v := 6) dX6_standAlways_3 rfl ?_
    refine go_icmp_ge (tgt := 26) dX6_standAlways_5 (by decide) (fun c5 => ?_) (fun c5 => ?_)
    · exact absurd c5 (nI_ge (b := 6) hk (by decide))
    · refine go_aloadn dX6_standAlways_8 rfl ?_
      refine sg_getR dX6_standAlways_9 fX6_18 rfl (tw_L hb) hS (tw_r5 hS hb) ?_
      refine go_iloadn dX6_standAlways_12 rfl ?_
      refine go_bipush (v := 6) dX6_standAlways_13 rfl ?_
      refine go_imul dX6_standAlways_15 ?_
      refine go_iloadn dX6_standAlways_16 rfl ?_
      refine go_iadd dX6_standAlways_17 ?_
      refine go_iloadn dX6_standAlways_18 rfl ?_
      refine sg_iast dX6_standAlways_19 (tw_5 hb) hS (by rw [e1]; exact vp_in_nI (by omega) (by decide)) ?_
      refine go_iinc3 (c1 := 1) dX6_standAlways_20 rfl rfl ?_
      refine go_goto (tgt := 2) dX6_standAlways_23 (by decide) ?_
      exact go_cong (ih trivial) (by simp [nI_1]) (by rw [e1, cl_nI (by omega), uI_uF]; rfl)
  · have hS : St (uF h (b + 3) (saF p pl (hI h (b + 3)) 6)) := hS
    refine go_iloadn dX6_standAlways_2 rfl ?_
    refine go_bipush (v := 6) dX6_standAlways_3 rfl ?_
    refine go_icmp_ge (tgt := 26) dX6_standAlways_5 (by decide) (fun c5 => ?_) (fun c5 => ?_)
    · refine go_return dX6_standAlways_26 rfl (Nat.zero_le _) (Nat.zero_le _) ?_
      exact ⟨rfl, rfl⟩
    · exact absurd (by decide) c5
theorem nI_cs {D k : Nat} : nI D + nI (k + 1) - 1 = nI (D + k) := by
  rw [nI_add, show D + (k + 1) = (D + k) + 1 from rfl, nI_pred]
theorem r_firstTogether {l : Launch} {d b c N P fs ns fr nr D p o : Nat} {h : Hp} (H0 : TI h b c N P fs ns fr nr D) (hp : p < P) (ho : o < P) :
    Ex l (d + 2) mX6_firstTogether [.ref b, .int (nI p), .int (nI o)] h (some (.int (oN (fun k => nI (k + 1)) (fsN (fun k => plN h b c p (D + k) = plN h b c o (D + k)) 100)))) h := by
  obtain ⟨H, K, U, Wr, hD, hDl⟩ := id H0
  obtain ⟨hS, hb, hc, hbc, -⟩ := id H
  refine run_lv [some (.ref b), some (.int (nI p)), some (.int (nI o)), none] (go := ?_)
  refine go_iconst (v := 1) dX6_firstTogether_0 rfl ?_
  refine go_ist3 dX6_firstTogether_1 rfl ?_
  refine go_loop (lvf := fun k => [some (.ref b), some (.int (nI p)), some (.int (nI o)), some (.int (nI (k + 1)))]) (hf := fun _ => h) 100 (fun k => ∀ j, j < k → ¬ plN h b c p (D + j) = plN h b c o (D + j)) (fun k hk hI ih => ?_) (fun hI => ?_) 0 (Nat.zero_le _) (fun _ q => absurd q (by omega))
  · refine go_iloadn dX6_firstTogether_2 rfl ?_
    refine go_bipush (v := 100) dX6_firstTogether_3 rfl ?_
    refine go_icmp_gt (tgt := 45) dX6_firstTogether_5 (by decide) (fun c5 => ?_) (fun c5 => ?_)
    · exact absurd c5 (nI_nlt (a := 100) (by omega) (by decide))
    · refine go_aloadn dX6_firstTogether_8 rfl ?_
      refine go_iloadn dX6_firstTogether_9 rfl ?_
      refine go_aloadn dX6_firstTogether_10 rfl ?_
      refine sg_getI dX6_firstTogether_11 fX6_51 rfl (tw_L hb) hS ?_
      refine go_iloadn dX6_firstTogether_14 rfl ?_
      refine go_iadd dX6_firstTogether_15 ?_
      refine go_iconst (v := 1) dX6_firstTogether_16 rfl ?_
      refine go_isub dX6_firstTogether_17 ?_
      rw [hD, nI_cs]
      refine sg_cVi (M' := mX6_placeOn) ([.int (nI p), .int (nI (D + k))]) dX6_firstTogether_18 lX6_162 vX6_placeOn (tw_L hb) (by decide) rfl hS (r_place H K hp (by omega)) rfl (Nat.le_of_ble_eq_true rfl) (Nat.zero_le _) (Nat.zero_le _) ?_
      refine go_aloadn dX6_firstTogether_21 rfl ?_
      refine go_iloadn dX6_firstTogether_22 rfl ?_
      refine go_aloadn dX6_firstTogether_23 rfl ?_
      refine sg_getI dX6_firstTogether_24 fX6_51 rfl (tw_L hb) hS ?_
      refine go_iloadn dX6_firstTogether_27 rfl ?_
      refine go_iadd dX6_firstTogether_28 ?_
      refine go_iconst (v := 1) dX6_firstTogether_29 rfl ?_
      refine go_isub dX6_firstTogether_30 ?_
      rw [hD, nI_cs]
      refine sg_cVi (M' := mX6_placeOn) ([.int (nI o), .int (nI (D + k))]) dX6_firstTogether_31 lX6_162 vX6_placeOn (tw_L hb) (by decide) rfl hS (r_place H K ho (by omega)) rfl (Nat.le_of_ble_eq_true rfl) (Nat.zero_le _) (Nat.zero_le _) ?_
      refine go_icmp_ne (tgt := 39) dX6_firstTogether_34 (by decide) (fun c34 => ?_) (fun c34 => ?_)
      · refine go_iinc3 (c1 := 1) dX6_firstTogether_39 rfl rfl ?_
        refine go_goto (tgt := 2) dX6_firstTogether_42 (by decide) ?_
        exact go_cong (ih (fun j hj => by by_cases e : j = k; (subst e; exact c34); exact hI j (by omega))) (by simp [nI_1]) rfl
      · refine go_iloadn dX6_firstTogether_37 rfl ?_
        refine go_ireturn dX6_firstTogether_38 rfl rfl (Nat.zero_le _) (Nat.zero_le _) ?_
        exact ⟨by rw [fs_some hk c34 hI]; rfl, rfl⟩
  · refine go_iloadn dX6_firstTogether_2 rfl ?_
    refine go_bipush (v := 100) dX6_firstTogether_3 rfl ?_
    refine go_icmp_gt (tgt := 45) dX6_firstTogether_5 (by decide) (fun c5 => ?_) (fun c5 => ?_)
    · refine go_iconst (v := -1) dX6_firstTogether_45 rfl ?_
      refine go_ireturn dX6_firstTogether_46 rfl rfl (Nat.zero_le _) (Nat.zero_le _) ?_
      exact ⟨by rw [fs_none hI]; rfl, rfl⟩
    · exact absurd (by decide) c5
theorem r_isSeen {l : Launch} {d b c N P fs ns fr nr D p n : Nat} {h : Hp} (H0 : TI h b c N P fs ns fr nr D) (hp : p < P) (hn : n ≤ 100) :
    Ey l (d + 4) mX6_isSeen [.ref b, .int (nI p), .int (nI n)] h (some (.int (if fsN (fun k => ¬ lkA h b c P p (D + k) = 0) n = none then 0 else 1))) (Fr (Ts b) h) := by
  obtain ⟨H, K, U, Wr, hD, hDl⟩ := id H0
  obtain ⟨hS0, hb, hc, hbc, -⟩ := id H
  refine run_lv [some (.ref b), some (.int (nI p)), some (.int (nI n)), none] (go := ?_)
  refine go_iconst (v := 0) dX6_isSeen_0 rfl ?_
  refine go_ist3 dX6_isSeen_1 rfl ?_
  refine go_loopR (lvf := fun k => [some (.ref b), some (.int (nI p)), some (.int (nI n)), some (.int (nI k))]) n (fun k g => Fr (Ts b) h g ∧ ∀ j, j < k → ¬ ¬ lkA h b c P p (D + j) = 0) (fun k g hk hI ih => ?_) (fun g hI => ?_) 0 h (Nat.zero_le _) ⟨Fr.rf, fun _ q => absurd q (by omega)⟩
  · obtain ⟨F, hI⟩ := hI
    have H2 : TC g b c N P := H.fr (F.sub (fun _ => ts_tt))
    have K2 : WK g b c P := K.fr hb hc (F.sub (fun _ => ts_tt))
    have hS := H2.1
    have hD2 : Jvm.Pilot.@@N@@.hI g b 1 = nI D := by rw [F.I ts_0]; exact hD
    refine go_iloadn dX6_isSeen_2 rfl ?_
    refine go_iloadn dX6_isSeen_3 rfl ?_
    refine go_icmp_ge (tgt := 29) dX6_isSeen_4 (by decide) (fun c4 => ?_) (fun c4 => ?_)
    · exact absurd c4 (nI_ge hk (by omega))
    · refine go_aloadn dX6_isSeen_7 rfl ?_
      refine go_iloadn dX6_isSeen_8 rfl ?_
      refine go_aloadn dX6_isSeen_9 rfl ?_
      refine sg_getI dX6_isSeen_10 fX6_51 rfl (tw_L hb) hS ?_
      refine go_iloadn dX6_isSeen_13 rfl ?_
      refine go_iadd dX6_isSeen_14 ?_
      rw [hD2, nI_add]
      refine sg_rVi (M' := mX6_lookersOn) ([.int (nI p), .int (nI (D + k))]) dX6_isSeen_15 lX6_126 vX6_lookersOn (tw_L hb) (by decide) rfl hS (r_lookers H2 K2 hp (by omega)) rfl (Nat.le_of_ble_eq_true rfl) (Nat.zero_le _) (Nat.zero_le _) (fun g' F' => ?_)
      rw [lkA_fs hb hc F]
      refine go_if_eq (tgt := 23) dX6_isSeen_18 (by decide) (fun c18 => ?_) (fun c18 => ?_)
      · refine go_iinc3 (c1 := 1) dX6_isSeen_23 rfl rfl ?_
        refine go_goto (tgt := 2) dX6_isSeen_26 (by decide) ?_
        exact go_cong (ih g' ⟨F.tr F', fun j hj => by by_cases e : j = k; (subst e; exact not_not_intro c18); exact hI j (by omega)⟩) (by simp [nI_1]) rfl
      · refine go_iconst (v := 1) dX6_isSeen_21 rfl ?_
        refine go_ireturn dX6_isSeen_22 rfl rfl (Nat.zero_le _) (Nat.zero_le _) ?_
        exact ⟨by rw [fs_some hk c18 hI]; rfl, F.tr F'⟩
  · obtain ⟨F, hI⟩ := hI
    refine go_iloadn dX6_isSeen_2 rfl ?_
    refine go_iloadn dX6_isSeen_3 rfl ?_
    refine go_icmp_ge (tgt := 29) dX6_isSeen_4 (by decide) (fun c4 => ?_) (fun c4 => ?_)
    · refine go_iconst (v := 0) dX6_isSeen_29 rfl ?_
      refine go_ireturn dX6_isSeen_30 rfl rfl (Nat.zero_le _) (Nat.zero_le _) ?_
      exact ⟨by rw [fs_none hI]; rfl, F⟩
    · exact absurd (nI_le (Nat.le_refl _) (by omega)) c4
theorem r_unseen {l : Launch} {d b c N P fs ns fr nr D n : Nat} {h : Hp} (H0 : TI h b c N P fs ns fr nr D) (hn : n ≤ 100) :
    Ey l (d + 5) mX6_unseen [.ref b, .int (nI n)] h (some (.int (btF (fun p => ¬ btF (fun t => hI h (b + 6) t = nI p) N = 0 ∧ fsN (fun k => ¬ lkA h b c P p (D + k) = 0) n = none) P))) (Fr (Ts b) h) := by
  obtain ⟨H, K, U, Wr, hD, hDl⟩ := id H0
  obtain ⟨hS0, hb, hc, hbc, -⟩ := id H
  refine run_lv [some (.ref b), some (.int (nI n)), none, none] (go := ?_)
  refine go_iconst (v := 0) dX6_unseen_0 rfl ?_
  refine go_ist2 dX6_unseen_1 rfl ?_
  refine go_iconst (v := 0) dX6_unseen_2 rfl ?_
  refine go_ist3 dX6_unseen_3 rfl ?_
  refine go_loopR (lvf := fun k => [some (.ref b), some (.int (nI n)), some (.int (btF (fun p => ¬ btF (fun t => hI h (b + 6) t = nI p) N = 0 ∧ fsN (fun k => ¬ lkA h b c P p (D + k) = 0) n = none) k)), some (.int (nI k))]) P (fun k g => Fr (Ts b) h g) (fun k g hk F ih => ?_) (fun g F => ?_) 0 h (Nat.zero_le _) Fr.rf
  · have H2 : TI g b c N P fs ns fr nr D := H0.dy ⟨F.sub (fun _ => ts_tt), by rw [F.I ts_0], fun t => Or.inl (by rw [F.I (ts_t (by omega))])⟩
    obtain ⟨hS, -, -, hbc, -, -, hpe, hP⟩ := id H2.1
    refine go_iloadn dX6_unseen_4 rfl ?_
    refine go_aloadn dX6_unseen_5 rfl ?_
    refine sg_getR dX6_unseen_6 fX6_47 rfl (tw_L hb) hS hbc ?_
    refine sg_getI dX6_unseen_9 fX6_104 rfl (ct_L hc) hS ?_
    refine go_icmp_ge (tgt := 44) dX6_unseen_12 (by decide) (fun c12 => ?_) (fun c12 => ?_)
    · exact absurd (hpe ▸ c12) (nI_ge hk (by omega))
    · refine go_aloadn dX6_unseen_15 rfl ?_
      refine go_iloadn dX6_unseen_16 rfl ?_
      refine sg_cVi (M' := mX6_wearsBits) ([.int (nI k)]) dX6_unseen_17 lX6_165 vX6_wearsBits (tw_L hb) (by decide) rfl hS (r_wearsBits H2.1) rfl (Nat.le_of_ble_eq_true rfl) (Nat.zero_le _) (Nat.zero_le _) ?_
      simp only [F.I (ts_t (show 6 < 8 by omega))]
      refine go_if_eq (tgt := 38) dX6_unseen_20 (by decide) (fun c20 => ?_) (fun c20 => ?_)
      · refine go_iinc3 (c1 := 1) dX6_unseen_38 rfl rfl ?_
        refine go_goto (tgt := 4) dX6_unseen_41 (by decide) ?_
        first | exact go_cong (ih g' (F.tr F')) (by rw [btF]; (first | (rw [if_pos ⟨c20, by by_cases q : fsN (fun k_1 => ¬ lkA h b c P k (D + k_1) = 0) n = none; exact q; rw [if_neg q] at c29; exact absurd c29 (by decide)⟩]; simp [nI_1]; done) | (rw [if_neg (fun q => c29 (by rw [if_pos q.2]))]; simp [nI_1]))) rfl | exact go_cong (ih g F) (by rw [btF, if_neg (fun q => q.1 c20)]; simp [nI_1]) rfl
      · refine go_aloadn dX6_unseen_23 rfl ?_
        refine go_iloadn dX6_unseen_24 rfl ?_
        refine go_iloadn dX6_unseen_25 rfl ?_
        refine sg_rVi (M' := mX6_isSeen) ([.int (nI k), .int (nI n)]) dX6_unseen_26 lX6_168 vX6_isSeen (tw_L hb) (by decide) rfl hS (r_isSeen H2 hk hn) rfl (Nat.le_of_ble_eq_true rfl) (Nat.zero_le _) (Nat.zero_le _) (fun g' F' => ?_)
        simp only [lkA_fs hb hc F]
        refine go_if_ne (tgt := 38) dX6_unseen_29 (by decide) (fun c29 => ?_) (fun c29 => ?_)
        · refine go_iinc3 (c1 := 1) dX6_unseen_38 rfl rfl ?_
          refine go_goto (tgt := 4) dX6_unseen_41 (by decide) ?_
          first | exact go_cong (ih g' (F.tr F')) (by rw [btF]; (first | (rw [if_pos ⟨c20, by by_cases q : fsN (fun k_1 => ¬ lkA h b c P k (D + k_1) = 0) n = none; exact q; rw [if_neg q] at c29; exact absurd c29 (by decide)⟩]; simp [nI_1]; done) | (rw [if_neg (fun q => c29 (by rw [if_pos q.2]))]; simp [nI_1]))) rfl | exact go_cong (ih g F) (by rw [btF, if_neg (fun q => q.1 c20)]; simp [nI_1]) rfl
        · refine go_iloadn dX6_unseen_32 rfl ?_
          refine go_iconst (v := 1) dX6_unseen_33 rfl ?_
          refine go_iloadn dX6_unseen_34 rfl ?_
          refine go_ishl dX6_unseen_35 ?_
          refine go_ior dX6_unseen_36 ?_
          refine go_ist2 dX6_unseen_37 rfl ?_
          refine go_iinc3 (c1 := 1) dX6_unseen_38 rfl rfl ?_
          refine go_goto (tgt := 4) dX6_unseen_41 (by decide) ?_
          first | exact go_cong (ih g' (F.tr F')) (by rw [btF]; (first | (rw [if_pos ⟨c20, by by_cases q : fsN (fun k_1 => ¬ lkA h b c P k (D + k_1) = 0) n = none; exact q; rw [if_neg q] at c29; exact absurd c29 (by decide)⟩]; simp [nI_1]; done) | (rw [if_neg (fun q => c29 (by rw [if_pos q.2]))]; simp [nI_1]))) rfl | exact go_cong (ih g F) (by rw [btF, if_neg (fun q => q.1 c20)]; simp [nI_1]) rfl
  · have H2 := H.fr (F.sub (fun _ => ts_tt))
    obtain ⟨hS, -, -, hbc, -, -, hpe, hP⟩ := id H2
    refine go_iloadn dX6_unseen_4 rfl ?_
    refine go_aloadn dX6_unseen_5 rfl ?_
    refine sg_getR dX6_unseen_6 fX6_47 rfl (tw_L hb) hS hbc ?_
    refine sg_getI dX6_unseen_9 fX6_104 rfl (ct_L hc) hS ?_
    refine go_icmp_ge (tgt := 44) dX6_unseen_12 (by decide) (fun c12 => ?_) (fun c12 => ?_)
    · refine go_iloadn dX6_unseen_44 rfl ?_
      refine go_ireturn dX6_unseen_45 rfl rfl (Nat.zero_le _) (Nat.zero_le _) ?_
      exact ⟨rfl, F⟩
    · exact absurd (by rw [hpe]; exact nI_le (Nat.le_refl _) (by omega)) c12
