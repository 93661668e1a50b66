/-! the model: a watch, walks -/
theorem pl_nI {C : Cy} {T : Tn} {p dd : Nat} (W : WC C) (V : WT C T) (hp : p < cP C) : ∃ w, w < cL C ∧ plT C T p dd = nI w := by
  obtain ⟨w1, w6⟩ := W.2.1 p hp
  have hm : dd % cWl C p < cWl C p := Nat.mod_lt _ (by omega)
  exact V.2.2 _ (by omega)
/-- whether one is at one of the places x on some of n days -/
def seP (C : Cy) (T : Tn) (p x n : Nat) : Prop := ∃ k, k < n ∧ bI (nI x) (plT C T p (tD T + k)).toNatClampNeg = true
theorem po_bit {C : Cy} {T : Tn} {p n i : Nat} (W : WC C) (V : WT C T) (hp : p < cP C) (hi : i < 32) : bI (poF C T p n) i = true ↔ ∃ k, k < n ∧ (plT C T p (tD T + k)).toNatClampNeg = i := by
  have hL := W.1.2.2.2.1
  induction n with
  | zero => exact ⟨fun h => (by have h : bI (0 : Int32) i = true := h; rw [bI_0] at h; exact absurd h (by decide)), fun ⟨k, hk, _⟩ => absurd hk (Nat.not_lt_zero _)⟩
  | succ n ih =>
    obtain ⟨w, hw, ew⟩ := pl_nI (dd := tD T + n) W V hp
    show bI (poF C T p n ||| (1 <<< (plT C T p (tD T + n) &&& 31))) i = true ↔ _
    rw [bI_or, Bool.or_eq_true, propext ih, ew, bI_one (by omega) hi, decide_eq_true_eq]
    constructor
    · rintro (⟨k, hk, h⟩ | e)
      · exact ⟨k, by omega, h⟩
      · exact ⟨n, by omega, by rw [ew, cl_nI (by omega)]; exact e.symm⟩
    · rintro ⟨k, hk, h⟩
      by_cases e : k = n
      · subst e; right; rw [ew, cl_nI (by omega)] at h; exact h.symm
      · exact Or.inl ⟨k, by omega, h⟩
theorem and_z {a b : Int32} : (a &&& b = 0) ↔ ∀ i, i < 32 → ¬ (bI a i = true ∧ bI b i = true) := by
  constructor
  · rintro h i hi ⟨h1, h2⟩
    have : bI (a &&& b) i = true := by rw [bI_and, h1, h2]; rfl
    rw [h, bI_0] at this
    exact absurd this (by decide)
  · intro h
    refine bI_ext fun i hi => ?_
    rw [bI_and, bI_0]
    cases x : bI a i
    · rfl
    · cases y : bI b i
      · rfl
      · exact absurd ⟨x, y⟩ (h i hi)
theorem po_se {C : Cy} {T : Tn} {p n x : Nat} (W : WC C) (V : WT C T) (hp : p < cP C) : (poF C T p n &&& nI x = 0) ↔ ¬ seP C T p x n := by
  rw [and_z]
  constructor
  · rintro h ⟨k, hk, z⟩
    obtain ⟨w, hw, ew⟩ := pl_nI (dd := tD T + k) W V hp
    have hL := W.1.2.2.2.1
    rw [ew, cl_nI (by omega)] at z
    exact h w (by omega) ⟨(po_bit W V hp (by omega)).mpr ⟨k, hk, by rw [ew, cl_nI (by omega)]⟩, z⟩
  · rintro h i hi ⟨h1, h2⟩
    obtain ⟨k, hk, e⟩ := (po_bit W V hp hi).mp h1
    exact h ⟨k, hk, by rw [e]; exact h2⟩
theorem po_m1 {C : Cy} {T : Tn} {p n : Nat} (W : WC C) (V : WT C T) (hp : p < cP C) : ¬ poF C T p n = -1 := fun e => by
  have h : bI (poF C T p n) 31 = true := by rw [e]; exact bI_m1 (by omega)
  obtain ⟨k, hk, z⟩ := (po_bit W V hp (by omega)).mp h
  obtain ⟨w, hw, ew⟩ := pl_nI (dd := tD T + k) W V hp
  have hL := W.1.2.2.2.1
  rw [ew, cl_nI (by omega)] at z
  omega
/-- whether one p needn't be met, or is -/
def okW (C : Cy) (T : Tn) (n x p : Nat) : Prop := btF (fun t => tB T t = nI p) (cN C) = 0 ∨ seP C T p x n
theorem me_ok {C : Cy} {T : Tn} {n x : Nat} (W : WC C) (V : WT C T) : meB (frT C T n) (cP C) (nI x) = true ↔ ∀ p, p < cP C → okW C T n x p := by
  unfold meB
  rw [decide_eq_true_eq]
  constructor
  · intro h p hp
    have := fs_of_none h p hp
    unfold frT at this
    by_cases z : btF (fun t => tB T t = nI p) (cN C) = 0
    · exact Or.inl z
    · rw [if_neg z] at this
      right
      exact Classical.byContradiction (fun q => this ⟨po_m1 W V hp, (po_se W V hp).mpr q⟩)
  · intro h
    refine fs_none (fun p hp => ?_)
    unfold frT
    rcases h p hp with z | z
    · rw [if_pos z]; exact fun q => q.1 rfl
    · by_cases y : btF (fun t => tB T t = nI p) (cN C) = 0
      · rw [if_pos y]; exact fun q => q.1 rfl
      · rw [if_neg y]; exact fun q => (po_se W V hp).mp q.2 z
theorem q_isSeenAt {l : Launch} {d as ar p x n : Nat} {C : Cy} {T : Tn} {h : Hp} (W : WC C) (H : MB h as ar C T) (V : WT C T) (hp : p < cP C) (hn : n ≤ 100) (hD9 : tD T ≤ 9999) : Run l (d + 2) (0, 0) mX10_isSeenAt [.ref 77, .int (nI p), .int (nI x), .int (nI n)] h (fun v g => g = h ∧ ((seP C T p x n ∧ v = some (.int 1)) ∨ (¬ seP C T p x n ∧ v = some (.int 0)))) noX := by
  have hS := H.1.1
  have hL := W.1.2.2.2.1
  refine run_lv [some (.ref 77), some (.int (nI p)), some (.int (nI x)), some (.int (nI n)), none] (go := ?_)
  refine go_iconst (v := 0) dX10_isSeenAt_0 rfl ?_
  refine go_ist4 dX10_isSeenAt_1 rfl ?_
  refine go_loop (lvf := fun k => [some (.ref 77), some (.int (nI p)), some (.int (nI x)), some (.int (nI n)), some (.int (nI k))]) (hf := fun _ => h) n (fun k => ∀ j, j < k → ¬ bI (nI x) (plT C T p (tD T + j)).toNatClampNeg = true) (fun k hk hh ih => ?_) (fun hh => ?_) 0 (Nat.zero_le _) (fun _ q => absurd q (by omega))
  · obtain ⟨w, hw, ew⟩ := pl_nI (dd := tD T + k) W V hp
    have e0 : (plT C T p (tD T + k)).toNatClampNeg = w := by rw [ew]; exact cl_nI (by omega)
    have hb := sh_bit1 (x := nI x) (t := w) (by omega)
    refine go_iload dX10_isSeenAt_3 rfl ?_
    refine go_iloadn dX10_isSeenAt_5 rfl ?_
    refine go_icmp_ge (tgt := 40) dX10_isSeenAt_6 (by decide) (fun c6 => absurd c6 (nI_ge hk (by omega))) (fun c6 => ?_)
    refine go_iloadn dX10_isSeenAt_9 rfl ?_
    refine go_aloadn dX10_isSeenAt_10 rfl ?_
    refine go_iconst (v := 0) dX10_isSeenAt_11 rfl ?_
    refine go_iloadn dX10_isSeenAt_12 rfl ?_
    refine go_aloadn dX10_isSeenAt_13 rfl ?_
    refine sg_getR dX10_isSeenAt_14 fX10_66 rfl (mo_L rfl) hS (mo_r42 hS rfl) ?_
    refine go_iconst (v := 0) dX10_isSeenAt_17 rfl ?_
    refine sg_ialdN (i := 0) (x := nI (tD T)) dX10_isSeenAt_18 (mo_42 rfl) hS (by simp only [lit_nI, nI_add, pk_mul, Nat.add_assoc, Nat.zero_add, Nat.add_zero]) (by omega) (H.2.1.1) ?_
    refine go_iload dX10_isSeenAt_19 rfl ?_
    refine go_iadd dX10_isSeenAt_21 ?_
    rw [nI_add]
    refine sg_cVi (M' := mX10_placeOn) ([.int (nI 0), .int (nI p), .int (nI (tD T + k))]) dX10_isSeenAt_22 lX10_297 vX10_placeOn (mo_L rfl) (by decide) rfl hS (q_placeOn W H.1 H.2.1 (by omega) hp (by omega)) rfl (Nat.le_of_ble_eq_true rfl) (Nat.zero_le _) (Nat.zero_le _) ?_
    rw [ew]
    refine go_ishr dX10_isSeenAt_25 ?_
    refine go_iconst (v := 1) dX10_isSeenAt_26 rfl ?_
    refine go_iand dX10_isSeenAt_27 ?_
    refine go_iconst (v := 1) dX10_isSeenAt_28 rfl ?_
    refine go_icmp_ne (tgt := 34) dX10_isSeenAt_29 (by decide) (fun c29 => ?_) (fun c29 => ?_)
    · refine go_iinc4 (c1 := 1) dX10_isSeenAt_34 rfl rfl ?_
      refine go_goto (tgt := 3) dX10_isSeenAt_37 (by decide) ?_
      exact go_cong (ih (fun j hj => by by_cases e : j = k; (· subst e; rw [e0]; exact fun q => c29 (hb.mpr q)); exact hh j (by omega))) (by simp [nI_1]) rfl
    · refine go_iconst (v := 1) dX10_isSeenAt_32 rfl ?_
      refine go_ireturn dX10_isSeenAt_33 rfl rfl (Nat.zero_le _) (Nat.zero_le _) ?_
      exact ⟨rfl, Or.inl ⟨⟨k, hk, by rw [e0]; exact hb.mp (by first | exact c29 | exact Decidable.not_not.mp c29)⟩, rfl⟩⟩
  · refine go_iload dX10_isSeenAt_3 rfl ?_
    refine go_iloadn dX10_isSeenAt_5 rfl ?_
    refine go_icmp_ge (tgt := 40) dX10_isSeenAt_6 (by decide) (fun c6 => ?_) (fun c6 => absurd (nI_le (Nat.le_refl _) (by omega)) c6)
    refine go_iconst (v := 0) dX10_isSeenAt_40 rfl ?_
    refine go_ireturn dX10_isSeenAt_41 rfl rfl (Nat.zero_le _) (Nat.zero_le _) ?_
    exact ⟨rfl, Or.inr ⟨fun ⟨k, hk, z⟩ => hh k hk z, rfl⟩⟩
/-- the model's best so far -/
def wmT (C : Cy) (T : Tn) (n : Nat) : Nat → Int32 := foF (fun x b => if meB (frT C T n) (cP C) (nI x) = true ∧ (b = -1 ∨ bcF (nI x) < bcF b) then nI x else b) (-1)
theorem wm_s {C : Cy} {T : Tn} {n k : Nat} : wmT C T n (k + 1) = if meB (frT C T n) (cP C) (nI k) = true ∧ (wmT C T n k = -1 ∨ bcF (nI k) < bcF (wmT C T n k)) then nI k else wmT C T n k := rfl
theorem fp_s {C : Cy} {T : Tn} {n k : Nat} : fpT C T n (k + 1) = if bcF (nI k) < bcF (fpT C T n k) ∧ meB (frT C T n) (cP C) (nI k) = true then nI k else fpT C T n k := rfl
theorem wm_in {C : Cy} {T : Tn} {n k : Nat} : wmT C T n k = -1 ∨ ∃ j, j < k ∧ wmT C T n k = nI j := by
  induction k with
  | zero => exact Or.inl rfl
  | succ k ih =>
    rw [wm_s]
    split
    · exact Or.inr ⟨k, by omega, rfl⟩
    · rcases ih with e | ⟨j, hj, e⟩
      · exact Or.inl e
      · exact Or.inr ⟨j, by omega, e⟩
set_option maxRecDepth 100000 in
theorem bc_full : ∀ L : Fin 7, ∀ x : Fin 64, x.val < 2 ^ L.val - 1 → bcF (nI x.val) < bcF (nI (2 ^ L.val - 1)) := by decide +kernel
theorem Int32_irr {a : Int32} : ¬ a < a := Int32.lt_irrefl
theorem wm_fp {C : Cy} {T : Tn} {n : Nat} (W : WC C) (V : WT C T) (hn : 1 ≤ n) : wmT C T n (2 ^ cL C) = fpT C T n (2 ^ cL C) := by
  have hL := W.1.2.2.2.1
  have p6 : 2 ^ cL C ≤ 64 := Nat.pow_le_pow_right (n := 2) (by decide) hL
  have p0 : 0 < 2 ^ cL C := Nat.two_pow_pos _
  have key : ∀ k, k ≤ 2 ^ cL C - 1 → (wmT C T n k = -1 ∧ fpT C T n k = nI (2 ^ cL C - 1)) ∨ (¬ wmT C T n k = -1 ∧ wmT C T n k = fpT C T n k ∧ bcF (fpT C T n k) < bcF (nI (2 ^ cL C - 1))) := by
    intro k
    induction k with
    | zero => exact fun _ => Or.inl ⟨rfl, rfl⟩
    | succ k ih =>
      intro hk
      have hb := bc_full ⟨cL C, by omega⟩ ⟨k, by omega⟩ (by show k < 2 ^ cL C - 1; omega)
      dsimp only at hb
      rw [wm_s, fp_s]
      by_cases m : meB (frT C T n) (cP C) (nI k) = true
      · rcases ih (by omega) with ⟨e1, e2⟩ | ⟨e1, e2, e3⟩
        · rw [if_pos ⟨m, Or.inl e1⟩, e2, if_pos ⟨hb, m⟩]
          exact Or.inr ⟨nI_m1 (by omega), rfl, hb⟩
        · by_cases c : bcF (nI k) < bcF (fpT C T n k)
          · rw [if_pos ⟨m, Or.inr (by rw [e2]; exact c)⟩, if_pos ⟨c, m⟩]
            exact Or.inr ⟨nI_m1 (by omega), rfl, hb⟩
          · rw [if_neg (fun q => q.2.elim e1 (fun q => c (by rw [← e2]; exact q))), if_neg (fun q => c q.1)]
            exact Or.inr ⟨e1, e2, e3⟩
      · rw [if_neg (fun q => m q.1), if_neg (fun q => m q.2)]
        exact ih (by omega)
  have full : meB (frT C T n) (cP C) (nI (2 ^ cL C - 1)) = true := (me_ok W V).mpr (fun p hp => Or.inr ⟨0, by omega, by
    obtain ⟨w, hw, ew⟩ := pl_nI (dd := tD T + 0) W V hp
    rw [ew, cl_nI (by omega), bI_nI (by omega), Nat.testBit_two_pow_sub_one]
    exact decide_eq_true hw⟩)
  obtain ⟨k, hk⟩ : ∃ k, 2 ^ cL C = k + 1 := ⟨2 ^ cL C - 1, by omega⟩
  have kk := key k (by omega)
  rw [hk, Nat.add_sub_cancel] at kk full
  rw [hk, wm_s, fp_s]
  rcases kk with ⟨e1, e2⟩ | ⟨e1, e2, e3⟩
  · rw [if_pos ⟨full, Or.inl e1⟩, e2, if_neg (fun q => Int32_irr q.1)]
  · rw [if_neg (fun q => q.2.elim e1 (fun q => Int32.lt_asymm q (by rw [e2]; exact e3))), if_neg (fun q => Int32.lt_asymm q.1 e3), e2]
theorem m_watch {l : Launch} {d as ar : Nat} {n : Int32} {C : Cy} {T : Tn} {h : Hp} (W : WC C) (H : MB h as ar C T) (V : WT C T) (hD9 : tD T ≤ 9999) : Qm l (d + 3) mX10_watch [.ref 77, .int n] h (vWatch C T n) := by
  have hS := H.1.1
  have hP := W.1.2.1
  have hL := W.1.2.2.2.1
  have p6 : 2 ^ cL C ≤ 64 := Nat.pow_le_pow_right (n := 2) (by decide) hL
  refine run_lv [some (.ref 77), some (.int n), none, none, none, none] (go := ?_)
  unfold vWatch
  refine go_aloadn dX10_watch_0 rfl ?_
  refine go_iconst (v := 0) dX10_watch_1 rfl ?_
  refine sg_putI dX10_watch_2 fX10_102 rfl rfl (mo_L rfl) hS ?_
  have hF : Fz SM h (uI h 77 0 0) := Fz.rf.uI sm0
  have H := H.sm W hF
  have h0 : hI (uI h 77 0 0) 77 0 = 0 := hI_uI_eq
  generalize uI h 77 0 0 = h1 at *
  have hS := H.1.1
  have hpe := H.1.2.1.2.1
  refine go_aloadn dX10_watch_5 rfl ?_
  refine go_iloadn dX10_watch_6 rfl ?_
  refine go_iconst (v := 1) dX10_watch_7 rfl ?_
  refine go_iconst (v := 1) dX10_watch_8 rfl ?_
  refine sg_mnd (M' := mX10_isSoon) ([.int n, .int 1, .int (nI 1)]) dX10_watch_9 lX10_399 vX10_isSoon (mo_L rfl) (by decide) rfl hS (q_isSoon hS h0 (by decide) (by decide)).1 (q_isSoon hS h0 (by decide) (by decide)).2 rfl (Nat.le_of_ble_eq_true rfl) (fun k9 => ?_) (fun k9 => ?_)
  · refine go_if_ne (tgt := 17) dX10_watch_12 (by decide) (fun c => absurd rfl c) (fun _ => ?_)
    refine go_iconst (v := 0) dX10_watch_15 rfl ?_
    refine go_ireturn dX10_watch_16 rfl rfl (Nat.zero_le _) (Nat.zero_le _) ?_
    exact ⟨⟨0, rfl, fun q => absurd q (by decide)⟩, hI_uI_eq, hF.uI sm0⟩
  refine go_if_ne (tgt := 17) dX10_watch_12 (by decide) (fun c12 => ?_) (fun c12 => absurd c12 (by decide))
  refine go_iconst (v := -1) dX10_watch_17 rfl ?_
  refine go_ist2 dX10_watch_18 rfl ?_
  refine go_iconst (v := 0) dX10_watch_19 rfl ?_
  refine go_ist3 dX10_watch_20 rfl ?_
  skip
  obtain ⟨j, hj1, hj, rfl⟩ := rg_nI (a := 1) (b := 100) rfl rfl (by decide) (by decide) k9
  rw [cl_nI (show j < 2 ^ 31 by omega), ← wm_fp W V hj1]
  have e2 : (1 : Int32) <<< (nI (cL C) &&& 31) = nI (2 ^ cL C) := one_nI ⟨cL C, by omega⟩
  refine go_loop (lvf := fun k => [some (.ref 77), some (.int (nI j)), some (.int (wmT C T j k)), some (.int (nI k)), none, none]) (hf := fun _ => h1) (2 ^ cL C) (fun _ => True) (fun x hx _ ih => ?_) (fun _ => ?_) 0 (Nat.zero_le _) trivial
  · have hin := wm_in (C := C) (T := T) (n := j) (k := x)
    rw [wm_s] at ih
    generalize wmT C T j x = b at *
    have bx := bi_bc0 ⟨x, by omega⟩
    dsimp only at bx
    have bb : ¬ b = -1 → bi10 b 10 = bcF b := fun z => by
      obtain ⟨i, hi, e⟩ := hin.resolve_left z
      rw [e]; exact bi_bc0 ⟨i, by omega⟩
    have tail1 : meB (frT C T j) (cP C) (nI x) = true → ∀ q, Go l (rmOf (d + 3) (0, 0)) mX10_watch (hN h) (Zm (0, 0) (Qn (0, wmT C T j (2 ^ cL C)) h) noX) 85 [some (.ref 77), some (.int (nI j)), some (.int b), some (.int (nI x)), some (.int 1), some (.int (nI q))] [] h1 0 0 := by
      intro m q
      refine go_iload dX10_watch_85 rfl ?_
      refine go_if_eq (tgt := 108) dX10_watch_87 (by decide) (fun c87 => absurd c87 (by decide)) (fun c87 => ?_)
      refine go_iloadn dX10_watch_90 rfl ?_
      refine go_iconst (v := -1) dX10_watch_91 rfl ?_
      refine go_icmp_eq (tgt := 106) dX10_watch_92 (by decide) (fun c92 => ?_) (fun c92 => ?_)
      · refine go_iloadn dX10_watch_106 rfl ?_
        refine go_ist2 dX10_watch_107 rfl ?_
        refine go_iinc3 (c1 := 1) dX10_watch_108 rfl rfl ?_
        refine go_goto (tgt := 21) dX10_watch_111 (by decide) ?_
        first | exact go_back (ih trivial) (by rw [if_pos (And.intro m (Or.inl c92))]; simp [lsub, nI_1]) rfl | exact go_back (ih trivial) (by rw [if_pos (And.intro m (Or.inr (Int32.not_le.mp c103)))]; simp [lsub, nI_1]) rfl | exact go_back (ih trivial) (by rw [if_neg (fun q => q.2.elim c92 (fun q => absurd q (Int32.not_lt.mpr c103)))]; simp [lsub, nI_1]) rfl
      · refine go_iloadn dX10_watch_95 rfl ?_
        refine sg_cSi (M' := mX10_bits) ([.int (nI x)]) dX10_watch_96 lX10_312 sX10_bits hS (q_bits) rfl (Nat.le_of_ble_eq_true rfl) (Nat.zero_le _) (Nat.zero_le _) ?_
        refine go_iloadn dX10_watch_99 rfl ?_
        refine sg_cSi (M' := mX10_bits) ([.int b]) dX10_watch_100 lX10_312 sX10_bits hS (q_bits) rfl (Nat.le_of_ble_eq_true rfl) (Nat.zero_le _) (Nat.zero_le _) ?_
        rw [bx, bb c92]
        refine go_icmp_ge (tgt := 108) dX10_watch_103 (by decide) (fun c103 => ?_) (fun c103 => ?_)
        · refine go_iinc3 (c1 := 1) dX10_watch_108 rfl rfl ?_
          refine go_goto (tgt := 21) dX10_watch_111 (by decide) ?_
          first | exact go_back (ih trivial) (by rw [if_pos (And.intro m (Or.inl c92))]; simp [lsub, nI_1]) rfl | exact go_back (ih trivial) (by rw [if_pos (And.intro m (Or.inr (Int32.not_le.mp c103)))]; simp [lsub, nI_1]) rfl | exact go_back (ih trivial) (by rw [if_neg (fun q => q.2.elim c92 (fun q => absurd q (Int32.not_lt.mpr c103)))]; simp [lsub, nI_1]) rfl
        · refine go_iloadn dX10_watch_106 rfl ?_
          refine go_ist2 dX10_watch_107 rfl ?_
          refine go_iinc3 (c1 := 1) dX10_watch_108 rfl rfl ?_
          refine go_goto (tgt := 21) dX10_watch_111 (by decide) ?_
          first | exact go_back (ih trivial) (by rw [if_pos (And.intro m (Or.inl c92))]; simp [lsub, nI_1]) rfl | exact go_back (ih trivial) (by rw [if_pos (And.intro m (Or.inr (Int32.not_le.mp c103)))]; simp [lsub, nI_1]) rfl | exact go_back (ih trivial) (by rw [if_neg (fun q => q.2.elim c92 (fun q => absurd q (Int32.not_lt.mpr c103)))]; simp [lsub, nI_1]) rfl
    have tail0 : ¬ meB (frT C T j) (cP C) (nI x) = true → ∀ q, Go l (rmOf (d + 3) (0, 0)) mX10_watch (hN h) (Zm (0, 0) (Qn (0, wmT C T j (2 ^ cL C)) h) noX) 37 [some (.ref 77), some (.int (nI j)), some (.int b), some (.int (nI x)), some (.int 0), some (.int (nI q))] [] h1 0 0 := by
      intro m q
      refine go_iload dX10_watch_37 rfl ?_
      refine go_aloadn dX10_watch_39 rfl ?_
      refine sg_getI dX10_watch_40 fX10_273 rfl (mo_L rfl) hS ?_
      refine go_icmp_ge (tgt := 85) dX10_watch_43 (by decide) (fun c43 => ?_) (fun c43 => ?_)
      · refine go_iload dX10_watch_85 rfl ?_
        refine go_if_eq (tgt := 108) dX10_watch_87 (by decide) (fun c87 => ?_) (fun c87 => absurd rfl c87)
        refine go_iinc3 (c1 := 1) dX10_watch_108 rfl rfl ?_
        refine go_goto (tgt := 21) dX10_watch_111 (by decide) ?_
        exact go_back (ih trivial) (by rw [if_neg (fun q => m q.1)]; simp [lsub, nI_1]) rfl
      · refine go_iload dX10_watch_46 rfl ?_
        refine go_if_eq (tgt := 85) dX10_watch_48 (by decide) (fun c48 => ?_) (fun c48 => absurd rfl c48)
        refine go_iload dX10_watch_85 rfl ?_
        refine go_if_eq (tgt := 108) dX10_watch_87 (by decide) (fun c87 => ?_) (fun c87 => absurd rfl c87)
        refine go_iinc3 (c1 := 1) dX10_watch_108 rfl rfl ?_
        refine go_goto (tgt := 21) dX10_watch_111 (by decide) ?_
        exact go_back (ih trivial) (by rw [if_neg (fun q => m q.1)]; simp [lsub, nI_1]) rfl
    refine go_iloadn dX10_watch_21 rfl ?_
    refine go_iconst (v := 1) dX10_watch_22 rfl ?_
    refine go_aloadn dX10_watch_23 rfl ?_
    refine sg_getI dX10_watch_24 fX10_7 rfl (mo_L rfl) hS ?_
    rw [H.1.2.1.1]
    refine go_ishl dX10_watch_27 ?_
    rw [e2]
    refine go_icmp_ge (tgt := 114) dX10_watch_28 (by decide) (fun c28 => absurd c28 (nI_ge hx (by omega))) (fun c28 => ?_)
    refine go_iconst (v := 1) dX10_watch_31 rfl ?_
    refine go_ist4 dX10_watch_32 rfl ?_
    refine go_iconst (v := 0) dX10_watch_34 rfl ?_
    refine go_ist5 dX10_watch_35 rfl ?_
    skip
    refine go_loop (lvf := fun p => [some (.ref 77), some (.int (nI j)), some (.int b), some (.int (nI x)), some (.int 1), some (.int (nI p))]) (hf := fun _ => h1) (cP C) (fun p => ∀ q, q < p → okW C T j x q) (fun p hp hh ih2 => ?_) (fun hh => ?_) 0 (Nat.zero_le _) (fun _ q => absurd q (by omega))
    · have nok : ¬ okW C T j x p → ¬ meB (frT C T j) (cP C) (nI x) = true := fun z m => z ((me_ok W V).mp m p hp)
      have nx : okW C T j x p → ∀ q, q < p + 1 → okW C T j x q := fun z q hq => by
        by_cases e : q = p
        · subst e; exact z
        · exact hh q (by omega)
      refine go_iload dX10_watch_37 rfl ?_
      refine go_aloadn dX10_watch_39 rfl ?_
      refine sg_getI dX10_watch_40 fX10_273 rfl (mo_L rfl) hS ?_
      rw [hpe]
      refine go_icmp_ge (tgt := 85) dX10_watch_43 (by decide) (fun c43 => absurd c43 (nI_ge hp (by omega))) (fun c43 => ?_)
      refine go_iload dX10_watch_46 rfl ?_
      refine go_if_eq (tgt := 85) dX10_watch_48 (by decide) (fun c48 => absurd c48 (by decide)) (fun c48 => ?_)
      refine go_aloadn dX10_watch_51 rfl ?_
      refine go_iconst (v := 0) dX10_watch_52 rfl ?_
      refine go_iload dX10_watch_53 rfl ?_
      refine sg_cVi (M' := mX10_wornBy) ([.int (nI 0), .int (nI p)]) dX10_watch_55 lX10_300 vX10_wornBy (mo_L rfl) (by decide) rfl hS (q_wornBy W H.1 H.2.1 (by omega)) rfl (Nat.le_of_ble_eq_true rfl) (Nat.zero_le _) (Nat.zero_le _) ?_
      refine go_if_eq (tgt := 72) dX10_watch_58 (by decide) (fun c58 => ?_) (fun c58 => ?_)
      · refine go_iconst (v := 1) dX10_watch_72 rfl ?_
        refine go_goto (tgt := 77) dX10_watch_73 (by decide) ?_
        refine go_ist4 dX10_watch_77 rfl ?_
        refine go_iinc5 (c1 := 1) dX10_watch_79 rfl rfl ?_
        refine go_goto (tgt := 37) dX10_watch_82 (by decide) ?_
        first | exact go_cong (ih2 (nx (Or.inl c58))) (by simp [nI_1]) rfl | exact go_cong (ih2 (nx (Or.inr (hu.elim (fun z => z.1) (fun z => absurd z.2 c69))))) (by simp [nI_1]) rfl | exact go_cong (tail0 (nok (fun z => z.elim c58 (hu.elim (fun z => absurd (z.2.symm.trans c69) (by decide)) (fun z => z.1)))) (p + 1)) (by simp [nI_1]) rfl
      · refine go_aloadn dX10_watch_61 rfl ?_
        refine go_iload dX10_watch_62 rfl ?_
        refine go_iloadn dX10_watch_64 rfl ?_
        refine go_iloadn dX10_watch_65 rfl ?_
        refine sg_callV (M' := mX10_isSeenAt) [.int (nI p), .int (nI x), .int (nI j)] dX10_watch_66 lX10_413 vX10_isSeenAt (mo_L rfl) (by decide) rfl hS (q_isSeenAt W H V hp hj hD9) rfl (Nat.le_of_ble_eq_true rfl) (Nat.zero_le _) (Nat.zero_le _) (fun v g q => ?_)
        obtain ⟨rfl, q⟩ := q
        obtain ⟨u, rfl, hu⟩ : ∃ u, v = some (.int u) ∧ ((seP C T p x j ∧ u = 1) ∨ (¬ seP C T p x j ∧ u = 0)) := by rcases q with ⟨q1, q2⟩ | ⟨q1, q2⟩; exact ⟨1, q2, Or.inl ⟨q1, rfl⟩⟩; exact ⟨0, q2, Or.inr ⟨q1, rfl⟩⟩
        refine go_cong (h' := g) ?_ rfl rfl
        refine go_if_eq (tgt := 76) dX10_watch_69 (by decide) (fun c69 => ?_) (fun c69 => ?_)
        · refine go_iconst (v := 0) dX10_watch_76 rfl ?_
          refine go_ist4 dX10_watch_77 rfl ?_
          refine go_iinc5 (c1 := 1) dX10_watch_79 rfl rfl ?_
          refine go_goto (tgt := 37) dX10_watch_82 (by decide) ?_
          first | exact go_cong (ih2 (nx (Or.inl c58))) (by simp [nI_1]) rfl | exact go_cong (ih2 (nx (Or.inr (hu.elim (fun z => z.1) (fun z => absurd z.2 c69))))) (by simp [nI_1]) rfl | exact go_cong (tail0 (nok (fun z => z.elim c58 (hu.elim (fun z => absurd (z.2.symm.trans c69) (by decide)) (fun z => z.1)))) (p + 1)) (by simp [nI_1]) rfl
        · refine go_iconst (v := 1) dX10_watch_72 rfl ?_
          refine go_goto (tgt := 77) dX10_watch_73 (by decide) ?_
          refine go_ist4 dX10_watch_77 rfl ?_
          refine go_iinc5 (c1 := 1) dX10_watch_79 rfl rfl ?_
          refine go_goto (tgt := 37) dX10_watch_82 (by decide) ?_
          first | exact go_cong (ih2 (nx (Or.inl c58))) (by simp [nI_1]) rfl | exact go_cong (ih2 (nx (Or.inr (hu.elim (fun z => z.1) (fun z => absurd z.2 c69))))) (by simp [nI_1]) rfl | exact go_cong (tail0 (nok (fun z => z.elim c58 (hu.elim (fun z => absurd (z.2.symm.trans c69) (by decide)) (fun z => z.1)))) (p + 1)) (by simp [nI_1]) rfl
    · refine go_iload dX10_watch_37 rfl ?_
      refine go_aloadn dX10_watch_39 rfl ?_
      refine sg_getI dX10_watch_40 fX10_273 rfl (mo_L rfl) hS ?_
      rw [hpe]
      refine go_icmp_ge (tgt := 85) dX10_watch_43 (by decide) (fun c43 => ?_) (fun c43 => absurd (nI_le (Nat.le_refl _) (by omega)) c43)
      exact tail1 ((me_ok W V).mpr hh) _
  · refine go_iloadn dX10_watch_21 rfl ?_
    refine go_iconst (v := 1) dX10_watch_22 rfl ?_
    refine go_aloadn dX10_watch_23 rfl ?_
    refine sg_getI dX10_watch_24 fX10_7 rfl (mo_L rfl) hS ?_
    rw [H.1.2.1.1]
    refine go_ishl dX10_watch_27 ?_
    rw [e2]
    refine go_icmp_ge (tgt := 114) dX10_watch_28 (by decide) (fun c28 => ?_) (fun c28 => absurd (nI_le (Nat.le_refl _) (by omega)) c28)
    refine go_iloadn dX10_watch_114 rfl ?_
    refine go_ireturn dX10_watch_115 rfl rfl (Nat.zero_le _) (Nat.zero_le _) ?_
    exact qn_ok rfl h0 hF
