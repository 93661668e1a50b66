/-! the model: walks -/
def smN (f : Nat → Nat) : Nat → Nat := foF (fun i a => a + f i) 0
theorem smN_s {f : Nat → Nat} {n : Nat} : smN f (n + 1) = smN f n + f n := rfl
theorem smN_cong {f g : Nat → Nat} {n : Nat} (h : ∀ i, i < n → f i = g i) : smN f n = smN g n := foF_cong (fun i hi a => by rw [h i hi])
theorem smN_add {f g : Nat → Nat} {n : Nat} : smN (fun i => f i + g i) n = smN f n + smN g n := by
  induction n with
  | zero => rfl
  | succ n ih => rw [smN_s, smN_s, smN_s, ih]; omega
theorem smN_swap {f : Nat → Nat → Nat} {a b : Nat} : smN (fun i => smN (f i) b) a = smN (fun j => smN (fun i => f i j) a) b := by
  induction a with
  | zero =>
    induction b with
    | zero => rfl
    | succ b ih => rw [smN_s, ← ih]; rfl
  | succ a ih =>
    rw [smN_s, ih, ← smN_add]; rfl
theorem smN_le {f : Nat → Nat} {n m : Nat} (h : ∀ i, f i ≤ m) : smN f n ≤ n * m := by
  induction n with
  | zero => exact Nat.zero_le _
  | succ n ih => rw [smN_s, Nat.succ_mul]; have := h n; omega
/-- whether p is at x on the k-th day -/
def plB (C : Cy) (T : Tn) (pl : Int32) (p k : Nat) : Nat := if plT C T p (tD T + k) = pl then 1 else 0
theorem vi_sm {C : Cy} {T : Tn} {pl : Int32} {n P : Nat} : viT C T pl n P = smN (fun p => smN (plB C T pl p) n) P := by
  have h1 : ∀ p a n, vi1 C T pl p a n = a + smN (plB C T pl p) n := by
    intro p a n
    induction n with
    | zero => rfl
    | succ n ih =>
      show (if plT C T p (tD T + n) = pl then vi1 C T pl p a n + 1 else vi1 C T pl p a n) = _
      rw [smN_s, ih, plB]
      split <;> omega
  induction P with
  | zero => rfl
  | succ P ih =>
    show vi1 C T pl P (viT C T pl n P) n = _
    rw [h1, ih]; rfl
/-- how often each place is come to, in k whole days and by those below p -/
def ofN (C : Cy) (T : Tn) (k p x : Nat) : Nat := smN (fun i => smN (fun q => plB C T (nI x) q i) (cP C)) k + smN (fun q => plB C T (nI x) q k) p
theorem plB_le {C : Cy} {T : Tn} {pl : Int32} {p k : Nat} : plB C T pl p k ≤ 1 := by unfold plB; split <;> omega
theorem ofN_le {C : Cy} {T : Tn} {k p x : Nat} (W : WC C) (hk : k ≤ 100) (hp : p ≤ 8) : ofN C T k p x ≤ 1000 := by
  have hP := W.1.2.1
  have h1 : ∀ i n, smN (fun q => plB C T (nI x) q i) n ≤ n * 1 := fun i n => smN_le (fun q => plB_le)
  have h2 := smN_le (f := fun i => smN (fun q => plB C T (nI x) q i) (cP C)) (n := k) (m := 8) (fun i => by have := h1 i (cP C); omega)
  have h3 := h1 k p
  unfold ofN
  omega
theorem ofN_vi {C : Cy} {T : Tn} {n x : Nat} : ofN C T n 0 x = viT C T (nI x) n (cP C) := by
  rw [vi_sm, smN_swap]
  show _ + 0 = _
  rw [Nat.add_zero]
theorem ofN_p {C : Cy} {T : Tn} {k p x : Nat} : ofN C T k (p + 1) x = ofN C T k p x + plB C T (nI x) p k := by
  unfold ofN; rw [smN_s]; omega
theorem ofN_k {C : Cy} {T : Tn} {k x : Nat} : ofN C T (k + 1) 0 x = ofN C T k (cP C) x := by
  unfold ofN; rw [smN_s]; rfl
/-- who was seen -/
def sn1 (C : Cy) (T : Tn) (k : Nat) (v : Int32) : Nat → Int32 := foF (fun p v => if lkT C T p (tD T + k) = 0 then v else v ||| (1 <<< (nI p &&& 31))) v
def snT (C : Cy) (T : Tn) : Nat → Int32 := foF (fun k v => sn1 C T k v (cP C)) 0
theorem sn1_bit {C : Cy} {T : Tn} {k n i : Nat} {v : Int32} (hn : n ≤ 8) (hi : i < 32) : bI (sn1 C T k v n) i = true ↔ bI v i = true ∨ (i < n ∧ ¬ lkT C T i (tD T + k) = 0) := by
  induction n with
  | zero => exact ⟨fun z => Or.inl z, fun z => z.elim (fun z => z) (fun z => absurd z.1 (Nat.not_lt_zero _))⟩
  | succ n ih =>
    have ih := ih (by omega)
    show bI (if lkT C T n (tD T + k) = 0 then sn1 C T k v n else sn1 C T k v n ||| (1 <<< (nI n &&& 31))) i = true ↔ _
    by_cases z : lkT C T n (tD T + k) = 0
    · rw [if_pos z, ih]
      constructor
      · rintro (h | ⟨h1, h2⟩)
        · exact Or.inl h
        · exact Or.inr ⟨by omega, h2⟩
      · rintro (h | ⟨h1, h2⟩)
        · exact Or.inl h
        · have : i ≠ n := fun e => h2 (e ▸ z)
          exact Or.inr ⟨by omega, h2⟩
    · rw [if_neg z, bI_or, Bool.or_eq_true, propext ih, bI_one (by omega) hi, decide_eq_true_eq]
      constructor
      · rintro ((h | ⟨h1, h2⟩) | e)
        · exact Or.inl h
        · exact Or.inr ⟨by omega, h2⟩
        · subst e; exact Or.inr ⟨by omega, z⟩
      · rintro (h | ⟨h1, h2⟩)
        · exact Or.inl (Or.inl h)
        · by_cases e : i = n
          · exact Or.inr e
          · exact Or.inl (Or.inr ⟨by omega, h2⟩)
theorem sn_bit {C : Cy} {T : Tn} {n i : Nat} (W : WC C) (hi : i < 32) : bI (snT C T n) i = true ↔ i < cP C ∧ ∃ k, k < n ∧ ¬ lkT C T i (tD T + k) = 0 := by
  have hP := W.1.2.1
  induction n with
  | zero => exact ⟨fun h => (by have h : bI (0 : Int32) i = true := h; rw [bI_0] at h; exact absurd h (by decide)), fun ⟨_, k, hk, _⟩ => absurd hk (Nat.not_lt_zero _)⟩
  | succ n ih =>
    show bI (sn1 C T n (snT C T n) (cP C)) i = true ↔ _
    rw [sn1_bit hP hi, propext ih]
    constructor
    · rintro (⟨h1, k, hk, h2⟩ | ⟨h1, h2⟩)
      · exact ⟨h1, k, by omega, h2⟩
      · exact ⟨h1, n, by omega, h2⟩
    · rintro ⟨h1, k, hk, h2⟩
      by_cases e : k = n
      · subst e; exact Or.inr ⟨h1, h2⟩
      · exact Or.inl ⟨h1, k, by omega, h2⟩
def usT (C : Cy) (T : Tn) (s : Int32) : Nat → Int32 := foF (fun p v => if btF (fun t => tB T t = nI p) (cN C) = 0 then v else v ||| ((1 <<< (nI p &&& 31)) &&& (s ^^^ (-1)))) 0
theorem us_bit {C : Cy} {T : Tn} {s : Int32} {n i : Nat} (hn : n ≤ 8) (hi : i < 32) : bI (usT C T s n) i = true ↔ i < n ∧ ¬ btF (fun t => tB T t = nI i) (cN C) = 0 ∧ bI s i = false := by
  induction n with
  | zero => exact ⟨fun h => (by have h : bI (0 : Int32) i = true := h; rw [bI_0] at h; exact absurd h (by decide)), fun h => absurd h.1 (Nat.not_lt_zero _)⟩
  | succ n ih =>
    have ih := ih (by omega)
    show bI (if btF (fun t => tB T t = nI n) (cN C) = 0 then usT C T s n else usT C T s n ||| ((1 <<< (nI n &&& 31)) &&& (s ^^^ (-1)))) i = true ↔ _
    by_cases z : btF (fun t => tB T t = nI n) (cN C) = 0
    · rw [if_pos z, ih]
      constructor
      · rintro ⟨h1, h2⟩; exact ⟨by omega, h2⟩
      · rintro ⟨h1, h2, h3⟩
        have : i ≠ n := fun e => h2 (e ▸ z)
        exact ⟨by omega, h2, h3⟩
    · rw [if_neg z, bI_or, Bool.or_eq_true, propext ih, bI_and, bI_one (by omega) hi, bI_xor, bI_m1 hi, Bool.and_eq_true, decide_eq_true_eq]
      constructor
      · rintro (⟨h1, h2⟩ | ⟨e, h3⟩)
        · exact ⟨by omega, h2⟩
        · subst e; exact ⟨by omega, z, by revert h3; cases bI s i <;> simp⟩
      · rintro ⟨h1, h2, h3⟩
        by_cases e : i = n
        · subst e; exact Or.inr ⟨rfl, by rw [h3]; rfl⟩
        · exact Or.inl ⟨by omega, h2, h3⟩
theorem us_un {C : Cy} {T : Tn} {n : Nat} (W : WC C) : usT C T (snT C T n) (cP C) = unT C T n := by
  have hP := W.1.2.1
  refine bI_ext fun i hi => ?_
  have e : bI (usT C T (snT C T n) (cP C)) i = true ↔ bI (unT C T n) i = true := by
    rw [us_bit hP hi, unT, bI_btF (by omega) hi, decide_eq_true_eq]
    constructor
    · rintro ⟨h1, h2, h3⟩
      refine ⟨h1, h2, fs_none (fun k hk q => ?_)⟩
      have : bI (snT C T n) i = true := (sn_bit W hi).mpr ⟨h1, k, hk, q⟩
      rw [h3] at this; exact absurd this (by decide)
    · rintro ⟨h1, h2, h3⟩
      refine ⟨h1, h2, ?_⟩
      cases q : bI (snT C T n) i
      · rfl
      · obtain ⟨-, k, hk, z⟩ := (sn_bit W hi).mp q
        exact absurd z (fs_of_none h3 k hk)
  cases a : bI (usT C T (snT C T n) (cP C)) i <;> cases b : bI (unT C T n) i
  · rfl
  · rw [a, b] at e; exact absurd (e.mpr rfl) (by decide)
  · rw [a, b] at e; exact absurd (e.mp rfl) (by decide)
  · rfl
/-- the busiest of the first k + 1 places -/
def bwN (o : Nat → Nat) : Nat → Nat := foF (fun i b => if o b < o (i + 1) then i + 1 else b) 0
theorem bwN_le {o : Nat → Nat} {k : Nat} : bwN o k ≤ k := by
  induction k with
  | zero => exact Nat.le_refl _
  | succ k ih =>
    show (if o (bwN o k) < o (k + 1) then k + 1 else bwN o k) ≤ k + 1
    split <;> omega
theorem bu_bw {C : Cy} {T : Tn} {n : Nat} (o : Nat → Nat) (ho : ∀ x, o x = viT C T (nI x) n (cP C)) (hb : ∀ x, o x ≤ 1000) (k : Nat) : buT C T n (k + 1) = (nI (bwN o k), nI (o (bwN o k))) := by
  induction k with
  | zero =>
    show (if nI (viT C T (nI 0) n (cP C)) ≤ (0 : Int32) then ((0, 0) : Int32 × Int32) else (nI 0, nI (viT C T (nI 0) n (cP C)))) = (nI 0, nI (o 0))
    rw [← ho]
    have := hb 0
    by_cases z : o 0 = 0
    · rw [z]; rfl
    · rw [if_neg (nI_nle (by omega) (by omega))]
  | succ k ih =>
    show (if nI (viT C T (nI (k + 1)) n (cP C)) ≤ (buT C T n (k + 1)).2 then buT C T n (k + 1) else (nI (k + 1), nI (viT C T (nI (k + 1)) n (cP C)))) = _
    rw [ih, ← ho]
    have h1 := hb (k + 1)
    have h2 := hb (bwN o k)
    have es : bwN o (k + 1) = if o (bwN o k) < o (k + 1) then k + 1 else bwN o k := rfl
    rw [es]
    by_cases z : o (bwN o k) < o (k + 1)
    · rw [if_neg (nI_ge z (by omega)), if_pos z]
    · rw [if_pos (nI_le (by omega) (by omega)), if_neg z]
theorem bw_lt {a b : Nat} (ha : a ≤ 1000) (hb : b ≤ 1000) (c : ¬ nI a ≤ nI b) : b < a := by
  rcases Nat.lt_or_ge b a with q | q
  · exact q
  · exact absurd (nI_le q (by omega)) c
theorem m_walks {l : Launch} {d as ar : Nat} {n w : Int32} {C : Cy} {T : Tn} {h : Hp} (W : WC C) (H : MB h as ar C T) (V : WT C T) (hD9 : tD T ≤ 9999) : Qm l (d + 3) mX10_walks [.ref 77, .int n, .int w] h (vWalks C T n w) := by
  have hS := H.1.1
  have hP := W.1.2.1
  have hL := W.1.2.2.2.1
  have hL1 := W.1.2.2.1
  refine run_lv [some (.ref 77), some (.int n), some (.int w), none, none, none, none] (go := ?_)
  unfold vWalks
  refine go_aloadn dX10_walks_0 rfl ?_
  refine go_iconst (v := 0) dX10_walks_1 rfl ?_
  refine sg_putI dX10_walks_2 fX10_102 rfl rfl (mo_L rfl) hS ?_
  have hF : Fz SM h (uI h 77 0 0) := Fz.rf.uI sm0
  have H := H.sm W hF
  have h0 : hI (uI h 77 0 0) 77 0 = 0 := hI_uI_eq
  generalize uI h 77 0 0 = h1 at *
  have hS := H.1.1
  refine go_aloadn dX10_walks_5 rfl ?_
  refine go_iloadn dX10_walks_6 rfl ?_
  refine go_iconst (v := 1) dX10_walks_7 rfl ?_
  refine sg_mnd (M' := mX10_isWhat) ([.int w, .int 1]) dX10_walks_8 lX10_365 vX10_isWhat (mo_L rfl) (by decide) rfl hS (q_isWhat hS h0).1 (q_isWhat hS h0).2 rfl (Nat.le_of_ble_eq_true rfl) (fun k8 => ?_) (fun k8 => ?_)
  · refine go_if_eq (tgt := 24) dX10_walks_11 (by decide) (fun _ => ?_) (fun c => absurd rfl c)
    refine go_iconst (v := 0) dX10_walks_24 rfl ?_
    refine go_ireturn dX10_walks_25 rfl rfl (Nat.zero_le _) (Nat.zero_le _) ?_
    exact ⟨⟨0, rfl, fun q => absurd q (by decide)⟩, hI_uI_eq, hF.uI sm0⟩
  refine go_if_eq (tgt := 24) dX10_walks_11 (by decide) (fun c11 => absurd c11 (by decide)) (fun c11 => ?_)
  refine go_aloadn dX10_walks_14 rfl ?_
  refine go_iloadn dX10_walks_15 rfl ?_
  refine go_iconst (v := 1) dX10_walks_16 rfl ?_
  refine go_iconst (v := 2) dX10_walks_17 rfl ?_
  refine sg_mnd (M' := mX10_isSoon) ([.int n, .int 1, .int (nI 2)]) dX10_walks_18 lX10_399 vX10_isSoon (mo_L rfl) (by decide) rfl hS (q_isSoon hS h0 (by decide) (by decide)).1 (q_isSoon hS h0 (by decide) (by decide)).2 rfl (Nat.le_of_ble_eq_true rfl) (fun k18 => ?_) (fun k18 => ?_)
  · refine go_if_ne (tgt := 26) dX10_walks_21 (by decide) (fun c => absurd rfl c) (fun _ => ?_)
    refine go_iconst (v := 0) dX10_walks_24 rfl ?_
    refine go_ireturn dX10_walks_25 rfl rfl (Nat.zero_le _) (Nat.zero_le _) ?_
    exact ⟨⟨0, rfl, fun q => absurd q (by decide)⟩, hI_uI_eq, hF.uI sm0⟩
  refine go_if_ne (tgt := 26) dX10_walks_21 (by decide) (fun c21 => ?_) (fun c21 => absurd c21 (by decide))
  refine go_iconst (v := 0) dX10_walks_26 rfl ?_
  refine go_ist3 dX10_walks_27 rfl ?_
  refine go_iconst (v := 0) dX10_walks_28 rfl ?_
  refine go_ist4 dX10_walks_29 rfl ?_
  skip
  obtain ⟨j, -, hj, rfl⟩ := rg_nI (a := 1) (b := 100) rfl rfl (by decide) (by decide) k18
  rw [cl_nI (show j < 2 ^ 31 by omega)]
  refine go_loopR (lvf := fun k => [some (.ref 77), some (.int (nI j)), some (.int w), some (.int 0), some (.int (nI k)), none, none]) 6 (fun k g => Fz SN h1 g ∧ ∀ x, x < k → hI g 96 x = 0) (fun k g hk hh ih => ?_) (fun g hh => ?_) 0 h1 (Nat.zero_le _) ⟨Fz.rf, fun _ q => absurd q (by omega)⟩
  · obtain ⟨F, hz⟩ := hh
    have hS := F.St hS
    refine go_iload dX10_walks_31 rfl ?_
    refine go_bipush (v := 6) dX10_walks_33 rfl ?_
    refine go_icmp_ge (tgt := 52) dX10_walks_35 (by decide) (fun c35 => absurd c35 (nI_ge (b := 6) hk (by decide))) (fun c35 => ?_)
    refine go_aloadn dX10_walks_38 rfl ?_
    refine sg_getR dX10_walks_39 fX10_81 rfl (mo_L rfl) hS (mo_r50 hS rfl) ?_
    refine go_iload dX10_walks_42 rfl ?_
    refine go_iconst (v := 0) dX10_walks_44 rfl ?_
    refine sg_iastN (i := k) dX10_walks_45 (mo_50 rfl) hS (by simp only [lit_nI, nI_add, pk_mul, Nat.add_assoc, Nat.zero_add, Nat.add_zero]) (by omega) ?_
    refine go_iinc4 (c1 := 1) dX10_walks_46 rfl rfl ?_
    refine go_goto (tgt := 31) dX10_walks_49 (by decide) ?_
    exact go_cong (ih _ ⟨F.uI (by unfold SN; omega), fun x hx => by rw [hI_uI]; by_cases e : x = k; (· subst e; rw [if_pos ⟨rfl, rfl⟩]); (rw [if_neg (fun q => e q.2)]; exact hz x (by omega))⟩) (by simp [nI_1]) rfl
  · obtain ⟨F, hz⟩ := hh
    have hS := F.St hS
    refine go_iload dX10_walks_31 rfl ?_
    refine go_bipush (v := 6) dX10_walks_33 rfl ?_
    refine go_icmp_ge (tgt := 52) dX10_walks_35 (by decide) (fun c35 => ?_) (fun c35 => absurd (by decide) c35)
    refine go_iconst (v := 0) dX10_walks_52 rfl ?_
    refine go_ist4 dX10_walks_53 rfl ?_
    skip
    refine go_loopR (lvf := fun k => [some (.ref 77), some (.int (nI j)), some (.int w), some (.int (snT C T k)), some (.int (nI k)), none, none]) j (fun k g => Fz SN h1 g ∧ ∀ x, x < 6 → hI g 96 x = nI (ofN C T k 0 x)) (fun k g hk hh ih => ?_) (fun g hh => ?_) 0 g (Nat.zero_le _) ⟨F, hz⟩
    · obtain ⟨F, hz⟩ := hh
      have es : snT C T (k + 1) = sn1 C T k (snT C T k) (cP C) := rfl
      rw [es] at ih
      generalize snT C T k = v at *
      refine go_iload dX10_walks_55 rfl ?_
      refine go_iloadn dX10_walks_57 rfl ?_
      refine go_icmp_ge (tgt := 140) dX10_walks_58 (by decide) (fun c58 => absurd c58 (nI_ge hk (by omega))) (fun c58 => ?_)
      refine go_iconst (v := 0) dX10_walks_61 rfl ?_
      refine go_ist5 dX10_walks_62 rfl ?_
      skip
      refine go_loopR (lvf := fun p => [some (.ref 77), some (.int (nI j)), some (.int w), some (.int (sn1 C T k v p)), some (.int (nI k)), some (.int (nI p)), none]) (cP C) (fun p g => Fz SN h1 g ∧ ∀ x, x < 6 → hI g 96 x = nI (ofN C T k p x)) (fun p g hp hh ih2 => ?_) (fun g hh => ?_) 0 g (Nat.zero_le _) ⟨F, hz⟩
      · obtain ⟨F, hz⟩ := hh
        have H2 := H.sn W F
        have hS := H2.1.1
        have hpe := H2.1.2.1.2.1
        obtain ⟨y, hy, ey⟩ := pl_nI (dd := tD T + k) W V hp
        have es2 : sn1 C T k v (p + 1) = if lkT C T p (tD T + k) = 0 then sn1 C T k v p else sn1 C T k v p ||| (1 <<< (nI p &&& 31)) := rfl
        rw [es2] at ih2
        refine go_iload dX10_walks_64 rfl ?_
        refine go_aloadn dX10_walks_66 rfl ?_
        refine sg_getI dX10_walks_67 fX10_273 rfl (mo_L rfl) hS ?_
        rw [hpe]
        refine go_icmp_ge (tgt := 134) dX10_walks_70 (by decide) (fun c70 => absurd c70 (nI_ge hp (by omega))) (fun c70 => ?_)
        refine go_aloadn dX10_walks_73 rfl ?_
        refine sg_getR dX10_walks_74 fX10_81 rfl (mo_L rfl) hS (mo_r50 hS rfl) ?_
        refine go_aloadn dX10_walks_77 rfl ?_
        refine go_iconst (v := 0) dX10_walks_78 rfl ?_
        refine go_iload dX10_walks_79 rfl ?_
        refine go_aloadn dX10_walks_81 rfl ?_
        refine sg_getR dX10_walks_82 fX10_66 rfl (mo_L rfl) hS (mo_r42 hS rfl) ?_
        refine go_iconst (v := 0) dX10_walks_85 rfl ?_
        refine sg_ialdN (i := 0) (x := nI (tD T)) dX10_walks_86 (mo_42 rfl) hS (by simp only [lit_nI, nI_add, pk_mul, Nat.add_assoc, Nat.zero_add, Nat.add_zero]) (by omega) (H2.2.1.1) ?_
        refine go_iload dX10_walks_87 rfl ?_
        refine go_iadd dX10_walks_89 ?_
        rw [nI_add]
        refine sg_cVi (M' := mX10_placeOn) ([.int (nI 0), .int (nI p), .int (nI (tD T + k))]) dX10_walks_90 lX10_297 vX10_placeOn (mo_L rfl) (by decide) rfl hS (q_placeOn W H2.1 H2.2.1 (by omega) hp (by omega)) rfl (Nat.le_of_ble_eq_true rfl) (Nat.zero_le _) (Nat.zero_le _) ?_
        rw [ey]
        refine go_dup2 dX10_walks_93 rfl rfl ?_
        refine sg_ialdN (i := y) dX10_walks_94 (mo_50 rfl) hS (by simp only [lit_nI, nI_add, pk_mul, Nat.add_assoc, Nat.zero_add, Nat.add_zero]) (by omega) (hz y (by omega)) ?_
        refine go_iconst (v := 1) dX10_walks_95 rfl ?_
        refine go_iadd dX10_walks_96 ?_
        refine sg_iastN (i := y) dX10_walks_97 (mo_50 rfl) hS (by simp only [lit_nI, nI_add, pk_mul, Nat.add_assoc, Nat.zero_add, Nat.add_zero]) (by omega) ?_
        skip
        have F2 : Fz SN h1 (uI g 96 y (nI (ofN C T k p y) + 1)) := F.uI (by unfold SN; omega)
        have H3 := H.sn W F2
        have hS := H3.1.1
        have hz2 : ∀ x, x < 6 → hI (uI g 96 y (nI (ofN C T k p y) + 1)) 96 x = nI (ofN C T k (p + 1) x) := fun x hx => by
          rw [hI_uI, ofN_p, plB, ey]
          by_cases e : x = y
          · subst e; rw [if_pos ⟨rfl, rfl⟩, if_pos rfl, nI_1]
          · rw [if_neg (fun q => e q.2), if_neg (fun q => e ((nI_eq (by omega) (by omega)).mp q).symm), Nat.add_zero]; exact hz x hx
        refine go_cong (h' := uI g 96 y (nI (ofN C T k p y) + 1)) ?_ rfl rfl
        generalize uI g 96 y (nI (ofN C T k p y) + 1) = g2 at *
        refine go_iloadn dX10_walks_98 rfl ?_
        refine go_aloadn dX10_walks_99 rfl ?_
        refine go_iconst (v := 0) dX10_walks_100 rfl ?_
        refine go_iload dX10_walks_101 rfl ?_
        refine go_aloadn dX10_walks_103 rfl ?_
        refine sg_getR dX10_walks_104 fX10_66 rfl (mo_L rfl) hS (mo_r42 hS rfl) ?_
        refine go_iconst (v := 0) dX10_walks_107 rfl ?_
        refine sg_ialdN (i := 0) (x := nI (tD T)) dX10_walks_108 (mo_42 rfl) hS (by simp only [lit_nI, nI_add, pk_mul, Nat.add_assoc, Nat.zero_add, Nat.add_zero]) (by omega) (H3.2.1.1) ?_
        refine go_iload dX10_walks_109 rfl ?_
        refine go_iadd dX10_walks_111 ?_
        rw [nI_add]
        refine sg_cVi (M' := mX10_looksAt) ([.int (nI 0), .int (nI p), .int (nI (tD T + k))]) dX10_walks_112 lX10_306 vX10_looksAt (mo_L rfl) (by decide) rfl hS (q_looksAt W H3.1 H3.2.1 (by omega) hp (by omega)) rfl (Nat.le_of_ble_eq_true rfl) (Nat.zero_le _) (Nat.zero_le _) ?_
        refine go_if_eq (tgt := 125) dX10_walks_115 (by decide) (fun c115 => ?_) (fun c115 => ?_)
        · refine go_iconst (v := 0) dX10_walks_125 rfl ?_
          refine go_ior dX10_walks_126 ?_
          refine go_ist3 dX10_walks_127 rfl ?_
          refine go_iinc5 (c1 := 1) dX10_walks_128 rfl rfl ?_
          refine go_goto (tgt := 64) dX10_walks_131 (by decide) ?_
          first | exact go_cong (ih2 g2 ⟨F2, hz2⟩) (by rw [if_pos c115]; simp [nI_1]) rfl | exact go_cong (ih2 g2 ⟨F2, hz2⟩) (by rw [if_neg c115]; simp [nI_1]) rfl
        · refine go_iconst (v := 1) dX10_walks_118 rfl ?_
          refine go_iload dX10_walks_119 rfl ?_
          refine go_ishl dX10_walks_121 ?_
          refine go_goto (tgt := 126) dX10_walks_122 (by decide) ?_
          refine go_ior dX10_walks_126 ?_
          refine go_ist3 dX10_walks_127 rfl ?_
          refine go_iinc5 (c1 := 1) dX10_walks_128 rfl rfl ?_
          refine go_goto (tgt := 64) dX10_walks_131 (by decide) ?_
          first | exact go_cong (ih2 g2 ⟨F2, hz2⟩) (by rw [if_pos c115]; simp [nI_1]) rfl | exact go_cong (ih2 g2 ⟨F2, hz2⟩) (by rw [if_neg c115]; simp [nI_1]) rfl
      · obtain ⟨F, hz⟩ := hh
        have H2 := H.sn W F
        have hS := H2.1.1
        have hpe := H2.1.2.1.2.1
        refine go_iload dX10_walks_64 rfl ?_
        refine go_aloadn dX10_walks_66 rfl ?_
        refine sg_getI dX10_walks_67 fX10_273 rfl (mo_L rfl) hS ?_
        rw [hpe]
        refine go_icmp_ge (tgt := 134) dX10_walks_70 (by decide) (fun c70 => ?_) (fun c70 => absurd (nI_le (Nat.le_refl _) (by omega)) c70)
        refine go_iinc4 (c1 := 1) dX10_walks_134 rfl rfl ?_
        refine go_goto (tgt := 55) dX10_walks_137 (by decide) ?_
        exact go_back (ih g ⟨F, fun x hx => by rw [ofN_k]; exact hz x hx⟩) (by simp [lsub, nI_1]) rfl
    · obtain ⟨F, hz⟩ := hh
      have H2 := H.sn W F
      have hS := H2.1.1
      have hpe := H2.1.2.1.2.1
      have hob : ∀ x, ofN C T j 0 x ≤ 1000 := fun x => ofN_le W hj (by omega)
      obtain ⟨L, hL2⟩ : ∃ L, cL C = L + 1 := ⟨cL C - 1, by omega⟩
      have hbu := bu_bw (C := C) (T := T) (n := j) (fun x => ofN C T j 0 x) (fun x => ofN_vi) hob L
      rw [hL2, hbu]
      refine go_iload dX10_walks_55 rfl ?_
      refine go_iloadn dX10_walks_57 rfl ?_
      refine go_icmp_ge (tgt := 140) dX10_walks_58 (by decide) (fun c58 => ?_) (fun c58 => absurd (nI_le (Nat.le_refl _) (by omega)) c58)
      refine go_iconst (v := 0) dX10_walks_140 rfl ?_
      refine go_ist4 dX10_walks_141 rfl ?_
      refine go_iconst (v := 1) dX10_walks_143 rfl ?_
      refine go_ist5 dX10_walks_144 rfl ?_
      skip
      refine go_back (lv' := [some (.ref 77), some (.int (nI j)), some (.int w), some (.int (snT C T j)), some (.int (nI 0)), some (.int (nI 1)), none]) ?_ (by simp [lsub]; exact ⟨rfl, rfl⟩) rfl
      refine go_loop (lvf := fun k => [some (.ref 77), some (.int (nI j)), some (.int w), some (.int (snT C T j)), some (.int (nI (bwN (fun x => ofN C T j 0 x) k))), some (.int (nI (k + 1))), none]) (hf := fun _ => g) L (fun _ => True) (fun k hk _ ih => ?_) (fun _ => ?_) 0 (Nat.zero_le _) trivial
      · have es : bwN (fun x => ofN C T j 0 x) (k + 1) = if ofN C T j 0 (bwN (fun x => ofN C T j 0 x) k) < ofN C T j 0 (k + 1) then k + 1 else bwN (fun x => ofN C T j 0 x) k := rfl
        have hle := bwN_le (o := fun x => ofN C T j 0 x) (k := k)
        rw [es] at ih
        generalize bwN (fun x => ofN C T j 0 x) k = b at *
        have h1 := hob (k + 1)
        have h2 := hob b
        refine go_iload dX10_walks_146 rfl ?_
        refine go_aloadn dX10_walks_148 rfl ?_
        refine sg_getI dX10_walks_149 fX10_7 rfl (mo_L rfl) hS ?_
        rw [H2.1.2.1.1, hL2]
        refine go_icmp_ge (tgt := 182) dX10_walks_152 (by decide) (fun c152 => absurd c152 (nI_ge (by omega) (by omega))) (fun c152 => ?_)
        refine go_aloadn dX10_walks_155 rfl ?_
        refine sg_getR dX10_walks_156 fX10_81 rfl (mo_L rfl) hS (mo_r50 hS rfl) ?_
        refine go_iload dX10_walks_159 rfl ?_
        refine sg_ialdN (i := k + 1) dX10_walks_161 (mo_50 rfl) hS (by simp only [lit_nI, nI_add, pk_mul, Nat.add_assoc, Nat.zero_add, Nat.add_zero]) (by omega) (hz (k + 1) (by omega)) ?_
        refine go_aloadn dX10_walks_162 rfl ?_
        refine sg_getR dX10_walks_163 fX10_81 rfl (mo_L rfl) hS (mo_r50 hS rfl) ?_
        refine go_iload dX10_walks_166 rfl ?_
        refine sg_ialdN (i := b) dX10_walks_168 (mo_50 rfl) hS (by simp only [lit_nI, nI_add, pk_mul, Nat.add_assoc, Nat.zero_add, Nat.add_zero]) (by omega) (hz b (by omega)) ?_
        refine go_icmp_le (tgt := 176) dX10_walks_169 (by decide) (fun c169 => ?_) (fun c169 => ?_)
        · refine go_iinc5 (c1 := 1) dX10_walks_176 rfl rfl ?_
          refine go_goto (tgt := 146) dX10_walks_179 (by decide) ?_
          first | exact go_back (ih trivial) (by rw [if_pos (bw_lt h1 h2 c169)]; simp [lsub, nI_1]) rfl | exact go_back (ih trivial) (by rw [if_neg (fun q => nI_ge q (by omega) c169)]; simp [lsub, nI_1]) rfl
        · refine go_iload dX10_walks_172 rfl ?_
          refine go_ist4 dX10_walks_174 rfl ?_
          refine go_iinc5 (c1 := 1) dX10_walks_176 rfl rfl ?_
          refine go_goto (tgt := 146) dX10_walks_179 (by decide) ?_
          first | exact go_back (ih trivial) (by rw [if_pos (bw_lt h1 h2 c169)]; simp [lsub, nI_1]) rfl | exact go_back (ih trivial) (by rw [if_neg (fun q => nI_ge q (by omega) c169)]; simp [lsub, nI_1]) rfl
      · refine go_iload dX10_walks_146 rfl ?_
        refine go_aloadn dX10_walks_148 rfl ?_
        refine sg_getI dX10_walks_149 fX10_7 rfl (mo_L rfl) hS ?_
        rw [H2.1.2.1.1, hL2]
        refine go_icmp_ge (tgt := 182) dX10_walks_152 (by decide) (fun c152 => ?_) (fun c152 => absurd (nI_le (Nat.le_refl _) (by omega)) c152)
        refine go_iconst (v := 0) dX10_walks_182 rfl ?_
        refine go_ist5 dX10_walks_183 rfl ?_
        refine go_iconst (v := 0) dX10_walks_185 rfl ?_
        refine go_ist6 dX10_walks_186 rfl ?_
        skip
        refine go_loop (lvf := fun p => [some (.ref 77), some (.int (nI j)), some (.int w), some (.int (snT C T j)), some (.int (nI (bwN (fun x => ofN C T j 0 x) L))), some (.int (usT C T (snT C T j) p)), some (.int (nI p))]) (hf := fun _ => g) (cP C) (fun _ => True) (fun p hp _ ih => ?_) (fun _ => ?_) 0 (Nat.zero_le _) trivial
        · have es : usT C T (snT C T j) (p + 1) = if btF (fun t => tB T t = nI p) (cN C) = 0 then usT C T (snT C T j) p else usT C T (snT C T j) p ||| ((1 <<< (nI p &&& 31)) &&& (snT C T j ^^^ (-1))) := rfl
          rw [es] at ih
          refine go_iload dX10_walks_188 rfl ?_
          refine go_aloadn dX10_walks_190 rfl ?_
          refine sg_getI dX10_walks_191 fX10_273 rfl (mo_L rfl) hS ?_
          rw [hpe]
          refine go_icmp_ge (tgt := 230) dX10_walks_194 (by decide) (fun c194 => absurd c194 (nI_ge hp (by omega))) (fun c194 => ?_)
          refine go_iload dX10_walks_197 rfl ?_
          refine go_aloadn dX10_walks_199 rfl ?_
          refine go_iconst (v := 0) dX10_walks_200 rfl ?_
          refine go_iload dX10_walks_201 rfl ?_
          refine sg_cVi (M' := mX10_wornBy) ([.int (nI 0), .int (nI p)]) dX10_walks_203 lX10_300 vX10_wornBy (mo_L rfl) (by decide) rfl hS (q_wornBy W H2.1 H2.2.1 (by omega)) rfl (Nat.le_of_ble_eq_true rfl) (Nat.zero_le _) (Nat.zero_le _) ?_
          refine go_if_eq (tgt := 220) dX10_walks_206 (by decide) (fun c206 => ?_) (fun c206 => ?_)
          · refine go_iconst (v := 0) dX10_walks_220 rfl ?_
            refine go_ior dX10_walks_221 ?_
            refine go_ist5 dX10_walks_222 rfl ?_
            refine go_iinc6 (c1 := 1) dX10_walks_224 rfl rfl ?_
            refine go_goto (tgt := 188) dX10_walks_227 (by decide) ?_
            first | exact go_cong (ih trivial) (by rw [if_pos c206]; simp [nI_1]) rfl | exact go_cong (ih trivial) (by rw [if_neg c206]; simp [nI_1]) rfl
          · refine go_iconst (v := 1) dX10_walks_209 rfl ?_
            refine go_iload dX10_walks_210 rfl ?_
            refine go_ishl dX10_walks_212 ?_
            refine go_iloadn dX10_walks_213 rfl ?_
            refine go_iconst (v := -1) dX10_walks_214 rfl ?_
            refine go_ixor dX10_walks_215 ?_
            refine go_iand dX10_walks_216 ?_
            refine go_goto (tgt := 221) dX10_walks_217 (by decide) ?_
            refine go_ior dX10_walks_221 ?_
            refine go_ist5 dX10_walks_222 rfl ?_
            refine go_iinc6 (c1 := 1) dX10_walks_224 rfl rfl ?_
            refine go_goto (tgt := 188) dX10_walks_227 (by decide) ?_
            first | exact go_cong (ih trivial) (by rw [if_pos c206]; simp [nI_1]) rfl | exact go_cong (ih trivial) (by rw [if_neg c206]; simp [nI_1]) rfl
        · refine go_iload dX10_walks_188 rfl ?_
          refine go_aloadn dX10_walks_190 rfl ?_
          refine sg_getI dX10_walks_191 fX10_273 rfl (mo_L rfl) hS ?_
          rw [hpe]
          refine go_icmp_ge (tgt := 230) dX10_walks_194 (by decide) (fun c194 => ?_) (fun c194 => absurd (nI_le (Nat.le_refl _) (by omega)) c194)
          refine go_iloadn dX10_walks_230 rfl ?_
          refine go_if_ne (tgt := 239) dX10_walks_231 (by decide) (fun c231 => ?_) (fun c231 => ?_)
          · refine go_iload dX10_walks_239 rfl ?_
            refine go_ireturn dX10_walks_241 rfl rfl (Nat.zero_le _) (Nat.zero_le _) ?_
            first | exact qn_ok (by rw [if_pos c231]) (F.t0.trans h0) (hF.tr F.sn) | exact qn_ok (by rw [if_neg c231, us_un W]) (F.t0.trans h0) (hF.tr F.sn)
          · refine go_iload dX10_walks_234 rfl ?_
            refine go_goto (tgt := 241) dX10_walks_236 (by decide) ?_
            refine go_ireturn dX10_walks_241 rfl rfl (Nat.zero_le _) (Nat.zero_le _) ?_
            first | exact qn_ok (by rw [if_pos c231]) (F.t0.trans h0) (hF.tr F.sn) | exact qn_ok (by rw [if_neg c231, us_un W]) (F.t0.trans h0) (hF.tr F.sn)
