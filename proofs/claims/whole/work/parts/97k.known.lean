/-! which known word the token is -/
theorem wdN_s {b : Nat → Nat} {s k : Nat} (h : k < 7) : wdN b s (k + 1) = 32 * wdN b s k + (b (s + k) - 96) := by
  show (if k < 7 then 32 * wdN b s k + (b (s + k) - 96) else wdN b s k) = _
  rw [if_pos h]
theorem wd_inj {b b' : Nat → Nat} {s s' k k' : Nat} (hk : k ≤ 7) (hk' : k' ≤ 7) (hl : ∀ i, i < k → 97 ≤ b (s + i) ∧ b (s + i) ≤ 122) (hl' : ∀ i, i < k' → 97 ≤ b' (s' + i) ∧ b' (s' + i) ≤ 122) (h : wdN b s k = wdN b' s' k') : k = k' ∧ ∀ i, i < k → b (s + i) = b' (s' + i) := by
  induction k generalizing k' with
  | zero =>
    cases k' with
    | zero => exact ⟨rfl, fun i hi => by omega⟩
    | succ k' =>
      rw [wdN_s (by omega)] at h
      have := hl' k' (by omega)
      have : wdN b s 0 = 0 := rfl
      omega
  | succ k ih =>
    have c1 := hl k (by omega)
    cases k' with
    | zero =>
      rw [wdN_s (by omega)] at h
      have : wdN b' s' 0 = 0 := rfl
      omega
    | succ k' =>
      have c2 := hl' k' (by omega)
      rw [wdN_s (by omega), wdN_s (by omega)] at h
      obtain ⟨e, q⟩ := ih (k' := k') (by omega) (by omega) (fun i hi => hl i (by omega)) (fun i hi => hl' i (by omega)) (by omega)
      subst e
      refine ⟨rfl, fun i hi => ?_⟩
      by_cases z : i < k
      · exact q i z
      · rw [show i = k by omega]; omega
theorem wdN_cong {b b' : Nat → Nat} {s s' k : Nat} (h : ∀ i, i < k → b (s + i) = b' (s' + i)) : wdN b s k = wdN b' s' k := by
  induction k with
  | zero => rfl
  | succ k ih =>
    show (if k < 7 then 32 * wdN b s k + (b (s + k) - 96) else wdN b s k) = (if k < 7 then 32 * wdN b' s' k + (b' (s' + k) - 96) else wdN b' s' k)
    rw [ih (fun i hi => h i (by omega)), h k (by omega)]
theorem kw_let : ∀ j : Fin 20, (kwT.getD j.val []).length ≤ 7 ∧ (∀ i : Fin 7, i.val < (kwT.getD j.val []).length → 97 ≤ (kwT.getD j.val []).getD i.val 0 ∧ (kwT.getD j.val []).getD i.val 0 ≤ 122) ∧ wdK j.val < 2 ^ 40 := by decide +kernel
theorem tk_let {b : Nat → Nat} {n s : Nat} (h : tkK b n s = 1) : ∀ i, i < tkE b n s - s → 97 ≤ b (s + i) ∧ b (s + i) ≤ 122 := by
  have tE : tkE b n s = spn (fun j => isL (b j)) n s := by
    unfold tkK at h
    unfold tkE
    by_cases a : n ≤ s
    · rw [if_pos a] at h; exact absurd h (by decide)
    · rw [if_neg a] at h ⊢
      by_cases c : isL (b s) = true
      · rw [if_pos c]
      · rw [if_neg c] at h
        split at h
        · exact absurd h (by decide)
        · split at h <;> exact absurd h (by decide)
  intro i hi
  rw [tE] at hi
  have := ((spn_ok (p := fun j => isL (b j)) (n := n) (i := s)).1 (s + i) (by omega) (by omega)).2
  unfold isL at this
  rw [Bool.and_eq_true, decide_eq_true_eq, decide_eq_true_eq] at this; exact this
theorem lc0 {x y : Int64} : lg_cmp x y = 0 ↔ x = y := by
  unfold lg_cmp
  by_cases h : x = y
  · subst h; rw [if_neg (fun q => Int64.lt_irrefl q), if_pos rfl]; simp
  · rw [if_neg h]
    refine ⟨fun q => ?_, fun q => absurd q h⟩
    split at q <;> exact absurd q (by decide)
theorem lN_inj {a b : Nat} (ha : a < 2 ^ 40) (hb : b < 2 ^ 40) : lN a = lN b ↔ a = b := by
  refine ⟨fun q => ?_, fun q => by rw [q]⟩
  have := congrArg Int64.toInt q
  unfold lN at this
  rw [lg_ofNat_toInt (by omega), lg_ofNat_toInt (by omega)] at this
  omega
theorem wdw {b : Nat → Nat} {n s j : Nat} (k1 : tkK b n s = 1) (l7 : tkE b n s - s ≤ 7) (hj : j < 20) : wdK j = wdN b s (tkE b n s - s) ↔ isWd b n s (kwT.getD j []) := by
  obtain ⟨h1, h2, -⟩ := kw_let ⟨j, hj⟩
  dsimp only at h1 h2
  refine ⟨fun q => ?_, fun q => ?_⟩
  · obtain ⟨e, f⟩ := wd_inj (b := fun i => (kwT.getD j []).getD i 0) (s := 0) (b' := b) (s' := s) h1 l7 (fun i hi => by have := h2 ⟨i, by omega⟩ hi; dsimp only at this ⊢; rw [Nat.zero_add]; exact this) (tk_let k1) q
    refine ⟨k1, e.symm, fun i hi => ?_⟩
    have := f i hi
    rw [Nat.zero_add] at this; exact this.symm
  · unfold wdK
    rw [q.2.1]
    exact wdN_cong (fun i hi => by rw [Nat.zero_add]; exact (q.2.2 i hi).symm)
theorem q_knownWord {l : Launch} {d n s : Nat} {b : Nat → Nat} {f : Nat × Nat} {h : Hp} (hS : St h) (R : RM h b n s f) : Ex l (d + 3) mX10_knownWord [.ref 77] h (some (.int (if kwN b n s = 20 then -1 else nI (kwN b n s)))) h := by
  have n7 := R.1.2.1
  have sn := R.2.2.1
  have te := tkE_le (b := b) sn
  have k5 := tkK_lt (b := b) (n := n) (s := s)
  have e18 := R.2.1.2.1
  have e20 := R.2.1.2.2.2.1
  have e23 := R.2.1.2.2.2.2.2.2
  refine run_lv [some (.ref 77), none] (go := ?_)
  by_cases k1 : tkK b n s = 1
  · rw [k1] at e18
    rw [if_pos k1] at e23
    by_cases l7 : tkE b n s - s ≤ 7
    · have wl : wdN b s (tkE b n s - s) < 2 ^ 40 := by
        have h1 := wd_lt (b := b) (s := s) l7 (fun i hi => by have := tk_let k1 i hi; unfold isL; rw [Bool.and_eq_true, decide_eq_true_eq, decide_eq_true_eq]; exact this)
        have h2 : 32 ^ (tkE b n s - s) ≤ 32 ^ 7 := Nat.pow_le_pow_right (by decide) l7
        exact Nat.lt_of_lt_of_le h1 (Nat.le_trans h2 (by decide))
      have go21 : ∀ j, j ≤ 20 → (∀ t, t < j → ¬ isWd b n s (kwT.getD t [])) → Go l (rmOf (d + 3) (0, 0)) mX10_knownWord (hN h) (Zm (0, 0) (fun v h1 => v = some (.int (if kwN b n s = 20 then -1 else nI (kwN b n s))) ∧ h1 = h) noX) 21 [some (.ref 77), some (.int (nI j))] [] h 0 0 := by
        intro j hj hp
        generalize hk : 20 - j = k
        induction k generalizing j with
        | zero =>
          have ej : j = 20 := by omega
          subst ej
          have e : kwN b n s = 20 := by
            have := kwN_le (b := b) (n := n) (s := s)
            by_cases q : kwN b n s = 20
            · exact q
            · exact absurd ((kwN_iff (by omega)).mp rfl) (hp (kwN b n s) (by omega))
          refine go_iloadn dX10_knownWord_21 rfl ?_
          refine go_bipush (v := 20) dX10_knownWord_22 rfl ?_
          refine go_icmp_ge (tgt := 47) dX10_knownWord_24 (by decide) (fun c24 => ?_) (fun c24 => absurd (Int32.le_refl _) c24)
          refine go_iconst (v := -1) dX10_knownWord_47 rfl ?_
          refine go_ireturn dX10_knownWord_48 rfl rfl (Nat.zero_le _) (Nat.zero_le _) ?_
          exact ⟨by rw [if_pos e], rfl⟩
        | succ k ih =>
          have jl : j < 20 := by omega
          have ww := wdw k1 l7 jl
          have kl := (kw_let ⟨j, jl⟩).2.2
          have cc := (lc0 (x := lN (wdK j)) (y := lN (wdN b s (tkE b n s - s)))).trans (lN_inj kl wl)
          by_cases x : isWd b n s (kwT.getD j [])
          · have e : kwN b n s = j := (kwN_iff jl).mpr x
            refine go_iloadn dX10_knownWord_21 rfl ?_
            refine go_bipush (v := 20) dX10_knownWord_22 rfl ?_
            refine go_icmp_ge (tgt := 47) dX10_knownWord_24 (by decide) (fun c24 => absurd c24 (nI_ge (b := 20) jl (by decide))) (fun c24 => ?_)
            refine go_iloadn dX10_knownWord_27 rfl ?_
            refine sg_cSi (M' := mX10_letters) ([.int (nI j)]) dX10_knownWord_28 lX10_154 sX10_letters hS (q_letters_ hS jl) rfl (Nat.le_of_ble_eq_true rfl) (Nat.zero_le _) (Nat.zero_le _) ?_
            refine go_aloadn dX10_knownWord_31 rfl ?_
            refine sg_getJ dX10_knownWord_32 fX10_125 rfl (mo_L rfl) hS ?_
            rw [e23]
            refine go_lcmp dX10_knownWord_35 ?_
            refine go_if_ne (tgt := 41) dX10_knownWord_36 (by decide) (fun c36 => absurd (cc.mpr (ww.mpr x)) c36) (fun c36 => ?_)
            refine go_iloadn dX10_knownWord_39 rfl ?_
            refine go_ireturn dX10_knownWord_40 rfl rfl (Nat.zero_le _) (Nat.zero_le _) ?_
            exact ⟨by rw [e, if_neg (by omega)], rfl⟩
          · refine go_iloadn dX10_knownWord_21 rfl ?_
            refine go_bipush (v := 20) dX10_knownWord_22 rfl ?_
            refine go_icmp_ge (tgt := 47) dX10_knownWord_24 (by decide) (fun c24 => absurd c24 (nI_ge (b := 20) jl (by decide))) (fun c24 => ?_)
            refine go_iloadn dX10_knownWord_27 rfl ?_
            refine sg_cSi (M' := mX10_letters) ([.int (nI j)]) dX10_knownWord_28 lX10_154 sX10_letters hS (q_letters_ hS jl) rfl (Nat.le_of_ble_eq_true rfl) (Nat.zero_le _) (Nat.zero_le _) ?_
            refine go_aloadn dX10_knownWord_31 rfl ?_
            refine sg_getJ dX10_knownWord_32 fX10_125 rfl (mo_L rfl) hS ?_
            rw [e23]
            refine go_lcmp dX10_knownWord_35 ?_
            refine go_if_ne (tgt := 41) dX10_knownWord_36 (by decide) (fun c36 => ?_) (fun c36 => absurd (ww.mp (cc.mp c36)) x)
            refine go_iinc1 (c1 := 1) dX10_knownWord_41 rfl rfl ?_
            rw [nI_1]
            refine go_goto (tgt := 21) dX10_knownWord_44 (by decide) ?_
            exact ih (j + 1) (by omega) (fun t ht => by by_cases q : t < j; exact hp t q; rw [show t = j by omega]; exact x) (by omega)
      refine go_aloadn dX10_knownWord_0 rfl ?_
      refine sg_getI dX10_knownWord_1 fX10_135 rfl (mo_L rfl) hS ?_
      rw [e18]
      refine go_iconst (v := 1) dX10_knownWord_4 rfl ?_
      refine go_icmp_ne (tgt := 17) dX10_knownWord_5 (by decide) (fun c5 => absurd rfl c5) (fun c5 => ?_)
      refine go_aloadn dX10_knownWord_8 rfl ?_
      refine sg_getI dX10_knownWord_9 fX10_145 rfl (mo_L rfl) hS ?_
      rw [e20]
      refine go_bipush (v := 7) dX10_knownWord_12 rfl ?_
      refine go_icmp_le (tgt := 19) dX10_knownWord_14 (by decide) (fun c14 => ?_) (fun c14 => absurd (nI_le (b := 7) l7 (by decide)) c14)
      refine go_iconst (v := 0) dX10_knownWord_19 rfl ?_
      refine go_ist1 dX10_knownWord_20 rfl ?_
      exact go21 0 (by decide) (fun t ht => by omega)
    · have e : kwN b n s = 20 := by
        have := kwN_le (b := b) (n := n) (s := s)
        by_cases q : kwN b n s = 20
        · exact q
        · have w := (kwN_iff (b := b) (n := n) (s := s) (k := kwN b n s) (by omega)).mp rfl
          have := (kw_let ⟨kwN b n s, by omega⟩).1
          have := w.2.1
          dsimp only at *
          omega
      refine go_aloadn dX10_knownWord_0 rfl ?_
      refine sg_getI dX10_knownWord_1 fX10_135 rfl (mo_L rfl) hS ?_
      rw [e18]
      refine go_iconst (v := 1) dX10_knownWord_4 rfl ?_
      refine go_icmp_ne (tgt := 17) dX10_knownWord_5 (by decide) (fun c5 => absurd rfl c5) (fun c5 => ?_)
      refine go_aloadn dX10_knownWord_8 rfl ?_
      refine sg_getI dX10_knownWord_9 fX10_145 rfl (mo_L rfl) hS ?_
      rw [e20]
      refine go_bipush (v := 7) dX10_knownWord_12 rfl ?_
      refine go_icmp_le (tgt := 19) dX10_knownWord_14 (by decide) (fun c14 => absurd c14 (Int32.not_le.mpr (nI_lt (a := 7) (by omega) (by omega)))) (fun c14 => ?_)
      refine go_iconst (v := -1) dX10_knownWord_17 rfl ?_
      refine go_ireturn dX10_knownWord_18 rfl rfl (Nat.zero_le _) (Nat.zero_le _) ?_
      exact ⟨by rw [if_pos e], rfl⟩
  · refine go_aloadn dX10_knownWord_0 rfl ?_
    refine sg_getI dX10_knownWord_1 fX10_135 rfl (mo_L rfl) hS ?_
    rw [e18]
    refine go_iconst (v := 1) dX10_knownWord_4 rfl ?_
    refine go_icmp_ne (tgt := 17) dX10_knownWord_5 (by decide) (fun c5 => ?_) (fun c5 => absurd ((nI_eq (b := 1) (by omega) (by decide)).mp c5) k1)
    refine go_iconst (v := -1) dX10_knownWord_17 rfl ?_
    refine go_ireturn dX10_knownWord_18 rfl rfl (Nat.zero_le _) (Nat.zero_le _) ?_
    exact ⟨by rw [if_pos (kwN_1 k1)], rfl⟩
