/-! the model: least shame -/
/-- the things from x on that are worn -/
def wsL (T : Tn) (N x : Nat) : List Nat := ((List.range N).drop x).filter (fun t => !decide (tB T t = -1))
theorem rg_drop {N x : Nat} (h : x < N) : (List.range N).drop x = x :: (List.range N).drop (x + 1) := by
  rw [List.drop_eq_getElem_cons (by rw [List.length_range]; exact h), List.getElem_range]
theorem ws_w {T : Tn} {N x : Nat} (h : x < N) (z : ¬ tB T x = -1) : wsL T N x = x :: wsL T N (x + 1) := by
  unfold wsL; rw [rg_drop h]; simp [z]
theorem ws_n {T : Tn} {N x : Nat} (h : x < N) (z : tB T x = -1) : wsL T N x = wsL T N (x + 1) := by
  unfold wsL; rw [rg_drop h]; simp [z]
theorem ws_N {T : Tn} {N : Nat} : wsL T N N = [] := by
  unfold wsL; rw [List.drop_eq_nil_of_le (by rw [List.length_range]; exact Nat.le_refl _)]; rfl
theorem ws_0 {T : Tn} {N : Nat} : wsL T N 0 = wlN T N := rfl
theorem ws_lt {T : Tn} {N x t : Nat} (h : t ∈ wsL T N x) : t < N := List.mem_range.mp (List.mem_of_mem_drop (List.mem_filter.mp h).1)
theorem ws_ge {T : Tn} {N : Nat} : ∀ (m x t : Nat), x + m = N → t ∈ wsL T N x → x ≤ t
  | 0, x, t, hm, h => by
    have : x = N := by omega
    subst this; rw [ws_N] at h; cases h
  | m + 1, x, t, hm, h => by
    by_cases z : tB T x = -1
    · rw [ws_n (by omega) z] at h
      have := ws_ge m (x + 1) t (by omega) h
      omega
    · rw [ws_w (by omega) z] at h
      rcases List.mem_cons.mp h with e | h
      · omega
      · have := ws_ge m (x + 1) t (by omega) h
        omega
theorem ws_len {T : Tn} {N x : Nat} : (wsL T N x).length ≤ N := by
  have h1 := List.length_filter_le (fun t => !decide (tB T t = -1)) ((List.range N).drop x)
  rw [List.length_drop, List.length_range] at h1
  unfold wsL
  omega
theorem bd_co : ∀ x v : Fin 10, bdF (nI x.val - nI v.val) 0 9 = mx0 (nI x.val - nI v.val) := by decide +kernel
/-- the table's rows from x on -/
def LX (g : Hp) (C : Cy) (T : Tn) (x : Nat) : Prop := ∀ y k, x ≤ y → y ≤ cN C → k < 2 ^ cP C → hI g 95 (256 * y + k) = enO 99999 (lsL C T (wsL T (cN C) y) k)
theorem q_goesAt {l : Launch} {d as ar t p k : Nat} {C : Cy} {T : Tn} {h : Hp} (W : WC C) (H : MB h as ar C T) (V : WT C T) (ht : t < cN C) (hp : p < cP C) (hk : k < 256) : Ex l (d + 2) mX10_goesAt [.ref 77, .int (nI t), .int (nI p), .int (nI k)] h (some (.int (nI (coN T t p) + hI h 95 (256 * (t + 1) + (k ||| 2 ^ p))))) h := by
  have hS := H.1.1
  have hN1 := W.1.1
  have hP := W.1.2.1
  obtain ⟨o1, o2⟩ := or_nI ⟨k, hk⟩ ⟨p, by omega⟩
  dsimp only at o1 o2
  obtain ⟨x, hx, ex⟩ := V.o.1 t ht
  obtain ⟨v, hv, ev⟩ := V.o.2 p hp
  have eb : bdF (tX T t - tV T p) 0 9 = nI (coN T t p) := by
    rw [← (coN_le V.o ht hp).2, ex, ev]; exact bd_co ⟨x, by omega⟩ ⟨v, by omega⟩
  refine run_lv [some (.ref 77), some (.int (nI t)), some (.int (nI p)), some (.int (nI k)), none] (go := ?_)
  refine go_aloadn dX10_goesAt_0 rfl ?_
  refine sg_getR dX10_goesAt_1 fX10_66 rfl (mo_L rfl) hS (mo_r42 hS rfl) ?_
  refine go_bipush (v := 31) dX10_goesAt_4 rfl ?_
  refine go_iloadn dX10_goesAt_6 rfl ?_
  refine go_iadd dX10_goesAt_7 ?_
  refine sg_ialdN (i := 31 + t) dX10_goesAt_8 (mo_42 rfl) hS (by simp only [lit_nI, nI_add, pk_mul, Nat.add_assoc, Nat.zero_add, Nat.add_zero]) (by omega) ((mB0 H.2.1 ht).2.2.2) ?_
  refine go_aloadn dX10_goesAt_9 rfl ?_
  refine sg_getR dX10_goesAt_10 fX10_66 rfl (mo_L rfl) hS (mo_r42 hS rfl) ?_
  refine go_bipush (v := 49) dX10_goesAt_13 rfl ?_
  refine go_iloadn dX10_goesAt_15 rfl ?_
  refine go_iadd dX10_goesAt_16 ?_
  refine sg_ialdN (i := 49 + p) (x := tV T p) dX10_goesAt_17 (mo_42 rfl) hS (by simp only [lit_nI, nI_add, pk_mul, Nat.add_assoc, Nat.zero_add, Nat.add_zero]) (by omega) ((by have := (H.2.1.2.2.1 p hp).2; rw [Nat.zero_add] at this; exact this)) ?_
  refine go_isub dX10_goesAt_18 ?_
  refine go_ist4 dX10_goesAt_19 rfl ?_
  refine go_iload dX10_goesAt_21 rfl ?_
  refine go_iconst (v := 0) dX10_goesAt_23 rfl ?_
  refine go_bipush (v := 9) dX10_goesAt_24 rfl ?_
  refine sg_cSi (M' := mX10_bounded) ([.int _, .int 0, .int 9]) dX10_goesAt_26 lX10_315 sX10_bounded hS (q_bounded) rfl (Nat.le_of_ble_eq_true rfl) (Nat.zero_le _) (Nat.zero_le _) ?_
  rw [eb]
  refine go_aloadn dX10_goesAt_29 rfl ?_
  refine sg_getR dX10_goesAt_30 fX10_78 rfl (mo_L rfl) hS (mo_r49 hS rfl) ?_
  refine go_sipush (v := 256) dX10_goesAt_33 rfl ?_
  refine go_iloadn dX10_goesAt_36 rfl ?_
  refine go_iconst (v := 1) dX10_goesAt_37 rfl ?_
  refine go_iadd dX10_goesAt_38 ?_
  refine go_imul dX10_goesAt_39 ?_
  refine go_iloadn dX10_goesAt_40 rfl ?_
  refine go_iconst (v := 1) dX10_goesAt_41 rfl ?_
  refine go_iloadn dX10_goesAt_42 rfl ?_
  refine go_ishl dX10_goesAt_43 ?_
  refine go_ior dX10_goesAt_44 ?_
  rw [o1]
  refine go_iadd dX10_goesAt_45 ?_
  refine sg_ialdN (i := 256 * (t + 1) + (k ||| 2 ^ p)) (x := hI h 95 (256 * (t + 1) + (k ||| 2 ^ p))) dX10_goesAt_46 (mo_49 rfl) hS (by simp only [lit_nI, nI_add, pk_mul, Nat.add_assoc, Nat.zero_add, Nat.add_zero]) (by omega) (rfl) ?_
  refine go_iadd dX10_goesAt_47 ?_
  refine go_ireturn dX10_goesAt_48 rfl rfl (Nat.zero_le _) (Nat.zero_le _) ?_
  exact ⟨rfl, rfl⟩
theorem q_canGo {l : Launch} {d as ar t p k : Nat} {C : Cy} {T : Tn} {h : Hp} (W : WC C) (H : MB h as ar C T) (ht : t < cN C) (hp : p < cP C) (hk : k < 256) : Ex l (d + 1) mX10_canGo [.ref 77, .int (nI t), .int (nI p), .int (nI k)] h (some (.int (if cgB T t p k = true then 1 else 0))) h := by
  have hS := H.1.1
  have hN1 := W.1.1
  have hP := W.1.2.1
  have tb := tb_nI ⟨k, hk⟩ ⟨p, by omega⟩
  dsimp only at tb
  refine run_lv [some (.ref 77), some (.int (nI t)), some (.int (nI p)), some (.int (nI k))] (go := ?_)
  refine go_iloadn dX10_canGo_0 rfl ?_
  refine go_iloadn dX10_canGo_1 rfl ?_
  refine go_ishr dX10_canGo_2 ?_
  refine go_iconst (v := 1) dX10_canGo_3 rfl ?_
  refine go_iand dX10_canGo_4 ?_
  rw [tb]
  refine go_if_ne (tgt := 24) dX10_canGo_5 (by decide) (fun c5 => ?_) (fun c5 => ?_)
  · refine go_iconst (v := 0) dX10_canGo_24 rfl ?_
    refine go_ireturn dX10_canGo_25 rfl rfl (Nat.zero_le _) (Nat.zero_le _) ?_
    exact ⟨by cases q : k.testBit p <;> rw [q] at c5 <;> first | exact absurd c5 (by decide) | exact absurd rfl c5 | (simp [cgB, q, c17]; done) | simp [cgB, q], rfl⟩
  · refine go_aloadn dX10_canGo_8 rfl ?_
    refine sg_getR dX10_canGo_9 fX10_66 rfl (mo_L rfl) hS (mo_r42 hS rfl) ?_
    refine go_iconst (v := 1) dX10_canGo_12 rfl ?_
    refine go_iloadn dX10_canGo_13 rfl ?_
    refine go_iadd dX10_canGo_14 ?_
    refine sg_ialdN (i := 1 + t) dX10_canGo_15 (mo_42 rfl) hS (by simp only [lit_nI, nI_add, pk_mul, Nat.add_assoc, Nat.zero_add, Nat.add_zero]) (by omega) ((mB0 H.2.1 ht).1) ?_
    refine go_iloadn dX10_canGo_16 rfl ?_
    refine go_icmp_eq (tgt := 24) dX10_canGo_17 (by decide) (fun c17 => ?_) (fun c17 => ?_)
    · refine go_iconst (v := 0) dX10_canGo_24 rfl ?_
      refine go_ireturn dX10_canGo_25 rfl rfl (Nat.zero_le _) (Nat.zero_le _) ?_
      exact ⟨by cases q : k.testBit p <;> rw [q] at c5 <;> first | exact absurd c5 (by decide) | exact absurd rfl c5 | (simp [cgB, q, c17]; done) | simp [cgB, q], rfl⟩
    · refine go_iconst (v := 1) dX10_canGo_20 rfl ?_
      refine go_goto (tgt := 25) dX10_canGo_21 (by decide) ?_
      refine go_ireturn dX10_canGo_25 rfl rfl (Nat.zero_le _) (Nat.zero_le _) ?_
      exact ⟨by cases q : k.testBit p <;> rw [q] at c5 <;> first | exact absurd c5 (by decide) | exact absurd rfl c5 | (simp [cgB, q, c17]; done) | simp [cgB, q], rfl⟩
theorem mn_cm {a b : Int32} : (if a < b then a else b) = if b < a then b else a := by
  by_cases h : a < b
  · rw [if_pos h, if_neg (Int32.lt_asymm h)]
  · rw [if_neg h]
    by_cases h2 : b < a
    · rw [if_pos h2]
    · rw [if_neg h2]
      exact Int32.le_antisymm (Int32.not_lt.mp h) (Int32.not_lt.mp h2)
theorem lsS_att {C : Cy} {T : Tn} {t : Nat} {W : List Nat} {k n v : Nat} (h : lsS C T t W k n = some v) : ∃ p, p < n ∧ cgB T t p k = true ∧ (lsL C T W (k ||| 2 ^ p)).map (coN T t p + ·) = some v := by
  induction n generalizing v with
  | zero => cases h
  | succ n ih =>
    have h : (if cgB T t n k = true then mnO (lsS C T t W k n) ((lsL C T W (k ||| 2 ^ n)).map (coN T t n + ·)) else lsS C T t W k n) = some v := h
    by_cases q : cgB T t n k = true
    · rw [if_pos q] at h
      cases hl : (lsL C T W (k ||| 2 ^ n)).map (coN T t n + ·) with
      | none =>
        rw [hl] at h
        have h2 : lsS C T t W k n = some v := by
          generalize lsS C T t W k n = o at h
          cases o with
          | none => cases h
          | some o => exact h
        obtain ⟨p, hp, z⟩ := ih h2
        exact ⟨p, by omega, z⟩
      | some u =>
        rw [hl] at h
        cases hs : lsS C T t W k n with
        | none =>
          rw [hs] at h
          exact ⟨n, by omega, q, by rw [hl]; exact h⟩
        | some s =>
          rw [hs] at h
          simp only [mnO, Option.some.injEq] at h
          by_cases z : u < s
          · rw [if_pos z] at h
            exact ⟨n, by omega, q, by rw [hl, h]⟩
          · rw [if_neg z] at h
            obtain ⟨p, hp, z⟩ := ih (v := v) (by rw [hs, h])
            exact ⟨p, by omega, z⟩
    · rw [if_neg q] at h
      obtain ⟨p, hp, z⟩ := ih h
      exact ⟨p, by omega, z⟩
theorem foO_ok {C : Cy} {T : Tn} {t : Nat} {W : List Nat} {k v : Nat} (h : lsL C T (t :: W) k = some v) : ∃ p, foO C T t W k = some p := by
  cases q : foO C T t W k with
  | some p => exact ⟨p, rfl⟩
  | none =>
    have hv := h
    rw [lsL_c] at hv
    obtain ⟨p, hp, z1, z2⟩ := lsS_att hv
    exact absurd ⟨z1, z2.trans h.symm⟩ (fs_of_none q p hp)
theorem gt_out {C : Cy} {T : Tn} {t : Nat} : ∀ (W : List Nat) (k : Nat), t < 1000 → (∀ y ∈ W, t < y ∧ y < 1000) → gtT C T (nI t) W k = -1
  | [], _, _, _ => rfl
  | y :: W, k, ht, h => by
    have hy := h y List.mem_cons_self
    simp only [gtT]
    cases foO C T y W k with
    | none => rfl
    | some p =>
      show (if nI y = nI t then nI p else gtT C T (nI t) W (k ||| 2 ^ p)) = -1
      rw [if_neg (fun e => by have := (nI_eq (by omega) (by omega)).mp e; omega)]
      exact gt_out W _ ht (fun z hz => h z (List.mem_cons_of_mem _ hz))
theorem nI_m1lt {n : Nat} (z : nI n ≤ -1) (hn : n < 2 ^ 31 := by omega) : False := by
  have := Int32.le_iff_toInt_le.mp z
  rw [nI_toInt hn] at this
  have e : (-1 : Int32).toInt = -1 := by decide
  omega
theorem m1_lt {n : Nat} (hn : n < 2 ^ 31 := by omega) : ¬ nI n < -1 := fun z => by
  have := Int32.lt_iff_toInt_lt.mp z
  rw [nI_toInt hn] at this
  have e : (-1 : Int32).toInt = -1 := by decide
  omega
theorem lt_m1 {x : Int32} (h : ¬ x < -1) (h2 : ¬ x = -1) : 0 ≤ x := by
  have h := mt Int32.lt_iff_toInt_lt.mpr h
  have e : (-1 : Int32).toInt = -1 := by decide
  have e0 : (0 : Int32).toInt = 0 := by decide
  refine Int32.le_iff_toInt_le.mpr ?_
  have : x.toInt ≠ -1 := fun q => h2 (Int32.toInt_inj.mp (q.trans e.symm))
  omega
theorem en_eqX {o : Option Nat} {X c v n : Nat} (ho : leO o n) (hn : n ≤ 200) (hc : c ≤ 9) (hv : v ≤ 200) (hX : 1000 ≤ X) (hX2 : X ≤ 2000000) : (nI c + enO X o = nI v) ↔ o.map (c + ·) = some v := by
  cases o with
  | none =>
    show (nI c + nI X = nI v) ↔ none = some v
    rw [nI_add, nI_eq (by omega) (by omega)]
    exact ⟨fun e => by omega, fun e => nomatch e⟩
  | some o =>
    have := ho o rfl
    show (nI c + nI o = nI v) ↔ some (c + o) = some v
    rw [nI_add, nI_eq (by omega) (by omega), Option.some.injEq]
theorem lt_go {l : Launch} {d as ar t v : Nat} {C : Cy} {T : Tn} {h g : Hp} (W : WC C) (H2 : MB g as ar C T) (V : WT C T) (hX : LX g C T 0) (h0 : hI g 77 0 = 0) (hF : Fz SM h g) (ht : t < cN C) (hv : lsL C T (wlN T (cN C)) 0 = some v) : Go l (rmOf (d + 3) (0, 0)) mX10_least (hN h) (Zm (0, 0) (Qn (0, gtT C T (nI t) (wlN T (cN C)) 0) h) noX) 239 [some (.ref 77), some (.int (nI t)), some (.int (nI 0)), some (.int (-1)), some (.int (nI 0)), none] [] g 0 0 := by
  have hS := H2.1.1
  have hN1 := W.1.1
  have hP := W.1.2.1
  have h8 := p8 hP
  have p0 : 0 < 2 ^ cP C := Nat.two_pow_pos _
  have hpe := H2.1.2.1.2.1
  have hlx : ∀ (y k : Nat), leO (lsL C T (wsL T (cN C) y) k) 200 := fun y k v e => by
    have := lsL_le V.o (wsL T (cN C) y) (fun t => ws_lt) k v e
    have := ws_len (T := T) (N := cN C) (x := y)
    omega
  generalize hG : gtT C T (nI t) (wlN T (cN C)) 0 = G
  refine go_wf (I := fun m lv g' => g' = g ∧ ∃ y k i, lv = [some (.ref 77), some (.int (nI t)), some (.int (nI k)), some (.int i), some (.int (nI y)), none] ∧ m = t + 1 - y ∧ ((y ≤ t ∧ k < 2 ^ cP C ∧ (∃ u, lsL C T (wsL T (cN C) y) k = some u) ∧ G = gtT C T (nI t) (wsL T (cN C) y) k) ∨ (y = t + 1 ∧ i = G))) (fun m lv g' hh ih => ?_) (t + 1) _ _ ⟨rfl, 0, 0, -1, rfl, rfl, Or.inl ⟨by omega, p0, ⟨v, hv⟩, hG.symm⟩⟩
  obtain ⟨rfl, y, k, i, rfl, rfl, hh⟩ := hh
  rcases hh with ⟨hy, hk, ⟨u, hu⟩, hg⟩ | ⟨rfl, rfl⟩
  · have hyN : y < cN C := by omega
    have mB := (mB0 H2.2.1 hyN).2.1
    have u2 : u ≤ 200 := hlx y k u hu
    have tail : ∀ r, r = (if tB T y = -1 then -1 else oN nI (foO C T y (wsL T (cN C) (y + 1)) k)) → ∀ q, Go l (rmOf (d + 3) (0, 0)) mX10_least (hN h) (Zm (0, 0) (Qn (0, G) h) noX) 320 [some (.ref 77), some (.int (nI t)), some (.int (nI k)), some (.int r), some (.int (nI y)), some (.int q)] [] g' 0 0 := by
      intro r hr q
      by_cases z : tB T y = -1
      · rw [if_pos z] at hr
        subst hr
        have ez := ws_n (T := T) (N := cN C) hyN z
        rw [ez] at hu hg
        refine go_iloadn dX10_least_320 rfl ?_
        refine go_iconst (v := -1) dX10_least_321 rfl ?_
        refine go_icmp_eq (tgt := 331) dX10_least_322 (by decide) (fun c322 => ?_) (fun c322 => absurd rfl c322)
        refine go_iinc4 (c1 := 1) dX10_least_331 rfl rfl ?_
        refine go_goto (tgt := 239) dX10_least_334 (by decide) ?_
        exact go_back (ih (t + 1 - (y + 1)) _ g' (by omega) ⟨rfl, y + 1, k, -1, rfl, rfl, by by_cases e : y = t; (· subst e; exact Or.inr ⟨rfl, by rw [hg]; exact (gt_out _ _ (by omega) (fun w hw => ⟨by have := ws_ge (cN C - (y + 1)) (y + 1) w (by omega) hw; omega, by have := ws_lt hw; omega⟩)).symm⟩); exact Or.inl ⟨by omega, hk, ⟨u, hu⟩, hg⟩⟩) (by simp [lsub, nI_1]) rfl
      · rw [if_neg z] at hr
        have ez := ws_w (T := T) (N := cN C) hyN z
        rw [ez] at hu hg
        obtain ⟨p, hfo⟩ := foO_ok hu
        obtain ⟨hp, tb, v', hv'⟩ := foO_some hfo hu
        rw [hfo] at hr
        have hr : r = nI p := hr
        subst hr
        have po := pop_or ⟨k, by omega⟩ ⟨p, by omega⟩ tb
        dsimp only at po
        have hg2 : G = if nI y = nI t then nI p else gtT C T (nI t) (wsL T (cN C) (y + 1)) (k ||| 2 ^ p) := by rw [hg]; simp only [gtT, hfo]
        refine go_iloadn dX10_least_320 rfl ?_
        refine go_iconst (v := -1) dX10_least_321 rfl ?_
        refine go_icmp_eq (tgt := 331) dX10_least_322 (by decide) (fun c322 => absurd c322 (nI_m1 (by omega))) (fun c322 => ?_)
        refine go_iloadn dX10_least_325 rfl ?_
        refine go_iconst (v := 1) dX10_least_326 rfl ?_
        refine go_iloadn dX10_least_327 rfl ?_
        refine go_ishl dX10_least_328 ?_
        refine go_ior dX10_least_329 ?_
        rw [po.2.2.2]
        refine go_ist2 dX10_least_330 rfl ?_
        refine go_iinc4 (c1 := 1) dX10_least_331 rfl rfl ?_
        refine go_goto (tgt := 239) dX10_least_334 (by decide) ?_
        exact go_back (ih (t + 1 - (y + 1)) _ g' (by omega) ⟨rfl, y + 1, k ||| 2 ^ p, nI p, rfl, rfl, by by_cases e : y = t; (· subst e; exact Or.inr ⟨rfl, by rw [hg2, if_pos rfl]⟩); exact Or.inl ⟨by omega, or_lt2 hk hp, ⟨v', hv'⟩, by rw [hg2, if_neg (fun q => e ((nI_eq (by omega) (by omega)).mp q))]⟩⟩) (by simp [lsub, nI_1]) rfl
    refine go_iload dX10_least_239 rfl ?_
    refine go_iloadn dX10_least_241 rfl ?_
    refine go_icmp_gt (tgt := 337) dX10_least_242 (by decide) (fun c242 => absurd c242 (nI_nlt (by omega) (by omega))) (fun c242 => ?_)
    refine go_iconst (v := -1) dX10_least_245 rfl ?_
    refine go_ist3 dX10_least_246 rfl ?_
    refine go_aloadn dX10_least_247 rfl ?_
    refine sg_getI dX10_least_248 fX10_273 rfl (mo_L rfl) hS ?_
    rw [hpe]
    refine go_iconst (v := 1) dX10_least_251 rfl ?_
    refine go_isub dX10_least_252 ?_
    refine go_ist5 dX10_least_253 rfl ?_
    skip
    rw [Int32.sub_eq_add_neg]
    by_cases z : tB T y = -1
    · refine go_iload dX10_least_255 rfl ?_
      refine go_if_lt (tgt := 320) dX10_least_257 (by decide) (fun c257 => tail _ (by rw [if_pos z]) _) (fun c257 => ?_)
      refine go_aloadn dX10_least_260 rfl ?_
      refine sg_getR dX10_least_261 fX10_66 rfl (mo_L rfl) hS (mo_r42 hS rfl) ?_
      refine go_bipush (v := 11) dX10_least_264 rfl ?_
      refine go_iload dX10_least_266 rfl ?_
      refine go_iadd dX10_least_268 ?_
      refine sg_ialdN (i := 11 + y) dX10_least_269 (mo_42 rfl) hS (by simp only [lit_nI, nI_add, pk_mul, Nat.add_assoc, Nat.zero_add, Nat.add_zero]) (by omega) (mB) ?_
      refine go_iconst (v := -1) dX10_least_270 rfl ?_
      refine go_icmp_eq (tgt := 320) dX10_least_271 (by decide) (fun c271 => ?_) (fun c271 => absurd z c271)
      exact tail _ (by rw [if_pos z]) _
    · have ez := ws_w (T := T) (N := cN C) hyN z
      have eL := hX y k (by omega) (by omega) hk
      rw [hu] at eL
      have eL : hI g' 95 (256 * y + k) = nI u := eL
      rw [ez] at hu
      refine go_wf (I := fun m lv g2 => g2 = g' ∧ ∃ r, lv = [some (.ref 77), some (.int (nI t)), some (.int (nI k)), some (.int r), some (.int (nI y)), some (.int (nI m + (-1)))] ∧ m ≤ cP C ∧ ((r = -1 ∧ ∀ q, m ≤ q → q < cP C → ¬ (cgB T y q k = true ∧ (lsL C T (wsL T (cN C) (y + 1)) (k ||| 2 ^ q)).map (coN T y q + ·) = lsL C T (y :: wsL T (cN C) (y + 1)) k)) ∨ ∃ q0, r = nI q0 ∧ m ≤ q0 ∧ q0 < cP C ∧ (cgB T y q0 k = true ∧ (lsL C T (wsL T (cN C) (y + 1)) (k ||| 2 ^ q0)).map (coN T y q0 + ·) = lsL C T (y :: wsL T (cN C) (y + 1)) k) ∧ ∀ q, m ≤ q → q < q0 → ¬ (cgB T y q k = true ∧ (lsL C T (wsL T (cN C) (y + 1)) (k ||| 2 ^ q)).map (coN T y q + ·) = lsL C T (y :: wsL T (cN C) (y + 1)) k))) (fun m lv g2 hh ih2 => ?_) (cP C) _ _ ⟨rfl, -1, rfl, Nat.le_refl _, Or.inl ⟨rfl, fun q a b => absurd b (by omega)⟩⟩
      obtain ⟨rfl, r, rfl, hm, hr⟩ := hh
      cases m with
      | zero =>
        have er : r = (if tB T y = -1 then -1 else oN nI (foO C T y (wsL T (cN C) (y + 1)) k)) := by
          rw [if_neg z]
          rcases hr with ⟨r1, r2⟩ | ⟨q0, r1, -, r2, r3, r4⟩
          · rw [foO, fs_none (fun q hq => r2 q (Nat.zero_le _) hq)]; exact r1
          · rw [foO, fs_some r2 r3 (fun q hq => r4 q (Nat.zero_le _) hq)]; exact r1
        refine go_iload dX10_least_255 rfl ?_
        refine go_if_lt (tgt := 320) dX10_least_257 (by decide) (fun c257 => ?_) (fun c257 => absurd (by decide) c257)
        exact tail _ er _
      | succ p =>
        rw [pk_m1]
        have hp : p < cP C := by omega
        have hit : (cgB T y p k = true ∧ (lsL C T (wsL T (cN C) (y + 1)) (k ||| 2 ^ p)).map (coN T y p + ·) = lsL C T (y :: wsL T (cN C) (y + 1)) k) → Go l (rmOf (d + 3) (0, 0)) mX10_least (hN h) (Zm (0, 0) (Qn (0, G) h) noX) 314 [some (.ref 77), some (.int (nI t)), some (.int (nI k)), some (.int (nI p)), some (.int (nI y)), some (.int (nI p))] [] g2 0 0 := by
          intro hQ
          refine go_iinc5 (c1 := -1) dX10_least_314 rfl rfl ?_
          refine go_goto (tgt := 255) dX10_least_317 (by decide) ?_
          exact go_cong (ih2 p _ g2 (by omega) ⟨rfl, nI p, rfl, by omega, Or.inr ⟨p, rfl, Nat.le_refl _, hp, hQ, fun q a b => absurd b (by omega)⟩⟩) rfl rfl
        have mis : ¬ (cgB T y p k = true ∧ (lsL C T (wsL T (cN C) (y + 1)) (k ||| 2 ^ p)).map (coN T y p + ·) = lsL C T (y :: wsL T (cN C) (y + 1)) k) → Go l (rmOf (d + 3) (0, 0)) mX10_least (hN h) (Zm (0, 0) (Qn (0, G) h) noX) 314 [some (.ref 77), some (.int (nI t)), some (.int (nI k)), some (.int r), some (.int (nI y)), some (.int (nI p))] [] g2 0 0 := by
          intro hQ
          refine go_iinc5 (c1 := -1) dX10_least_314 rfl rfl ?_
          refine go_goto (tgt := 255) dX10_least_317 (by decide) ?_
          exact go_cong (ih2 p _ g2 (by omega) ⟨rfl, r, rfl, by omega, by rcases hr with ⟨r1, r2⟩ | ⟨q0, r1, r0, r2, r3, r4⟩; (· exact Or.inl ⟨r1, fun q a b => by by_cases e : q = p; (· subst e; exact hQ); exact r2 q (by omega) b⟩); exact Or.inr ⟨q0, r1, by omega, r2, r3, fun q a b => by by_cases e : q = p; (· subst e; exact hQ); exact r4 q (by omega) b⟩⟩) rfl rfl
        have en := en_eqX (X := 99999) (hlx (y + 1) (k ||| 2 ^ p)) (by decide) (coN_le V.o hyN hp).1 u2 (by decide) (by decide)
        have hit' : ¬ (if cgB T y p k = true then (1 : Int32) else 0) = 0 → nI (coN T y p) + enO 99999 (lsL C T (wsL T (cN C) (y + 1)) (k ||| 2 ^ p)) = nI u → Go l (rmOf (d + 3) (0, 0)) mX10_least (hN h) (Zm (0, 0) (Qn (0, G) h) noX) 311 [some (.ref 77), some (.int (nI t)), some (.int (nI k)), some (.int r), some (.int (nI y)), some (.int (nI p))] [] g2 0 0 := by
          intro a b
          have cg : cgB T y p k = true := by cases q : cgB T y p k; (rw [q] at a; exact absurd rfl a); rfl
          refine go_iload dX10_least_311 rfl ?_
          refine go_ist3 dX10_least_313 rfl ?_
          exact hit ⟨cg, (en.mp b).trans hu.symm⟩
        have mis1 : (if cgB T y p k = true then (1 : Int32) else 0) = 0 → Go l (rmOf (d + 3) (0, 0)) mX10_least (hN h) (Zm (0, 0) (Qn (0, G) h) noX) 314 [some (.ref 77), some (.int (nI t)), some (.int (nI k)), some (.int r), some (.int (nI y)), some (.int (nI p))] [] g2 0 0 := fun a => mis (fun q => by rw [if_pos q.1] at a; exact absurd a (by decide))
        have mis2 : ¬ nI (coN T y p) + enO 99999 (lsL C T (wsL T (cN C) (y + 1)) (k ||| 2 ^ p)) = nI u → Go l (rmOf (d + 3) (0, 0)) mX10_least (hN h) (Zm (0, 0) (Qn (0, G) h) noX) 314 [some (.ref 77), some (.int (nI t)), some (.int (nI k)), some (.int r), some (.int (nI y)), some (.int (nI p))] [] g2 0 0 := fun a => mis (fun q => a (en.mpr (q.2.trans hu)))
        refine go_iload dX10_least_255 rfl ?_
        refine go_if_lt (tgt := 320) dX10_least_257 (by decide) (fun c257 => absurd c257 (nI_pos (by omega))) (fun c257 => ?_)
        refine go_aloadn dX10_least_260 rfl ?_
        refine sg_getR dX10_least_261 fX10_66 rfl (mo_L rfl) hS (mo_r42 hS rfl) ?_
        refine go_bipush (v := 11) dX10_least_264 rfl ?_
        refine go_iload dX10_least_266 rfl ?_
        refine go_iadd dX10_least_268 ?_
        refine sg_ialdN (i := 11 + y) dX10_least_269 (mo_42 rfl) hS (by simp only [lit_nI, nI_add, pk_mul, Nat.add_assoc, Nat.zero_add, Nat.add_zero]) (by omega) (mB) ?_
        refine go_iconst (v := -1) dX10_least_270 rfl ?_
        refine go_icmp_eq (tgt := 320) dX10_least_271 (by decide) (fun c271 => absurd c271 z) (fun c271 => ?_)
        refine go_aloadn dX10_least_274 rfl ?_
        refine go_iload dX10_least_275 rfl ?_
        refine go_iload dX10_least_277 rfl ?_
        refine go_iloadn dX10_least_279 rfl ?_
        refine sg_cVi (M' := mX10_canGo) ([.int (nI y), .int (nI p), .int (nI k)]) dX10_least_280 lX10_416 vX10_canGo (mo_L rfl) (by decide) rfl hS (q_canGo W H2 hyN hp (by omega)) rfl (Nat.le_of_ble_eq_true rfl) (Nat.zero_le _) (Nat.zero_le _) ?_
        refine go_if_eq (tgt := 314) dX10_least_283 (by decide) (fun c283 => ?_) (fun c283 => ?_)
        · first | exact mis1 c283 | exact mis2 c308
        · refine go_aloadn dX10_least_286 rfl ?_
          refine go_iload dX10_least_287 rfl ?_
          refine go_iload dX10_least_289 rfl ?_
          refine go_iloadn dX10_least_291 rfl ?_
          refine sg_cVi (M' := mX10_goesAt) ([.int (nI y), .int (nI p), .int (nI k)]) dX10_least_292 lX10_419 vX10_goesAt (mo_L rfl) (by decide) rfl hS (q_goesAt W H2 V hyN hp (by omega)) rfl (Nat.le_of_ble_eq_true rfl) (Nat.zero_le _) (Nat.zero_le _) ?_
          rw [hX (y + 1) (k ||| 2 ^ p) (by omega) (by omega) (or_lt2 hk hp)]
          refine go_aloadn dX10_least_295 rfl ?_
          refine sg_getR dX10_least_296 fX10_78 rfl (mo_L rfl) hS (mo_r49 hS rfl) ?_
          refine go_sipush (v := 256) dX10_least_299 rfl ?_
          refine go_iload dX10_least_302 rfl ?_
          refine go_imul dX10_least_304 ?_
          refine go_iloadn dX10_least_305 rfl ?_
          refine go_iadd dX10_least_306 ?_
          refine sg_ialdN (i := 256 * y + k) dX10_least_307 (mo_49 rfl) hS (by simp only [lit_nI, nI_add, pk_mul, Nat.add_assoc, Nat.zero_add, Nat.add_zero]) (by omega) (eL) ?_
          refine go_icmp_ne (tgt := 314) dX10_least_308 (by decide) (fun c308 => ?_) (fun c308 => ?_)
          · first | exact mis1 c283 | exact mis2 c308
          · exact hit' c283 (by first | exact c308 | exact Decidable.not_not.mp c308)
  · refine go_iload dX10_least_239 rfl ?_
    refine go_iloadn dX10_least_241 rfl ?_
    refine go_icmp_gt (tgt := 337) dX10_least_242 (by decide) (fun c242 => ?_) (fun c242 => absurd (nI_lt (by omega) (by omega)) c242)
    refine go_iloadn dX10_least_337 rfl ?_
    refine go_ireturn dX10_least_338 rfl rfl (Nat.zero_le _) (Nat.zero_le _) ?_
    exact qn_ok rfl h0 hF
theorem m_least {l : Launch} {d as ar : Nat} {x : Int32} {C : Cy} {T : Tn} {h : Hp} (W : WC C) (H : MB h as ar C T) (V : WT C T) : Qm l (d + 3) mX10_least [.ref 77, .int x] h (vLeast C T x) := by
  have hS := H.1.1
  have hN1 := W.1.1
  have hP := W.1.2.1
  have h8 := p8 hP
  have p0 : 0 < 2 ^ cP C := Nat.two_pow_pos _
  refine run_lv [some (.ref 77), some (.int x), none, none, none, none] (go := ?_)
  unfold vLeast
  refine go_aloadn dX10_least_0 rfl ?_
  refine go_iconst (v := 0) dX10_least_1 rfl ?_
  refine sg_putI dX10_least_2 fX10_102 rfl rfl (mo_L rfl) hS ?_
  have hF : Fz SM h (uI h 77 0 0) := Fz.rf.uI sm0
  have H := H.sm W hF
  have h0 : hI (uI h 77 0 0) 77 0 = 0 := hI_uI_eq
  generalize uI h 77 0 0 = h1 at *
  have hS := H.1.1
  have hth := H.1.2.1.2.2.1
  have e24 : ∀ u : Int32, u = (if x = -1 ∨ okX (cN C) x then 1 else 0) → Go l (rmOf (d + 3) (0, 0)) mX10_least (hN h) (Zm (0, 0) (Qn (nd (x = -1 ∨ okX (cN C) x) 1 (0, leT C T x)) h) noX) 24 [some (.ref 77), some (.int x), none, none, none, none] [.int u, .ref 77] h1 0 0 := by
    intro u hu
    subst hu
    have e2 : (1 : Int32) <<< (nI (cP C) &&& 31) = nI (2 ^ cP C) := one_nI ⟨cP C, by omega⟩
    have hlx : ∀ (y k : Nat), leO (lsL C T (wsL T (cN C) y) k) 200 := fun y k v e => by
      have := lsL_le V.o (wsL T (cN C) y) (fun t => ws_lt) k v e
      have := ws_len (T := T) (N := cN C) (x := y)
      omega
    refine go_iconst (v := 1) dX10_least_24 rfl ?_
    refine sg_mnd (M' := mX10_right) ([.int _, .int (nI 1)]) dX10_least_25 lX10_266 vX10_right (mo_L rfl) (by decide) rfl hS (q_right hS h0 (by decide) (by decide)).1 (q_right hS h0 (by decide) (by decide)).2 rfl (Nat.le_of_ble_eq_true rfl) (fun k25 => ?_) (fun k25 => ?_)
    · refine go_if_ne (tgt := 33) dX10_least_28 (by decide) (fun c => absurd rfl c) (fun _ => ?_)
      refine go_iconst (v := 0) dX10_least_31 rfl ?_
      refine go_ireturn dX10_least_32 rfl rfl (Nat.zero_le _) (Nat.zero_le _) ?_
      exact ⟨⟨0, rfl, fun q => absurd q (by decide)⟩, hI_uI_eq, hF.uI sm0⟩
    refine go_if_ne (tgt := 33) dX10_least_28 (by decide) (fun c28 => ?_) (fun c28 => absurd c28 (by decide))
    refine go_iconst (v := 0) dX10_least_33 rfl ?_
    refine go_ist2 dX10_least_34 rfl ?_
    skip
    refine go_loopR (lvf := fun k => [some (.ref 77), some (.int x), some (.int (nI k)), none, none, none]) 256 (fun k g => Fz SN h1 g ∧ ∀ j, j < k → hI g 95 (256 * cN C + j) = 0) (fun k g hk hh ih => ?_) (fun g hh => ?_) 0 h1 (Nat.zero_le _) ⟨Fz.rf, fun _ q => absurd q (by omega)⟩
    · obtain ⟨F, hz⟩ := hh
      have H2 := H.sn W F
      have hS := H2.1.1
      refine go_iloadn dX10_least_35 rfl ?_
      refine go_sipush (v := 256) dX10_least_36 rfl ?_
      refine go_icmp_ge (tgt := 64) dX10_least_39 (by decide) (fun c39 => absurd c39 (nI_ge (b := 256) hk (by decide))) (fun c39 => ?_)
      refine go_aloadn dX10_least_42 rfl ?_
      refine sg_getR dX10_least_43 fX10_78 rfl (mo_L rfl) hS (mo_r49 hS rfl) ?_
      refine go_sipush (v := 256) dX10_least_46 rfl ?_
      refine go_aloadn dX10_least_49 rfl ?_
      refine sg_getI dX10_least_50 fX10_276 rfl (mo_L rfl) hS ?_
      rw [H2.1.2.1.2.2.1]
      refine go_imul dX10_least_53 ?_
      refine go_iloadn dX10_least_54 rfl ?_
      refine go_iadd dX10_least_55 ?_
      refine go_iconst (v := 0) dX10_least_56 rfl ?_
      refine sg_iastN (i := 256 * cN C + k) dX10_least_57 (mo_49 rfl) hS (by simp only [lit_nI, nI_add, pk_mul, Nat.add_assoc, Nat.zero_add, Nat.add_zero]) (by omega) ?_
      refine go_iinc2 (c1 := 1) dX10_least_58 rfl rfl ?_
      refine go_goto (tgt := 35) dX10_least_61 (by decide) ?_
      exact go_cong (ih _ ⟨F.uI (by unfold SN; omega), fun j hj => by rw [hI_uI]; by_cases e : j = k; (· subst e; rw [if_pos ⟨rfl, rfl⟩]); (rw [if_neg (by omega)]; exact hz j (by omega))⟩) (by simp [nI_1]) rfl
    · obtain ⟨F, hz⟩ := hh
      have H2 := H.sn W F
      have hS := H2.1.1
      refine go_iloadn dX10_least_35 rfl ?_
      refine go_sipush (v := 256) dX10_least_36 rfl ?_
      refine go_icmp_ge (tgt := 64) dX10_least_39 (by decide) (fun c39 => ?_) (fun c39 => absurd (by decide) c39)
      refine go_aloadn dX10_least_64 rfl ?_
      refine sg_getI dX10_least_65 fX10_276 rfl (mo_L rfl) hS ?_
      rw [H2.1.2.1.2.2.1]
      refine go_iconst (v := 1) dX10_least_68 rfl ?_
      refine go_isub dX10_least_69 ?_
      refine go_ist2 dX10_least_70 rfl ?_
      skip
      rw [Int32.sub_eq_add_neg]
      refine go_wf (I := fun m lv g => lv = [some (.ref 77), some (.int x), some (.int (nI m + (-1))), none, none, none] ∧ m ≤ cN C ∧ Fz SN h1 g ∧ LX g C T m) (fun m lv g hh ih => ?_) (cN C) _ _ ⟨rfl, Nat.le_refl _, F, fun y k h1 h2 hk => by
        have e : y = cN C := by omega
        subst e; rw [hz k (by omega), ws_N]; rfl⟩
      obtain ⟨rfl, hm, F, hX⟩ := hh
      have H2 := H.sn W F
      have hS := H2.1.1
      cases m with
      | succ y =>
        rw [pk_m1]
        have mB := (mB0 H2.2.1 (show y < cN C by omega)).2.1
        refine go_iloadn dX10_least_71 rfl ?_
        refine go_if_lt (tgt := 205) dX10_least_72 (by decide) (fun c72 => absurd c72 (nI_pos (by omega))) (fun c72 => ?_)
        refine go_iconst (v := 0) dX10_least_75 rfl ?_
        refine go_ist3 dX10_least_76 rfl ?_
        skip
        refine go_loopR (lvf := fun k => [some (.ref 77), some (.int x), some (.int (nI y)), some (.int (nI k)), none, none]) (2 ^ cP C) (fun k g => (Fz SN h1 g ∧ LX g C T (y + 1)) ∧ ∀ j, j < k → hI g 95 (256 * y + j) = enO 99999 (lsL C T (wsL T (cN C) y) j)) (fun k g hk hh ih2 => ?_) (fun g hh => ?_) 0 g (Nat.zero_le _) ⟨⟨F, hX⟩, fun _ q => absurd q (by omega)⟩
        · obtain ⟨⟨F, hX⟩, hj⟩ := hh
          have H2 := H.sn W F
          have hS := H2.1.1
          have mB := (mB0 H2.2.1 (show y < cN C by omega)).2.1
          have hpe := H2.1.2.1.2.1
          have fin : ∀ u : Int32, u = enO 99999 (lsL C T (wsL T (cN C) y) k) → ∀ q, Go l (rmOf (d + 3) (0, 0)) mX10_least (hN h) (Zm (0, 0) (Qn (0, leT C T x) h) noX) 179 [some (.ref 77), some (.int x), some (.int (nI y)), some (.int (nI k)), some (.int u), some (.int (nI q))] [] g 0 0 := by
            intro u hu q
            refine go_aloadn dX10_least_179 rfl ?_
            refine sg_getR dX10_least_180 fX10_78 rfl (mo_L rfl) hS (mo_r49 hS rfl) ?_
            refine go_sipush (v := 256) dX10_least_183 rfl ?_
            refine go_iloadn dX10_least_186 rfl ?_
            refine go_imul dX10_least_187 ?_
            refine go_iloadn dX10_least_188 rfl ?_
            refine go_iadd dX10_least_189 ?_
            refine go_iload dX10_least_190 rfl ?_
            refine sg_iastN (i := 256 * y + k) dX10_least_192 (mo_49 rfl) hS (by simp only [lit_nI, nI_add, pk_mul, Nat.add_assoc, Nat.zero_add, Nat.add_zero]) (by omega) ?_
            refine go_iinc3 (c1 := 1) dX10_least_193 rfl rfl ?_
            refine go_goto (tgt := 77) dX10_least_196 (by decide) ?_
            exact go_back (ih2 _ ⟨⟨F.uI (by unfold SN; omega), fun z j a b c => by rw [hI_uI_ne (by omega)]; exact hX z j a b c⟩, fun j hjk => by rw [hI_uI]; by_cases e : j = k; (· subst e; rw [if_pos ⟨rfl, rfl⟩]; exact hu); (rw [if_neg (by omega)]; exact hj j (by omega))⟩) (by simp [lsub, nI_1]) rfl
          by_cases z : tB T y = -1
          · have ez := ws_n (T := T) (N := cN C) (show y < cN C by omega) z
            refine go_iloadn dX10_least_77 rfl ?_
            refine go_iconst (v := 1) dX10_least_78 rfl ?_
            refine go_aloadn dX10_least_79 rfl ?_
            refine sg_getI dX10_least_80 fX10_273 rfl (mo_L rfl) hS ?_
            rw [hpe]
            refine go_ishl dX10_least_83 ?_
            rw [e2]
            refine go_icmp_ge (tgt := 199) dX10_least_84 (by decide) (fun c84 => absurd c84 (nI_ge hk (by omega))) (fun c84 => ?_)
            refine go_aloadn dX10_least_87 rfl ?_
            refine sg_getR dX10_least_88 fX10_66 rfl (mo_L rfl) hS (mo_r42 hS rfl) ?_
            refine go_bipush (v := 11) dX10_least_91 rfl ?_
            refine go_iloadn dX10_least_93 rfl ?_
            refine go_iadd dX10_least_94 ?_
            refine sg_ialdN (i := 11 + y) dX10_least_95 (mo_42 rfl) hS (by simp only [lit_nI, nI_add, pk_mul, Nat.add_assoc, Nat.zero_add, Nat.add_zero]) (by omega) (mB) ?_
            refine go_iconst (v := -1) dX10_least_96 rfl ?_
            refine go_icmp_ne (tgt := 117) dX10_least_97 (by decide) (fun c97 => absurd z c97) (fun c97 => ?_)
            refine go_aloadn dX10_least_100 rfl ?_
            refine sg_getR dX10_least_101 fX10_78 rfl (mo_L rfl) hS (mo_r49 hS rfl) ?_
            refine go_sipush (v := 256) dX10_least_104 rfl ?_
            refine go_iloadn dX10_least_107 rfl ?_
            refine go_iconst (v := 1) dX10_least_108 rfl ?_
            refine go_iadd dX10_least_109 ?_
            refine go_imul dX10_least_110 ?_
            refine go_iloadn dX10_least_111 rfl ?_
            refine go_iadd dX10_least_112 ?_
            refine sg_ialdN (i := 256 * (y + 1) + k) dX10_least_113 (mo_49 rfl) hS (by simp only [lit_nI, nI_add, pk_mul, Nat.add_assoc, Nat.zero_add, Nat.add_zero]) (by omega) (hX (y + 1) k (by omega) (by omega) hk) ?_
            refine go_goto (tgt := 120) dX10_least_114 (by decide) ?_
            refine go_ist4 dX10_least_120 rfl ?_
            refine go_iconst (v := 0) dX10_least_122 rfl ?_
            refine go_ist5 dX10_least_123 rfl ?_
            refine go_iload dX10_least_125 rfl ?_
            refine go_aloadn dX10_least_127 rfl ?_
            refine sg_getI dX10_least_128 fX10_273 rfl (mo_L rfl) hS ?_
            rw [hpe]
            refine go_icmp_ge (tgt := 179) dX10_least_131 (by decide) (fun c131 => fin _ (by rw [ez]) 0) (fun c131 => ?_)
            refine go_aloadn dX10_least_134 rfl ?_
            refine sg_getR dX10_least_135 fX10_66 rfl (mo_L rfl) hS (mo_r42 hS rfl) ?_
            refine go_bipush (v := 11) dX10_least_138 rfl ?_
            refine go_iloadn dX10_least_140 rfl ?_
            refine go_iadd dX10_least_141 ?_
            refine sg_ialdN (i := 11 + y) dX10_least_142 (mo_42 rfl) hS (by simp only [lit_nI, nI_add, pk_mul, Nat.add_assoc, Nat.zero_add, Nat.add_zero]) (by omega) (mB) ?_
            refine go_iconst (v := -1) dX10_least_143 rfl ?_
            refine go_icmp_eq (tgt := 179) dX10_least_144 (by decide) (fun c144 => ?_) (fun c144 => absurd z c144)
            exact fin _ (by rw [ez]) 0
          · have ez := ws_w (T := T) (N := cN C) (show y < cN C by omega) z
            have hlS : ∀ n, n ≤ cP C → leO (lsS C T y (wsL T (cN C) (y + 1)) k n) 200 := fun n hn v e => by
              have := lsS_le V.o (show y < cN C by omega) (fun k => lsL_le V.o (wsL T (cN C) (y + 1)) (fun t => ws_lt) k) hn v e
              have := ws_len (T := T) (N := cN C) (x := y + 1)
              omega
            refine go_iloadn dX10_least_77 rfl ?_
            refine go_iconst (v := 1) dX10_least_78 rfl ?_
            refine go_aloadn dX10_least_79 rfl ?_
            refine sg_getI dX10_least_80 fX10_273 rfl (mo_L rfl) hS ?_
            rw [hpe]
            refine go_ishl dX10_least_83 ?_
            rw [e2]
            refine go_icmp_ge (tgt := 199) dX10_least_84 (by decide) (fun c84 => absurd c84 (nI_ge hk (by omega))) (fun c84 => ?_)
            refine go_aloadn dX10_least_87 rfl ?_
            refine sg_getR dX10_least_88 fX10_66 rfl (mo_L rfl) hS (mo_r42 hS rfl) ?_
            refine go_bipush (v := 11) dX10_least_91 rfl ?_
            refine go_iloadn dX10_least_93 rfl ?_
            refine go_iadd dX10_least_94 ?_
            refine sg_ialdN (i := 11 + y) dX10_least_95 (mo_42 rfl) hS (by simp only [lit_nI, nI_add, pk_mul, Nat.add_assoc, Nat.zero_add, Nat.add_zero]) (by omega) (mB) ?_
            refine go_iconst (v := -1) dX10_least_96 rfl ?_
            refine go_icmp_ne (tgt := 117) dX10_least_97 (by decide) (fun c97 => ?_) (fun c97 => absurd c97 z)
            refine go_ldcw dX10_least_117 kX10_405 ?_
            refine go_ist4 dX10_least_120 rfl ?_
            refine go_iconst (v := 0) dX10_least_122 rfl ?_
            refine go_ist5 dX10_least_123 rfl ?_
            skip
            refine go_loop (lvf := fun p => [some (.ref 77), some (.int x), some (.int (nI y)), some (.int (nI k)), some (.int (enO 99999 (lsS C T y (wsL T (cN C) (y + 1)) k p))), some (.int (nI p))]) (hf := fun _ => g) (cP C) (fun _ => True) (fun p hp _ ih3 => ?_) (fun _ => ?_) 0 (Nat.zero_le _) trivial
            · have es : lsS C T y (wsL T (cN C) (y + 1)) k (p + 1) = if cgB T y p k = true then mnO (lsS C T y (wsL T (cN C) (y + 1)) k p) ((lsL C T (wsL T (cN C) (y + 1)) (k ||| 2 ^ p)).map (coN T y p + ·)) else lsS C T y (wsL T (cN C) (y + 1)) k p := rfl
              rw [es] at ih3
              have hl3 := hlS p (by omega)
              refine go_iload dX10_least_125 rfl ?_
              refine go_aloadn dX10_least_127 rfl ?_
              refine sg_getI dX10_least_128 fX10_273 rfl (mo_L rfl) hS ?_
              rw [hpe]
              refine go_icmp_ge (tgt := 179) dX10_least_131 (by decide) (fun c131 => absurd c131 (nI_ge hp (by omega))) (fun c131 => ?_)
              refine go_aloadn dX10_least_134 rfl ?_
              refine sg_getR dX10_least_135 fX10_66 rfl (mo_L rfl) hS (mo_r42 hS rfl) ?_
              refine go_bipush (v := 11) dX10_least_138 rfl ?_
              refine go_iloadn dX10_least_140 rfl ?_
              refine go_iadd dX10_least_141 ?_
              refine sg_ialdN (i := 11 + y) dX10_least_142 (mo_42 rfl) hS (by simp only [lit_nI, nI_add, pk_mul, Nat.add_assoc, Nat.zero_add, Nat.add_zero]) (by omega) (mB) ?_
              refine go_iconst (v := -1) dX10_least_143 rfl ?_
              refine go_icmp_eq (tgt := 179) dX10_least_144 (by decide) (fun c144 => absurd c144 z) (fun c144 => ?_)
              refine go_aloadn dX10_least_147 rfl ?_
              refine go_iloadn dX10_least_148 rfl ?_
              refine go_iload dX10_least_149 rfl ?_
              refine go_iloadn dX10_least_151 rfl ?_
              refine sg_cVi (M' := mX10_canGo) ([.int (nI y), .int (nI p), .int (nI k)]) dX10_least_152 lX10_416 vX10_canGo (mo_L rfl) (by decide) rfl hS (q_canGo W H2 (by omega) hp (by omega)) rfl (Nat.le_of_ble_eq_true rfl) (Nat.zero_le _) (Nat.zero_le _) ?_
              refine go_if_eq (tgt := 173) dX10_least_155 (by decide) (fun c155 => ?_) (fun c155 => ?_)
              · refine go_iinc5 (c1 := 1) dX10_least_173 rfl rfl ?_
                refine go_goto (tgt := 125) dX10_least_176 (by decide) ?_
                exact go_cong (ih3 trivial) (by cases q : cgB T y p k <;> rw [q] at c155 <;> first | exact absurd c155 (by decide) | exact absurd rfl c155 | (simp [nI_1]; done)) rfl
              · refine go_iload dX10_least_158 rfl ?_
                refine go_aloadn dX10_least_160 rfl ?_
                refine go_iloadn dX10_least_161 rfl ?_
                refine go_iload dX10_least_162 rfl ?_
                refine go_iloadn dX10_least_164 rfl ?_
                refine sg_cVi (M' := mX10_goesAt) ([.int (nI y), .int (nI p), .int (nI k)]) dX10_least_165 lX10_419 vX10_goesAt (mo_L rfl) (by decide) rfl hS (q_goesAt W H2 V (by omega) hp (by omega)) rfl (Nat.le_of_ble_eq_true rfl) (Nat.zero_le _) (Nat.zero_le _) ?_
                rw [hX (y + 1) (k ||| 2 ^ p) (by omega) (by omega) (or_lt2 hk hp)]
                refine sg_cSi (M' := mX10_lesser) ([.int _, .int _]) dX10_least_168 lX10_324 sX10_lesser hS (q_lesser) rfl (Nat.le_of_ble_eq_true rfl) (Nat.zero_le _) (Nat.zero_le _) ?_
                rw [mn_cm, enO_min hl3 (hlx _ _) (coN_le V.o (by omega) hp).1 (by decide) (by decide) (by decide)]
                refine go_ist4 dX10_least_171 rfl ?_
                refine go_iinc5 (c1 := 1) dX10_least_173 rfl rfl ?_
                refine go_goto (tgt := 125) dX10_least_176 (by decide) ?_
                exact go_cong (ih3 trivial) (by cases q : cgB T y p k <;> rw [q] at c155 <;> first | exact absurd c155 (by decide) | exact absurd rfl c155 | (simp [nI_1]; done)) rfl
            · refine go_iload dX10_least_125 rfl ?_
              refine go_aloadn dX10_least_127 rfl ?_
              refine sg_getI dX10_least_128 fX10_273 rfl (mo_L rfl) hS ?_
              rw [hpe]
              refine go_icmp_ge (tgt := 179) dX10_least_131 (by decide) (fun c131 => ?_) (fun c131 => absurd (nI_le (Nat.le_refl _) (by omega)) c131)
              exact fin _ (by rw [ez, lsL_c]) _
        · obtain ⟨⟨F, hX⟩, hj⟩ := hh
          have H2 := H.sn W F
          have hS := H2.1.1
          refine go_iloadn dX10_least_77 rfl ?_
          refine go_iconst (v := 1) dX10_least_78 rfl ?_
          refine go_aloadn dX10_least_79 rfl ?_
          refine sg_getI dX10_least_80 fX10_273 rfl (mo_L rfl) hS ?_
          rw [H2.1.2.1.2.1]
          refine go_ishl dX10_least_83 ?_
          rw [e2]
          refine go_icmp_ge (tgt := 199) dX10_least_84 (by decide) (fun c84 => ?_) (fun c84 => absurd (nI_le (Nat.le_refl _) (by omega)) c84)
          refine go_iinc2 (c1 := -1) dX10_least_199 rfl rfl ?_
          refine go_goto (tgt := 71) dX10_least_202 (by decide) ?_
          exact go_back (ih y _ g (by omega) ⟨rfl, by omega, F, fun z j a b c => by by_cases e : z = y; (· subst e; exact hj j c); exact hX z j (by omega) b c⟩) (by simp [lsub]) rfl
      | zero =>
        have eL : hI g 95 0 = enO 99999 (lsL C T (wlN T (cN C)) 0) := by
          have := hX 0 0 (by omega) (by omega) p0
          rw [ws_0] at this; exact this
        cases hv : lsL C T (wlN T (cN C)) 0 with
        | none =>
          rw [hv] at eL
          refine go_iloadn dX10_least_71 rfl ?_
          refine go_if_lt (tgt := 205) dX10_least_72 (by decide) (fun c72 => ?_) (fun c72 => absurd (by decide) c72)
          refine go_aloadn dX10_least_205 rfl ?_
          refine sg_getR dX10_least_206 fX10_78 rfl (mo_L rfl) hS (mo_r49 hS rfl) ?_
          refine go_iconst (v := 0) dX10_least_209 rfl ?_
          refine sg_ialdN (i := 0) dX10_least_210 (mo_49 rfl) hS (by simp only [lit_nI, nI_add, pk_mul, Nat.add_assoc, Nat.zero_add, Nat.add_zero]) (by omega) (eL) ?_
          refine go_ldcw dX10_least_211 kX10_405 ?_
          refine go_icmp_lt (tgt := 220) dX10_least_214 (by decide) (fun c214 => absurd c214 (by decide)) (fun c214 => ?_)
          refine go_bipush (v := -2) dX10_least_217 rfl ?_
          refine go_ireturn dX10_least_219 rfl rfl (Nat.zero_le _) (Nat.zero_le _) ?_
          exact qn_ok (by simp only [leT, hv]) (F.t0.trans h0) (hF.tr F.sn)
        | some v =>
          rw [hv] at eL
          have eL : hI g 95 0 = nI v := eL
          have hv2 : v ≤ 200 := hlx 0 0 v (by rw [ws_0]; exact hv)
          by_cases q1 : x = -1
          · refine go_iloadn dX10_least_71 rfl ?_
            refine go_if_lt (tgt := 205) dX10_least_72 (by decide) (fun c72 => ?_) (fun c72 => absurd (by decide) c72)
            refine go_aloadn dX10_least_205 rfl ?_
            refine sg_getR dX10_least_206 fX10_78 rfl (mo_L rfl) hS (mo_r49 hS rfl) ?_
            refine go_iconst (v := 0) dX10_least_209 rfl ?_
            refine sg_ialdN (i := 0) dX10_least_210 (mo_49 rfl) hS (by simp only [lit_nI, nI_add, pk_mul, Nat.add_assoc, Nat.zero_add, Nat.add_zero]) (by omega) (eL) ?_
            refine go_ldcw dX10_least_211 kX10_405 ?_
            refine go_icmp_lt (tgt := 220) dX10_least_214 (by decide) (fun c214 => ?_) (fun c214 => absurd (nI_lt (a := v) (b := 99999) (by omega) (by decide)) c214)
            refine go_iloadn dX10_least_220 rfl ?_
            refine go_iconst (v := -1) dX10_least_221 rfl ?_
            refine go_icmp_ne (tgt := 232) dX10_least_222 (by decide) (fun c222 => absurd q1 c222) (fun c222 => ?_)
            refine go_aloadn dX10_least_225 rfl ?_
            refine sg_getR dX10_least_226 fX10_78 rfl (mo_L rfl) hS (mo_r49 hS rfl) ?_
            refine go_iconst (v := 0) dX10_least_229 rfl ?_
            refine sg_ialdN (i := 0) dX10_least_230 (mo_49 rfl) hS (by simp only [lit_nI, nI_add, pk_mul, Nat.add_assoc, Nat.zero_add, Nat.add_zero]) (by omega) (eL) ?_
            refine go_ireturn dX10_least_231 rfl rfl (Nat.zero_le _) (Nat.zero_le _) ?_
            exact qn_ok (by simp only [leT, hv]; rw [if_pos q1]) (F.t0.trans h0) (hF.tr F.sn)
          · obtain ⟨t, ht, rfl⟩ := ok_nI (by omega) (k25.resolve_left q1)
            have eG : leT C T (nI t) = gtT C T (nI t) (wlN T (cN C)) 0 := by simp only [leT, hv]; rw [if_neg q1]
            rw [eG]
            refine go_iloadn dX10_least_71 rfl ?_
            refine go_if_lt (tgt := 205) dX10_least_72 (by decide) (fun c72 => ?_) (fun c72 => absurd (by decide) c72)
            refine go_aloadn dX10_least_205 rfl ?_
            refine sg_getR dX10_least_206 fX10_78 rfl (mo_L rfl) hS (mo_r49 hS rfl) ?_
            refine go_iconst (v := 0) dX10_least_209 rfl ?_
            refine sg_ialdN (i := 0) dX10_least_210 (mo_49 rfl) hS (by simp only [lit_nI, nI_add, pk_mul, Nat.add_assoc, Nat.zero_add, Nat.add_zero]) (by omega) (eL) ?_
            refine go_ldcw dX10_least_211 kX10_405 ?_
            refine go_icmp_lt (tgt := 220) dX10_least_214 (by decide) (fun c214 => ?_) (fun c214 => absurd (nI_lt (a := v) (b := 99999) (by omega) (by decide)) c214)
            refine go_iloadn dX10_least_220 rfl ?_
            refine go_iconst (v := -1) dX10_least_221 rfl ?_
            refine go_icmp_ne (tgt := 232) dX10_least_222 (by decide) (fun c222 => ?_) (fun c222 => absurd c222 q1)
            refine go_iconst (v := 0) dX10_least_232 rfl ?_
            refine go_ist2 dX10_least_233 rfl ?_
            refine go_iconst (v := -1) dX10_least_234 rfl ?_
            refine go_ist3 dX10_least_235 rfl ?_
            refine go_iconst (v := 0) dX10_least_236 rfl ?_
            refine go_ist4 dX10_least_237 rfl ?_
            skip
            exact lt_go W H2 V hX (F.t0.trans h0) (hF.tr F.sn) ht hv
  by_cases q : x = -1
  · refine go_aloadn dX10_least_5 rfl ?_
    refine go_iloadn dX10_least_6 rfl ?_
    refine go_iconst (v := -1) dX10_least_7 rfl ?_
    refine go_icmp_lt (tgt := 23) dX10_least_8 (by decide) (fun c8 => absurd (q ▸ c8) (by decide)) (fun c8 => ?_)
    refine go_iloadn dX10_least_11 rfl ?_
    refine go_aloadn dX10_least_12 rfl ?_
    refine sg_getI dX10_least_13 fX10_276 rfl (mo_L rfl) hS ?_
    rw [hth]
    refine go_icmp_ge (tgt := 23) dX10_least_16 (by decide) (fun c16 => absurd (q ▸ c16) (by rw [show (-1 : Int32) = -1 from rfl]; exact fun z => nI_m1lt z)) (fun c16 => ?_)
    refine go_iconst (v := 1) dX10_least_19 rfl ?_
    refine go_goto (tgt := 24) dX10_least_20 (by decide) ?_
    exact e24 1 (by rw [if_pos (Or.inl q)])
  · by_cases q2 : okX (cN C) x
    · obtain ⟨t, ht, rfl⟩ := ok_nI (by omega) q2
      refine go_aloadn dX10_least_5 rfl ?_
      refine go_iloadn dX10_least_6 rfl ?_
      refine go_iconst (v := -1) dX10_least_7 rfl ?_
      refine go_icmp_lt (tgt := 23) dX10_least_8 (by decide) (fun c8 => absurd c8 (m1_lt)) (fun c8 => ?_)
      refine go_iloadn dX10_least_11 rfl ?_
      refine go_aloadn dX10_least_12 rfl ?_
      refine sg_getI dX10_least_13 fX10_276 rfl (mo_L rfl) hS ?_
      rw [hth]
      refine go_icmp_ge (tgt := 23) dX10_least_16 (by decide) (fun c16 => absurd c16 (nI_ge ht (by omega))) (fun c16 => ?_)
      refine go_iconst (v := 1) dX10_least_19 rfl ?_
      refine go_goto (tgt := 24) dX10_least_20 (by decide) ?_
      exact e24 1 (by rw [if_pos (Or.inr q2)])
    · refine go_aloadn dX10_least_5 rfl ?_
      refine go_iloadn dX10_least_6 rfl ?_
      refine go_iconst (v := -1) dX10_least_7 rfl ?_
      refine go_icmp_lt (tgt := 23) dX10_least_8 (by decide) (fun c8 => ?_) (fun c8 => ?_)
      · refine go_iconst (v := 0) dX10_least_23 rfl ?_
        exact e24 0 (by rw [if_neg (fun z => z.elim q q2)])
      · refine go_iloadn dX10_least_11 rfl ?_
        refine go_aloadn dX10_least_12 rfl ?_
        refine sg_getI dX10_least_13 fX10_276 rfl (mo_L rfl) hS ?_
        rw [hth]
        refine go_icmp_ge (tgt := 23) dX10_least_16 (by decide) (fun c16 => ?_) (fun c16 => absurd ⟨lt_m1 c8 q, Int32.not_le.mp c16⟩ q2)
        refine go_iconst (v := 0) dX10_least_23 rfl ?_
        exact e24 0 (by rw [if_neg (fun z => z.elim q q2)])
