/-! Ties: least shame -/
section
variable {l : Launch} {R : Room} {M : MI} {n0 : Nat} {Z : ZT} {pc : Nat} {st : List Value} {u w : Nat}
/-- a loop by a measure that goes down -/
theorem go_wf {I : Nat → List (Option Value) → Hp → Prop} (body : ∀ m lv g, I m lv g → (∀ m' lv' g', m' < m → I m' lv' g' → Go l R M n0 Z pc lv' st g' u w) → Go l R M n0 Z pc lv st g u w) : ∀ m lv g, I m lv g → Go l R M n0 Z pc lv st g u w := by
  intro m
  induction m using Nat.strongRecOn with
  | ind m ih => exact fun lv g h => body m lv g h (fun m' lv' g' hm h' => ih m' hm lv' g' h')
end
def coN (T : Tn) (t p : Nat) : Nat := (mx0 (tX T t - tV T p)).toNatClampNeg
def cgB (T : Tn) (t p k : Nat) : Bool := !decide (tO T t = nI p) && !k.testBit p
def mnO : Option Nat → Option Nat → Option Nat
  | none, b => b
  | some a, none => some a
  | some a, some b => some (if b < a then b else a)
def lsL (C : Cy) (T : Tn) : List Nat → Nat → Option Nat
  | [], _ => some 0
  | t :: W, k => foF (fun p a => if cgB T t p k = true then mnO a ((lsL C T W (k ||| 2 ^ p)).map (coN T t p + ·)) else a) none (cP C)
def lsS (C : Cy) (T : Tn) (t : Nat) (W : List Nat) (k : Nat) : Nat → Option Nat := foF (fun p a => if cgB T t p k = true then mnO a ((lsL C T W (k ||| 2 ^ p)).map (coN T t p + ·)) else a) none
theorem lsL_c {C : Cy} {T : Tn} {t : Nat} {W : List Nat} {k : Nat} : lsL C T (t :: W) k = lsS C T t W k (cP C) := rfl
def enO (X : Nat) : Option Nat → Int32
  | none => nI X
  | some v => nI v
def leO (o : Option Nat) (n : Nat) : Prop := ∀ v, o = some v → v ≤ n
/-- oddness and vanity as told -/
def WO (C : Cy) (T : Tn) : Prop := (∀ t, t < cN C → ∃ x, x ≤ 9 ∧ tX T t = nI x) ∧ ∀ p, p < cP C → ∃ v, v ≤ 9 ∧ tV T p = nI v
theorem coN_le {C : Cy} {T : Tn} (O : WO C T) {t p : Nat} (ht : t < cN C) (hp : p < cP C) : coN T t p ≤ 9 ∧ mx0 (tX T t - tV T p) = nI (coN T t p) := by
  obtain ⟨x, hx, ex⟩ := O.1 t ht
  obtain ⟨v, hv, ev⟩ := O.2 p hp
  have key : ∀ x v : Fin 10, (mx0 (nI x.val - nI v.val)).toNatClampNeg ≤ 9 ∧ mx0 (nI x.val - nI v.val) = nI (mx0 (nI x.val - nI v.val)).toNatClampNeg := by decide +kernel
  unfold coN
  rw [ex, ev]
  exact key ⟨x, by omega⟩ ⟨v, by omega⟩
theorem mnO_le {a b : Option Nat} {n : Nat} (ha : leO a n) (hb : leO b n) : leO (mnO a b) n := by
  intro v e
  cases a with
  | none => exact hb v e
  | some a =>
    cases b with
    | none => exact ha v e
    | some b =>
      have h1 := ha a rfl
      have h2 := hb b rfl
      simp only [mnO, Option.some.injEq] at e
      subst e
      split <;> assumption
theorem map_le {o : Option Nat} {c n m : Nat} (h : leO o n) (hm : c + n ≤ m) : leO (o.map (c + ·)) m := by
  intro v e
  cases o with
  | none => cases e
  | some a => cases e; have := h a rfl; show c + a ≤ m; omega
theorem lsS_le {C : Cy} {T : Tn} (O : WO C T) {t : Nat} {W : List Nat} (ht : t < cN C) (ih : ∀ k, leO (lsL C T W k) (9 * W.length)) {k n : Nat} (hn : n ≤ cP C) : leO (lsS C T t W k n) (9 * W.length + 9) := by
  induction n with
  | zero => intro v e; cases e
  | succ n i2 =>
    have i2 := i2 (by omega)
    show leO (if cgB T t n k = true then mnO (lsS C T t W k n) ((lsL C T W (k ||| 2 ^ n)).map (coN T t n + ·)) else lsS C T t W k n) _
    split
    · exact mnO_le i2 (map_le (ih _) (by have := (coN_le O ht (show n < cP C by omega)).1; omega))
    · exact i2
theorem lsL_le {C : Cy} {T : Tn} (O : WO C T) : ∀ (W : List Nat), (∀ t ∈ W, t < cN C) → ∀ k, leO (lsL C T W k) (9 * W.length)
  | [], _, k => fun v e => by cases e; exact Nat.zero_le _
  | t :: W, h, k => by
    have ih := lsL_le O W (fun x hx => h x (List.mem_cons_of_mem _ hx))
    rw [lsL_c, List.length_cons]
    exact lsS_le O (h t List.mem_cons_self) ih (Nat.le_refl _)
theorem enO_min {a o : Option Nat} {c n : Nat} (ha : leO a n) (ho : leO o n) (hc : c ≤ 9) (hn : n ≤ 200) {X : Nat} (hX : 1000 ≤ X) (hX2 : X ≤ 2000000) : (if nI c + enO X o < enO X a then nI c + enO X o else enO X a) = enO X (mnO a (o.map (c + ·))) := by
  cases o with
  | none =>
    show (if nI c + nI X < enO X a then nI c + nI X else enO X a) = enO X (mnO a none)
    rw [nI_add]
    cases a with
    | none =>
      show (if nI (c + X) < nI X then nI (c + X) else nI X) = nI X
      rw [if_neg (nI_nlt (by omega) (by omega))]
    | some a =>
      have := ha a rfl
      show (if nI (c + X) < nI a then nI (c + X) else nI a) = nI a
      rw [if_neg (nI_nlt (by omega) (by omega))]
  | some o =>
    have h1 := ho o rfl
    show (if nI c + nI o < enO X a then nI c + nI o else enO X a) = enO X (mnO a (some (c + o)))
    rw [nI_add]
    cases a with
    | none =>
      show (if nI (c + o) < nI X then nI (c + o) else nI X) = nI (c + o)
      rw [if_pos (nI_lt (by omega) (by omega))]
    | some a =>
      have := ha a rfl
      show (if nI (c + o) < nI a then nI (c + o) else nI a) = nI (if c + o < a then c + o else a)
      by_cases q : c + o < a
      · rw [if_pos (nI_lt q (by omega)), if_pos q]
      · rw [if_neg (nI_nlt (by omega) (by omega)), if_neg q]
/-- bits of those that have one already -/
def pop (k : Nat) : Nat := (bcF (nI k)).toNatClampNeg
set_option maxRecDepth 100000 in
theorem pop_at : ∀ k : Fin 256, bcF (nI k.val) = nI (pop k.val) ∧ pop k.val ≤ 8 := by decide +kernel
set_option maxRecDepth 100000 in
theorem pop_or : ∀ k : Fin 256, ∀ p : Fin 8, k.val.testBit p.val = false → pop (k.val ||| 2 ^ p.val) = pop k.val + 1 ∧ k.val < (k.val ||| 2 ^ p.val) ∧ (k.val ||| 2 ^ p.val) < 256 ∧ (nI k.val ||| (1 <<< (nI p.val &&& 31))) = nI (k.val ||| 2 ^ p.val) := by decide +kernel
set_option maxRecDepth 100000 in
theorem or_nI : ∀ k : Fin 256, ∀ p : Fin 8, (nI k.val ||| (1 <<< (nI p.val &&& 31))) = nI (k.val ||| 2 ^ p.val) ∧ (k.val ||| 2 ^ p.val) < 256 := by decide +kernel
set_option maxRecDepth 100000 in
theorem tb_nI : ∀ k : Fin 256, ∀ p : Fin 8, (nI k.val >>> (nI p.val &&& 31) &&& 1) = if k.val.testBit p.val then 1 else 0 := by decide +kernel
set_option maxRecDepth 100000 in
theorem pop_le : ∀ k : Fin 256, ∀ P : Fin 9, k.val < 2 ^ P.val → pop k.val ≤ P.val := by decide +kernel
theorem or_lt2 {k p P : Nat} (hk : k < 2 ^ P) (hp : p < P) : (k ||| 2 ^ p) < 2 ^ P := Nat.or_lt_two_pow hk (Nat.pow_lt_pow_right (by decide) hp)
theorem p8 {P : Nat} (h : P ≤ 8) : 2 ^ P ≤ 256 := Nat.pow_le_pow_right (n := 2) (by decide) h
/-- the things that are worn, of those below n -/
def wlN (T : Tn) (n : Nat) : List Nat := (List.range n).filter (fun t => !decide (tB T t = -1))
theorem wlN_s {T : Tn} {n : Nat} : wlN T (n + 1) = if tB T n = -1 then wlN T n else wlN T n ++ [n] := by
  unfold wlN
  rw [List.range_succ, List.filter_append]
  by_cases q : tB T n = -1
  · simp [q]
  · simp [q]
theorem wlN_len {T : Tn} {n : Nat} : (wlN T n).length ≤ n := by
  have := List.length_filter_le (fun t => !decide (tB T t = -1)) (List.range n)
  rw [List.length_range] at this
  exact this
theorem wlN_lt {T : Tn} {n t : Nat} (h : t ∈ wlN T n) : t < n := List.mem_range.mp (List.mem_filter.mp h).1
theorem wl_at {W : List Nat} {i : Nat} (h : i < W.length) : W.drop i = W.getD i 0 :: W.drop (i + 1) := by
  rw [List.drop_eq_getElem_cons h, List.getD_eq_getElem?_getD, List.getElem?_eq_getElem h]; rfl
theorem wl_mem {W : List Nat} {i : Nat} (h : i < W.length) : W.getD i 0 ∈ W := by
  rw [List.getD_eq_getElem?_getD, List.getElem?_eq_getElem h]; exact List.getElem_mem h
theorem gd_r {W : List Nat} {x : Nat} : (W ++ [x]).getD W.length 0 = x := by
  rw [List.getD_eq_getElem?_getD, List.getElem?_append_right (Nat.le_refl _), Nat.sub_self]; rfl
theorem gd_l {W : List Nat} {x i : Nat} (h : i < W.length) : (W ++ [x]).getD i 0 = W.getD i 0 := by
  rw [List.getD_eq_getElem?_getD, List.getElem?_append_left h, List.getD_eq_getElem?_getD]
/-- the row of those worn, in the heap -/
def WL (g : Hp) (W : List Nat) : Prop := hI g 73 3 = nI W.length ∧ ∀ i, i < W.length → hI g 76 i = nI (W.getD i 0)
theorem r_listWorn {l : Launch} {d c fs fr : Nat} {C : Cy} {T : Tn} {h : Hp} (W : WC C) (H : TV h 30 c fs fr C T) : Ey l (d + 1) mX5_listWorn [.ref 73, .ref 30] h none (fun g => F8 h g ∧ WL g (wlN T (cN C))) := by
  obtain ⟨hc, hbc, hS⟩ := H.hc
  have hN1 := W.1.1
  refine run_lv [some (.ref 73), some (.ref 30), none] (go := ?_)
  refine go_aloadn dX5_listWorn_0 rfl ?_
  refine go_iconst (v := 0) dX5_listWorn_1 rfl ?_
  refine sg_putI dX5_listWorn_2 fX5_87 rfl rfl (ti_L rfl) hS ?_
  refine go_iconst (v := 0) dX5_listWorn_5 rfl ?_
  refine go_ist2 dX5_listWorn_6 rfl ?_
  refine go_loopR (lvf := fun k => [some (.ref 73), some (.ref 30), some (.int (nI k))]) (cN C) (fun k g => F8 h g ∧ WL g (wlN T k)) (fun k g hk hh ih => ?_) (fun g hh => ?_) 0 (uI h 73 3 0) (Nat.zero_le _) ⟨Fq.rf.uI (by unfold S8; omega), hI_uI_eq, fun i hi => absurd hi (Nat.not_lt_zero _)⟩
  · obtain ⟨F, h1, h2⟩ := hh
    have H2 := H.fc (F.sub (fun _ => s8c))
    obtain ⟨-, hbc, hS⟩ := H2.hc
    have hth := H2.1.1.2.2.2.2.1
    have hlen := wlN_len (T := T) (n := k)
    have e0 : (nI k).toNatClampNeg = k := cl_nI (by omega)
    have hV : vp_in (nI (wlN T k).length) 10 := vp_in_nI (by omega) (by decide)
    refine go_iloadn dX5_listWorn_7 rfl ?_
    refine go_aloadn dX5_listWorn_8 rfl ?_
    refine sg_getR dX5_listWorn_9 fX5_21 rfl (tw_L at30) hS hbc ?_
    refine sg_getI dX5_listWorn_12 fX5_44 rfl (ct_L hc) hS ?_
    refine go_icmp_ge (tgt := 54) dX5_listWorn_15 (by decide) (fun c15 => absurd (hth ▸ c15) (nI_ge hk (by omega))) (fun c15 => ?_)
    refine go_aloadn dX5_listWorn_18 rfl ?_
    refine sg_getR dX5_listWorn_19 fX5_90 rfl (tw_L at30) hS (tw_r8 hS at30) ?_
    refine go_iloadn dX5_listWorn_22 rfl ?_
    refine sg_iald dX5_listWorn_23 (tw_8 at30) hS (vp_in_nI (by omega) (by decide)) ?_
    rw [e0, (H2.2.2.1 k hk).2.1]
    refine go_iconst (v := -1) dX5_listWorn_24 rfl ?_
    refine go_icmp_eq (tgt := 48) dX5_listWorn_25 (by decide) (fun c25 => ?_) (fun c25 => ?_)
    · refine go_iinc2 (c1 := 1) dX5_listWorn_48 rfl rfl ?_
      refine go_goto (tgt := 7) dX5_listWorn_51 (by decide) ?_
      first | exact go_cong (ih g ⟨F, by rw [wlN_s, if_pos c25]; exact ⟨h1, h2⟩⟩) (by simp [nI_1]) rfl | exact go_cong (ih _ ⟨(F.uI (by unfold S8; omega)).uI (by unfold S8; omega), by rw [wlN_s, if_neg c25]; exact ⟨by rw [hI_uI_eq, nI_1, List.length_append]; rfl, fun i hi => by rw [hI_uI_ne (by omega), hI_uI]; by_cases e : i = (wlN T k).length; (· subst e; rw [if_pos ⟨rfl, rfl⟩, gd_r]); (rw [List.length_append] at hi; simp only [List.length_cons, List.length_nil] at hi; rw [if_neg (fun q => e q.2), gd_l (by omega)]; exact h2 i (by omega))⟩⟩) (by simp [nI_1]) rfl
    · refine go_aloadn dX5_listWorn_28 rfl ?_
      refine sg_getR dX5_listWorn_29 fX5_18 rfl (ti_L rfl) hS (ti_r2 hS rfl) ?_
      refine go_aloadn dX5_listWorn_32 rfl ?_
      refine sg_getI dX5_listWorn_33 fX5_87 rfl (ti_L rfl) hS ?_
      rw [h1]
      refine go_iloadn dX5_listWorn_36 rfl ?_
      refine sg_iast dX5_listWorn_37 (ti_2 rfl) hS (hV) ?_
      rw [cl_nI (by omega)]
      refine go_aloadn dX5_listWorn_38 rfl ?_
      refine go_dup dX5_listWorn_39 rfl ?_
      refine sg_getI dX5_listWorn_40 fX5_87 rfl (ti_L rfl) hS ?_
      rw [hI_uI_ne (by omega), h1]
      refine go_iconst (v := 1) dX5_listWorn_43 rfl ?_
      refine go_iadd dX5_listWorn_44 ?_
      refine sg_putI dX5_listWorn_45 fX5_87 rfl rfl (ti_L rfl) hS ?_
      refine go_iinc2 (c1 := 1) dX5_listWorn_48 rfl rfl ?_
      refine go_goto (tgt := 7) dX5_listWorn_51 (by decide) ?_
      first | exact go_cong (ih g ⟨F, by rw [wlN_s, if_pos c25]; exact ⟨h1, h2⟩⟩) (by simp [nI_1]) rfl | exact go_cong (ih _ ⟨(F.uI (by unfold S8; omega)).uI (by unfold S8; omega), by rw [wlN_s, if_neg c25]; exact ⟨by rw [hI_uI_eq, nI_1, List.length_append]; rfl, fun i hi => by rw [hI_uI_ne (by omega), hI_uI]; by_cases e : i = (wlN T k).length; (· subst e; rw [if_pos ⟨rfl, rfl⟩, gd_r]); (rw [List.length_append] at hi; simp only [List.length_cons, List.length_nil] at hi; rw [if_neg (fun q => e q.2), gd_l (by omega)]; exact h2 i (by omega))⟩⟩) (by simp [nI_1]) rfl
  · obtain ⟨F, hh⟩ := hh
    have H2 := H.fc (F.sub (fun _ => s8c))
    obtain ⟨-, hbc, hS⟩ := H2.hc
    have hth := H2.1.1.2.2.2.2.1
    refine go_iloadn dX5_listWorn_7 rfl ?_
    refine go_aloadn dX5_listWorn_8 rfl ?_
    refine sg_getR dX5_listWorn_9 fX5_21 rfl (tw_L at30) hS hbc ?_
    refine sg_getI dX5_listWorn_12 fX5_44 rfl (ct_L hc) hS ?_
    refine go_icmp_ge (tgt := 54) dX5_listWorn_15 (by decide) (fun c15 => ?_) (fun c15 => absurd (by rw [hth]; exact nI_le (Nat.le_refl _) (by omega)) c15)
    refine go_return dX5_listWorn_54 rfl (Nat.zero_le _) (Nat.zero_le _) ?_
    exact ⟨rfl, F, hh⟩
theorem r_canGo {l : Launch} {d c fs fr t p k : Nat} {C : Cy} {T : Tn} {h : Hp} (W : WC C) (H : TV h 30 c fs fr C T) (ht : t < cN C) (hp : p < cP C) (hk : k < 256) : Ex l (d + 1) mX5_canGo [.ref 30, .int (nI t), .int (nI p), .int (nI k)] h (some (.int (if cgB T t p k = true then 1 else 0))) h := by
  have hS := H.hc.2.2
  have hN1 := W.1.1
  have hP := W.1.2.1
  have e0 : (nI t).toNatClampNeg = t := cl_nI (by omega)
  have tb := tb_nI ⟨k, hk⟩ ⟨p, by omega⟩
  dsimp only at tb
  refine run_lv [some (.ref 30), some (.int (nI t)), some (.int (nI p)), some (.int (nI k))] (go := ?_)
  refine go_aloadn dX5_canGo_0 rfl ?_
  refine sg_getR dX5_canGo_1 fX5_47 rfl (tw_L at30) hS (tw_r7 hS at30) ?_
  refine go_iloadn dX5_canGo_4 rfl ?_
  refine sg_iald dX5_canGo_5 (tw_7 at30) hS (vp_in_nI (by omega) (by decide)) ?_
  rw [e0, (H.2.2.1 t ht).1]
  refine go_iloadn dX5_canGo_6 rfl ?_
  refine go_icmp_eq (tgt := 22) dX5_canGo_7 (by decide) (fun c7 => ?_) (fun c7 => ?_)
  · refine go_iconst (v := 0) dX5_canGo_22 rfl ?_
    refine go_ireturn dX5_canGo_23 rfl rfl (Nat.zero_le _) (Nat.zero_le _) ?_
    exact ⟨by first | (have q : k.testBit p = false := by (cases z : k.testBit p; rfl; rw [z] at c15; exact absurd c15 (by decide))); simp [cgB, c7, q]; done | (have q : k.testBit p = true := by (cases z : k.testBit p; (rw [z] at c15; exact absurd rfl c15); rfl)); simp [cgB, q]; done | simp [cgB, c7], rfl⟩
  · refine go_iloadn dX5_canGo_10 rfl ?_
    refine go_iloadn dX5_canGo_11 rfl ?_
    refine go_ishr dX5_canGo_12 ?_
    refine go_iconst (v := 1) dX5_canGo_13 rfl ?_
    refine go_iand dX5_canGo_14 ?_
    rw [tb]
    refine go_if_ne (tgt := 22) dX5_canGo_15 (by decide) (fun c15 => ?_) (fun c15 => ?_)
    · refine go_iconst (v := 0) dX5_canGo_22 rfl ?_
      refine go_ireturn dX5_canGo_23 rfl rfl (Nat.zero_le _) (Nat.zero_le _) ?_
      exact ⟨by first | (have q : k.testBit p = false := by (cases z : k.testBit p; rfl; rw [z] at c15; exact absurd c15 (by decide))); simp [cgB, c7, q]; done | (have q : k.testBit p = true := by (cases z : k.testBit p; (rw [z] at c15; exact absurd rfl c15); rfl)); simp [cgB, q]; done | simp [cgB, c7], rfl⟩
    · refine go_iconst (v := 1) dX5_canGo_18 rfl ?_
      refine go_goto (tgt := 23) dX5_canGo_19 (by decide) ?_
      refine go_ireturn dX5_canGo_23 rfl rfl (Nat.zero_le _) (Nat.zero_le _) ?_
      exact ⟨by first | (have q : k.testBit p = false := by (cases z : k.testBit p; rfl; rw [z] at c15; exact absurd c15 (by decide))); simp [cgB, c7, q]; done | (have q : k.testBit p = true := by (cases z : k.testBit p; (rw [z] at c15; exact absurd rfl c15); rfl)); simp [cgB, q]; done | simp [cgB, c7], rfl⟩
/-- the table of what is left -/
def LT (g : Hp) (C : Cy) (T : Tn) (W : List Nat) (n : Nat) : Prop := ∀ j, n ≤ j → j < 2 ^ cP C → hI g 75 j = enO 1000000 (lsL C T (W.drop (pop j)) j)
theorem r_costWith {l : Launch} {d c fs fr t p k : Nat} {C : Cy} {T : Tn} {h : Hp} (W : WC C) (H : TV h 30 c fs fr C T) (O : WO C T) (ht : t < cN C) (hp : p < cP C) (hk : k < 256) : Ex l (d + 1) mX5_costWith [.ref 73, .ref 30, .int (nI t), .int (nI p), .int (nI k)] h (some (.int (nI (coN T t p) + hI h 75 (k ||| 2 ^ p)))) h := by
  have hS := H.hc.2.2
  have hN1 := W.1.1
  have hP := W.1.2.1
  have e0 : (nI t).toNatClampNeg = t := cl_nI (by omega)
  have e1 : (nI p).toNatClampNeg = p := cl_nI (by omega)
  obtain ⟨o1, o2⟩ := or_nI ⟨k, hk⟩ ⟨p, by omega⟩
  dsimp only at o1 o2
  refine run_lv [some (.ref 73), some (.ref 30), some (.int (nI t)), some (.int (nI p)), some (.int (nI k))] (go := ?_)
  refine go_iconst (v := 0) dX5_costWith_0 rfl ?_
  refine go_aloadn dX5_costWith_1 rfl ?_
  refine sg_getR dX5_costWith_2 fX5_106 rfl (tw_L at30) hS (tw_r6 hS at30) ?_
  refine go_iloadn dX5_costWith_5 rfl ?_
  refine sg_iald dX5_costWith_6 (tw_6 at30) hS (vp_in_nI (by omega) (by decide)) ?_
  rw [e0, (H.2.2.1 t ht).2.2.2]
  refine go_aloadn dX5_costWith_7 rfl ?_
  refine sg_getR dX5_costWith_8 fX5_109 rfl (tw_L at30) hS (tw_r3 hS at30) ?_
  refine go_iloadn dX5_costWith_11 rfl ?_
  refine sg_iald dX5_costWith_12 (tw_3 at30) hS (vp_in_nI (by omega) (by decide)) ?_
  rw [e1, (H.2.2.2.1 p hp).2]
  refine go_isub dX5_costWith_13 ?_
  refine go_max dX5_costWith_14 lX5_112 (Nat.le_of_ble_eq_true rfl) (by simp only [rmOf]; omega) (by simp only [rmOf]; omega) (Nat.zero_le _) (Nat.zero_le _) ?_
  rw [show (if (0 : Int32) < tX T t - tV T p then tX T t - tV T p else 0) = nI (coN T t p) from (coN_le O ht hp).2]
  refine go_aloadn dX5_costWith_17 rfl ?_
  refine sg_getR dX5_costWith_18 fX5_15 rfl (ti_L rfl) hS (ti_r1 hS rfl) ?_
  refine go_iload dX5_costWith_21 rfl ?_
  refine go_iconst (v := 1) dX5_costWith_23 rfl ?_
  refine go_iloadn dX5_costWith_24 rfl ?_
  refine go_ishl dX5_costWith_25 ?_
  refine go_ior dX5_costWith_26 ?_
  rw [o1]
  refine sg_iald dX5_costWith_27 (ti_1 rfl) hS (vp_in_nI (by omega) (by decide)) ?_
  rw [cl_nI (by omega)]
  refine go_iadd dX5_costWith_28 ?_
  refine go_ireturn dX5_costWith_29 rfl rfl (Nat.zero_le _) (Nat.zero_le _) ?_
  exact ⟨rfl, rfl⟩
