/-! programs of rules: (0, m) the number m; (1, k) the value k; (2, _) not; (3, o) the operator o -/
abbrev Op : Type := Nat × Nat
abbrev Pr : Type := Nat × (Nat → Op)
def st1 (vals : Nat → Int32) (o : Op) (st : List Int32) : List Int32 :=
  if o.1 = 0 then nI o.2 :: st else if o.1 = 1 then vals o.2 :: st
  else if o.1 = 2 then (match st with | a :: s => (if a = 0 then (1 : Int32) else 0) :: s | [] => [])
  else (match st with | b :: a :: s => twF (nI o.2) a b :: s | s => s)
def evF (p : Pr) (vals : Nat → Int32) : Nat → List Int32 := foF (fun j st => st1 vals (p.2 j) st) []
def evP (p : Pr) (vals : Nat → Int32) : Int32 := (evF p vals p.1).getD 0 0
/-- how many lie on the row -/
def dp1 (o : Op) (d : Nat) : Nat := if o.1 = 0 then d + 1 else if o.1 = 1 then d + 1 else if o.1 = 2 then d else d - 1
def dpF (p : Pr) : Nat → Nat := foF (fun j d => dp1 (p.2 j) d) 0
/-- an operation that may stand there; A: the values that may be named -/
def ok1 (A : Nat → Prop) (o : Op) (d : Nat) : Prop :=
  (o.1 = 0 ∧ o.2 < 10000 ∧ d < 64) ∨ (o.1 = 1 ∧ o.2 < 9 ∧ A o.2 ∧ d < 64) ∨ (o.1 = 2 ∧ 1 ≤ d) ∨ (o.1 = 3 ∧ 2 ≤ d ∧ 1 ≤ o.2 ∧ o.2 ≠ 3 ∧ o.2 ≤ 9)
def WP (A : Nat → Prop) (p : Pr) : Prop := (∀ j, j < p.1 → ok1 A (p.2 j) (dpF p j)) ∧ (0 < p.1 → dpF p p.1 = 1)
theorem st1_len {A : Nat → Prop} {vals : Nat → Int32} {o : Op} {st : List Int32} (h : ok1 A o st.length) : (st1 vals o st).length = dp1 o st.length := by
  obtain ⟨k, m⟩ := o
  rcases h with ⟨rfl, -⟩ | ⟨rfl, -⟩ | ⟨rfl, h⟩ | ⟨rfl, h, -⟩
  · rfl
  · rfl
  · match st, h with
    | a :: s, _ => rfl
  · match st, h with
    | b :: a :: s, _ => rfl
theorem evF_len {A : Nat → Prop} {p : Pr} {vals : Nat → Int32} (h : WP A p) {k : Nat} (hk : k ≤ p.1) : (evF p vals k).length = dpF p k := by
  induction k with
  | zero => rfl
  | succ k ih =>
    have ih := ih (by omega)
    have := h.1 k (by omega)
    rw [← ih] at this
    show (st1 vals (p.2 k) (evF p vals k)).length = dp1 (p.2 k) (dpF p k)
    rw [st1_len this, ih]
theorem evF_cong {A : Nat → Prop} {p : Pr} {vals vals' : Nat → Int32} (h : WP A p) (hv : ∀ k, A k → vals k = vals' k) {k : Nat} (hk : k ≤ p.1) : evF p vals k = evF p vals' k := by
  induction k with
  | zero => rfl
  | succ k ih =>
    show st1 vals (p.2 k) (evF p vals k) = st1 vals' (p.2 k) (evF p vals' k)
    rw [ih (by omega)]
    have := h.1 k (by omega)
    generalize p.2 k = o at this
    obtain ⟨x, m⟩ := o
    rcases this with ⟨rfl, -⟩ | ⟨rfl, -, ha, -⟩ | ⟨rfl, -⟩ | ⟨rfl, -⟩
    · rfl
    · simp only [st1]; rw [hv m ha]
    · rfl
    · rfl
theorem evP_cong {A : Nat → Prop} {p : Pr} {vals vals' : Nat → Int32} (h : WP A p) (hv : ∀ k, A k → vals k = vals' k) : evP p vals = evP p vals' := by rw [evP, evP, evF_cong h hv (Nat.le_refl _)]
/-- a row of values holds a list, its end first -/
def Rst (S : Nat → Int32) (st : List Int32) : Prop := ∀ i, i < st.length → S i = st.getD (st.length - 1 - i) 0
theorem Rst.push {S : Nat → Int32} {st : List Int32} (h : Rst S st) (v : Int32) : Rst (upd S st.length v) (v :: st) := by
  intro i hi
  rw [List.length_cons] at hi ⊢
  by_cases e : i = st.length
  · subst e; rw [pk_us, show st.length + 1 - 1 - st.length = 0 by omega]; rfl
  · rw [pk_un e, h i (by omega), show st.length + 1 - 1 - i = (st.length - 1 - i) + 1 by omega]; rfl
theorem Rst.top {S : Nat → Int32} {st : List Int32} {a : Int32} (h : Rst S (a :: st)) : S st.length = a := by
  rw [h _ (by simp), List.length_cons, show st.length + 1 - 1 - st.length = 0 by omega]; rfl
theorem Rst.tl {S : Nat → Int32} {st : List Int32} {a : Int32} (h : Rst S (a :: st)) : Rst S st := fun i hi => by
  rw [h i (by rw [List.length_cons]; omega), List.length_cons, show st.length + 1 - 1 - i = (st.length - 1 - i) + 1 by omega]; rfl
/-! the class's code -/
def encC (o : Op) : Int32 := if o.1 = 0 then nI o.2 else if o.1 = 1 then nI (10000 + o.2) else if o.1 = 2 then 20003 else nI (20000 + o.2)
theorem nI_subneg {m k : Nat} (hm : m < k) (hk : k < 2 ^ 30) : nI m - nI k < 0 := pk_sneg hk hm
theorem rs1_st1 {A : Nat → Prop} {vals : Nat → Int32} {o : Op} {st : List Int32} {S : Nat → Int32} (h : ok1 A o st.length) (R : Rst S st) :
    (rs1 (encC o) vals (S, st.length)).2 = (st1 vals o st).length ∧ Rst (rs1 (encC o) vals (S, st.length)).1 (st1 vals o st) := by
  obtain ⟨k, m⟩ := o
  rcases h with ⟨rfl, hm, hd⟩ | ⟨rfl, hm, -, hd⟩ | ⟨rfl, h⟩ | ⟨rfl, h, h1, h3, h9⟩ <;> try dsimp only at *
  · have e : encC (0, m) = nI m := rfl
    rw [e, rs1_C (by rw [show (20000 : Int32) = nI 20000 from rfl]; exact nI_subneg (by omega) (by omega)) hd, if_neg (fun q => absurd q.1 (Int32.not_le.mpr (by rw [show (10000 : Int32) = nI 10000 from rfl]; exact nI_subneg (by omega) (by omega))))]
    exact ⟨rfl, R.push _⟩
  · have e : encC (1, m) = nI (10000 + m) := rfl
    have e1 : nI (10000 + m) - 10000 = nI m := by rw [show (10000 : Int32) = nI 10000 from rfl, pk_sub (Nat.le_add_right _ _), Nat.add_sub_cancel_left]
    rw [e, rs1_C (by rw [show (20000 : Int32) = nI 20000 from rfl]; exact nI_subneg (by omega) (by omega)) hd, e1, if_pos ⟨nI_pos' (by omega), nI_lt (b := 9) hm (by decide)⟩, cl_nI (by omega)]
    exact ⟨rfl, R.push _⟩
  · have e : encC (2, m) = 20003 := rfl
    match st, h, R with
    | a :: s, h, R =>
      rw [e, rs1_A (by decide) h]
      have e0 : (a :: s).length - 1 = s.length := by simp
      rw [e0, R.top]
      exact ⟨rfl, R.tl.push _⟩
  · have e : encC (3, m) = nI (20000 + m) := rfl
    have e1 : nI (20000 + m) - 20000 = nI m := by rw [show (20000 : Int32) = nI 20000 from rfl, pk_sub (Nat.le_add_right _ _), Nat.add_sub_cancel_left]
    match st, h, R with
    | b :: a :: s, h, R =>
      rw [e, rs1_B (by rw [e1]; rintro ⟨q, -⟩; exact h3 ((nI_eq (b := 3) (by omega) (by decide)).mp q)) (by rw [e1]; exact nI_pos' (by omega)) h, e1]
      have e2 : (b :: a :: s).length - 1 = (a :: s).length := by simp
      have e3 : (b :: a :: s).length - 2 = s.length := by simp
      rw [e2, e3, R.top, R.tl.top]
      exact ⟨rfl, R.tl.tl.push _⟩
theorem rsF_evF {A : Nat → Prop} {p : Pr} {cd vals S : Nat → Int32} {fr : Nat} (h : WP A p) (hc : ∀ j, j < p.1 → cd (fr + j) = encC (p.2 j)) {k : Nat} (hk : k ≤ p.1) :
    (rsF cd vals fr S k).2 = (evF p vals k).length ∧ Rst (rsF cd vals fr S k).1 (evF p vals k) := by
  induction k with
  | zero => exact ⟨rfl, fun i hi => absurd hi (Nat.not_lt_zero _)⟩
  | succ k ih =>
    obtain ⟨i1, i2⟩ := ih (by omega)
    have := h.1 k (by omega)
    rw [← evF_len (vals := vals) h (by omega)] at this
    show (rs1 (cd (fr + k)) vals (rsF cd vals fr S k)).2 = (st1 vals (p.2 k) (evF p vals k)).length ∧ Rst (rs1 (cd (fr + k)) vals (rsF cd vals fr S k)).1 (st1 vals (p.2 k) (evF p vals k))
    rw [hc k (by omega)]
    generalize rsF cd vals fr S k = st at i1 i2
    obtain ⟨S1, T1⟩ := st
    dsimp only at i1 i2
    subst i1
    exact rs1_st1 this i2
theorem ruF_evP {A : Nat → Prop} {p : Pr} {cd vals S : Nat → Int32} {fr : Nat} (h : WP A p) (h0 : 0 < p.1) (hc : ∀ j, j < p.1 → cd (fr + j) = encC (p.2 j)) : ruF cd vals S fr p.1 = evP p vals := by
  obtain ⟨i1, i2⟩ := rsF_evF (vals := vals) (S := S) h hc (Nat.le_refl _)
  have e := evF_len (vals := vals) h (Nat.le_refl _)
  rw [h.2 h0] at e
  rw [ruF, i1, if_pos (by omega), i2 0 (by omega), e]; rfl
/-! a city, a town -/
abbrev Cy : Type := (Nat × Nat × Nat × Nat) × (Nat → Int32) × (Nat → Int32) × (Nat → Nat) × Pr × Pr
abbrev cN (C : Cy) : Nat := C.1.1
abbrev cP (C : Cy) : Nat := C.1.2.1
abbrev cL (C : Cy) : Nat := C.1.2.2.1
abbrev cM (C : Cy) : Nat := C.1.2.2.2
abbrev cBl (C : Cy) : Nat → Int32 := C.2.1
abbrev cWt (C : Cy) : Nat → Int32 := C.2.2.1
abbrev cWl (C : Cy) : Nat → Nat := C.2.2.2.1
abbrev cSh (C : Cy) : Pr := C.2.2.2.2.1
abbrev cRe (C : Cy) : Pr := C.2.2.2.2.2
/-- the values that SHAMES, RETURNS may name -/
def shA (k : Nat) : Prop := k < 7
def reA (k : Nat) : Prop := k = 4 ∨ k = 6 ∨ k = 7 ∨ k = 8
def WC (C : Cy) : Prop := (cN C ≤ 10 ∧ cP C ≤ 8 ∧ 2 ≤ cL C ∧ cL C ≤ 6 ∧ 1 ≤ cM C ∧ cM C ≤ 99) ∧ (∀ p, p < cP C → 1 ≤ cWl C p ∧ cWl C p ≤ 6) ∧ (WP shA (cSh C) ∧ WP reA (cRe C)) ∧ (∀ p, p < cP C → cBl C p = 0 ∨ cBl C p = 1) ∧ ∀ t, t < cN C → ∃ w, w ≤ 30 ∧ cWt C t = nI w
abbrev Tn : Type := Nat × Int32 × (Nat → Int32) × (Nat → Int32) × (Nat → Int32) × (Nat → Int32) × (Nat → Int32) × (Nat → Int32) × (Nat → Int32)
abbrev tD (T : Tn) : Nat := T.1
abbrev tC (T : Tn) : Int32 := T.2.1
abbrev tO (T : Tn) : Nat → Int32 := T.2.2.1
abbrev tB (T : Tn) : Nat → Int32 := T.2.2.2.1
abbrev tS (T : Tn) : Nat → Int32 := T.2.2.2.2.1
abbrev tX (T : Tn) : Nat → Int32 := T.2.2.2.2.2.1
abbrev tH (T : Tn) : Nat → Int32 := T.2.2.2.2.2.2.1
abbrev tV (T : Tn) : Nat → Int32 := T.2.2.2.2.2.2.2.1
abbrev tW (T : Tn) : Nat → Int32 := T.2.2.2.2.2.2.2.2
/-- where one is; who looks -/
def plT (C : Cy) (T : Tn) (p dd : Nat) : Int32 := tW T (6 * p + dd % cWl C p)
def lkT (C : Cy) (T : Tn) (p dd : Nat) : Int32 := btF (fun o => (cBl C o = 0 ∧ plT C T o dd = plT C T p dd) ∧ o ≠ p) (cP C)
def svT (C : Cy) (T : Tn) (t w : Nat) (lk : Int32) : Nat → Int32 := fun k => if k = 0 then tX T t else if k = 1 then cWt C t else if k = 2 then tS T t else if k = 3 then bcF lk else if k = 4 then tV T w else if k = 5 then (lk >>> (tO T t &&& 31)) &&& 1 else nI (tD T)
def shT (C : Cy) (T : Tn) (t w : Nat) (lk : Int32) : Int32 := keptF (if (cSh C).1 = 0 then tX T t + bcF lk - tV T w else evP (cSh C) (svT C T t w lk))
def mnT (C : Cy) (T : Tn) (p : Nat) : Nat := foF (fun t a => if tB T t = nI p then a + 1 else a) 0 (cN C)
def rvT (T : Tn) (p m : Nat) : Nat → Int32 := fun k => if k = 7 then tH T p else if k = 4 then tV T p else if k = 8 then nI m else nI (tD T)
/-- whether one gives all back -/
def gvT (C : Cy) (T : Tn) (p : Nat) : Bool := !decide (mnT C T p = 0) && (if (cRe C).1 = 0 then !decide (tH T p < 40) else !decide (evP (cRe C) (rvT T p (mnT C T p)) ≤ 0))
/-- the thing t is worn by w for a day -/
def wdT (C : Cy) (t w : Nat) (lk : Int32) (T : Tn) : Tn :=
  if lk = 0 then (tD T, tC T, tO T, tB T, tS T, tX T, upd (tH T) w (mn99 (tH T w + shT C T t w lk)), tV T, tW T)
  else if tS T t + 1 < nI (cM C) then (tD T, tC T, tO T, tB T, upd (tS T) t (tS T t + 1), tX T, upd (tH T) w (mn99 (tH T w + shT C T t w lk)), tV T, tW T)
  else (tD T, tC T + 1, upd (tO T) t (nI w), upd (tB T) t (-1), upd (tS T) t 0, tX T, upd (tH T) w (mn99 (tH T w + shT C T t w lk)), tV T, tW T)
def d1T (C : Cy) (fog : Int32) (t : Nat) (T : Tn) : Tn := if tB T t = -1 then T else wdT C t (tB T t).toNatClampNeg (if fog = 0 then lkT C T (tB T t).toNatClampNeg (tD T) else 0) T
def gvW (C : Cy) (T : Tn) (k : Nat) (x : Int32) : Bool := !decide (x = -1) && decide (x.toNatClampNeg < k) && gvT C T x.toNatClampNeg
/-- the evening of those below k -/
def evT (C : Cy) (k : Nat) (T : Tn) : Tn := (tD T, tC T, tO T, fun t => if gvW C T k (tB T t) then -1 else tB T t, fun t => if gvW C T k (tB T t) then 0 else tS T t, tX T, fun p => if p < k then (if gvT C T p then 0 else if mnT C T p = 0 then mx0 (tH T p - 2) else tH T p) else tH T p, tV T, tW T)
def ndT (T : Tn) : Tn := (tD T + 1, T.2)
/-- a day -/
def d1A (C : Cy) (fog : Int32) (T : Tn) : Nat → Tn := foF (d1T C fog) T
def dayT (C : Cy) (fog : Int32) (T : Tn) : Tn := ndT (evT C (cP C) (d1A C fog T (cN C)))
def dnT (C : Cy) (T : Tn) : Nat → Tn := foF (fun _ T => dayT C 0 T) T
/-! the class's town -/
/-- the city c as told -/
def CC (h : Hp) (c fs fr : Nat) (C : Cy) : Prop := (hI h c 0 = nI (cL C) ∧ hI h c 3 = nI (cM C)) ∧ (∀ p, p < cP C → hI h (c + 2) p = cBl C p ∧ hI h (c + 3) p = nI (cWl C p)) ∧ (∀ t, t < cN C → hI h (c + 5) t = cWt C t) ∧ (∀ j, j < (cSh C).1 → hI h (c + 9) (fs + j) = encC ((cSh C).2 j)) ∧ ∀ j, j < (cRe C).1 → hI h (c + 9) (fr + j) = encC ((cRe C).2 j)
def TE (h : Hp) (b : Nat) (C : Cy) (T : Tn) : Prop := (∀ t, t < cN C → hI h (b + 5) t = tO T t ∧ hI h (b + 6) t = tB T t ∧ hI h (b + 7) t = tS T t ∧ hI h (b + 4) t = tX T t) ∧ (∀ p, p < cP C → hI h (b + 2) p = tH T p ∧ hI h (b + 1) p = tV T p) ∧ (∀ i, i < 6 * cP C → hI h (b + 3) i = tW T i) ∧ hI h b 2 = tC T
def TV (h : Hp) (b c fs fr : Nat) (C : Cy) (T : Tn) : Prop := TI h b c (cN C) (cP C) fs (cSh C).1 fr (cRe C).1 (tD T) ∧ CC h c fs fr C ∧ TE h b C T
theorem CC.fr {h g : Hp} {b c fs fr : Nat} {C : Cy} (H : CC h c fs fr C) (hb : TownAt b) (hc : CityAt c) (F : FrT b h g) : CC g c fs fr C := by
  have e : ∀ i, i ≤ 11 → ∀ k, hI g (c + i) k = hI h (c + i) k := fun i hi k => F.2.2.2 _ _ (tt_c hb hc hi)
  obtain ⟨⟨h1, h2⟩, h3, h4, h5, h6⟩ := H
  refine ⟨⟨(e 0 (by omega) 0).trans h1, (e 0 (by omega) 3).trans h2⟩, fun p hp => ?_, fun t ht => ?_, fun j hj => ?_, fun j hj => ?_⟩
  · rw [e 2 (by omega), e 3 (by omega)]; exact h3 p hp
  · rw [e 5 (by omega)]; exact h4 t ht
  · rw [e 9 (by omega)]; exact h5 j hj
  · rw [e 9 (by omega)]; exact h6 j hj
theorem plN_plT {h : Hp} {b c fs fr p dd : Nat} {C : Cy} {T : Tn} (W : WC C) (hC : CC h c fs fr C) (hE : TE h b C T) (hp : p < cP C) : plN h b c p dd = plT C T p dd := by
  have hw := W.2.1 p hp
  have hm : dd % cWl C p < cWl C p := Nat.mod_lt _ (by omega)
  rw [plN, (hC.2.1 p hp).2, cl_nI (by omega), hE.2.2.1 _ (by omega)]; rfl
theorem lkA_lkT {h : Hp} {b c fs fr p dd : Nat} {C : Cy} {T : Tn} (W : WC C) (hC : CC h c fs fr C) (hE : TE h b C T) (hp : p < cP C) : lkA h b c (cP C) p dd = lkT C T p dd := by
  unfold lkA lkT
  refine btF_cong (fun o ho => ?_)
  rw [(hC.2.1 o ho).1, plN_plT W hC hE ho, plN_plT W hC hE hp]
