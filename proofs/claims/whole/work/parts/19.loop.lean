/-! loops; rows of bits -/
section
variable {l : Launch} {R : Room} {M : MI} {n0 : Nat} {Z : ZT} {pc : Nat} {st : List Value} {u w : Nat}
theorem go_cong {lv lv' : List (Option Value)} {h h' : Hp} (k : Go l R M n0 Z pc lv' st h' u w) (e : lv = lv') (eh : h = h') : Go l R M n0 Z pc lv st h u w := by rw [e, eh]; exact k
/-- a loop that counts up: the locals and the heap are functions of the count -/
theorem go_loop {lvf : Nat → List (Option Value)} {hf : Nat → Hp} (N : Nat) (I : Nat → Prop) (body : ∀ k, k < N → I k → (I (k + 1) → Go l R M n0 Z pc (lvf (k + 1)) st (hf (k + 1)) u w) → Go l R M n0 Z pc (lvf k) st (hf k) u w)
    (exit : I N → Go l R M n0 Z pc (lvf N) st (hf N) u w) : ∀ k, k ≤ N → I k → Go l R M n0 Z pc (lvf k) st (hf k) u w := by
  have h : ∀ j k, k + j = N → I k → Go l R M n0 Z pc (lvf k) st (hf k) u w := by
    intro j
    induction j with
    | zero => intro k hk hI; have : k = N := by omega
              subst this; exact exit hI
    | succ j ih => intro k hk hI; exact body k (by omega) hI (fun h1 => ih (k + 1) (by omega) h1)
  exact fun k hk hI => h (N - k) k (by omega) hI
/-- .. counting down -/
theorem go_down {lvf : Nat → List (Option Value)} {hf : Nat → Hp} (I : Nat → Prop) (body : ∀ k, I (k + 1) → (I k → Go l R M n0 Z pc (lvf k) st (hf k) u w) → Go l R M n0 Z pc (lvf (k + 1)) st (hf (k + 1)) u w)
    (exit : I 0 → Go l R M n0 Z pc (lvf 0) st (hf 0) u w) : ∀ k, I k → Go l R M n0 Z pc (lvf k) st (hf k) u w := by
  intro k
  induction k with
  | zero => exact exit
  | succ k ih => exact fun h => body k h ih
end
/-- the bits of those below n of which P holds -/
def btF (P : Nat → Prop) [DecidablePred P] : Nat → Int32
  | 0 => 0
  | k + 1 => if P k then btF P k ||| (1 <<< (nI k &&& 31)) else btF P k
theorem cl_nI {n : Nat} (h : n < 2 ^ 31) : (nI n).toNatClampNeg = n := nI_clamp h
/-- a contract that says everything: the answer and the heap -/
def Ex (l : Launch) (d : Nat) (M : MI) (as : List Value) (h : Hp) (r : Option Value) (h' : Hp) : Prop := Run l d (0, 0) M as h (fun v h1 => v = r ∧ h1 = h') noX
section
variable {l : Launch} {M : MI} {n0 : Nat} {Z : ZT} {pc : Nat} {lv : List (Option Value)} {st : List Value} {h h' : Hp} {u w d : Nat} {B0 : Nat × Nat}
theorem sg_cVi {M' : MI} {x : Value} (as : List Value) {a ci idx : Nat} {stk : List Value} (hd : decode M.2.1 pc = .ok (.invokevirtual idx, 3)) (hl : inG (.methodLink M.1.cls idx M'.1)) (hc : CV M' as.length) (ha : lay a = .inl ci) (hci : ci < 11) (hcl : clR ci = M'.1.cls) (hS : St h)
    (hr : Ex l d M' (.ref a :: as) h (some x) h') (hstk : stk = as.reverse ++ .ref a :: st) (hst : (st.map (fun v => v.category)).sum ≤ 8) (hu : u ≤ B0.1) (hw : w ≤ B0.2)
    (kk : Go l (rmOf (d + 1) B0) M n0 Z (pc + 3) lv (x :: st) h' u w) : Go l (rmOf (d + 1) B0) M n0 Z pc lv stk h u w :=
  sg_callV as hd hl hc ha hci hcl hS hr hstk hst hu hw (fun v h1 q => by obtain ⟨rfl, rfl⟩ := q; exact kk)
theorem sg_cV0 {M' : MI} (as : List Value) {a ci idx : Nat} {stk : List Value} (hd : decode M.2.1 pc = .ok (.invokevirtual idx, 3)) (hl : inG (.methodLink M.1.cls idx M'.1)) (hc : CV M' as.length) (ha : lay a = .inl ci) (hci : ci < 11) (hcl : clR ci = M'.1.cls) (hS : St h)
    (hr : Ex l d M' (.ref a :: as) h none h') (hstk : stk = as.reverse ++ .ref a :: st) (hst : (st.map (fun v => v.category)).sum ≤ 8) (hu : u ≤ B0.1) (hw : w ≤ B0.2)
    (kk : Go l (rmOf (d + 1) B0) M n0 Z (pc + 3) lv st h' u w) : Go l (rmOf (d + 1) B0) M n0 Z pc lv stk h u w :=
  sg_callV as hd hl hc ha hci hcl hS hr hstk hst hu hw (fun v h1 q => by obtain ⟨rfl, rfl⟩ := q; exact kk)
theorem sg_cSi {M' : MI} {x : Value} (as : List Value) {idx : Nat} {stk : List Value} (hd : decode M.2.1 pc = .ok (.invokestatic idx, 3)) (hl : inG (.methodLink M.1.cls idx M'.1)) (hc : CS M' as.length) (hS : St h)
    (hr : Ex l d M' as h (some x) h') (hstk : stk = as.reverse ++ st) (hst : (st.map (fun v => v.category)).sum ≤ 8) (hu : u ≤ B0.1) (hw : w ≤ B0.2)
    (kk : Go l (rmOf (d + 1) B0) M n0 Z (pc + 3) lv (x :: st) h' u w) : Go l (rmOf (d + 1) B0) M n0 Z pc lv stk h u w :=
  sg_callS as hd hl hc hS hr hstk hst hu hw (fun v h1 q => by obtain ⟨rfl, rfl⟩ := q; exact kk)
theorem sg_cS0 {M' : MI} (as : List Value) {idx : Nat} {stk : List Value} (hd : decode M.2.1 pc = .ok (.invokestatic idx, 3)) (hl : inG (.methodLink M.1.cls idx M'.1)) (hc : CS M' as.length) (hS : St h)
    (hr : Ex l d M' as h none h') (hstk : stk = as.reverse ++ st) (hst : (st.map (fun v => v.category)).sum ≤ 8) (hu : u ≤ B0.1) (hw : w ≤ B0.2)
    (kk : Go l (rmOf (d + 1) B0) M n0 Z (pc + 3) lv st h' u w) : Go l (rmOf (d + 1) B0) M n0 Z pc lv stk h u w :=
  sg_callS as hd hl hc hS hr hstk hst hu hw (fun v h1 q => by obtain ⟨rfl, rfl⟩ := q; exact kk)
end
/-- folds -/
def foF {α : Type} (f : Nat → α → α) (a : α) : Nat → α
  | 0 => a
  | k + 1 => f k (foF f a k)
/-- a town b over its city c, with N things and P people -/
def TC (h : Hp) (b c N P : Nat) : Prop := St h ∧ TownAt b ∧ CityAt c ∧ hR h b 0 = some c ∧ hI h c 2 = nI N ∧ N ≤ 10 ∧ hI h c 1 = nI P ∧ P ≤ 8
theorem hI_uI_ne {h : Hp} {a k a' k' : Nat} {v : Int32} (q : ¬ (a' = a ∧ k' = k)) : hI (uI h a k v) a' k' = hI h a' k' := by simp [hI, uI, up2, q]
theorem hI_uI_eq {h : Hp} {a k : Nat} {v : Int32} : hI (uI h a k v) a k = v := by simp [hI, uI, up2]
theorem hI_uI {h : Hp} {a k a' k' : Nat} {v : Int32} : hI (uI h a k v) a' k' = if a' = a ∧ k' = k then v else hI h a' k' := rfl
theorem hI_uF_ne {h : Hp} {a a' k : Nat} {f : Nat → Int32} (q : a' ≠ a) : hI (uF h a f) a' k = hI h a' k := by simp [hI, uF, q]
theorem hI_uF_eq {h : Hp} {a : Nat} {f : Nat → Int32} : hI (uF h a f) a = f := by funext k; simp [hI, uF]
theorem TC.uI {h : Hp} {b c N P : Nat} (H : TC h b c N P) {a k : Nat} {v : Int32} (ha : c ≠ a) : TC (uI h a k v) b c N P := by
  obtain ⟨h1, h2, h3, h4, h5, h6, h7, h8⟩ := H
  exact ⟨h1, h2, h3, h4, by rw [hI_uI_ne (fun q => ha q.1)]; exact h5, h6, by rw [hI_uI_ne (fun q => ha q.1)]; exact h7, h8⟩
theorem TC.uF {h : Hp} {b c N P : Nat} (H : TC h b c N P) {a : Nat} {f : Nat → Int32} (ha : c ≠ a) : TC (uF h a f) b c N P := by
  obtain ⟨h1, h2, h3, h4, h5, h6, h7, h8⟩ := H
  refine ⟨h1, h2, h3, h4, ?_, h6, ?_, h8⟩
  · rw [hI_uF_ne ha]; exact h5
  · rw [hI_uF_ne ha]; exact h7
theorem ct_ne {b c i : Nat} (hb : TownAt b) (hc : CityAt c) (hi : i ≤ 11) : c ≠ b + i := by rcases hb with rfl | rfl <;> rcases hc with rfl | rfl <;> omega
section
variable {l : Launch} {R : Room} {M : MI} {n0 : Nat} {Z : ZT} {pc : Nat} {lv : List (Option Value)} {st : List Value} {h : Hp} {u w : Nat}
theorem go_max {x y : Int32} {idx : Nat} (hd : decode M.2.1 pc = .ok (.invokestatic idx, 3)) (hl : inG (.methodLink M.1.cls idx yJ9_max_7cf53)) (hst : (st.map (fun v => v.category)).sum ≤ 8) (hR1 : 1 ≤ R.frames) (hR2 : 21 ≤ R.locals) (hu : u ≤ R.cells) (hw : w ≤ R.slots) (k : Go l R M n0 Z (pc + 3) lv (.int (if x < y then y else x) :: st) h u w) : Go l R M n0 Z pc lv (.int y :: .int x :: st) h u w := by
  intro p e s m args below meth c D A ρ C cA H locs ls hWd hS hL
  have hts := C.2.2.2.2.2.1
  refine va_mmax C.1 C.2.1 (by rw [C.2.2.1]; exact hL.2.1.symm) C.2.2.2.2.1 (hts _ (inG_mem hl)) (hts _ (inG_mem sJ9_max_7cf53.2)) (hts _ (inG_mem iniJ9)) (hts _ (inG_mem sJ9_max_7cf53.1.2.1)) hR1 ?_ hu hw hd (k p e s m args below meth c D A ρ C cA H locs ls hWd hS hL)
  have e1 : ((st.map (tv ρ)).map fun v => v.category).sum ≤ 8 := by rw [List.map_map]; simpa [Function.comp_def, tv_cat] using hst
  omega
theorem go_min {x y : Int32} {idx : Nat} (hd : decode M.2.1 pc = .ok (.invokestatic idx, 3)) (hl : inG (.methodLink M.1.cls idx yJ9_min_7cf53)) (hst : (st.map (fun v => v.category)).sum ≤ 8) (hR1 : 1 ≤ R.frames) (hR2 : 21 ≤ R.locals) (hu : u ≤ R.cells) (hw : w ≤ R.slots) (k : Go l R M n0 Z (pc + 3) lv (.int (if y < x then y else x) :: st) h u w) : Go l R M n0 Z pc lv (.int y :: .int x :: st) h u w := by
  intro p e s m args below meth c D A ρ C cA H locs ls hWd hS hL
  have hts := C.2.2.2.2.2.1
  refine va_mmin C.1 C.2.1 (by rw [C.2.2.1]; exact hL.2.1.symm) C.2.2.2.2.1 (hts _ (inG_mem hl)) (hts _ (inG_mem sJ9_min_7cf53.2)) (hts _ (inG_mem iniJ9)) (hts _ (inG_mem sJ9_min_7cf53.1.2.1)) hR1 ?_ hu hw hd (k p e s m args below meth c D A ρ C cA H locs ls hWd hS hL)
  have e1 : ((st.map (tv ρ)).map fun v => v.category).sum ≤ 8 := by rw [List.map_map]; simpa [Function.comp_def, tv_cat] using hst
  omega
end
