/-! the class's state, and its acts -/
def byI (n : Nat) : Int32 := (nI n).toInt8.toInt32
/-- the image -/
def IMr (h : Hp) (C : Cy) : Option (Tn × List Tn × Nt) → Prop
  | none => hI h 0 10 = 0
  | some I => hI h 0 10 = 1 ∧ PKr (hI h 48) 0 C I.1 ∧ AVr h 49 C I.2.1 ∧ NV h 51 (cN C) I.2.2
/-- all but the town -/
def KR (h : Hp) (C : Cy) (A : List Tn) (Q : Nt) (I : Option (Tn × List Tn × Nt)) (P : Nat × (Nat → Nat)) (f : Int32) (R : Nat → Int32) : Prop := AVr h 42 C A ∧ NV h 44 (cN C) Q ∧ IMr h C I ∧ (hI h 0 1 = nI P.1 ∧ ∀ i, i < P.1 → hI h 1 i = byI (P.2 i)) ∧ hI h 0 2 = f ∧ ∀ i, i < 3 → hI h 2 i = R i
def KI (h : Hp) (S : Sx) : Prop := ∃ c c' fs fr x, (CityAt c' ∧ c' ≠ c ∧ hR h 0 6 = some c') ∧ KB h c fs fr x (sC S) (sT S) ∧ KR h (sC S) (sA S) (sQ S) (sM S) (sP S) (sF S) (sR S)
/-- nobody wears what is his own -/
def WN (C : Cy) (T : Tn) : Prop := ∀ t, t < cN C → ¬ tB T t = tO T t
def VT (C : Cy) (T A : Tn) : Prop := WT C A ∧ WN C A ∧ tD A ≤ 9999 ∧ ∀ p, p < cP C → tV A p = tV T p
def WQ (C : Cy) (Q : Nt) : Prop := qM Q ≤ 8 ∧ ∀ i, i < qM Q → qT Q i < cN C ∧ qD Q i ≤ 30 ∧ (qW Q i = 0 ∨ qW Q i = 1)
def WA (C : Cy) (T : Tn) (A : List Tn) : Prop := A.length ≤ 40 ∧ ∀ i, i < A.length → VT C T (A.getD i T00)
def WI (C : Cy) (T : Tn) : Option (Tn × List Tn × Nt) → Prop
  | none => True
  | some I => VT C T I.1 ∧ WA C T I.2.1 ∧ WQ C I.2.2
def WS (S : Sx) : Prop := WC (sC S) ∧ VT (sC S) (sT S) (sT S) ∧ WA (sC S) (sT S) (sA S) ∧ WQ (sC S) (sQ S) ∧ WI (sC S) (sT S) (sM S) ∧ (sP S).1 ≤ 700 ∧ ∀ i, (sP S).2 i < 256
/-- what the class's acts may change: anything of its own -/
def Fw (h g : Hp) : Prop := hN g = hN h ∧ hJ g = hJ h ∧ ∀ a, 77 ≤ a → (∀ k, hI g a k = hI h a k) ∧ ∀ k, hR g a k = hR h a k
theorem Fw.rf {h : Hp} : Fw h h := ⟨rfl, rfl, fun _ _ => ⟨fun _ => rfl, fun _ => rfl⟩⟩
theorem Fw.tr {h g k : Hp} (h1 : Fw h g) (h2 : Fw g k) : Fw h k := ⟨h2.1.trans h1.1, h2.2.1.trans h1.2.1, fun a ha => ⟨fun i => ((h2.2.2 a ha).1 i).trans ((h1.2.2 a ha).1 i), fun i => ((h2.2.2 a ha).2 i).trans ((h1.2.2 a ha).2 i)⟩⟩
theorem Fw.fc {h g : Hp} (F : Fc h g) : Fw h g := ⟨F.2.1, F.2.2.1, fun a ha => ⟨fun k => F.2.2.2 a k (by unfold Sc; omega), fun k => F.1 a k (by omega)⟩⟩
theorem Fw.fr {S : Nat → Prop} {h g : Hp} (F : Fr S h g) (hs : ∀ a, S a → a < 77) : Fw h g := ⟨F.2.1, F.2.2.1, fun a ha => ⟨fun k => F.2.2.2 a k (fun q => by have := hs a q; omega), fun k => by rw [F.1]⟩⟩
theorem Fw.uI {h g : Hp} {a k : Nat} {v : Int32} (F : Fw h g) (ha : a < 77) : Fw h (uI g a k v) := F.tr ⟨rfl, rfl, fun b hb => ⟨fun i => hI_uI_ne (by omega), fun i => rfl⟩⟩
theorem Fw.uF {h g : Hp} {a : Nat} {f : Nat → Int32} (F : Fw h g) (ha : a < 77) : Fw h (uF g a f) := F.tr ⟨rfl, rfl, fun b hb => ⟨fun i => hI_uF_ne (by omega), fun i => rfl⟩⟩
theorem KB.fc {h g : Hp} {c fs fr : Nat} {x : Int32} {C : Cy} {T : Tn} (K : KB h c fs fr x C T) (F : Fc h g) : KB g c fs fr x C T := by
  obtain ⟨h1, h2, h3⟩ := K
  exact ⟨by rw [F.1 _ _ (by omega)]; exact h1, h2.fc F, fun p hp => by rw [F.2.2.2 _ _ (sc_c h2.hc.1 (by omega))]; exact h3 p hp⟩
/-- cells that a question leaves alone -/
theorem KR.eq0 {h g : Hp} {C : Cy} {A : List Tn} {Q : Nt} {I : Option (Tn × List Tn × Nt)} {P : Nat × (Nat → Nat)} {f : Int32} {R R' : Nat → Int32} (K : KR h C A Q I P f R) (e : ∀ a k, a ≤ 1 ∨ 42 ≤ a ∧ a ≤ 54 → hI g a k = hI h a k) (hr : ∀ i, i < 3 → hI g 2 i = R' i) : KR g C A Q I P f R' := by
  obtain ⟨h1, h2, h3, ⟨h4, h5⟩, h6, h7⟩ := K
  have nv : ∀ n Q, NotesAt n → NV h n (cN C) Q → NV g n (cN C) Q := fun n Q hn V => by
    have e' : ∀ i, i ≤ 3 → ∀ k, hI g (n + i) k = hI h (n + i) k := fun i hi k => e _ _ (by rcases hn with rfl | rfl <;> omega)
    obtain ⟨⟨v1, v2, v3⟩, v4⟩ := V
    refine ⟨⟨(e' 0 (by omega) 0).trans v1, v2, fun i hi => ?_⟩, fun i hi => ?_⟩
    · rw [e' 1 (by omega), e' 2 (by omega), e' 3 (by omega)]; exact v3 i hi
    · rw [e' 1 (by omega), e' 2 (by omega), e' 3 (by omega)]; exact v4 i hi
  refine ⟨h1.fr (fun k => e _ _ (by omega)) (funext fun k => e _ _ (by omega)), nv 44 Q at44 h2, ?_, ⟨(e _ _ (by omega)).trans h4, fun i hi => (e _ _ (by omega)).trans (h5 i hi)⟩, (e _ _ (by omega)).trans h6, hr⟩
  cases I with
  | none => exact (e _ _ (by omega)).trans h3
  | some I =>
    obtain ⟨i1, i2, i3, i4⟩ := h3
    have e48 : hI g 48 = hI h 48 := funext fun k => e _ _ (by omega)
    exact ⟨(e _ _ (by omega)).trans i1, by rw [e48]; exact i2, i3.fr (fun k => e _ _ (by omega)) (funext fun k => e _ _ (by omega)), nv 51 I.2.2 at51 i4⟩
theorem KR.eq {h g : Hp} {C : Cy} {A : List Tn} {Q : Nt} {I : Option (Tn × List Tn × Nt)} {P : Nat × (Nat → Nat)} {f : Int32} {R : Nat → Int32} (K : KR h C A Q I P f R) (e : ∀ a k, a ≤ 2 ∨ 42 ≤ a ∧ a ≤ 54 → hI g a k = hI h a k) : KR g C A Q I P f R := K.eq0 (fun a k q => e a k (by omega)) (fun i hi => (e _ _ (by omega)).trans (K.2.2.2.2.2 i hi))
theorem KI.fc {h g : Hp} {S : Sx} (K : KI h S) (F : Fc h g) : KI g S := by
  obtain ⟨c, c', fs, fr, x, ⟨h1, h2, h3⟩, h4, h5⟩ := K
  exact ⟨c, c', fs, fr, x, ⟨h1, h2, by rw [F.1 _ _ (by omega)]; exact h3⟩, h4.fc F, h5.eq (fun a k q => F.2.2.2 a k (by unfold Sc; omega))⟩
/-- an act's answer and the state behind it -/
abbrev Sa : Type := Nat × Int32 × Sx
def ndS (P : Prop) [Decidable P] (S : Sx) (o : Sa) : Sa := if P then o else (1, 0, S)
abbrev Qa (o : Sa) (h : Hp) : Option Value → Hp → Prop := fun v g => (o.1 = 0 ∧ v = some (.int o.2.1)) ∧ KI g o.2.2 ∧ Fw h g
abbrev Xa (o : Sa) (h : Hp) : String → Hp → Prop := fun E g => (o.1 = 1 ∧ E = nNSE) ∧ KI g o.2.2 ∧ Fw h g
def Ka (l : Launch) (d : Nat) (M : MI) (as : List Value) (h : Hp) (o : Sa) : Prop := Run l d (1, 6) M as h (Qa o h) (Xa o h)
section
variable {l : Launch} {M : MI} {n0 : Nat} {pc : Nat} {lv : List (Option Value)} {st : List Value} {h : Hp} {d : Nat}
theorem sg_naV {M' : MI} {P : Prop} [Decidable P] {S : Sx} {o : Sa} (as : List Value) {a ci idx : Nat} {stk : List Value} (hd : decode M.2.1 pc = .ok (.invokevirtual idx, 3)) (hl : inG (.methodLink M.1.cls idx M'.1)) (hc : CV M' as.length) (ha : lay a = .inl ci) (hci : ci < 11) (hcl : clR ci = M'.1.cls) (hS : St h)
    (hg : P → Ex l d M' (.ref a :: as) h none h) (hb : ¬ P → Th l d M' (.ref a :: as) h nNSE) (hK : KI h S) (hnl : M.1.name ≠ "law") (hh : M.2.2.2.2 = []) (hstk : stk = as.reverse ++ .ref a :: st) (hst : (st.map (fun v => v.category)).sum ≤ 8)
    (kk : P → Go l (rmOf (d + 1) (1, 6)) M n0 (Zm (1, 6) (Qa o h) (Xa o h)) (pc + 3) lv st h 0 0) : Go l (rmOf (d + 1) (1, 6)) M n0 (Zm (1, 6) (Qa (ndS P S o) h) (Xa (ndS P S o) h)) pc lv stk h 0 0 := by
  by_cases q : P
  · rw [ndS, if_pos q]
    exact sg_cV0 as hd hl hc ha hci hcl hS (hg q) hstk hst (Nat.zero_le _) (Nat.zero_le _) (kk q)
  · rw [ndS, if_neg q]
    exact go_callV_ hd hl hc ha hci hcl (by rw [hS.1]; exact lay_lt (ne_o hci) ha) (hb q) hstk hst (Nat.le_refl _) (Nat.le_of_eq (Nat.mul_succ 40 d).symm) (Nat.le_refl _) (Nat.le_refl _) (fun q => absurd hS.1 (Nat.ne_of_lt q)) (fun _ _ z => z.elim) (fun E' h' z => by obtain ⟨rfl, rfl⟩ := z; exact gox_out hnl hh (Nat.le_refl _) (Nat.le_refl _) ⟨⟨rfl, rfl⟩, hK, Fw.rf⟩)
end
theorem r_refuse {l : Launch} {d k : Nat} {h : Hp} {v : Int32} (hS : St h) (hk : k < 3) : Ex l (d + 1) mX9_refuse [.ref 0, .int (nI k), .int v] h (some (.int v)) (uI h 2 k (hI h 2 k + 1)) := by
  refine run_lv [some (.ref 0), some (.int (nI k)), some (.int v)] (go := ?_)
  refine go_aloadn dX9_refuse_0 rfl ?_
  refine sg_getR dX9_refuse_1 fX9_17 rfl (wo_L rfl) hS (wo_r3 hS rfl) ?_
  refine go_iloadn dX9_refuse_4 rfl ?_
  refine go_dup2 dX9_refuse_5 rfl rfl ?_
  refine sg_ialdN (i := k) (x := hI h 2 k) dX9_refuse_6 (wo_3 rfl) hS (by simp only [lit_nI, nI_add, pk_mul, Nat.add_assoc, Nat.zero_add, Nat.add_zero]) (by omega) (rfl) ?_
  refine go_iconst (v := 1) dX9_refuse_7 rfl ?_
  refine go_iadd dX9_refuse_8 ?_
  refine sg_iastN (i := k) dX9_refuse_9 (wo_3 rfl) hS (by simp only [lit_nI, nI_add, pk_mul, Nat.add_assoc, Nat.zero_add, Nat.add_zero]) (by omega) ?_
  refine go_iloadn dX9_refuse_10 rfl ?_
  refine go_ireturn dX9_refuse_11 rfl rfl (Nat.zero_le _) (Nat.zero_le _) ?_
  exact ⟨rfl, rfl⟩
/-- a call is refused -/
def rfS (k : Nat) (S : Sx) : Sx := (sC S, sT S, sA S, sQ S, sM S, sP S, sF S, upd (sR S) k (sR S k + 1))
theorem KB.put {h : Hp} {c fs fr a k : Nat} {v x : Int32} {C : Cy} {T : Tn} (K : KB h c fs fr x C T) (ha : a ≤ 2 ∨ 42 ≤ a ∧ a ≤ 54) : KB (uI h a k v) c fs fr x C T := by
  obtain ⟨h1, h2, h3⟩ := K
  obtain ⟨⟨⟨t1, t2, t3, t4, t5, t6, t7, t8⟩, ⟨k1, k2⟩, U, Wr, hD, hDl⟩, hC, ⟨e1, e2, e3, e4⟩⟩ := h2
  have ne : ∀ b i, (b = 30 ∨ b = c) → i ≤ 11 → ∀ j, hI (uI h a k v) (b + i) j = hI h (b + i) j := fun b i hb hi j => hI_uI_ne (by rcases hb with rfl | rfl; omega; rcases t3 with rfl | rfl <;> omega)
  have n30 := fun i hi j => ne 30 i (Or.inl rfl) hi j
  have nc := fun i hi j => ne c i (Or.inr rfl) hi j
  refine ⟨h1, ⟨⟨⟨t1, t2, t3, t4, (nc 0 (by omega) 2).trans t5, t6, (nc 0 (by omega) 1).trans t7, t8⟩, ⟨fun p hp => by rw [nc 3 (by omega)]; exact k1 p hp, fun i hi => by rw [n30 3 (by omega)]; exact k2 i hi⟩, ?_, fun t ht => by rw [n30 6 (by omega)]; exact Wr t ht, (n30 0 (by omega) 1).trans hD, hDl⟩, ?_, ⟨fun t ht => ?_, fun p hp => ?_, fun i hi => ?_, (n30 0 (by omega) 2).trans e4⟩⟩, fun p hp => by rw [nc 1 (by omega)]; exact h3 p hp⟩
  · unfold RU; rw [nc 10 (by omega), nc 10 (by omega), nc 11 (by omega), nc 11 (by omega)]; exact U
  · obtain ⟨⟨g1, g2⟩, g3, g4, g5, g6⟩ := hC
    refine ⟨⟨(nc 0 (by omega) 0).trans g1, (nc 0 (by omega) 3).trans g2⟩, fun p hp => ?_, fun t ht => ?_, fun j hj => ?_, fun j hj => ?_⟩
    · rw [nc 2 (by omega), nc 3 (by omega)]; exact g3 p hp
    · rw [nc 5 (by omega)]; exact g4 t ht
    · rw [nc 9 (by omega)]; exact g5 j hj
    · rw [nc 9 (by omega)]; exact g6 j hj
  · rw [n30 5 (by omega), n30 6 (by omega), n30 7 (by omega), n30 4 (by omega)]; exact e1 t ht
  · rw [n30 2 (by omega), n30 1 (by omega)]; exact e2 p hp
  · rw [n30 3 (by omega)]; exact e3 i hi
theorem KI.rf {h : Hp} {S : Sx} {k : Nat} (K : KI h S) (hk : k < 3) : KI (uI h 2 k (hI h 2 k + 1)) (rfS k S) := by
  obtain ⟨c, c', fs, fr, x, h0, h4, h5⟩ := K
  refine ⟨c, c', fs, fr, x, h0, h4.put (by omega), h5.eq0 (fun a j q => hI_uI_ne (by omega)) (fun i hi => ?_)⟩
  show hI (uI h 2 k (hI h 2 k + 1)) 2 i = upd (sR S) k (sR S k + 1) i
  have h7 := h5.2.2.2.2.2
  rw [hI_uI]
  by_cases e : i = k
  · subst e; rw [if_pos ⟨rfl, rfl⟩, pk_us, h7 i hi]
  · rw [if_neg (fun z => e z.2), pk_un e]; exact h7 i hi
