/-! returns -/
section
variable {l : Launch} {R : Room} {M : MI} {n0 : Nat} {pc : Nat} {lv : List (Option Value)} {st : List Value} {h : Hp} {u w : Nat} {B : Nat × Nat} {Q : Option Value → Hp → Prop} {X : String → Hp → Prop}
theorem go_ireturn {v : Int32} {ty : FieldType} (hd : decode M.2.1 pc = .ok (.ireturn, 1)) (hr : M.2.2.2.1 = some ty) (hn : narrow ty (.int v) = .int v) (hu : u ≤ B.1) (hw : w ≤ B.2) (hq : Q (some (.int v)) h) : Go l R M n0 (Zm B Q X) pc lv [.int v] h u w := by
  intro p e s m args below meth c D A ρ C cA H locs ls hWd hS hL
  refine W.widen hu hw (vx_ret (W.zret C.1 C.2.1 (C.2.2.2.1.trans hr) hn (fun t ht hWm => ⟨⟨some (.int v), h, cA, rfl, hq, ?_⟩, hS.F ht⟩) hS.2.2 hd C.2.2.2.2.2.2.1))
  rw [ht]
  exact hWd.moved hWm.alike
theorem go_return (hd : decode M.2.1 pc = .ok (.return_, 1)) (hr : M.2.2.2.1 = none) (hu : u ≤ B.1) (hw : w ≤ B.2) (hq : Q none h) : Go l R M n0 (Zm B Q X) pc lv [] h u w := by
  intro p e s m args below meth c D A ρ C cA H locs ls hWd hS hL
  refine W.widen hu hw (vx_ret (W.vret C.1 C.2.1 (C.2.2.2.1.trans hr) (fun t ht hWm => ⟨⟨none, h, cA, rfl, hq, ?_⟩, hS.F ht⟩) hS.2.2 hd C.2.2.2.2.2.2.1))
  rw [ht]
  exact hWd.moved hWm.alike
theorem go_lreturn {v : Int64} (hd : decode M.2.1 pc = .ok (.lreturn, 1)) (hr : M.2.2.2.1 = some .long) (hu : u ≤ B.1) (hw : w ≤ B.2) (hq : Q (some (.long v)) h) : Go l R M n0 (Zm B Q X) pc lv [.long v] h u w := by
  intro p e s m args below meth c D A ρ C cA H locs ls hWd hS hL
  refine W.widen hu hw (vx_ret (W.lret C.1 C.2.1 (C.2.2.2.1.trans hr) (fun t ht hWm => ⟨⟨some (.long v), h, cA, rfl, hq, ?_⟩, hS.F ht⟩) hS.2.2 hd C.2.2.2.2.2.2.1))
  rw [ht]
  exact hWd.moved hWm.alike
theorem go_areturn {a : Nat} {ty : FieldType} (hd : decode M.2.1 pc = .ok (.areturn, 1)) (hr : M.2.2.2.1 = some ty) (hrt : (∃ n, ty = .object n) ∨ ∃ t, ty = .array t) (hu : u ≤ B.1) (hw : w ≤ B.2) (hq : Q (some (.ref a)) h) : Go l R M n0 (Zm B Q X) pc lv [.ref a] h u w := by
  intro p e s m args below meth c D A ρ C cA H locs ls hWd hS hL
  refine W.widen hu hw (vx_ret (W.aret C.1 C.2.1 (C.2.2.2.1.trans hr) hrt (Or.inr ⟨_, rfl⟩) (fun t ht hWm => ⟨⟨some (.ref a), h, cA, rfl, hq, ?_⟩, hS.F ht⟩) hS.2.2 hd C.2.2.2.2.2.2.1))
  rw [ht]
  exact hWd.moved hWm.alike
end
/-! a method's contract out of its body -/
theorem lg_sl_cat1 : ∀ (vs : List Value), (∀ v ∈ vs, v.category = 1) → (lg_sl vs).length = vs.length
  | [], _ => rfl
  | v :: vs, hv => by
    have h1 : ¬ v.category = 2 := by rw [hv v List.mem_cons_self]; decide
    have h2 := lg_sl_cat1 vs (fun z hz => hv z (List.mem_cons_of_mem _ hz))
    simp only [lg_sl, List.flatMap_cons, h1, if_false, List.length_append, List.length_cons, List.length_nil] at h2 ⊢
    omega
theorem lv_args_cat1 : ∀ (vs : List Value) (i : Nat), (∀ v ∈ vs, v.category = 1) → ∀ (j : Nat) (v : Value), vs[j]? = some v → (i + j, v) ∈ lv_args i vs
  | [], _, _, _, _, h => by simp at h
  | x :: vs, i, hv, j, v, hj => by
    have h1 : ¬ x.category = 2 := by rw [hv x List.mem_cons_self]; decide
    simp only [lv_args, h1, if_false]
    cases j with
    | zero => cases hj; exact List.mem_cons_self
    | succ j =>
      have := lv_args_cat1 vs (i + 1) (fun z hz => hv z (List.mem_cons_of_mem _ hz)) j v (by simpa using hj)
      rw [show i + (j + 1) = i + 1 + j by omega]
      exact List.mem_cons_of_mem _ this
/-- the locals at a method's entry -/
def ent (as : List Value) (nL : Nat) : List (Option Value) := as.map some ++ List.replicate (nL - as.length) none
theorem Lo.entry {ρ : Nat → Nat} {as : List Value} {nL : Nat} (hc : ∀ v ∈ as, v.category = 1) (hl : as.length ≤ nL) : Lo ρ nL (ent as nL) ((lg_sl (as.map (tv ρ)) ++ List.replicate (nL - (lg_sl (as.map (tv ρ))).length) Slot.unset).toArray) := by
  have hc' : ∀ v ∈ as.map (tv ρ), v.category = 1 := fun v hv => by
    obtain ⟨z, hz, rfl⟩ := List.mem_map.mp hv
    rw [tv_cat]; exact hc z hz
  have h1 := lg_sl_cat1 (as.map (tv ρ)) hc'
  obtain ⟨g1, g2, g3⟩ := lv_entry (as.map (tv ρ)) (n := nL) (by rw [h1, List.length_map]; exact hl)
  refine ⟨by simp [ent]; omega, g1, g2, fun i v hi => ?_⟩
  have hi2 : as[i]? = some v := by
    unfold ent at hi
    by_cases hlt : i < as.length
    · rw [List.getElem?_append_left (by simpa using hlt), List.getElem?_map] at hi
      cases hx : as[i]? with
      | none => rw [hx] at hi; cases hi
      | some z => rw [hx] at hi; cases hi; rfl
    · rw [List.getElem?_append_right (by simpa using hlt)] at hi
      have := List.eq_of_mem_replicate (List.mem_of_getElem? hi)
      cases this
  have := lv_args_cat1 (as.map (tv ρ)) 0 hc' i (tv ρ v) (by rw [List.getElem?_map, hi2]; rfl)
  have h3 := g3 _ this
  simpa using h3
theorem wsM_plain {M : MI} (hh : M.2.2.2.2 = []) : wsM M = Cond.code M.1 M.2.1 M.2.2.1 M.2.2.2.1 :: lw_good := by unfold wsM; rw [if_pos hh]
theorem run_of {l : Launch} {d : Nat} {B : Nat × Nat} {M : MI} {as : List Value} {h : Hp} {Q : Option Value → Hp → Prop} {X : String → Hp → Prop} (hpl : plainName M.1.cls = true) (hh : M.2.2.2.2 = []) (hc : ∀ v ∈ as, v.category = 1) (hl : as.length ≤ M.2.2.1)
    (go : Go l (rmOf d B) M (hN h) (Zm B Q X) 0 (ent as M.2.2.1) [] h 0 0) : Run l d B M as h Q X := by
  intro D A ρ cA hRH
  refine vx_ofW (cc := M.2.1) (maxL := M.2.2.1) (ret := M.2.2.2.1) hpl (wsM_plain hh) ?_
  intro p e s m args below meth c s₁ Bd hml ht hP
  obtain ⟨rfl, hWd, hE, hA, hz⟩ := hP
  have hts := atoms_spec (ws := wsM M) Bd.pre
  rw [lg_entry_eq]
  refine go p e s m _ below meth c D A ρ ⟨Bd.exec, Bd.bytes, hml, Bd.returns, findClass_of_methodNamed Bd.named, fun w hw => hts w (by rw [wsM_plain hh]; exact List.mem_cons_of_mem _ hw), Bd.notSynchronized, fun _ => ⟨(name_of_methodNamed Bd.named Bd.method).1, ?_⟩, trivial, hRH, hA, hE, hz⟩ cA s.heap [] _ hWd va_S.rf (Lo.entry hc hl)
  rw [hh]
  cases hx : c.exceptionTable.toList with
  | nil => rfl
  | cons a b => exact (ht a (by rw [hx]; exact List.mem_cons_self)).elim
/-! calls -/
/-- what the tables say of a method that is called -/
def CB (M : MI) (n : Nat) : Prop := M.2.2.2.2 = [] ∧ inG (.code M.1 M.2.1 M.2.2.1 M.2.2.2.1) ∧ inG (.initialized M.1.cls) ∧ (M.1.cls ≠ "java/lang/invoke/MethodHandle" ∧ M.1.cls ≠ "java/lang/invoke/VarHandle") ∧ (parseMethodDescriptor M.1.desc).map (fun d => d.parameters.length) = some n ∧ M.2.2.1 ≤ 21
def CV (M : MI) (n : Nat) : Prop := CB M n ∧ inG (.instanceMethod M.1) ∧ inG (.selects M.1.cls M.1 M.1)
def CS (M : MI) (n : Nat) : Prop := CB M n ∧ inG (.static M.1)
theorem goodW (M : MI) (hh : M.2.2.2.2 = []) (hc : inG (.code M.1 M.2.1 M.2.2.1 M.2.2.2.1)) : GoodIn lw_good (wsM M) := by
  intro w hw
  rw [wsM_plain hh] at hw
  rcases List.mem_cons.mp hw with rfl | hw
  · exact ⟨inG_mem hc, good_of_word hc.2⟩
  · exact ⟨hw, good_of_word (List.mem_filter.mp hw).2⟩
theorem rPc_blind {D : va_G} {A : Nat → Prop} {ρ : Nat → Nat} {cA : Nat → ClassId} {as : List Value} {h : Hp} : FrameBlind (rPc D A ρ cA as h) := fun a U g mk q =>
  ⟨q.1, Wd.moved (u := U) (U := U.calling g mk a) (Vm.Alike.refl U.vm) q.2.1, Ext.warm (u := U) (U := U.calling g mk a) (State.WarmedH.refl U) q.2.2.1, q.2.2.2⟩
section
variable {l : Launch} {R : Room} {M : MI} {n0 : Nat} {Z : ZT} {pc : Nat} {lv : List (Option Value)} {st : List Value} {h : Hp} {u w : Nat}
/-- how large the heap is while cells are made -/
theorem heap_exact {p : Program} {e : Env} {s : State} {m : MethodId} {args : Array Value} {below : List Frame} {meth : Method} {c : Code} {D : va_G} {A : Nat → Prop} {ρ : Nat → Nat} {cA : Nat → ClassId} {H : Heap} {locs : List Loc} {T : State}
    (C : Cx M n0 p s m args meth c A ρ) (hWd : Wd D A ρ cA h s H) (hS : va_S A s.heap H locs) (hT : T.heap = H) (X : Stand p l e R s m args below meth c T locs u w) (hx : hN h < nAll → hN h = n0 + u) : hN h < nAll → H.size = ρ (hN h) := by
  intro hlt
  have e1 := hx hlt
  have e2 := C.2.2.2.2.2.2.2.2.2.2.2.2 (by omega)
  obtain ⟨base, -, hρ⟩ := C.2.2.2.2.2.2.2.2.2.1
  have e3 := X.heapSize
  rw [hT] at e3
  have hn : nAll < 1000 := by decide
  rw [hρ n0 (by omega)] at e2
  rw [hρ (hN h) (by omega)]
  have e4 : base + hN h ≤ H.size := by
    cases hc : hN h with
    | zero => have := hS.1; omega
    | succ k =>
      have h5 := (hWd.2.2.1 k _ (hW_at (ρ := ρ) (cA := cA) (h := h) (a := k) (by omega))).lt
      rw [show ((ρ k, hE ρ cA h k) : Nat × va_E).1 = ρ k from rfl, hρ k (by omega)] at h5
      omega
  omega
theorem callB_ {p : Program} {s : State} {m : MethodId} {args : Array Value} {meth : Method} {c : Code} {A : Nat → Prop} {ρ : Nat → Nat} {M' : MI} {n d' idx : Nat} {B' : Nat × Nat} (C : Cx M n0 p s m args meth c A ρ) (hc : CB M' n) (hl : inG (.methodLink M.1.cls idx M'.1)) (hR1 : d' + 1 ≤ R.frames) (hR2 : 40 * d' + 40 ≤ R.locals) :
    CallB R s args M.1.cls idx M'.1 M'.2.1 M'.2.2.1 M'.2.2.2.1 (wsM M') (rmOf d' B') B'.1 B'.2 n := by
  obtain ⟨c1, c2, c3, c4, c5, c6⟩ := hc
  have hts := C.2.2.2.2.2.1
  refine ⟨rfl, rfl, hR1, ?_, pay_in hts (goodW M' c1 c2), ?_, hts _ (inG_mem c2), hts _ (inG_mem c3), c4, fun sig hs => ?_, hts _ (inG_mem hl)⟩
  · show 8 + (M'.2.2.1 + 11) + 40 * d' ≤ R.locals
    omega
  · rw [wsM_plain c1]; exact List.mem_cons_self
  · rw [hs] at c5
    exact (Option.some.inj c5).symm
/-- behind a call that returned or threw -/
theorem go_run_ {p : Program} {e : Env} {s : State} {m : MethodId} {args : Array Value} {below : List Frame} {meth : Method} {c : Code} {D : va_G} {A : Nat → Prop} {ρ : Nat → Nat} {H : Heap} {locs : List Loc} {ls : Array Slot} {T : State} {B' : Nat × Nat} {Q' : Option Value → Hp → Prop} {X' : String → Hp → Prop} {stk : List Value} {av : Array Value}
    (C : Cx M n0 p s m args meth c A ρ) (hS : va_S A s.heap H locs) (hL : Lo ρ M.2.2.1 lv ls) (hT : T.heap = H) (X : Stand p l e R s m args below meth c T locs u w)
    (hrun : vx_Run p l e R s m args below meth c H locs u w B'.1 B'.2 (F0 m pc ls (stk.map (tv ρ))) (st.map (tv ρ)) (rQc D A ρ Q' av) (rXC D A ρ X') A)
    (kk : ∀ v h', Q' v h' → Go l R M n0 Z (pc + 3) lv (v.toList ++ st) h' (u + B'.1) (w + B'.2))
    (kx : ∀ E h', X' E h' → GoX l R M n0 Z pc lv E h' (u + B'.1) (w + B'.2)) : ∃ t, Steps p.tables e below (T.setTop (F0 m pc ls (stk.map (tv ρ)))) t ∧ Z D A ρ below args s t := by
  rcases hrun T hT X with ⟨v, st₀, t, T', L, h0, X2, hLo, e1, e2, ⟨⟨v', h', cA', ho, hq, hw⟩, hF⟩, stp⟩ | ⟨q, st₀, t, T', L, E, ce, h0, X2, hLo, e1, e2, ⟨⟨h', cA', hq, hw⟩, hF⟩, hce, hcv, hcl, stp⟩
  · cases ho
    obtain ⟨-, -, k3⟩ := vx_keep h0 e1 hS (fun _ _ z => z) (fun _ z => z) hLo hF
    have hvm : t.vm.Alike s.vm := by rw [← e2]; exact X2.warmed.alike.symm
    have hw2 : Wd D A ρ cA' h' s T'.heap := by rw [e1]; exact hw.moved hvm
    obtain ⟨t2, a1, b1⟩ := kk v' h' hq p e s m args below meth c D A ρ C cA' T'.heap (locs ++ L) ls hw2 k3 hL T' rfl X2
    refine ⟨t2, stp t2 ?_, b1⟩
    have he : (v'.toList ++ st).map (tv ρ) = (v'.map (tv ρ)).toList ++ st.map (tv ρ) := by cases v' <;> simp
    rw [he] at a1
    exact a1
  · obtain ⟨-, -, k3⟩ := vx_keep h0 e1 hS (fun _ _ z => z) (fun _ z => z) hLo hF
    have hvm : t.vm.Alike s.vm := by rw [← e2]; exact X2.warmed.alike.symm
    have hw2 : Wd D A ρ cA' h' s T'.heap := by rw [e1]; exact hw.moved hvm
    obtain ⟨t2, a1, b1⟩ := kx E h' hq p e s m args below meth c D A ρ C cA' T'.heap (locs ++ L) ls hw2 k3 hL q ce (st.map (tv ρ)) (by rw [e1]; exact hce) hcv hcl T' rfl X2
    exact ⟨t2, stp.trans a1, b1⟩
theorem pre_ {p : Program} {e : Env} {s : State} {m : MethodId} {args : Array Value} {below : List Frame} {meth : Method} {c : Code} {D : va_G} {A : Nat → Prop} {ρ : Nat → Nat} {cA : Nat → ClassId} {H : Heap} {locs : List Loc} {T : State} {as : List Value}
    (C : Cx M n0 p s m args meth c A ρ) (hWd : Wd D A ρ cA h s H) (hS : va_S A s.heap H locs) (hT : T.heap = H) (X : Stand p l e R s m args below meth c T locs u w) (hx : hN h < nAll → hN h = n0 + u) : ∀ U : State, U.heap = H → s.WarmedH U.vm → rPc D A ρ cA as h (as.map (tv ρ)).toArray U := by
  intro U hU hWm
  refine ⟨rfl, ?_, ?_, ?_, ?_⟩
  · rw [hU]; exact hWd.moved hWm.alike
  · rw [hU]; exact (C.2.2.2.2.2.2.2.2.2.2.2.1.kept hS.2.1).warm hWm
  · intro q hq
    rw [hU] at hq
    exact C.2.2.2.2.2.2.2.2.2.2.1 q (Nat.le_trans hS.1 hq)
  · rw [hU]; exact heap_exact C hWd hS hT X hx
/-- a virtual call -/
theorem go_callV_ {M' : MI} {as : List Value} {a ci idx d' : Nat} {B' : Nat × Nat} {Q' : Option Value → Hp → Prop} {X' : String → Hp → Prop} {stk : List Value} (hd : decode M.2.1 pc = .ok (.invokevirtual idx, 3)) (hl : inG (.methodLink M.1.cls idx M'.1)) (hc : CV M' as.length) (ha : lay a = .inl ci) (hci : ci < 11) (hcl : clR ci = M'.1.cls) (hn : a < hN h)
    (hr : Run l d' B' M' (.ref a :: as) h Q' X') (hstk : stk = as.reverse ++ .ref a :: st) (hst : (st.map (fun v => v.category)).sum ≤ 8) (hR1 : d' + 1 ≤ R.frames) (hR2 : 40 * d' + 40 ≤ R.locals) (hR3 : u + B'.1 ≤ R.cells) (hR4 : w + B'.2 ≤ R.slots) (hx : hN h < nAll → hN h = n0 + u)
    (kk : ∀ v h', Q' v h' → Go l R M n0 Z (pc + 3) lv (v.toList ++ st) h' (u + B'.1) (w + B'.2)) (kx : ∀ E h', X' E h' → GoX l R M n0 Z pc lv E h' (u + B'.1) (w + B'.2)) : Go l R M n0 Z pc lv stk h u w := by
  intro p e s m args below meth c D A ρ C cA H locs ls hWd hS hL T hT X
  have hM := hr D A ρ cA C.2.2.2.2.2.2.2.2.2.1
  have hrun := vx_runV (cc := M.2.1) (nL := M.2.2.1) (Ts := lw_good) (own := M.1.cls) (C := M'.1.cls) (b := ρ a) (As := as.map (tv ρ)) (rest := st.map (tv ρ)) (g := F0 m pc ls (stk.map (tv ρ))) (R := R) (H := H) (locs := locs) (cells := u) (slots := w) (p := p) (e := e) (below := below) (meth := meth)
    ⟨C.1, C.2.1, C.2.2.1, C.2.2.2.2.1, C.2.2.2.2.2.1⟩ hM ⟨callB_ C hc.1 hl hR1 hR2, C.2.2.2.2.2.1 _ (inG_mem hc.2.1), C.2.2.2.2.2.1 _ (inG_mem hc.2.2)⟩
    ⟨rPc_blind, by rw [← hcl]; exact va_recv hWd.1 hWd.2.2.1 (cl_at ci hci) (by rw [hW_at hn, hE_obj ha]), pre_ (as := .ref a :: as) C hWd hS hT X hx⟩
    rfl (by simp) hL.2.1 (by rw [hstk]; simp [tv]) (lv_room (by rw [List.map_map]; simpa [Function.comp_def, tv_cat] using hst)) hd ⟨hR3, hR4⟩
  exact go_run_ C hS hL hT X hrun kk kx
/-- a static call -/
theorem go_callS_ {M' : MI} {as : List Value} {idx d' : Nat} {B' : Nat × Nat} {Q' : Option Value → Hp → Prop} {X' : String → Hp → Prop} {stk : List Value} (hd : decode M.2.1 pc = .ok (.invokestatic idx, 3)) (hl : inG (.methodLink M.1.cls idx M'.1)) (hc : CS M' as.length)
    (hr : Run l d' B' M' as h Q' X') (hstk : stk = as.reverse ++ st) (hst : (st.map (fun v => v.category)).sum ≤ 8) (hR1 : d' + 1 ≤ R.frames) (hR2 : 40 * d' + 40 ≤ R.locals) (hR3 : u + B'.1 ≤ R.cells) (hR4 : w + B'.2 ≤ R.slots) (hx : hN h < nAll → hN h = n0 + u)
    (kk : ∀ v h', Q' v h' → Go l R M n0 Z (pc + 3) lv (v.toList ++ st) h' (u + B'.1) (w + B'.2)) (kx : ∀ E h', X' E h' → GoX l R M n0 Z pc lv E h' (u + B'.1) (w + B'.2)) : Go l R M n0 Z pc lv stk h u w := by
  intro p e s m args below meth c D A ρ C cA H locs ls hWd hS hL T hT X
  have hM := hr D A ρ cA C.2.2.2.2.2.2.2.2.2.1
  have hrun := vx_runS (cc := M.2.1) (nL := M.2.2.1) (Ts := lw_good) (own := M.1.cls) (As := as.map (tv ρ)) (rest := st.map (tv ρ)) (g := F0 m pc ls (stk.map (tv ρ))) (R := R) (H := H) (locs := locs) (cells := u) (slots := w) (p := p) (e := e) (below := below) (meth := meth)
    ⟨C.1, C.2.1, C.2.2.1, C.2.2.2.2.1, C.2.2.2.2.2.1⟩ hM ⟨callB_ C hc.1 hl hR1 hR2, C.2.2.2.2.2.1 _ (inG_mem hc.2)⟩
    ⟨rPc_blind, pre_ (as := as) C hWd hS hT X hx⟩
    rfl (by simp) hL.2.1 (by rw [hstk]; simp) (lv_room (by rw [List.map_map]; simpa [Function.comp_def, tv_cat] using hst)) hd ⟨hR3, hR4⟩
  exact go_run_ C hS hL hT X hrun kk kx
end
