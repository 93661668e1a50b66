/-! methods with handlers (the law's helpers), the law's script and its end -/
theorem wsM_with {M : MI} (hh : M.2.2.2.2 ≠ []) : wsM M = Cond.codeWith M.1 M.2.1 M.2.2.1 M.2.2.2.1 M.2.2.2.2 :: lw_good := by unfold wsM; rw [if_neg hh]
theorem run_ofH {l : Launch} {d : Nat} {B : Nat × Nat} {M : MI} {as : List Value} {h : Hp} {Q : Option Value → Hp → Prop} {X : String → Hp → Prop} (hpl : plainName M.1.cls = true) (hh : M.2.2.2.2 ≠ []) (hc : (as.all fun v => v.category == 1) = true) (hl : as.length ≤ M.2.2.1) {lv : List (Option Value)} (hlv : ent as M.2.2.1 = lv)
    (go : Go l (rmOf d B) M (hN h) (Zm B Q X) 0 lv [] h 0 0) : Run l d B M as h Q X := by
  subst hlv
  intro D A ρ cA hRH
  refine vx_ofWH (cc := M.2.1) (maxL := M.2.2.1) (ret := M.2.2.2.1) (hh := M.2.2.2.2) hpl (wsM_with hh) ?_
  intro p e s m args below meth c s₁ Bd hml hP
  obtain ⟨rfl, hWd, hE, hA, hz⟩ := hP
  have hts := atoms_spec (ws := wsM M) Bd.pre
  rw [lg_entry_eq]
  refine go p e s m _ below meth c D A ρ ⟨Bd.exec, Bd.bytes, hml, Bd.returns, findClass_of_methodNamed Bd.named, fun w hw => hts w (by rw [wsM_with hh]; exact List.mem_cons_of_mem _ hw), Bd.notSynchronized, fun _ => ⟨(name_of_methodNamed Bd.named Bd.method).1, ?_⟩, trivial, hRH, hA, hE, hz⟩ cA s.heap [] _ hWd va_S.rf (Lo.entry (fun v hv => by have := List.all_eq_true.mp hc v hv; simpa using this) hl)
  exact vx_table (x := M.1) Bd (hts _ (by rw [wsM_with hh]; exact List.mem_cons_self))
/-- what the tables say of a helper -/
def CH (M : MI) (n : Nat) : Prop := M.2.2.2.2 ≠ [] ∧ inG (.codeWith M.1 M.2.1 M.2.2.1 M.2.2.2.1 M.2.2.2.2) ∧ inG (.initialized M.1.cls) ∧ (M.1.cls ≠ "java/lang/invoke/MethodHandle" ∧ M.1.cls ≠ "java/lang/invoke/VarHandle") ∧ (parseMethodDescriptor M.1.desc).map (fun d => d.parameters.length) = some n ∧ M.2.2.1 ≤ 21 ∧ inG (.static M.1)
section
variable {l : Launch} {R : Room} {M : MI} {n0 : Nat} {Z : ZT} {pc : Nat} {lv : List (Option Value)} {st : List Value} {h : Hp} {u w : Nat}
theorem go_callSH {M' : MI} {as : List Value} {idx d' : Nat} {B' : Nat × Nat} {Q' : Option Value → Hp → Prop} {X' : String → Hp → Prop} {stk : List Value} (hd : decode M.2.1 pc = .ok (.invokestatic idx, 3)) (hl : inG (.methodLink M.1.cls idx M'.1)) (hc : CH M' as.length)
    (hr : Run l d' B' M' as h Q' X') (hstk : stk = as.reverse ++ st) (hst : (st.map (fun v => v.category)).sum ≤ 8) (hR1 : d' + 1 ≤ R.frames) (hR2 : 40 * d' + 40 ≤ R.locals) (hR3 : u + B'.1 ≤ R.cells) (hR4 : w + B'.2 ≤ R.slots) (hx : hN h < nAll → hN h = n0 + u)
    (kk : ∀ v h', Q' v h' → Go l R M n0 Z (pc + 3) lv (v.toList ++ st) h' (u + B'.1) (w + B'.2)) (kx : ∀ E h', X' E h' → GoX l R M n0 Z pc lv E h' (u + B'.1) (w + B'.2)) : Go l R M n0 Z pc lv stk h u w := by
  intro p e s m args below meth c D A ρ C cA H locs ls hWd hS hL T hT X
  have hM := hr D A ρ cA C.2.2.2.2.2.2.2.2.2.1
  have hts := C.2.2.2.2.2.1
  obtain ⟨c1, c2, c3, c4, c5, c6, c7⟩ := hc
  have hG : GoodIn lw_good (wsM M') := by
    intro w hw
    rw [wsM_with c1] at hw
    rcases List.mem_cons.mp hw with rfl | hw
    · exact ⟨inG_mem c2, good_of_word c2.2⟩
    · exact ⟨hw, good_of_word (List.mem_filter.mp hw).2⟩
  have hcs : vx_CSW R s args M.1.cls idx M'.1 M'.2.1 M'.2.2.1 M'.2.2.2.1 M'.2.2.2.2 (wsM M') (rmOf d' B') B'.1 B'.2 as.length := by
    refine ⟨⟨rfl, rfl, hR1, ?_, pay_in hts hG, ?_⟩, hts _ (inG_mem c2), hts _ (inG_mem c3), c4, fun sig hs => ?_, hts _ (inG_mem hl), hts _ (inG_mem c7)⟩
    · show 8 + (M'.2.2.1 + 11) + 40 * d' ≤ R.locals
      omega
    · rw [wsM_with c1]; exact List.mem_cons_self
    · rw [hs] at c5
      exact (Option.some.inj c5).symm
  have hrun := vx_runSX (cc := M.2.1) (nL := M.2.2.1) (Ts := lw_good) (own := M.1.cls) (As := as.map (tv ρ)) (rest := st.map (tv ρ)) (g := F0 m pc ls (stk.map (tv ρ))) (R := R) (H := H) (locs := locs) (cells := u) (slots := w) (p := p) (e := e) (below := below) (meth := meth)
    ⟨C.1, C.2.1, C.2.2.1, C.2.2.2.2.1, C.2.2.2.2.2.1⟩ hM hcs ⟨rPc_blind, pre_ (as := as) C hWd hS hT X hx⟩
    rfl (by simp) hL.2.1 (by rw [hstk]; simp) (lv_room (by rw [List.map_map]; simpa [Function.comp_def, tv_cat] using hst)) hd ⟨hR3, hR4⟩
  exact go_run_ C hS hL hT X hrun kk kx
/-- the law's script: L ints xs, at the cell that the pure number 1300 stands for -/
def scF (L : Nat) (xs : Nat → Int32) (A : Nat → Prop) (ρ : Nat → Nat) (s : State) : Prop := va_X (ρ 1300) L xs s s.heap ∧ ρ 1300 < s.heap.size ∧ ¬ A (ρ 1300)
/-- an end that is owed only over such a script -/
def Zl (L : Nat) (xs : Nat → Int32) (Z : ZT) : ZT := fun D A ρ below args s t => scF L xs A ρ s → Z D A ρ below args s t
theorem go_slen {L : Nat} {xs : Nat → Int32} (hd : decode M.2.1 pc = .ok (.arraylength, 1)) (k : Go l R M n0 (Zl L xs Z) (pc + 1) lv (.int (Int32.ofNat L) :: st) h u w) : Go l R M n0 (Zl L xs Z) pc lv (.ref 1300 :: st) h u w := by
  intro p e s m args below meth c D A ρ C cA H locs ls hWd hS hL
  by_cases hq : scF L xs A ρ s
  · exact va_slen C.1 C.2.1 hq.1 hq.2.1 hq.2.2 hS hd (k p e s m args below meth c D A ρ C cA H locs ls hWd hS hL)
  · exact fun T _ _ => ⟨_, Steps.refl _, fun z => absurd z hq⟩
theorem go_sld {L : Nat} {xs : Nat → Int32} {i : Int32} (hd : decode M.2.1 pc = .ok (.iaload, 1)) (hi : vp_in i L) (k : Go l R M n0 (Zl L xs Z) (pc + 1) lv (.int (xs i.toNatClampNeg) :: st) h u w) : Go l R M n0 (Zl L xs Z) pc lv (.int i :: .ref 1300 :: st) h u w := by
  intro p e s m args below meth c D A ρ C cA H locs ls hWd hS hL
  by_cases hq : scF L xs A ρ s
  · exact va_sld C.1 C.2.1 hq.1 hq.2.1 hq.2.2 hS hi hd (k p e s m args below meth c D A ρ C cA H locs ls hWd hS hL)
  · exact fun T _ _ => ⟨_, Steps.refl _, fun z => absurd z hq⟩
end
