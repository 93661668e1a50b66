/-! making cells, constructors -/
theorem cl_def : ∀ ci, ci < 11 → ∀ j, j < clN ci → defaultValue (clY ci j) = (match fk ci j with | 0 => Value.int 0 | 1 => .long 0 | _ => .null) := by
  intro ci h
  match ci, h with
  | 0, _ => decide +kernel
  | 1, _ => decide +kernel
  | 2, _ => decide +kernel
  | 3, _ => decide +kernel
  | 4, _ => decide +kernel
  | 5, _ => decide +kernel
  | 6, _ => decide +kernel
  | 7, _ => decide +kernel
  | 8, _ => decide +kernel
  | 9, _ => decide +kernel
  | 10, _ => decide +kernel
theorem hE_uN_ne {ρ : Nat → Nat} {cA cA' : Nat → ClassId} {h : Hp} {i : Nat} (hi : i ≠ hN h) (hc : cA' i = cA i) : hE ρ cA' (uN h) i = hE ρ cA h i := by
  unfold hE
  have h2 : hI (uN h) i = hI h i := funext fun j => by simp [hI, uN, hi]
  have h3 : hJ (uN h) i = hJ h i := funext fun j => by simp [hJ, uN, hi]
  have h4 : hR (uN h) i = hR h i := funext fun j => by simp [hR, uN, hi]
  have h1 : ∀ ci, hF ρ (uN h) i ci = hF ρ h i ci := fun ci => funext fun j => by simp only [hF, h2, h3, h4]
  split
  · rw [h1]
  · rw [h2, h3, hc]
theorem hW_uN {ρ : Nat → Nat} {cA cA' : Nat → ClassId} {h : Hp} {x : va_E} (hc : ∀ i, i ≠ hN h → cA' i = cA i) (hx : hE ρ cA' (uN h) (hN h) = x) : hW ρ cA h ++ [(ρ (hN h), x)] = hW ρ cA' (uN h) := by
  have hn : hN (uN h) = hN h + 1 := rfl
  simp only [hW, hn, List.range_succ, List.map_append, List.map_cons, List.map_nil, hx]
  congr 1
  apply List.map_congr_left
  intro i hi
  have : i ≠ hN h := Nat.ne_of_lt (List.mem_range.mp hi)
  rw [hE_uN_ne this (hc i this)]
section
variable {l : Launch} {R : Room} {M : MI} {n0 : Nat} {Z : ZT} {pc : Nat} {lv : List (Option Value)} {st : List Value} {h : Hp} {u w : Nat}
/-- where the cell lies that was made -/
theorem made_at {p : Program} {e : Env} {s : State} {m : MethodId} {args : Array Value} {below : List Frame} {meth : Method} {c : Code} {D : va_G} {A : Nat → Prop} {ρ : Nat → Nat} {cA : Nat → ClassId} {H1 : Heap} {locs : List Loc} {T : State} {q n : Nat} {x : va_E}
    (C : Cx M n0 p s m args meth c A ρ) (hlt : hN h < nAll) (hx : hN h = n0 + u) (hT : T.heap = H1) (X : Stand p l e R s m args below meth c T locs (u + 1) n) (hP : va_P D vwCl (hW ρ cA h ++ [(q, x)]) H1) (hD : va_D A (hW ρ cA h ++ [(q, x)])) : q = ρ (hN h) := by
  have e2 := C.2.2.2.2.2.2.2.2.2.2.2.2 (by omega)
  obtain ⟨base, hA, hρ⟩ := C.2.2.2.2.2.2.2.2.2.1
  have e3 := X.heapSize
  rw [hT] at e3
  have hn : nAll < 1000 := by decide
  rw [hρ n0 (by omega)] at e2
  rw [hρ (hN h) (by omega)]
  have hlen : (hW ρ cA h).length = hN h := by simp [hW]
  have hat : (hW ρ cA h ++ [(q, x)])[hN h]? = some (q, x) := by rw [List.getElem?_append_right (by omega), hlen]; simp
  have g1 : q < H1.size := (hP (hN h) _ hat).lt
  have g2 : base ≤ q := (hA q).mp (hD.2 (hN h) _ hat)
  have g3 : ∀ i, i < hN h → q ≠ base + i := fun i hi hq => by
    have h1 : (hW ρ cA h ++ [(q, x)])[i]? = some (ρ i, hE ρ cA h i) := by rw [List.getElem?_append_left (by omega)]; exact hW_at hi
    have := hD.1 (hN h) i _ _ hat h1 (by show q = ρ i; rw [hρ i (by omega)]; exact hq)
    omega
  have g4 : ¬ q < base + hN h := fun z => g3 (q - base) (by omega) (by omega)
  omega
/-- new, of a class of the system -/
theorem go_new {idx ci : Nat} (hd : decode M.2.1 pc = .ok (.new idx, 3)) (hcl : inG (.classLink M.1.cls idx (clR ci))) (hins : inG (.instantiable (clR ci) (clN ci))) (hini : inG (.initialized (clR ci))) (hci : ci < 11) (hlay : lay (hN h) = .inl ci) (hx : hN h = n0 + u) (hR3 : u + 1 ≤ R.cells) (hR4 : w + clN ci ≤ R.slots)
    (k : Go l R M n0 Z (pc + 3) lv (.ref (hN h) :: st) (uN h) (u + 1) (w + clN ci)) : Go l R M n0 Z pc lv st h u w := by
  intro p e s m args below meth c D A ρ C cA H locs ls hWd hS hL
  have hts := C.2.2.2.2.2.1
  have hlt : hN h < nAll := lay_lt (ne_o hci) hlay
  refine va_new (Ts := lw_good) (ci := ci) (C := clR ci) (T := clT ci) (N := clN ci) (fs := (List.range (clN ci)).map (hF ρ (uN h) (hN h) ci)) C.1 C.2.1 hts (cl_in ci hci) (clY ci) (cl_ty ci hci) C.2.2.2.2.1 (hts _ (inG_mem hcl)) (hts _ (inG_mem hins)) (hts _ (inG_mem hini)) hWd.1 hWd.2.2.1 hWd.2.2.2 hS C.2.2.2.2.2.2.2.2.2.2.1 (cl_at ci hci) ?_ hR3 hR4 hd ?_
  · intro j hj
    rw [cl_def ci hci j hj]
    have e1 : hI (uN h) (hN h) j = 0 := by simp [hI, uN]
    have e2 : hJ (uN h) (hN h) j = 0 := by simp [hJ, uN]
    have e3 : hR (uN h) (hN h) j = none := by simp [hR, uN]
    simp only [vp_V, List.getD_eq_getElem?_getD, vp_V_map hj, Option.getD_some, hF, e1, e2, e3]
    rfl
  · intro q H1 hP hD hS1 T hT X
    have hq := made_at C hlt hx hT X hP hD
    subst hq
    have hE1 : hE ρ cA (uN h) (hN h) = .inr (ci, (List.range (clN ci)).map (hF ρ (uN h) (hN h) ci)) := hE_obj hlay
    rw [hW_uN (fun _ _ => rfl) hE1] at hP hD
    refine k p e s m args below meth c D A ρ C cA H1 locs ls ⟨hWd.1, fun i ty len h1 h2 => ?_, hP, hD⟩ hS1 hL T hT X
    have h1' : i < hN h + 1 := h1
    rcases Nat.lt_or_ge i (hN h) with z | z
    · exact hWd.2.1 i ty len z h2
    · have : i = hN h := by omega
      subst this
      rw [hlay] at h2; cases h2
def atOf : Nat → ArrayType
  | 0 => .int | 1 => .byte | 2 => .long | _ => .boolean
theorem go_newa {ty len : Nat} {n : Int32} (hty : ty < 4) (hd : decode M.2.1 pc = .ok (.newarray (atOf ty), 2)) (harr : inG (.arrayClass (ftOf ty))) (hlay : lay (hN h) = .inr (ty, len)) (hn : ¬ n < 0) (hN' : n.toNatClampNeg = len) (hb : len ≤ 65536) (hx : hN h = n0 + u) (hR3 : u + 1 ≤ R.cells) (hR4 : w + len ≤ R.slots)
    (k : Go l R M n0 Z (pc + 2) lv (.ref (hN h) :: st) (uN h) (u + 1) (w + len)) : Go l R M n0 Z pc lv (.int n :: st) h u w := by
  intro p e s m args below meth c D A ρ C cA H locs ls hWd hS hL
  have hts := C.2.2.2.2.2.1
  have hlt : hN h < nAll := lay_lt ne_a hlay
  have ht : newarray.typeOf (atOf ty) = ftOf ty := by
    match ty, hty with
    | 0, _ => rfl
    | 1, _ => rfl
    | 2, _ => rfl
    | 3, _ => rfl
  refine va_newa (atype := atOf ty) (a0 := (len, if ty = 2 then .inr (.inl (hJ (uN h) (hN h))) else .inl (hI (uN h) (hN h)))) (N' := len) C.1 C.2.1 (by rw [ht]; exact hts _ (inG_mem harr)) ht hWd.1 hWd.2.2.1 hWd.2.2.2 hS C.2.2.2.2.2.2.2.2.2.2.1 ?_ hn hN' ?_ hR3 hR4 hd ?_
  · intro cA2
    have e1 : hI (uN h) (hN h) = fun _ => 0 := funext fun j => by simp [hI, uN]
    have e2 : hJ (uN h) (hN h) = fun _ => 0 := funext fun j => by simp [hJ, uN]
    rw [e1, e2]
    match ty, hty with
    | 0, _ => rfl
    | 1, _ => rfl
    | 2, _ => rfl
    | 3, _ => rfl
  · have : componentBytes (ftOf ty) ≤ 8 := by
      match ty, hty with
      | 0, _ => decide
      | 1, _ => decide
      | 2, _ => decide
      | 3, _ => decide
    calc len * componentBytes (ftOf ty) ≤ 65536 * 8 := Nat.mul_le_mul hb this
      _ ≤ 536870912 := by decide
  · intro q cA2 H1 hK1 hP hD hS1 T hT X
    have hq := made_at C hlt hx hT X hP hD
    subst hq
    have hc : ∀ i, i ≠ hN h → (fun i => if i = hN h then cA2 else cA i) i = cA i := fun i hi => if_neg hi
    have hE1 : hE ρ (fun i => if i = hN h then cA2 else cA i) (uN h) (hN h) = .inl (cA2, len, if ty = 2 then .inr (.inl (hJ (uN h) (hN h))) else .inl (hI (uN h) (hN h))) := by simp only [hE, hlay, if_true]
    rw [hW_uN hc hE1] at hP hD
    refine k p e s m args below meth c D A ρ C (fun i => if i = hN h then cA2 else cA i) H1 locs ls ⟨hWd.1, fun i ty2 len2 h1 h2 => ?_, hP, hD⟩ hS1 hL T hT X
    have h1' : i < hN h + 1 := h1
    rcases Nat.lt_or_ge i (hN h) with z | z
    · simp only [if_neg (Nat.ne_of_lt z)]
      exact hWd.2.1 i ty2 len2 z h2
    · have : i = hN h := by omega
      subst this
      rw [hlay] at h2; cases h2
      simp only [if_true]
      exact hK1.2 0 (cA2, ftOf ty) rfl
/-- Object's constructor -/
theorem go_obj {idx a : Nat} (hd : decode M.2.1 pc = .ok (.invokespecial idx, 3)) (hl : inG (.methodLink M.1.cls idx Lib.objectInit)) (hin : inG (.instanceMethod Lib.objectInit)) (hco : inG (.code Lib.objectInit ⟨#[0xb1]⟩ 1 none)) (hst : (st.map (fun v => v.category)).sum ≤ 8) (hR1 : 1 ≤ R.frames) (hR2 : 20 ≤ R.locals) (k : Go l R M n0 Z (pc + 3) lv st h u w) : Go l R M n0 Z pc lv (.ref a :: st) h u w := by
  intro p e s m args below meth c D A ρ C cA H locs ls hWd hS hL
  have hts := C.2.2.2.2.2.1
  refine W.objInit (g := F0 m pc ls (.ref (ρ a) :: st.map (tv ρ))) C.1 C.2.1 C.2.2.2.2.1 (hts _ (inG_mem hl)) (hts _ (inG_mem hin)) (hts _ (inG_mem hco)) rfl (by rw [C.2.2.1]; exact hL.2.1) rfl hd hR1 ?_ (k p e s m args below meth c D A ρ C cA H locs ls hWd hS hL)
  have h1 := lv_room (m := m) (pc := pc) (ls := ls) (rest := .ref (ρ a) :: st.map (tv ρ)) (st := st.map (tv ρ)) (by rw [List.map_map]; simpa [Function.comp_def, tv_cat] using hst)
  omega
theorem met_of {d' : Nat} {B' : Nat × Nat} {M' : MI} {as : List Value} {Q' : Option Value → Hp → Prop} (hr : Run l d' B' M' as h Q' noX) {D : va_G} {A : Nat → Prop} {ρ : Nat → Nat} {cA : Nat → ClassId} (hRH : RH A ρ) : Met l M'.1 (wsM M') (rmOf d' B') (rPc D A ρ cA as h) (rQc D A ρ Q') B'.1 B'.2 A := by
  refine MetFree.mono (hr D A ρ cA hRH) (fun _ _ q => q) (fun _ _ _ _ _ q => q) ?_
  intro a st o t hPc hQ
  rcases hQ with hQ | ⟨q, e1, E, ce, L, ⟨⟨h', cA', g1, g2⟩, g3⟩, g4⟩
  · exact hQ
  · exact g1.elim
theorem vx_of_va {p : Program} {e : Env} {s : State} {m : MethodId} {args : Array Value} {below : List Frame} {meth : Method} {c : Code} {H : Heap} {locs : List Loc} {mc ms : Nat} {g : JFrame} {rest : List Value} {Qa : State → Outcome → State → Prop} {XC : String → State → State → Prop} {free : Addr → Prop}
    (hr : va_Run p l e R s m args below meth c H locs u w mc ms g rest Qa free) : vx_Run p l e R s m args below meth c H locs u w mc ms g rest Qa XC free := fun T hT X => Or.inl (hr T hT X)
/-- a constructor of another class, by a public link -/
theorem go_callI_ {M' : MI} {a idx d' : Nat} {B' : Nat × Nat} {Q' : Option Value → Hp → Prop} (hd : decode M.2.1 pc = .ok (.invokespecial idx, 3)) (hl : inG (.methodLink M.1.cls idx M'.1)) (hc : CB M' 0) (hnm : M'.1.name = "<init>") (hin : inG (.instanceMethod M'.1)) (hret : M'.2.2.2.1 = none)
    (hr : Run l d' B' M' [.ref a] h Q' noX) (hst : (st.map (fun v => v.category)).sum ≤ 8) (hR1 : d' + 1 ≤ R.frames) (hR2 : 40 * d' + 40 ≤ R.locals) (hR3 : u + B'.1 ≤ R.cells) (hR4 : w + B'.2 ≤ R.slots) (hx : hN h < nAll → hN h = n0 + u)
    (kk : ∀ v h', Q' v h' → Go l R M n0 Z (pc + 3) lv (v.toList ++ st) h' (u + B'.1) (w + B'.2)) : Go l R M n0 Z pc lv (.ref a :: st) h u w := by
  intro p e s m args below meth c D A ρ C cA H locs ls hWd hS hL T hT X
  have hM := met_of hr (D := D) (A := A) (ρ := ρ) (cA := cA) C.2.2.2.2.2.2.2.2.2.1
  have hcb : CallB R s args M.1.cls idx M'.1 M'.2.1 M'.2.2.1 none (wsM M') (rmOf d' B') B'.1 B'.2 0 := by rw [← hret]; exact callB_ C hc hl hR1 hR2
  have hrun := va_runI (cc := M.2.1) (nL := M.2.2.1) (Ts := lw_good) (own := M.1.cls) (b := ρ a) (As := []) (rest := st.map (tv ρ)) (g := F0 m pc ls ((.ref a :: st).map (tv ρ))) (R := R) (H := H) (locs := locs) (cells := u) (slots := w) (p := p) (e := e) (below := below) (meth := meth)
    ⟨C.1, C.2.1, C.2.2.1, C.2.2.2.2.1, C.2.2.2.2.2.1⟩ hM ⟨hcb, hnm, C.2.2.2.2.2.1 _ (inG_mem hin)⟩
    ⟨rPc_blind, pre_ (as := [.ref a]) C hWd hS hT X hx⟩
    rfl rfl hL.2.1 rfl (lv_room (by rw [List.map_map]; simpa [Function.comp_def, tv_cat] using hst)) hd ⟨hR3, hR4⟩
  exact go_run_ (X' := noX) (st := st) C hS hL hT X (vx_of_va hrun) kk (fun _ _ q => q.elim)
/-- .. a private one of a nest mate -/
theorem go_callIN_ {M' : MI} {a idx d' : Nat} {host : String} {B' : Nat × Nat} {Q' : Option Value → Hp → Prop} (hd : decode M.2.1 pc = .ok (.invokespecial idx, 3)) (hl : Cond.methodLinkNest M.1.cls idx M'.1 host ∈ exNest) (hc : CB M' 0) (hnm : M'.1.name = "<init>") (hin : inG (.instanceMethod M'.1)) (hret : M'.2.2.2.1 = none)
    (hr : Run l d' B' M' [.ref a] h Q' noX) (hst : (st.map (fun v => v.category)).sum ≤ 8) (hR1 : d' + 1 ≤ R.frames) (hR2 : 40 * d' + 40 ≤ R.locals) (hR3 : u + B'.1 ≤ R.cells) (hR4 : w + B'.2 ≤ R.slots) (hx : hN h < nAll → hN h = n0 + u)
    (kk : ∀ v h', Q' v h' → Go l R M n0 Z (pc + 3) lv (v.toList ++ st) h' (u + B'.1) (w + B'.2)) : Go l R M n0 Z pc lv (.ref a :: st) h u w := by
  intro p e s m args below meth c D A ρ C cA H locs ls hWd hS hL T hT X
  have hM := met_of hr (D := D) (A := A) (ρ := ρ) (cA := cA) C.2.2.2.2.2.2.2.2.2.1
  have hts := C.2.2.2.2.2.1
  obtain ⟨c1, c2, c3, c4, c5, c6⟩ := hc
  have hcn : va_CN R s args M.1.cls idx M'.1 host M'.2.1 M'.2.2.1 none (wsM M') (rmOf d' B') B'.1 B'.2 0 := by
    rw [← hret]
    refine ⟨⟨rfl, rfl, hR1, ?_, pay_in hts (goodW M' c1 c2), ?_⟩, hts _ (inG_mem c2), hts _ (inG_mem c3), c4, fun sig hs => ?_, (C.2.2.2.2.2.2.2.2.2.2.2.1.2.1 _ hl).use rfl⟩
    · show 8 + (M'.2.2.1 + 11) + 40 * d' ≤ R.locals
      omega
    · rw [wsM_plain c1]; exact List.mem_cons_self
    · rw [hs] at c5
      exact (Option.some.inj c5).symm
  have hrun := va_runIN (cc := M.2.1) (nL := M.2.2.1) (Ts := lw_good) (own := M.1.cls) (host := host) (b := ρ a) (As := []) (rest := st.map (tv ρ)) (g := F0 m pc ls ((.ref a :: st).map (tv ρ))) (R := R) (H := H) (locs := locs) (cells := u) (slots := w) (p := p) (e := e) (below := below) (meth := meth)
    ⟨C.1, C.2.1, C.2.2.1, C.2.2.2.2.1, C.2.2.2.2.2.1⟩ hM ⟨hcn, hnm, C.2.2.2.2.2.1 _ (inG_mem hin)⟩
    ⟨rPc_blind, pre_ (as := [.ref a]) C hWd hS hT X hx⟩
    rfl rfl hL.2.1 rfl (lv_room (by rw [List.map_map]; simpa [Function.comp_def, tv_cat] using hst)) hd ⟨hR3, hR4⟩
  exact go_run_ (X' := noX) (st := st) C hS hL hT X (vx_of_va hrun) kk (fun _ _ q => q.elim)
end
