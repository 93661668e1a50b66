/-! the pure heap: ints (fields and elements of int, byte, boolean), references, longs; how many cells there are -/
abbrev Hp : Type := (Nat → Nat → Int32) × (Nat → Nat → Option Nat) × (Nat → Nat → Int64) × Nat
def hI (h : Hp) (a k : Nat) : Int32 := h.1 a k
def hR (h : Hp) (a k : Nat) : Option Nat := h.2.1 a k
def hJ (h : Hp) (a k : Nat) : Int64 := h.2.2.1 a k
def hN (h : Hp) : Nat := h.2.2.2
def up2 {α : Type} (f : Nat → Nat → α) (a k : Nat) (v : α) : Nat → Nat → α := fun a' k' => if a' = a ∧ k' = k then v else f a' k'
def uI (h : Hp) (a k : Nat) (v : Int32) : Hp := (up2 h.1 a k v, h.2)
def uR (h : Hp) (a k : Nat) (v : Option Nat) : Hp := (h.1, up2 h.2.1 a k v, h.2.2)
def uJ (h : Hp) (a k : Nat) (v : Int64) : Hp := (h.1, h.2.1, up2 h.2.2.1 a k v, h.2.2.2)
/-- one cell more, all of it 0 and null -/
def uN (h : Hp) : Hp := (fun a k => if a = hN h then 0 else h.1 a k, fun a k => if a = hN h then none else h.2.1 a k, fun a k => if a = hN h then 0 else h.2.2.1 a k, hN h + 1)
/-- a whole row of ints in a cell -/
def uF (h : Hp) (a : Nat) (f : Nat → Int32) : Hp := (fun a' k' => if a' = a then f k' else h.1 a' k', h.2)
theorem good_word_of {w : Cond} (h : (w.onTables && w.keeps) = true ∨ ∃ ty, w = .arrayClass ty) : goodWord w = true := by
  rcases h with h | ⟨ty, rfl⟩
  · cases w <;> first | rfl | exact h
  · rfl
theorem cl_in : ∀ ci, ci < 11 → ∀ w ∈ u_ws (clR ci) (clT ci) (clN ci), w ∈ lw_good := fun ci h w hw => inG_mem ⟨(cl_in0 ci h w hw).1, good_word_of (cl_in0 ci h w hw).2⟩
/-- a value of the pure heap as the machine has it -/
def tv (ρ : Nat → Nat) : Value → Value
  | .ref a => .ref (ρ a)
  | v => v
def ftOf : Nat → FieldType
  | 0 => .int | 1 => .byte | 2 => .long | _ => .boolean
def hF (ρ : Nat → Nat) (h : Hp) (i ci k : Nat) : Value := match fk ci k with
  | 0 => .int (hI h i k)
  | 1 => .long (hJ h i k)
  | _ => va_rf ((hR h i k).map ρ)
def hE (ρ : Nat → Nat) (cA : Nat → ClassId) (h : Hp) (i : Nat) : va_E := match lay i with
  | .inl ci => .inr (ci, (List.range (clN ci)).map (hF ρ h i ci))
  | .inr (ty, len) => .inl (cA i, len, if ty = 2 then .inr (.inl (hJ h i)) else .inl (hI h i))
def hW (ρ : Nat → Nat) (cA : Nat → ClassId) (h : Hp) : va_W := (List.range (hN h)).map (fun i => (ρ i, hE ρ cA h i))
theorem hW_at {ρ : Nat → Nat} {cA : Nat → ClassId} {h : Hp} {a : Nat} (hn : a < hN h) : (hW ρ cA h)[a]? = some (ρ a, hE ρ cA h a) := by
  simp [hW, hn]
theorem hE_obj {ρ : Nat → Nat} {cA : Nat → ClassId} {h : Hp} {a ci : Nat} (hl : lay a = .inl ci) : hE ρ cA h a = .inr (ci, (List.range (clN ci)).map (hF ρ h a ci)) := by
  simp only [hE, hl]
theorem hE_arr {ρ : Nat → Nat} {cA : Nat → ClassId} {h : Hp} {a ty len : Nat} (hl : lay a = .inr (ty, len)) (ht : ty ≠ 2) : hE ρ cA h a = .inl (cA a, len, .inl (hI h a)) := by
  simp only [hE, hl, if_neg ht]
theorem hE_lng {ρ : Nat → Nat} {cA : Nat → ClassId} {h : Hp} {a len : Nat} (hl : lay a = .inr (2, len)) : hE ρ cA h a = .inl (cA a, len, .inr (.inl (hJ h a))) := by
  simp only [hE, hl, if_true]
/-- another heap that differs at the cell a alone -/
theorem hW_set {ρ : Nat → Nat} {cA : Nat → ClassId} {h h' : Hp} {a : Nat} {x : va_E} (hn : hN h' = hN h) (ha : hE ρ cA h' a = x) (ho : ∀ i, i ≠ a → hE ρ cA h' i = hE ρ cA h i) : (hW ρ cA h).set a (ρ a, x) = hW ρ cA h' := by
  apply List.ext_getElem?
  intro i
  simp only [hW, hn, List.getElem?_set, List.getElem?_map, List.length_map, List.length_range]
  by_cases hi : a = i
  · subst hi
    simp only [if_true]
    by_cases hl : a < hN h
    · simp [hl, ha]
    · simp [hl]
  · rw [if_neg hi]
    by_cases hl : i < hN h
    · simp [hl, ho i (Ne.symm hi)]
    · simp [hl]
theorem hF_uI {ρ : Nat → Nat} {h : Hp} {a k i ci j : Nat} {v : Int32} : hF ρ (uI h a k v) i ci j = if i = a ∧ j = k ∧ fk ci j = 0 then .int v else hF ρ h i ci j := by
  unfold hF
  split
  next q =>
    simp only [hI, uI, up2, q, and_true]
    split <;> rfl
  next q => simp [hJ, uI, q]
  next q1 q2 =>
    rw [if_neg (fun z => q1 z.2.2)]
    rfl
theorem hF_uR {ρ : Nat → Nat} {h : Hp} {a k i ci j : Nat} {v : Option Nat} : hF ρ (uR h a k v) i ci j = if i = a ∧ j = k ∧ fk ci j ≠ 0 ∧ fk ci j ≠ 1 then va_rf (v.map ρ) else hF ρ h i ci j := by
  unfold hF
  split
  next q => simp [hI, uR, q]
  next q => simp [hJ, uR, q]
  next q1 q2 =>
    simp only [hR, uR, up2]
    by_cases hh : i = a ∧ j = k
    · rw [if_pos hh, if_pos ⟨hh.1, hh.2, q1, q2⟩]
    · rw [if_neg hh, if_neg (fun z => hh ⟨z.1, z.2.1⟩)]
theorem hF_uJ {ρ : Nat → Nat} {h : Hp} {a k i ci j : Nat} {v : Int64} : hF ρ (uJ h a k v) i ci j = if i = a ∧ j = k ∧ fk ci j = 1 then .long v else hF ρ h i ci j := by
  unfold hF
  split
  next q => simp [hI, uJ, q]
  next q =>
    simp only [hJ, uJ, up2, q, and_true]
    split <;> rfl
  next q1 q2 =>
    rw [if_neg (fun z => q2 z.2.2)]
    rfl
/-- the fields of an object with one of them put anew -/
theorem fs_set {ρ : Nat → Nat} {h h' : Hp} {a ci k : Nat} {x : Value} (hk : hF ρ h' a ci k = x) (ho : ∀ j, j ≠ k → hF ρ h' a ci j = hF ρ h a ci j) : ((List.range (clN ci)).map (hF ρ h a ci)).set k x = (List.range (clN ci)).map (hF ρ h' a ci) := by
  apply List.ext_getElem?
  intro i
  simp only [List.getElem?_set, List.getElem?_map, List.length_map, List.length_range]
  by_cases hi : k = i
  · subst hi
    by_cases hl : k < clN ci
    · simp [hl, hk]
    · simp [hl]
  · rw [if_neg hi]
    by_cases hl : i < clN ci
    · simp [hl, ho i (Ne.symm hi)]
    · simp [hl]
theorem hE_uI_ne {ρ : Nat → Nat} {cA : Nat → ClassId} {h : Hp} {a k i : Nat} {v : Int32} (hi : i ≠ a) : hE ρ cA (uI h a k v) i = hE ρ cA h i := by
  unfold hE
  have h1 : ∀ ci, hF ρ (uI h a k v) i ci = hF ρ h i ci := fun ci => funext fun j => by rw [hF_uI, if_neg (fun z => hi z.1)]
  have h2 : hI (uI h a k v) i = hI h i := funext fun j => by simp [hI, uI, up2, hi]
  have h3 : hJ (uI h a k v) i = hJ h i := rfl
  split
  · rw [h1]
  · rw [h2, h3]
theorem hE_uR_ne {ρ : Nat → Nat} {cA : Nat → ClassId} {h : Hp} {a k i : Nat} {v : Option Nat} (hi : i ≠ a) : hE ρ cA (uR h a k v) i = hE ρ cA h i := by
  unfold hE
  have h1 : ∀ ci, hF ρ (uR h a k v) i ci = hF ρ h i ci := fun ci => funext fun j => by rw [hF_uR, if_neg (fun z => hi z.1)]
  have h2 : hI (uR h a k v) i = hI h i := rfl
  have h3 : hJ (uR h a k v) i = hJ h i := rfl
  split
  · rw [h1]
  · rw [h2, h3]
theorem hE_uJ_ne {ρ : Nat → Nat} {cA : Nat → ClassId} {h : Hp} {a k i : Nat} {v : Int64} (hi : i ≠ a) : hE ρ cA (uJ h a k v) i = hE ρ cA h i := by
  unfold hE
  have h1 : ∀ ci, hF ρ (uJ h a k v) i ci = hF ρ h i ci := fun ci => funext fun j => by rw [hF_uJ, if_neg (fun z => hi z.1)]
  have h2 : hI (uJ h a k v) i = hI h i := rfl
  have h3 : hJ (uJ h a k v) i = hJ h i := funext fun j => by simp [hJ, uJ, up2, hi]
  split
  · rw [h1]
  · rw [h2, h3]
theorem hE_uF_ne {ρ : Nat → Nat} {cA : Nat → ClassId} {h : Hp} {a i : Nat} {f : Nat → Int32} (hi : i ≠ a) : hE ρ cA (uF h a f) i = hE ρ cA h i := by
  unfold hE
  have h2 : hI (uF h a f) i = hI h i := funext fun j => by simp [hI, uF, hi]
  have h3 : hJ (uF h a f) i = hJ h i := rfl
  have h4 : hR (uF h a f) i = hR h i := rfl
  have h1 : ∀ ci, hF ρ (uF h a f) i ci = hF ρ h i ci := fun ci => funext fun j => by simp only [hF, h2, h3, h4]
  split
  · rw [h1]
  · rw [h2, h3]
/-- the world of a pure heap -/
def Wd (D : va_G) (A : Nat → Prop) (ρ : Nat → Nat) (cA : Nat → ClassId) (h : Hp) (U : State) (H : Heap) : Prop :=
  va_K D vwCl [] U ∧ (∀ i ty len, i < hN h → lay i = .inr (ty, len) → ArrOfT U (cA i) (ftOf ty) ∧ va_RA U (cA i) (ftOf ty)) ∧ va_P D vwCl (hW ρ cA h) H ∧ va_D A (hW ρ cA h)
/-- the cells lie one behind another from base on; what lies ahead of base is never written -/
def RH (A : Nat → Prop) (ρ : Nat → Nat) : Prop := ∃ base : Nat, (∀ q, A q ↔ base ≤ q) ∧ ∀ i, i < 1000 → ρ i = base + i
/-- a method: name, code, how many locals, what it answers, its handlers -/
abbrev MI : Type := MethodName × ByteArray × Nat × Option FieldType × List (Nat × Nat × Nat × Nat)
abbrev exN : List String := ["java/lang/RuntimeException", "java/lang/Exception"]
abbrev nIAE : String := "java/lang/IllegalArgumentException"
abbrev nNSE : String := "java/util/NoSuchElementException"
def exAt (own : String) (ic : Nat) (X : String) : List Cond := vx_at0 own ic X exN
def exFace : List Cond := (exAt RX9 102 nIAE).filter (fun w => !goodWord w) ++ (exAt RX9 237 nNSE).filter (fun w => !goodWord w)
theorem exFace_ok : ∀ w ∈ exFace, w.keepsFace = true ∧ w.onTables = true := by decide +kernel
/-- what stands ahead of the law's cells: statics, texts; words that don't stay by themselves -/
def Ext (A : Nat → Prop) (ρ : Nat → Nat) (U : State) (H : Heap) : Prop :=
  (vx_Zq Bundle.tN "UNASSIGNED_STACK" Bundle.steD A U H ∧ vx_Zq Bundle.tN "SUPPRESSED_SENTINEL" Bundle.listD A U H) ∧ (∀ w ∈ exNest, va_Nw w U) ∧ (va_Z RX3 "BINDING" "[I" (.ref (ρ 1000)) A U H ∧ va_T .int (ρ 1000) 10 (fun j => .int (bndV j)) A U H) ∧
  vk_S 21 strL strB (fun i => ρ (1001 + i)) (fun i => ρ (1101 + i)) A U H ∧ (∀ i, i < 21 → vk_R RX3 (strI.getD i 0) (strT.getD i "") (ρ (1001 + i)) U) ∧ (va_Z "java/lang/String" "COMPACT_STRINGS" "Z" (.int 1) A U H ∧ (va_Z "jdk/internal/util/Preconditions" "SIOOBE_FORMATTER" "Ljava/util/function/BiFunction;" .null A U H ∨ va_Z "jdk/internal/util/Preconditions" "SIOOBE_FORMATTER" "Ljava/util/function/BiFunction;" (.ref (ρ 1200)) A U H)) ∧
  va_Nc "java/lang/IllegalArgumentException" "java/util/NoSuchElementException" U ∧ (∀ w ∈ exFace, va_Nw w U)
theorem Ext.warm {A : Nat → Prop} {ρ : Nat → Nat} {u U : State} {H : Heap} (hW : u.WarmedH U.vm) (h : Ext A ρ u H) : Ext A ρ U H :=
  ⟨⟨h.1.1.moved hW.alike, h.1.2.moved hW.alike⟩, fun w hw => by
    have h1 := h.2.1 w hw
    simp only [exNest, List.mem_cons, List.not_mem_nil, or_false] at hw
    rcases hw with rfl | rfl | rfl | rfl | rfl | rfl | rfl | rfl | rfl <;> exact va_Nw.warmM hW h1, ⟨h.2.2.1.1.moved hW.alike, h.2.2.1.2.moved hW.alike⟩, h.2.2.2.1.moved hW.alike, fun i hi => (h.2.2.2.2.1 i hi).warm hW, ⟨h.2.2.2.2.2.1.1.moved hW.alike, h.2.2.2.2.2.1.2.elim (fun q => Or.inl (q.moved hW.alike)) (fun q => Or.inr (q.moved hW.alike))⟩, h.2.2.2.2.2.2.1.moved hW.alike, fun w hw => va_tabs (exFace_ok w hw).2 (rfl : (u.setVm U.vm).vm = U.vm) (Cond.before_shiftedFace (args := #[]) (State.Shifted.of_warmed hW) _ (exFace_ok w hw).1 (h.2.2.2.2.2.2.2 w hw))⟩
theorem Ext.kept {A : Nat → Prop} {ρ : Nat → Nat} {U : State} {H H1 : Heap} (h : Ext A ρ U H) (hq : ∀ a : Nat, a < H.size → ¬ A a → H1[a]? = H[a]?) : Ext A ρ U H1 :=
  ⟨⟨h.1.1.kept hq, h.1.2.kept hq⟩, h.2.1, ⟨h.2.2.1.1.kept hq, h.2.2.1.2.kept hq⟩, h.2.2.2.1.kept hq, h.2.2.2.2.1, ⟨h.2.2.2.2.2.1.1.kept hq, h.2.2.2.2.2.1.2.elim (fun q => Or.inl (q.kept hq)) (fun q => Or.inr (q.kept hq))⟩, h.2.2.2.2.2.2⟩
theorem Wd.moved {D : va_G} {A : Nat → Prop} {ρ : Nat → Nat} {cA : Nat → ClassId} {h : Hp} {u U : State} {H : Heap} (hvm : u.vm.Alike U.vm) (hw : Wd D A ρ cA h u H) : Wd D A ρ cA h U H :=
  ⟨va_K.moved hvm hw.1, fun i ty len h1 h2 => ⟨arrOfT_moved hvm (hw.2.1 i ty len h1 h2).1, (hw.2.1 i ty len h1 h2).2.moved hvm⟩, hw.2.2⟩
theorem Wd.K {D : va_G} {A : Nat → Prop} {ρ : Nat → Nat} {cA : Nat → ClassId} {h : Hp} {U : State} {H : Heap} (hw : Wd D A ρ cA h U H) {a ty len : Nat} (hn : a < hN h) (hl : lay a = .inr (ty, len)) : va_K D vwCl [(cA a, ftOf ty)] U :=
  ⟨hw.1.1, fun k q hk => by
    cases k with
    | zero => cases hk; exact hw.2.1 a ty len hn hl
    | succ k => cases hk⟩
/-- the locals -/
def Lo (ρ : Nat → Nat) (nL : Nat) (lv : List (Option Value)) (ls : Array Slot) : Prop := lv.length = nL ∧ ls.size = nL ∧ lv_wf ls ∧ ∀ (i : Nat) (v : Value), lv[i]? = some (some v) → ls[i]? = some (.val (tv ρ v))
/-- what holds all along a method's body -/
def Cx (M : MI) (n0 : Nat) (p : Program) (s : State) (m : MethodId) (args : Array Value) (meth : Method) (c : Code) (A : Nat → Prop) (ρ : Nat → Nat) : Prop :=
  p.tables.exec = Jvm.exec ∧ c.code = M.2.1 ∧ c.maxLocals = M.2.2.1 ∧ meth.sig.returnType = M.2.2.2.1 ∧ s.vm.findClass M.1.cls = some m.cls ∧ (∀ w ∈ lw_good, w.before args s = true) ∧ meth.locks = false ∧ (M.1.name ≠ "law" → meth.name = M.1.name ∧ c.exceptionTable.toList = tableOf M.2.2.2.2) ∧ True ∧ RH A ρ ∧ (∀ q, s.heap.size ≤ q → A q) ∧ Ext A ρ s s.heap ∧ (n0 < nAll → s.heap.size = ρ n0)
abbrev ZT : Type := va_G → (Nat → Prop) → (Nat → Nat) → List Frame → Array Value → State → State → Prop
/-- the machine at this instruction, with these locals, this stack and this heap, comes to an end that Z takes; u cells and w slots were made so far -/
def Go (l : Launch) (R : Room) (M : MI) (n0 : Nat) (Z : ZT) (pc : Nat) (lv : List (Option Value)) (st : List Value) (h : Hp) (u w : Nat) : Prop :=
  ∀ (p : Program) (e : Env) (s : State) (m : MethodId) (args : Array Value) (below : List Frame) (meth : Method) (c : Code) (D : va_G) (A : Nat → Prop) (ρ : Nat → Nat), Cx M n0 p s m args meth c A ρ →
  ∀ (cA : Nat → ClassId) (H : Heap) (locs : List Loc) (ls : Array Slot), Wd D A ρ cA h s H → va_S A s.heap H locs → Lo ρ M.2.2.1 lv ls →
    W p l e R s m args below meth c H locs u w (Z D A ρ below args s) (F0 m pc ls (st.map (tv ρ)))
/-- an exception of class E is on its way at this instruction -/
def GoX (l : Launch) (R : Room) (M : MI) (n0 : Nat) (Z : ZT) (pc : Nat) (lv : List (Option Value)) (E : String) (h : Hp) (u w : Nat) : Prop :=
  ∀ (p : Program) (e : Env) (s : State) (m : MethodId) (args : Array Value) (below : List Frame) (meth : Method) (c : Code) (D : va_G) (A : Nat → Prop) (ρ : Nat → Nat), Cx M n0 p s m args meth c A ρ →
  ∀ (cA : Nat → ClassId) (H : Heap) (locs : List Loc) (ls : Array Slot), Wd D A ρ cA h s H → va_S A s.heap H locs → Lo ρ M.2.2.1 lv ls →
  ∀ (q : Addr) (ce : Cell) (rest : List Value), H[q]? = some ce → ce.vm = .none → s.vm.findClass E = some ce.cls →
    vx_W p l e R s m args below meth c H locs u w (Z D A ρ below args s) (F0 m pc ls rest) q
/-- a method's start and its ends -/
def rPc (D : va_G) (A : Nat → Prop) (ρ : Nat → Nat) (cA : Nat → ClassId) (as : List Value) (h : Hp) : Array Value → State → Prop := fun v U =>
  v = (as.map (tv ρ)).toArray ∧ Wd D A ρ cA h U U.heap ∧ Ext A ρ U U.heap ∧ (∀ q, U.heap.size ≤ q → A q) ∧ (hN h < nAll → U.heap.size = ρ (hN h))
def rQc (D : va_G) (A : Nat → Prop) (ρ : Nat → Nat) (Q : Option Value → Hp → Prop) : Array Value → State → Outcome → State → Prop := fun _ st o t =>
  (∃ (v : Option Value) (h : Hp) (cA : Nat → ClassId), o = .returned (v.map (tv ρ)) ∧ Q v h ∧ Wd D A ρ cA h t t.heap) ∧ va_F A st t
def rXC (D : va_G) (A : Nat → Prop) (ρ : Nat → Nat) (X : String → Hp → Prop) : String → State → State → Prop := fun E st t =>
  (∃ (h : Hp) (cA : Nat → ClassId), X E h ∧ Wd D A ρ cA h t t.heap) ∧ va_F A st t
def wsM (M : MI) : List Cond := (if M.2.2.2.2 = [] then Cond.code M.1 M.2.1 M.2.2.1 M.2.2.2.1 else Cond.codeWith M.1 M.2.1 M.2.2.1 M.2.2.2.1 M.2.2.2.2) :: lw_good
def rmOf (d : Nat) (B : Nat × Nat) : Room := { frames := d, cells := B.1, slots := B.2, locals := 40 * d }
def Zm (B : Nat × Nat) (Q : Option Value → Hp → Prop) (X : String → Hp → Prop) : ZT := fun D A ρ below args s => vx_MQ below (rQc D A ρ Q) (rXC D A ρ X) args s B.1 B.2 A
/-- THE CONTRACT: called with these arguments over this heap the method returns v over h' with Q v h', or throws an E over h' with X E h'; at most B cells and slots are made -/
def Run (l : Launch) (d : Nat) (B : Nat × Nat) (M : MI) (as : List Value) (h : Hp) (Q : Option Value → Hp → Prop) (X : String → Hp → Prop) : Prop :=
  ∀ (D : va_G) (A : Nat → Prop) (ρ : Nat → Nat) (cA : Nat → ClassId), RH A ρ → vx_Met l M.1 (wsM M) (rmOf d B) (rPc D A ρ cA as h) (rQc D A ρ Q) (rXC D A ρ X) B.1 B.2 A
abbrev noX : String → Hp → Prop := fun _ _ => False
theorem Lo.at {ρ : Nat → Nat} {nL : Nat} {lv : List (Option Value)} {ls : Array Slot} (h : Lo ρ nL lv ls) {i : Nat} {v : Value} (hi : lv[i]? = some (some v)) : ls[i]? = some (.val (tv ρ v)) := h.2.2.2 i v hi
def nl1 : Option Value → Bool
  | some v => v.category == 1
  | none => true
theorem tv_cat (ρ : Nat → Nat) (v : Value) : (tv ρ v).category = v.category := by cases v <;> rfl
def asc (ρ : Nat → Nat) (lv : List (Option Value)) : List (Nat × Value) := (List.range lv.length).filterMap (fun j => (lv[j]?).join.map (fun v => (j, tv ρ v)))
theorem Lo.has {ρ : Nat → Nat} {nL : Nat} {lv : List (Option Value)} {ls : Array Slot} (h : Lo ρ nL lv ls) : lv_has ls nL (asc ρ lv) := ⟨h.2.1, h.2.2.1, fun q hq => by
  obtain ⟨j, hj, e⟩ := List.mem_filterMap.mp hq
  cases hv : lv[j]? with
  | none => rw [hv] at e; cases e
  | some o =>
    cases o with
    | none => rw [hv] at e; cases e
    | some v => rw [hv] at e; cases e; exact h.2.2.2 j v hv⟩
theorem asc_mem {ρ : Nat → Nat} {lv : List (Option Value)} {j : Nat} {v : Value} (hj : lv[j]? = some (some v)) : (j, tv ρ v) ∈ asc ρ lv :=
  List.mem_filterMap.mpr ⟨j, List.mem_range.mpr (List.getElem?_eq_some_iff.mp hj).1, by rw [hj]; rfl⟩
/-- a local of one slot is stored; the one ahead of it is no long -/
theorem Lo.of1 {ρ : Nat → Nat} {nL : Nat} {lv : List (Option Value)} {ls' : Array Slot} {i : Nat} {x : Value} {y : Option Value} (hl : lv.length = nL) (hi : i < lv.length) (hp : ∀ j v, j + 1 = i → lv[j]? = some (some v) → v.category = 1) (hy : ∀ z, y = some z → tv ρ z = x)
    (g : lv_has ls' nL ((i, x) :: (asc ρ lv).filter (fun q => !(q.1 == i) && !(q.1 + 1 == i && q.2.category == 2)))) : Lo ρ nL (lv.set i y) ls' := by
  obtain ⟨g1, g2, g3⟩ := g
  refine ⟨by rw [List.length_set]; exact hl, g1, g2, fun j v hj => ?_⟩
  rw [List.getElem?_set] at hj
  by_cases hij : i = j
  · subst hij
    rw [if_pos rfl, if_pos hi] at hj
    rw [hy v (Option.some.inj hj)]
    exact g3 (i, x) List.mem_cons_self
  · rw [if_neg hij] at hj
    refine g3 (j, tv ρ v) (List.mem_cons_of_mem _ (List.mem_filter.mpr ⟨asc_mem hj, ?_⟩))
    by_cases hji : j + 1 = i
    · have := hp j v hji hj
      simp [tv_cat, this, Ne.symm hij]
    · simp [hji, Ne.symm hij]
/-- .. of two slots -/
theorem Lo.of2 {ρ : Nat → Nat} {nL : Nat} {lv : List (Option Value)} {ls' : Array Slot} {i : Nat} {x : Value} (hl : lv.length = nL) (hi : i + 1 < lv.length) (hp : ∀ j v, j + 1 = i → lv[j]? = some (some v) → v.category = 1)
    (g : lv_has ls' nL ((i, tv ρ x) :: (asc ρ lv).filter (fun q => !(q.1 == i) && (!(q.1 == i + 1) && !(q.1 + 1 == i && q.2.category == 2))))) : Lo ρ nL ((lv.set i (some x)).set (i + 1) none) ls' := by
  obtain ⟨g1, g2, g3⟩ := g
  refine ⟨by rw [List.length_set, List.length_set]; exact hl, g1, g2, fun j v hj => ?_⟩
  rw [List.getElem?_set] at hj
  by_cases hij : i + 1 = j
  · subst hij
    rw [if_pos rfl, List.length_set, if_pos hi] at hj
    cases hj
  · rw [if_neg hij, List.getElem?_set] at hj
    by_cases hij2 : i = j
    · subst hij2
      rw [if_pos rfl, if_pos (by omega)] at hj
      cases hj
      exact g3 (i, tv ρ x) List.mem_cons_self
    · rw [if_neg hij2] at hj
      refine g3 (j, tv ρ v) (List.mem_cons_of_mem _ (List.mem_filter.mpr ⟨asc_mem hj, ?_⟩))
      by_cases hji : j + 1 = i
      · have := hp j v hji hj
        simp [tv_cat, this, Ne.symm hij, Ne.symm hij2]
      · simp [hji, Ne.symm hij, Ne.symm hij2]
