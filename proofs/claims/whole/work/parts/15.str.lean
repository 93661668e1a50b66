/-! texts, statics -/
section
variable {l : Launch} {R : Room} {M : MI} {n0 : Nat} {Z : ZT} {pc : Nat} {lv : List (Option Value)} {st : List Value} {h : Hp} {u w : Nat}
theorem go_ldcS {idx i : Nat} (hM : M.1.cls = RX3) (hi : i < 21) (hx : strI.getD i 0 = idx) (hd : decode M.2.1 pc = .ok (.ldc idx, 2)) (k : Go l R M n0 Z (pc + 2) lv (.ref (1001 + i) :: st) h u w) : Go l R M n0 Z pc lv st h u w := by
  intro p e s m args below meth c D A ρ C cA H locs ls hWd hS hL
  have ho := C.2.2.2.2.1
  rw [hM] at ho
  have hR := C.2.2.2.2.2.2.2.2.2.2.2.1.2.2.2.2.1 i hi
  rw [hx] at hR
  exact va_ldcS C.1 C.2.1 ho hR hd (k p e s m args below meth c D A ρ C cA H locs ls hWd hS hL)
theorem go_sval {idx i : Nat} (hd : decode M.2.1 pc = .ok (.getfield idx, 3)) (hl : inG (.fieldLink M.1.cls idx "java/lang/String" "value" "[B")) (hi : i < 21) (k : Go l R M n0 Z (pc + 3) lv (.ref (1101 + i) :: st) h u w) : Go l R M n0 Z pc lv (.ref (1001 + i) :: st) h u w := by
  intro p e s m args below meth c D A ρ C cA H locs ls hWd hS hL
  exact vk_getf C.1 C.2.1 (C.2.2.2.2.2.2.2.2.2.2.2.1.2.2.2.1.1 i hi).2.2.1 hS C.2.2.2.2.1 (C.2.2.2.2.2.1 _ (inG_mem hl)) (fun _ q => q) hd (k p e s m args below meth c D A ρ C cA H locs ls hWd hS hL)
theorem go_scod {idx i : Nat} (hd : decode M.2.1 pc = .ok (.getfield idx, 3)) (hl : inG (.fieldLink M.1.cls idx "java/lang/String" "coder" "B")) (hi : i < 21) (k : Go l R M n0 Z (pc + 3) lv (.int 0 :: st) h u w) : Go l R M n0 Z pc lv (.ref (1001 + i) :: st) h u w := by
  intro p e s m args below meth c D A ρ C cA H locs ls hWd hS hL
  exact vk_getf C.1 C.2.1 (C.2.2.2.2.2.2.2.2.2.2.2.1.2.2.2.1.1 i hi).2.1 hS C.2.2.2.2.1 (C.2.2.2.2.2.1 _ (inG_mem hl)) (fun _ q => q) hd (k p e s m args below meth c D A ρ C cA H locs ls hWd hS hL)
theorem go_blen {i : Nat} {v : Int32} (hd : decode M.2.1 pc = .ok (.arraylength, 1)) (hi : i < 21) (hv : Int32.ofNat (strL.getD i 0) = v) (k : Go l R M n0 Z (pc + 1) lv (.int v :: st) h u w) : Go l R M n0 Z pc lv (.ref (1101 + i) :: st) h u w := by
  intro p e s m args below meth c D A ρ C cA H locs ls hWd hS hL
  exact va_tlen C.1 C.2.1 (C.2.2.2.2.2.2.2.2.2.2.2.1.2.2.2.1.1 i hi).2.2.2 hS hv hd (k p e s m args below meth c D A ρ C cA H locs ls hWd hS hL)
theorem go_bbald {i : Nat} {j : Int32} (hd : decode M.2.1 pc = .ok (.baload, 1)) (hi : i < 21) (hj : vp_in j (strL.getD i 0)) (k : Go l R M n0 Z (pc + 1) lv (.int ((strB.getD i []).getD j.toNatClampNeg 0) :: st) h u w) : Go l R M n0 Z pc lv (.int j :: .ref (1101 + i) :: st) h u w := by
  intro p e s m args below meth c D A ρ C cA H locs ls hWd hS hL
  exact va_tb C.1 C.2.1 (C.2.2.2.2.2.2.2.2.2.2.2.1.2.2.2.1.1 i hi).2.2.2 hS hj rfl hd (k p e s m args below meth c D A ρ C cA H locs ls hWd hS hL)
theorem go_cmps {idx : Nat} (hd : decode M.2.1 pc = .ok (.getstatic idx, 3)) (hl : inG (.fieldLink M.1.cls idx "java/lang/String" "COMPACT_STRINGS" "Z")) (k : Go l R M n0 Z (pc + 3) lv (.int 1 :: st) h u w) : Go l R M n0 Z pc lv st h u w := by
  intro p e s m args below meth c D A ρ C cA H locs ls hWd hS hL
  exact va_gets C.1 C.2.1 C.2.2.2.2.2.2.2.2.2.2.2.1.2.2.2.2.2.1.1 hS C.2.2.2.2.1 (C.2.2.2.2.2.1 _ (inG_mem hl)) (fun _ q => q) hd (k p e s m args below meth c D A ρ C cA H locs ls hWd hS hL)
theorem go_fmt {idx : Nat} (hd : decode M.2.1 pc = .ok (.getstatic idx, 3)) (hl : inG (.fieldLink M.1.cls idx "jdk/internal/util/Preconditions" "SIOOBE_FORMATTER" "Ljava/util/function/BiFunction;")) (k : ∀ v, v = .null ∨ v = .ref 1200 → Go l R M n0 Z (pc + 3) lv (v :: st) h u w) : Go l R M n0 Z pc lv st h u w := by
  intro p e s m args below meth c D A ρ C cA H locs ls hWd hS hL
  rcases C.2.2.2.2.2.2.2.2.2.2.2.1.2.2.2.2.2.1.2 with q | q
  · exact va_gets C.1 C.2.1 q hS C.2.2.2.2.1 (C.2.2.2.2.2.1 _ (inG_mem hl)) (fun _ q => q) hd (k .null (Or.inl rfl) p e s m args below meth c D A ρ C cA H locs ls hWd hS hL)
  · exact va_gets C.1 C.2.1 q hS C.2.2.2.2.1 (C.2.2.2.2.2.1 _ (inG_mem hl)) (fun _ q => q) hd (k (.ref 1200) (Or.inr rfl) p e s m args below meth c D A ρ C cA H locs ls hWd hS hL)
theorem go_bnd {idx : Nat} (hd : decode M.2.1 pc = .ok (.getstatic idx, 3)) (hl : inG (.fieldLink M.1.cls idx RX3 "BINDING" "[I")) (k : Go l R M n0 Z (pc + 3) lv (.ref 1000 :: st) h u w) : Go l R M n0 Z pc lv st h u w := by
  intro p e s m args below meth c D A ρ C cA H locs ls hWd hS hL
  exact va_gets C.1 C.2.1 C.2.2.2.2.2.2.2.2.2.2.2.1.2.2.1.1 hS C.2.2.2.2.1 (C.2.2.2.2.2.1 _ (inG_mem hl)) (fun _ q => q) hd (k p e s m args below meth c D A ρ C cA H locs ls hWd hS hL)
theorem go_bndld {j : Int32} (hd : decode M.2.1 pc = .ok (.iaload, 1)) (hj : vp_in j 10) (k : Go l R M n0 Z (pc + 1) lv (.int (bndV j.toNatClampNeg) :: st) h u w) : Go l R M n0 Z pc lv (.int j :: .ref 1000 :: st) h u w := by
  intro p e s m args below meth c D A ρ C cA H locs ls hWd hS hL
  exact va_ti C.1 C.2.1 C.2.2.2.2.2.2.2.2.2.2.2.1.2.2.1.2 hS hj rfl hd (k p e s m args below meth c D A ρ C cA H locs ls hWd hS hL)
/-- a virtual call of a text's method -/
theorem go_callT {M' : MI} (as : List Value) {i idx d : Nat} {B0 : Nat × Nat} {Q' : Option Value → Hp → Prop} {stk : List Value} (hd : decode M.2.1 pc = .ok (.invokevirtual idx, 3)) (hl : inG (.methodLink M.1.cls idx M'.1)) (hc : CV M' as.length) (hi : i < 21) (hcl : M'.1.cls = "java/lang/String") (hS0 : St h)
    (hr : Run l d (0, 0) M' (.ref (1001 + i) :: as) h Q' noX) (hstk : stk = as.reverse ++ .ref (1001 + i) :: st) (hst : (st.map (fun v => v.category)).sum ≤ 8) (hu : u ≤ B0.1) (hw : w ≤ B0.2)
    (kk : ∀ v h', Q' v h' → Go l (rmOf (d + 1) B0) M n0 Z (pc + 3) lv (v.toList ++ st) h' u w) : Go l (rmOf (d + 1) B0) M n0 Z pc lv stk h u w := by
  intro p e s m args below meth c D A ρ C cA H locs ls hWd hS hL T hT X
  have hM := hr D A ρ cA C.2.2.2.2.2.2.2.2.2.1
  have hrun := vx_runV (cc := M.2.1) (nL := M.2.2.1) (Ts := lw_good) (own := M.1.cls) (C := M'.1.cls) (b := ρ (1001 + i)) (As := as.map (tv ρ)) (rest := st.map (tv ρ)) (g := F0 m pc ls (stk.map (tv ρ))) (R := rmOf (d + 1) B0) (H := H) (locs := locs) (cells := u) (slots := w) (p := p) (e := e) (below := below) (meth := meth)
    ⟨C.1, C.2.1, C.2.2.1, C.2.2.2.2.1, C.2.2.2.2.2.1⟩ hM ⟨callB_ C hc.1 hl (Nat.le_refl _) (Nat.le_of_eq (Nat.mul_succ 40 d).symm), C.2.2.2.2.2.1 _ (inG_mem hc.2.1), C.2.2.2.2.2.1 _ (inG_mem hc.2.2)⟩
    ⟨rPc_blind, by rw [hcl]; exact vk_recv (adK := fun i => ρ (1001 + i)) (i := i) C.2.2.2.2.2.2.2.2.2.2.2.1.2.2.2.1 hi hS, pre_ (as := .ref (1001 + i) :: as) C hWd hS hT X (fun q => absurd hS0.1 (Nat.ne_of_lt q))⟩
    rfl (by simp) hL.2.1 (by rw [hstk]; simp [tv]) (lv_room (by rw [List.map_map]; simpa [Function.comp_def, tv_cat] using hst)) hd ⟨hu, hw⟩
  exact go_run_ C hS hL hT X hrun kk (fun _ _ q => q.elim)
/-- a null or a reference that nobody uses may be passed on: the locals -/
theorem go_aload0 {i : Nat} (hd : decode M.2.1 pc = .ok (.aload i, 2)) (v : Value) (hl : lv[i]? = some (some v)) (hv : v = .null ∨ ∃ a, v = .ref a) (k : Go l R M n0 Z (pc + 2) lv (v :: st) h u w) : Go l R M n0 Z pc lv st h u w := by
  intro p e s m args below meth c D A ρ C cA H locs ls hWd hS hL T hT X
  obtain ⟨t, a1, b1⟩ := k p e s m args below meth c D A ρ C cA H locs ls hWd hS hL T hT X
  refine ⟨t, ?_, b1⟩
  have hh := hL.at hl
  rcases hv with rfl | ⟨a, rfl⟩
  · jvm_step X.here [X.here.top, C.1, C.2.1, hd, hh, tv, Value.isRef]
    exact a1
  · jvm_step X.here [X.here.top, C.1, C.2.1, hd, hh, tv, Value.isRef]
    exact a1
end
