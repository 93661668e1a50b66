/-- a field's link: own's entry idx is the field k of the class ci -/
def FL (own : String) (idx ci k : Nat) : Prop := ci < 11 ∧ k < clN ci ∧ inG (.fieldLink own idx (clT ci k).1 (clT ci k).2.1 (clT ci k).2.2.1)
theorem vp_V_map {n : Nat} {f : Nat → Value} {k : Nat} (hk : k < n) : ((List.range n).map f)[k]? = some (f k) := by simp [hk]
theorem hF0 {ρ : Nat → Nat} {h : Hp} {a ci k : Nat} (hk : fk ci k = 0) : hF ρ h a ci k = .int (hI h a k) := by simp only [hF, hk]
theorem hF1 {ρ : Nat → Nat} {h : Hp} {a ci k : Nat} (hk : fk ci k = 1) : hF ρ h a ci k = .long (hJ h a k) := by simp only [hF, hk]
theorem hF2 {ρ : Nat → Nat} {h : Hp} {a ci k : Nat} (hk : fk ci k = 2) : hF ρ h a ci k = va_rf ((hR h a k).map ρ) := by simp only [hF, hk]
section
variable {l : Launch} {R : Room} {M : MI} {n0 : Nat} {Z : ZT} {pc : Nat} {lv : List (Option Value)} {st : List Value} {h : Hp} {u w : Nat}
theorem go_get_ {idx ci k a : Nat} {v : Value} (hd : decode M.2.1 pc = .ok (.getfield idx, 3)) (hf : FL M.1.cls idx ci k) (ha : lay a = .inl ci) (hn : a < hN h) (hv : ∀ ρ, hF ρ h a ci k = tv ρ v) (kk : Go l R M n0 Z (pc + 3) lv (v :: st) h u w) : Go l R M n0 Z pc lv (.ref a :: st) h u w := by
  intro p e s m args below meth c D A ρ C cA H locs ls hWd hS hL
  exact va_get (Ts := lw_good) (ci := ci) (C := clR ci) (T := clT ci) (N := clN ci) C.1 C.2.1 C.2.2.2.2.2.1 (cl_in ci hf.1) C.2.2.2.2.1 hWd.1 hWd.2.2.1 a (by rw [hW_at hn, hE_obj ha]) (cl_at ci hf.1) k hf.2.1 (C.2.2.2.2.2.1 _ (inG_mem hf.2.2)) (fun _ q => q) (by rw [vp_V_map hf.2.1, hv ρ]) hd (kk p e s m args below meth c D A ρ C cA H locs ls hWd hS hL)
/-- getfield of an int, a boolean -/
theorem go_getI {idx ci k a : Nat} (hd : decode M.2.1 pc = .ok (.getfield idx, 3)) (hf : FL M.1.cls idx ci k) (hk : fk ci k = 0) (ha : lay a = .inl ci) (hn : a < hN h) (kk : Go l R M n0 Z (pc + 3) lv (.int (hI h a k) :: st) h u w) : Go l R M n0 Z pc lv (.ref a :: st) h u w :=
  go_get_ hd hf ha hn (fun _ => hF0 hk) kk
theorem go_getJ {idx ci k a : Nat} (hd : decode M.2.1 pc = .ok (.getfield idx, 3)) (hf : FL M.1.cls idx ci k) (hk : fk ci k = 1) (ha : lay a = .inl ci) (hn : a < hN h) (kk : Go l R M n0 Z (pc + 3) lv (.long (hJ h a k) :: st) h u w) : Go l R M n0 Z pc lv (.ref a :: st) h u w :=
  go_get_ hd hf ha hn (fun _ => hF1 hk) kk
theorem go_getR {idx ci k a b : Nat} (hd : decode M.2.1 pc = .ok (.getfield idx, 3)) (hf : FL M.1.cls idx ci k) (hk : fk ci k = 2) (ha : lay a = .inl ci) (hn : a < hN h) (hb : hR h a k = some b) (kk : Go l R M n0 Z (pc + 3) lv (.ref b :: st) h u w) : Go l R M n0 Z pc lv (.ref a :: st) h u w :=
  go_get_ hd hf ha hn (fun _ => by rw [hF2 hk, hb]; rfl) kk
theorem Wd.put {D : va_G} {A : Nat → Prop} {ρ : Nat → Nat} {cA : Nat → ClassId} {h h' : Hp} {U : State} {H H1 : Heap} (hw : Wd D A ρ cA h U H) (hn : hN h' = hN h) {a : Nat} {x : va_E} (ha : hE ρ cA h' a = x) (ho : ∀ i, i ≠ a → hE ρ cA h' i = hE ρ cA h i)
    (hP : va_P D vwCl ((hW ρ cA h).set a (ρ a, x)) H1) (hD : va_D A ((hW ρ cA h).set a (ρ a, x))) : Wd D A ρ cA h' U H1 := by
  rw [hW_set hn ha ho] at hP hD
  exact ⟨hw.1, fun i ty len h1 h2 => hw.2.1 i ty len (by rw [← hn]; exact h1) h2, hP, hD⟩
theorem go_put_ {idx ci k a : Nat} {v : Value} {h' : Hp} (hd : decode M.2.1 pc = .ok (.putfield idx, 3)) (hf : FL M.1.cls idx ci k) (hfin : (clT ci k).2.2.2 = false) (ha : lay a = .inl ci) (hn : a < hN h) (hN' : hN h' = hN h) (ho : ∀ ρ cA i, i ≠ a → hE ρ cA h' i = hE ρ cA h i)
    (hv : ∀ ρ, hF ρ h' a ci k = tv ρ v) (hj : ∀ ρ j, j ≠ k → hF ρ h' a ci j = hF ρ h a ci j) (hna : ∀ ρ, narrow (clY ci k) (tv ρ v) = tv ρ v) (hfit : ∀ ρ, fits (clY ci k) (tv ρ v) = true) (kk : Go l R M n0 Z (pc + 3) lv st h' u w) : Go l R M n0 Z pc lv (v :: .ref a :: st) h u w := by
  intro p e s m args below meth c D A ρ C cA H locs ls hWd hS hL
  refine va_put (Ts := lw_good) (ci := ci) (C := clR ci) (T := clT ci) (N := clN ci) (ty := clY ci k) C.1 C.2.1 C.2.2.2.2.2.1 (cl_in ci hf.1) (clY ci) (cl_ty ci hf.1) (cl_nm ci hf.1) C.2.2.2.2.1 hWd.1 hWd.2.2.1 hWd.2.2.2 hS a (by rw [hW_at hn, hE_obj ha]) (cl_at ci hf.1) k hf.2.1 (C.2.2.2.2.2.1 _ (inG_mem hf.2.2)) (fun _ q => q) hfin (cl_ty ci hf.1 k hf.2.1) (hna ρ) (hfit ρ) (by simp; exact hf.2.1) hd (fun H1 locs1 hP hD hS1 => ?_)
  exact kk p e s m args below meth c D A ρ C cA H1 locs1 ls (hWd.put hN' (by rw [hE_obj ha, fs_set (hv ρ) (hj ρ)]) (ho ρ cA) hP hD) hS1 hL
/-- .. of a final one, in a constructor -/
theorem go_putF_ {idx ci k a : Nat} {v : Value} {h' : Hp} (hd : decode M.2.1 pc = .ok (.putfield idx, 3)) (hf : FL M.1.cls idx ci k) (hfin : (clT ci k).2.2.2 = true) (hdecl : (clT ci k).1 = M.1.cls) (hini : M.1.name = "<init>") (ha : lay a = .inl ci) (hn : a < hN h) (hN' : hN h' = hN h) (ho : ∀ ρ cA i, i ≠ a → hE ρ cA h' i = hE ρ cA h i)
    (hv : ∀ ρ, hF ρ h' a ci k = tv ρ v) (hj : ∀ ρ j, j ≠ k → hF ρ h' a ci j = hF ρ h a ci j) (hna : ∀ ρ, narrow (clY ci k) (tv ρ v) = tv ρ v) (hfit : ∀ ρ, fits (clY ci k) (tv ρ v) = true) (kk : Go l R M n0 Z (pc + 3) lv st h' u w) : Go l R M n0 Z pc lv (v :: .ref a :: st) h u w := by
  intro p e s m args below meth c D A ρ C cA H locs ls hWd hS hL
  refine va_putF (Ts := lw_good) (ci := ci) (C := clR ci) (T := clT ci) (N := clN ci) (ty := clY ci k) C.1 C.2.1 C.2.2.2.2.2.1 (cl_in ci hf.1) (clY ci) (cl_ty ci hf.1) (cl_nm ci hf.1) C.2.2.2.2.1 hWd.1 hWd.2.2.1 hWd.2.2.2 hS a (by rw [hW_at hn, hE_obj ha]) (cl_at ci hf.1) k hf.2.1 (C.2.2.2.2.2.1 _ (inG_mem hf.2.2)) (fun _ q => q) hfin (by rw [(C.2.2.2.2.2.2.2.1 (by rw [hini]; decide)).1, hini]) hdecl (cl_ty ci hf.1 k hf.2.1) (hna ρ) (hfit ρ) (by simp; exact hf.2.1) hd (fun H1 locs1 hP hD hS1 => ?_)
  exact kk p e s m args below meth c D A ρ C cA H1 locs1 ls (hWd.put hN' (by rw [hE_obj ha, fs_set (hv ρ) (hj ρ)]) (ho ρ cA) hP hD) hS1 hL
theorem go_putI {idx ci k a : Nat} {v : Int32} (hd : decode M.2.1 pc = .ok (.putfield idx, 3)) (hf : FL M.1.cls idx ci k) (hk : clY ci k = .int) (hfin : (clT ci k).2.2.2 = false) (ha : lay a = .inl ci) (hn : a < hN h) (kk : Go l R M n0 Z (pc + 3) lv st (uI h a k v) u w) : Go l R M n0 Z pc lv (.int v :: .ref a :: st) h u w :=
  go_put_ (h' := uI h a k v) hd hf hfin ha hn rfl (fun _ _ _ q => hE_uI_ne q) (fun ρ => by rw [hF_uI, if_pos ⟨rfl, rfl, by rw [fk, hk]; rfl⟩]; rfl) (fun ρ j q => by rw [hF_uI, if_neg (fun z => q z.2.1)]) (fun ρ => by rw [hk]; rfl) (fun ρ => by rw [hk]; rfl) kk
theorem go_putZ {idx ci k a : Nat} {v : Int32} (hd : decode M.2.1 pc = .ok (.putfield idx, 3)) (hf : FL M.1.cls idx ci k) (hk : clY ci k = .boolean) (hfin : (clT ci k).2.2.2 = false) (ha : lay a = .inl ci) (hn : a < hN h) (h01 : v = 0 ∨ v = 1) (kk : Go l R M n0 Z (pc + 3) lv st (uI h a k v) u w) : Go l R M n0 Z pc lv (.int v :: .ref a :: st) h u w :=
  go_put_ (h' := uI h a k v) hd hf hfin ha hn rfl (fun _ _ _ q => hE_uI_ne q) (fun ρ => by rw [hF_uI, if_pos ⟨rfl, rfl, by rw [fk, hk]; rfl⟩]; rfl) (fun ρ j q => by rw [hF_uI, if_neg (fun z => q z.2.1)]) (fun ρ => by rw [hk]; rcases h01 with rfl | rfl <;> rfl) (fun ρ => by rw [hk]; rcases h01 with rfl | rfl <;> rfl) kk
theorem go_putJ {idx ci k a : Nat} {v : Int64} (hd : decode M.2.1 pc = .ok (.putfield idx, 3)) (hf : FL M.1.cls idx ci k) (hk : clY ci k = .long) (hfin : (clT ci k).2.2.2 = false) (ha : lay a = .inl ci) (hn : a < hN h) (kk : Go l R M n0 Z (pc + 3) lv st (uJ h a k v) u w) : Go l R M n0 Z pc lv (.long v :: .ref a :: st) h u w :=
  go_put_ (h' := uJ h a k v) hd hf hfin ha hn rfl (fun _ _ _ q => hE_uJ_ne q) (fun ρ => by rw [hF_uJ, if_pos ⟨rfl, rfl, by rw [fk, hk]; rfl⟩]; rfl) (fun ρ j q => by rw [hF_uJ, if_neg (fun z => q z.2.1)]) (fun ρ => by rw [hk]; rfl) (fun ρ => by rw [hk]; rfl) kk
/-- a type of references -/
def isRT : FieldType → Bool
  | .object _ => true
  | .array _ => true
  | _ => false
theorem isRT_fk {ty : FieldType} (h : isRT ty = true) : fkOf ty ≠ 0 ∧ fkOf ty ≠ 1 := by cases ty <;> simp_all [isRT, fkOf]
theorem isRT_n {ty : FieldType} (h : isRT ty = true) (a : Nat) : narrow ty (.ref a) = .ref a ∧ fits ty (.ref a) = true := by cases ty <;> simp_all [isRT, narrow, fits]
theorem go_putR {idx ci k a b : Nat} (hd : decode M.2.1 pc = .ok (.putfield idx, 3)) (hf : FL M.1.cls idx ci k) (hk : isRT (clY ci k) = true) (hfin : (clT ci k).2.2.2 = false) (ha : lay a = .inl ci) (hn : a < hN h) (kk : Go l R M n0 Z (pc + 3) lv st (uR h a k (some b)) u w) : Go l R M n0 Z pc lv (.ref b :: .ref a :: st) h u w :=
  go_put_ (h' := uR h a k (some b)) hd hf hfin ha hn rfl (fun _ _ _ q => hE_uR_ne q) (fun ρ => by rw [hF_uR, if_pos ⟨rfl, rfl, isRT_fk hk⟩]; rfl) (fun ρ j q => by rw [hF_uR, if_neg (fun z => q z.2.1)]) (fun ρ => (isRT_n hk _).1) (fun ρ => (isRT_n hk _).2) kk
theorem go_putFR {idx ci k a b : Nat} (hd : decode M.2.1 pc = .ok (.putfield idx, 3)) (hf : FL M.1.cls idx ci k) (hk : isRT (clY ci k) = true) (hfin : (clT ci k).2.2.2 = true) (hdecl : (clT ci k).1 = M.1.cls) (hini : M.1.name = "<init>") (ha : lay a = .inl ci) (hn : a < hN h) (kk : Go l R M n0 Z (pc + 3) lv st (uR h a k (some b)) u w) : Go l R M n0 Z pc lv (.ref b :: .ref a :: st) h u w :=
  go_putF_ (h' := uR h a k (some b)) hd hf hfin hdecl hini ha hn rfl (fun _ _ _ q => hE_uR_ne q) (fun ρ => by rw [hF_uR, if_pos ⟨rfl, rfl, isRT_fk hk⟩]; rfl) (fun ρ j q => by rw [hF_uR, if_neg (fun z => q z.2.1)]) (fun ρ => (isRT_n hk _).1) (fun ρ => (isRT_n hk _).2) kk
/-! arrays -/
theorem go_iald {a n : Nat} {i : Int32} (hd : decode M.2.1 pc = .ok (.iaload, 1)) (ha : lay a = .inr (0, n)) (hn : a < hN h) (hi : vp_in i n) (kk : Go l R M n0 Z (pc + 1) lv (.int (hI h a i.toNatClampNeg) :: st) h u w) : Go l R M n0 Z pc lv (.int i :: .ref a :: st) h u w := by
  intro p e s m args below meth c D A ρ C cA H locs ls hWd hS hL
  exact va_iald C.1 C.2.1 (hWd.K hn ha) hWd.2.2.1 a 0 (by rw [hW_at hn, hE_arr ha (by decide)]) rfl hi hd (kk p e s m args below meth c D A ρ C cA H locs ls hWd hS hL)
theorem go_bald {a n : Nat} {i : Int32} (hd : decode M.2.1 pc = .ok (.baload, 1)) (ha : lay a = .inr (1, n)) (hn : a < hN h) (hi : vp_in i n) (kk : Go l R M n0 Z (pc + 1) lv (.int (hI h a i.toNatClampNeg) :: st) h u w) : Go l R M n0 Z pc lv (.int i :: .ref a :: st) h u w := by
  intro p e s m args below meth c D A ρ C cA H locs ls hWd hS hL
  exact va_bald C.1 C.2.1 (hWd.K hn ha) hWd.2.2.1 a 0 (by rw [hW_at hn, hE_arr ha (by decide)]) rfl hi hd (kk p e s m args below meth c D A ρ C cA H locs ls hWd hS hL)
theorem go_zald {a n : Nat} {i : Int32} (hd : decode M.2.1 pc = .ok (.baload, 1)) (ha : lay a = .inr (3, n)) (hn : a < hN h) (hi : vp_in i n) (kk : Go l R M n0 Z (pc + 1) lv (.int (hI h a i.toNatClampNeg) :: st) h u w) : Go l R M n0 Z pc lv (.int i :: .ref a :: st) h u w := by
  intro p e s m args below meth c D A ρ C cA H locs ls hWd hS hL
  exact va_zald C.1 C.2.1 (hWd.K hn ha) hWd.2.2.1 a 0 (by rw [hW_at hn, hE_arr ha (by decide)]) rfl hi hd (kk p e s m args below meth c D A ρ C cA H locs ls hWd hS hL)
theorem go_lald {a n : Nat} {i : Int32} (hd : decode M.2.1 pc = .ok (.laload, 1)) (ha : lay a = .inr (2, n)) (hn : a < hN h) (hi : vp_in i n) (kk : Go l R M n0 Z (pc + 1) lv (.long (hJ h a i.toNatClampNeg) :: st) h u w) : Go l R M n0 Z pc lv (.int i :: .ref a :: st) h u w := by
  intro p e s m args below meth c D A ρ C cA H locs ls hWd hS hL
  exact va_lald C.1 C.2.1 (hWd.K hn ha) hWd.2.2.1 a 0 (by rw [hW_at hn, hE_lng ha]) rfl hi hd (kk p e s m args below meth c D A ρ C cA H locs ls hWd hS hL)
theorem go_alen {a ty n : Nat} {v : Int32} (hd : decode M.2.1 pc = .ok (.arraylength, 1)) (ha : lay a = .inr (ty, n)) (hn : a < hN h) (hv : Int32.ofNat n = v) (kk : Go l R M n0 Z (pc + 1) lv (.int v :: st) h u w) : Go l R M n0 Z pc lv (.ref a :: st) h u w := by
  intro p e s m args below meth c D A ρ C cA H locs ls hWd hS hL
  exact va_alen (x := (n, if ty = 2 then .inr (.inl (hJ h a)) else .inl (hI h a))) C.1 C.2.1 (hWd.K hn ha) hWd.2.2.1 a 0 (by rw [hW_at hn]; simp only [hE, ha]) rfl hv hd (kk p e s m args below meth c D A ρ C cA H locs ls hWd hS hL)
theorem hI_uI_same {a k : Nat} {v : Int32} : hI (uI h a k v) a = upd (hI h a) k v := by
  funext j
  simp only [hI, uI, up2, upd, true_and]
theorem hJ_uJ_same {a k : Nat} {v : Int64} : hJ (uJ h a k v) a = vp_updL (hJ h a) k v := by
  funext j
  simp only [hJ, uJ, up2, vp_updL, true_and]
theorem go_iast {a n : Nat} {i x : Int32} (hd : decode M.2.1 pc = .ok (.iastore, 1)) (ha : lay a = .inr (0, n)) (hn : a < hN h) (hi : vp_in i n) (kk : Go l R M n0 Z (pc + 1) lv st (uI h a i.toNatClampNeg x) u w) : Go l R M n0 Z pc lv (.int x :: .int i :: .ref a :: st) h u w := by
  intro p e s m args below meth c D A ρ C cA H locs ls hWd hS hL
  refine va_iast C.1 C.2.1 (hWd.K hn ha) hWd.2.2.1 hWd.2.2.2 hS a 0 (by rw [hW_at hn, hE_arr ha (by decide)]) rfl hi hd (fun H1 locs1 hP hD hS1 => ?_)
  exact kk p e s m args below meth c D A ρ C cA H1 locs1 ls (hWd.put rfl (by rw [hE_arr ha (by decide), hI_uI_same]) (fun _ q => hE_uI_ne q) hP hD) hS1 hL
theorem go_bast {a n : Nat} {i x : Int32} (hd : decode M.2.1 pc = .ok (.bastore, 1)) (ha : lay a = .inr (1, n)) (hn : a < hN h) (hi : vp_in i n) (kk : Go l R M n0 Z (pc + 1) lv st (uI h a i.toNatClampNeg (vp_nar .byte x)) u w) : Go l R M n0 Z pc lv (.int x :: .int i :: .ref a :: st) h u w := by
  intro p e s m args below meth c D A ρ C cA H locs ls hWd hS hL
  refine va_bast C.1 C.2.1 (hWd.K hn ha) hWd.2.2.1 hWd.2.2.2 hS a 0 (by rw [hW_at hn, hE_arr ha (by decide)]) rfl hi hd (fun H1 locs1 hP hD hS1 => ?_)
  exact kk p e s m args below meth c D A ρ C cA H1 locs1 ls (hWd.put rfl (by rw [hE_arr ha (by decide), hI_uI_same]) (fun _ q => hE_uI_ne q) hP hD) hS1 hL
theorem go_zast {a n : Nat} {i x : Int32} (hd : decode M.2.1 pc = .ok (.bastore, 1)) (ha : lay a = .inr (3, n)) (hn : a < hN h) (hi : vp_in i n) (kk : Go l R M n0 Z (pc + 1) lv st (uI h a i.toNatClampNeg (vp_nar .boolean x)) u w) : Go l R M n0 Z pc lv (.int x :: .int i :: .ref a :: st) h u w := by
  intro p e s m args below meth c D A ρ C cA H locs ls hWd hS hL
  refine va_zast C.1 C.2.1 (hWd.K hn ha) hWd.2.2.1 hWd.2.2.2 hS a 0 (by rw [hW_at hn, hE_arr ha (by decide)]) rfl hi hd (fun H1 locs1 hP hD hS1 => ?_)
  exact kk p e s m args below meth c D A ρ C cA H1 locs1 ls (hWd.put rfl (by rw [hE_arr ha (by decide), hI_uI_same]) (fun _ q => hE_uI_ne q) hP hD) hS1 hL
theorem go_last {a n : Nat} {i : Int32} {x : Int64} (hd : decode M.2.1 pc = .ok (.lastore, 1)) (ha : lay a = .inr (2, n)) (hn : a < hN h) (hi : vp_in i n) (kk : Go l R M n0 Z (pc + 1) lv st (uJ h a i.toNatClampNeg x) u w) : Go l R M n0 Z pc lv (.long x :: .int i :: .ref a :: st) h u w := by
  intro p e s m args below meth c D A ρ C cA H locs ls hWd hS hL
  refine va_last C.1 C.2.1 (hWd.K hn ha) hWd.2.2.1 hWd.2.2.2 hS a 0 (by rw [hW_at hn, hE_lng ha]) rfl hi hd (fun H1 locs1 hP hD hS1 => ?_)
  exact kk p e s m args below meth c D A ρ C cA H1 locs1 ls (hWd.put rfl (by rw [hE_lng ha, hJ_uJ_same]) (fun _ q => hE_uJ_ne q) hP hD) hS1 hL
end
