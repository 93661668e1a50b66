/-! throwing and catching -/
set_option maxRecDepth 100000 in
theorem exI_g : ∀ w ∈ (exAt RX9 102 nIAE).filter goodWord, inG w := fun w h => ⟨(show ∀ w ∈ (exAt RX9 102 nIAE).filter goodWord, w ∈ lw_tbl by decide +kernel) w h, (List.mem_filter.mp h).2⟩
set_option maxRecDepth 100000 in
theorem exN_g : ∀ w ∈ (exAt RX9 237 nNSE).filter goodWord, inG w := fun w h => ⟨(show ∀ w ∈ (exAt RX9 237 nNSE).filter goodWord, w ∈ lw_tbl by decide +kernel) w h, (List.mem_filter.mp h).2⟩
theorem exI_k : inG (.classLink RX9 100 nIAE) := inG_of 723 (by decide +kernel) rfl
theorem exN_k : inG (.classLink RX9 235 nNSE) := inG_of 1062 (by decide +kernel) rfl
theorem exI_i : inG (.initialized nIAE) := ⟨by decide +kernel, rfl⟩
theorem exN_i : inG (.initialized nNSE) := ⟨by decide +kernel, rfl⟩
set_option maxRecDepth 100000 in
theorem exI_ot : ∀ w ∈ Cond.classLink RX9 100 nIAE :: Cond.initialized nIAE :: exAt RX9 102 nIAE, vx_ot w = true := by decide +kernel
set_option maxRecDepth 100000 in
theorem exN_ot : ∀ w ∈ Cond.classLink RX9 235 nNSE :: Cond.initialized nNSE :: exAt RX9 237 nNSE, vx_ot w = true := by decide +kernel
section
variable {l : Launch} {R : Room} {M : MI} {n0 : Nat} {Z : ZT} {pc : Nat} {lv : List (Option Value)} {st : List Value} {h : Hp} {u w : Nat} {B : Nat × Nat} {Q : Option Value → Hp → Prop} {X : String → Hp → Prop}
theorem go_throw_ {ik ic : Nat} {E : String} (hl : l.stackTraces = false) (hM : M.1.cls = RX9) (hnl : M.1.name ≠ "law") (hh : M.2.2.2.2 = []) (d0 : decode M.2.1 pc = .ok (.new ik, 3)) (d3 : decode M.2.1 (pc + 3) = .ok (.dup, 1)) (d4 : decode M.2.1 (pc + 4) = .ok (.invokespecial ic, 3)) (d7 : decode M.2.1 (pc + 7) = .ok (.athrow, 1))
    (hfit : Bundle.fit E = true) (hk : inG (.classLink RX9 ik E)) (hi : inG (.initialized E)) (hg : ∀ w ∈ (exAt RX9 ic E).filter goodWord, inG w) (hf : ∀ w ∈ (exAt RX9 ic E).filter (fun w => !goodWord w), w ∈ exFace) (hot : ∀ w ∈ Cond.classLink RX9 ik E :: Cond.initialized E :: exAt RX9 ic E, vx_ot w = true)
    (hst : (st.map (fun v => v.category)).sum ≤ 8) (hR1 : 6 ≤ R.frames) (hR2 : 89 ≤ R.locals) (hR3 : u + 1 ≤ R.cells) (hR4 : w + 6 ≤ R.slots) (hB1 : u + 1 ≤ B.1) (hB2 : w + 6 ≤ B.2) (hn : hN h = nAll) (hx : X E h) : Go l R M n0 (Zm B Q X) pc lv st h u w := by
  intro p e s m args below meth c D A ρ C cA H locs ls hWd hS hL
  have hts := C.2.2.2.2.2.1
  have hE := C.2.2.2.2.2.2.2.2.2.2.2.1
  have ho := C.2.2.2.2.1
  rw [hM] at ho
  refine vx_throw0 (names := exN) (A := A) C.1 C.2.1 hl ho hfit (by decide) (hts _ (inG_mem hk)) (hts _ (inG_mem hi)) (vx_hat (fun w hw => hts _ (inG_mem (hg w hw))) hf (fun w hw => va_Nw.use (exFace_ok w hw).2 (hE.2.2.2.2.2.2.2 w hw))) hot hE.1.1 hE.1.2 hS (by rw [C.2.2.1]; exact hL.2.1) d0 d3 d4 d7 ?_ hR1 ?_ hR3 hR4 C.2.2.2.2.2.2.1 ?_ hS.2.2 hB1 hB2
  · rw [(C.2.2.2.2.2.2.2.1 hnl).2, hh]
    intro x hx
    cases hx
  · have : ((st.map (tv ρ)).map fun v => v.category).sum ≤ 8 := by rw [List.map_map]; simpa [Function.comp_def, tv_cat] using hst
    show _ + (13 * (2 + 1) + 42) ≤ R.locals
    omega
  · intro t hvm hz hq
    refine ⟨⟨h, cA, hx, ?_⟩, Nat.le_trans hS.1 hz, fun q h1 h2 => ?_⟩
    · have h3 := hWd.moved hvm
      exact ⟨h3.1, h3.2.1, h3.2.2.1.kept (fun k x hk => hq x.1 ((h3.2.2.1 k x hk).lt)), h3.2.2.2⟩
    · rw [hq q (Nat.lt_of_lt_of_le h1 hS.1)]
      exact hS.2.1 q h1 h2
theorem go_throwI (hl : l.stackTraces = false) (hM : M.1.cls = RX9) (hnl : M.1.name ≠ "law") (hh : M.2.2.2.2 = []) (d0 : decode M.2.1 pc = .ok (.new 100, 3)) (d3 : decode M.2.1 (pc + 3) = .ok (.dup, 1)) (d4 : decode M.2.1 (pc + 4) = .ok (.invokespecial 102, 3)) (d7 : decode M.2.1 (pc + 7) = .ok (.athrow, 1))
    (hst : (st.map (fun v => v.category)).sum ≤ 8) (hR1 : 6 ≤ R.frames) (hR2 : 89 ≤ R.locals) (hR3 : u + 1 ≤ R.cells) (hR4 : w + 6 ≤ R.slots) (hB1 : u + 1 ≤ B.1) (hB2 : w + 6 ≤ B.2) (hn : hN h = nAll) (hx : X nIAE h) : Go l R M n0 (Zm B Q X) pc lv st h u w :=
  go_throw_ hl hM hnl hh d0 d3 d4 d7 (by decide +kernel) exI_k exI_i exI_g (fun _ q => List.mem_append_left _ q) exI_ot hst hR1 hR2 hR3 hR4 hB1 hB2 hn hx
theorem go_throwN (hl : l.stackTraces = false) (hM : M.1.cls = RX9) (hnl : M.1.name ≠ "law") (hh : M.2.2.2.2 = []) (d0 : decode M.2.1 pc = .ok (.new 235, 3)) (d3 : decode M.2.1 (pc + 3) = .ok (.dup, 1)) (d4 : decode M.2.1 (pc + 4) = .ok (.invokespecial 237, 3)) (d7 : decode M.2.1 (pc + 7) = .ok (.athrow, 1))
    (hst : (st.map (fun v => v.category)).sum ≤ 8) (hR1 : 6 ≤ R.frames) (hR2 : 89 ≤ R.locals) (hR3 : u + 1 ≤ R.cells) (hR4 : w + 6 ≤ R.slots) (hB1 : u + 1 ≤ B.1) (hB2 : w + 6 ≤ B.2) (hn : hN h = nAll) (hx : X nNSE h) : Go l R M n0 (Zm B Q X) pc lv st h u w :=
  go_throw_ hl hM hnl hh d0 d3 d4 d7 (by decide +kernel) exN_k exN_i exN_g (fun _ q => List.mem_append_right _ q) exN_ot hst hR1 hR2 hR3 hR4 hB1 hB2 hn hx
/-- an exception that this method doesn't catch goes on to its caller -/
theorem gox_out {E : String} (hnl : M.1.name ≠ "law") (hh : M.2.2.2.2 = []) (hu : u ≤ B.1) (hw : w ≤ B.2) (hx : X E h) : GoX l R M n0 (Zm B Q X) pc lv E h u w := by
  intro p e s m args below meth c D A ρ C cA H locs ls hWd hS hL q ce rest hc hv hcl
  refine vx_out (E := E) ?_ C.2.2.2.2.2.2.1 hc hv hcl ?_ hS.2.2 hu hw
  · rw [(C.2.2.2.2.2.2.2.1 hnl).2, hh]
    intro x hx
    cases hx
  · intro t ht hvm
    refine ⟨⟨h, cA, hx, ?_⟩, hS.F ht⟩
    rw [ht]; exact hWd.moved hvm
/-- it is caught: by the row k of the table; the handler begins with a store into the local i, which is then not known -/
theorem gox_catch {E nm : String} {k i tgt : Nat} {q3 : Nat × Nat × Nat × Nat} (hnl : M.1.name ≠ "law") (hk : M.2.2.2.2[k]? = some q3) (hcov : q3.1 ≤ pc ∧ pc < q3.2.1) (h0 : q3.2.2.2 ≠ 0) (hlink : inG (.classLink M.1.cls q3.2.2.2 nm)) (hcast : Cond.castable E nm ∈ exFace)
    (hpass : ∀ j z, j < k → M.2.2.2.2[j]? = some z → z.2.2.2 ≠ 0 ∧ inG (.classLink M.1.cls z.2.2.2 nNSE) ∧ E = nIAE) (ht : q3.2.2.1 = tgt) (hd : (decode M.2.1 tgt = .ok (.astore i, 2) ∧ ∀ x, x = tgt + 2 → Go l R M n0 Z x (lv.set i none) [] h u w) ∨ (∃ k4 : Fin 4, decode M.2.1 tgt = .ok (.astore_n k4, 1) ∧ (k4 : Nat) = i ∧ ∀ x, x = tgt + 1 → Go l R M n0 Z x (lv.set i none) [] h u w))
    (hi : i < lv.length) (hp : ∀ j v, j + 1 = i → lv[j]? = some (some v) → v.category = 1) : GoX l R M n0 Z pc lv E h u w := by
  intro p e s m args below meth c D A ρ C cA H locs ls hWd hS hL q ce rest hc hv hcl
  have hts := C.2.2.2.2.2.1
  have hE := C.2.2.2.2.2.2.2.2.2.2.2.1
  subst ht
  have hkl : k < M.2.2.2.2.length := (List.getElem?_eq_some_iff.mp hk).1
  have hsp : c.exceptionTable.toList = tableOf (M.2.2.2.2.take k) ++ (⟨q3.1, q3.2.1, q3.2.2.1, q3.2.2.2⟩ : ExceptionTableEntry) :: tableOf (M.2.2.2.2.drop (k + 1)) := by
    rw [(C.2.2.2.2.2.2.2.1 hnl).2]
    have h1 : M.2.2.2.2 = M.2.2.2.2.take k ++ q3 :: M.2.2.2.2.drop (k + 1) := by
      conv => lhs; rw [← List.take_append_drop k M.2.2.2.2]
      congr 1
      rw [List.drop_eq_getElem_cons hkl]
      congr 1
      exact Option.some.inj ((List.getElem?_eq_getElem hkl).symm.trans hk)
    conv => lhs; rw [h1]
    simp [tableOf]
  refine vx_catch (own := M.1.cls) (name := nm) (E := E) C.2.2.2.2.1 _ _ _ hsp ?_ ?_ h0 (hts _ (inG_mem hlink)) (va_Nw.use (exFace_ok _ hcast).2 (hE.2.2.2.2.2.2.2 _ hcast)) hc hv hcl ?_
  · intro z hz
    obtain ⟨z0, hz0, rfl⟩ := List.mem_map.mp hz
    obtain ⟨j, hj⟩ := List.getElem?_of_mem hz0
    have hjl : j < k := by have := (List.getElem?_eq_some_iff.mp hj).1; rw [List.length_take] at this; omega
    rw [List.getElem?_take_of_lt hjl] at hj
    obtain ⟨g1, g2, g3⟩ := hpass j z0 hjl hj
    refine Or.inr ⟨g1, nNSE, hts _ (inG_mem g2), ?_⟩
    rw [g3]; exact hE.2.2.2.2.2.2.1
  · simp only [covers, Bool.and_eq_true, decide_eq_true_eq]
    exact hcov
  · rcases hd with ⟨hd, kk⟩ | ⟨k4, hd, hk4, kk⟩
    · exact lv_astore (x := q) C.1 C.2.1 hd hL.has (by rw [← hL.1]; exact hi) rfl (fun ls2 h2 => kk _ rfl p e s m args below meth c D A ρ C cA H locs ls2 hWd hS (Lo.of1 (x := .ref q) hL.1 hi hp (fun z hz => by cases hz) h2))
    · exact lv_astore_n (x := q) C.1 C.2.1 hd hk4 hL.has (by rw [← hL.1]; exact hi) rfl (fun ls2 h2 => kk _ rfl p e s m args below meth c D A ρ C cA H locs ls2 hWd hS (Lo.of1 (x := .ref q) hL.1 hi hp (fun z hz => by cases hz) h2))
/-- System.arraycopy of ints from one row to another one -/
theorem go_copy {idx a b na nb : Nat} {sp dp n : Int32} (hd : decode M.2.1 pc = .ok (.invokestatic idx, 3)) (hl : inG (.methodLink M.1.cls idx arraycopyName)) (hnat : inG (.native arraycopyName)) (hsta : inG (.static arraycopyName)) (hini : inG (.initialized "java/lang/System")) (ha : lay a = .inr (0, na)) (hb : lay b = .inr (0, nb)) (hS0 : St h)
    (h1 : ¬ sp < 0) (h2 : ¬ dp < 0) (h3 : ¬ n < 0) (h4 : sp.toNatClampNeg + n.toNatClampNeg ≤ na) (h5 : dp.toNatClampNeg + n.toNatClampNeg ≤ nb) (hst : (st.map (fun v => v.category)).sum ≤ 8) (hR1 : 1 ≤ R.frames) (hR2 : 40 ≤ R.locals)
    (k : Go l R M n0 Z (pc + 3) lv st (uF h b (va_cpy (hI h a) (hI h b) sp.toNatClampNeg dp.toNatClampNeg n.toNatClampNeg)) u w) : Go l R M n0 Z pc lv (.int n :: .int dp :: .ref b :: .int sp :: .ref a :: st) h u w := by
  intro p e s m args below meth c D A ρ C cA H locs ls hWd hS hL
  have hts := C.2.2.2.2.2.1
  have hna : a < hN h := by rw [hS0.1]; exact lay_lt ne_a ha
  have hnb : b < hN h := by rw [hS0.1]; exact lay_lt ne_a hb
  have hK : va_K D vwCl [(cA a, .int), (cA b, .int)] s := ⟨hWd.1.1, fun j q hj => by
    match j, hj with
    | 0, hj => cases hj; exact hWd.2.1 a 0 na hna ha
    | 1, hj => cases hj; exact hWd.2.1 b 0 nb hnb hb
    | (j + 2), hj => cases hj⟩
  refine va_copyi (ty := .int) C.1 C.2.1 (by rw [C.2.2.1]; exact hL.2.1.symm) C.2.2.2.2.1 (hts _ (inG_mem hl)) (hts _ (inG_mem hnat)) (hts _ (inG_mem hsta)) (hts _ (inG_mem hini)) hK hWd.2.2.1 hWd.2.2.2 hS a b 0 1 (by rw [hW_at hna, hE_arr ha (by decide)]) (by rw [hW_at hnb, hE_arr hb (by decide)]) rfl rfl rfl h1 h2 h3 h4 h5 (fun i _ => rfl) hR1 ?_ hd (fun H1 locs1 hP hD hS1 => ?_)
  · have e1 : ((st.map (tv ρ)).map fun v => v.category).sum ≤ 8 := by rw [List.map_map]; simpa [Function.comp_def, tv_cat] using hst
    have e2 : nativeFrameWords "java/lang/System" "arraycopy" 5 + 11 ≤ 32 := by decide +kernel
    omega
  · refine k p e s m args below meth c D A ρ C cA H1 locs1 ls (hWd.put rfl ?_ (fun _ q => hE_uF_ne q) hP hD) hS1 hL
    have e : ∀ f : Nat → Int32, hI (uF h b f) b = f := fun f => funext fun j => by simp [hI, uF]
    rw [hE_arr hb (by decide), e]
end
