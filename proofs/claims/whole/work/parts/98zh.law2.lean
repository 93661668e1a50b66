/-! the law: its end, its loads, what stands behind each call -/
abbrev lvL (j : Nat) (a b : Option Value) : List (Option Value) := [some (.ref 1300), some (.ref 0), some (.ref 77), some (.ref 103), some (.int (nI (6 * j))), a, b]
/-- both sides stand at S -/
def SS (h : Hp) (S : Sx) : Prop := KI h S ∧ MV h S ∧ WS S
/-- what is owed behind a call -/
def Nx (l : Launch) (L : Nat) (xs : Nat → Int32) (j u w : Nat) : Prop := ∀ (h : Hp) (S : Sx) (a b : Option Value) (u1 w1 : Nat), SS h S → u1 ≤ u + 1 → w1 ≤ w + 6 → Go l room_1 mL_law 0 (Zl L xs Zlw) 2467 (lvL j a b) [] h u1 w1
theorem lw_retA {p : Program} {l : Launch} {e : Env} {s : State} {m : MethodId} {args : Array Value} {below : List Frame} {meth : Method} {c : Code} (hx : p.tables.exec = Jvm.exec) (hb : c.code = code) (hr : meth.sig.returnType = ret) (hlocks : meth.locks = false) {pc : Nat} {H : Heap} {ls : Array Slot} (hdg : decode code pc = .ok (.ireturn, 1)) : W p l e room_1 s m args below meth c H [] 1135 32708 (lw_Z below args s) (F0 m pc ls [.int 1]) := by
  intro T hT X
  obtain ⟨fs, hret, hrun, hended, hW, hframe⟩ := X.leave (v := some (.int 1)) (hlocks := hlocks) (fun h => by rw [hr] at h; cases h)
  have hmeth' : T.vm.method? m = some meth := X.method'
  refine ⟨T.setFrames fs, ?_, .returned (some (.int 1)), hrun, hended, rfl, ⟨_, rfl⟩, hW, hframe⟩
  jvm_step X.here [X.here.top, hx, hb, hdg, hmeth', hr, ret, narrow_b1]
  (try refine ⟨rfl, ?_⟩); (try refine ⟨rfl, ?_⟩)
  first | (intro acts; rw [hret _ acts rfl rfl rfl]) | rw [hret _ _ rfl rfl rfl]
  exact Steps.refl _
theorem law_ret {l : Launch} {L : Nat} {xs : Nat → Int32} {lv : List (Option Value)} {h : Hp} {u w : Nat} (hu : u ≤ 1135) (hw : w ≤ 32708) : Go l room_1 mL_law 0 (Zl L xs Zlw) 2474 lv [.int 1] h u w := by
  intro p e s m args below meth c D A ρ C cA H locs ls hWd hS hL
  obtain ⟨c1, c2, c3, c4, c5, c6, c7, c8, c9, c10, c11, c12, c13⟩ := C
  obtain ⟨base, b1, b2⟩ := c10
  have e0 : s.heap.size = base := by
    have := c13 (by decide)
    rw [b2 0 (by decide)] at this
    exact this
  refine W.widen hu hw (va_forget (fun q hq => ?_) ?_)
  · have := hS.2.2 q hq
    first | exact this | (rw [e0]; exact (b1 _).mp this)
  · intro T hT X
    obtain ⟨t, a1, a2⟩ := lw_retA c1 c2 c4 c7 dL_law_2474 T hT X
    exact ⟨t, a1, fun _ => a2⟩
section
variable {l : Launch} {L : Nat} {xs : Nat → Int32} {j : Nat} {h : Hp} {u w : Nat} {a5 a6 : Option Value} {st : List Value}
/-- script[i + k] -/
theorem go_sx {pc k : Nat} {n : Int} (hj : 6 * j + k < L) (hL : L ≤ 3072) (hk : Int32.ofInt n = nI k) (d0 : decode mL_law.2.1 pc = .ok (.aload_n 0, 1)) (d1 : decode mL_law.2.1 (pc + 1) = .ok (.iload 4, 2)) (d2 : decode mL_law.2.1 (pc + 3) = .ok (.iconst n, 1)) (d3 : decode mL_law.2.1 (pc + 4) = .ok (.iadd, 1)) (d4 : decode mL_law.2.1 (pc + 5) = .ok (.iaload, 1))
    (kk : Go l room_1 mL_law 0 (Zl L xs Zlw) (pc + 6) (lvL j a5 a6) (.int (xs (6 * j + k)) :: st) h u w) : Go l room_1 mL_law 0 (Zl L xs Zlw) pc (lvL j a5 a6) st h u w := by
  refine go_aloadn d0 rfl ?_
  refine go_iload d1 rfl ?_
  refine go_iconst (v := nI k) d2 hk ?_
  refine go_iadd d3 ?_
  rw [nI_add]
  refine go_sld d4 (nI_in hj (by omega)) ?_
  rw [nI_clamp (by omega)]
  exact kk
/-- script[i + k] != 0 -/
theorem go_bz {pc : Nat} {lv : List (Option Value)} {x : Int32} (d0 : decode mL_law.2.1 pc = .ok (.ifCond .eq 7, 3)) (d1 : decode mL_law.2.1 (pc + 3) = .ok (.iconst 1, 1)) (d2 : decode mL_law.2.1 (pc + 4) = .ok (.goto 4, 3)) (d3 : decode mL_law.2.1 (pc + 7) = .ok (.iconst 0, 1))
    (kk : Go l room_1 mL_law 0 (Zl L xs Zlw) (pc + 8) lv (.int (if x = 0 then 0 else 1) :: st) h u w) : Go l room_1 mL_law 0 (Zl L xs Zlw) pc lv (.int x :: st) h u w := by
  refine go_if_eq (tgt := pc + 7) d0 (by omega) (fun c => ?_) (fun c => ?_)
  · rw [if_pos c] at kk
    exact go_iconst (v := 0) d3 rfl kk
  · rw [if_neg c] at kk
    exact go_iconst (v := 1) d1 rfl (go_goto (tgt := pc + 8) d2 (by omega) kk)
/-- behind the model's answer -/
theorem law_tail {q : Nat} {o : Sa} {r : Int32} {off : Int} {u0 w0 : Nat} (X : SS h o.2.2) (z1 : o.1 = 0 → r = o.2.1) (z2 : hI h 77 0 = nI o.1) (z3 : o.1 = 0 → hJ h 103 0 = o.2.1.toInt64) (ho : o.1 < 3) (nx : Nx l L xs j u0 w0) (hu : u ≤ u0 + 1) (hw : w ≤ w0 + 6) (hu1 : u0 + 1 ≤ 1135) (hw1 : w0 + 6 ≤ 32708)
    (d0 : decode mL_law.2.1 q = .ok (.istore 6, 2)) (d1 : decode mL_law.2.1 (q + 2) = .ok (.aload_n 2, 1)) (d2 : decode mL_law.2.1 (q + 3) = .ok (.invokevirtual 125, 3)) (d3 : decode mL_law.2.1 (q + 6) = .ok (.iload 5, 2)) (d4 : decode mL_law.2.1 (q + 8) = .ok (.if_icmp .eq 5, 3)) (d5 : decode mL_law.2.1 (q + 13) = .ok (.iload 5, 2)) (d6 : decode mL_law.2.1 (q + 15) = .ok (.ifCond .ne 15, 3))
    (d7 : decode mL_law.2.1 (q + 18) = .ok (.aload_n 3, 1)) (d8 : decode mL_law.2.1 (q + 19) = .ok (.iconst 0, 1)) (d9 : decode mL_law.2.1 (q + 20) = .ok (.laload, 1)) (da : decode mL_law.2.1 (q + 21) = .ok (.iload 6, 2)) (db : decode mL_law.2.1 (q + 23) = .ok (.i2l, 1)) (dc : decode mL_law.2.1 (q + 24) = .ok (.lcmp, 1)) (de : decode mL_law.2.1 (q + 25) = .ok (.ifCond .eq 5, 3)) (df : decode mL_law.2.1 (q + 30) = .ok (.goto off, 3)) (ht : ((q + 30 : Nat) : Int) + off = ((2467 : Nat) : Int)) :
    Go l room_1 mL_law 0 (Zl L xs Zlw) q (lvL j (some (.int (nI o.1))) a6) [.int r] h u w := by
  have hS : St h := X.1.Stt
  have fin : ∀ a b, Go l room_1 mL_law 0 (Zl L xs Zlw) (q + 30) (lvL j a b) [] h u w := fun a b => go_goto (tgt := 2467) df ht (nx h o.2.2 a b u w X hu hw)
  refine go_ist6 d0 rfl ?_
  refine go_aloadn d1 rfl ?_
  refine go_callV_ (M' := mX10_thrown) (as := []) (ci := 10) d2 lL_125 vX10_thrown rfl (by decide) rfl (by rw [hS.1]; decide) (q_thrown (d := 0) hS) rfl (Nat.le_of_ble_eq_true rfl) (by decide) (by decide) (Nat.le_trans hu hu1) (Nat.le_trans hw hw1) (fun q => absurd hS.1 (Nat.ne_of_lt q)) (fun v g qq => ?_) (fun _ _ z => z.elim)
  obtain ⟨rfl, rfl⟩ := qq
  refine go_iload d3 rfl ?_
  refine go_icmp_eq (tgt := q + 13) d4 (by omega) (fun _ => ?_) (fun c => absurd z2 c)
  refine go_iload d5 rfl ?_
  refine go_if_ne (tgt := q + 30) d6 (by omega) (fun _ => fin _ _) (fun c => ?_)
  have ho0 : o.1 = 0 := by
    rcases Nat.eq_zero_or_pos o.1 with h1 | h1
    · exact h1
    · exact absurd c (nI_ne0 h1 (by omega))
  refine go_aloadn d7 rfl ?_
  refine go_iconst (v := 0) d8 rfl ?_
  refine go_lald (n := 1) d9 rfl (by rw [hS.1]; decide) (show ¬ ((0 : Int32) < 0 ∨ 1 ≤ Int32.toNatClampNeg 0) by decide +kernel) ?_
  refine go_iload da rfl ?_
  refine go_i2l db ?_
  refine go_lcmp dc ?_
  refine go_if_eq (tgt := q + 30) de (by omega) (fun _ => fin _ _) (fun c => absurd (lc0.mpr ?_) c)
  rw [z1 ho0]
  exact z3 ho0
end
theorem nd_3 {P : Prop} [Decidable P] {k : Nat} {o : An} (hk : k < 3) (h : o.1 < 3) : (nd P k o).1 < 3 := by
  unfold nd
  split
  · exact h
  · exact hk
theorem ndS_3 {P : Prop} [Decidable P] {S : Sx} {o : Sa} (h : o.1 < 3) : (ndS P S o).1 < 3 := by
  unfold ndS
  split
  · exact h
  · exact (show (1 : Nat) < 3 by decide)
theorem ss_v {h g : Hp} {S : Sx} (W : WS S) (V : MV h S) (S' : Sx) (K : KI g S') (F : Fv7 h g) : MV g S := mv_f8 W.1 V K.Stt F.2
theorem not_gt6 {L j : Nat} (hL : L ≤ 3072) (hj : 6 * j ≤ L) (h : ¬ Int32.ofNat L - 6 < nI (6 * j)) : 6 * j + 6 ≤ L := by
  rcases Nat.lt_or_ge L 6 with q | q
  · refine absurd ?_ h
    have h1 : nI L - nI 6 < 0 := nI_subneg q (by decide)
    obtain rfl : j = 0 := by omega
    exact h1
  · have h1 : nI L - nI 6 = nI (L - 6) := pk_sub q
    have h2 : ¬ nI L - nI 6 < nI (6 * j) := h
    rw [h1, nI_ltI (by omega) (by omega)] at h2
    omega
