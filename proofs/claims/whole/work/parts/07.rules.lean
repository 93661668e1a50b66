theorem nl_at {lv : List (Option Value)} (i : Nat) {y : Option Value} (h : lv[i]? = some y) (hn : nl1 y = true) : ∀ j v, j + 1 = i + 1 → lv[j]? = some (some v) → v.category = 1 := by
  intro j v hj hv
  have e : j = i := by omega
  subst e
  rw [h] at hv
  cases hv
  simpa [nl1] using hn
section
variable {l : Launch} {R : Room} {M : MI} {n0 : Nat} {Z : ZT} {pc : Nat} {lv : List (Option Value)} {st : List Value} {h : Hp} {u w : Nat}
theorem go_iconst {n : Int} {v : Int32} (hd : decode M.2.1 pc = .ok (.iconst n, 1)) (hv : Int32.ofInt n = v) (k : Go l R M n0 Z (pc + 1) lv (.int v :: st) h u w) : Go l R M n0 Z pc lv (st) h u w := by
  intro p e s m args below meth c D A ρ C cA H locs ls hWd hS hL
  exact lv_iconst C.1 C.2.1 hd hv (k p e s m args below meth c D A ρ C cA H locs ls hWd hS hL)
theorem go_bipush {n : Int} {v : Int32} (hd : decode M.2.1 pc = .ok (.bipush n, 2)) (hv : (Int8.ofInt n).toInt32 = v) (k : Go l R M n0 Z (pc + 2) lv (.int v :: st) h u w) : Go l R M n0 Z pc lv (st) h u w := by
  intro p e s m args below meth c D A ρ C cA H locs ls hWd hS hL
  exact lv_bipush C.1 C.2.1 hd hv (k p e s m args below meth c D A ρ C cA H locs ls hWd hS hL)
theorem go_sipush {n : Int} {v : Int32} (hd : decode M.2.1 pc = .ok (.sipush n, 3)) (hv : (Int16.ofInt n).toInt32 = v) (k : Go l R M n0 Z (pc + 3) lv (.int v :: st) h u w) : Go l R M n0 Z pc lv (st) h u w := by
  intro p e s m args below meth c D A ρ C cA H locs ls hWd hS hL
  exact lv_sipush C.1 C.2.1 hd hv (k p e s m args below meth c D A ρ C cA H locs ls hWd hS hL)
theorem go_ldc {i : Nat} {v : Int32} (hd : decode M.2.1 pc = .ok (.ldc i, 2)) (hc : inG (.constant M.1.cls i v)) (k : Go l R M n0 Z (pc + 2) lv (.int v :: st) h u w) : Go l R M n0 Z pc lv (st) h u w := by
  intro p e s m args below meth c D A ρ C cA H locs ls hWd hS hL
  exact lv_ldc C.1 C.2.1 C.2.2.2.2.1 (C.2.2.2.2.2.1 _ (inG_mem hc)) hd (k p e s m args below meth c D A ρ C cA H locs ls hWd hS hL)
theorem go_ldcw {i : Nat} {v : Int32} (hd : decode M.2.1 pc = .ok (.ldc_w i, 3)) (hc : inG (.constant M.1.cls i v)) (k : Go l R M n0 Z (pc + 3) lv (.int v :: st) h u w) : Go l R M n0 Z pc lv (st) h u w := by
  intro p e s m args below meth c D A ρ C cA H locs ls hWd hS hL
  exact lv_ldcw C.1 C.2.1 C.2.2.2.2.1 (C.2.2.2.2.2.1 _ (inG_mem hc)) hd (k p e s m args below meth c D A ρ C cA H locs ls hWd hS hL)
theorem go_ldc2 {i : Nat} {v : Int64} (hd : decode M.2.1 pc = .ok (.ldc2_w i, 3)) (hc : inG (.constantLong M.1.cls i v)) (k : Go l R M n0 Z (pc + 3) lv (.long v :: st) h u w) : Go l R M n0 Z pc lv (st) h u w := by
  intro p e s m args below meth c D A ρ C cA H locs ls hWd hS hL
  exact lv_ldc2 C.1 C.2.1 C.2.2.2.2.1 (C.2.2.2.2.2.1 _ (inG_mem hc)) hd (k p e s m args below meth c D A ρ C cA H locs ls hWd hS hL)
theorem go_lconst {n : Fin 2} {v : Int64} (hd : decode M.2.1 pc = .ok (.lconst n, 1)) (hv : Int64.ofNat (n : Nat) = v) (k : Go l R M n0 Z (pc + 1) lv (.long v :: st) h u w) : Go l R M n0 Z pc lv (st) h u w := by
  intro p e s m args below meth c D A ρ C cA H locs ls hWd hS hL
  exact lv_lconst C.1 C.2.1 hd hv (k p e s m args below meth c D A ρ C cA H locs ls hWd hS hL)
theorem go_iloadn {k : Fin 4} {x : Int32} (hd : decode M.2.1 pc = .ok (.iload_n k, 1)) (hl : lv[(k : Nat)]? = some (some (.int x))) (k : Go l R M n0 Z (pc + 1) lv (.int x :: st) h u w) : Go l R M n0 Z pc lv (st) h u w := by
  intro p e s m args below meth c D A ρ C cA H locs ls hWd hS hL
  exact lv_iload_n C.1 C.2.1 hd rfl (hL.at hl) (k p e s m args below meth c D A ρ C cA H locs ls hWd hS hL)
theorem go_iload {i : Nat} {x : Int32} (hd : decode M.2.1 pc = .ok (.iload i, 2)) (hl : lv[i]? = some (some (.int x))) (k : Go l R M n0 Z (pc + 2) lv (.int x :: st) h u w) : Go l R M n0 Z pc lv (st) h u w := by
  intro p e s m args below meth c D A ρ C cA H locs ls hWd hS hL
  exact lv_iload C.1 C.2.1 hd (hL.at hl) (k p e s m args below meth c D A ρ C cA H locs ls hWd hS hL)
theorem go_lloadn {k : Fin 4} {x : Int64} (hd : decode M.2.1 pc = .ok (.lload_n k, 1)) (hl : lv[(k : Nat)]? = some (some (.long x))) (k : Go l R M n0 Z (pc + 1) lv (.long x :: st) h u w) : Go l R M n0 Z pc lv (st) h u w := by
  intro p e s m args below meth c D A ρ C cA H locs ls hWd hS hL
  exact lv_lload_n C.1 C.2.1 hd rfl (hL.at hl) (k p e s m args below meth c D A ρ C cA H locs ls hWd hS hL)
theorem go_lload {i : Nat} {x : Int64} (hd : decode M.2.1 pc = .ok (.lload i, 2)) (hl : lv[i]? = some (some (.long x))) (k : Go l R M n0 Z (pc + 2) lv (.long x :: st) h u w) : Go l R M n0 Z pc lv (st) h u w := by
  intro p e s m args below meth c D A ρ C cA H locs ls hWd hS hL
  exact lv_lload C.1 C.2.1 hd (hL.at hl) (k p e s m args below meth c D A ρ C cA H locs ls hWd hS hL)
theorem go_aloadn {k : Fin 4} {x : Nat} (hd : decode M.2.1 pc = .ok (.aload_n k, 1)) (hl : lv[(k : Nat)]? = some (some (.ref x))) (k : Go l R M n0 Z (pc + 1) lv (.ref x :: st) h u w) : Go l R M n0 Z pc lv (st) h u w := by
  intro p e s m args below meth c D A ρ C cA H locs ls hWd hS hL
  exact lv_aload_n C.1 C.2.1 hd rfl (hL.at hl) (k p e s m args below meth c D A ρ C cA H locs ls hWd hS hL)
theorem go_aload {i : Nat} {x : Nat} (hd : decode M.2.1 pc = .ok (.aload i, 2)) (hl : lv[i]? = some (some (.ref x))) (k : Go l R M n0 Z (pc + 2) lv (.ref x :: st) h u w) : Go l R M n0 Z pc lv (st) h u w := by
  intro p e s m args below meth c D A ρ C cA H locs ls hWd hS hL
  exact lv_aload C.1 C.2.1 hd (hL.at hl) (k p e s m args below meth c D A ρ C cA H locs ls hWd hS hL)
theorem go_iadd {x y : Int32} (hd : decode M.2.1 pc = .ok (.iadd, 1))  (k : Go l R M n0 Z (pc + 1) lv (.int (x + y) :: st) h u w) : Go l R M n0 Z pc lv (.int y :: .int x :: st) h u w := by
  intro p e s m args below meth c D A ρ C cA H locs ls hWd hS hL
  exact lv_iadd C.1 C.2.1 hd (k p e s m args below meth c D A ρ C cA H locs ls hWd hS hL)
theorem go_isub {x y : Int32} (hd : decode M.2.1 pc = .ok (.isub, 1))  (k : Go l R M n0 Z (pc + 1) lv (.int (x - y) :: st) h u w) : Go l R M n0 Z pc lv (.int y :: .int x :: st) h u w := by
  intro p e s m args below meth c D A ρ C cA H locs ls hWd hS hL
  exact lv_isub C.1 C.2.1 hd (k p e s m args below meth c D A ρ C cA H locs ls hWd hS hL)
theorem go_imul {x y : Int32} (hd : decode M.2.1 pc = .ok (.imul, 1))  (k : Go l R M n0 Z (pc + 1) lv (.int (x * y) :: st) h u w) : Go l R M n0 Z pc lv (.int y :: .int x :: st) h u w := by
  intro p e s m args below meth c D A ρ C cA H locs ls hWd hS hL
  exact lv_imul C.1 C.2.1 hd (k p e s m args below meth c D A ρ C cA H locs ls hWd hS hL)
theorem go_iand {x y : Int32} (hd : decode M.2.1 pc = .ok (.iand, 1))  (k : Go l R M n0 Z (pc + 1) lv (.int (x &&& y) :: st) h u w) : Go l R M n0 Z pc lv (.int y :: .int x :: st) h u w := by
  intro p e s m args below meth c D A ρ C cA H locs ls hWd hS hL
  exact lv_iand C.1 C.2.1 hd (k p e s m args below meth c D A ρ C cA H locs ls hWd hS hL)
theorem go_ior {x y : Int32} (hd : decode M.2.1 pc = .ok (.ior, 1))  (k : Go l R M n0 Z (pc + 1) lv (.int (x ||| y) :: st) h u w) : Go l R M n0 Z pc lv (.int y :: .int x :: st) h u w := by
  intro p e s m args below meth c D A ρ C cA H locs ls hWd hS hL
  exact lv_ior C.1 C.2.1 hd (k p e s m args below meth c D A ρ C cA H locs ls hWd hS hL)
theorem go_ixor {x y : Int32} (hd : decode M.2.1 pc = .ok (.ixor, 1))  (k : Go l R M n0 Z (pc + 1) lv (.int (x ^^^ y) :: st) h u w) : Go l R M n0 Z pc lv (.int y :: .int x :: st) h u w := by
  intro p e s m args below meth c D A ρ C cA H locs ls hWd hS hL
  exact lv_ixor C.1 C.2.1 hd (k p e s m args below meth c D A ρ C cA H locs ls hWd hS hL)
theorem go_ishl {x y : Int32} (hd : decode M.2.1 pc = .ok (.ishl, 1))  (k : Go l R M n0 Z (pc + 1) lv (.int (x <<< (y &&& 31)) :: st) h u w) : Go l R M n0 Z pc lv (.int y :: .int x :: st) h u w := by
  intro p e s m args below meth c D A ρ C cA H locs ls hWd hS hL
  exact lv_ishl C.1 C.2.1 hd (k p e s m args below meth c D A ρ C cA H locs ls hWd hS hL)
theorem go_ishr {x y : Int32} (hd : decode M.2.1 pc = .ok (.ishr, 1))  (k : Go l R M n0 Z (pc + 1) lv (.int (x >>> (y &&& 31)) :: st) h u w) : Go l R M n0 Z pc lv (.int y :: .int x :: st) h u w := by
  intro p e s m args below meth c D A ρ C cA H locs ls hWd hS hL
  exact lv_ishr C.1 C.2.1 hd (k p e s m args below meth c D A ρ C cA H locs ls hWd hS hL)
theorem go_idiv {x y : Int32} (hd : decode M.2.1 pc = .ok (.idiv, 1)) (hy : ¬ y = 0) (k : Go l R M n0 Z (pc + 1) lv (.int (x / y) :: st) h u w) : Go l R M n0 Z pc lv (.int y :: .int x :: st) h u w := by
  intro p e s m args below meth c D A ρ C cA H locs ls hWd hS hL
  exact lv_idiv C.1 C.2.1 hd hy (k p e s m args below meth c D A ρ C cA H locs ls hWd hS hL)
theorem go_irem {x y : Int32} (hd : decode M.2.1 pc = .ok (.irem, 1)) (hy : ¬ y = 0) (k : Go l R M n0 Z (pc + 1) lv (.int (x - x / y * y) :: st) h u w) : Go l R M n0 Z pc lv (.int y :: .int x :: st) h u w := by
  intro p e s m args below meth c D A ρ C cA H locs ls hWd hS hL
  exact lv_irem C.1 C.2.1 hd hy (k p e s m args below meth c D A ρ C cA H locs ls hWd hS hL)
theorem go_iushr {x y : Int32} (hd : decode M.2.1 pc = .ok (.iushr, 1))  (k : Go l R M n0 Z (pc + 1) lv (.int (x.toUInt32 >>> (y.toUInt32 &&& Int32.toUInt32 31)).toInt32 :: st) h u w) : Go l R M n0 Z pc lv (.int y :: .int x :: st) h u w := by
  intro p e s m args below meth c D A ρ C cA H locs ls hWd hS hL
  exact lv_iushr C.1 C.2.1 hd rfl (k p e s m args below meth c D A ρ C cA H locs ls hWd hS hL)
theorem go_i2l {x : Int32} (hd : decode M.2.1 pc = .ok (.i2l, 1))  (k : Go l R M n0 Z (pc + 1) lv (.long x.toInt64 :: st) h u w) : Go l R M n0 Z pc lv (.int x :: st) h u w := by
  intro p e s m args below meth c D A ρ C cA H locs ls hWd hS hL
  exact lv_i2l C.1 C.2.1 hd rfl (k p e s m args below meth c D A ρ C cA H locs ls hWd hS hL)
theorem go_i2c {x : Int32} (hd : decode M.2.1 pc = .ok (.i2c, 1))  (k : Go l R M n0 Z (pc + 1) lv (.int (x.toUInt32 % 65536).toInt32 :: st) h u w) : Go l R M n0 Z pc lv (.int x :: st) h u w := by
  intro p e s m args below meth c D A ρ C cA H locs ls hWd hS hL
  exact lv_i2c C.1 C.2.1 hd rfl (k p e s m args below meth c D A ρ C cA H locs ls hWd hS hL)
theorem go_i2b {x : Int32} (hd : decode M.2.1 pc = .ok (.i2b, 1))  (k : Go l R M n0 Z (pc + 1) lv (.int x.toInt8.toInt32 :: st) h u w) : Go l R M n0 Z pc lv (.int x :: st) h u w := by
  intro p e s m args below meth c D A ρ C cA H locs ls hWd hS hL
  exact lv_i2b C.1 C.2.1 hd rfl (k p e s m args below meth c D A ρ C cA H locs ls hWd hS hL)
theorem go_lshl {x : Int64} {y : Int32} (hd : decode M.2.1 pc = .ok (.lshl, 1))  (k : Go l R M n0 Z (pc + 1) lv (.long (x <<< (y.toInt64 &&& 63)) :: st) h u w) : Go l R M n0 Z pc lv (.int y :: .long x :: st) h u w := by
  intro p e s m args below meth c D A ρ C cA H locs ls hWd hS hL
  exact lv_lshl C.1 C.2.1 hd rfl (k p e s m args below meth c D A ρ C cA H locs ls hWd hS hL)
theorem go_lor {x y : Int64} (hd : decode M.2.1 pc = .ok (.lor, 1))  (k : Go l R M n0 Z (pc + 1) lv (.long (x ||| y) :: st) h u w) : Go l R M n0 Z pc lv (.long y :: .long x :: st) h u w := by
  intro p e s m args below meth c D A ρ C cA H locs ls hWd hS hL
  exact lv_lor C.1 C.2.1 hd (k p e s m args below meth c D A ρ C cA H locs ls hWd hS hL)
theorem go_lsub {x y : Int64} (hd : decode M.2.1 pc = .ok (.lsub, 1))  (k : Go l R M n0 Z (pc + 1) lv (.long (x - y) :: st) h u w) : Go l R M n0 Z pc lv (.long y :: .long x :: st) h u w := by
  intro p e s m args below meth c D A ρ C cA H locs ls hWd hS hL
  exact lv_lsub C.1 C.2.1 hd (k p e s m args below meth c D A ρ C cA H locs ls hWd hS hL)
theorem go_lcmp {x y : Int64} (hd : decode M.2.1 pc = .ok (.lcmp, 1))  (k : Go l R M n0 Z (pc + 1) lv (.int (lg_cmp x y) :: st) h u w) : Go l R M n0 Z pc lv (.long y :: .long x :: st) h u w := by
  intro p e s m args below meth c D A ρ C cA H locs ls hWd hS hL
  exact W.lcmp C.1 C.2.1 hd (k p e s m args below meth c D A ρ C cA H locs ls hWd hS hL)
theorem go_dup {v : Value} (hd : decode M.2.1 pc = .ok (.dup, 1)) (hv : v.category = 1) (k : Go l R M n0 Z (pc + 1) lv (v :: v :: st) h u w) : Go l R M n0 Z pc lv (v :: st) h u w := by
  intro p e s m args below meth c D A ρ C cA H locs ls hWd hS hL
  exact lv_dup C.1 C.2.1 hd (by rw [tv_cat]; exact hv) (k p e s m args below meth c D A ρ C cA H locs ls hWd hS hL)
theorem go_pop {v : Value} (hd : decode M.2.1 pc = .ok (.pop, 1)) (hv : v.category = 1) (k : Go l R M n0 Z (pc + 1) lv (st) h u w) : Go l R M n0 Z pc lv (v :: st) h u w := by
  intro p e s m args below meth c D A ρ C cA H locs ls hWd hS hL
  exact lv_pop C.1 C.2.1 hd (by rw [tv_cat]; exact hv) (k p e s m args below meth c D A ρ C cA H locs ls hWd hS hL)
theorem go_dup2 {v v2 : Value} (hd : decode M.2.1 pc = .ok (.dup2, 1)) (hv : v.category = 1) (hv2 : v2.category = 1) (k : Go l R M n0 Z (pc + 1) lv (v :: v2 :: v :: v2 :: st) h u w) : Go l R M n0 Z pc lv (v :: v2 :: st) h u w := by
  intro p e s m args below meth c D A ρ C cA H locs ls hWd hS hL
  exact lv_dup2_11 C.1 C.2.1 hd (by rw [tv_cat]; exact hv) (by rw [tv_cat]; exact hv2) (k p e s m args below meth c D A ρ C cA H locs ls hWd hS hL)
theorem go_if_eq {x : Int32} {off : Int} {tgt : Nat} (hd : decode M.2.1 pc = .ok (.ifCond .eq off, 3)) (ht : (pc : Int) + off = (tgt : Int)) (kt : x = 0 → Go l R M n0 Z tgt lv st h u w) (kf : ¬ x = 0 → Go l R M n0 Z (pc + 3) lv st h u w) : Go l R M n0 Z pc lv (.int x :: st) h u w := by
  intro p e s m args below meth c D A ρ C cA H locs ls hWd hS hL
  exact lv_if_eq C.1 C.2.1 hd ht (fun q => (kt q p e s m args below meth c D A ρ C cA H locs ls hWd hS hL)) (fun q => (kf q p e s m args below meth c D A ρ C cA H locs ls hWd hS hL))
theorem go_if_ne {x : Int32} {off : Int} {tgt : Nat} (hd : decode M.2.1 pc = .ok (.ifCond .ne off, 3)) (ht : (pc : Int) + off = (tgt : Int)) (kt : ¬ x = 0 → Go l R M n0 Z tgt lv st h u w) (kf : x = 0 → Go l R M n0 Z (pc + 3) lv st h u w) : Go l R M n0 Z pc lv (.int x :: st) h u w := by
  intro p e s m args below meth c D A ρ C cA H locs ls hWd hS hL
  exact lv_if_ne C.1 C.2.1 hd ht (fun q => (kt q p e s m args below meth c D A ρ C cA H locs ls hWd hS hL)) (fun q => (kf q p e s m args below meth c D A ρ C cA H locs ls hWd hS hL))
theorem go_if_lt {x : Int32} {off : Int} {tgt : Nat} (hd : decode M.2.1 pc = .ok (.ifCond .lt off, 3)) (ht : (pc : Int) + off = (tgt : Int)) (kt : x < 0 → Go l R M n0 Z tgt lv st h u w) (kf : ¬ x < 0 → Go l R M n0 Z (pc + 3) lv st h u w) : Go l R M n0 Z pc lv (.int x :: st) h u w := by
  intro p e s m args below meth c D A ρ C cA H locs ls hWd hS hL
  exact lv_if_lt C.1 C.2.1 hd ht (fun q => (kt q p e s m args below meth c D A ρ C cA H locs ls hWd hS hL)) (fun q => (kf q p e s m args below meth c D A ρ C cA H locs ls hWd hS hL))
theorem go_if_ge {x : Int32} {off : Int} {tgt : Nat} (hd : decode M.2.1 pc = .ok (.ifCond .ge off, 3)) (ht : (pc : Int) + off = (tgt : Int)) (kt : 0 ≤ x → Go l R M n0 Z tgt lv st h u w) (kf : ¬ 0 ≤ x → Go l R M n0 Z (pc + 3) lv st h u w) : Go l R M n0 Z pc lv (.int x :: st) h u w := by
  intro p e s m args below meth c D A ρ C cA H locs ls hWd hS hL
  exact lv_if_ge C.1 C.2.1 hd ht (fun q => (kt q p e s m args below meth c D A ρ C cA H locs ls hWd hS hL)) (fun q => (kf q p e s m args below meth c D A ρ C cA H locs ls hWd hS hL))
theorem go_if_gt {x : Int32} {off : Int} {tgt : Nat} (hd : decode M.2.1 pc = .ok (.ifCond .gt off, 3)) (ht : (pc : Int) + off = (tgt : Int)) (kt : 0 < x → Go l R M n0 Z tgt lv st h u w) (kf : ¬ 0 < x → Go l R M n0 Z (pc + 3) lv st h u w) : Go l R M n0 Z pc lv (.int x :: st) h u w := by
  intro p e s m args below meth c D A ρ C cA H locs ls hWd hS hL
  exact lv_if_gt C.1 C.2.1 hd ht (fun q => (kt q p e s m args below meth c D A ρ C cA H locs ls hWd hS hL)) (fun q => (kf q p e s m args below meth c D A ρ C cA H locs ls hWd hS hL))
theorem go_if_le {x : Int32} {off : Int} {tgt : Nat} (hd : decode M.2.1 pc = .ok (.ifCond .le off, 3)) (ht : (pc : Int) + off = (tgt : Int)) (kt : x ≤ 0 → Go l R M n0 Z tgt lv st h u w) (kf : ¬ x ≤ 0 → Go l R M n0 Z (pc + 3) lv st h u w) : Go l R M n0 Z pc lv (.int x :: st) h u w := by
  intro p e s m args below meth c D A ρ C cA H locs ls hWd hS hL
  exact lv_if_le C.1 C.2.1 hd ht (fun q => (kt q p e s m args below meth c D A ρ C cA H locs ls hWd hS hL)) (fun q => (kf q p e s m args below meth c D A ρ C cA H locs ls hWd hS hL))
theorem go_icmp_eq {x y : Int32} {off : Int} {tgt : Nat} (hd : decode M.2.1 pc = .ok (.if_icmp .eq off, 3)) (ht : (pc : Int) + off = (tgt : Int)) (kt : x = y → Go l R M n0 Z tgt lv st h u w) (kf : ¬ x = y → Go l R M n0 Z (pc + 3) lv st h u w) : Go l R M n0 Z pc lv (.int y :: .int x :: st) h u w := by
  intro p e s m args below meth c D A ρ C cA H locs ls hWd hS hL
  exact lv_icmp_eq C.1 C.2.1 hd ht (fun q => (kt q p e s m args below meth c D A ρ C cA H locs ls hWd hS hL)) (fun q => (kf q p e s m args below meth c D A ρ C cA H locs ls hWd hS hL))
theorem go_icmp_ne {x y : Int32} {off : Int} {tgt : Nat} (hd : decode M.2.1 pc = .ok (.if_icmp .ne off, 3)) (ht : (pc : Int) + off = (tgt : Int)) (kt : ¬ x = y → Go l R M n0 Z tgt lv st h u w) (kf : x = y → Go l R M n0 Z (pc + 3) lv st h u w) : Go l R M n0 Z pc lv (.int y :: .int x :: st) h u w := by
  intro p e s m args below meth c D A ρ C cA H locs ls hWd hS hL
  exact lv_icmp_ne C.1 C.2.1 hd ht (fun q => (kt q p e s m args below meth c D A ρ C cA H locs ls hWd hS hL)) (fun q => (kf q p e s m args below meth c D A ρ C cA H locs ls hWd hS hL))
theorem go_icmp_lt {x y : Int32} {off : Int} {tgt : Nat} (hd : decode M.2.1 pc = .ok (.if_icmp .lt off, 3)) (ht : (pc : Int) + off = (tgt : Int)) (kt : x < y → Go l R M n0 Z tgt lv st h u w) (kf : ¬ x < y → Go l R M n0 Z (pc + 3) lv st h u w) : Go l R M n0 Z pc lv (.int y :: .int x :: st) h u w := by
  intro p e s m args below meth c D A ρ C cA H locs ls hWd hS hL
  exact lv_icmp_lt C.1 C.2.1 hd ht (fun q => (kt q p e s m args below meth c D A ρ C cA H locs ls hWd hS hL)) (fun q => (kf q p e s m args below meth c D A ρ C cA H locs ls hWd hS hL))
theorem go_icmp_ge {x y : Int32} {off : Int} {tgt : Nat} (hd : decode M.2.1 pc = .ok (.if_icmp .ge off, 3)) (ht : (pc : Int) + off = (tgt : Int)) (kt : y ≤ x → Go l R M n0 Z tgt lv st h u w) (kf : ¬ y ≤ x → Go l R M n0 Z (pc + 3) lv st h u w) : Go l R M n0 Z pc lv (.int y :: .int x :: st) h u w := by
  intro p e s m args below meth c D A ρ C cA H locs ls hWd hS hL
  exact lv_icmp_ge C.1 C.2.1 hd ht (fun q => (kt q p e s m args below meth c D A ρ C cA H locs ls hWd hS hL)) (fun q => (kf q p e s m args below meth c D A ρ C cA H locs ls hWd hS hL))
theorem go_icmp_gt {x y : Int32} {off : Int} {tgt : Nat} (hd : decode M.2.1 pc = .ok (.if_icmp .gt off, 3)) (ht : (pc : Int) + off = (tgt : Int)) (kt : y < x → Go l R M n0 Z tgt lv st h u w) (kf : ¬ y < x → Go l R M n0 Z (pc + 3) lv st h u w) : Go l R M n0 Z pc lv (.int y :: .int x :: st) h u w := by
  intro p e s m args below meth c D A ρ C cA H locs ls hWd hS hL
  exact lv_icmp_gt C.1 C.2.1 hd ht (fun q => (kt q p e s m args below meth c D A ρ C cA H locs ls hWd hS hL)) (fun q => (kf q p e s m args below meth c D A ρ C cA H locs ls hWd hS hL))
theorem go_icmp_le {x y : Int32} {off : Int} {tgt : Nat} (hd : decode M.2.1 pc = .ok (.if_icmp .le off, 3)) (ht : (pc : Int) + off = (tgt : Int)) (kt : x ≤ y → Go l R M n0 Z tgt lv st h u w) (kf : ¬ x ≤ y → Go l R M n0 Z (pc + 3) lv st h u w) : Go l R M n0 Z pc lv (.int y :: .int x :: st) h u w := by
  intro p e s m args below meth c D A ρ C cA H locs ls hWd hS hL
  exact lv_icmp_le C.1 C.2.1 hd ht (fun q => (kt q p e s m args below meth c D A ρ C cA H locs ls hWd hS hL)) (fun q => (kf q p e s m args below meth c D A ρ C cA H locs ls hWd hS hL))
theorem go_goto {off : Int} {tgt : Nat} (hd : decode M.2.1 pc = .ok (.goto off, 3)) (ht : (pc : Int) + off = (tgt : Int)) (k : Go l R M n0 Z tgt lv st h u w) : Go l R M n0 Z pc lv st h u w := by
  intro p e s m args below meth c D A ρ C cA H locs ls hWd hS hL
  exact lv_goto C.1 C.2.1 hd ht (k p e s m args below meth c D A ρ C cA H locs ls hWd hS hL)
theorem go_tabOut {dflt lo hi : Int} {offs : Array Int} {len : Nat} {x : Int32} {tgt : Nat} (hd : decode M.2.1 pc = .ok (.tableswitch dflt lo hi offs, len)) (hq : x.toInt < lo ∨ hi < x.toInt) (ht : (pc : Int) + dflt = (tgt : Int)) (k : Go l R M n0 Z tgt lv st h u w) : Go l R M n0 Z pc lv (.int x :: st) h u w := by
  intro p e s m args below meth c D A ρ C cA H locs ls hWd hS hL
  exact lv_tableOut C.1 C.2.1 hd hq ht (k p e s m args below meth c D A ρ C cA H locs ls hWd hS hL)
theorem go_tabIn {dflt lo hi : Int} {offs : Array Int} {len : Nat} {x : Int32} {off : Int} {tgt : Nat} (hd : decode M.2.1 pc = .ok (.tableswitch dflt lo hi offs, len)) (h1 : ¬ x.toInt < lo) (h2 : ¬ hi < x.toInt) (ho : offs[(x.toInt - lo).toNat]? = some off) (ht : (pc : Int) + off = (tgt : Int)) (k : Go l R M n0 Z tgt lv st h u w) : Go l R M n0 Z pc lv (.int x :: st) h u w := by
  intro p e s m args below meth c D A ρ C cA H locs ls hWd hS hL
  exact lv_tableIn C.1 C.2.1 hd h1 h2 ho ht (k p e s m args below meth c D A ρ C cA H locs ls hWd hS hL)
theorem go_acmp_ne {a b : Nat} {off : Int} {tgt : Nat} (hd : decode M.2.1 pc = .ok (.if_acmp .ne off, 3)) (ht : (pc : Int) + off = (tgt : Int)) (ha : a < 1000) (hb : b < 1000) (kt : ¬ a = b → Go l R M n0 Z tgt lv st h u w) (kf : a = b → Go l R M n0 Z (pc + 3) lv st h u w) : Go l R M n0 Z pc lv (.ref b :: .ref a :: st) h u w := by
  intro p e s m args below meth c D A ρ C cA H locs ls hWd hS hL
  obtain ⟨base, -, hρ⟩ := C.2.2.2.2.2.2.2.2.2.1
  refine lv_acmp_ne (rx := some (ρ a)) (ry := some (ρ b)) C.1 C.2.1 hd ht (fun q => ?_) (fun q => ?_)
  · exact (kt (fun z => q (by rw [z])) p e s m args below meth c D A ρ C cA H locs ls hWd hS hL)
  · exact (kf (by have := Option.some.inj q; rw [hρ a ha, hρ b hb] at this; omega) p e s m args below meth c D A ρ C cA H locs ls hWd hS hL)
theorem go_istoren_ {k : Fin 4} {x : Int32} (y : Option Value) (hd : decode M.2.1 pc = .ok (.istore_n k, 1)) (hi : (k : Nat) < lv.length) (hp : ∀ j v, j + 1 = (k : Nat) → lv[j]? = some (some v) → v.category = 1) (hy : y = some (.int x) ∨ y = none) (k : Go l R M n0 Z (pc + 1) (lv.set (k : Nat) y) st h u w) : Go l R M n0 Z pc lv (.int x :: st) h u w := by
  intro p e s m args below meth c D A ρ C cA H locs ls hWd hS hL
  exact lv_istore_n C.1 C.2.1 hd rfl hL.has (by rw [← hL.1]; exact hi) rfl (fun ls2 h2 => k p e s m args below meth c D A ρ C cA H locs ls2 hWd hS (Lo.of1 (x := .int x) hL.1 hi hp (fun z hz => by rcases hy with q | q <;> rw [q] at hz <;> cases hz; rfl) h2))
theorem go_istore_ {i : Nat} {x : Int32} (y : Option Value) (hd : decode M.2.1 pc = .ok (.istore i, 2)) (hi : i < lv.length) (hp : ∀ j v, j + 1 = i → lv[j]? = some (some v) → v.category = 1) (hy : y = some (.int x) ∨ y = none) (k : Go l R M n0 Z (pc + 2) (lv.set i y) st h u w) : Go l R M n0 Z pc lv (.int x :: st) h u w := by
  intro p e s m args below meth c D A ρ C cA H locs ls hWd hS hL
  exact lv_istore C.1 C.2.1 hd hL.has (by rw [← hL.1]; exact hi) rfl (fun ls2 h2 => k p e s m args below meth c D A ρ C cA H locs ls2 hWd hS (Lo.of1 (x := .int x) hL.1 hi hp (fun z hz => by rcases hy with q | q <;> rw [q] at hz <;> cases hz; rfl) h2))
theorem go_astoren_ {k : Fin 4} {x : Nat} (y : Option Value) (hd : decode M.2.1 pc = .ok (.astore_n k, 1)) (hi : (k : Nat) < lv.length) (hp : ∀ j v, j + 1 = (k : Nat) → lv[j]? = some (some v) → v.category = 1) (hy : y = some (.ref x) ∨ y = none) (k : Go l R M n0 Z (pc + 1) (lv.set (k : Nat) y) st h u w) : Go l R M n0 Z pc lv (.ref x :: st) h u w := by
  intro p e s m args below meth c D A ρ C cA H locs ls hWd hS hL
  exact lv_astore_n C.1 C.2.1 hd rfl hL.has (by rw [← hL.1]; exact hi) rfl (fun ls2 h2 => k p e s m args below meth c D A ρ C cA H locs ls2 hWd hS (Lo.of1 (x := .ref (ρ x)) hL.1 hi hp (fun z hz => by rcases hy with q | q <;> rw [q] at hz <;> cases hz; rfl) h2))
theorem go_astore_ {i : Nat} {x : Nat} (y : Option Value) (hd : decode M.2.1 pc = .ok (.astore i, 2)) (hi : i < lv.length) (hp : ∀ j v, j + 1 = i → lv[j]? = some (some v) → v.category = 1) (hy : y = some (.ref x) ∨ y = none) (k : Go l R M n0 Z (pc + 2) (lv.set i y) st h u w) : Go l R M n0 Z pc lv (.ref x :: st) h u w := by
  intro p e s m args below meth c D A ρ C cA H locs ls hWd hS hL
  exact lv_astore C.1 C.2.1 hd hL.has (by rw [← hL.1]; exact hi) rfl (fun ls2 h2 => k p e s m args below meth c D A ρ C cA H locs ls2 hWd hS (Lo.of1 (x := .ref (ρ x)) hL.1 hi hp (fun z hz => by rcases hy with q | q <;> rw [q] at hz <;> cases hz; rfl) h2))
theorem go_ist0 {y : Option Value} {t : List (Option Value)} {x : Int32} (hd : decode M.2.1 pc = .ok (.istore_n 0, 1)) (k : Go l R M n0 Z (pc + 1) (some (.int x) :: t) st h u w) : Go l R M n0 Z pc (y :: t) (.int x :: st) h u w :=
  go_istoren_ (k := 0) (lv := y :: t) (some (.int x)) hd (by show 0 < _; simp) (fun j v hj _ => absurd hj (by simp)) (Or.inl rfl) k
theorem go_ist1 {a0 y : Option Value} {t : List (Option Value)} {x : Int32} (hd : decode M.2.1 pc = .ok (.istore_n 1, 1)) (hn : nl1 a0 = true) (k : Go l R M n0 Z (pc + 1) (a0 :: some (.int x) :: t) st h u w) : Go l R M n0 Z pc (a0 :: y :: t) (.int x :: st) h u w :=
  go_istoren_ (k := 1) (lv := a0 :: y :: t) (some (.int x)) hd (by show 1 < _; simp) (nl_at 0 rfl hn) (Or.inl rfl) k
theorem go_ist2 {a0 a1 y : Option Value} {t : List (Option Value)} {x : Int32} (hd : decode M.2.1 pc = .ok (.istore_n 2, 1)) (hn : nl1 a1 = true) (k : Go l R M n0 Z (pc + 1) (a0 :: a1 :: some (.int x) :: t) st h u w) : Go l R M n0 Z pc (a0 :: a1 :: y :: t) (.int x :: st) h u w :=
  go_istoren_ (k := 2) (lv := a0 :: a1 :: y :: t) (some (.int x)) hd (by show 2 < _; simp) (nl_at 1 rfl hn) (Or.inl rfl) k
theorem go_ist3 {a0 a1 a2 y : Option Value} {t : List (Option Value)} {x : Int32} (hd : decode M.2.1 pc = .ok (.istore_n 3, 1)) (hn : nl1 a2 = true) (k : Go l R M n0 Z (pc + 1) (a0 :: a1 :: a2 :: some (.int x) :: t) st h u w) : Go l R M n0 Z pc (a0 :: a1 :: a2 :: y :: t) (.int x :: st) h u w :=
  go_istoren_ (k := 3) (lv := a0 :: a1 :: a2 :: y :: t) (some (.int x)) hd (by show 3 < _; simp) (nl_at 2 rfl hn) (Or.inl rfl) k
theorem go_ist4 {a0 a1 a2 a3 y : Option Value} {t : List (Option Value)} {x : Int32} (hd : decode M.2.1 pc = .ok (.istore 4, 2)) (hn : nl1 a3 = true) (k : Go l R M n0 Z (pc + 2) (a0 :: a1 :: a2 :: a3 :: some (.int x) :: t) st h u w) : Go l R M n0 Z pc (a0 :: a1 :: a2 :: a3 :: y :: t) (.int x :: st) h u w :=
  go_istore_ (i := 4) (lv := a0 :: a1 :: a2 :: a3 :: y :: t) (some (.int x)) hd (by show 4 < _; simp) (nl_at 3 rfl hn) (Or.inl rfl) k
theorem go_ist5 {a0 a1 a2 a3 a4 y : Option Value} {t : List (Option Value)} {x : Int32} (hd : decode M.2.1 pc = .ok (.istore 5, 2)) (hn : nl1 a4 = true) (k : Go l R M n0 Z (pc + 2) (a0 :: a1 :: a2 :: a3 :: a4 :: some (.int x) :: t) st h u w) : Go l R M n0 Z pc (a0 :: a1 :: a2 :: a3 :: a4 :: y :: t) (.int x :: st) h u w :=
  go_istore_ (i := 5) (lv := a0 :: a1 :: a2 :: a3 :: a4 :: y :: t) (some (.int x)) hd (by show 5 < _; simp) (nl_at 4 rfl hn) (Or.inl rfl) k
theorem go_ist6 {a0 a1 a2 a3 a4 a5 y : Option Value} {t : List (Option Value)} {x : Int32} (hd : decode M.2.1 pc = .ok (.istore 6, 2)) (hn : nl1 a5 = true) (k : Go l R M n0 Z (pc + 2) (a0 :: a1 :: a2 :: a3 :: a4 :: a5 :: some (.int x) :: t) st h u w) : Go l R M n0 Z pc (a0 :: a1 :: a2 :: a3 :: a4 :: a5 :: y :: t) (.int x :: st) h u w :=
  go_istore_ (i := 6) (lv := a0 :: a1 :: a2 :: a3 :: a4 :: a5 :: y :: t) (some (.int x)) hd (by show 6 < _; simp) (nl_at 5 rfl hn) (Or.inl rfl) k
theorem go_ist7 {a0 a1 a2 a3 a4 a5 a6 y : Option Value} {t : List (Option Value)} {x : Int32} (hd : decode M.2.1 pc = .ok (.istore 7, 2)) (hn : nl1 a6 = true) (k : Go l R M n0 Z (pc + 2) (a0 :: a1 :: a2 :: a3 :: a4 :: a5 :: a6 :: some (.int x) :: t) st h u w) : Go l R M n0 Z pc (a0 :: a1 :: a2 :: a3 :: a4 :: a5 :: a6 :: y :: t) (.int x :: st) h u w :=
  go_istore_ (i := 7) (lv := a0 :: a1 :: a2 :: a3 :: a4 :: a5 :: a6 :: y :: t) (some (.int x)) hd (by show 7 < _; simp) (nl_at 6 rfl hn) (Or.inl rfl) k
theorem go_ist8 {a0 a1 a2 a3 a4 a5 a6 a7 y : Option Value} {t : List (Option Value)} {x : Int32} (hd : decode M.2.1 pc = .ok (.istore 8, 2)) (hn : nl1 a7 = true) (k : Go l R M n0 Z (pc + 2) (a0 :: a1 :: a2 :: a3 :: a4 :: a5 :: a6 :: a7 :: some (.int x) :: t) st h u w) : Go l R M n0 Z pc (a0 :: a1 :: a2 :: a3 :: a4 :: a5 :: a6 :: a7 :: y :: t) (.int x :: st) h u w :=
  go_istore_ (i := 8) (lv := a0 :: a1 :: a2 :: a3 :: a4 :: a5 :: a6 :: a7 :: y :: t) (some (.int x)) hd (by show 8 < _; simp) (nl_at 7 rfl hn) (Or.inl rfl) k
theorem go_ist9 {a0 a1 a2 a3 a4 a5 a6 a7 a8 y : Option Value} {t : List (Option Value)} {x : Int32} (hd : decode M.2.1 pc = .ok (.istore 9, 2)) (hn : nl1 a8 = true) (k : Go l R M n0 Z (pc + 2) (a0 :: a1 :: a2 :: a3 :: a4 :: a5 :: a6 :: a7 :: a8 :: some (.int x) :: t) st h u w) : Go l R M n0 Z pc (a0 :: a1 :: a2 :: a3 :: a4 :: a5 :: a6 :: a7 :: a8 :: y :: t) (.int x :: st) h u w :=
  go_istore_ (i := 9) (lv := a0 :: a1 :: a2 :: a3 :: a4 :: a5 :: a6 :: a7 :: a8 :: y :: t) (some (.int x)) hd (by show 9 < _; simp) (nl_at 8 rfl hn) (Or.inl rfl) k
theorem go_ist10 {a0 a1 a2 a3 a4 a5 a6 a7 a8 a9 y : Option Value} {t : List (Option Value)} {x : Int32} (hd : decode M.2.1 pc = .ok (.istore 10, 2)) (hn : nl1 a9 = true) (k : Go l R M n0 Z (pc + 2) (a0 :: a1 :: a2 :: a3 :: a4 :: a5 :: a6 :: a7 :: a8 :: a9 :: some (.int x) :: t) st h u w) : Go l R M n0 Z pc (a0 :: a1 :: a2 :: a3 :: a4 :: a5 :: a6 :: a7 :: a8 :: a9 :: y :: t) (.int x :: st) h u w :=
  go_istore_ (i := 10) (lv := a0 :: a1 :: a2 :: a3 :: a4 :: a5 :: a6 :: a7 :: a8 :: a9 :: y :: t) (some (.int x)) hd (by show 10 < _; simp) (nl_at 9 rfl hn) (Or.inl rfl) k
theorem go_ist11 {a0 a1 a2 a3 a4 a5 a6 a7 a8 a9 a10 y : Option Value} {t : List (Option Value)} {x : Int32} (hd : decode M.2.1 pc = .ok (.istore 11, 2)) (hn : nl1 a10 = true) (k : Go l R M n0 Z (pc + 2) (a0 :: a1 :: a2 :: a3 :: a4 :: a5 :: a6 :: a7 :: a8 :: a9 :: a10 :: some (.int x) :: t) st h u w) : Go l R M n0 Z pc (a0 :: a1 :: a2 :: a3 :: a4 :: a5 :: a6 :: a7 :: a8 :: a9 :: a10 :: y :: t) (.int x :: st) h u w :=
  go_istore_ (i := 11) (lv := a0 :: a1 :: a2 :: a3 :: a4 :: a5 :: a6 :: a7 :: a8 :: a9 :: a10 :: y :: t) (some (.int x)) hd (by show 11 < _; simp) (nl_at 10 rfl hn) (Or.inl rfl) k
theorem go_ist12 {a0 a1 a2 a3 a4 a5 a6 a7 a8 a9 a10 a11 y : Option Value} {t : List (Option Value)} {x : Int32} (hd : decode M.2.1 pc = .ok (.istore 12, 2)) (hn : nl1 a11 = true) (k : Go l R M n0 Z (pc + 2) (a0 :: a1 :: a2 :: a3 :: a4 :: a5 :: a6 :: a7 :: a8 :: a9 :: a10 :: a11 :: some (.int x) :: t) st h u w) : Go l R M n0 Z pc (a0 :: a1 :: a2 :: a3 :: a4 :: a5 :: a6 :: a7 :: a8 :: a9 :: a10 :: a11 :: y :: t) (.int x :: st) h u w :=
  go_istore_ (i := 12) (lv := a0 :: a1 :: a2 :: a3 :: a4 :: a5 :: a6 :: a7 :: a8 :: a9 :: a10 :: a11 :: y :: t) (some (.int x)) hd (by show 12 < _; simp) (nl_at 11 rfl hn) (Or.inl rfl) k
theorem go_ist13 {a0 a1 a2 a3 a4 a5 a6 a7 a8 a9 a10 a11 a12 y : Option Value} {t : List (Option Value)} {x : Int32} (hd : decode M.2.1 pc = .ok (.istore 13, 2)) (hn : nl1 a12 = true) (k : Go l R M n0 Z (pc + 2) (a0 :: a1 :: a2 :: a3 :: a4 :: a5 :: a6 :: a7 :: a8 :: a9 :: a10 :: a11 :: a12 :: some (.int x) :: t) st h u w) : Go l R M n0 Z pc (a0 :: a1 :: a2 :: a3 :: a4 :: a5 :: a6 :: a7 :: a8 :: a9 :: a10 :: a11 :: a12 :: y :: t) (.int x :: st) h u w :=
  go_istore_ (i := 13) (lv := a0 :: a1 :: a2 :: a3 :: a4 :: a5 :: a6 :: a7 :: a8 :: a9 :: a10 :: a11 :: a12 :: y :: t) (some (.int x)) hd (by show 13 < _; simp) (nl_at 12 rfl hn) (Or.inl rfl) k
theorem go_ist14 {a0 a1 a2 a3 a4 a5 a6 a7 a8 a9 a10 a11 a12 a13 y : Option Value} {t : List (Option Value)} {x : Int32} (hd : decode M.2.1 pc = .ok (.istore 14, 2)) (hn : nl1 a13 = true) (k : Go l R M n0 Z (pc + 2) (a0 :: a1 :: a2 :: a3 :: a4 :: a5 :: a6 :: a7 :: a8 :: a9 :: a10 :: a11 :: a12 :: a13 :: some (.int x) :: t) st h u w) : Go l R M n0 Z pc (a0 :: a1 :: a2 :: a3 :: a4 :: a5 :: a6 :: a7 :: a8 :: a9 :: a10 :: a11 :: a12 :: a13 :: y :: t) (.int x :: st) h u w :=
  go_istore_ (i := 14) (lv := a0 :: a1 :: a2 :: a3 :: a4 :: a5 :: a6 :: a7 :: a8 :: a9 :: a10 :: a11 :: a12 :: a13 :: y :: t) (some (.int x)) hd (by show 14 < _; simp) (nl_at 13 rfl hn) (Or.inl rfl) k
theorem go_ist15 {a0 a1 a2 a3 a4 a5 a6 a7 a8 a9 a10 a11 a12 a13 a14 y : Option Value} {t : List (Option Value)} {x : Int32} (hd : decode M.2.1 pc = .ok (.istore 15, 2)) (hn : nl1 a14 = true) (k : Go l R M n0 Z (pc + 2) (a0 :: a1 :: a2 :: a3 :: a4 :: a5 :: a6 :: a7 :: a8 :: a9 :: a10 :: a11 :: a12 :: a13 :: a14 :: some (.int x) :: t) st h u w) : Go l R M n0 Z pc (a0 :: a1 :: a2 :: a3 :: a4 :: a5 :: a6 :: a7 :: a8 :: a9 :: a10 :: a11 :: a12 :: a13 :: a14 :: y :: t) (.int x :: st) h u w :=
  go_istore_ (i := 15) (lv := a0 :: a1 :: a2 :: a3 :: a4 :: a5 :: a6 :: a7 :: a8 :: a9 :: a10 :: a11 :: a12 :: a13 :: a14 :: y :: t) (some (.int x)) hd (by show 15 < _; simp) (nl_at 14 rfl hn) (Or.inl rfl) k
theorem go_ast0 {y : Option Value} {t : List (Option Value)} {x : Nat} (hd : decode M.2.1 pc = .ok (.astore_n 0, 1)) (k : Go l R M n0 Z (pc + 1) (some (.ref x) :: t) st h u w) : Go l R M n0 Z pc (y :: t) (.ref x :: st) h u w :=
  go_astoren_ (k := 0) (lv := y :: t) (some (.ref x)) hd (by show 0 < _; simp) (fun j v hj _ => absurd hj (by simp)) (Or.inl rfl) k
theorem go_ast1 {a0 y : Option Value} {t : List (Option Value)} {x : Nat} (hd : decode M.2.1 pc = .ok (.astore_n 1, 1)) (hn : nl1 a0 = true) (k : Go l R M n0 Z (pc + 1) (a0 :: some (.ref x) :: t) st h u w) : Go l R M n0 Z pc (a0 :: y :: t) (.ref x :: st) h u w :=
  go_astoren_ (k := 1) (lv := a0 :: y :: t) (some (.ref x)) hd (by show 1 < _; simp) (nl_at 0 rfl hn) (Or.inl rfl) k
theorem go_ast2 {a0 a1 y : Option Value} {t : List (Option Value)} {x : Nat} (hd : decode M.2.1 pc = .ok (.astore_n 2, 1)) (hn : nl1 a1 = true) (k : Go l R M n0 Z (pc + 1) (a0 :: a1 :: some (.ref x) :: t) st h u w) : Go l R M n0 Z pc (a0 :: a1 :: y :: t) (.ref x :: st) h u w :=
  go_astoren_ (k := 2) (lv := a0 :: a1 :: y :: t) (some (.ref x)) hd (by show 2 < _; simp) (nl_at 1 rfl hn) (Or.inl rfl) k
theorem go_ast3 {a0 a1 a2 y : Option Value} {t : List (Option Value)} {x : Nat} (hd : decode M.2.1 pc = .ok (.astore_n 3, 1)) (hn : nl1 a2 = true) (k : Go l R M n0 Z (pc + 1) (a0 :: a1 :: a2 :: some (.ref x) :: t) st h u w) : Go l R M n0 Z pc (a0 :: a1 :: a2 :: y :: t) (.ref x :: st) h u w :=
  go_astoren_ (k := 3) (lv := a0 :: a1 :: a2 :: y :: t) (some (.ref x)) hd (by show 3 < _; simp) (nl_at 2 rfl hn) (Or.inl rfl) k
theorem go_ast4 {a0 a1 a2 a3 y : Option Value} {t : List (Option Value)} {x : Nat} (hd : decode M.2.1 pc = .ok (.astore 4, 2)) (hn : nl1 a3 = true) (k : Go l R M n0 Z (pc + 2) (a0 :: a1 :: a2 :: a3 :: some (.ref x) :: t) st h u w) : Go l R M n0 Z pc (a0 :: a1 :: a2 :: a3 :: y :: t) (.ref x :: st) h u w :=
  go_astore_ (i := 4) (lv := a0 :: a1 :: a2 :: a3 :: y :: t) (some (.ref x)) hd (by show 4 < _; simp) (nl_at 3 rfl hn) (Or.inl rfl) k
theorem go_ast5 {a0 a1 a2 a3 a4 y : Option Value} {t : List (Option Value)} {x : Nat} (hd : decode M.2.1 pc = .ok (.astore 5, 2)) (hn : nl1 a4 = true) (k : Go l R M n0 Z (pc + 2) (a0 :: a1 :: a2 :: a3 :: a4 :: some (.ref x) :: t) st h u w) : Go l R M n0 Z pc (a0 :: a1 :: a2 :: a3 :: a4 :: y :: t) (.ref x :: st) h u w :=
  go_astore_ (i := 5) (lv := a0 :: a1 :: a2 :: a3 :: a4 :: y :: t) (some (.ref x)) hd (by show 5 < _; simp) (nl_at 4 rfl hn) (Or.inl rfl) k
theorem go_ast6 {a0 a1 a2 a3 a4 a5 y : Option Value} {t : List (Option Value)} {x : Nat} (hd : decode M.2.1 pc = .ok (.astore 6, 2)) (hn : nl1 a5 = true) (k : Go l R M n0 Z (pc + 2) (a0 :: a1 :: a2 :: a3 :: a4 :: a5 :: some (.ref x) :: t) st h u w) : Go l R M n0 Z pc (a0 :: a1 :: a2 :: a3 :: a4 :: a5 :: y :: t) (.ref x :: st) h u w :=
  go_astore_ (i := 6) (lv := a0 :: a1 :: a2 :: a3 :: a4 :: a5 :: y :: t) (some (.ref x)) hd (by show 6 < _; simp) (nl_at 5 rfl hn) (Or.inl rfl) k
theorem go_ast7 {a0 a1 a2 a3 a4 a5 a6 y : Option Value} {t : List (Option Value)} {x : Nat} (hd : decode M.2.1 pc = .ok (.astore 7, 2)) (hn : nl1 a6 = true) (k : Go l R M n0 Z (pc + 2) (a0 :: a1 :: a2 :: a3 :: a4 :: a5 :: a6 :: some (.ref x) :: t) st h u w) : Go l R M n0 Z pc (a0 :: a1 :: a2 :: a3 :: a4 :: a5 :: a6 :: y :: t) (.ref x :: st) h u w :=
  go_astore_ (i := 7) (lv := a0 :: a1 :: a2 :: a3 :: a4 :: a5 :: a6 :: y :: t) (some (.ref x)) hd (by show 7 < _; simp) (nl_at 6 rfl hn) (Or.inl rfl) k
theorem go_ast8 {a0 a1 a2 a3 a4 a5 a6 a7 y : Option Value} {t : List (Option Value)} {x : Nat} (hd : decode M.2.1 pc = .ok (.astore 8, 2)) (hn : nl1 a7 = true) (k : Go l R M n0 Z (pc + 2) (a0 :: a1 :: a2 :: a3 :: a4 :: a5 :: a6 :: a7 :: some (.ref x) :: t) st h u w) : Go l R M n0 Z pc (a0 :: a1 :: a2 :: a3 :: a4 :: a5 :: a6 :: a7 :: y :: t) (.ref x :: st) h u w :=
  go_astore_ (i := 8) (lv := a0 :: a1 :: a2 :: a3 :: a4 :: a5 :: a6 :: a7 :: y :: t) (some (.ref x)) hd (by show 8 < _; simp) (nl_at 7 rfl hn) (Or.inl rfl) k
theorem go_ast9 {a0 a1 a2 a3 a4 a5 a6 a7 a8 y : Option Value} {t : List (Option Value)} {x : Nat} (hd : decode M.2.1 pc = .ok (.astore 9, 2)) (hn : nl1 a8 = true) (k : Go l R M n0 Z (pc + 2) (a0 :: a1 :: a2 :: a3 :: a4 :: a5 :: a6 :: a7 :: a8 :: some (.ref x) :: t) st h u w) : Go l R M n0 Z pc (a0 :: a1 :: a2 :: a3 :: a4 :: a5 :: a6 :: a7 :: a8 :: y :: t) (.ref x :: st) h u w :=
  go_astore_ (i := 9) (lv := a0 :: a1 :: a2 :: a3 :: a4 :: a5 :: a6 :: a7 :: a8 :: y :: t) (some (.ref x)) hd (by show 9 < _; simp) (nl_at 8 rfl hn) (Or.inl rfl) k
theorem go_lstore_ {i : Nat} {x : Int64} (hd : decode M.2.1 pc = .ok (.lstore i, 2)) (hi : i + 1 < lv.length) (hp : ∀ j v, j + 1 = i → lv[j]? = some (some v) → v.category = 1) (k : Go l R M n0 Z (pc + 2) ((lv.set i (some (.long x))).set (i + 1) none) st h u w) : Go l R M n0 Z pc lv (.long x :: st) h u w := by
  intro p e s m args below meth c D A ρ C cA H locs ls hWd hS hL
  exact lv_lstore C.1 C.2.1 hd hL.has (by rw [← hL.1]; exact hi) rfl (fun ls2 h2 => k p e s m args below meth c D A ρ C cA H locs ls2 hWd hS (Lo.of2 (x := .long x) hL.1 hi hp h2))
theorem go_iinc_ {i : Nat} {n : Int} {x c1 : Int32} (hd : decode M.2.1 pc = .ok (.iinc i n, 3)) (hl : lv[i]? = some (some (.int x))) (hp : ∀ j v, j + 1 = i → lv[j]? = some (some v) → v.category = 1) (hc : Int32.ofInt n = c1) (k : Go l R M n0 Z (pc + 3) (lv.set i (some (.int (x + c1)))) st h u w) : Go l R M n0 Z pc lv st h u w := by
  intro p e s m args below meth c D A ρ C cA H locs ls hWd hS hL
  have hi : i < lv.length := (List.getElem?_eq_some_iff.mp hl).1
  obtain ⟨kk, hk⟩ := List.getElem?_of_mem (asc_mem (ρ := ρ) hl)
  exact lv_iinc (v := x + c1) C.1 C.2.1 hd hL.has (k := kk) hk (by rw [hc]) (by rw [← hL.1]; exact hi) rfl (fun ls2 h2 => k p e s m args below meth c D A ρ C cA H locs ls2 hWd hS (Lo.of1 (x := .int (x + c1)) hL.1 hi hp (fun z hz => by cases hz; rfl) h2))
theorem go_iinc1 {a0 : Option Value} {t : List (Option Value)} {n : Int} {x c1 : Int32} (hd : decode M.2.1 pc = .ok (.iinc 1 n, 3)) (hn : nl1 a0 = true) (hc : Int32.ofInt n = c1) (k : Go l R M n0 Z (pc + 3) (a0 :: some (.int (x + c1)) :: t) st h u w) : Go l R M n0 Z pc (a0 :: some (.int x) :: t) st h u w :=
  go_iinc_ (i := 1) (lv := a0 :: some (.int x) :: t) hd rfl (nl_at 0 rfl hn) hc k
theorem go_iinc2 {a0 a1 : Option Value} {t : List (Option Value)} {n : Int} {x c1 : Int32} (hd : decode M.2.1 pc = .ok (.iinc 2 n, 3)) (hn : nl1 a1 = true) (hc : Int32.ofInt n = c1) (k : Go l R M n0 Z (pc + 3) (a0 :: a1 :: some (.int (x + c1)) :: t) st h u w) : Go l R M n0 Z pc (a0 :: a1 :: some (.int x) :: t) st h u w :=
  go_iinc_ (i := 2) (lv := a0 :: a1 :: some (.int x) :: t) hd rfl (nl_at 1 rfl hn) hc k
theorem go_iinc3 {a0 a1 a2 : Option Value} {t : List (Option Value)} {n : Int} {x c1 : Int32} (hd : decode M.2.1 pc = .ok (.iinc 3 n, 3)) (hn : nl1 a2 = true) (hc : Int32.ofInt n = c1) (k : Go l R M n0 Z (pc + 3) (a0 :: a1 :: a2 :: some (.int (x + c1)) :: t) st h u w) : Go l R M n0 Z pc (a0 :: a1 :: a2 :: some (.int x) :: t) st h u w :=
  go_iinc_ (i := 3) (lv := a0 :: a1 :: a2 :: some (.int x) :: t) hd rfl (nl_at 2 rfl hn) hc k
theorem go_iinc4 {a0 a1 a2 a3 : Option Value} {t : List (Option Value)} {n : Int} {x c1 : Int32} (hd : decode M.2.1 pc = .ok (.iinc 4 n, 3)) (hn : nl1 a3 = true) (hc : Int32.ofInt n = c1) (k : Go l R M n0 Z (pc + 3) (a0 :: a1 :: a2 :: a3 :: some (.int (x + c1)) :: t) st h u w) : Go l R M n0 Z pc (a0 :: a1 :: a2 :: a3 :: some (.int x) :: t) st h u w :=
  go_iinc_ (i := 4) (lv := a0 :: a1 :: a2 :: a3 :: some (.int x) :: t) hd rfl (nl_at 3 rfl hn) hc k
theorem go_iinc5 {a0 a1 a2 a3 a4 : Option Value} {t : List (Option Value)} {n : Int} {x c1 : Int32} (hd : decode M.2.1 pc = .ok (.iinc 5 n, 3)) (hn : nl1 a4 = true) (hc : Int32.ofInt n = c1) (k : Go l R M n0 Z (pc + 3) (a0 :: a1 :: a2 :: a3 :: a4 :: some (.int (x + c1)) :: t) st h u w) : Go l R M n0 Z pc (a0 :: a1 :: a2 :: a3 :: a4 :: some (.int x) :: t) st h u w :=
  go_iinc_ (i := 5) (lv := a0 :: a1 :: a2 :: a3 :: a4 :: some (.int x) :: t) hd rfl (nl_at 4 rfl hn) hc k
theorem go_iinc6 {a0 a1 a2 a3 a4 a5 : Option Value} {t : List (Option Value)} {n : Int} {x c1 : Int32} (hd : decode M.2.1 pc = .ok (.iinc 6 n, 3)) (hn : nl1 a5 = true) (hc : Int32.ofInt n = c1) (k : Go l R M n0 Z (pc + 3) (a0 :: a1 :: a2 :: a3 :: a4 :: a5 :: some (.int (x + c1)) :: t) st h u w) : Go l R M n0 Z pc (a0 :: a1 :: a2 :: a3 :: a4 :: a5 :: some (.int x) :: t) st h u w :=
  go_iinc_ (i := 6) (lv := a0 :: a1 :: a2 :: a3 :: a4 :: a5 :: some (.int x) :: t) hd rfl (nl_at 5 rfl hn) hc k
theorem go_iinc7 {a0 a1 a2 a3 a4 a5 a6 : Option Value} {t : List (Option Value)} {n : Int} {x c1 : Int32} (hd : decode M.2.1 pc = .ok (.iinc 7 n, 3)) (hn : nl1 a6 = true) (hc : Int32.ofInt n = c1) (k : Go l R M n0 Z (pc + 3) (a0 :: a1 :: a2 :: a3 :: a4 :: a5 :: a6 :: some (.int (x + c1)) :: t) st h u w) : Go l R M n0 Z pc (a0 :: a1 :: a2 :: a3 :: a4 :: a5 :: a6 :: some (.int x) :: t) st h u w :=
  go_iinc_ (i := 7) (lv := a0 :: a1 :: a2 :: a3 :: a4 :: a5 :: a6 :: some (.int x) :: t) hd rfl (nl_at 6 rfl hn) hc k
theorem go_iinc8 {a0 a1 a2 a3 a4 a5 a6 a7 : Option Value} {t : List (Option Value)} {n : Int} {x c1 : Int32} (hd : decode M.2.1 pc = .ok (.iinc 8 n, 3)) (hn : nl1 a7 = true) (hc : Int32.ofInt n = c1) (k : Go l R M n0 Z (pc + 3) (a0 :: a1 :: a2 :: a3 :: a4 :: a5 :: a6 :: a7 :: some (.int (x + c1)) :: t) st h u w) : Go l R M n0 Z pc (a0 :: a1 :: a2 :: a3 :: a4 :: a5 :: a6 :: a7 :: some (.int x) :: t) st h u w :=
  go_iinc_ (i := 8) (lv := a0 :: a1 :: a2 :: a3 :: a4 :: a5 :: a6 :: a7 :: some (.int x) :: t) hd rfl (nl_at 7 rfl hn) hc k
theorem go_iinc9 {a0 a1 a2 a3 a4 a5 a6 a7 a8 : Option Value} {t : List (Option Value)} {n : Int} {x c1 : Int32} (hd : decode M.2.1 pc = .ok (.iinc 9 n, 3)) (hn : nl1 a8 = true) (hc : Int32.ofInt n = c1) (k : Go l R M n0 Z (pc + 3) (a0 :: a1 :: a2 :: a3 :: a4 :: a5 :: a6 :: a7 :: a8 :: some (.int (x + c1)) :: t) st h u w) : Go l R M n0 Z pc (a0 :: a1 :: a2 :: a3 :: a4 :: a5 :: a6 :: a7 :: a8 :: some (.int x) :: t) st h u w :=
  go_iinc_ (i := 9) (lv := a0 :: a1 :: a2 :: a3 :: a4 :: a5 :: a6 :: a7 :: a8 :: some (.int x) :: t) hd rfl (nl_at 8 rfl hn) hc k
theorem go_iinc10 {a0 a1 a2 a3 a4 a5 a6 a7 a8 a9 : Option Value} {t : List (Option Value)} {n : Int} {x c1 : Int32} (hd : decode M.2.1 pc = .ok (.iinc 10 n, 3)) (hn : nl1 a9 = true) (hc : Int32.ofInt n = c1) (k : Go l R M n0 Z (pc + 3) (a0 :: a1 :: a2 :: a3 :: a4 :: a5 :: a6 :: a7 :: a8 :: a9 :: some (.int (x + c1)) :: t) st h u w) : Go l R M n0 Z pc (a0 :: a1 :: a2 :: a3 :: a4 :: a5 :: a6 :: a7 :: a8 :: a9 :: some (.int x) :: t) st h u w :=
  go_iinc_ (i := 10) (lv := a0 :: a1 :: a2 :: a3 :: a4 :: a5 :: a6 :: a7 :: a8 :: a9 :: some (.int x) :: t) hd rfl (nl_at 9 rfl hn) hc k
theorem go_iinc11 {a0 a1 a2 a3 a4 a5 a6 a7 a8 a9 a10 : Option Value} {t : List (Option Value)} {n : Int} {x c1 : Int32} (hd : decode M.2.1 pc = .ok (.iinc 11 n, 3)) (hn : nl1 a10 = true) (hc : Int32.ofInt n = c1) (k : Go l R M n0 Z (pc + 3) (a0 :: a1 :: a2 :: a3 :: a4 :: a5 :: a6 :: a7 :: a8 :: a9 :: a10 :: some (.int (x + c1)) :: t) st h u w) : Go l R M n0 Z pc (a0 :: a1 :: a2 :: a3 :: a4 :: a5 :: a6 :: a7 :: a8 :: a9 :: a10 :: some (.int x) :: t) st h u w :=
  go_iinc_ (i := 11) (lv := a0 :: a1 :: a2 :: a3 :: a4 :: a5 :: a6 :: a7 :: a8 :: a9 :: a10 :: some (.int x) :: t) hd rfl (nl_at 10 rfl hn) hc k
theorem go_iinc12 {a0 a1 a2 a3 a4 a5 a6 a7 a8 a9 a10 a11 : Option Value} {t : List (Option Value)} {n : Int} {x c1 : Int32} (hd : decode M.2.1 pc = .ok (.iinc 12 n, 3)) (hn : nl1 a11 = true) (hc : Int32.ofInt n = c1) (k : Go l R M n0 Z (pc + 3) (a0 :: a1 :: a2 :: a3 :: a4 :: a5 :: a6 :: a7 :: a8 :: a9 :: a10 :: a11 :: some (.int (x + c1)) :: t) st h u w) : Go l R M n0 Z pc (a0 :: a1 :: a2 :: a3 :: a4 :: a5 :: a6 :: a7 :: a8 :: a9 :: a10 :: a11 :: some (.int x) :: t) st h u w :=
  go_iinc_ (i := 12) (lv := a0 :: a1 :: a2 :: a3 :: a4 :: a5 :: a6 :: a7 :: a8 :: a9 :: a10 :: a11 :: some (.int x) :: t) hd rfl (nl_at 11 rfl hn) hc k
theorem go_iinc13 {a0 a1 a2 a3 a4 a5 a6 a7 a8 a9 a10 a11 a12 : Option Value} {t : List (Option Value)} {n : Int} {x c1 : Int32} (hd : decode M.2.1 pc = .ok (.iinc 13 n, 3)) (hn : nl1 a12 = true) (hc : Int32.ofInt n = c1) (k : Go l R M n0 Z (pc + 3) (a0 :: a1 :: a2 :: a3 :: a4 :: a5 :: a6 :: a7 :: a8 :: a9 :: a10 :: a11 :: a12 :: some (.int (x + c1)) :: t) st h u w) : Go l R M n0 Z pc (a0 :: a1 :: a2 :: a3 :: a4 :: a5 :: a6 :: a7 :: a8 :: a9 :: a10 :: a11 :: a12 :: some (.int x) :: t) st h u w :=
  go_iinc_ (i := 13) (lv := a0 :: a1 :: a2 :: a3 :: a4 :: a5 :: a6 :: a7 :: a8 :: a9 :: a10 :: a11 :: a12 :: some (.int x) :: t) hd rfl (nl_at 12 rfl hn) hc k
theorem go_iinc14 {a0 a1 a2 a3 a4 a5 a6 a7 a8 a9 a10 a11 a12 a13 : Option Value} {t : List (Option Value)} {n : Int} {x c1 : Int32} (hd : decode M.2.1 pc = .ok (.iinc 14 n, 3)) (hn : nl1 a13 = true) (hc : Int32.ofInt n = c1) (k : Go l R M n0 Z (pc + 3) (a0 :: a1 :: a2 :: a3 :: a4 :: a5 :: a6 :: a7 :: a8 :: a9 :: a10 :: a11 :: a12 :: a13 :: some (.int (x + c1)) :: t) st h u w) : Go l R M n0 Z pc (a0 :: a1 :: a2 :: a3 :: a4 :: a5 :: a6 :: a7 :: a8 :: a9 :: a10 :: a11 :: a12 :: a13 :: some (.int x) :: t) st h u w :=
  go_iinc_ (i := 14) (lv := a0 :: a1 :: a2 :: a3 :: a4 :: a5 :: a6 :: a7 :: a8 :: a9 :: a10 :: a11 :: a12 :: a13 :: some (.int x) :: t) hd rfl (nl_at 13 rfl hn) hc k
theorem go_iinc15 {a0 a1 a2 a3 a4 a5 a6 a7 a8 a9 a10 a11 a12 a13 a14 : Option Value} {t : List (Option Value)} {n : Int} {x c1 : Int32} (hd : decode M.2.1 pc = .ok (.iinc 15 n, 3)) (hn : nl1 a14 = true) (hc : Int32.ofInt n = c1) (k : Go l R M n0 Z (pc + 3) (a0 :: a1 :: a2 :: a3 :: a4 :: a5 :: a6 :: a7 :: a8 :: a9 :: a10 :: a11 :: a12 :: a13 :: a14 :: some (.int (x + c1)) :: t) st h u w) : Go l R M n0 Z pc (a0 :: a1 :: a2 :: a3 :: a4 :: a5 :: a6 :: a7 :: a8 :: a9 :: a10 :: a11 :: a12 :: a13 :: a14 :: some (.int x) :: t) st h u w :=
  go_iinc_ (i := 15) (lv := a0 :: a1 :: a2 :: a3 :: a4 :: a5 :: a6 :: a7 :: a8 :: a9 :: a10 :: a11 :: a12 :: a13 :: a14 :: some (.int x) :: t) hd rfl (nl_at 14 rfl hn) hc k
end
