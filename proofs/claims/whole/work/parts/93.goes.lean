/-! the model's next token -/
theorem i2l_c : ∀ c : Fin 32, (nI c.val).toInt64 = lN c.val := by decide +kernel
theorem lw_5 {a c : Nat} (ha : a < 2 ^ 40) (hc : c < 32) : (lN a <<< ((5 : Int32).toInt64 &&& 63)) ||| (nI c).toInt64 = lN (32 * a + c) := by
  rw [i2l_c ⟨c, hc⟩]
  refine Int64.toBitVec_inj.mp (BitVec.eq_of_toNat_eq ?_)
  have e1 : (lN a <<< ((5 : Int32).toInt64 &&& 63)).toBitVec = (lN a).toBitVec <<< 5 := by
    show (lN a).toBitVec <<< (((5 : Int32).toInt64 &&& 63).toBitVec.smod 64) = _
    rw [show (((5 : Int32).toInt64 &&& 63).toBitVec.smod 64) = 5#64 from by decide]
    rfl
  have n1 : ∀ m, m < 2 ^ 60 → (lN m).toBitVec.toNat = m := fun m hm => by
    show (BitVec.ofNat 64 m).toNat = m
    rw [BitVec.toNat_ofNat]; omega
  show ((lN a <<< ((5 : Int32).toInt64 &&& 63)).toBitVec ||| (lN c).toBitVec).toNat = _
  rw [BitVec.toNat_or, e1, BitVec.toNat_shiftLeft, n1 a (by omega), n1 c (by omega), n1 _ (by omega), Nat.shiftLeft_eq, Nat.mod_eq_of_lt (by omega)]
  have := Nat.two_pow_add_eq_or_of_lt (b := c) (i := 5) hc a
  rw [Nat.mul_comm a (2 ^ 5), ← this]
/-- a frame that lets the word go -/
def Fj (S : Nat → Nat → Prop) (g g' : Hp) : Prop := hR g' = hR g ∧ hN g' = hN g ∧ (∀ a k, a ≠ 77 → hJ g' a k = hJ g a k) ∧ ∀ a k, ¬ S a k → hI g' a k = hI g a k
theorem Fj.rf {S : Nat → Nat → Prop} {g : Hp} : Fj S g g := ⟨rfl, rfl, fun _ _ _ => rfl, fun _ _ _ => rfl⟩
theorem Fj.tr {S : Nat → Nat → Prop} {g g1 g2 : Hp} (h1 : Fj S g g1) (h2 : Fj S g1 g2) : Fj S g g2 := ⟨h2.1.trans h1.1, h2.2.1.trans h1.2.1, fun a k q => (h2.2.2.1 a k q).trans (h1.2.2.1 a k q), fun a k q => (h2.2.2.2 a k q).trans (h1.2.2.2 a k q)⟩
theorem Fj.sub {S S' : Nat → Nat → Prop} {g g' : Hp} (h : Fj S g g') (i : ∀ a k, S a k → S' a k) : Fj S' g g' := ⟨h.1, h.2.1, h.2.2.1, fun a k q => h.2.2.2 a k (fun z => q (i a k z))⟩
theorem Fj.uI {S : Nat → Nat → Prop} {g g1 : Hp} (h : Fj S g g1) {a k : Nat} {v : Int32} (ha : S a k) : Fj S g (uI g1 a k v) := h.tr ⟨rfl, rfl, fun _ _ _ => rfl, fun a' k' q => hI_uI_ne (fun z => q (z.1 ▸ z.2 ▸ ha))⟩
theorem Fj.St {S : Nat → Nat → Prop} {g g' : Hp} (h : Fj S g g') (hS : St g) : St g' := ⟨h.2.1.trans hS.1, fun q hq => by rw [h.1]; exact hS.2 q hq⟩
theorem Fj.I {S : Nat → Nat → Prop} {g g' : Hp} (h : Fj S g g') {a k : Nat} (q : ¬ S a k) : hI g' a k = hI g a k := h.2.2.2 a k q
theorem Fz.j {S : Nat → Nat → Prop} {g g' : Hp} (h : Fz S g g') : Fj S g g' := ⟨h.1, h.2.1, fun a k _ => by rw [h.2.2.1], h.2.2.2⟩
