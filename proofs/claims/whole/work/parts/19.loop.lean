/-! loops; rows of bits -/
section
variable {l : Launch} {R : Room} {M : MI} {n0 : Nat} {Z : ZT} {pc : Nat} {st : List Value} {u w : Nat}
theorem go_cong {lv lv' : List (Option Value)} {h h' : Hp} (k : Go l R M n0 Z pc lv' st h' u w) (e : lv = lv') (eh : h = h') : Go l R M n0 Z pc lv st h u w := by rw [e, eh]; exact k
/-- a loop that counts up: the locals and the heap are functions of the count -/
theorem go_loop {lvf : Nat → List (Option Value)} {hf : Nat → Hp} (N : Nat) (I : Nat → Prop) (body : ∀ k, k < N → I k → (I (k + 1) → Go l R M n0 Z pc (lvf (k + 1)) st (hf (k + 1)) u w) → Go l R M n0 Z pc (lvf k) st (hf k) u w)
    (exit : I N → Go l R M n0 Z pc (lvf N) st (hf N) u w) : ∀ k, k ≤ N → I k → Go l R M n0 Z pc (lvf k) st (hf k) u w := by
  have h : ∀ j k, k + j = N → I k → Go l R M n0 Z pc (lvf k) st (hf k) u w := by
    intro j
    induction j with
    | zero => intro k hk hI; have : k = N := by omega
              subst this; exact exit hI
    | succ j ih => intro k hk hI; exact body k (by omega) hI (fun h1 => ih (k + 1) (by omega) h1)
  exact fun k hk hI => h (N - k) k (by omega) hI
/-- .. counting down -/
theorem go_down {lvf : Nat → List (Option Value)} {hf : Nat → Hp} (I : Nat → Prop) (body : ∀ k, I (k + 1) → (I k → Go l R M n0 Z pc (lvf k) st (hf k) u w) → Go l R M n0 Z pc (lvf (k + 1)) st (hf (k + 1)) u w)
    (exit : I 0 → Go l R M n0 Z pc (lvf 0) st (hf 0) u w) : ∀ k, I k → Go l R M n0 Z pc (lvf k) st (hf k) u w := by
  intro k
  induction k with
  | zero => exact exit
  | succ k ih => exact fun h => body k h ih
end
/-- the bits of those below n of which P holds -/
def btF (P : Nat → Prop) [DecidablePred P] : Nat → Int32
  | 0 => 0
  | k + 1 => if P k then btF P k ||| (1 <<< (nI k &&& 31)) else btF P k
theorem cl_nI {n : Nat} (h : n < 2 ^ 31) : (nI n).toNatClampNeg = n := nI_clamp h
