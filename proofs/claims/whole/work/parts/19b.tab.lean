/-! switches; locals that are forgotten -/
def lsub : List (Option Value) → List (Option Value) → Prop
  | [], [] => True
  | none :: a, _ :: b => lsub a b
  | some x :: a, y :: b => y = some x ∧ lsub a b
  | _, _ => False
theorem lsub_len : ∀ {a b : List (Option Value)}, lsub a b → a.length = b.length
  | [], [], _ => rfl
  | none :: a, _ :: b, h => by simp [lsub_len (a := a) (b := b) h]
  | some x :: a, y :: b, h => by simp [lsub_len (a := a) (b := b) h.2]
  | [], _ :: _, h => h.elim
  | none :: _, [], h => h.elim
  | some _ :: _, [], h => h.elim
theorem lsub_at : ∀ {a b : List (Option Value)}, lsub a b → ∀ (i : Nat) (v : Value), a[i]? = some (some v) → b[i]? = some (some v)
  | [], [], _, i, v, h => by simp at h
  | none :: a, _ :: b, h, i, v, hi => by
    cases i with
    | zero => simp at hi
    | succ i => simpa using lsub_at (a := a) (b := b) h i v (by simpa using hi)
  | some x :: a, y :: b, h, i, v, hi => by
    cases i with
    | zero => simp at hi; simp [h.1, hi]
    | succ i => simpa using lsub_at (a := a) (b := b) h.2 i v (by simpa using hi)
  | [], _ :: _, h, _, _, _ => h.elim
  | none :: _, [], h, _, _, _ => h.elim
  | some _ :: _, [], h, _, _, _ => h.elim
section
variable {l : Launch} {R : Room} {M : MI} {n0 : Nat} {Z : ZT} {pc : Nat} {lv lv' : List (Option Value)} {st : List Value} {h h' : Hp} {u w : Nat}
theorem go_back (k : Go l R M n0 Z pc lv' st h' u w) (e : lsub lv' lv) (eh : h = h') : Go l R M n0 Z pc lv st h u w := by
  subst eh
  intro p e1 s m args below meth c D A ρ C cA H locs ls hWd hS hL
  exact k p e1 s m args below meth c D A ρ C cA H locs ls hWd hS ⟨(lsub_len e).trans hL.1, hL.2.1, hL.2.2.1, fun i v hi => hL.2.2.2 i v (lsub_at e i v hi)⟩
theorem nI_toInt32 {x : Int32} {n : Nat} (h : x.toInt = (n : Int)) (hn : n < 2 ^ 31) : x = nI n := Int32.toInt_inj.mp (by rw [h, nI_toInt hn])
theorem go_tab {dflt lo hi : Int} {offs : Array Int} {len : Nat} {x : Int32} (n lo' dt : Nat) (tgs : List Nat) (hd : decode M.2.1 pc = .ok (.tableswitch dflt lo hi offs, len)) (hlo : lo = (lo' : Int)) (hhi : hi + 1 = ((lo' + n : Nat) : Int)) (hdt : (pc : Int) + dflt = (dt : Int)) (hn : tgs.length = n) (ho : offs.toList.map (fun o => (pc : Int) + o) = tgs.map (fun t : Nat => (t : Int))) (hsm : lo' + n < 2 ^ 31)
    (kd : (∀ i, i < n → ¬ x = nI (lo' + i)) → Go l R M n0 Z dt lv st h u w) (ki : ∀ i, i < n → x = nI (lo' + i) → Go l R M n0 Z (tgs.getD i 0) lv st h u w) : Go l R M n0 Z pc lv (.int x :: st) h u w := by
  by_cases hc : x.toInt < lo ∨ hi < x.toInt
  · refine go_tabOut hd hc hdt (kd (fun i hi2 e => ?_))
    rw [e, nI_toInt (by omega)] at hc
    omega
  · have h1 : ¬ x.toInt < lo := fun q => hc (Or.inl q)
    have h2 : ¬ hi < x.toInt := fun q => hc (Or.inr q)
    have h3 : (x.toInt - lo).toNat < n := by omega
    have h4 : x = nI (lo' + (x.toInt - lo).toNat) := nI_toInt32 (by omega) (by omega)
    have h5 : (offs.toList.map (fun o => (pc : Int) + o))[(x.toInt - lo).toNat]? = some ((tgs.getD (x.toInt - lo).toNat 0 : Nat) : Int) := by
      rw [ho, List.getElem?_map, List.getD_eq_getElem?_getD, List.getElem?_eq_getElem (by omega)]
      rfl
    rw [List.getElem?_map] at h5
    cases h6 : offs.toList[(x.toInt - lo).toNat]? with
    | none => rw [h6] at h5; cases h5
    | some o =>
      rw [h6] at h5
      refine go_tabIn hd h1 h2 (by rw [← Array.getElem?_toList]; exact h6) (Option.some.inj h5) (ki _ h3 h4)
end
