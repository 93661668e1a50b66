/-! bits -/
def bI (x : Int32) (i : Nat) : Bool := x.toBitVec.getLsbD i
theorem bI_ext {x y : Int32} (h : ∀ i, i < 32 → bI x i = bI y i) : x = y := by
  apply Int32.toBitVec_inj.mp
  apply BitVec.eq_of_getLsbD_eq
  exact h
theorem bI_or {x y : Int32} {i : Nat} : bI (x ||| y) i = (bI x i || bI y i) := by simp [bI]
theorem bI_and {x y : Int32} {i : Nat} : bI (x &&& y) i = (bI x i && bI y i) := by simp [bI]
theorem bI_xor {x y : Int32} {i : Nat} : bI (x ^^^ y) i = (bI x i ^^ bI y i) := by simp [bI]
theorem bI_0 {i : Nat} : bI 0 i = false := by simp [bI]
theorem bI_m1 {i : Nat} (h : i < 32) : bI (-1) i = true := by
  have : (-1 : Int32).toBitVec = BitVec.allOnes 32 := by decide
  rw [bI, this, BitVec.getLsbD_allOnes]
  simp [h]
theorem sm_nI : ∀ k : Fin 32, (nI k.val &&& 31).toBitVec.smod 32 = BitVec.ofNat 32 k.val := by decide +kernel
theorem one_sh : ∀ k : Fin 32, ((1 : Int32) <<< (nI k.val &&& 31)).toBitVec = BitVec.twoPow 32 k.val := by decide +kernel
theorem bI_one {k i : Nat} (hk : k < 32) (hi : i < 32) : bI (1 <<< (nI k &&& 31)) i = decide (i = k) := by
  rw [bI, one_sh ⟨k, hk⟩, BitVec.getLsbD_twoPow]
  simp only [hk, decide_true, Bool.true_and]
  exact decide_eq_decide.mpr ⟨fun q => q.symm, fun q => q.symm⟩
theorem bI_btF {P : Nat → Prop} [DecidablePred P] {n i : Nat} (hn : n ≤ 32) (hi : i < 32) : bI (btF P n) i = decide (i < n ∧ P i) := by
  induction n with
  | zero => simp [btF, bI_0]
  | succ n ih =>
    have ih := ih (by omega)
    simp only [btF]
    split
    · next q =>
      rw [bI_or, ih, bI_one (by omega) hi]
      by_cases e : i = n
      · subst e; simp [q]
      · have : (i < n + 1) ↔ i < n := by omega
        simp [e, this]
    · next q =>
      rw [ih]
      by_cases e : i = n
      · subst e; simp [q]
      · have : (i < n + 1) ↔ i < n := by omega
        simp [this]
theorem sh_bit {x : Int32} {t : Nat} (ht : t < 32) : x >>> (nI t &&& 31) &&& 1 = if bI x t then 1 else 0 := by
  apply Int32.toBitVec_inj.mp
  apply BitVec.eq_of_getLsbD_eq
  intro i hi
  have e : (x >>> (nI t &&& 31)).toBitVec = x.toBitVec.sshiftRight t := by
    rw [Int32.toBitVec_shiftRight, sm_nI ⟨t, ht⟩]
    rw [BitVec.sshiftRight_eq', BitVec.toNat_ofNat, Nat.mod_eq_of_lt (by omega)]
  rw [Int32.toBitVec_and, BitVec.getLsbD_and, e]
  have e1 : (1 : Int32).toBitVec.getLsbD i = decide (i = 0) := by
    have : (1 : Int32).toBitVec = BitVec.twoPow 32 0 := by decide
    rw [this, BitVec.getLsbD_twoPow]; simp [eq_comm]
  rw [e1]
  by_cases e0 : i = 0
  · subst e0
    simp only [decide_true, Bool.and_true, BitVec.getLsbD_sshiftRight]
    have w : x.toBitVec.getLsbD t = bI x t := rfl
    rw [Nat.add_zero, w]
    cases bI x t <;> simp [ht]
  · simp only [e0, decide_false, Bool.and_false]
    split
    · have : (1 : Int32).toBitVec = BitVec.twoPow 32 0 := by decide
      rw [this, BitVec.getLsbD_twoPow]; simp; omega
    · simp
theorem sh_bit0 {x : Int32} {t : Nat} (ht : t < 32) : (x >>> (nI t &&& 31) &&& 1 = 0) ↔ bI x t = false := by
  rw [sh_bit ht]; cases bI x t <;> simp
theorem sh_bit1 {x : Int32} {t : Nat} (ht : t < 32) : (x >>> (nI t &&& 31) &&& 1 = 1) ↔ bI x t = true := by
  rw [sh_bit ht]; cases bI x t <;> simp
theorem btF_cong {P Q : Nat → Prop} [DecidablePred P] [DecidablePred Q] {n : Nat} (h : ∀ i, i < n → (P i ↔ Q i)) : btF P n = btF Q n := by
  induction n with
  | zero => rfl
  | succ n ih =>
    have ih := ih (fun i hi => h i (by omega))
    have hn := h n (by omega)
    simp only [btF, ih]
    by_cases q : P n
    · rw [if_pos q, if_pos (hn.mp q)]
    · rw [if_neg q, if_neg (fun z => q (hn.mpr z))]
theorem btF_not {P : Nat → Prop} [DecidablePred P] {n p : Nat} (hn : n ≤ 32) (hp : p < 32) : btF P n &&& notB p = btF (fun o => P o ∧ o ≠ p) n := by
  apply bI_ext
  intro i hi
  rw [bI_and, bI_btF hn hi, bI_btF hn hi, notB, bI_xor, bI_one hp hi, bI_m1 hi]
  by_cases q : i = p <;> simp [q]
theorem btF_zero {P : Nat → Prop} [DecidablePred P] {n : Nat} (hn : n ≤ 32) : btF P n = 0 ↔ ∀ i, i < n → ¬ P i := by
  constructor
  · intro h i hi hP
    have := bI_btF (P := P) hn (show i < 32 by omega)
    rw [h, bI_0] at this
    simp [hi, hP] at this
  · intro h
    apply bI_ext
    intro i hi
    rw [bI_btF hn hi, bI_0]
    simp only [decide_eq_false_iff_not]
    exact fun q => h i q.1 q.2
/-- the first one below n with P -/
def fsN (P : Nat → Prop) [DecidablePred P] : Nat → Option Nat
  | 0 => none
  | n + 1 => match fsN P n with
    | some j => some j
    | none => if P n then some n else none
theorem fs_none {P : Nat → Prop} [DecidablePred P] {n : Nat} (h : ∀ j, j < n → ¬ P j) : fsN P n = none := by
  induction n with
  | zero => rfl
  | succ n ih => rw [fsN, ih (fun j hj => h j (by omega))]; exact if_neg (h n (by omega))
theorem fs_some {P : Nat → Prop} [DecidablePred P] {n k : Nat} (hk : k < n) (hP : P k) (h : ∀ j, j < k → ¬ P j) : fsN P n = some k := by
  induction n with
  | zero => omega
  | succ n ih =>
    by_cases e : k = n
    · subst e; rw [fsN, fs_none h]; exact if_pos hP
    · rw [fsN, ih (by omega)]
theorem fs_cong {P Q : Nat → Prop} [DecidablePred P] [DecidablePred Q] {n : Nat} (h : ∀ i, i < n → (P i ↔ Q i)) : fsN P n = fsN Q n := by
  induction n with
  | zero => rfl
  | succ n ih =>
    have ih := ih (fun i hi => h i (by omega))
    have hn := h n (by omega)
    simp only [fsN, ih]
    split
    · rfl
    · by_cases q : P n
      · rw [if_pos q, if_pos (hn.mp q)]
      · rw [if_neg q, if_neg (fun z => q (hn.mpr z))]
theorem fs_of_none {P : Nat → Prop} [DecidablePred P] {n : Nat} (h : fsN P n = none) : ∀ j, j < n → ¬ P j := by
  induction n with
  | zero => intro j hj; omega
  | succ n ih =>
    rw [fsN] at h
    split at h
    · cases h
    · next q =>
      intro j hj
      by_cases e : j = n
      · subst e; intro z; rw [if_pos z] at h; cases h
      · exact ih q j (by omega)
theorem fs_of_some {P : Nat → Prop} [DecidablePred P] {n k : Nat} (h : fsN P n = some k) : k < n ∧ P k ∧ ∀ j, j < k → ¬ P j := by
  induction n with
  | zero => cases h
  | succ n ih =>
    rw [fsN] at h
    split at h
    · next q => cases h; obtain ⟨a, b, c⟩ := ih q; exact ⟨by omega, b, c⟩
    · next q =>
      split at h
      · next z => cases h; exact ⟨by omega, z, fs_of_none q⟩
      · cases h
theorem foF_cong {α : Type} {f g : Nat → α → α} {a : α} {n : Nat} (h : ∀ i, i < n → ∀ x, f i x = g i x) : foF f a n = foF g a n := by
  induction n with
  | zero => rfl
  | succ n ih => rw [foF, foF, ih (fun i hi => h i (by omega)), h n (by omega)]
/-- -1 without any -/
def oN (f : Nat → Int32) : Option Nat → Int32
  | some k => f k
  | none => -1
/-! who looks -/
/-- who looks at p on day dd, as bits -/
def lkA (h : Hp) (b c P p dd : Nat) : Int32 := btF (fun o => (hI h (c + 2) o = 0 ∧ plN h b c o dd = plN h b c p dd) ∧ o ≠ p) P
theorem vp_nI {x : Int32} {n : Nat} (hx : vp_in x n) (hn : n < 2 ^ 31) : nI x.toNatClampNeg = x ∧ x.toNatClampNeg < n := by
  obtain ⟨j, h1, rfl⟩ := vp_in_of hx hn
  rw [cl_nI (by omega)]; exact ⟨rfl, h1⟩
theorem cl_inj {x y : Int32} {n : Nat} (hx : vp_in x n) (hy : vp_in y n) (hn : n < 2 ^ 31) (h : x.toNatClampNeg = y.toNatClampNeg) : x = y := by
  rw [← (vp_nI hx hn).1, ← (vp_nI hy hn).1, h]
theorem sgF_at {h : Hp} {b c dd n x : Nat} {f : Nat → Int32} (hf : f x = 0) : sgF h b c dd f n x = btF (fun o => hI h (c + 2) o = 0 ∧ (plN h b c o dd).toNatClampNeg = x) n := by
  induction n with
  | zero => exact hf
  | succ n ih =>
    simp only [sgF, foF, btF] at ih ⊢
    by_cases q : hI h (c + 2) n = 0
    · simp only [q, if_true, true_and]
      by_cases z : (plN h b c n dd).toNatClampNeg = x
      · rw [if_pos z, z, pk_us, ih]
      · rw [if_neg z, pk_un (Ne.symm z), ih]
    · simp only [q, if_false, false_and, ih]
theorem lkF_lkA {h : Hp} {b c N P p dd : Nat} (H : TC h b c N P) (K : WK h b c P) (hp : p < P) (hd : dd < 2 ^ 31) : lkF h b c P p dd = lkA h b c P p dd := by
  have hP := H.2.2.2.2.2.2.2
  have hx := (K.pl (dd := dd) hP hp hd).2.2
  have h6 := (vp_nI hx (by decide)).2
  rw [lkF, sgF_at (by rw [flF, if_pos h6]), btF_not (by omega) (by omega), lkA]
  refine btF_cong (fun o ho => ?_)
  have ho2 := (K.pl (dd := dd) hP ho hd).2.2
  constructor
  · rintro ⟨⟨a, b⟩, c⟩; exact ⟨⟨a, cl_inj ho2 hx (by decide) b⟩, c⟩
  · rintro ⟨⟨a, b⟩, c⟩; exact ⟨⟨a, by rw [b]⟩, c⟩
