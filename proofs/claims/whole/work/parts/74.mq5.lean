/-! whom one comes to -/
/-- a step on: whom p comes to at once, or by those in S -/
def phB (A : Nat → Nat → Bool) (p P : Nat) (S : Nat → Bool) (o : Nat) : Bool := A p o || (List.range P).any (fun q => S q && A q o)
def skB (A : Nat → Nat → Bool) (p P : Nat) : Nat → Nat → Bool := foF (fun _ S => phB A p P S) (fun _ => false)
theorem ph_iff {A : Nat → Nat → Bool} {p P : Nat} {S : Nat → Bool} {o : Nat} : phB A p P S o = true ↔ A p o = true ∨ ∃ q, q < P ∧ S q = true ∧ A q o = true := by
  unfold phB
  rw [Bool.or_eq_true, List.any_eq_true]
  constructor
  · rintro (h | ⟨q, hq, h⟩)
    · exact Or.inl h
    · rw [Bool.and_eq_true] at h
      exact Or.inr ⟨q, List.mem_range.mp hq, h.1, h.2⟩
  · rintro (h | ⟨q, hq, h1, h2⟩)
    · exact Or.inl h
    · exact Or.inr ⟨q, List.mem_range.mpr hq, by rw [Bool.and_eq_true]; exact ⟨h1, h2⟩⟩
theorem ph_mono {A : Nat → Nat → Bool} {p P : Nat} {S S' : Nat → Bool} {o : Nat} (h : ∀ q, q < P → S q = true → S' q = true) (ho : phB A p P S o = true) : phB A p P S' o = true := by
  rw [ph_iff] at ho ⊢
  rcases ho with z | ⟨q, hq, z1, z2⟩
  · exact Or.inl z
  · exact Or.inr ⟨q, hq, h q hq z1, z2⟩
theorem sk_s {A : Nat → Nat → Bool} {p P k : Nat} : skB A p P (k + 1) = phB A p P (skB A p P k) := rfl
theorem sk_mono {A : Nat → Nat → Bool} {p P k o : Nat} (h : skB A p P k o = true) : skB A p P (k + 1) o = true := by
  induction k generalizing o with
  | zero => cases h
  | succ k ih => rw [sk_s] at h ⊢; exact ph_mono (fun q _ z => ih z) h
theorem ct_le {Q : Nat → Prop} [DecidablePred Q] {n : Nat} : ctN Q n ≤ n := by
  induction n with
  | zero => exact Nat.le_refl _
  | succ n ih =>
    show (if Q n then ctN Q n + 1 else ctN Q n) ≤ n + 1
    split <;> omega
theorem ct_mono {Q Q' : Nat → Prop} [DecidablePred Q] [DecidablePred Q'] {n : Nat} (h : ∀ i, i < n → Q i → Q' i) : ctN Q n ≤ ctN Q' n ∧ ((∃ i, i < n ∧ Q' i ∧ ¬ Q i) → ctN Q n < ctN Q' n) := by
  induction n with
  | zero => exact ⟨Nat.le_refl _, fun ⟨i, hi, _⟩ => absurd hi (Nat.not_lt_zero _)⟩
  | succ n ih =>
    obtain ⟨i1, i2⟩ := ih (fun i hi => h i (by omega))
    have hn := h n (by omega)
    show (if Q n then ctN Q n + 1 else ctN Q n) ≤ (if Q' n then ctN Q' n + 1 else ctN Q' n) ∧ (_ → (if Q n then ctN Q n + 1 else ctN Q n) < (if Q' n then ctN Q' n + 1 else ctN Q' n))
    by_cases a : Q n
    · rw [if_pos a, if_pos (hn a)]
      refine ⟨by omega, fun ⟨i, hi, z1, z2⟩ => ?_⟩
      have : i ≠ n := fun e => z2 (e ▸ a)
      have := i2 ⟨i, by omega, z1, z2⟩
      omega
    · rw [if_neg a]
      by_cases b : Q' n
      · rw [if_pos b]; exact ⟨by omega, fun _ => by omega⟩
      · rw [if_neg b]
        refine ⟨i1, fun ⟨i, hi, z1, z2⟩ => ?_⟩
        have : i ≠ n := fun e => b (e ▸ z1)
        exact i2 ⟨i, by omega, z1, z2⟩
theorem ct_full {Q : Nat → Prop} [DecidablePred Q] {n : Nat} (h : n ≤ ctN Q n) : ∀ i, i < n → Q i := by
  induction n with
  | zero => exact fun i hi => absurd hi (Nat.not_lt_zero _)
  | succ n ih =>
    have h : n + 1 ≤ (if Q n then ctN Q n + 1 else ctN Q n) := h
    have hl := ct_le (Q := Q) (n := n)
    by_cases a : Q n
    · rw [if_pos a] at h
      intro i hi
      by_cases e : i = n
      · subst e; exact a
      · exact ih (by omega) i (by omega)
    · rw [if_neg a] at h; omega
/-- nothing more comes -/
def cloB (A : Nat → Nat → Bool) (p P k : Nat) : Prop := ∀ o, o < P → skB A p P (k + 1) o = true → skB A p P k o = true
theorem clo_or {A : Nat → Nat → Bool} {p P : Nat} (k : Nat) : cloB A p P k ∨ k ≤ ctN (fun o => skB A p P k o = true) P := by
  induction k with
  | zero => exact Or.inr (Nat.zero_le _)
  | succ k ih =>
    by_cases c : cloB A p P k
    · left
      intro o ho h
      rw [sk_s] at h ⊢
      exact ph_mono (fun q hq z => c q hq z) h
    · have ih := ih.resolve_left c
      right
      have : ∃ o, o < P ∧ skB A p P (k + 1) o = true ∧ ¬ skB A p P k o = true := Classical.byContradiction (fun q => c (fun o ho h => Classical.byContradiction (fun z => q ⟨o, ho, h, z⟩)))
      have := (ct_mono (Q := fun o => skB A p P k o = true) (Q' := fun o => skB A p P (k + 1) o = true) (n := P) (fun i _ z => sk_mono z)).2 this
      omega
theorem clo_P {A : Nat → Nat → Bool} {p P : Nat} : cloB A p P P := by
  rcases clo_or (A := A) (p := p) (P := P) P with h | h
  · exact h
  · exact fun o ho _ => ct_full h o ho
/-- by whose things one comes to whom -/
def arA (C : Cy) (T : Tn) (q o : Nat) : Bool := (List.range (cN C)).any (fun t => decide (tB T t = nI q) && decide (tO T t = nI o))
theorem ar_iff {C : Cy} {T : Tn} {q o : Nat} : arA C T q o = true ↔ ∃ t, t < cN C ∧ tB T t = nI q ∧ tO T t = nI o := by
  unfold arA
  rw [List.any_eq_true]
  constructor
  · rintro ⟨t, ht, h⟩
    rw [Bool.and_eq_true, decide_eq_true_eq, decide_eq_true_eq] at h
    exact ⟨t, List.mem_range.mp ht, h.1, h.2⟩
  · rintro ⟨t, ht, h1, h2⟩
    exact ⟨t, List.mem_range.mpr ht, by rw [Bool.and_eq_true, decide_eq_true_eq, decide_eq_true_eq]; exact ⟨h1, h2⟩⟩
abbrev skT (C : Cy) (T : Tn) (p : Nat) : Nat → Nat → Bool := skB (arA C T) p (cP C)
theorem bI_on {o i : Nat} (ho : o < 8) (hi : i < 32) : bI (1 <<< (nI o &&& 31)) i = decide (i = o) := bI_one (by omega) hi
theorem ow_bit {C : Cy} {T : Tn} {v : Int32} {n i : Nat} (V : WT C T) (hP : cP C ≤ 8) (hn : n ≤ cN C) (hN : cN C ≤ 10) (hi : i < 32) : bI (owF C T v n) i = true ↔ ∃ t, t < n ∧ bI v t = true ∧ tO T t = nI i ∧ i < cP C := by
  induction n with
  | zero => exact ⟨fun h => (by have : bI (0 : Int32) i = true := h; rw [bI_0] at this; exact absurd this (by decide)), fun ⟨t, ht, _⟩ => absurd ht (Nat.not_lt_zero _)⟩
  | succ n ih =>
    have ih := ih (by omega)
    obtain ⟨o, ho, eo⟩ := (V.1 n (by omega)).1
    show bI (if v >>> (nI n &&& 31) &&& 1 = 0 then owF C T v n else owF C T v n ||| (1 <<< (tO T n &&& 31))) i = true ↔ _
    by_cases a : v >>> (nI n &&& 31) &&& 1 = 0
    · rw [if_pos a, ih]
      have a' := (sh_bit0 (by omega)).mp a
      constructor
      · rintro ⟨t, ht, h⟩; exact ⟨t, by omega, h⟩
      · rintro ⟨t, ht, h1, h2⟩
        have : t ≠ n := fun e => by rw [e, a'] at h1; cases h1
        exact ⟨t, by omega, h1, h2⟩
    · have a' : bI v n = true := by cases q : bI v n; exact absurd ((sh_bit0 (by omega)).mpr q) a; rfl
      rw [if_neg a, bI_or, Bool.or_eq_true, ih, eo, bI_on (by omega) hi, decide_eq_true_eq]
      constructor
      · rintro (⟨t, ht, h⟩ | e)
        · exact ⟨t, by omega, h⟩
        · subst e; exact ⟨n, by omega, a', eo, ho⟩
      · rintro ⟨t, ht, h1, h2, h3⟩
        by_cases e : t = n
        · subst e; right; rw [eo] at h2; exact ((nI_eq (by omega) (by omega)).mp h2).symm
        · exact Or.inl ⟨t, by omega, h1, h2, h3⟩
theorem rw_bit {C : Cy} {T : Tn} {q i : Nat} (W : WC C) (V : WT C T) (hi : i < 32) : bI (rwT C T q) i = true ↔ arA C T q i = true ∧ i < cP C := by
  have hP := W.1.2.1
  have hN := W.1.1
  unfold rwT
  rw [ow_bit V hP (Nat.le_refl _) hN hi, ar_iff]
  constructor
  · rintro ⟨t, ht, h1, h2, h3⟩
    rw [bI_btF (by omega) (by omega), decide_eq_true_eq] at h1
    exact ⟨⟨t, ht, h1.2, h2⟩, h3⟩
  · rintro ⟨⟨t, ht, h1, h2⟩, h3⟩
    exact ⟨t, ht, by rw [bI_btF (by omega) (by omega), decide_eq_true_eq]; exact ⟨ht, h1⟩, h2, h3⟩
/-- between two stages -/
def btw (C : Cy) (T : Tn) (p k : Nat) (v : Int32) : Prop := (∀ i, i < cP C → skT C T p k i = true → bI v i = true) ∧ ∀ i, i < 32 → bI v i = true → i < cP C ∧ skT C T p (cP C) i = true
theorem clo_in {C : Cy} {T : Tn} {p i : Nat} (h : phB (arA C T) p (cP C) (skT C T p (cP C)) i = true) (hi : i < cP C) : skT C T p (cP C) i = true := clo_P i hi h
theorem btw_eq {C : Cy} {T : Tn} {p k k' : Nat} {v v' : Int32} (hk : cP C ≤ k) (hk' : cP C ≤ k') (h : btw C T p k v) (h' : btw C T p k' v') : v = v' := by
  have up : ∀ m i, cP C ≤ m → skT C T p (cP C) i = true → skT C T p m i = true := by
    intro m i hm z
    induction m with
    | zero => have : cP C = 0 := by omega
              rw [this] at z; exact z
    | succ m ih =>
      by_cases e : cP C = m + 1
      · rw [← e]; exact z
      · exact sk_mono (ih (by omega))
  refine bI_ext fun i hi => ?_
  have e1 : bI v i = true ↔ bI v' i = true := ⟨fun z => by obtain ⟨a, b⟩ := h.2 i hi z; exact h'.1 i a (up _ i hk' b), fun z => by obtain ⟨a, b⟩ := h'.2 i hi z; exact h.1 i a (up _ i hk b)⟩
  cases a : bI v i <;> cases b : bI v' i
  · rfl
  · rw [a, b] at e1; exact absurd (e1.mpr rfl) (by decide)
  · rw [a, b] at e1; exact absurd (e1.mp rfl) (by decide)
  · rfl
theorem ci1_btw {C : Cy} {T : Tn} {p k : Nat} {v : Int32} (W : WC C) (V : WT C T) (hR : ∀ i, i < cP C → arA C T p i = true → bI v i = true) (h : btw C T p k v) : btw C T p (k + 1) (ci1 C T v (cP C)) ∧ ∀ i, i < cP C → arA C T p i = true → bI (ci1 C T v (cP C)) i = true := by
  have hP := W.1.2.1
  have key : ∀ n, n ≤ cP C → (∀ i, i < 32 → bI v i = true → bI (ci1 C T v n) i = true) ∧ (∀ q i, q < n → i < cP C → bI v q = true → arA C T q i = true → bI (ci1 C T v n) i = true) ∧ ∀ i, i < 32 → bI (ci1 C T v n) i = true → i < cP C ∧ skT C T p (cP C) i = true := by
    intro n
    induction n with
    | zero => exact fun _ => ⟨fun i hi z => z, fun q i hq => absurd hq (Nat.not_lt_zero _), fun i hi z => h.2 i hi z⟩
    | succ n ih =>
      intro hn
      obtain ⟨i1, i2, i3⟩ := ih (by omega)
      have es : ci1 C T v (n + 1) = if ci1 C T v n >>> (nI n &&& 31) &&& 1 = 0 then ci1 C T v n else ci1 C T v n ||| rwT C T n := rfl
      rw [es]
      by_cases a : ci1 C T v n >>> (nI n &&& 31) &&& 1 = 0
      · have a' := (sh_bit0 (by omega)).mp a
        rw [if_pos a]
        refine ⟨i1, fun q i hq hi z1 z2 => ?_, i3⟩
        by_cases e : q = n
        · subst e; rw [i1 q (by omega) z1] at a'; cases a'
        · exact i2 q i (by omega) hi z1 z2
      · have a' : bI (ci1 C T v n) n = true := by cases q : bI (ci1 C T v n) n; exact absurd ((sh_bit0 (by omega)).mpr q) a; rfl
        rw [if_neg a]
        refine ⟨fun i hi z => by rw [bI_or, i1 i hi z]; rfl, fun q i hq hi z1 z2 => ?_, fun i hi z => ?_⟩
        · rw [bI_or, Bool.or_eq_true]
          by_cases e : q = n
          · subst e; right; exact (rw_bit W V (by omega)).mpr ⟨z2, hi⟩
          · left; exact i2 q i (by omega) hi z1 z2
        · rw [bI_or, Bool.or_eq_true] at z
          rcases z with z | z
          · exact i3 i hi z
          · obtain ⟨z1, z2⟩ := (rw_bit W V hi).mp z
            obtain ⟨b1, b2⟩ := i3 n (by omega) a'
            exact ⟨z2, clo_in (ph_iff.mpr (Or.inr ⟨n, b1, b2, z1⟩)) z2⟩
  obtain ⟨k1, k2, k3⟩ := key (cP C) (Nat.le_refl _)
  refine ⟨⟨fun i hi z => ?_, k3⟩, fun i hi z => k1 i (by omega) (hR i hi z)⟩
  rcases ph_iff.mp z with z | ⟨q, hq, z1, z2⟩
  · exact k1 i (by omega) (hR i hi z)
  · exact k2 q i hq hi (h.1 q hq z1) z2
theorem ciT_btw {C : Cy} {T : Tn} {p n : Nat} (W : WC C) (V : WT C T) : btw C T p (n + 1) (ciT C T p n) ∧ ∀ i, i < cP C → arA C T p i = true → bI (ciT C T p n) i = true := by
  have hP := W.1.2.1
  induction n with
  | zero =>
    have r : ∀ i, i < cP C → arA C T p i = true → bI (rwT C T p) i = true := fun i hi z => (rw_bit W V (by omega)).mpr ⟨z, hi⟩
    refine ⟨⟨fun i hi z => ?_, fun i hi z => ?_⟩, r⟩
    · rcases ph_iff.mp z with z | ⟨q, hq, z1, z2⟩
      · exact r i hi z
      · cases z1
    · obtain ⟨z1, z2⟩ := (rw_bit W V hi).mp z
      exact ⟨z2, clo_in (ph_iff.mpr (Or.inl z1)) z2⟩
  | succ n ih => exact ci1_btw W V ih.2 ih.1
/-! the model's way -/
def co1 (C : Cy) (T : Tn) (p : Nat) (v : Int32) : Nat → Int32 := foF (fun t v => if tB T t = nI p ∨ (¬ tB T t = -1 ∧ v >>> (tB T t &&& 31) &&& 1 = 1) then v ||| (1 <<< (tO T t &&& 31)) else v) v
def coT (C : Cy) (T : Tn) (p : Nat) : Nat → Int32 := foF (fun _ v => co1 C T p v (cN C)) 0
theorem co1_btw {C : Cy} {T : Tn} {p k : Nat} {v : Int32} (W : WC C) (V : WT C T) (hp : p < cP C) (h : btw C T p k v) : btw C T p (k + 1) (co1 C T p v (cN C)) := by
  have hP := W.1.2.1
  have key : ∀ n, n ≤ cN C → (∀ i, i < 32 → bI v i = true → bI (co1 C T p v n) i = true) ∧ (∀ t i, t < n → i < cP C → tO T t = nI i → (tB T t = nI p ∨ ∃ q, q < cP C ∧ tB T t = nI q ∧ bI v q = true) → bI (co1 C T p v n) i = true) ∧ ∀ i, i < 32 → bI (co1 C T p v n) i = true → i < cP C ∧ skT C T p (cP C) i = true := by
    intro n
    induction n with
    | zero => exact fun _ => ⟨fun i hi z => z, fun t i ht => absurd ht (Nat.not_lt_zero _), fun i hi z => h.2 i hi z⟩
    | succ n ih =>
      intro hn
      obtain ⟨i1, i2, i3⟩ := ih (by omega)
      obtain ⟨⟨o, ho, eo⟩, hb, -⟩ := V.1 n (by omega)
      have es : co1 C T p v (n + 1) = if tB T n = nI p ∨ (¬ tB T n = -1 ∧ co1 C T p v n >>> (tB T n &&& 31) &&& 1 = 1) then co1 C T p v n ||| (1 <<< (tO T n &&& 31)) else co1 C T p v n := rfl
      rw [es]
      by_cases a : tB T n = nI p ∨ (¬ tB T n = -1 ∧ co1 C T p v n >>> (tB T n &&& 31) &&& 1 = 1)
      · rw [if_pos a, eo]
        refine ⟨fun i hi z => by rw [bI_or, i1 i hi z]; rfl, fun t i ht hi z1 z2 => ?_, fun i hi z => ?_⟩
        · rw [bI_or, Bool.or_eq_true]
          by_cases e : t = n
          · subst e; right; rw [bI_on (by omega) (by omega), decide_eq_true_eq]; rw [eo] at z1; exact ((nI_eq (by omega) (by omega)).mp z1).symm
          · left; exact i2 t i (by omega) hi z1 z2
        · rw [bI_or, Bool.or_eq_true] at z
          rcases z with z | z
          · exact i3 i hi z
          · rw [bI_on (by omega) hi, decide_eq_true_eq] at z
            subst z
            refine ⟨ho, clo_in (ph_iff.mpr ?_) ho⟩
            rcases a with a | ⟨a1, a2⟩
            · exact Or.inl (ar_iff.mpr ⟨n, by omega, a, eo⟩)
            · obtain ⟨w, hw, ew⟩ := hb.resolve_left a1
              rw [ew] at a2
              obtain ⟨b1, b2⟩ := i3 w (by omega) ((sh_bit1 (by omega)).mp a2)
              exact Or.inr ⟨w, b1, b2, ar_iff.mpr ⟨n, by omega, ew, eo⟩⟩
      · rw [if_neg a]
        refine ⟨i1, fun t i ht hi z1 z2 => ?_, i3⟩
        by_cases e : t = n
        · subst e
          exfalso
          rcases z2 with z2 | ⟨q, hq, z2, z3⟩
          · exact a (Or.inl z2)
          · exact a (Or.inr ⟨by rw [z2]; exact nI_m1 (by omega), by rw [z2]; exact (sh_bit1 (by omega)).mpr (i1 q (by omega) z3)⟩)
        · exact i2 t i (by omega) hi z1 z2
  obtain ⟨k1, k2, k3⟩ := key (cN C) (Nat.le_refl _)
  refine ⟨fun i hi z => ?_, k3⟩
  rcases ph_iff.mp z with z | ⟨q, hq, z1, z2⟩
  · obtain ⟨t, ht, a, b⟩ := ar_iff.mp z
    exact k2 t i ht hi b (Or.inl a)
  · obtain ⟨t, ht, a, b⟩ := ar_iff.mp z2
    exact k2 t i ht hi b (Or.inr ⟨q, hq, a, h.1 q hq z1⟩)
theorem coT_btw {C : Cy} {T : Tn} {p n : Nat} (W : WC C) (V : WT C T) (hp : p < cP C) : btw C T p n (coT C T p n) := by
  induction n with
  | zero => exact ⟨fun i hi z => (by have z : false = true := z; exact absurd z (by decide)), fun i hi z => (by have z : bI (0 : Int32) i = true := z; rw [bI_0] at z; exact absurd z (by decide))⟩
  | succ n ih => exact co1_btw W V hp ih
theorem co_ci {C : Cy} {T : Tn} {p : Nat} (W : WC C) (V : WT C T) (hp : p < cP C) : coT C T p (cP C) = ciT C T p (cP C) := btw_eq (Nat.le_refl _) (Nat.le_succ _) (coT_btw W V hp) (ciT_btw W V).1
