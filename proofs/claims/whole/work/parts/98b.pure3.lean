/-! what is read is a city: rules, all lines -/
def ruA (sh k : Nat) : Prop := if sh = 1 then shA k else reA k
theorem ru_A {sh : Nat} : ∀ k, vlA sh k → ruA sh (mvN k) := by
  intro k h
  unfold ruA
  by_cases z : sh = 1
  · rw [if_pos z]
    have : k < 7 := by rcases h with h | h; exact h.2; exact absurd z h.1
    show mvN k < 7
    unfold mvN; split; omega; split <;> omega
  · rw [if_neg z]
    have : 5 ≤ k ∧ k ≤ 8 := by rcases h with h | h; exact absurd h.1 z; exact h.2
    unfold reA mvN
    by_cases a : k = 5
    · rw [if_neg (by omega), if_pos a]; exact Or.inl rfl
    · rw [if_neg (by omega), if_neg a]; omega
theorem mp_le {p : Pr} : ∀ k, mpF p k ≤ 2 * k
  | 0 => Nat.le_refl _
  | k + 1 => by
    have := mp_le (p := p) k
    show mpF p k + mlN (p.2 k) ≤ _
    have : mlN (p.2 k) ≤ 2 := by unfold mlN; split <;> decide
    omega
theorem uv_0 {A : Nat → Prop} {n s : Nat} (h : s ≤ n) (n7 : n ≤ 700) : UV A n s (ru0 s) := ⟨⟨h, n7, Nat.le_refl _⟩, ⟨Nat.le_refl _, Nat.le_refl _, Nat.zero_le _⟩, ⟨True.intro, rfl, Nat.zero_le _⟩, fun _ _ => Nat.zero_le _, fun j hj => absurd hj (Nat.not_lt_zero _), rfl⟩
theorem yi_rule {b : Nat → Nat} {n sh : Nat} {Y : Ry} (H : YI n Y) (sn : yS Y < n) (f : (yF (yRule b n sh Y)).1 = 0) : YI n (yRule b n sh Y) ∧ yS Y < yS (yRule b n sh Y) := by
  unfold yRule at f ⊢
  by_cases z : (sh = 1 ∧ ¬ (cSh (yC Y)).1 = 0) ∨ (¬ sh = 1 ∧ ¬ (cRe (yC Y)).1 = 0)
  · rw [if_pos z] at f; exact absurd f (show ¬ (5 : Nat) = 0 by decide)
  · rw [if_neg z] at f ⊢
    have ng := nx_gt (b := b) sn
    have nl := nx_le (b := b) (Nat.le_of_lt sn)
    have n7 := H.1.1.2.1
    obtain ⟨r1, r2, r3, r4, r5⟩ := ru_done (b := b) (n := n) (sh := sh) ru_A (n + 1) (ru0 (nx b n (yS Y))) (by omega) rfl (uv_0 nl n7)
    have r2 : nx b n (yS Y) ≤ uS (ruFin b n sh (ru0 (nx b n (yS Y)))) := r2
    generalize ruFin b n sh (ru0 (nx b n (yS Y))) = V at *
    unfold yRu2 at f ⊢
    by_cases q : uQ V = 1
    · rw [if_pos q] at f ⊢
      obtain ⟨p1, p2, p3, p4⟩ := r4 q
      have mp := mp_le (p := uP V) (uP V).1
      obtain ⟨⟨⟨a1, a2, a3, a4⟩, a5, a6, a7, a8⟩, ⟨w1, w2, ⟨w3, w4⟩, w5⟩, ht, hn, hd, he, e5, e6⟩ := H
      have fe : ∀ R' : Ry, R'.1 = Y.1 → yF R' = yF Y := fun R' e => by show R'.1.2 = Y.1.2; rw [e]
      have H2 : YI n (yAt (yRu1 sh Y (uP V)) (uS V)) := by
        unfold yRu1
        by_cases s1 : sh = 1
        · rw [if_pos s1]
          have pa : PO shA (uP V) := by
            have e : ruA sh = shA := funext fun k => if_pos s1
            rw [← e]; exact p1
          refine ⟨⟨⟨r3, a2, by show (yK Y).1 + (uP V).1 ≤ uS V; omega, by show (yK Y).2 + mpF (uP V) (uP V).1 + 1 ≤ 2 * uS V; omega⟩, a5, a6, Nat.le_refl _, by show (yR Y).2.1 + (cRe (yC Y)).1 ≤ (yK Y).1 + (uP V).1; omega⟩, ⟨w1, w2, ⟨⟨pa, fun _ => p2⟩, w4⟩, w5⟩, ht, hn, hd, he, fun _ => Nat.le_refl _, fun q => ?_⟩
          show (yR Y).2.2.2 + mpF (cRe (yC Y)) (cRe (yC Y)).1 + 1 ≤ (yK Y).2 + mpF (uP V) (uP V).1 + 1
          have := e6 q; omega
        · rw [if_neg s1]
          have pa : PO reA (uP V) := by
            have e : ruA sh = reA := funext fun k => if_neg s1
            rw [← e]; exact p1
          refine ⟨⟨⟨r3, a2, by show (yK Y).1 + (uP V).1 ≤ uS V; omega, by show (yK Y).2 + mpF (uP V) (uP V).1 + 1 ≤ 2 * uS V; omega⟩, a5, a6, by show (yR Y).1 + (cSh (yC Y)).1 ≤ (yK Y).1 + (uP V).1; omega, Nat.le_refl _⟩, ⟨w1, w2, ⟨w3, ⟨pa, fun _ => p2⟩⟩, w5⟩, ht, hn, hd, he, fun q => ?_, fun _ => Nat.le_refl _⟩
          show (yR Y).2.2.1 + mpF (cSh (yC Y)) (cSh (yC Y)).1 + 1 ≤ (yK Y).2 + mpF (uP V) (uP V).1 + 1
          have := e5 q; omega
      obtain ⟨sn2, e⟩ := end_ok f
      have ng2 := nx_gt (b := b) sn2
      have nl2 := nx_le (b := b) (Nat.le_of_lt sn2)
      rw [e]
      refine ⟨?_, by show yS Y < nx b n (uS V); omega⟩
      have := H2.at (s := nx b n (uS V)) (by show uS V ≤ _; omega) nl2
      exact this
    · rw [if_neg q] at f
      exact absurd (show uY V = 0 from f) (by have := (r5 q).1; omega)
theorem yi_line {b : Nat → Nat} {n : Nat} {Y : Ry} (H : YI n Y) (f : (yF (yLine b n Y)).1 = 0) : YI n (yLine b n Y) ∧ yS Y < yS (yLine b n Y) := by
  have sn : kwN b n (yS Y) < 20 → yS Y < n := fun q => by
    have w := (kwN_iff (b := b) (n := n) (s := yS Y) q).mp rfl
    exact tk3 (b := b) (n := n) (s := yS Y) (by rw [w.1]; decide)
  unfold yLine at f ⊢
  by_cases k1 : kwN b n (yS Y) = 9
  · rw [if_pos k1] at f ⊢; exact yi_places H f
  · rw [if_neg k1] at f ⊢
    by_cases k2 : kwN b n (yS Y) = 10
    · rw [if_pos k2] at f ⊢; exact yi_person H (by decide) f
    · rw [if_neg k2] at f ⊢
      by_cases k3 : kwN b n (yS Y) = 11
      · rw [if_pos k3] at f ⊢; exact yi_person H (by decide) f
      · rw [if_neg k3] at f ⊢
        by_cases k4 : kwN b n (yS Y) = 12
        · rw [if_pos k4] at f ⊢; exact yi_thing H f
        · rw [if_neg k4] at f ⊢
          by_cases k5 : kwN b n (yS Y) = 14
          · rw [if_pos k5] at f ⊢; exact yi_term H f
          · rw [if_neg k5] at f ⊢
            by_cases k6 : kwN b n (yS Y) = 15
            · rw [if_pos k6] at f ⊢; exact yi_rule H (sn (by omega)) f
            · rw [if_neg k6] at f ⊢
              by_cases k7 : kwN b n (yS Y) = 16
              · rw [if_pos k7] at f ⊢; exact yi_rule H (sn (by omega)) f
              · rw [if_neg k7] at f; exact absurd f (show ¬ (1 : Nat) = 0 by decide)
/-! all lines -/
noncomputable def yst (b : Nat → Nat) (n : Nat) (Y : Ry) : Ry := if (yF Y).1 = 0 ∧ ¬ tkK b n (yS Y) = 0 then yLine b n Y else Y
noncomputable def yfn (b : Nat → Nat) (n : Nat) : Nat → Ry → Ry
  | 0, Y => Y
  | k + 1, Y => yfn b n k (yst b n Y)
/-- the reader is at its end -/
abbrev yT0 (b : Nat → Nat) (n : Nat) (Y : Ry) : Prop := ¬ ((yF Y).1 = 0 ∧ ¬ tkK b n (yS Y) = 0)
theorem yst_t {b : Nat → Nat} {n : Nat} {Y : Ry} (h : yT0 b n Y) : yst b n Y = Y := by unfold yst; rw [if_neg h]
theorem yfn_t {b : Nat → Nat} {n : Nat} {Y : Ry} (h : yT0 b n Y) : ∀ k, yfn b n k Y = Y
  | 0 => rfl
  | k + 1 => by show yfn b n k (yst b n Y) = Y; rw [yst_t h]; exact yfn_t h k
theorem yfn_add {b : Nat → Nat} {n : Nat} : ∀ (j k : Nat) (Y : Ry), yfn b n (j + k) Y = yfn b n k (yfn b n j Y)
  | 0, k, Y => by rw [Nat.zero_add]; rfl
  | j + 1, k, Y => by rw [show j + 1 + k = (j + k) + 1 by omega]; exact yfn_add j k (yst b n Y)
theorem yfn_u {b : Nat → Nat} {n j k : Nat} {Y : Ry} (hj : yT0 b n (yfn b n j Y)) (hk : yT0 b n (yfn b n k Y)) : yfn b n j Y = yfn b n k Y := by
  have h1 := yfn_add (b := b) (n := n) j k Y
  have h2 := yfn_add (b := b) (n := n) k j Y
  rw [yfn_t hj] at h1
  rw [yfn_t hk, Nat.add_comm] at h2
  exact h1.symm.trans h2
noncomputable def yFin (b : Nat → Nat) (n : Nat) (Y : Ry) : Ry :=
  haveI := Classical.propDecidable (∃ k, yT0 b n (yfn b n k Y))
  if h : ∃ k, yT0 b n (yfn b n k Y) then yfn b n (Classical.choose h) Y else ((0, 1, 0), (0, 0), ((0, 0, 0, 0), fun _ => 0, fun _ => 0, fun _ => 0, (0, fun _ => (0, 0)), (0, fun _ => (0, 0))), T00, (0, 0), (0, 0, 0, 0))
theorem yfin_of {b : Nat → Nat} {n k : Nat} {Y : Ry} (h : yT0 b n (yfn b n k Y)) : yFin b n Y = yfn b n k Y := by
  have hx : ∃ k, yT0 b n (yfn b n k Y) := ⟨k, h⟩
  unfold yFin
  rw [dif_pos hx]
  exact yfn_u (Classical.choose_spec hx) h
theorem yfin_t {b : Nat → Nat} {n : Nat} {Y : Ry} (h : yT0 b n Y) : yFin b n Y = Y := yfin_of (k := 0) h
theorem yfin_s {b : Nat → Nat} {n : Nat} {Y : Ry} : yFin b n (yst b n Y) = yFin b n Y := by
  by_cases hx : ∃ k, yT0 b n (yfn b n k Y)
  · obtain ⟨k, hk⟩ := hx
    rw [yfin_of hk]
    cases k with
    | zero =>
      have hk : yT0 b n Y := hk
      rw [yst_t hk, yfin_t hk]; rfl
    | succ k => exact yfin_of (k := k) hk
  · have hy : ¬ ∃ k, yT0 b n (yfn b n k (yst b n Y)) := fun ⟨k, q⟩ => hx ⟨k + 1, q⟩
    unfold yFin
    rw [dif_neg hx, dif_neg hy]
theorem yfin_l {b : Nat → Nat} {n : Nat} {Y : Ry} (h1 : (yF Y).1 = 0) (h2 : ¬ tkK b n (yS Y) = 0) : yFin b n (yLine b n Y) = yFin b n Y := by
  rw [← yfin_s (Y := Y)]
  unfold yst
  rw [if_pos ⟨h1, h2⟩]
def C00 : Cy := ((0, 0, 3, 10), fun _ => 0, fun _ => 0, fun _ => 0, (0, fun _ => (0, 0)), (0, fun _ => (0, 0)))
def T0b : Tn := (0, 0, fun _ => 0, fun _ => -1, fun _ => 0, fun _ => 0, fun _ => 0, fun _ => 0, fun _ => 0)
def y00 (s : Nat) : Ry := ((s, 0, 0), (0, 0), C00, T0b, (0, 0), (0, 0, 0, 0))
theorem yi_00 {n s : Nat} (hs : s ≤ n) (n7 : n ≤ 700) : YI n (y00 s) := by
  refine ⟨⟨⟨hs, n7, Nat.zero_le _, Nat.zero_le _⟩, ⟨Nat.zero_le _, Nat.zero_le _, by show 3 ≤ 6; decide⟩, fun _ _ => rfl, Nat.le_refl _, Nat.le_refl _⟩, ⟨⟨Nat.zero_le _, Nat.zero_le _, by show 2 ≤ 3; decide, by show 3 ≤ 6; decide, by show 1 ≤ 10; decide, by show 10 ≤ 99; decide⟩, fun p hp => absurd hp (Nat.not_lt_zero _), ⟨⟨fun j hj => absurd hj (Nat.not_lt_zero _), fun h => absurd h (Nat.lt_irrefl _)⟩, ⟨fun j hj => absurd hj (Nat.not_lt_zero _), fun h => absurd h (Nat.lt_irrefl _)⟩⟩, fun p hp => absurd hp (Nat.not_lt_zero _), fun p hp => absurd hp (Nat.not_lt_zero _)⟩, ⟨fun p hp => absurd hp (Nat.not_lt_zero _), fun p hp => absurd hp (Nat.not_lt_zero _), fun p hp => absurd hp (Nat.not_lt_zero _)⟩, fun p hp => absurd hp (Nat.not_lt_zero _), ⟨rfl, rfl, fun _ => rfl, fun _ => rfl, fun _ _ => rfl⟩, ⟨fun _ => rfl, fun _ => rfl, Nat.zero_le _, Nat.zero_le _⟩, fun q => absurd rfl q, fun q => absurd rfl q⟩
