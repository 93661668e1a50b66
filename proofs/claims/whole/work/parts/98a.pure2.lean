/-! what is read is a city: line by line -/
def YI (n : Nat) (Y : Ry) : Prop := YB n Y ∧ WC (yC Y) ∧ WT (yC Y) (yT Y) ∧ WN (yC Y) (yT Y) ∧ (tD (yT Y) = 0 ∧ tC (yT Y) = 0 ∧ (∀ t, tS (yT Y) t = 0) ∧ (∀ p, tH (yT Y) p = 0) ∧ ∀ i, 6 * cP (yC Y) ≤ i → tW (yT Y) i = 0) ∧ ((yP Y = 0 → cL (yC Y) = 3) ∧ (yM Y = 0 → cM (yC Y) = 10) ∧ yP Y ≤ 1 ∧ yM Y ≤ 1) ∧ (¬ (cSh (yC Y)).1 = 0 → (yR Y).2.2.1 + mpF (cSh (yC Y)) (cSh (yC Y)).1 + 1 ≤ (yK Y).2) ∧ (¬ (cRe (yC Y)).1 = 0 → (yR Y).2.2.2 + mpF (cRe (yC Y)) (cRe (yC Y)).1 + 1 ≤ (yK Y).2)
theorem YI.at {n s : Nat} {Y : Ry} (H : YI n Y) (h1 : yS Y ≤ s) (h2 : s ≤ n) : YI n (yAt Y s) := by
  obtain ⟨⟨⟨a1, a2, a3, a4⟩, a5⟩, h⟩ := H
  exact ⟨⟨⟨h2, a2, by show (yK Y).1 ≤ s; omega, by show (yK Y).2 ≤ 2 * s; omega⟩, a5⟩, h⟩
theorem end_ok {b : Nat → Nat} {n s : Nat} {Y : Ry} (f : (yF (yEnd b n Y s)).1 = 0) : s < n ∧ yEnd b n Y s = yAt Y (nx b n s) := by
  unfold yEnd at f ⊢
  by_cases z : tkK b n s = 3 ∧ b s = 59
  · rw [if_pos z]; exact ⟨tk3 (b := b) (by omega), rfl⟩
  · rw [if_neg z] at f; exact absurd f (show ¬ (1 : Nat) = 0 by decide)
theorem YI.end {b : Nat → Nat} {n s : Nat} {Y : Ry} (H : YI n Y) (hs : yS Y ≤ s) (f : (yF (yEnd b n Y s)).1 = 0) : YI n (yEnd b n Y s) ∧ s < yS (yEnd b n Y s) := by
  obtain ⟨sn, e⟩ := end_ok f
  have ng := nx_gt (b := b) sn
  have nl := nx_le (b := b) (Nat.le_of_lt sn)
  rw [e]
  exact ⟨H.at (by omega) nl, ng⟩
theorem nx_ge {b : Nat → Nat} {n s : Nat} : s ≤ nx b n s := Nat.le_trans tkE_ge (spn_ok (p := fun j => isW (b j)) (n := n) (i := tkE b n s)).2.2.1
theorem yi_places {b : Nat → Nat} {n : Nat} {Y : Ry} (H : YI n Y) (f : (yF (yPlaces b n Y)).1 = 0) : YI n (yPlaces b n Y) ∧ yS Y < yS (yPlaces b n Y) := by
  unfold yPlaces at f ⊢
  by_cases z : 0 < cP (yC Y)
  · rw [if_pos z] at f; exact absurd f (show ¬ (4 : Nat) = 0 by decide)
  · rw [if_neg z] at f ⊢
    by_cases y : yP Y = 1
    · rw [if_pos y] at f; exact absurd f (show ¬ (5 : Nat) = 0 by decide)
    · rw [if_neg y] at f ⊢
      by_cases x : nmF b n (nx b n (yS Y)) 2 6 = 0
      · rw [if_pos x] at f ⊢
        obtain ⟨k2, v1, v2⟩ := nm_2 x
        obtain ⟨⟨a1, ⟨a2, a3, a4⟩, a5, a6⟩, ⟨⟨w1, w2, w3, w4, w5, w6⟩, w7, w8, w9, w10⟩, ⟨t1, t2, t3⟩, hn, ⟨d1, d2, d3, d4, d5⟩, ⟨e1, e2, e3, e4⟩, e5, e6⟩ := H
        have P0 : cP (yC Y) = 0 := by omega
        have H2 : YI n (Y.1, (1, yM Y), ((cN (yC Y), cP (yC Y), nvT b n (nx b n (yS Y)), cM (yC Y)), (yC Y).2), Y.2.2.2) := ⟨⟨a1, ⟨a2, a3, v2⟩, a5, a6⟩, ⟨⟨w1, w2, v1, v2, w5, w6⟩, w7, w8, w9, w10⟩, ⟨t1, t2, fun i hi => absurd (show i < 6 * cP (yC Y) from hi) (by omega)⟩, hn, ⟨d1, d2, d3, d4, d5⟩, ⟨fun q => absurd q (show ¬ (1 : Nat) = 0 by decide), e2, Nat.le_refl _, e4⟩, e5, e6⟩
        have g1 := nx_ge (b := b) (n := n) (s := yS Y)
        have g2 := nx_ge (b := b) (n := n) (s := nx b n (yS Y))
        obtain ⟨r1, r2⟩ := H2.end (s := nx b n (nx b n (yS Y))) (by show yS Y ≤ _; omega) f
        exact ⟨r1, by omega⟩
      · rw [if_neg x] at f; exact absurd f x
theorem yi_term {b : Nat → Nat} {n : Nat} {Y : Ry} (H : YI n Y) (f : (yF (yTerm b n Y)).1 = 0) : YI n (yTerm b n Y) ∧ yS Y < yS (yTerm b n Y) := by
  unfold yTerm at f ⊢
  by_cases y : yM Y = 1
  · rw [if_pos y] at f; exact absurd f (show ¬ (5 : Nat) = 0 by decide)
  · rw [if_neg y] at f ⊢
    by_cases x : nmF b n (nx b n (yS Y)) 1 99 = 0
    · rw [if_pos x] at f ⊢
      obtain ⟨k2, v1, v2⟩ := nm_2 x
      obtain ⟨⟨a1, a2, a5, a6⟩, ⟨⟨w1, w2, w3, w4, w5, w6⟩, w7, w8, w9, w10⟩, ht, hn, hd, ⟨e1, e2, e3, e4⟩, e5, e6⟩ := H
      have H2 : YI n (Y.1, (yP Y, 1), ((cN (yC Y), cP (yC Y), cL (yC Y), nvT b n (nx b n (yS Y))), (yC Y).2), Y.2.2.2) := ⟨⟨a1, a2, a5, a6⟩, ⟨⟨w1, w2, w3, w4, v1, v2⟩, w7, w8, w9, w10⟩, ht, hn, hd, ⟨e1, fun q => absurd q (show ¬ (1 : Nat) = 0 by decide), e3, Nat.le_refl _⟩, e5, e6⟩
      have g1 := nx_ge (b := b) (n := n) (s := yS Y)
      have g2 := nx_ge (b := b) (n := n) (s := nx b n (yS Y))
      obtain ⟨r1, r2⟩ := H2.end (s := nx b n (nx b n (yS Y))) (by show yS Y ≤ _; omega) f
      exact ⟨r1, by omega⟩
    · rw [if_neg x] at f; exact absurd f x
theorem wk_ok {b : Nat → Nat} {n L o : Nat} : ∀ (k i s : Nat) (W : Nat → Int32), i + k = 6 → (wkR b n L o k i s W).1 = 0 → i < (wkR b n L o k i s W).2.2.1 ∧ (wkR b n L o k i s W).2.2.1 ≤ 6 ∧ s ≤ (wkR b n L o k i s W).2.1 ∧ ∀ j, ((wkR b n L o k i s W).2.2.2 j = W j ∨ ∃ w, w < L ∧ (wkR b n L o k i s W).2.2.2 j = nI w) ∧ (o + 6 ≤ j → (wkR b n L o k i s W).2.2.2 j = W j) := by
  intro k
  induction k with
  | zero => intro i s W _ h; exact absurd h (show ¬ (2 : Nat) = 0 by decide)
  | succ k ih =>
    intro i s W hk h
    have ew : wkR b n L o (k + 1) i s W = if onF b n s L = 0 then (if tkK b n (nx b n s) = 2 then wkR b n L o k (i + 1) (nx b n s) (upd W (o + i) (nI (nvT b n s))) else (0, nx b n s, i + 1, upd W (o + i) (nI (nvT b n s)))) else (onF b n s L, s, i, W) := rfl
    rw [ew] at h ⊢
    have g1 := nx_ge (b := b) (n := n) (s := s)
    by_cases y : onF b n s L = 0
    · rw [if_pos y] at h ⊢
      obtain ⟨k2, vl⟩ := on_2 y
      have base : ∀ j, (upd W (o + i) (nI (nvT b n s)) j = W j ∨ ∃ w, w < L ∧ upd W (o + i) (nI (nvT b n s)) j = nI w) ∧ (o + 6 ≤ j → upd W (o + i) (nI (nvT b n s)) j = W j) := by
        intro j
        by_cases q : j = o + i
        · refine ⟨Or.inr ⟨nvT b n s, vl, by rw [q, pk_us]⟩, fun z => by omega⟩
        · exact ⟨Or.inl (pk_un q), fun _ => pk_un q⟩
      by_cases z : tkK b n (nx b n s) = 2
      · rw [if_pos z] at h ⊢
        obtain ⟨r1, r2, r3, r4⟩ := ih (i + 1) (nx b n s) (upd W (o + i) (nI (nvT b n s))) (by omega) h
        refine ⟨by omega, r2, by omega, fun j => ⟨?_, fun q => ((r4 j).2 q).trans ((base j).2 q)⟩⟩
        rcases (r4 j).1 with q | q
        · rw [q]; exact (base j).1
        · exact Or.inr q
      · rw [if_neg z]
        exact ⟨Nat.lt_succ_self _, by show i + 1 ≤ 6; omega, g1, base⟩
    · rw [if_neg y] at h; exact absurd h y
theorem yi_person {b : Nat → Nat} {n bl : Nat} {Y : Ry} (H : YI n Y) (hb : bl ≤ 1) (f : (yF (yPerson b n bl Y)).1 = 0) : YI n (yPerson b n bl Y) ∧ yS Y < yS (yPerson b n bl Y) := by
  unfold yPerson at f ⊢
  by_cases z : 8 ≤ cP (yC Y)
  · rw [if_pos z] at f; exact absurd f (show ¬ (2 : Nat) = 0 by decide)
  · rw [if_neg z] at f ⊢
    by_cases x : nmF b n (nx b n (yS Y)) 0 9 = 0
    · rw [if_pos x] at f ⊢
      obtain ⟨k2, v1, v2⟩ := nm_2 x
      have g1 := nx_ge (b := b) (n := n) (s := yS Y)
      have g2 := nx_ge (b := b) (n := n) (s := nx b n (yS Y))
      have wk := wk_ok (b := b) (n := n) (L := cL (yC Y)) (o := 6 * cP (yC Y)) 6 0 (nx b n (nx b n (yS Y))) (tW (yT Y)) rfl
      generalize wkR b n (cL (yC Y)) (6 * cP (yC Y)) 6 0 (nx b n (nx b n (yS Y))) (tW (yT Y)) = w at *
      unfold yPer2 at f ⊢
      by_cases y : w.1 = 0
      · rw [if_pos y] at f ⊢
        obtain ⟨r1, r2, r3, r4⟩ := wk y
        obtain ⟨⟨a1, ⟨a2, a3, a4⟩, a5, a6⟩, ⟨⟨w1, w2, w3, w4, w5, w6⟩, w7, w8, w9, w10⟩, ⟨t1, t2, t3⟩, hn, ⟨d1, d2, d3, d4, d5⟩, he, e5, e6⟩ := H
        have H2 : YI n (yPer1 Y bl (nvT b n (nx b n (yS Y))) w) := by
          refine ⟨⟨a1, ⟨a2, by show cP (yC Y) + 1 ≤ 8; omega, a4⟩, a5, a6⟩, ⟨⟨w1, by show cP (yC Y) + 1 ≤ 8; omega, w3, w4, w5, w6⟩, ?_, w8, ?_, w10⟩, ⟨?_, ?_, ?_⟩, hn, ⟨d1, d2, d3, d4, ?_⟩, he, e5, e6⟩
          · intro p hp
            have hp : p < cP (yC Y) + 1 := hp
            show 1 ≤ updN (cWl (yC Y)) (cP (yC Y)) w.2.2.1 p ∧ updN (cWl (yC Y)) (cP (yC Y)) w.2.2.1 p ≤ 6
            unfold updN
            by_cases q : p = cP (yC Y)
            · rw [if_pos q]; omega
            · rw [if_neg q]; exact w7 p (by omega)
          · intro p hp
            have hp : p < cP (yC Y) + 1 := hp
            show upd (cBl (yC Y)) (cP (yC Y)) (nI bl) p = 0 ∨ upd (cBl (yC Y)) (cP (yC Y)) (nI bl) p = 1
            by_cases q : p = cP (yC Y)
            · rw [q, pk_us]
              rcases Nat.le_one_iff_eq_zero_or_eq_one.mp hb with q | q
              · rw [q]; exact Or.inl rfl
              · rw [q]; exact Or.inr rfl
            · rw [pk_un q]; exact w9 p (by omega)
          · intro t ht
            obtain ⟨⟨o, o1, o2⟩, q2, q3⟩ := t1 t ht
            refine ⟨⟨o, by show o < cP (yC Y) + 1; omega, o2⟩, ?_, q3⟩
            rcases q2 with q2 | ⟨x, x1, x2⟩
            · exact Or.inl q2
            · exact Or.inr ⟨x, by show x < cP (yC Y) + 1; omega, x2⟩
          · intro p hp
            have hp : p < cP (yC Y) + 1 := hp
            refine ⟨⟨0, by decide, by show tH (yT Y) p = nI 0; rw [d4]; rfl⟩, ?_⟩
            show ∃ v, v ≤ 9 ∧ upd (tV (yT Y)) (cP (yC Y)) (nI (nvT b n (nx b n (yS Y)))) p = nI v
            by_cases q : p = cP (yC Y)
            · exact ⟨_, v2, by rw [q, pk_us]⟩
            · rw [pk_un q]; exact (t2 p (by omega)).2
          · intro i hi
            have hi : i < 6 * (cP (yC Y) + 1) := hi
            show ∃ x, x < cL (yC Y) ∧ w.2.2.2 i = nI x
            rcases (r4 i).1 with q | q
            · rw [q]
              by_cases z : i < 6 * cP (yC Y)
              · exact t3 i z
              · exact ⟨0, by omega, by rw [d5 i (by omega)]; rfl⟩
            · exact q
          · intro i hi
            have hi : 6 * (cP (yC Y) + 1) ≤ i := hi
            show w.2.2.2 i = 0
            rw [(r4 i).2 (by omega)]; exact d5 i (by omega)
        obtain ⟨q1, q2⟩ := H2.end (s := w.2.1) (by show yS Y ≤ _; omega) f
        exact ⟨q1, by omega⟩
      · rw [if_neg y] at f; exact absurd f y
    · rw [if_neg x] at f; exact absurd f x
theorem yi_th1 {n w x o : Nat} {v : Int32} {Y : Ry} (H : YI n Y) (N10 : cN (yC Y) < 10) (hw : w ≤ 30) (hx : x ≤ 9) (ho : o < cP (yC Y)) (hv : v = -1 ∨ ∃ u, u < cP (yC Y) ∧ v = nI u ∧ ¬ u = o) : YI n (yTh1 Y w x o v) := by
  obtain ⟨⟨a1, ⟨a2, a3, a4⟩, a5, a6⟩, ⟨⟨w1, w2, w3, w4, w5, w6⟩, w7, w8, w9, w10⟩, ⟨t1, t2, t3⟩, hn, hd, he, e5, e6⟩ := H
  refine ⟨⟨a1, ⟨by show cN (yC Y) + 1 ≤ 10; omega, a3, a4⟩, ?_, a6⟩, ⟨⟨by show cN (yC Y) + 1 ≤ 10; omega, w2, w3, w4, w5, w6⟩, w7, w8, w9, ?_⟩, ⟨?_, t2, t3⟩, ?_, hd, he, e5, e6⟩
  · intro t ht
    have ht : cN (yC Y) + 1 ≤ t := ht
    show upd (tB (yT Y)) (cN (yC Y)) v t = -1
    rw [pk_un (by omega)]; exact a5 t (by omega)
  · intro t ht
    have ht : t < cN (yC Y) + 1 := ht
    show ∃ u, u ≤ 30 ∧ upd (cWt (yC Y)) (cN (yC Y)) (nI w) t = nI u
    by_cases q : t = cN (yC Y)
    · exact ⟨w, hw, by rw [q, pk_us]⟩
    · rw [pk_un q]; exact w10 t (by omega)
  · intro t ht
    have ht : t < cN (yC Y) + 1 := ht
    show (∃ u, u < cP (yC Y) ∧ upd (tO (yT Y)) (cN (yC Y)) (nI o) t = nI u) ∧ (upd (tB (yT Y)) (cN (yC Y)) v t = -1 ∨ ∃ u, u < cP (yC Y) ∧ upd (tB (yT Y)) (cN (yC Y)) v t = nI u) ∧ (∃ s, s < 100 ∧ tS (yT Y) t = nI s) ∧ ∃ u, u ≤ 9 ∧ upd (tX (yT Y)) (cN (yC Y)) (nI x) t = nI u
    by_cases q : t = cN (yC Y)
    · rw [q, pk_us, pk_us, pk_us]
      refine ⟨⟨o, ho, rfl⟩, ?_, ⟨0, by decide, by rw [hd.2.2.1]; rfl⟩, ⟨x, hx, rfl⟩⟩
      rcases hv with hv | ⟨u, u1, u2, -⟩
      · exact Or.inl hv
      · exact Or.inr ⟨u, u1, u2⟩
    · rw [pk_un q, pk_un q, pk_un q]; exact t1 t (by omega)
  · intro t ht
    have ht : t < cN (yC Y) + 1 := ht
    show ¬ upd (tB (yT Y)) (cN (yC Y)) v t = upd (tO (yT Y)) (cN (yC Y)) (nI o) t
    by_cases q : t = cN (yC Y)
    · rw [q, pk_us, pk_us]
      rcases hv with hv | ⟨u, u1, u2, u3⟩
      · rw [hv]; exact fun z => nI_m1 (by omega) z.symm
      · rw [u2]; exact fun z => u3 ((nI_eq (by omega) (by omega)).mp z)
    · rw [pk_un q, pk_un q]; exact hn t (by omega)
theorem yi_thing {b : Nat → Nat} {n : Nat} {Y : Ry} (H : YI n Y) (f : (yF (yThing b n Y)).1 = 0) : YI n (yThing b n Y) ∧ yS Y < yS (yThing b n Y) := by
  unfold yThing at f ⊢
  by_cases z : 10 ≤ cN (yC Y)
  · rw [if_pos z] at f; exact absurd f (show ¬ (2 : Nat) = 0 by decide)
  · rw [if_neg z] at f ⊢
    have g1 := nx_ge (b := b) (n := n) (s := yS Y)
    by_cases x : nmF b n (nx b n (yS Y)) 1 30 = 0
    · rw [if_pos x] at f ⊢
      obtain ⟨-, -, v1⟩ := nm_2 x
      generalize nx b n (yS Y) = s1 at *
      have g2 := nx_ge (b := b) (n := n) (s := s1)
      by_cases x2 : nmF b n (nx b n s1) 0 9 = 0
      · rw [if_pos x2] at f ⊢
        obtain ⟨-, -, v2⟩ := nm_2 x2
        generalize nx b n s1 = s2 at *
        have g3 := nx_ge (b := b) (n := n) (s := s2)
        by_cases x3 : onF b n (nx b n s2) (cP (yC Y)) = 0
        · rw [if_pos x3] at f ⊢
          obtain ⟨-, v3⟩ := on_2 x3
          generalize nx b n s2 = s3 at *
          have g4 := nx_ge (b := b) (n := n) (s := s3)
          unfold yTh2 at f ⊢
          by_cases k : kwN b n (nx b n s3) = 13
          · rw [if_pos k] at f ⊢
            generalize nx b n s3 = s4 at *
            have g5 := nx_ge (b := b) (n := n) (s := s4)
            by_cases x4 : onF b n (nx b n s4) (cP (yC Y)) = 0
            · rw [if_pos x4] at f ⊢
              obtain ⟨-, v4⟩ := on_2 x4
              generalize nx b n s4 = s5 at *
              have g6 := nx_ge (b := b) (n := n) (s := s5)
              by_cases e : nvT b n s5 = nvT b n s3
              · rw [if_pos e] at f; exact absurd f (show ¬ (4 : Nat) = 0 by decide)
              · rw [if_neg e] at f ⊢
                have H2 := yi_th1 (w := nvT b n s1) (x := nvT b n s2) (o := nvT b n s3) (v := nI (nvT b n s5)) H (by omega) v1 v2 v3 (Or.inr ⟨_, v4, rfl, e⟩)
                obtain ⟨q1, q2⟩ := H2.end (s := nx b n s5) (by show yS Y ≤ _; omega) f
                exact ⟨q1, by omega⟩
            · rw [if_neg x4] at f; exact absurd f x4
          · rw [if_neg k] at f ⊢
            have H2 := yi_th1 (w := nvT b n s1) (x := nvT b n s2) (o := nvT b n s3) (v := -1) H (by omega) v1 v2 v3 (Or.inl rfl)
            obtain ⟨q1, q2⟩ := H2.end (s := nx b n s3) (by show yS Y ≤ _; omega) f
            exact ⟨q1, by omega⟩
        · rw [if_neg x3] at f; exact absurd f x3
      · rw [if_neg x2] at f; exact absurd f x2
    · rw [if_neg x] at f; exact absurd f x
