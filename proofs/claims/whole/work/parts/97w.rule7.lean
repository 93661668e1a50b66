/-! rules: the line of the class -/
theorem uy_W {b : Nat → Nat} {n sh : Nat} {U : Ru} (q : ¬ uQ (rstW b n sh U) = 0) : uQ (rstW b n sh U) = 2 ∧ 0 < uY (rstW b n sh U) := by
  unfold rstW at *
  repeat' split at q
  all_goals first | exact absurd rfl q | skip
  all_goals rename_i h1 h2
  · rw [if_pos h1, if_pos h2]; exact ⟨rfl, by show 0 < 2; decide⟩
  · rw [if_neg h1, if_neg h2]; exact ⟨rfl, by show 0 < 3; decide⟩
theorem uy_P {b : Nat → Nat} {n sh : Nat} {U : Ru} (q : ¬ uQ (rstP b n sh U) = 0) : uQ (rstP b n sh U) = 2 ∧ 0 < uY (rstP b n sh U) := by
  unfold rstP at q ⊢
  by_cases z : tkK b n (uS U) = 2 ∨ tkK b n (uS U) = 1 ∨ (tkK b n (uS U) = 3 ∧ b (uS U) = 40)
  · rw [if_pos z] at q ⊢
    by_cases y : 6 ≤ uE U
    · rw [if_pos y]; exact ⟨rfl, by show 0 < 2; decide⟩
    · rw [if_neg y] at q ⊢
      by_cases k2 : tkK b n (uS U) = 2
      · rw [if_pos k2] at q ⊢
        by_cases f : ftF b n (uS U) = 0
        · rw [if_pos f] at q; exact absurd rfl q
        · rw [if_neg f]; exact ⟨rfl, by show 0 < ftF b n (uS U); omega⟩
      · rw [if_neg k2] at q ⊢
        by_cases k1 : tkK b n (uS U) = 1
        · rw [if_pos k1] at q ⊢; exact uy_W q
        · rw [if_neg k1] at q; exact absurd rfl q
  · rw [if_neg z]; exact ⟨rfl, by show 0 < 1; decide⟩
theorem uy_B {b : Nat → Nat} {n : Nat} {U : Ru} (q : ¬ uQ (rstB b n U) = 0) : uQ (rstB b n U) = 2 ∧ uY (rstB b n U) = 1 := by
  unfold rstB at q ⊢
  by_cases z : tkK b n (uS U) = 3 ∧ b (uS U) = 41
  · rw [if_pos z] at q ⊢
    by_cases y : uE U = 0
    · rw [if_pos y]; exact ⟨rfl, rfl⟩
    · rw [if_neg y] at q; exact absurd rfl q
  · rw [if_neg z] at q ⊢
    by_cases y : opF b n (uS U) = 0
    · rw [if_pos y]; exact ⟨rfl, rfl⟩
    · rw [if_neg y] at q ⊢
      by_cases w : bdN (opF b n (uS U)) = 4 ∧ topB (popW 5 (uW U) (uP U)).1 = 4
      · rw [if_pos w]; exact ⟨rfl, rfl⟩
      · rw [if_neg w] at q; exact absurd rfl q
def ru0 (s : Nat) : Ru := ((s, 0, 0), (1, 0, 0, 1), [], (0, fun _ => (0, 0)))
def yKs (R : Ry) (k : Nat) : Ry := (R.1, R.2.1, R.2.2.1, R.2.2.2.1, (k, (yK R).2), yR R)
/-- a rule is put into the city -/
def yRu1 (sh : Nat) (R : Ry) (p : Pr) : Ry :=
  if sh = 1 then (R.1, R.2.1, ((yC R).1, cBl (yC R), cWt (yC R), cWl (yC R), p, cRe (yC R)), R.2.2.2.1, ((yK R).1 + p.1, (yK R).2 + mpF p p.1 + 1), ((yK R).1, (yR R).2.1, (yK R).2, (yR R).2.2.2))
  else (R.1, R.2.1, ((yC R).1, cBl (yC R), cWt (yC R), cWl (yC R), cSh (yC R), p), R.2.2.2.1, ((yK R).1 + p.1, (yK R).2 + mpF p p.1 + 1), ((yR R).1, (yK R).1, (yR R).2.2.1, (yK R).2))
def yRu2 (b : Nat → Nat) (n sh : Nat) (R : Ry) (V : Ru) : Ry := if uQ V = 1 then yEnd b n (yRu1 sh R (uP V)) (uS V) else yFl R (uS V) (uY V)
noncomputable def yRule (b : Nat → Nat) (n sh : Nat) (R : Ry) : Ry :=
  if (sh = 1 ∧ ¬ (cSh (yC R)).1 = 0) ∨ (¬ sh = 1 ∧ ¬ (cRe (yC R)).1 = 0) then yFl R (yS R) 5 else yRu2 b n sh R (ruFin b n sh (ru0 (nx b n (yS R))))
def S2r (c cl a k : Nat) : Prop := SN4 a k ∨ Sr c cl a k
theorem S2r.sc {c cl a k : Nat} (h : S2r c cl a k) : Scy c a k := h.elim (fun q => q.sf.sc) (fun q => q.sc)
theorem KY.s2 {h g : Hp} {c cl k : Nat} {Y : Ry} (K : KY h c Y) (F : Fz (S2r c cl) h g) (hk : hI g c 13 = nI k) (h1 : (yR Y).1 + (cSh (yC Y)).1 ≤ cl) (h2 : (yR Y).2.1 + (cRe (yC Y)).1 ≤ cl) : KY g c (yKs Y k) := by
  have hc := at_c K.1.2
  have e : ∀ a j, ¬ (a = 3 ∧ (j ≤ 6 ∨ 13 ≤ j)) → ¬ a = 5 → ¬ (a = c ∧ j = 13) → ¬ (a = c + 9 ∧ cl ≤ j) → hI g a j = hI h a j := fun a j z1 z2 z3 z4 => F.I (fun q => by unfold S2r SN4 Sr at q; omega)
  obtain ⟨⟨k1, k2⟩, ⟨k3, k4, k5, k6, k7, k8⟩, ⟨k9, k9a, k9b, k9c, k9d⟩, k10, k11, k12, k13, ⟨k14, k14a, k14b, k14c⟩, k15, k16⟩ := K
  refine ⟨⟨by rw [F.1]; exact k1, k2⟩, ⟨by rw [e _ _ (by omega) (by omega) (by omega) (by omega)]; exact k3, k4, by rw [e _ _ (by omega) (by omega) (by omega) (by omega)]; exact k5, k6, by rw [e _ _ (by omega) (by omega) (by omega) (by omega)]; exact k7, by rw [e _ _ (by omega) (by omega) (by omega) (by omega)]; exact k8⟩, ⟨by rw [e _ _ (by omega) (by omega) (by omega) (by omega)]; exact k9, by rw [e _ _ (by omega) (by omega) (by omega) (by omega)]; exact k9a, by rw [e _ _ (by omega) (by omega) (by omega) (by omega)]; exact k9b, by rw [e _ _ (by omega) (by omega) (by omega) (by omega)]; exact k9c, hk⟩, ?_, ?_, ?_, ?_, ⟨by rw [e _ _ (by omega) (by omega) (by omega) (by omega)]; exact k14, by rw [e _ _ (by omega) (by omega) (by omega) (by omega)]; exact k14a, by rw [e _ _ (by omega) (by omega) (by omega) (by omega)]; exact k14b, by rw [e _ _ (by omega) (by omega) (by omega) (by omega)]; exact k14c⟩, ?_, ?_⟩
  · intro p hp; rw [e _ _ (by omega) (by omega) (by omega) (by omega), e _ _ (by omega) (by omega) (by omega) (by omega), e _ _ (by omega) (by omega) (by omega) (by omega)]; exact k10 p hp
  · intro p hp; rw [e _ _ (by omega) (by omega) (by omega) (by omega)]; exact k11 p hp
  · intro p hp; rw [e _ _ (by omega) (by omega) (by omega) (by omega), e _ _ (by omega) (by omega) (by omega) (by omega), e _ _ (by omega) (by omega) (by omega) (by omega)]; exact k12 p hp
  · intro p hp; rw [e _ _ (by omega) (by omega) (by omega) (by omega)]; exact k13 p hp
  · intro p hp
    have hp : p < (cSh (yC Y)).1 := hp
    show hI g (c + 9) ((yR Y).1 + p) = _
    rw [e _ _ (by omega) (by omega) (by omega) (by omega)]; exact k15 p hp
  · intro p hp
    have hp : p < (cRe (yC Y)).1 := hp
    show hI g (c + 9) ((yR Y).2.1 + p) = _
    rw [e _ _ (by omega) (by omega) (by omega) (by omega)]; exact k16 p hp
theorem KY.ru {g g2 : Hp} {c cl r sh : Nat} {Y : Ry} {p : Pr} (K : KY g c (yKs Y (cl + p.1))) (hcl : (yK Y).1 = cl) (hrs : (r = c + 10 ∧ sh = 1) ∨ (r = c + 11 ∧ sh = 0)) (hcode : ∀ j, j < p.1 → hI g (c + 9) (cl + j) = encC (p.2 j)) (F : Fz (fun a k => a = r ∧ (k = 0 ∨ k = 1)) g g2) (v0 : hI g2 r 0 = nI cl) (v1 : hI g2 r 1 = nI (cl + p.1)) : KY g2 c (yRu1 sh Y p) := by
  have hc := at_c K.1.2
  obtain ⟨⟨k1, k2⟩, ⟨k3, k4, k5, k6, k7, k8⟩, ⟨k9, k9a, k9b, k9c, k9d⟩, k10, k11, k12, k13, ⟨k14, k14a, k14b, k14c⟩, k15, k16⟩ := K
  unfold yRu1
  rcases hrs with ⟨e1, e2⟩ | ⟨e1, e2⟩
  · rw [if_pos e2]
    refine ⟨⟨by rw [F.1]; exact k1, k2⟩, ⟨by rw [F.I (by omega)]; exact k3, k4, by rw [F.I (by omega)]; exact k5, k6, by rw [F.I (by omega)]; exact k7, by rw [F.I (by omega)]; exact k8⟩, ⟨by rw [F.I (by omega)]; exact k9, by rw [F.I (by omega)]; exact k9a, by rw [F.I (by omega)]; exact k9b, by rw [F.I (by omega)]; exact k9c, by rw [F.I (by omega)]; show _ = nI ((yK Y).1 + p.1); rw [hcl]; exact k9d⟩, ?_, ?_, ?_, ?_, ⟨by rw [← e1, v0]; show _ = nI (yK Y).1; rw [hcl], by rw [← e1, v1]; show _ = nI ((yK Y).1 + p.1); rw [hcl], by rw [F.I (by omega)]; exact k14b, by rw [F.I (by omega)]; exact k14c⟩, ?_, ?_⟩
    · intro p hp; rw [F.I (by omega), F.I (by omega), F.I (by omega)]; exact k10 p hp
    · intro p hp; rw [F.I (by omega)]; exact k11 p hp
    · intro p hp; rw [F.I (by omega), F.I (by omega), F.I (by omega)]; exact k12 p hp
    · intro p hp; rw [F.I (by omega)]; exact k13 p hp
    · intro j hj
      show hI g2 (c + 9) ((yK Y).1 + j) = encC (p.2 j)
      rw [hcl, F.I (by omega)]; exact hcode j hj
    · intro p hp; rw [F.I (by omega)]; exact k16 p hp
  · rw [if_neg (by omega)]
    refine ⟨⟨by rw [F.1]; exact k1, k2⟩, ⟨by rw [F.I (by omega)]; exact k3, k4, by rw [F.I (by omega)]; exact k5, k6, by rw [F.I (by omega)]; exact k7, by rw [F.I (by omega)]; exact k8⟩, ⟨by rw [F.I (by omega)]; exact k9, by rw [F.I (by omega)]; exact k9a, by rw [F.I (by omega)]; exact k9b, by rw [F.I (by omega)]; exact k9c, by rw [F.I (by omega)]; show _ = nI ((yK Y).1 + p.1); rw [hcl]; exact k9d⟩, ?_, ?_, ?_, ?_, ⟨by rw [F.I (by omega)]; exact k14, by rw [F.I (by omega)]; exact k14a, by rw [← e1, v0]; show _ = nI (yK Y).1; rw [hcl], by rw [← e1, v1]; show _ = nI ((yK Y).1 + p.1); rw [hcl]⟩, ?_, ?_⟩
    · intro p hp; rw [F.I (by omega), F.I (by omega), F.I (by omega)]; exact k10 p hp
    · intro p hp; rw [F.I (by omega)]; exact k11 p hp
    · intro p hp; rw [F.I (by omega), F.I (by omega), F.I (by omega)]; exact k12 p hp
    · intro p hp; rw [F.I (by omega)]; exact k13 p hp
    · intro p hp; rw [F.I (by omega)]; exact k15 p hp
    · intro j hj
      show hI g2 (c + 9) ((yK Y).1 + j) = encC (p.2 j)
      rw [hcl, F.I (by omega)]; exact hcode j hj
theorem r_ru127 {l : Launch} {d n c cl r sh s : Nat} {b : Nat → Nat} {h h0 g : Hp} {Y : Ry} {W : List Nat} {p : Pr} {x3 x4 : Int32} (hr : RuleAt r) (hrs : (r = c + 10 ∧ sh = 1) ∨ (r = c + 11 ∧ sh = 0)) (hS : St g) (R : RC g b n s) (K : KY h c Y) (F : Fz (S2r c cl) h g) (F0 : Fz (Scy c) h0 h) (H : SKc g c cl W p) (hW : ∀ o, o ∈ W → o ≤ 9) (hl : W.length ≤ 128) (hb : cl + p.1 + W.length ≤ 700) (f0 : (yF Y).1 = 0) (hcl : (yK Y).1 = cl) (h1 : (yR Y).1 + (cSh (yC Y)).1 ≤ cl) (h2 : (yR Y).2.1 + (cRe (yC Y)).1 ≤ cl) : Go l (rmOf (d + 9) (0, 0)) mX3_ruleLine (hN h0) (Zm (0, 0) (fun v0 h1 => v0 = some (.int (if (yF (yEnd b n (yRu1 sh Y (popW 1 W p).2) s)).1 = 0 then 1 else 0)) ∧ CK h0 h1 c b n (yEnd b n (yRu1 sh Y (popW 1 W p).2) s)) noX) 127 [some (.ref 3), some (.ref r), some (.int (nI cl)), some (.int x3), some (.int x4)] [] g 0 0 := by
  have hc := K.1.2
  have hc' := at_c hc
  have hC : hR g 3 7 = some c := by rw [F.1]; exact K.1.1
  have pt := fun d => r_putTighter (l := l) (d := d) (m := 0) hS hc hC H hW hl hb (by decide)
  rw [show max 0 1 = 1 from rfl] at pt
  generalize popW 1 W p = x at *
  obtain ⟨W1, p1⟩ := x
  dsimp only at pt ⊢
  refine go_aloadn dX3_ruleLine_127 rfl ?_
  refine go_iconst (v := 0) dX3_ruleLine_128 rfl ?_
  refine sg_rV0 (M' := mX3_putTighter) ([.int (nI 0)]) dX3_ruleLine_129 lX3_216 vX3_putTighter (rd_L rfl) (by decide) rfl hS (pt _) rfl (Nat.le_of_ble_eq_true rfl) (Nat.zero_le _) (Nat.zero_le _) (fun g2 G => ?_)
  skip
  have F2 : Fz (S2r c cl) h g2 := F.tr (G.1.sub (fun a k q => Or.inr (by unfold Spt at q; unfold Sr; omega)))
  have hS := G.1.St hS
  have R2 := R.fz G.1 (fun k => by unfold Spt; omega) (fun k hk => by unfold Spt; omega)
  have hC : hR g2 3 7 = some c := by rw [G.1.1]; exact hC
  have e13 := G.2.2.2.1
  have K2 := K.s2 F2 e13 h1 h2
  have F5 : Fz (fun a k => a = r ∧ (k = 0 ∨ k = 1)) g2 (uI (uI g2 r 0 (nI cl)) r 1 (nI (cl + p1.1))) := (Fz.rf.uI ⟨rfl, Or.inl rfl⟩).uI ⟨rfl, Or.inr rfl⟩
  have v0 : hI (uI (uI g2 r 0 (nI cl)) r 1 (nI (cl + p1.1))) r 0 = nI cl := by rw [hI_uI_ne (by omega), hI_uI_eq]
  have v1 : hI (uI (uI g2 r 0 (nI cl)) r 1 (nI (cl + p1.1))) r 1 = nI (cl + p1.1) := hI_uI_eq
  have fin : ∀ g3, g3 = uI (uI g2 r 0 (nI cl)) r 1 (nI (cl + p1.1)) → Go l (rmOf (d + 9) (0, 0)) mX3_ruleLine (hN h0) (Zm (0, 0) (fun v0 h1 => v0 = some (.int (if (yF (yEnd b n (yRu1 sh Y p1) s)).1 = 0 then 1 else 0)) ∧ CK h0 h1 c b n (yEnd b n (yRu1 sh Y p1) s)) noX) 148 [some (.ref 3), some (.ref r), some (.int (nI cl)), some (.int x3), some (.int x4)] [] g3 0 0 := by
    intro g3 hg
    rw [← hg] at F5 v0 v1
    have hS := F5.St hS
    have K3 := K2.ru hcl hrs G.2.2.2.2 F5 v0 v1
    have R3 := R2.fz F5 (fun k => by omega) (fun k hk => by omega)
    have F6 : Fz (Scy c) h0 g3 := F0.tr ((F2.sub (fun _ _ q => q.sc)).tr (F5.sub (fun a k q => by unfold Scy; omega)))
    have f1 : (yF (yRu1 sh Y p1)).1 = 0 := by unfold yRu1; split <;> exact f0
    have le := fun d => r_lineEnd (l := l) (d := d) hS F6 R3 K3 f1
    generalize yEnd b n (yRu1 sh Y p1) s = Y' at *
    by_cases x : (yF Y').1 = 0
    · rw [if_pos x]
      refine go_aloadn dX3_ruleLine_148 rfl ?_
      refine sg_rVi (M' := mX3_lineEnd) ([]) dX3_ruleLine_149 lX3_153 vX3_lineEnd (rd_L rfl) (by decide) rfl hS ((le _)) rfl (Nat.le_of_ble_eq_true rfl) (Nat.zero_le _) (Nat.zero_le _) (fun g4 A => ?_)
      rw [if_pos x]
      refine go_ireturn dX3_ruleLine_152 rfl rfl (Nat.zero_le _) (Nat.zero_le _) ?_
      exact ⟨rfl, A⟩
    · rw [if_neg x]
      refine go_aloadn dX3_ruleLine_148 rfl ?_
      refine sg_rVi (M' := mX3_lineEnd) ([]) dX3_ruleLine_149 lX3_153 vX3_lineEnd (rd_L rfl) (by decide) rfl hS ((le _)) rfl (Nat.le_of_ble_eq_true rfl) (Nat.zero_le _) (Nat.zero_le _) (fun g4 A => ?_)
      rw [if_neg x]
      refine go_ireturn dX3_ruleLine_152 rfl rfl (Nat.zero_le _) (Nat.zero_le _) ?_
      exact ⟨rfl, A⟩
  refine go_aloadn dX3_ruleLine_132 rfl ?_
  refine go_iloadn dX3_ruleLine_133 rfl ?_
  refine sg_putI dX3_ruleLine_134 fX3_220 rfl rfl (ru_L hr) hS ?_
  refine go_aloadn dX3_ruleLine_137 rfl ?_
  refine go_aloadn dX3_ruleLine_138 rfl ?_
  refine sg_getR dX3_ruleLine_139 fX3_29 rfl (rd_L rfl) hS hC ?_
  refine sg_getI dX3_ruleLine_142 fX3_197 rfl (ct_L hc) hS ?_
  rw [hI_uI_ne (by omega), e13]
  refine sg_putI dX3_ruleLine_145 fX3_223 rfl rfl (ru_L hr) hS ?_
  exact fin _ rfl
