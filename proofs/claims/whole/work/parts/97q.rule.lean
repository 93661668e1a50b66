/-! rules: the machine that both readers are -/
section
variable {l : Launch} {R : Room} {M : MI} {n0 : Nat} {Z : ZT} {pc : Nat} {lv : List (Option Value)} {st : List Value} {h : Hp} {u w : Nat}
theorem go_ldcwS {idx i : Nat} (hM : M.1.cls = RX3) (hi : i < 21) (hx : strI.getD i 0 = idx) (hd : decode M.2.1 pc = .ok (.ldc_w idx, 3)) (k : Go l R M n0 Z (pc + 3) lv (.ref (1001 + i) :: st) h u w) : Go l R M n0 Z pc lv st h u w := by
  intro p e s m args below meth c D A ρ C cA H locs ls hWd hS hL T hT X
  have ho := C.2.2.2.2.1
  rw [hM] at ho
  have hR := C.2.2.2.2.2.2.2.2.2.2.2.1.2.2.2.2.1 i hi
  rw [hx] at hR
  obtain ⟨t, a1, b1⟩ := k p e s m args below meth c D A ρ C cA H locs ls hWd hS hL T hT X
  refine ⟨t, ?_, b1⟩
  obtain ⟨kk, cf, j, a', hk, hcf, hcp, -, hr, hev'⟩ := Cond.stringRef_spec ho hR.1
  have ea := hR.2.symm.trans hev'
  obtain ⟨k', hk', he⟩ := X.warmed.alike.2.2 _ _ hk
  have hr' : k'.resolved[idx]? = some (some (.string a')) := by
    rcases X.warmed.entry hk hk' idx with q | ⟨q, -⟩
    · rw [q]; exact hr
    · rw [hr] at q; cases q
  have ea' : ρ (1001 + i) = a' := by cases ea; rfl
  rw [← ea'] at hr'
  jvm_step X.here [X.here.top, C.1, C.2.1, hd, ldc_w.wp_string (e := e) (s := T) (f := F0 m pc ls (st.map (tv ρ))) X.here.top hk' (by rw [he]; exact hcf) hcp hr']
  exact a1
end
def bndL : List Nat := [0, 1, 2, 3, 4, 4, 5, 5, 6, 6]
/-- how tightly o binds -/
def bdN (o : Nat) : Nat := bndL.getD o 0
theorem bnd_n : ∀ o : Fin 10, bndV o.val = nI (bdN o.val) ∧ bdN o.val ≤ 6 ∧ (bdN o.val = 0 ↔ o.val = 0) := by decide +kernel
def opO (o : Nat) : Op := if o = 3 then (2, 0) else (3, o)
theorem enc_op : ∀ o : Fin 10, 0 < o.val → encC (opO o.val) = 20000 + nI o.val := by decide +kernel
def psh (p : Pr) (o : Op) : Pr := (p.1 + 1, fun j => if j = p.1 then o else p.2 j)
/-- what waits and binds at least so tightly is written -/
def popW (m : Nat) : List Nat → Pr → List Nat × Pr
  | [], p => ([], p)
  | o :: W, p => if m ≤ bdN o then popW m W (psh p (opO o)) else (o :: W, p)
def topB (W : List Nat) : Nat := bdN (W.headD 0)
/-- the row of what waits, and the code, in the class -/
def SKc (g : Hp) (c cl : Nat) (W : List Nat) (p : Pr) : Prop := hI g 3 13 = nI W.length ∧ (∀ i, i < W.length → hI g 5 i = nI (W.getD (W.length - 1 - i) 0)) ∧ hI g c 13 = nI (cl + p.1) ∧ ∀ j, j < p.1 → hI g (c + 9) (cl + j) = encC (p.2 j)
def Spt (c cl a k : Nat) : Prop := (a = 3 ∧ k = 13) ∨ (a = c ∧ k = 13) ∨ (a = c + 9 ∧ cl ≤ k)
theorem SKc.top {g : Hp} {c cl o : Nat} {W : List Nat} {p : Pr} (H : SKc g c cl (o :: W) p) : hI g 5 W.length = nI o := by
  have := H.2.1 W.length (by simp)
  rw [this, List.length_cons, show W.length + 1 - 1 - W.length = 0 by omega]; rfl
theorem r_bindingOnTop {l : Launch} {d c cl : Nat} {W : List Nat} {p : Pr} {h : Hp} (hS : St h) (H : SKc h c cl W p) (hW : ∀ o, o ∈ W → o ≤ 9) (hl : W.length ≤ 128) : Ex l (d + 1) mX3_bindingOnTop [.ref 3] h (some (.int (nI (topB W)))) h := by
  refine run_lv [some (.ref 3)] (go := ?_)
  have h13 := H.1
  cases W with
  | nil =>
    have h13 : hI h 3 13 = 0 := h13
    refine go_aloadn dX3_bindingOnTop_0 rfl ?_
    refine sg_getI dX3_bindingOnTop_1 fX3_224 rfl (rd_L rfl) hS ?_
    rw [h13]
    refine go_if_le (tgt := 25) dX3_bindingOnTop_4 (by decide) (fun c4 => ?_) (fun c4 => absurd (Int32.le_refl _) c4)
    refine go_iconst (v := 0) dX3_bindingOnTop_25 rfl ?_
    refine go_ireturn dX3_bindingOnTop_26 rfl rfl (Nat.zero_le _) (Nat.zero_le _) ?_
    exact ⟨rfl, rfl⟩
  | cons o W =>
    have ho := hW o (by simp)
    have ht := H.top
    rw [List.length_cons] at h13 hl
    obtain ⟨b1, b2, -⟩ := bnd_n ⟨o, by omega⟩
    dsimp only at b1 b2
    refine go_aloadn dX3_bindingOnTop_0 rfl ?_
    refine sg_getI dX3_bindingOnTop_1 fX3_224 rfl (rd_L rfl) hS ?_
    rw [h13]
    refine go_if_le (tgt := 25) dX3_bindingOnTop_4 (by decide) (fun c4 => absurd c4 (Int32.not_le.mpr (nI_lt (a := 0) (by omega) (by omega)))) (fun c4 => ?_)
    refine go_bnd dX3_bindingOnTop_7 fs_bnd ?_
    refine go_aloadn dX3_bindingOnTop_10 rfl ?_
    refine sg_getR dX3_bindingOnTop_11 fX3_15 rfl (rd_L rfl) hS (rd_r12 hS rfl) ?_
    refine go_aloadn dX3_bindingOnTop_14 rfl ?_
    refine sg_getI dX3_bindingOnTop_15 fX3_224 rfl (rd_L rfl) hS ?_
    rw [h13]
    refine go_iconst (v := 1) dX3_bindingOnTop_18 rfl ?_
    refine go_isub dX3_bindingOnTop_19 ?_
    rw [show nI (W.length + 1) - 1 = nI W.length from nI_sb (s := 1) (by omega)]
    refine sg_ialdN (i := W.length) (x := nI o) dX3_bindingOnTop_20 (rd_12 rfl) hS (by simp only [lit_nI, nI_add, pk_mul, Nat.add_assoc, Nat.zero_add, Nat.add_zero]) (by omega) (ht) ?_
    refine go_bndld dX3_bindingOnTop_21 (vp_in_nI (show o < 10 by omega) (by decide)) ?_
    rw [cl_nI (by omega), b1]
    refine go_goto (tgt := 26) dX3_bindingOnTop_22 (by decide) ?_
    refine go_ireturn dX3_bindingOnTop_26 rfl rfl (Nat.zero_le _) (Nat.zero_le _) ?_
    exact ⟨rfl, rfl⟩
theorem r_pt6 {l : Launch} {d c cl m : Nat} (hc : CityAt c) (hm : 0 < m) (hm7 : m ≤ 100) {n0 : Nat} {x1 : Int32} : ∀ (W : List Nat) (p : Pr) (h : Hp) (h0 : Hp), St h → hR h 3 7 = some c → Fz (Spt c cl) h0 h → SKc h c cl W p → (∀ o, o ∈ W → o ≤ 9) → W.length ≤ 128 → cl + p.1 + W.length ≤ 700 → Go l (rmOf (d + 2) (0, 0)) mX3_putTighter n0 (Zm (0, 0) (fun v h1 => v = none ∧ Fz (Spt c cl) h0 h1 ∧ SKc h1 c cl (popW m W p).1 (popW m W p).2) noX) 6 [some (.ref 3), some (.int x1), some (.int (nI m))] [] h 0 0 := by
  have hc' := at_c hc
  intro W
  induction W with
  | nil =>
    intro p h h0 hS hC F H hW hl hb
    have h13 : hI h 3 13 = 0 := H.1
    refine go_aloadn dX3_putTighter_6 rfl ?_
    refine sg_getI dX3_putTighter_7 fX3_224 rfl (rd_L rfl) hS ?_
    rw [h13]
    refine go_if_le (tgt := 54) dX3_putTighter_10 (by decide) (fun c10 => ?_) (fun c10 => absurd (Int32.le_refl _) c10)
    refine go_return dX3_putTighter_54 rfl (Nat.zero_le _) (Nat.zero_le _) ?_
    exact ⟨rfl, F, H⟩
  | cons o W ih =>
    intro p h h0 hS hC F H hW hl hb
    have ho := hW o (by simp)
    have ht := H.top
    have h13 := H.1
    have hl' := hl
    rw [List.length_cons] at h13 hl' hb
    have bt := fun d => r_bindingOnTop (l := l) (d := d) hS H hW hl
    rw [show topB (o :: W) = bdN o from rfl] at bt
    obtain ⟨-, b2, b3⟩ := bnd_n ⟨o, by omega⟩
    dsimp only at b2 b3
    have e : popW m (o :: W) p = if m ≤ bdN o then popW m W (psh p (opO o)) else (o :: W, p) := rfl
    rw [e]
    by_cases z : m ≤ bdN o
    · rw [if_pos z]
      have eo := enc_op ⟨o, by omega⟩ (by show 0 < o; omega)
      dsimp only at eo
      have hL : hI (uI h 3 13 (nI W.length)) c 13 = nI (cl + p.1) := by rw [hI_uI_ne (by omega)]; exact H.2.2.1
      have pc := fun d => r_putCode (l := l) (d := d) (v := 20000 + nI o) (h := uI h 3 13 (nI W.length)) hS hc hL (by omega)
      have F1 : Fz (fun a k => (a = 3 ∧ k = 13) ∨ (a = c + 9 ∧ k = cl + p.1) ∨ (a = c ∧ k = 13)) h (uI (uI (uI h 3 13 (nI W.length)) (c + 9) (cl + p.1) (20000 + nI o)) c 13 (nI (cl + p.1 + 1))) := ((Fz.rf.uI (Or.inl ⟨rfl, rfl⟩)).uI (Or.inr (Or.inl ⟨rfl, rfl⟩))).uI (Or.inr (Or.inr ⟨rfl, rfl⟩))
      have w1 : hI (uI (uI (uI h 3 13 (nI W.length)) (c + 9) (cl + p.1) (20000 + nI o)) c 13 (nI (cl + p.1 + 1))) 3 13 = nI W.length := by rw [hI_uI_ne (by omega), hI_uI_ne (by omega), hI_uI_eq]
      have w2 : hI (uI (uI (uI h 3 13 (nI W.length)) (c + 9) (cl + p.1) (20000 + nI o)) c 13 (nI (cl + p.1 + 1))) (c + 9) (cl + p.1) = encC (opO o) := by rw [hI_uI_ne (by omega), hI_uI_eq, eo]
      have w3 : hI (uI (uI (uI h 3 13 (nI W.length)) (c + 9) (cl + p.1) (20000 + nI o)) c 13 (nI (cl + p.1 + 1))) c 13 = nI (cl + p.1 + 1) := hI_uI_eq
      generalize uI (uI (uI h 3 13 (nI W.length)) (c + 9) (cl + p.1) (20000 + nI o)) c 13 (nI (cl + p.1 + 1)) = g at *
      have G : SKc g c cl W (psh p (opO o)) := by
        refine ⟨w1, fun i hi => ?_, by rw [w3]; rfl, fun j hj => ?_⟩
        · rw [F1.I (by omega), H.2.1 i (by rw [List.length_cons]; omega), List.length_cons, show W.length + 1 - 1 - i = (W.length - 1 - i) + 1 by omega]; rfl
        · show hI g (c + 9) (cl + j) = encC (if j = p.1 then opO o else p.2 j)
          have hj : j < p.1 + 1 := hj
          by_cases q : j = p.1
          · rw [if_pos q, q]; exact w2
          · rw [if_neg q, F1.I (by omega)]; exact H.2.2.2 j (by omega)
      have go := ih (psh p (opO o)) g h0 (F1.St hS) (by rw [F1.1]; exact hC) (F.tr (F1.sub (fun a k q => by unfold Spt; omega))) G (fun x hx => hW x (by simp [hx])) (by omega) (by show cl + (p.1 + 1) + W.length ≤ 700; omega)
      refine go_aloadn dX3_putTighter_6 rfl ?_
      refine sg_getI dX3_putTighter_7 fX3_224 rfl (rd_L rfl) hS ?_
      rw [h13]
      refine go_if_le (tgt := 54) dX3_putTighter_10 (by decide) (fun c10 => absurd c10 (Int32.not_le.mpr (nI_lt (a := 0) (by omega) (by omega)))) (fun c10 => ?_)
      refine go_aloadn dX3_putTighter_13 rfl ?_
      refine sg_cVi (M' := mX3_bindingOnTop) ([]) dX3_putTighter_14 lX3_276 vX3_bindingOnTop (rd_L rfl) (by decide) rfl hS (bt _) rfl (Nat.le_of_ble_eq_true rfl) (Nat.zero_le _) (Nat.zero_le _) ?_
      refine go_iloadn dX3_putTighter_17 rfl ?_
      refine go_icmp_lt (tgt := 54) dX3_putTighter_18 (by decide) (fun c18 => absurd c18 (nI_nlt z (by omega))) (fun c18 => ?_)
      refine go_aloadn dX3_putTighter_21 rfl ?_
      refine go_dup dX3_putTighter_22 rfl ?_
      refine sg_getI dX3_putTighter_23 fX3_224 rfl (rd_L rfl) hS ?_
      rw [h13]
      refine go_iconst (v := 1) dX3_putTighter_26 rfl ?_
      refine go_isub dX3_putTighter_27 ?_
      rw [show nI (W.length + 1) - 1 = nI W.length from nI_sb (s := 1) (by omega)]
      refine sg_putI dX3_putTighter_28 fX3_224 rfl rfl (rd_L rfl) hS ?_
      refine go_aloadn dX3_putTighter_31 rfl ?_
      refine sg_getR dX3_putTighter_32 fX3_29 rfl (rd_L rfl) hS hC ?_
      refine go_sipush (v := 20000) dX3_putTighter_35 rfl ?_
      refine go_aloadn dX3_putTighter_38 rfl ?_
      refine sg_getR dX3_putTighter_39 fX3_15 rfl (rd_L rfl) hS (rd_r12 hS rfl) ?_
      refine go_aloadn dX3_putTighter_42 rfl ?_
      refine sg_getI dX3_putTighter_43 fX3_224 rfl (rd_L rfl) hS ?_
      rw [hI_uI_eq]
      refine sg_ialdN (i := W.length) (x := nI o) dX3_putTighter_46 (rd_12 rfl) hS (by simp only [lit_nI, nI_add, pk_mul, Nat.add_assoc, Nat.zero_add, Nat.add_zero]) (by omega) ((by rw [hI_uI_ne (by omega)]; exact ht)) ?_
      refine go_iadd dX3_putTighter_47 ?_
      refine sg_cV0 (M' := mX1_putCode) ([.int (20000 + nI o)]) dX3_putTighter_48 lX3_264 vX1_putCode (ct_L hc) (by decide) rfl hS (pc _) rfl (Nat.le_of_ble_eq_true rfl) (Nat.zero_le _) (Nat.zero_le _) ?_
      refine go_goto (tgt := 6) dX3_putTighter_51 (by decide) ?_
      exact go
    · rw [if_neg z]
      refine go_aloadn dX3_putTighter_6 rfl ?_
      refine sg_getI dX3_putTighter_7 fX3_224 rfl (rd_L rfl) hS ?_
      rw [h13]
      refine go_if_le (tgt := 54) dX3_putTighter_10 (by decide) (fun c10 => absurd c10 (Int32.not_le.mpr (nI_lt (a := 0) (by omega) (by omega)))) (fun c10 => ?_)
      refine go_aloadn dX3_putTighter_13 rfl ?_
      refine sg_cVi (M' := mX3_bindingOnTop) ([]) dX3_putTighter_14 lX3_276 vX3_bindingOnTop (rd_L rfl) (by decide) rfl hS (bt _) rfl (Nat.le_of_ble_eq_true rfl) (Nat.zero_le _) (Nat.zero_le _) ?_
      refine go_iloadn dX3_putTighter_17 rfl ?_
      refine go_icmp_lt (tgt := 54) dX3_putTighter_18 (by decide) (fun c18 => ?_) (fun c18 => absurd (nI_lt (by omega) (by omega)) c18)
      refine go_return dX3_putTighter_54 rfl (Nat.zero_le _) (Nat.zero_le _) ?_
      exact ⟨rfl, F, H⟩
theorem r_putTighter {l : Launch} {d c cl m : Nat} {W : List Nat} {p : Pr} {h : Hp} (hS : St h) (hc : CityAt c) (hC : hR h 3 7 = some c) (H : SKc h c cl W p) (hW : ∀ o, o ∈ W → o ≤ 9) (hl : W.length ≤ 128) (hb : cl + p.1 + W.length ≤ 700) (hm : m ≤ 6) : Ey l (d + 2) mX3_putTighter [.ref 3, .int (nI m)] h none (fun g => Fz (Spt c cl) h g ∧ SKc g c cl (popW (max m 1) W p).1 (popW (max m 1) W p).2) := by
  refine run_lv [some (.ref 3), some (.int (nI m)), none] (go := ?_)
  have e : (if nI m < (1 : Int32) then (1 : Int32) else nI m) = nI (max m 1) := by
    by_cases z : m = 0
    · subst z; rfl
    · rw [if_neg (show ¬ nI m < (1 : Int32) from nI_nlt (a := m) (b := 1) (by omega) (by omega)), show max m 1 = m by omega]
  refine go_iloadn dX3_putTighter_0 rfl ?_
  refine go_iconst (v := 1) dX3_putTighter_1 rfl ?_
  refine go_max dX3_putTighter_2 lX3_283 (Nat.le_of_ble_eq_true rfl) (by simp only [rmOf]; omega) (by simp only [rmOf]; omega) (Nat.zero_le _) (Nat.zero_le _) ?_
  rw [e]
  refine go_ist2 dX3_putTighter_5 rfl ?_
  exact r_pt6 hc (by omega) (by omega) W p h h hS hC Fz.rf H hW hl hb
