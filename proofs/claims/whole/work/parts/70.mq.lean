/-! the model's questions -/
/-- what the model's questions may change -/
def SM (a k : Nat) : Prop := (a = 77 ∧ (k = 0 ∨ k = 48 ∨ k = 55)) ∨ (a = 91 ∧ 105 ≤ k) ∨ a = 93 ∨ a = 94 ∨ a = 95 ∨ a = 96 ∨ a = 98 ∨ a = 99
theorem sm0 : SM 77 0 := Or.inl ⟨rfl, Or.inl rfl⟩
theorem sdm {a k : Nat} (h : SD 105 a k) : SM a k := by unfold SD at h; unfold SM; omega
theorem s93m {a k : Nat} (h : S93 a k) : SM a k := by unfold S93 at h; unfold SM; omega
def MB (h : Hp) (as ar : Nat) (C : Cy) (T : Tn) : Prop := MC h as ar C ∧ MT h 0 C T ∧ hI h 77 47 = 0
theorem MC.sm {h g : Hp} {as ar : Nat} {C : Cy} (H : MC h as ar C) (F : Fz SM h g) : MC g as ar C := H.fz F (fun a k q => by unfold SM at q; omega)
theorem MT.sm {h g : Hp} {C : Cy} {T : Tn} (W : WC C) (H : MT h 0 C T) (F : Fz SM h g) : MT g 0 C T := H.fz W F (fun k _ h2 q => by unfold SM at q; omega)
theorem MB.sm {h g : Hp} {as ar : Nat} {C : Cy} {T : Tn} (W : WC C) (H : MB h as ar C T) (F : Fz SM h g) : MB g as ar C T := ⟨H.1.sm F, H.2.1.sm W F, by rw [F.I (by unfold SM; omega)]; exact H.2.2⟩
abbrev Qn (o : An) (h : Hp) : Option Value → Hp → Prop := fun v g => (∃ r, v = some (.int r) ∧ (o.1 = 0 → r = o.2)) ∧ hI g 77 0 = nI o.1 ∧ Fz SM h g
/-- a question of the model -/
def Qm (l : Launch) (d : Nat) (M : MI) (as : List Value) (h : Hp) (o : An) : Prop := Run l d (0, 0) M as h (Qn o h) noX
theorem qn_ok {v : Int32} {h g : Hp} {x : Int32} (e : x = v) (h0 : hI g 77 0 = 0) (F : Fz SM h g) : Qn (0, v) h (some (.int x)) g := ⟨⟨x, rfl, fun _ => e⟩, h0, F⟩
section
variable {l : Launch} {M : MI} {n0 : Nat} {pc : Nat} {lv : List (Option Value)} {st : List Value} {h h0 : Hp} {d u w : Nat}
theorem sg_mnd {M' : MI} {P : Prop} [Decidable P] {k : Nat} {o : An} (as : List Value) {a ci idx : Nat} {stk : List Value} (hd : decode M.2.1 pc = .ok (.invokevirtual idx, 3)) (hl : inG (.methodLink M.1.cls idx M'.1)) (hc : CV M' as.length) (ha : lay a = .inl ci) (hci : ci < 11) (hcl : clR ci = M'.1.cls) (hS : St h)
    (hg : P → Ex l d M' (.ref a :: as) h (some (.int 1)) h) (hb : ¬ P → Ex l d M' (.ref a :: as) h (some (.int 0)) (uI h 77 0 (nI k))) (hstk : stk = as.reverse ++ .ref a :: st) (hst : (st.map (fun v => v.category)).sum ≤ 8)
    (kb : ¬ P → Go l (rmOf (d + 1) (0, 0)) M n0 (Zm (0, 0) (Qn (k, 0) h0) noX) (pc + 3) lv (.int 0 :: st) (uI h 77 0 (nI k)) 0 0) (kk : P → Go l (rmOf (d + 1) (0, 0)) M n0 (Zm (0, 0) (Qn o h0) noX) (pc + 3) lv (.int 1 :: st) h 0 0) : Go l (rmOf (d + 1) (0, 0)) M n0 (Zm (0, 0) (Qn (nd P k o) h0) noX) pc lv stk h 0 0 := by
  by_cases q : P
  · rw [nd, if_pos q]
    exact sg_cVi as hd hl hc ha hci hcl hS (hg q) hstk hst (Nat.zero_le _) (Nat.zero_le _) (kk q)
  · rw [nd, if_neg q]
    exact sg_cVi as hd hl hc ha hci hcl hS (hb q) hstk hst (Nat.zero_le _) (Nat.zero_le _) (kb q)
end
theorem q_right {l : Launch} {d k : Nat} {P : Prop} [Decidable P] {h : Hp} (hS : St h) (h0 : hI h 77 0 = 0) (hk : 0 < k) (hk2 : k < 100) : (P → Ex l (d + 1) mX10_right [.ref 77, .int (if P then 1 else 0), .int (nI k)] h (some (.int 1)) h) ∧ (¬ P → Ex l (d + 1) mX10_right [.ref 77, .int (if P then 1 else 0), .int (nI k)] h (some (.int 0)) (uI h 77 0 (nI k))) := by
  refine ⟨fun q => ?_, fun q => ?_⟩
  · rw [if_pos q]
    refine run_lv [some (.ref 77), some (.int 1), some (.int (nI k))] (go := ?_)
    refine go_aloadn dX10_right_0 rfl ?_
    refine sg_getI dX10_right_1 fX10_102 rfl (mo_L rfl) hS ?_
    rw [h0]
    refine go_if_ne (tgt := 16) dX10_right_4 (by decide) (fun c4 => absurd rfl c4) (fun c4 => ?_)
    refine go_iloadn dX10_right_7 rfl ?_
    refine go_if_ne (tgt := 16) dX10_right_8 (by decide) (fun c8 => ?_) (fun c8 => absurd c8 (by decide))
    refine go_aloadn dX10_right_16 rfl ?_
    refine sg_getI dX10_right_17 fX10_102 rfl (mo_L rfl) hS ?_
    rw [h0]
    refine go_if_ne (tgt := 27) dX10_right_20 (by decide) (fun c20 => absurd rfl c20) (fun c20 => ?_)
    refine go_iconst (v := 1) dX10_right_23 rfl ?_
    refine go_goto (tgt := 28) dX10_right_24 (by decide) ?_
    refine go_ireturn dX10_right_28 rfl rfl (Nat.zero_le _) (Nat.zero_le _) ?_
    exact ⟨rfl, rfl⟩
  · rw [if_neg q]
    refine run_lv [some (.ref 77), some (.int 0), some (.int (nI k))] (go := ?_)
    refine go_aloadn dX10_right_0 rfl ?_
    refine sg_getI dX10_right_1 fX10_102 rfl (mo_L rfl) hS ?_
    rw [h0]
    refine go_if_ne (tgt := 16) dX10_right_4 (by decide) (fun c4 => absurd rfl c4) (fun c4 => ?_)
    refine go_iloadn dX10_right_7 rfl ?_
    refine go_if_ne (tgt := 16) dX10_right_8 (by decide) (fun c8 => absurd rfl c8) (fun c8 => ?_)
    refine go_aloadn dX10_right_11 rfl ?_
    refine go_iloadn dX10_right_12 rfl ?_
    refine sg_putI dX10_right_13 fX10_102 rfl rfl (mo_L rfl) hS ?_
    refine go_aloadn dX10_right_16 rfl ?_
    refine sg_getI dX10_right_17 fX10_102 rfl (mo_L rfl) hS ?_
    rw [hI_uI_eq]
    refine go_if_ne (tgt := 27) dX10_right_20 (by decide) (fun c20 => ?_) (fun c20 => absurd c20 (nI_ne0 hk (by omega)))
    refine go_iconst (v := 0) dX10_right_27 rfl ?_
    refine go_ireturn dX10_right_28 rfl rfl (Nat.zero_le _) (Nat.zero_le _) ?_
    exact ⟨rfl, rfl⟩
theorem q_isPerson {l : Launch} {d as ar : Nat} {C : Cy} {x : Int32} {h : Hp} (H : MC h as ar C) (h0 : hI h 77 0 = 0) : (okX (cP C) x → Ex l (d + 2) mX10_isPerson [.ref 77, .int x] h (some (.int 1)) h) ∧ (¬ okX (cP C) x → Ex l (d + 2) mX10_isPerson [.ref 77, .int x] h (some (.int 0)) (uI h 77 0 (nI 1))) := by
  have hS := H.1
  have hpe := H.2.1.2.1
  have hr := q_right (l := l) (d := d) (k := 1) (P := okX (cP C) x) hS h0 (by decide) (by decide)
  refine ⟨fun q => ?_, fun q => ?_⟩
  · have hr := hr.1 q
    rw [if_pos q] at hr
    refine run_lv [some (.ref 77), some (.int x)] (go := ?_)
    refine go_aloadn dX10_isPerson_0 rfl ?_
    refine go_iloadn dX10_isPerson_1 rfl ?_
    refine go_if_lt (tgt := 17) dX10_isPerson_2 (by decide) (fun c2 => absurd c2 (Int32.not_lt.mpr q.1)) (fun c2 => ?_)
    refine go_iloadn dX10_isPerson_5 rfl ?_
    refine go_aloadn dX10_isPerson_6 rfl ?_
    refine sg_getI dX10_isPerson_7 fX10_273 rfl (mo_L rfl) hS ?_
    rw [hpe]
    refine go_icmp_ge (tgt := 17) dX10_isPerson_10 (by decide) (fun c10 => absurd q.2 (Int32.not_lt.mpr c10)) (fun c10 => ?_)
    refine go_iconst (v := 1) dX10_isPerson_13 rfl ?_
    refine go_goto (tgt := 18) dX10_isPerson_14 (by decide) ?_
    refine go_iconst (v := 1) dX10_isPerson_18 rfl ?_
    refine sg_cVi (M' := mX10_right) ([.int 1, .int (nI 1)]) dX10_isPerson_19 lX10_266 vX10_right (mo_L rfl) (by decide) rfl hS (hr) rfl (Nat.le_of_ble_eq_true rfl) (Nat.zero_le _) (Nat.zero_le _) ?_
    refine go_ireturn dX10_isPerson_22 rfl rfl (Nat.zero_le _) (Nat.zero_le _) ?_
    exact ⟨rfl, rfl⟩
  · have hr := hr.2 q
    rw [if_neg q] at hr
    refine run_lv [some (.ref 77), some (.int x)] (go := ?_)
    refine go_aloadn dX10_isPerson_0 rfl ?_
    refine go_iloadn dX10_isPerson_1 rfl ?_
    refine go_if_lt (tgt := 17) dX10_isPerson_2 (by decide) (fun c2 => ?_) (fun c2 => ?_)
    · refine go_iconst (v := 0) dX10_isPerson_17 rfl ?_
      refine go_iconst (v := 1) dX10_isPerson_18 rfl ?_
      refine sg_cVi (M' := mX10_right) ([.int 0, .int (nI 1)]) dX10_isPerson_19 lX10_266 vX10_right (mo_L rfl) (by decide) rfl hS (hr) rfl (Nat.le_of_ble_eq_true rfl) (Nat.zero_le _) (Nat.zero_le _) ?_
      refine go_ireturn dX10_isPerson_22 rfl rfl (Nat.zero_le _) (Nat.zero_le _) ?_
      exact ⟨rfl, rfl⟩
    · refine go_iloadn dX10_isPerson_5 rfl ?_
      refine go_aloadn dX10_isPerson_6 rfl ?_
      refine sg_getI dX10_isPerson_7 fX10_273 rfl (mo_L rfl) hS ?_
      rw [hpe]
      refine go_icmp_ge (tgt := 17) dX10_isPerson_10 (by decide) (fun c10 => ?_) (fun c10 => absurd ⟨Int32.not_lt.mp c2, Int32.not_le.mp c10⟩ q)
      refine go_iconst (v := 0) dX10_isPerson_17 rfl ?_
      refine go_iconst (v := 1) dX10_isPerson_18 rfl ?_
      refine sg_cVi (M' := mX10_right) ([.int 0, .int (nI 1)]) dX10_isPerson_19 lX10_266 vX10_right (mo_L rfl) (by decide) rfl hS (hr) rfl (Nat.le_of_ble_eq_true rfl) (Nat.zero_le _) (Nat.zero_le _) ?_
      refine go_ireturn dX10_isPerson_22 rfl rfl (Nat.zero_le _) (Nat.zero_le _) ?_
      exact ⟨rfl, rfl⟩
theorem q_isThing {l : Launch} {d as ar : Nat} {C : Cy} {x : Int32} {h : Hp} (H : MC h as ar C) (h0 : hI h 77 0 = 0) : (okX (cN C) x → Ex l (d + 2) mX10_isThing [.ref 77, .int x] h (some (.int 1)) h) ∧ (¬ okX (cN C) x → Ex l (d + 2) mX10_isThing [.ref 77, .int x] h (some (.int 0)) (uI h 77 0 (nI 1))) := by
  have hS := H.1
  have hth := H.2.1.2.2.1
  have hr := q_right (l := l) (d := d) (k := 1) (P := okX (cN C) x) hS h0 (by decide) (by decide)
  refine ⟨fun q => ?_, fun q => ?_⟩
  · have hr := hr.1 q
    rw [if_pos q] at hr
    refine run_lv [some (.ref 77), some (.int x)] (go := ?_)
    refine go_aloadn dX10_isThing_0 rfl ?_
    refine go_iloadn dX10_isThing_1 rfl ?_
    refine go_if_lt (tgt := 17) dX10_isThing_2 (by decide) (fun c2 => absurd c2 (Int32.not_lt.mpr q.1)) (fun c2 => ?_)
    refine go_iloadn dX10_isThing_5 rfl ?_
    refine go_aloadn dX10_isThing_6 rfl ?_
    refine sg_getI dX10_isThing_7 fX10_276 rfl (mo_L rfl) hS ?_
    rw [hth]
    refine go_icmp_ge (tgt := 17) dX10_isThing_10 (by decide) (fun c10 => absurd q.2 (Int32.not_lt.mpr c10)) (fun c10 => ?_)
    refine go_iconst (v := 1) dX10_isThing_13 rfl ?_
    refine go_goto (tgt := 18) dX10_isThing_14 (by decide) ?_
    refine go_iconst (v := 1) dX10_isThing_18 rfl ?_
    refine sg_cVi (M' := mX10_right) ([.int 1, .int (nI 1)]) dX10_isThing_19 lX10_266 vX10_right (mo_L rfl) (by decide) rfl hS (hr) rfl (Nat.le_of_ble_eq_true rfl) (Nat.zero_le _) (Nat.zero_le _) ?_
    refine go_ireturn dX10_isThing_22 rfl rfl (Nat.zero_le _) (Nat.zero_le _) ?_
    exact ⟨rfl, rfl⟩
  · have hr := hr.2 q
    rw [if_neg q] at hr
    refine run_lv [some (.ref 77), some (.int x)] (go := ?_)
    refine go_aloadn dX10_isThing_0 rfl ?_
    refine go_iloadn dX10_isThing_1 rfl ?_
    refine go_if_lt (tgt := 17) dX10_isThing_2 (by decide) (fun c2 => ?_) (fun c2 => ?_)
    · refine go_iconst (v := 0) dX10_isThing_17 rfl ?_
      refine go_iconst (v := 1) dX10_isThing_18 rfl ?_
      refine sg_cVi (M' := mX10_right) ([.int 0, .int (nI 1)]) dX10_isThing_19 lX10_266 vX10_right (mo_L rfl) (by decide) rfl hS (hr) rfl (Nat.le_of_ble_eq_true rfl) (Nat.zero_le _) (Nat.zero_le _) ?_
      refine go_ireturn dX10_isThing_22 rfl rfl (Nat.zero_le _) (Nat.zero_le _) ?_
      exact ⟨rfl, rfl⟩
    · refine go_iloadn dX10_isThing_5 rfl ?_
      refine go_aloadn dX10_isThing_6 rfl ?_
      refine sg_getI dX10_isThing_7 fX10_276 rfl (mo_L rfl) hS ?_
      rw [hth]
      refine go_icmp_ge (tgt := 17) dX10_isThing_10 (by decide) (fun c10 => ?_) (fun c10 => absurd ⟨Int32.not_lt.mp c2, Int32.not_le.mp c10⟩ q)
      refine go_iconst (v := 0) dX10_isThing_17 rfl ?_
      refine go_iconst (v := 1) dX10_isThing_18 rfl ?_
      refine sg_cVi (M' := mX10_right) ([.int 0, .int (nI 1)]) dX10_isThing_19 lX10_266 vX10_right (mo_L rfl) (by decide) rfl hS (hr) rfl (Nat.le_of_ble_eq_true rfl) (Nat.zero_le _) (Nat.zero_le _) ?_
      refine go_ireturn dX10_isThing_22 rfl rfl (Nat.zero_le _) (Nat.zero_le _) ?_
      exact ⟨rfl, rfl⟩
theorem q_isWhat {l : Launch} {d : Nat} {x m : Int32} {h : Hp} (hS : St h) (h0 : hI h 77 0 = 0) : (0 ≤ x ∧ x ≤ m → Ex l (d + 2) mX10_isWhat [.ref 77, .int x, .int m] h (some (.int 1)) h) ∧ (¬ (0 ≤ x ∧ x ≤ m) → Ex l (d + 2) mX10_isWhat [.ref 77, .int x, .int m] h (some (.int 0)) (uI h 77 0 (nI 1))) := by
  have hr := q_right (l := l) (d := d) (k := 1) (P := 0 ≤ x ∧ x ≤ m) hS h0 (by decide) (by decide)
  refine ⟨fun q => ?_, fun q => ?_⟩
  · refine run_lv [some (.ref 77), some (.int x), some (.int m)] (go := ?_)
    refine go_aloadn dX10_isWhat_0 rfl ?_
    refine go_iloadn dX10_isWhat_1 rfl ?_
    refine go_iconst (v := 0) dX10_isWhat_2 rfl ?_
    refine go_iloadn dX10_isWhat_3 rfl ?_
    refine sg_cSi (M' := mX10_within) ([.int x, .int 0, .int m]) dX10_isWhat_4 lX10_349 sX10_within hS (q_within) rfl (Nat.le_of_ble_eq_true rfl) (Nat.zero_le _) (Nat.zero_le _) ?_
    refine go_iconst (v := 1) dX10_isWhat_7 rfl ?_
    refine sg_cVi (M' := mX10_right) ([.int _, .int (nI 1)]) dX10_isWhat_8 lX10_266 vX10_right (mo_L rfl) (by decide) rfl hS (hr.1 q) rfl (Nat.le_of_ble_eq_true rfl) (Nat.zero_le _) (Nat.zero_le _) ?_
    refine go_ireturn dX10_isWhat_11 rfl rfl (Nat.zero_le _) (Nat.zero_le _) ?_
    exact ⟨rfl, rfl⟩
  · refine run_lv [some (.ref 77), some (.int x), some (.int m)] (go := ?_)
    refine go_aloadn dX10_isWhat_0 rfl ?_
    refine go_iloadn dX10_isWhat_1 rfl ?_
    refine go_iconst (v := 0) dX10_isWhat_2 rfl ?_
    refine go_iloadn dX10_isWhat_3 rfl ?_
    refine sg_cSi (M' := mX10_within) ([.int x, .int 0, .int m]) dX10_isWhat_4 lX10_349 sX10_within hS (q_within) rfl (Nat.le_of_ble_eq_true rfl) (Nat.zero_le _) (Nat.zero_le _) ?_
    refine go_iconst (v := 1) dX10_isWhat_7 rfl ?_
    refine sg_cVi (M' := mX10_right) ([.int _, .int (nI 1)]) dX10_isWhat_8 lX10_266 vX10_right (mo_L rfl) (by decide) rfl hS (hr.2 q) rfl (Nat.le_of_ble_eq_true rfl) (Nat.zero_le _) (Nat.zero_le _) ?_
    refine go_ireturn dX10_isWhat_11 rfl rfl (Nat.zero_le _) (Nat.zero_le _) ?_
    exact ⟨rfl, rfl⟩
theorem q_isSoon {l : Launch} {d k : Nat} {x m : Int32} {h : Hp} (hS : St h) (h0 : hI h 77 0 = 0) (hk : 0 < k) (hk2 : k < 100) : (m ≤ x ∧ x ≤ 100 → Ex l (d + 2) mX10_isSoon [.ref 77, .int x, .int m, .int (nI k)] h (some (.int 1)) h) ∧ (¬ (m ≤ x ∧ x ≤ 100) → Ex l (d + 2) mX10_isSoon [.ref 77, .int x, .int m, .int (nI k)] h (some (.int 0)) (uI h 77 0 (nI k))) := by
  have hr := q_right (l := l) (d := d) (k := k) (P := m ≤ x ∧ x ≤ 100) hS h0 hk hk2
  refine ⟨fun q => ?_, fun q => ?_⟩
  · refine run_lv [some (.ref 77), some (.int x), some (.int m), some (.int (nI k))] (go := ?_)
    refine go_aloadn dX10_isSoon_0 rfl ?_
    refine go_iloadn dX10_isSoon_1 rfl ?_
    refine go_iloadn dX10_isSoon_2 rfl ?_
    refine go_bipush (v := 100) dX10_isSoon_3 rfl ?_
    refine sg_cSi (M' := mX10_within) ([.int x, .int m, .int 100]) dX10_isSoon_5 lX10_349 sX10_within hS (q_within) rfl (Nat.le_of_ble_eq_true rfl) (Nat.zero_le _) (Nat.zero_le _) ?_
    refine go_iloadn dX10_isSoon_8 rfl ?_
    refine sg_cVi (M' := mX10_right) ([.int _, .int (nI k)]) dX10_isSoon_9 lX10_266 vX10_right (mo_L rfl) (by decide) rfl hS (hr.1 q) rfl (Nat.le_of_ble_eq_true rfl) (Nat.zero_le _) (Nat.zero_le _) ?_
    refine go_ireturn dX10_isSoon_12 rfl rfl (Nat.zero_le _) (Nat.zero_le _) ?_
    exact ⟨rfl, rfl⟩
  · refine run_lv [some (.ref 77), some (.int x), some (.int m), some (.int (nI k))] (go := ?_)
    refine go_aloadn dX10_isSoon_0 rfl ?_
    refine go_iloadn dX10_isSoon_1 rfl ?_
    refine go_iloadn dX10_isSoon_2 rfl ?_
    refine go_bipush (v := 100) dX10_isSoon_3 rfl ?_
    refine sg_cSi (M' := mX10_within) ([.int x, .int m, .int 100]) dX10_isSoon_5 lX10_349 sX10_within hS (q_within) rfl (Nat.le_of_ble_eq_true rfl) (Nat.zero_le _) (Nat.zero_le _) ?_
    refine go_iloadn dX10_isSoon_8 rfl ?_
    refine sg_cVi (M' := mX10_right) ([.int _, .int (nI k)]) dX10_isSoon_9 lX10_266 vX10_right (mo_L rfl) (by decide) rfl hS (hr.2 q) rfl (Nat.le_of_ble_eq_true rfl) (Nat.zero_le _) (Nat.zero_le _) ?_
    refine go_ireturn dX10_isSoon_12 rfl rfl (Nat.zero_le _) (Nat.zero_le _) ?_
    exact ⟨rfl, rfl⟩
theorem q_heavy {l : Launch} {d as ar : Nat} {v : Int32} {C : Cy} {h : Hp} (W : WC C) (H : MC h as ar C) : Ex l (d + 1) mX10_heavy [.ref 77, .int v] h (some (.int (wtF (cWt C) v (cN C)))) h := by
  have hS := H.1
  have hN := W.1.1
  have hth := H.2.1.2.2.1
  refine run_lv [some (.ref 77), some (.int v), none, none] (go := ?_)
  refine go_iconst (v := 0) dX10_heavy_0 rfl ?_
  refine go_ist2 dX10_heavy_1 rfl ?_
  refine go_iconst (v := 0) dX10_heavy_2 rfl ?_
  refine go_ist3 dX10_heavy_3 rfl ?_
  refine go_loop (lvf := fun t => [some (.ref 77), some (.int v), some (.int (wtF (cWt C) v t)), some (.int (nI t))]) (hf := fun _ => h) (cN C) (fun _ => True) (fun t ht _ ih => ?_) (fun _ => ?_) 0 (Nat.zero_le _) trivial
  · have es : wtF (cWt C) v (t + 1) = if v >>> (nI t &&& 31) &&& 1 = 0 then wtF (cWt C) v t else wtF (cWt C) v t + cWt C t := rfl
    rw [es] at ih
    have hb := sh_bit (x := v) (t := t) (by omega)
    refine go_iloadn dX10_heavy_4 rfl ?_
    refine go_aloadn dX10_heavy_5 rfl ?_
    refine sg_getI dX10_heavy_6 fX10_276 rfl (mo_L rfl) hS ?_
    rw [hth]
    refine go_icmp_ge (tgt := 40) dX10_heavy_9 (by decide) (fun c9 => absurd c9 (nI_ge ht (by omega))) (fun c9 => ?_)
    refine go_iloadn dX10_heavy_12 rfl ?_
    refine go_iloadn dX10_heavy_13 rfl ?_
    refine go_iloadn dX10_heavy_14 rfl ?_
    refine go_ishr dX10_heavy_15 ?_
    refine go_iconst (v := 1) dX10_heavy_16 rfl ?_
    refine go_iand dX10_heavy_17 ?_
    refine go_iconst (v := 1) dX10_heavy_18 rfl ?_
    refine go_icmp_ne (tgt := 31) dX10_heavy_19 (by decide) (fun c19 => ?_) (fun c19 => ?_)
    · refine go_iconst (v := 0) dX10_heavy_31 rfl ?_
      refine go_iadd dX10_heavy_32 ?_
      refine go_ist2 dX10_heavy_33 rfl ?_
      refine go_iinc3 (c1 := 1) dX10_heavy_34 rfl rfl ?_
      refine go_goto (tgt := 4) dX10_heavy_37 (by decide) ?_
      exact go_cong (ih trivial) (by first | (rw [if_neg (fun z => by rw [z] at c19; exact absurd c19 (by decide))]; simp [nI_1]; done) | (rw [if_neg (fun z => c19 (by rw [z]) )]; simp [nI_1]; done) | (rw [if_pos (by rw [hb] at c19 ⊢; cases q : bI v t; (· rfl); (rw [q] at c19; exact absurd rfl c19))]; simp [nI_1])) rfl
    · refine go_aloadn dX10_heavy_22 rfl ?_
      refine sg_getR dX10_heavy_23 fX10_26 rfl (mo_L rfl) hS (mo_r8 hS rfl) ?_
      refine go_iloadn dX10_heavy_26 rfl ?_
      refine sg_ialdN (i := t) dX10_heavy_27 (mo_8 rfl) hS (by simp only [lit_nI, nI_add, pk_mul, Nat.add_assoc, Nat.zero_add, Nat.add_zero]) (by omega) (H.2.2.2.2.1 t ht) ?_
      refine go_goto (tgt := 32) dX10_heavy_28 (by decide) ?_
      refine go_iadd dX10_heavy_32 ?_
      refine go_ist2 dX10_heavy_33 rfl ?_
      refine go_iinc3 (c1 := 1) dX10_heavy_34 rfl rfl ?_
      refine go_goto (tgt := 4) dX10_heavy_37 (by decide) ?_
      exact go_cong (ih trivial) (by first | (rw [if_neg (fun z => by rw [z] at c19; exact absurd c19 (by decide))]; simp [nI_1]; done) | (rw [if_neg (fun z => c19 (by rw [z]) )]; simp [nI_1]; done) | (rw [if_pos (by rw [hb] at c19 ⊢; cases q : bI v t; (· rfl); (rw [q] at c19; exact absurd rfl c19))]; simp [nI_1])) rfl
  · refine go_iloadn dX10_heavy_4 rfl ?_
    refine go_aloadn dX10_heavy_5 rfl ?_
    refine sg_getI dX10_heavy_6 fX10_276 rfl (mo_L rfl) hS ?_
    rw [hth]
    refine go_icmp_ge (tgt := 40) dX10_heavy_9 (by decide) (fun c9 => ?_) (fun c9 => absurd (nI_le (Nat.le_refl _) (by omega)) c9)
    refine go_iloadn dX10_heavy_40 rfl ?_
    refine go_ireturn dX10_heavy_41 rfl rfl (Nat.zero_le _) (Nat.zero_le _) ?_
    exact ⟨rfl, rfl⟩
theorem q_oddest {l : Launch} {d as ar : Nat} {p : Int32} {C : Cy} {T : Tn} {h : Hp} (W : WC C) (H : MC h as ar C) (hT : MT h 0 C T) : Ex l (d + 1) mX10_oddest [.ref 77, .int p] h (some (.int (beF (fun t => tB T t = p) (tX T) (cN C)))) h := by
  have hS := H.1
  have hN := W.1.1
  have hth := H.2.1.2.2.1
  have eX : ∀ t, t < cN C → hI h 91 (31 + t) = tX T t := fun t ht => by have := (hT.2.1 t ht).2.2.2; rw [Nat.zero_add] at this; exact this
  have eB : ∀ t, t < cN C → hI h 91 (11 + t) = tB T t := fun t ht => by have := (hT.2.1 t ht).2.1; rw [Nat.zero_add] at this; exact this
  refine run_lv [some (.ref 77), some (.int p), none, none] (go := ?_)
  refine go_iconst (v := -1) dX10_oddest_0 rfl ?_
  refine go_ist2 dX10_oddest_1 rfl ?_
  refine go_iconst (v := 0) dX10_oddest_2 rfl ?_
  refine go_ist3 dX10_oddest_3 rfl ?_
  refine go_loop (lvf := fun t => [some (.ref 77), some (.int p), some (.int (beF (fun t => tB T t = p) (tX T) t)), some (.int (nI t))]) (hf := fun _ => h) (cN C) (fun _ => True) (fun t ht _ ih => ?_) (fun _ => ?_) 0 (Nat.zero_le _) trivial
  · rw [beF_s] at ih
    rcases beF_in (fun t => tB T t = p) (tX T) (n := t) (by omega) with q | ⟨j, hj, q⟩
    · rw [q] at ih
      rw [q]
      refine go_iloadn dX10_oddest_4 rfl ?_
      refine go_aloadn dX10_oddest_5 rfl ?_
      refine sg_getI dX10_oddest_6 fX10_276 rfl (mo_L rfl) hS ?_
      rw [hth]
      refine go_icmp_ge (tgt := 59) dX10_oddest_9 (by decide) (fun c9 => absurd c9 (nI_ge ht (by omega))) (fun c9 => ?_)
      refine go_aloadn dX10_oddest_12 rfl ?_
      refine sg_getR dX10_oddest_13 fX10_66 rfl (mo_L rfl) hS (mo_r42 hS rfl) ?_
      refine go_bipush (v := 11) dX10_oddest_16 rfl ?_
      refine go_iloadn dX10_oddest_18 rfl ?_
      refine go_iadd dX10_oddest_19 ?_
      refine sg_ialdN (i := 11 + t) dX10_oddest_20 (mo_42 rfl) hS (by simp only [lit_nI, nI_add, pk_mul, Nat.add_assoc, Nat.zero_add, Nat.add_zero]) (by omega) (eB t ht) ?_
      refine go_iloadn dX10_oddest_21 rfl ?_
      refine go_icmp_ne (tgt := 53) dX10_oddest_22 (by decide) (fun c22 => ?_) (fun c22 => ?_)
      · refine go_iinc3 (c1 := 1) dX10_oddest_53 rfl rfl ?_
        refine go_goto (tgt := 4) dX10_oddest_56 (by decide) ?_
        exact go_cong (ih trivial) (by first | (rw [if_neg (fun z => c22 z.1)]; simp [nI_1]; done) | (rw [if_pos ⟨c22, Or.inl rfl⟩]; simp [nI_1]; done) | (rw [if_pos ⟨Decidable.not_not.mp c22, Or.inl rfl⟩]; simp [nI_1])) rfl
      · refine go_iloadn dX10_oddest_25 rfl ?_
        refine go_iconst (v := -1) dX10_oddest_26 rfl ?_
        refine go_icmp_eq (tgt := 51) dX10_oddest_27 (by decide) (fun c27 => ?_) (fun c27 => absurd rfl c27)
        refine go_iloadn dX10_oddest_51 rfl ?_
        refine go_ist2 dX10_oddest_52 rfl ?_
        refine go_iinc3 (c1 := 1) dX10_oddest_53 rfl rfl ?_
        refine go_goto (tgt := 4) dX10_oddest_56 (by decide) ?_
        exact go_cong (ih trivial) (by first | (rw [if_neg (fun z => c22 z.1)]; simp [nI_1]; done) | (rw [if_pos ⟨c22, Or.inl rfl⟩]; simp [nI_1]; done) | (rw [if_pos ⟨Decidable.not_not.mp c22, Or.inl rfl⟩]; simp [nI_1])) rfl
    · rw [q, cl_nI (show j < 2 ^ 31 by omega)] at ih
      rw [q]
      refine go_iloadn dX10_oddest_4 rfl ?_
      refine go_aloadn dX10_oddest_5 rfl ?_
      refine sg_getI dX10_oddest_6 fX10_276 rfl (mo_L rfl) hS ?_
      rw [hth]
      refine go_icmp_ge (tgt := 59) dX10_oddest_9 (by decide) (fun c9 => absurd c9 (nI_ge ht (by omega))) (fun c9 => ?_)
      refine go_aloadn dX10_oddest_12 rfl ?_
      refine sg_getR dX10_oddest_13 fX10_66 rfl (mo_L rfl) hS (mo_r42 hS rfl) ?_
      refine go_bipush (v := 11) dX10_oddest_16 rfl ?_
      refine go_iloadn dX10_oddest_18 rfl ?_
      refine go_iadd dX10_oddest_19 ?_
      refine sg_ialdN (i := 11 + t) dX10_oddest_20 (mo_42 rfl) hS (by simp only [lit_nI, nI_add, pk_mul, Nat.add_assoc, Nat.zero_add, Nat.add_zero]) (by omega) (eB t ht) ?_
      refine go_iloadn dX10_oddest_21 rfl ?_
      refine go_icmp_ne (tgt := 53) dX10_oddest_22 (by decide) (fun c22 => ?_) (fun c22 => ?_)
      · refine go_iinc3 (c1 := 1) dX10_oddest_53 rfl rfl ?_
        refine go_goto (tgt := 4) dX10_oddest_56 (by decide) ?_
        exact go_cong (ih trivial) (by first | (rw [if_neg (fun z => c22 z.1)]; simp [nI_1]; done) | (rw [if_neg (fun z => z.2.elim (nI_m1 (by omega)) (Int32.not_lt.mpr c48))]; simp [nI_1]; done) | (rw [if_pos ⟨c22, Or.inr (Int32.not_le.mp c48)⟩]; simp [nI_1]; done) | (rw [if_pos ⟨Decidable.not_not.mp c22, Or.inr (Int32.not_le.mp c48)⟩]; simp [nI_1])) rfl
      · refine go_iloadn dX10_oddest_25 rfl ?_
        refine go_iconst (v := -1) dX10_oddest_26 rfl ?_
        refine go_icmp_eq (tgt := 51) dX10_oddest_27 (by decide) (fun c27 => absurd c27 (nI_m1 (by omega))) (fun c27 => ?_)
        refine go_aloadn dX10_oddest_30 rfl ?_
        refine sg_getR dX10_oddest_31 fX10_66 rfl (mo_L rfl) hS (mo_r42 hS rfl) ?_
        refine go_bipush (v := 31) dX10_oddest_34 rfl ?_
        refine go_iloadn dX10_oddest_36 rfl ?_
        refine go_iadd dX10_oddest_37 ?_
        refine sg_ialdN (i := 31 + t) dX10_oddest_38 (mo_42 rfl) hS (by simp only [lit_nI, nI_add, pk_mul, Nat.add_assoc, Nat.zero_add, Nat.add_zero]) (by omega) (eX t ht) ?_
        refine go_aloadn dX10_oddest_39 rfl ?_
        refine sg_getR dX10_oddest_40 fX10_66 rfl (mo_L rfl) hS (mo_r42 hS rfl) ?_
        refine go_bipush (v := 31) dX10_oddest_43 rfl ?_
        refine go_iloadn dX10_oddest_45 rfl ?_
        refine go_iadd dX10_oddest_46 ?_
        refine sg_ialdN (i := 31 + j) dX10_oddest_47 (mo_42 rfl) hS (by simp only [lit_nI, nI_add, pk_mul, Nat.add_assoc, Nat.zero_add, Nat.add_zero]) (by omega) (eX j (by omega)) ?_
        refine go_icmp_le (tgt := 53) dX10_oddest_48 (by decide) (fun c48 => ?_) (fun c48 => ?_)
        · refine go_iinc3 (c1 := 1) dX10_oddest_53 rfl rfl ?_
          refine go_goto (tgt := 4) dX10_oddest_56 (by decide) ?_
          exact go_cong (ih trivial) (by first | (rw [if_neg (fun z => c22 z.1)]; simp [nI_1]; done) | (rw [if_neg (fun z => z.2.elim (nI_m1 (by omega)) (Int32.not_lt.mpr c48))]; simp [nI_1]; done) | (rw [if_pos ⟨c22, Or.inr (Int32.not_le.mp c48)⟩]; simp [nI_1]; done) | (rw [if_pos ⟨Decidable.not_not.mp c22, Or.inr (Int32.not_le.mp c48)⟩]; simp [nI_1])) rfl
        · refine go_iloadn dX10_oddest_51 rfl ?_
          refine go_ist2 dX10_oddest_52 rfl ?_
          refine go_iinc3 (c1 := 1) dX10_oddest_53 rfl rfl ?_
          refine go_goto (tgt := 4) dX10_oddest_56 (by decide) ?_
          exact go_cong (ih trivial) (by first | (rw [if_neg (fun z => c22 z.1)]; simp [nI_1]; done) | (rw [if_neg (fun z => z.2.elim (nI_m1 (by omega)) (Int32.not_lt.mpr c48))]; simp [nI_1]; done) | (rw [if_pos ⟨c22, Or.inr (Int32.not_le.mp c48)⟩]; simp [nI_1]; done) | (rw [if_pos ⟨Decidable.not_not.mp c22, Or.inr (Int32.not_le.mp c48)⟩]; simp [nI_1])) rfl
  · refine go_iloadn dX10_oddest_4 rfl ?_
    refine go_aloadn dX10_oddest_5 rfl ?_
    refine sg_getI dX10_oddest_6 fX10_276 rfl (mo_L rfl) hS ?_
    rw [hth]
    refine go_icmp_ge (tgt := 59) dX10_oddest_9 (by decide) (fun c9 => ?_) (fun c9 => absurd (nI_le (Nat.le_refl _) (by omega)) c9)
    refine go_iloadn dX10_oddest_59 rfl ?_
    refine go_ireturn dX10_oddest_60 rfl rfl (Nat.zero_le _) (Nat.zero_le _) ?_
    exact ⟨rfl, rfl⟩
