/-! the model's acts -/
section
variable {l : Launch} {M : MI} {n0 : Nat} {pc : Nat} {lv : List (Option Value)} {st : List Value} {h h0 : Hp} {d u w : Nat}
theorem sg_mna {M' : MI} {P : Prop} [Decidable P] {S : Sx} {o : Sa} (as : List Value) {a ci idx : Nat} {stk : List Value} (hd : decode M.2.1 pc = .ok (.invokevirtual idx, 3)) (hl : inG (.methodLink M.1.cls idx M'.1)) (hc : CV M' as.length) (ha : lay a = .inl ci) (hci : ci < 11) (hcl : clR ci = M'.1.cls) (hS : St h)
    (hg : P → Ex l d M' (.ref a :: as) h (some (.int 1)) h) (hb : ¬ P → Ex l d M' (.ref a :: as) h (some (.int 0)) (uI h 77 0 (nI 1))) (hstk : stk = as.reverse ++ .ref a :: st) (hst : (st.map (fun v => v.category)).sum ≤ 8)
    (kb : ¬ P → Go l (rmOf (d + 1) (0, 0)) M n0 (Zm (0, 0) (Qx (1, 0, S) h0) noX) (pc + 3) lv (.int 0 :: st) (uI h 77 0 (nI 1)) 0 0) (kk : P → Go l (rmOf (d + 1) (0, 0)) M n0 (Zm (0, 0) (Qx o h0) noX) (pc + 3) lv (.int 1 :: st) h 0 0) : Go l (rmOf (d + 1) (0, 0)) M n0 (Zm (0, 0) (Qx (ndS P S o) h0) noX) pc lv stk h 0 0 := by
  by_cases q : P
  · rw [ndS, if_pos q]
    exact sg_cVi as hd hl hc ha hci hcl hS (hg q) hstk hst (Nat.zero_le _) (Nat.zero_le _) (kk q)
  · rw [ndS, if_neg q]
    exact sg_cVi as hd hl hc ha hci hcl hS (hb q) hstk hst (Nat.zero_le _) (Nat.zero_le _) (kb q)
end
theorem qo_ok {v : Int32} {S : Sx} {h g : Hp} {x : Int32} (e : x = v) (h0 : hI g 77 0 = 0) (K : MV g S) (F : Fz SA h g) : Qx (0, v, S) h (some (.int x)) g := ⟨⟨x, rfl, fun _ => e⟩, h0, K, F⟩
theorem q_refuses {l : Launch} {d k : Nat} {h : Hp} (hS : St h) (hk : k < 3) : Ex l (d + 1) mX10_refuses [.ref 77, .int (nI k)] h (some (.int (-1))) (uI h 83 k (hI h 83 k + 1)) := by
  refine run_lv [some (.ref 77), some (.int (nI k))] (go := ?_)
  refine go_aloadn dX10_refuses_0 rfl ?_
  refine sg_getR dX10_refuses_1 fX10_42 rfl (mo_L rfl) hS (mo_r15 hS rfl) ?_
  refine go_iloadn dX10_refuses_4 rfl ?_
  refine go_dup2 dX10_refuses_5 rfl rfl ?_
  refine sg_ialdN (i := k) (x := hI h 83 k) dX10_refuses_6 (mo_15 rfl) hS (by simp only [lit_nI, nI_add, pk_mul, Nat.add_assoc, Nat.zero_add, Nat.add_zero]) (by omega) (rfl) ?_
  refine go_iconst (v := 1) dX10_refuses_7 rfl ?_
  refine go_iadd dX10_refuses_8 ?_
  refine sg_iastN (i := k) dX10_refuses_9 (mo_15 rfl) hS (by simp only [lit_nI, nI_add, pk_mul, Nat.add_assoc, Nat.zero_add, Nat.add_zero]) (by omega) ?_
  refine go_iconst (v := -1) dX10_refuses_10 rfl ?_
  refine go_ireturn dX10_refuses_11 rfl rfl (Nat.zero_le _) (Nat.zero_le _) ?_
  exact ⟨rfl, rfl⟩
theorem MV.rf {h : Hp} {S : Sx} {k : Nat} (W : WC (sC S)) (K : MV h S) (hk : k < 3) : MV (uI h 83 k (hI h 83 k + 1)) (rfS k S) := by
  obtain ⟨as, ar, ⟨b1, b2, b3⟩, h1, h2, h3, ⟨h4, h5⟩, h6, h7⟩ := K
  have F : Fz (fun a _ => a = 83) h (uI h 83 k (hI h 83 k + 1)) := Fz.rf.uI rfl
  have e92 : hI (uI h 83 k (hI h 83 k + 1)) 92 = hI h 92 := funext fun j => hI_uI_ne (by omega)
  refine ⟨as, ar, ⟨b1.fz F (fun a k q => by omega), b2.fz W F (fun k _ _ => by omega), by rw [hI_uI_ne (by omega)]; exact b3⟩, ?_, h2.fz F ⟨by omega, fun k => by omega⟩, h3.eq (fun k a q => F.I (by omega)), ⟨by rw [hI_uI_ne (by omega)]; exact h4, fun i hi => by rw [hI_uI_ne (by omega)]; exact h5 i hi⟩, by rw [hI_uI_ne (by omega)]; exact h6, fun i hi => ?_⟩
  · rw [e92, hI_uI_ne (by omega)]; exact h1
  · show _ = upd (sR S) k (sR S k + 1) i
    by_cases z : i = k
    · subst z; rw [hI_uI_eq, pk_us]; exact congrArg (· + 1) (h7 i hi)
    · rw [hI_uI_ne (by omega), pk_un z]; exact h7 i hi
theorem MV.St {h : Hp} {S : Sx} (K : MV h S) : St h := by obtain ⟨_, _, b, _⟩ := K; exact b.1.1
/-- the town of the row changes, behind what was kept -/
theorem mv_kp {h g1 g : Hp} {S : Sx} {as ar : Nat} {T' : Tn} (W : WC (sC S)) (K : MVr h (sC S) (sA S) (sQ S) (sM S) (sP S) (sF S) (sR S)) (F1 : Fz SK h g1) (hA : MA (hI g1 92) (hI g1 77 44) (sC S) (keepL (sA S) (sT S))) (F : Fz (fun a k => SM a k ∨ a = 91) g1 g) (hB : MB g as ar (sC S) T') : MV g (kpS S T') := by
  have e92 : hI g 92 = hI g1 92 := funext fun k => F.I (by unfold SM; omega)
  exact ⟨as, ar, hB, K.acts (F1.tr (F.sub (fun a k q => q.elim Or.inl (fun z => Or.inr (Or.inl z))))) (by rw [e92, F.I (by unfold SM; omega)]; exact hA)⟩
theorem MB.row {g : Hp} {as ar k : Nat} {v : Int32} {C : Cy} {T T' : Tn} (W : WC C) (H : MB g as ar C T) (hT : MT (uI g 91 k v) 0 C T') : MB (uI g 91 k v) as ar C T' := ⟨H.1.fz (S := fun a _ => a = 91) (Fz.rf.uI rfl) (fun a k q => by omega), hT, by rw [hI_uI_ne (by omega)]; exact H.2.2⟩
theorem m_dye {l : Launch} {d : Nat} {y v : Int32} {S : Sx} {h : Hp} (W : WS S) (K : MV h S) : Mo l (d + 3) mX10_dye [.ref 77, .int y, .int v] h (oDye S y v) := by
  have hS := K.St
  have hN1 := W.1.1.1
  refine run_lv [some (.ref 77), some (.int y), some (.int v), none] (go := ?_)
  unfold oDye
  refine go_aloadn dX10_dye_0 rfl ?_
  refine go_iconst (v := 0) dX10_dye_1 rfl ?_
  refine sg_putI dX10_dye_2 fX10_102 rfl rfl (mo_L rfl) hS ?_
  have hF : Fz SM h (uI h 77 0 0) := Fz.rf.uI sm0
  have KM := K.sm W.1 hF
  have h0 : hI (uI h 77 0 0) 77 0 = 0 := hI_uI_eq
  generalize uI h 77 0 0 = h1 at *
  have hS := KM.St
  obtain ⟨as, ar, H, KR⟩ := id KM
  refine go_aloadn dX10_dye_5 rfl ?_
  refine go_iloadn dX10_dye_6 rfl ?_
  refine sg_mna (M' := mX10_isThing) ([.int y]) dX10_dye_7 lX10_377 vX10_isThing (mo_L rfl) (by decide) rfl hS (q_isThing H.1 h0).1 (q_isThing H.1 h0).2 rfl (Nat.le_of_ble_eq_true rfl) (fun k7 => ?_) (fun k7 => ?_)
  · refine go_if_ne (tgt := 15) dX10_dye_10 (by decide) (fun c => absurd rfl c) (fun _ => ?_)
    refine go_iconst (v := 0) dX10_dye_13 rfl ?_
    refine go_ireturn dX10_dye_14 rfl rfl (Nat.zero_le _) (Nat.zero_le _) ?_
    exact ⟨⟨0, rfl, fun q => absurd q (show ¬ (1 : Nat) = 0 by decide)⟩, hI_uI_eq, KM.sm W.1 (Fz.rf.uI sm0), (hF.uI sm0).sa⟩
  refine go_if_ne (tgt := 15) dX10_dye_10 (by decide) (fun c10 => ?_) (fun c10 => absurd c10 (by decide))
  skip
  obtain ⟨t, ht, rfl⟩ := ok_nI (by omega) k7
  rw [cl_nI (show t < 2 ^ 31 by omega)]
  by_cases z : 0 ≤ v ∧ v ≤ 9
  · rw [if_pos z]
    refine go_aloadn dX10_dye_15 rfl ?_
    refine sg_getR dX10_dye_16 fX10_66 rfl (mo_L rfl) hS (mo_r42 hS rfl) ?_
    refine go_bipush (v := 31) dX10_dye_19 rfl ?_
    refine go_iloadn dX10_dye_21 rfl ?_
    refine go_iadd dX10_dye_22 ?_
    refine sg_ialdN (i := 31 + t) dX10_dye_23 (mo_42 rfl) hS (by simp only [lit_nI, nI_add, pk_mul, Nat.add_assoc, Nat.zero_add, Nat.add_zero]) (by omega) ((mB0 H.2.1 ht).2.2.2) ?_
    refine go_ist3 dX10_dye_24 rfl ?_
    refine go_iloadn dX10_dye_25 rfl ?_
    refine go_iconst (v := 0) dX10_dye_26 rfl ?_
    refine go_bipush (v := 9) dX10_dye_27 rfl ?_
    refine sg_cSi (M' := mX10_within) ([.int v, .int 0, .int 9]) dX10_dye_29 lX10_349 sX10_within hS (q_within) rfl (Nat.le_of_ble_eq_true rfl) (Nat.zero_le _) (Nat.zero_le _) ?_
    rw [if_pos z]
    refine go_if_ne (tgt := 41) dX10_dye_32 (by decide) (fun c32 => ?_) (fun c32 => absurd c32 (by decide))
    refine go_aloadn dX10_dye_41 rfl ?_
    refine sg_rV0 (M' := mX10_keeps) ([]) dX10_dye_42 lX10_383 vX10_keeps (mo_L rfl) (by decide) rfl hS (q_keeps W.1 H KR.1) rfl (Nat.le_of_ble_eq_true rfl) (Nat.zero_le _) (Nat.zero_le _) (fun g F => ?_)
    have hS := F.1.St hS
    refine go_aloadn dX10_dye_45 rfl ?_
    refine sg_getR dX10_dye_46 fX10_66 rfl (mo_L rfl) hS (mo_r42 hS rfl) ?_
    refine go_bipush (v := 31) dX10_dye_49 rfl ?_
    refine go_iloadn dX10_dye_51 rfl ?_
    refine go_iadd dX10_dye_52 ?_
    refine go_iloadn dX10_dye_53 rfl ?_
    refine sg_iastN (i := 31 + t) dX10_dye_54 (mo_42 rfl) hS (by simp only [lit_nI, nI_add, pk_mul, Nat.add_assoc, Nat.zero_add, Nat.add_zero]) (by omega) ?_
    refine go_iloadn dX10_dye_55 rfl ?_
    refine go_ireturn dX10_dye_56 rfl rfl (Nat.zero_le _) (Nat.zero_le _) ?_
    exact (have HB := H.sh W.1 F.1; have hx := mt_X (v := v) W.1 ht HB.2.1; have e0 : 0 + (31 + t) = 31 + t := Nat.zero_add _; qo_ok rfl (by rw [hI_uI_ne (by omega), F.1.I (by unfold SH; omega)]; exact h0) (mv_kp W.1 KR F.1.hk F.2 (Fz.rf.uI (Or.inr rfl)) (MB.row W.1 HB (by rw [e0] at hx; exact hx))) (hF.sa.tr (F.1.hk.ka.uI (by unfold SA; omega))))
  · rw [if_neg z]
    refine go_aloadn dX10_dye_15 rfl ?_
    refine sg_getR dX10_dye_16 fX10_66 rfl (mo_L rfl) hS (mo_r42 hS rfl) ?_
    refine go_bipush (v := 31) dX10_dye_19 rfl ?_
    refine go_iloadn dX10_dye_21 rfl ?_
    refine go_iadd dX10_dye_22 ?_
    refine sg_ialdN (i := 31 + t) dX10_dye_23 (mo_42 rfl) hS (by simp only [lit_nI, nI_add, pk_mul, Nat.add_assoc, Nat.zero_add, Nat.add_zero]) (by omega) ((mB0 H.2.1 ht).2.2.2) ?_
    refine go_ist3 dX10_dye_24 rfl ?_
    refine go_iloadn dX10_dye_25 rfl ?_
    refine go_iconst (v := 0) dX10_dye_26 rfl ?_
    refine go_bipush (v := 9) dX10_dye_27 rfl ?_
    refine sg_cSi (M' := mX10_within) ([.int v, .int 0, .int 9]) dX10_dye_29 lX10_349 sX10_within hS (q_within) rfl (Nat.le_of_ble_eq_true rfl) (Nat.zero_le _) (Nat.zero_le _) ?_
    rw [if_neg z]
    refine go_if_ne (tgt := 41) dX10_dye_32 (by decide) (fun c32 => absurd rfl c32) (fun c32 => ?_)
    refine go_aloadn dX10_dye_35 rfl ?_
    refine go_iconst (v := 1) dX10_dye_36 rfl ?_
    refine sg_cVi (M' := mX10_refuses) ([.int (nI 1)]) dX10_dye_37 lX10_380 vX10_refuses (mo_L rfl) (by decide) rfl hS (q_refuses hS (by decide)) rfl (Nat.le_of_ble_eq_true rfl) (Nat.zero_le _) (Nat.zero_le _) ?_
    refine go_ireturn dX10_dye_40 rfl rfl (Nat.zero_le _) (Nat.zero_le _) ?_
    exact qo_ok rfl (by rw [hI_uI_ne (by omega)]; exact h0) (KM.rf W.1 (by decide)) (hF.sa.uI (by unfold SA; omega))
