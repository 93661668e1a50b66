/-! rules: the class's small ones -/
theorem r_await {l : Launch} {d c cl o : Nat} {W : List Nat} {p : Pr} {h : Hp} (hS : St h) (H : SKc h c cl W p) (hl : W.length < 128) (hc' : c = 6 ∨ c = 18) : Ey l (d + 1) mX3_await [.ref 3, .int (nI o)] h (some (.int 1)) (fun g => Fz (fun a k => (a = 3 ∧ k = 13) ∨ a = 5) h g ∧ SKc g c cl (o :: W) p) := by
  refine run_lv [some (.ref 3), some (.int (nI o))] (go := ?_)
  have h13 := H.1
  have F1 : Fz (fun a k => (a = 3 ∧ k = 13) ∨ (a = 5 ∧ k = W.length)) h (uI (uI h 5 W.length (nI o)) 3 13 (nI (W.length + 1))) := (Fz.rf.uI (Or.inr ⟨rfl, rfl⟩)).uI (Or.inl ⟨rfl, rfl⟩)
  have w1 : hI (uI (uI h 5 W.length (nI o)) 3 13 (nI (W.length + 1))) 3 13 = nI (W.length + 1) := hI_uI_eq
  have w2 : hI (uI (uI h 5 W.length (nI o)) 3 13 (nI (W.length + 1))) 5 W.length = nI o := by rw [hI_uI_ne (by omega), hI_uI_eq]
  have fin : ∀ g, g = uI (uI h 5 W.length (nI o)) 3 13 (nI (W.length + 1)) → Fz (fun a k => (a = 3 ∧ k = 13) ∨ a = 5) h g ∧ SKc g c cl (o :: W) p := by
    intro g hg
    rw [← hg] at F1 w1 w2
    refine ⟨F1.sub (fun a k q => by omega), w1, fun i hi => ?_, by rw [F1.I (by omega)]; exact H.2.2.1, fun j hj => by rw [F1.I (by omega)]; exact H.2.2.2 j hj⟩
    rw [List.length_cons] at hi ⊢
    by_cases q : i = W.length
    · rw [q, w2, show W.length + 1 - 1 - W.length = 0 by omega]; rfl
    · rw [F1.I (by omega), H.2.1 i (by omega), show W.length + 1 - 1 - i = (W.length - 1 - i) + 1 by omega]; rfl
  refine go_aloadn dX3_await_0 rfl ?_
  refine sg_getI dX3_await_1 fX3_224 rfl (rd_L rfl) hS ?_
  refine go_sipush (v := 128) dX3_await_4 rfl ?_
  rw [h13]
  refine go_icmp_lt (tgt := 16) dX3_await_7 (by decide) (fun c7 => ?_) (fun c7 => absurd (nI_lt (b := 128) hl (by decide)) c7)
  refine go_aloadn dX3_await_16 rfl ?_
  refine sg_getR dX3_await_17 fX3_15 rfl (rd_L rfl) hS (rd_r12 hS rfl) ?_
  refine go_aloadn dX3_await_20 rfl ?_
  refine sg_getI dX3_await_21 fX3_224 rfl (rd_L rfl) hS ?_
  rw [h13]
  refine go_iloadn dX3_await_24 rfl ?_
  refine sg_iastN (i := W.length) dX3_await_25 (rd_12 rfl) hS (by simp only [lit_nI, nI_add, pk_mul, Nat.add_assoc, Nat.zero_add, Nat.add_zero]) (by omega) ?_
  refine go_aloadn dX3_await_26 rfl ?_
  refine go_dup dX3_await_27 rfl ?_
  refine sg_getI dX3_await_28 fX3_224 rfl (rd_L rfl) hS ?_
  refine go_iconst (v := 1) dX3_await_31 rfl ?_
  refine go_iadd dX3_await_32 ?_
  rw [hI_uI_ne (by omega), h13, nI_1]
  refine sg_putI dX3_await_33 fX3_224 rfl rfl (rd_L rfl) hS ?_
  refine go_iconst (v := 1) dX3_await_36 rfl ?_
  refine go_ireturn dX3_await_37 rfl rfl (Nat.zero_le _) (Nat.zero_le _) ?_
  exact ⟨rfl, fin _ rfl⟩
theorem r_putPart {l : Launch} {d c cl : Nat} {W : List Nat} {p : Pr} {o : Op} {h : Hp} (hS : St h) (hc : CityAt c) (hC : hR h 3 7 = some c) (H : SKc h c cl W p) (hb : cl + p.1 < 700) : Ey l (d + 2) mX3_putPart [.ref 3, .int (encC o)] h (some (.int 1)) (fun g => Fz (fun a k => (a = 3 ∧ k = 16) ∨ (a = c ∧ k = 13) ∨ (a = c + 9 ∧ cl ≤ k)) h g ∧ SKc g c cl W (psh p o) ∧ hI g 3 16 = 0) := by
  have hc' := at_c hc
  refine run_lv [some (.ref 3), some (.int (encC o))] (go := ?_)
  have pc := fun d => r_putCode (l := l) (d := d) (v := encC o) hS hc H.2.2.1 hb
  have F1 : Fz (fun a k => (a = c + 9 ∧ k = cl + p.1) ∨ (a = c ∧ k = 13) ∨ (a = 3 ∧ k = 16)) h (uI (uI (uI h (c + 9) (cl + p.1) (encC o)) c 13 (nI (cl + p.1 + 1))) 3 16 0) := ((Fz.rf.uI (Or.inl ⟨rfl, rfl⟩)).uI (Or.inr (Or.inl ⟨rfl, rfl⟩))).uI (Or.inr (Or.inr ⟨rfl, rfl⟩))
  have w1 : hI (uI (uI (uI h (c + 9) (cl + p.1) (encC o)) c 13 (nI (cl + p.1 + 1))) 3 16 0) 3 16 = 0 := hI_uI_eq
  have w2 : hI (uI (uI (uI h (c + 9) (cl + p.1) (encC o)) c 13 (nI (cl + p.1 + 1))) 3 16 0) (c + 9) (cl + p.1) = encC o := by rw [hI_uI_ne (by omega), hI_uI_ne (by omega), hI_uI_eq]
  have w3 : hI (uI (uI (uI h (c + 9) (cl + p.1) (encC o)) c 13 (nI (cl + p.1 + 1))) 3 16 0) c 13 = nI (cl + p.1 + 1) := by rw [hI_uI_ne (by omega), hI_uI_eq]
  have fin : ∀ g, g = uI (uI (uI h (c + 9) (cl + p.1) (encC o)) c 13 (nI (cl + p.1 + 1))) 3 16 0 → Fz (fun a k => (a = 3 ∧ k = 16) ∨ (a = c ∧ k = 13) ∨ (a = c + 9 ∧ cl ≤ k)) h g ∧ SKc g c cl W (psh p o) ∧ hI g 3 16 = 0 := by
    intro g hg
    rw [← hg] at F1 w1 w2 w3
    refine ⟨F1.sub (fun a k q => by omega), ⟨by rw [F1.I (by omega)]; exact H.1, fun i hi => by rw [F1.I (by omega)]; exact H.2.1 i hi, by rw [w3]; rfl, fun j hj => ?_⟩, w1⟩
    show hI g (c + 9) (cl + j) = encC (if j = p.1 then o else p.2 j)
    have hj : j < p.1 + 1 := hj
    by_cases q : j = p.1
    · rw [if_pos q, q]; exact w2
    · rw [if_neg q, F1.I (by omega)]; exact H.2.2.2 j (by omega)
  refine go_aloadn dX3_putPart_0 rfl ?_
  refine sg_getR dX3_putPart_1 fX3_29 rfl (rd_L rfl) hS hC ?_
  refine go_iloadn dX3_putPart_4 rfl ?_
  refine sg_cV0 (M' := mX1_putCode) ([.int (encC o)]) dX3_putPart_5 lX3_264 vX1_putCode (ct_L hc) (by decide) rfl hS (pc _) rfl (Nat.le_of_ble_eq_true rfl) (Nat.zero_le _) (Nat.zero_le _) ?_
  refine go_aloadn dX3_putPart_8 rfl ?_
  refine go_iconst (v := 0) dX3_putPart_9 rfl ?_
  refine sg_putZ dX3_putPart_10 fX3_203 rfl rfl (rd_L rfl) hS (Or.inl rfl) ?_
  refine go_iconst (v := 1) dX3_putPart_13 rfl ?_
  refine go_ireturn dX3_putPart_14 rfl rfl (Nat.zero_le _) (Nat.zero_le _) ?_
  exact ⟨rfl, fin _ rfl⟩
/-- the operator that stands at s; 0: none -/
def sgO (x : Nat) : Nat := if x = 60 then 4 else if x = 61 then 5 else if x = 43 then 6 else if x = 45 then 7 else if x = 42 then 8 else if x = 47 then 9 else 0
def opF (b : Nat → Nat) (n s : Nat) : Nat := if tkK b n s = 1 then (if kwN b n s = 18 then 1 else if kwN b n s = 17 then 2 else 0) else if tkK b n s = 3 then sgO (b s) else 0
theorem sgO_n : ∀ x : Fin 256, (∀ i : Fin 20, byI x.val = nI (42 + i.val) → sgO x.val = ([8, 6, 0, 7, 0, 9, 0, 0, 0, 0, 0, 0, 0, 0, 0, 0, 0, 0, 4, 5] : List Nat).getD i.val 0) ∧ ((∀ i : Fin 20, ¬ byI x.val = nI (42 + i.val)) → sgO x.val = 0) := by decide +kernel
theorem op_le {b : Nat → Nat} {n s : Nat} : opF b n s ≤ 9 := by
  unfold opF sgO
  repeat' split
  all_goals decide
theorem r_operatorRead {l : Launch} {d n s : Nat} {b : Nat → Nat} {h : Hp} (hS : St h) (R : RC h b n s) : Ex l (d + 6) mX3_operatorRead [.ref 3] h (some (.int (if opF b n s = 0 then -1 else nI (opF b n s)))) h := by
  refine run_lv [some (.ref 3)] (go := ?_)
  have H2 := R.1
  have n7 := H2.2.2.1
  have r2 := R.2.1
  have r3 := R.2.2.1
  have k5 := tkK_lt (b := b) (n := n) (s := s)
  have iw := fun d i (hi : i < 21) (i0 : 0 < i) => r_isWord (l := l) (d := d) (i := i) hS R hi i0
  have i18 := fun d => iw d 18 (by decide) (by decide)
  have i19 := fun d => iw d 19 (by decide) (by decide)
  rw [show tmT.getD 18 0 = 18 from rfl] at i18
  rw [show tmT.getD 19 0 = 17 from rfl] at i19
  unfold opF
  by_cases z : tkK b n s = 1
  · rw [z] at r2
    rw [if_pos z]
    by_cases a : kwN b n s = 18
    · rw [if_pos a, if_neg (by decide)]
      rw [if_pos a] at i18
      refine go_aloadn dX3_operatorRead_0 rfl ?_
      refine sg_getI dX3_operatorRead_1 fX3_57 rfl (rd_L rfl) hS ?_
      rw [r2]
      refine go_iconst (v := 1) dX3_operatorRead_4 rfl ?_
      refine go_icmp_ne (tgt := 36) dX3_operatorRead_5 (by decide) (fun c5 => absurd rfl c5) (fun c5 => ?_)
      refine go_aloadn dX3_operatorRead_8 rfl ?_
      refine go_ldcwS (i := 18) rfl (by decide) rfl dX3_operatorRead_9 ?_
      refine sg_cVi (M' := mX3_isWord) ([.ref (1001 + 18)]) dX3_operatorRead_12 lX3_92 vX3_isWord (rd_L rfl) (by decide) rfl hS (i18 _) rfl (Nat.le_of_ble_eq_true rfl) (Nat.zero_le _) (Nat.zero_le _) ?_
      refine go_if_eq (tgt := 20) dX3_operatorRead_15 (by decide) (fun c15 => absurd c15 (by decide)) (fun c15 => ?_)
      refine go_iconst (v := 1) dX3_operatorRead_18 rfl ?_
      refine go_ireturn dX3_operatorRead_19 rfl rfl (Nat.zero_le _) (Nat.zero_le _) ?_
      exact ⟨rfl, rfl⟩
    · rw [if_neg a]
      rw [if_neg a] at i18
      by_cases e : kwN b n s = 17
      · rw [if_pos e, if_neg (by decide)]
        rw [if_pos e] at i19
        refine go_aloadn dX3_operatorRead_0 rfl ?_
        refine sg_getI dX3_operatorRead_1 fX3_57 rfl (rd_L rfl) hS ?_
        rw [r2]
        refine go_iconst (v := 1) dX3_operatorRead_4 rfl ?_
        refine go_icmp_ne (tgt := 36) dX3_operatorRead_5 (by decide) (fun c5 => absurd rfl c5) (fun c5 => ?_)
        refine go_aloadn dX3_operatorRead_8 rfl ?_
        refine go_ldcwS (i := 18) rfl (by decide) rfl dX3_operatorRead_9 ?_
        refine sg_cVi (M' := mX3_isWord) ([.ref (1001 + 18)]) dX3_operatorRead_12 lX3_92 vX3_isWord (rd_L rfl) (by decide) rfl hS (i18 _) rfl (Nat.le_of_ble_eq_true rfl) (Nat.zero_le _) (Nat.zero_le _) ?_
        refine go_if_eq (tgt := 20) dX3_operatorRead_15 (by decide) (fun c15 => ?_) (fun c15 => absurd rfl c15)
        refine go_aloadn dX3_operatorRead_20 rfl ?_
        refine go_ldcwS (i := 19) rfl (by decide) rfl dX3_operatorRead_21 ?_
        refine sg_cVi (M' := mX3_isWord) ([.ref (1001 + 19)]) dX3_operatorRead_24 lX3_92 vX3_isWord (rd_L rfl) (by decide) rfl hS (i19 _) rfl (Nat.le_of_ble_eq_true rfl) (Nat.zero_le _) (Nat.zero_le _) ?_
        refine go_if_eq (tgt := 34) dX3_operatorRead_27 (by decide) (fun c27 => absurd c27 (by decide)) (fun c27 => ?_)
        refine go_iconst (v := 2) dX3_operatorRead_30 rfl ?_
        refine go_goto (tgt := 35) dX3_operatorRead_31 (by decide) ?_
        refine go_ireturn dX3_operatorRead_35 rfl rfl (Nat.zero_le _) (Nat.zero_le _) ?_
        exact ⟨rfl, rfl⟩
      · rw [if_neg e, if_pos rfl]
        rw [if_neg e] at i19
        refine go_aloadn dX3_operatorRead_0 rfl ?_
        refine sg_getI dX3_operatorRead_1 fX3_57 rfl (rd_L rfl) hS ?_
        rw [r2]
        refine go_iconst (v := 1) dX3_operatorRead_4 rfl ?_
        refine go_icmp_ne (tgt := 36) dX3_operatorRead_5 (by decide) (fun c5 => absurd rfl c5) (fun c5 => ?_)
        refine go_aloadn dX3_operatorRead_8 rfl ?_
        refine go_ldcwS (i := 18) rfl (by decide) rfl dX3_operatorRead_9 ?_
        refine sg_cVi (M' := mX3_isWord) ([.ref (1001 + 18)]) dX3_operatorRead_12 lX3_92 vX3_isWord (rd_L rfl) (by decide) rfl hS (i18 _) rfl (Nat.le_of_ble_eq_true rfl) (Nat.zero_le _) (Nat.zero_le _) ?_
        refine go_if_eq (tgt := 20) dX3_operatorRead_15 (by decide) (fun c15 => ?_) (fun c15 => absurd rfl c15)
        refine go_aloadn dX3_operatorRead_20 rfl ?_
        refine go_ldcwS (i := 19) rfl (by decide) rfl dX3_operatorRead_21 ?_
        refine sg_cVi (M' := mX3_isWord) ([.ref (1001 + 19)]) dX3_operatorRead_24 lX3_92 vX3_isWord (rd_L rfl) (by decide) rfl hS (i19 _) rfl (Nat.le_of_ble_eq_true rfl) (Nat.zero_le _) (Nat.zero_le _) ?_
        refine go_if_eq (tgt := 34) dX3_operatorRead_27 (by decide) (fun c27 => ?_) (fun c27 => absurd rfl c27)
        refine go_iconst (v := -1) dX3_operatorRead_34 rfl ?_
        refine go_ireturn dX3_operatorRead_35 rfl rfl (Nat.zero_le _) (Nat.zero_le _) ?_
        exact ⟨rfl, rfl⟩
  · rw [if_neg z]
    by_cases y : tkK b n s = 3
    · have sn := tk3 (b := b) (n := n) (s := s) (by omega)
      obtain ⟨t1, t2⟩ := H2.2.2.2 s sn
      obtain ⟨q1, q2⟩ := sgO_n ⟨b s, t2⟩
      dsimp only at q1 q2
      rw [y] at r2
      rw [if_pos y]
      refine go_aloadn dX3_operatorRead_0 rfl ?_
      refine sg_getI dX3_operatorRead_1 fX3_57 rfl (rd_L rfl) hS ?_
      rw [r2]
      refine go_iconst (v := 1) dX3_operatorRead_4 rfl ?_
      refine go_icmp_ne (tgt := 36) dX3_operatorRead_5 (by decide) (fun c5 => ?_) (fun c5 => absurd c5 (by decide))
      refine go_aloadn dX3_operatorRead_36 rfl ?_
      refine sg_getI dX3_operatorRead_37 fX3_57 rfl (rd_L rfl) hS ?_
      rw [r2]
      refine go_iconst (v := 3) dX3_operatorRead_40 rfl ?_
      refine go_icmp_eq (tgt := 46) dX3_operatorRead_41 (by decide) (fun c41 => ?_) (fun c41 => absurd rfl c41)
      refine go_aloadn dX3_operatorRead_46 rfl ?_
      refine sg_getR dX3_operatorRead_47 fX3_9 rfl (rd_L rfl) hS H2.1 ?_
      refine go_aloadn dX3_operatorRead_50 rfl ?_
      refine sg_getI dX3_operatorRead_51 fX3_60 rfl (rd_L rfl) hS ?_
      rw [r3]
      refine sg_baldN (i := s) (x := byI (b s)) dX3_operatorRead_54 rfl hS (by simp only [lit_nI, nI_add, pk_mul, Nat.add_assoc, Nat.zero_add, Nat.add_zero]) (by omega) (t1) ?_
      refine go_tab 20 42 164 [158, 152, 164, 155, 164, 161, 164, 164, 164, 164, 164, 164, 164, 164, 164, 164, 164, 164, 148, 150] dX3_operatorRead_55 rfl rfl rfl rfl rfl (by decide) (fun c55 => ?_) (fun i hi c55 => ?_)
      · refine go_iconst (v := -1) dX3_operatorRead_164 rfl ?_
        refine go_ireturn dX3_operatorRead_165 rfl rfl (Nat.zero_le _) (Nat.zero_le _) ?_
        exact ⟨by rw [if_pos (q2 (fun i => c55 i.val i.isLt))], rfl⟩
      · match i, hi, c55 with
        | 0, _, c55 =>
          refine go_bipush (v := 8) dX3_operatorRead_158 rfl ?_
          refine go_ireturn dX3_operatorRead_160 rfl rfl (Nat.zero_le _) (Nat.zero_le _) ?_
          exact ⟨by rw [q1 ⟨_, by decide⟩ c55]; rfl, rfl⟩
        | 1, _, c55 =>
          refine go_bipush (v := 6) dX3_operatorRead_152 rfl ?_
          refine go_ireturn dX3_operatorRead_154 rfl rfl (Nat.zero_le _) (Nat.zero_le _) ?_
          exact ⟨by rw [q1 ⟨_, by decide⟩ c55]; rfl, rfl⟩
        | 2, _, c55 =>
          refine go_iconst (v := -1) dX3_operatorRead_164 rfl ?_
          refine go_ireturn dX3_operatorRead_165 rfl rfl (Nat.zero_le _) (Nat.zero_le _) ?_
          exact ⟨by rw [q1 ⟨_, by decide⟩ c55]; rfl, rfl⟩
        | 3, _, c55 =>
          refine go_bipush (v := 7) dX3_operatorRead_155 rfl ?_
          refine go_ireturn dX3_operatorRead_157 rfl rfl (Nat.zero_le _) (Nat.zero_le _) ?_
          exact ⟨by rw [q1 ⟨_, by decide⟩ c55]; rfl, rfl⟩
        | 4, _, c55 =>
          refine go_iconst (v := -1) dX3_operatorRead_164 rfl ?_
          refine go_ireturn dX3_operatorRead_165 rfl rfl (Nat.zero_le _) (Nat.zero_le _) ?_
          exact ⟨by rw [q1 ⟨_, by decide⟩ c55]; rfl, rfl⟩
        | 5, _, c55 =>
          refine go_bipush (v := 9) dX3_operatorRead_161 rfl ?_
          refine go_ireturn dX3_operatorRead_163 rfl rfl (Nat.zero_le _) (Nat.zero_le _) ?_
          exact ⟨by rw [q1 ⟨_, by decide⟩ c55]; rfl, rfl⟩
        | 6, _, c55 =>
          refine go_iconst (v := -1) dX3_operatorRead_164 rfl ?_
          refine go_ireturn dX3_operatorRead_165 rfl rfl (Nat.zero_le _) (Nat.zero_le _) ?_
          exact ⟨by rw [q1 ⟨_, by decide⟩ c55]; rfl, rfl⟩
        | 7, _, c55 =>
          refine go_iconst (v := -1) dX3_operatorRead_164 rfl ?_
          refine go_ireturn dX3_operatorRead_165 rfl rfl (Nat.zero_le _) (Nat.zero_le _) ?_
          exact ⟨by rw [q1 ⟨_, by decide⟩ c55]; rfl, rfl⟩
        | 8, _, c55 =>
          refine go_iconst (v := -1) dX3_operatorRead_164 rfl ?_
          refine go_ireturn dX3_operatorRead_165 rfl rfl (Nat.zero_le _) (Nat.zero_le _) ?_
          exact ⟨by rw [q1 ⟨_, by decide⟩ c55]; rfl, rfl⟩
        | 9, _, c55 =>
          refine go_iconst (v := -1) dX3_operatorRead_164 rfl ?_
          refine go_ireturn dX3_operatorRead_165 rfl rfl (Nat.zero_le _) (Nat.zero_le _) ?_
          exact ⟨by rw [q1 ⟨_, by decide⟩ c55]; rfl, rfl⟩
        | 10, _, c55 =>
          refine go_iconst (v := -1) dX3_operatorRead_164 rfl ?_
          refine go_ireturn dX3_operatorRead_165 rfl rfl (Nat.zero_le _) (Nat.zero_le _) ?_
          exact ⟨by rw [q1 ⟨_, by decide⟩ c55]; rfl, rfl⟩
        | 11, _, c55 =>
          refine go_iconst (v := -1) dX3_operatorRead_164 rfl ?_
          refine go_ireturn dX3_operatorRead_165 rfl rfl (Nat.zero_le _) (Nat.zero_le _) ?_
          exact ⟨by rw [q1 ⟨_, by decide⟩ c55]; rfl, rfl⟩
        | 12, _, c55 =>
          refine go_iconst (v := -1) dX3_operatorRead_164 rfl ?_
          refine go_ireturn dX3_operatorRead_165 rfl rfl (Nat.zero_le _) (Nat.zero_le _) ?_
          exact ⟨by rw [q1 ⟨_, by decide⟩ c55]; rfl, rfl⟩
        | 13, _, c55 =>
          refine go_iconst (v := -1) dX3_operatorRead_164 rfl ?_
          refine go_ireturn dX3_operatorRead_165 rfl rfl (Nat.zero_le _) (Nat.zero_le _) ?_
          exact ⟨by rw [q1 ⟨_, by decide⟩ c55]; rfl, rfl⟩
        | 14, _, c55 =>
          refine go_iconst (v := -1) dX3_operatorRead_164 rfl ?_
          refine go_ireturn dX3_operatorRead_165 rfl rfl (Nat.zero_le _) (Nat.zero_le _) ?_
          exact ⟨by rw [q1 ⟨_, by decide⟩ c55]; rfl, rfl⟩
        | 15, _, c55 =>
          refine go_iconst (v := -1) dX3_operatorRead_164 rfl ?_
          refine go_ireturn dX3_operatorRead_165 rfl rfl (Nat.zero_le _) (Nat.zero_le _) ?_
          exact ⟨by rw [q1 ⟨_, by decide⟩ c55]; rfl, rfl⟩
        | 16, _, c55 =>
          refine go_iconst (v := -1) dX3_operatorRead_164 rfl ?_
          refine go_ireturn dX3_operatorRead_165 rfl rfl (Nat.zero_le _) (Nat.zero_le _) ?_
          exact ⟨by rw [q1 ⟨_, by decide⟩ c55]; rfl, rfl⟩
        | 17, _, c55 =>
          refine go_iconst (v := -1) dX3_operatorRead_164 rfl ?_
          refine go_ireturn dX3_operatorRead_165 rfl rfl (Nat.zero_le _) (Nat.zero_le _) ?_
          exact ⟨by rw [q1 ⟨_, by decide⟩ c55]; rfl, rfl⟩
        | 18, _, c55 =>
          refine go_iconst (v := 4) dX3_operatorRead_148 rfl ?_
          refine go_ireturn dX3_operatorRead_149 rfl rfl (Nat.zero_le _) (Nat.zero_le _) ?_
          exact ⟨by rw [q1 ⟨_, by decide⟩ c55]; rfl, rfl⟩
        | 19, _, c55 =>
          refine go_iconst (v := 5) dX3_operatorRead_150 rfl ?_
          refine go_ireturn dX3_operatorRead_151 rfl rfl (Nat.zero_le _) (Nat.zero_le _) ?_
          exact ⟨by rw [q1 ⟨_, by decide⟩ c55]; rfl, rfl⟩
        | (i + 20), hi, _ => exact absurd hi (by omega)
    · rw [if_neg y, if_pos rfl]
      refine go_aloadn dX3_operatorRead_0 rfl ?_
      refine sg_getI dX3_operatorRead_1 fX3_57 rfl (rd_L rfl) hS ?_
      rw [r2]
      refine go_iconst (v := 1) dX3_operatorRead_4 rfl ?_
      refine go_icmp_ne (tgt := 36) dX3_operatorRead_5 (by decide) (fun c5 => ?_) (fun c5 => absurd ((nI_eq (b := 1) (by omega) (by decide)).mp c5) z)
      refine go_aloadn dX3_operatorRead_36 rfl ?_
      refine sg_getI dX3_operatorRead_37 fX3_57 rfl (rd_L rfl) hS ?_
      rw [r2]
      refine go_iconst (v := 3) dX3_operatorRead_40 rfl ?_
      refine go_icmp_eq (tgt := 46) dX3_operatorRead_41 (by decide) (fun c41 => absurd ((nI_eq (b := 3) (by omega) (by decide)).mp c41) y) (fun c41 => ?_)
      refine go_iconst (v := -1) dX3_operatorRead_44 rfl ?_
      refine go_ireturn dX3_operatorRead_45 rfl rfl (Nat.zero_le _) (Nat.zero_le _) ?_
      exact ⟨rfl, rfl⟩
