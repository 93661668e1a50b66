/-! the model: the game, years -/
theorem of_co {C : Cy} {T : Tn} {p o : Nat} (hp : p < 8) (ho : o < 8) : ofT C p (ofT C o T) = ofT C o (ofT C p T) := by
  have np : ¬ (-1 : Int32) = nI p := fun q => nI_m1 (by omega) q.symm
  have no : ¬ (-1 : Int32) = nI o := fun q => nI_m1 (by omega) q.symm
  have e1 : tB (ofT C p (ofT C o T)) = tB (ofT C o (ofT C p T)) := by
    funext t
    show (if t < cN C ∧ (if t < cN C ∧ tB T t = nI o then (-1 : Int32) else tB T t) = nI p then (-1 : Int32) else if t < cN C ∧ tB T t = nI o then -1 else tB T t) = if t < cN C ∧ (if t < cN C ∧ tB T t = nI p then (-1 : Int32) else tB T t) = nI o then -1 else if t < cN C ∧ tB T t = nI p then -1 else tB T t
    by_cases x : t < cN C
    · by_cases a : tB T t = nI o <;> by_cases b : tB T t = nI p <;> simp [x, a, b, np, no]
      all_goals simp_all
    · simp [x]
  have e2 : tS (ofT C p (ofT C o T)) = tS (ofT C o (ofT C p T)) := by
    funext t
    show (if t < cN C ∧ (if t < cN C ∧ tB T t = nI o then (-1 : Int32) else tB T t) = nI p then (0 : Int32) else if t < cN C ∧ tB T t = nI o then 0 else tS T t) = if t < cN C ∧ (if t < cN C ∧ tB T t = nI p then (-1 : Int32) else tB T t) = nI o then 0 else if t < cN C ∧ tB T t = nI p then 0 else tS T t
    by_cases x : t < cN C
    · by_cases a : tB T t = nI o <;> by_cases b : tB T t = nI p <;> simp [x, a, b, np, no]
      all_goals simp_all
    · simp [x]
  show (tD T, tC T, tO T, tB (ofT C p (ofT C o T)), tS (ofT C p (ofT C o T)), tX T, tH T, tV T, tW T) = _
  rw [e1, e2]; rfl
theorem WT.of {C : Cy} {T : Tn} {p : Nat} (V : WT C T) : WT C (ofT C p T) := by
  refine ⟨fun t ht => ⟨(V.1 t ht).1, ?_, ?_, (V.1 t ht).2.2.2⟩, V.2⟩
  · show (if t < cN C ∧ tB T t = nI p then (-1 : Int32) else tB T t) = -1 ∨ ∃ w, w < cP C ∧ (if t < cN C ∧ tB T t = nI p then (-1 : Int32) else tB T t) = nI w
    split
    · exact Or.inl rfl
    · exact (V.1 t ht).2.1
  · show ∃ s, s < 100 ∧ (if t < cN C ∧ tB T t = nI p then (0 : Int32) else tS T t) = nI s
    split
    · exact ⟨0, by omega, rfl⟩
    · exact (V.1 t ht).2.2.1
/-- the game's town: p chooses by a, o by b -/
def gnP (C : Cy) (T : Tn) (p o a b : Nat) : Tn := (fun T => if b = 1 then ofT C o T else T) (if a = 1 then ofT C p (t0 T) else t0 T)
theorem q_gains {l : Launch} {d as ar p o a b : Nat} {C : Cy} {T : Tn} {h : Hp} (W : WC C) (H : MB h as ar C T) (V : WT C T) (hD9 : tD T ≤ 9999) (hp : p < cP C) (ho : o < cP C) (ha : a < 2) (hb : b < 2) : Ey l (d + 8) mX10_gains [.ref 77, .int (nI p), .int (nI o), .int (nI a), .int (nI b)] h (some (.int (gnT C (dnT C (gnP C T p o a b) 12) p))) (Fz SN h) := by
  have hS := H.1.1
  have hP := W.1.2.1
  have hN1 := W.1.1
  refine run_lv [some (.ref 77), some (.int (nI p)), some (.int (nI o)), some (.int (nI a)), some (.int (nI b))] (go := ?_)
  have fin : ∀ (g : Hp) (T' : Tn), Fz SN h g → ME g as ar C T T' → WT C T' → tD T' = tD T → T' = gnP C T p o a b → Go l (rmOf (d + 8) (0, 0)) mX10_gains (hN h) (Zm (0, 0) (fun v h1 => v = some (.int (gnT C (dnT C (gnP C T p o a b) 12) p)) ∧ Fz SN h h1) noX) 29 [some (.ref 77), some (.int (nI p)), some (.int (nI o)), some (.int (nI a)), some (.int (nI b))] [] g 0 0 := by
    intro g T' F H2 V2 hd e
    have hS := H2.1.1.1
    refine go_aloadn dX10_gains_29 rfl ?_
    refine go_bipush (v := 12) dX10_gains_30 rfl ?_
    refine sg_rV0 (M' := mX10_daysGo) ([.int (nI 12)]) dX10_gains_32 lX10_396 vX10_daysGo (mo_L rfl) (by decide) rfl hS (q_daysGo W H2 V2 (by omega)) rfl (Nat.le_of_ble_eq_true rfl) (Nat.zero_le _) (Nat.zero_le _) (fun g2 F2 => ?_)
    have hS := F2.2.1.1.1
    refine go_iconst (v := 4) dX10_gains_35 rfl ?_
    refine go_aloadn dX10_gains_36 rfl ?_
    refine go_bipush (v := 105) dX10_gains_37 rfl ?_
    refine go_iloadn dX10_gains_39 rfl ?_
    refine sg_cVi (M' := mX10_ownedBy) ([.int (nI 105), .int (nI p)]) dX10_gains_40 lX10_371 vX10_ownedBy (mo_L rfl) (by decide) rfl hS (q_ownedBy W F2.2.1.1 F2.2.2 (by decide)) rfl (Nat.le_of_ble_eq_true rfl) (Nat.zero_le _) (Nat.zero_le _) ?_
    refine sg_cSi (M' := mX10_bits) ([.int _]) dX10_gains_43 lX10_312 sX10_bits hS (q_bits) rfl (Nat.le_of_ble_eq_true rfl) (Nat.zero_le _) (Nat.zero_le _) ?_
    refine go_imul dX10_gains_46 ?_
    refine go_aloadn dX10_gains_47 rfl ?_
    refine sg_getR dX10_gains_48 fX10_66 rfl (mo_L rfl) hS (mo_r42 hS rfl) ?_
    refine go_sipush (v := 146) dX10_gains_51 rfl ?_
    refine go_iloadn dX10_gains_54 rfl ?_
    refine go_iadd dX10_gains_55 ?_
    refine sg_ialdN (i := 146 + p) dX10_gains_56 (mo_42 rfl) hS (by simp only [lit_nI, nI_add, pk_mul, Nat.add_assoc, Nat.zero_add, Nat.add_zero]) (by omega) ((mH5 F2.2.2 hp).1) ?_
    refine go_bipush (v := 8) dX10_gains_57 rfl ?_
    refine go_idiv dX10_gains_59 (by decide) ?_
    refine go_isub dX10_gains_60 ?_
    refine go_ireturn dX10_gains_61 rfl rfl (Nat.zero_le _) (Nat.zero_le _) ?_
    exact ⟨by rw [gnT, ← e, bi_bc hN1], F.tr F2.1⟩
  have mid : ∀ (g : Hp) (T' : Tn), Fz SN h g → ME g as ar C T T' → WT C T' → tD T' = tD T → T' = (if a = 1 then ofT C p (t0 T) else t0 T) → Go l (rmOf (d + 8) (0, 0)) mX10_gains (hN h) (Zm (0, 0) (fun v h1 => v = some (.int (gnT C (dnT C (gnP C T p o a b) 12) p)) ∧ Fz SN h h1) noX) 16 [some (.ref 77), some (.int (nI p)), some (.int (nI o)), some (.int (nI a)), some (.int (nI b))] [] g 0 0 := by
    intro g T' F H2 V2 hd e
    have hS := H2.1.1.1
    by_cases z : b = 1
    · refine go_iload dX10_gains_16 rfl ?_
      refine go_iconst (v := 1) dX10_gains_18 rfl ?_
      refine go_icmp_ne (tgt := 29) dX10_gains_19 (by decide) (fun c19 => absurd (by rw [z]; rfl) c19) (fun c19 => ?_)
      refine go_aloadn dX10_gains_22 rfl ?_
      refine go_bipush (v := 105) dX10_gains_23 rfl ?_
      refine go_iloadn dX10_gains_25 rfl ?_
      refine sg_rV0 (M' := mX10_givesAll) ([.int (nI 105), .int (nI o)]) dX10_gains_26 lX10_340 vX10_givesAll (mo_L rfl) (by decide) rfl hS (q_givesAll W H2.1.1 H2.2 (by decide)) rfl (Nat.le_of_ble_eq_true rfl) (Nat.zero_le _) (Nat.zero_le _) (fun g2 F2 => ?_)
      exact (have F3 : Fz SN g g2 := F2.1.sub (fun a k q => by unfold SN; omega); fin g2 (ofT C o T') (F.tr F3) ⟨H2.1.sn W F3, F2.2⟩ V2.of hd (by unfold gnP; dsimp only; rw [if_pos z, ← e]))
    · refine go_iload dX10_gains_16 rfl ?_
      refine go_iconst (v := 1) dX10_gains_18 rfl ?_
      refine go_icmp_ne (tgt := 29) dX10_gains_19 (by decide) (fun c19 => ?_) (fun c19 => absurd ((nI_eq (b := 1) (by omega) (by decide)).mp c19) z)
      exact fin g T' F H2 V2 hd (by unfold gnP; dsimp only; rw [if_neg z]; exact e)
  by_cases z : a = 1
  · refine go_aloadn dX10_gains_0 rfl ?_
    refine sg_rV0 (M' := mX10_tries) ([]) dX10_gains_1 lX10_393 vX10_tries (mo_L rfl) (by decide) rfl hS (q_tries W H) rfl (Nat.le_of_ble_eq_true rfl) (Nat.zero_le _) (Nat.zero_le _) (fun g F => ?_)
    have hS := F.2.1.1.1
    refine go_iloadn dX10_gains_4 rfl ?_
    refine go_iconst (v := 1) dX10_gains_5 rfl ?_
    refine go_icmp_ne (tgt := 16) dX10_gains_6 (by decide) (fun c6 => absurd (by rw [z]; rfl) c6) (fun c6 => ?_)
    refine go_aloadn dX10_gains_9 rfl ?_
    refine go_bipush (v := 105) dX10_gains_10 rfl ?_
    refine go_iloadn dX10_gains_12 rfl ?_
    refine sg_rV0 (M' := mX10_givesAll) ([.int (nI 105), .int (nI p)]) dX10_gains_13 lX10_340 vX10_givesAll (mo_L rfl) (by decide) rfl hS (q_givesAll W F.2.1.1 F.2.2 (by decide)) rfl (Nat.le_of_ble_eq_true rfl) (Nat.zero_le _) (Nat.zero_le _) (fun g2 F2 => ?_)
    exact (have F3 : Fz SN g g2 := F2.1.sub (fun a k q => by unfold SN; omega); mid g2 (ofT C p (t0 T)) (F.1.tr F3) ⟨F.2.1.sn W F3, F2.2⟩ V.t0.of rfl (by rw [if_pos z]))
  · refine go_aloadn dX10_gains_0 rfl ?_
    refine sg_rV0 (M' := mX10_tries) ([]) dX10_gains_1 lX10_393 vX10_tries (mo_L rfl) (by decide) rfl hS (q_tries W H) rfl (Nat.le_of_ble_eq_true rfl) (Nat.zero_le _) (Nat.zero_le _) (fun g F => ?_)
    have hS := F.2.1.1.1
    refine go_iloadn dX10_gains_4 rfl ?_
    refine go_iconst (v := 1) dX10_gains_5 rfl ?_
    refine go_icmp_ne (tgt := 16) dX10_gains_6 (by decide) (fun c6 => ?_) (fun c6 => absurd ((nI_eq (b := 1) (by omega) (by decide)).mp c6) z)
    exact mid g (t0 T) F.1 F.2 V.t0 rfl (by rw [if_neg z])
theorem gn_p {C : Cy} {T : Tn} {p o k : Nat} : gnT C (dnT C (gnP C T p o (k / 2) (k % 2)) 12) p = gmA C T p o p k := rfl
theorem gn_o {C : Cy} {T : Tn} {p o k : Nat} (hp : p < 8) (ho : o < 8) : gnT C (dnT C (gnP C T o p (k % 2) (k / 2)) 12) o = gmA C T p o o k := by
  have : gnP C T o p (k % 2) (k / 2) = gnP C T p o (k / 2) (k % 2) := by
    unfold gnP
    by_cases a : k % 2 = 1 <;> by_cases b : k / 2 = 1 <;> simp only [a, b, if_true, if_false]
    rw [of_co hp ho]
  rw [this]; rfl
theorem one_sub {a : Nat} (h : a ≤ 1) : (1 : Int32) - nI a = nI (1 - a) := by
  have : a = 0 ∨ a = 1 := by omega
  rcases this with rfl | rfl <;> rfl
theorem k4y : ∀ k : Fin 4, (k.val ^^^ 2) / 2 = 1 - k.val / 2 ∧ (k.val ^^^ 2) % 2 = k.val % 2 ∧ (k.val ^^^ 1) / 2 = k.val / 2 ∧ (k.val ^^^ 1) % 2 = 1 - k.val % 2 := by decide
theorem fs_st {P : Nat → Prop} [DecidablePred P] {n : Nat} {f : Nat → Int32} (hf : ∀ j, j < n → ¬ f j = -1) : oN f (fsN P (n + 1)) = if P n ∧ oN f (fsN P n) = -1 then f n else oN f (fsN P n) := by
  have : fsN P (n + 1) = match fsN P n with | some j => some j | none => if P n then some n else none := rfl
  rw [this]
  cases q : fsN P n with
  | none =>
    dsimp only
    by_cases z : P n
    · rw [if_pos z, if_pos ⟨z, rfl⟩]; rfl
    · rw [if_neg z, if_neg (fun q => z q.1)]
  | some j =>
    dsimp only
    have hj : j < n := (fs_of_some q).1
    rw [if_neg (fun z => hf j hj z.2)]
theorem m_game {l : Launch} {d as ar : Nat} {x y w : Int32} {C : Cy} {T : Tn} {h : Hp} (W : WC C) (H : MB h as ar C T) (V : WT C T) (hD9 : tD T ≤ 9999) : Qm l (d + 9) mX10_game [.ref 77, .int x, .int y, .int w] h (vGame C T x y w) := by
  have hS := H.1.1
  have hP := W.1.2.1
  refine run_lv [some (.ref 77), some (.int x), some (.int y), some (.int w), none, none, none, none, none] (go := ?_)
  unfold vGame
  refine go_aloadn dX10_game_0 rfl ?_
  refine go_iconst (v := 0) dX10_game_1 rfl ?_
  refine sg_putI dX10_game_2 fX10_102 rfl rfl (mo_L rfl) hS ?_
  have hF : Fz SM h (uI h 77 0 0) := Fz.rf.uI sm0
  have H := H.sm W hF
  have h0 : hI (uI h 77 0 0) 77 0 = 0 := hI_uI_eq
  generalize uI h 77 0 0 = h1 at *
  have hS := H.1.1
  refine go_aloadn dX10_game_5 rfl ?_
  refine go_iloadn dX10_game_6 rfl ?_
  refine sg_mnd (M' := mX10_isPerson) ([.int x]) dX10_game_7 lX10_362 vX10_isPerson (mo_L rfl) (by decide) rfl hS (q_isPerson H.1 h0).1 (q_isPerson H.1 h0).2 rfl (Nat.le_of_ble_eq_true rfl) (fun k7 => ?_) (fun k7 => ?_)
  · refine go_if_eq (tgt := 48) dX10_game_10 (by decide) (fun _ => ?_) (fun c => absurd rfl c)
    refine go_iconst (v := 0) dX10_game_48 rfl ?_
    refine go_ireturn dX10_game_49 rfl rfl (Nat.zero_le _) (Nat.zero_le _) ?_
    exact ⟨⟨0, rfl, fun q => absurd q (by decide)⟩, hI_uI_eq, hF.uI sm0⟩
  refine go_if_eq (tgt := 48) dX10_game_10 (by decide) (fun c10 => absurd c10 (by decide)) (fun c10 => ?_)
  refine go_aloadn dX10_game_13 rfl ?_
  refine go_iloadn dX10_game_14 rfl ?_
  refine sg_mnd (M' := mX10_isPerson) ([.int y]) dX10_game_15 lX10_362 vX10_isPerson (mo_L rfl) (by decide) rfl hS (q_isPerson H.1 h0).1 (q_isPerson H.1 h0).2 rfl (Nat.le_of_ble_eq_true rfl) (fun k15 => ?_) (fun k15 => ?_)
  · refine go_if_eq (tgt := 48) dX10_game_18 (by decide) (fun _ => ?_) (fun c => absurd rfl c)
    refine go_iconst (v := 0) dX10_game_48 rfl ?_
    refine go_ireturn dX10_game_49 rfl rfl (Nat.zero_le _) (Nat.zero_le _) ?_
    exact ⟨⟨0, rfl, fun q => absurd q (by decide)⟩, hI_uI_eq, hF.uI sm0⟩
  refine go_if_eq (tgt := 48) dX10_game_18 (by decide) (fun c18 => absurd c18 (by decide)) (fun c18 => ?_)
  refine go_aloadn dX10_game_21 rfl ?_
  refine go_iloadn dX10_game_22 rfl ?_
  refine go_iconst (v := 1) dX10_game_23 rfl ?_
  refine sg_mnd (M' := mX10_isWhat) ([.int w, .int 1]) dX10_game_24 lX10_365 vX10_isWhat (mo_L rfl) (by decide) rfl hS (q_isWhat hS h0).1 (q_isWhat hS h0).2 rfl (Nat.le_of_ble_eq_true rfl) (fun k24 => ?_) (fun k24 => ?_)
  · refine go_if_eq (tgt := 48) dX10_game_27 (by decide) (fun _ => ?_) (fun c => absurd rfl c)
    refine go_iconst (v := 0) dX10_game_48 rfl ?_
    refine go_ireturn dX10_game_49 rfl rfl (Nat.zero_le _) (Nat.zero_le _) ?_
    exact ⟨⟨0, rfl, fun q => absurd q (by decide)⟩, hI_uI_eq, hF.uI sm0⟩
  refine go_if_eq (tgt := 48) dX10_game_27 (by decide) (fun c27 => absurd c27 (by decide)) (fun c27 => ?_)
  skip
  obtain ⟨p, hp, rfl⟩ := ok_nI (by omega) k7
  obtain ⟨o, ho, rfl⟩ := ok_nI (by omega) k15
  rw [cl_nI (show p < 2 ^ 31 by omega), cl_nI (show o < 2 ^ 31 by omega)]
  have e41 : ∀ u : Int32, u = (if ¬ nI p = nI o then 1 else 0) → Go l (rmOf (d + 9) (0, 0)) mX10_game (hN h) (Zm (0, 0) (Qn (nd (¬ nI p = nI o) 2 (0, gaF C T p o w)) h) noX) 41 [some (.ref 77), some (.int (nI p)), some (.int (nI o)), some (.int w), none, none, none, none, none] [.int u, .ref 77] h1 0 0 := by
    intro u hu
    subst hu
    by_cases z1 : btF (fun t => tB T t = nI p) (cN C) = 0
    · refine go_iconst (v := 2) dX10_game_41 rfl ?_
      refine sg_mnd (M' := mX10_right) ([.int _, .int (nI 2)]) dX10_game_42 lX10_266 vX10_right (mo_L rfl) (by decide) rfl hS (q_right hS h0 (by decide) (by decide)).1 (q_right hS h0 (by decide) (by decide)).2 rfl (Nat.le_of_ble_eq_true rfl) (fun k42 => ?_) (fun k42 => ?_)
      · refine go_if_ne (tgt := 50) dX10_game_45 (by decide) (fun c => absurd rfl c) (fun _ => ?_)
        refine go_iconst (v := 0) dX10_game_48 rfl ?_
        refine go_ireturn dX10_game_49 rfl rfl (Nat.zero_le _) (Nat.zero_le _) ?_
        exact ⟨⟨0, rfl, fun q => absurd q (by decide)⟩, hI_uI_eq, hF.uI sm0⟩
      refine go_if_ne (tgt := 50) dX10_game_45 (by decide) (fun c45 => ?_) (fun c45 => absurd c45 (by decide))
      refine go_aloadn dX10_game_50 rfl ?_
      refine go_iconst (v := 0) dX10_game_51 rfl ?_
      refine go_iloadn dX10_game_52 rfl ?_
      refine sg_cVi (M' := mX10_wornBy) ([.int (nI 0), .int (nI p)]) dX10_game_53 lX10_300 vX10_wornBy (mo_L rfl) (by decide) rfl hS (q_wornBy W H.1 H.2.1 (by decide)) rfl (Nat.le_of_ble_eq_true rfl) (Nat.zero_le _) (Nat.zero_le _) ?_
      refine go_if_eq (tgt := 68) dX10_game_56 (by decide) (fun c56 => ?_) (fun c56 => absurd z1 c56)
      refine go_iconst (v := -1) dX10_game_68 rfl ?_
      refine go_ireturn dX10_game_69 rfl rfl (Nat.zero_le _) (Nat.zero_le _) ?_
      exact qn_ok (by rw [gaF, if_pos (Or.inl z1)]) h0 hF
    by_cases z2 : btF (fun t => tB T t = nI o) (cN C) = 0
    · refine go_iconst (v := 2) dX10_game_41 rfl ?_
      refine sg_mnd (M' := mX10_right) ([.int _, .int (nI 2)]) dX10_game_42 lX10_266 vX10_right (mo_L rfl) (by decide) rfl hS (q_right hS h0 (by decide) (by decide)).1 (q_right hS h0 (by decide) (by decide)).2 rfl (Nat.le_of_ble_eq_true rfl) (fun k42 => ?_) (fun k42 => ?_)
      · refine go_if_ne (tgt := 50) dX10_game_45 (by decide) (fun c => absurd rfl c) (fun _ => ?_)
        refine go_iconst (v := 0) dX10_game_48 rfl ?_
        refine go_ireturn dX10_game_49 rfl rfl (Nat.zero_le _) (Nat.zero_le _) ?_
        exact ⟨⟨0, rfl, fun q => absurd q (by decide)⟩, hI_uI_eq, hF.uI sm0⟩
      refine go_if_ne (tgt := 50) dX10_game_45 (by decide) (fun c45 => ?_) (fun c45 => absurd c45 (by decide))
      refine go_aloadn dX10_game_50 rfl ?_
      refine go_iconst (v := 0) dX10_game_51 rfl ?_
      refine go_iloadn dX10_game_52 rfl ?_
      refine sg_cVi (M' := mX10_wornBy) ([.int (nI 0), .int (nI p)]) dX10_game_53 lX10_300 vX10_wornBy (mo_L rfl) (by decide) rfl hS (q_wornBy W H.1 H.2.1 (by decide)) rfl (Nat.le_of_ble_eq_true rfl) (Nat.zero_le _) (Nat.zero_le _) ?_
      refine go_if_eq (tgt := 68) dX10_game_56 (by decide) (fun c56 => absurd c56 z1) (fun c56 => ?_)
      refine go_aloadn dX10_game_59 rfl ?_
      refine go_iconst (v := 0) dX10_game_60 rfl ?_
      refine go_iloadn dX10_game_61 rfl ?_
      refine sg_cVi (M' := mX10_wornBy) ([.int (nI 0), .int (nI o)]) dX10_game_62 lX10_300 vX10_wornBy (mo_L rfl) (by decide) rfl hS (q_wornBy W H.1 H.2.1 (by decide)) rfl (Nat.le_of_ble_eq_true rfl) (Nat.zero_le _) (Nat.zero_le _) ?_
      refine go_if_ne (tgt := 70) dX10_game_65 (by decide) (fun c65 => absurd z2 c65) (fun c65 => ?_)
      refine go_iconst (v := -1) dX10_game_68 rfl ?_
      refine go_ireturn dX10_game_69 rfl rfl (Nat.zero_le _) (Nat.zero_le _) ?_
      exact qn_ok (by rw [gaF, if_pos (Or.inr z2)]) h0 hF
    refine go_iconst (v := 2) dX10_game_41 rfl ?_
    refine sg_mnd (M' := mX10_right) ([.int _, .int (nI 2)]) dX10_game_42 lX10_266 vX10_right (mo_L rfl) (by decide) rfl hS (q_right hS h0 (by decide) (by decide)).1 (q_right hS h0 (by decide) (by decide)).2 rfl (Nat.le_of_ble_eq_true rfl) (fun k42 => ?_) (fun k42 => ?_)
    · refine go_if_ne (tgt := 50) dX10_game_45 (by decide) (fun c => absurd rfl c) (fun _ => ?_)
      refine go_iconst (v := 0) dX10_game_48 rfl ?_
      refine go_ireturn dX10_game_49 rfl rfl (Nat.zero_le _) (Nat.zero_le _) ?_
      exact ⟨⟨0, rfl, fun q => absurd q (by decide)⟩, hI_uI_eq, hF.uI sm0⟩
    refine go_if_ne (tgt := 50) dX10_game_45 (by decide) (fun c45 => ?_) (fun c45 => absurd c45 (by decide))
    refine go_aloadn dX10_game_50 rfl ?_
    refine go_iconst (v := 0) dX10_game_51 rfl ?_
    refine go_iloadn dX10_game_52 rfl ?_
    refine sg_cVi (M' := mX10_wornBy) ([.int (nI 0), .int (nI p)]) dX10_game_53 lX10_300 vX10_wornBy (mo_L rfl) (by decide) rfl hS (q_wornBy W H.1 H.2.1 (by decide)) rfl (Nat.le_of_ble_eq_true rfl) (Nat.zero_le _) (Nat.zero_le _) ?_
    refine go_if_eq (tgt := 68) dX10_game_56 (by decide) (fun c56 => absurd c56 z1) (fun c56 => ?_)
    refine go_aloadn dX10_game_59 rfl ?_
    refine go_iconst (v := 0) dX10_game_60 rfl ?_
    refine go_iloadn dX10_game_61 rfl ?_
    refine sg_cVi (M' := mX10_wornBy) ([.int (nI 0), .int (nI o)]) dX10_game_62 lX10_300 vX10_wornBy (mo_L rfl) (by decide) rfl hS (q_wornBy W H.1 H.2.1 (by decide)) rfl (Nat.le_of_ble_eq_true rfl) (Nat.zero_le _) (Nat.zero_le _) ?_
    refine go_if_ne (tgt := 70) dX10_game_65 (by decide) (fun c65 => ?_) (fun c65 => absurd c65 z2)
    refine go_iconst (v := 0) dX10_game_70 rfl ?_
    refine go_ist4 dX10_game_71 rfl ?_
    refine go_iconst (v := -1) dX10_game_73 rfl ?_
    refine go_ist5 dX10_game_74 rfl ?_
    refine go_iconst (v := 0) dX10_game_76 rfl ?_
    refine go_ist6 dX10_game_77 rfl ?_
    skip
    have eg : gaF C T p o w = if w = 0 then nI (car (gmA C T p o p) (gmA C T p o o) 4) else oN (fun k => nI (10 * (k / 2) + k % 2)) (fsN (fun k => rsB (gmA C T p o p) (gmA C T p o o) k = true) 4) := if_neg (fun q => q.elim z1 z2)
    rw [eg]
    have gp : ∀ (g : Hp) (a b k : Nat), Fz SN h1 g → a = k / 2 → b = k % 2 → k < 4 → Ey l (d + 8) mX10_gains [.ref 77, .int (nI p), .int (nI o), .int (nI a), .int (nI b)] g (some (.int (gmA C T p o p k))) (Fz SN g) := fun g a b k F e1 e2 hk => by
      have := q_gains (l := l) (d := d) (p := p) (o := o) (a := k / 2) (b := k % 2) W (H.sn W F) V hD9 hp ho (by omega) (by omega)
      rw [gn_p] at this; rw [e1, e2]; exact this
    have go : ∀ (g : Hp) (a b k : Nat), Fz SN h1 g → a = k / 2 → b = k % 2 → k < 4 → Ey l (d + 8) mX10_gains [.ref 77, .int (nI o), .int (nI p), .int (nI b), .int (nI a)] g (some (.int (gmA C T p o o k))) (Fz SN g) := fun g a b k F e1 e2 hk => by
      have := q_gains (l := l) (d := d) (p := o) (o := p) (a := k % 2) (b := k / 2) W (H.sn W F) V hD9 ho hp (by omega) (by omega)
      rw [gn_o (by omega) (by omega)] at this; rw [e1, e2]; exact this
    generalize gmA C T p o p = A at *
    generalize gmA C T p o o = B at *
    refine go_back (go_loopR (lvf := fun k => [some (.ref 77), some (.int (nI p)), some (.int (nI o)), some (.int w), some (.int (nI (car A B k))), some (.int (oN (fun k => nI (10 * (k / 2) + k % 2)) (fsN (fun k => rsB A B k = true) k))), some (.int (nI k)), none, none]) 4 (fun _ g => Fz SN h1 g) (fun k g hk F ih => ?_) (fun g F => ?_) 0 h1 (Nat.zero_le _) Fz.rf) (by simp [lsub, car, foF, fsN, oN, nI]) rfl
    · have hS := F.St hS
      have ec : car A B (k + 1) = if rsB A B k then car A B k + 1 else car A B k := rfl
      rw [ec, fs_st (n := k) (fun j hj => nI_m1 (by omega))] at ih
      obtain ⟨y1, y2, y3, y4⟩ := k4y ⟨k, hk⟩
      obtain ⟨-, -, x3, x4⟩ := k4x ⟨k, hk⟩
      dsimp only at y1 y2 y3 y4 x3 x4
      have d2 : nI k / 2 = nI (k / 2) := pk_div (by omega) (by decide) (by decide)
      have r2 : nI k - nI k / 2 * 2 = nI (k % 2) := pk_rem (by omega) (by decide) (by decide)
      have s1 : (1 : Int32) - nI (k / 2) = nI (1 - k / 2) := one_sub (by omega)
      have s2 : (1 : Int32) - nI (k % 2) = nI (1 - k % 2) := one_sub (by omega)
      have er : rsB A B k = true ↔ ¬ A k < A (k ^^^ 2) ∧ ¬ B k < B (k ^^^ 1) := by unfold rsB; simp
      refine go_iload dX10_game_79 rfl ?_
      refine go_iconst (v := 4) dX10_game_81 rfl ?_
      refine go_icmp_ge (tgt := 175) dX10_game_82 (by decide) (fun c82 => absurd c82 (nI_ge (b := 4) hk (by decide))) (fun c82 => ?_)
      refine go_iload dX10_game_85 rfl ?_
      refine go_iconst (v := 2) dX10_game_87 rfl ?_
      refine go_idiv dX10_game_88 (by decide) ?_
      rw [d2]
      refine go_ist7 dX10_game_89 rfl ?_
      refine go_iload dX10_game_91 rfl ?_
      refine go_iconst (v := 2) dX10_game_93 rfl ?_
      refine go_irem dX10_game_94 (by decide) ?_
      rw [r2]
      refine go_ist8 dX10_game_95 rfl ?_
      refine go_aloadn dX10_game_97 rfl ?_
      refine go_iloadn dX10_game_98 rfl ?_
      refine go_iloadn dX10_game_99 rfl ?_
      refine go_iconst (v := 1) dX10_game_100 rfl ?_
      refine go_iload dX10_game_101 rfl ?_
      refine go_isub dX10_game_103 ?_
      refine go_iload dX10_game_104 rfl ?_
      rw [s1]
      refine sg_rVi (M' := mX10_gains) ([.int (nI p), .int (nI o), .int (nI (1 - k / 2)), .int (nI (k % 2))]) dX10_game_106 lX10_431 vX10_gains (mo_L rfl) (by decide) rfl hS (gp g _ _ (k ^^^ 2) F y1.symm y2.symm x3) rfl (Nat.le_of_ble_eq_true rfl) (Nat.zero_le _) (Nat.zero_le _) (fun g1 F1 => ?_)
      have hS := F1.St hS
      refine go_aloadn dX10_game_109 rfl ?_
      refine go_iloadn dX10_game_110 rfl ?_
      refine go_iloadn dX10_game_111 rfl ?_
      refine go_iload dX10_game_112 rfl ?_
      refine go_iload dX10_game_114 rfl ?_
      refine sg_rVi (M' := mX10_gains) ([.int (nI p), .int (nI o), .int (nI (k / 2)), .int (nI (k % 2))]) dX10_game_116 lX10_431 vX10_gains (mo_L rfl) (by decide) rfl hS (gp g1 _ _ k (F.tr F1) rfl rfl hk) rfl (Nat.le_of_ble_eq_true rfl) (Nat.zero_le _) (Nat.zero_le _) (fun g2 F2 => ?_)
      have hS := F2.St hS
      refine go_icmp_gt (tgt := 169) dX10_game_119 (by decide) (fun c119 => ?_) (fun c119 => ?_)
      · refine go_iinc6 (c1 := 1) dX10_game_169 rfl rfl ?_
        refine go_goto (tgt := 79) dX10_game_172 (by decide) ?_
        first | exact go_back (ih _ ((((F.tr F1).tr F2).tr F3).tr F4)) (by rw [if_pos (er.mpr (And.intro c119 (Int32.not_lt.mpr c144))), if_pos (And.intro (er.mpr (And.intro c119 (Int32.not_lt.mpr c144))) c156)]; simp [lsub, nI_1]) rfl | exact go_back (ih _ ((((F.tr F1).tr F2).tr F3).tr F4)) (by rw [if_pos (er.mpr (And.intro c119 (Int32.not_lt.mpr c144))), if_neg (fun q => c156 q.2)]; simp [lsub, nI_1]) rfl | exact go_back (ih _ ((((F.tr F1).tr F2).tr F3).tr F4)) (by rw [if_neg (fun q => c144 (Int32.not_lt.mp (er.mp q).2)), if_neg (fun q => c144 (Int32.not_lt.mp (er.mp q.1).2))]; simp [lsub, nI_1]) rfl | exact go_back (ih _ ((F.tr F1).tr F2)) (by rw [if_neg (fun q => (er.mp q).1 c119), if_neg (fun q => (er.mp q.1).1 c119)]; simp [lsub, nI_1]) rfl
      · refine go_aloadn dX10_game_122 rfl ?_
        refine go_iloadn dX10_game_123 rfl ?_
        refine go_iloadn dX10_game_124 rfl ?_
        refine go_iconst (v := 1) dX10_game_125 rfl ?_
        refine go_iload dX10_game_126 rfl ?_
        refine go_isub dX10_game_128 ?_
        refine go_iload dX10_game_129 rfl ?_
        rw [s2]
        refine sg_rVi (M' := mX10_gains) ([.int (nI o), .int (nI p), .int (nI (1 - k % 2)), .int (nI (k / 2))]) dX10_game_131 lX10_431 vX10_gains (mo_L rfl) (by decide) rfl hS (go g2 _ _ (k ^^^ 1) ((F.tr F1).tr F2) y3.symm y4.symm x4) rfl (Nat.le_of_ble_eq_true rfl) (Nat.zero_le _) (Nat.zero_le _) (fun g3 F3 => ?_)
        have hS := F3.St hS
        refine go_aloadn dX10_game_134 rfl ?_
        refine go_iloadn dX10_game_135 rfl ?_
        refine go_iloadn dX10_game_136 rfl ?_
        refine go_iload dX10_game_137 rfl ?_
        refine go_iload dX10_game_139 rfl ?_
        refine sg_rVi (M' := mX10_gains) ([.int (nI o), .int (nI p), .int (nI (k % 2)), .int (nI (k / 2))]) dX10_game_141 lX10_431 vX10_gains (mo_L rfl) (by decide) rfl hS (go g3 _ _ k (((F.tr F1).tr F2).tr F3) rfl rfl hk) rfl (Nat.le_of_ble_eq_true rfl) (Nat.zero_le _) (Nat.zero_le _) (fun g4 F4 => ?_)
        have hS := F4.St hS
        refine go_icmp_le (tgt := 150) dX10_game_144 (by decide) (fun c144 => ?_) (fun c144 => ?_)
        · refine go_iinc4 (c1 := 1) dX10_game_150 rfl rfl ?_
          refine go_iload dX10_game_153 rfl ?_
          refine go_iconst (v := -1) dX10_game_155 rfl ?_
          refine go_icmp_ne (tgt := 169) dX10_game_156 (by decide) (fun c156 => ?_) (fun c156 => ?_)
          · refine go_iinc6 (c1 := 1) dX10_game_169 rfl rfl ?_
            refine go_goto (tgt := 79) dX10_game_172 (by decide) ?_
            first | exact go_back (ih _ ((((F.tr F1).tr F2).tr F3).tr F4)) (by rw [if_pos (er.mpr (And.intro c119 (Int32.not_lt.mpr c144))), if_pos (And.intro (er.mpr (And.intro c119 (Int32.not_lt.mpr c144))) c156)]; simp [lsub, nI_1]) rfl | exact go_back (ih _ ((((F.tr F1).tr F2).tr F3).tr F4)) (by rw [if_pos (er.mpr (And.intro c119 (Int32.not_lt.mpr c144))), if_neg (fun q => c156 q.2)]; simp [lsub, nI_1]) rfl | exact go_back (ih _ ((((F.tr F1).tr F2).tr F3).tr F4)) (by rw [if_neg (fun q => c144 (Int32.not_lt.mp (er.mp q).2)), if_neg (fun q => c144 (Int32.not_lt.mp (er.mp q.1).2))]; simp [lsub, nI_1]) rfl | exact go_back (ih _ ((F.tr F1).tr F2)) (by rw [if_neg (fun q => (er.mp q).1 c119), if_neg (fun q => (er.mp q.1).1 c119)]; simp [lsub, nI_1]) rfl
          · refine go_bipush (v := 10) dX10_game_159 rfl ?_
            refine go_iload dX10_game_161 rfl ?_
            refine go_imul dX10_game_163 ?_
            refine go_iload dX10_game_164 rfl ?_
            refine go_iadd dX10_game_166 ?_
            rw [show (10 : Int32) = nI 10 from rfl, pk_mul, nI_add]
            refine go_ist5 dX10_game_167 rfl ?_
            refine go_iinc6 (c1 := 1) dX10_game_169 rfl rfl ?_
            refine go_goto (tgt := 79) dX10_game_172 (by decide) ?_
            first | exact go_back (ih _ ((((F.tr F1).tr F2).tr F3).tr F4)) (by rw [if_pos (er.mpr (And.intro c119 (Int32.not_lt.mpr c144))), if_pos (And.intro (er.mpr (And.intro c119 (Int32.not_lt.mpr c144))) c156)]; simp [lsub, nI_1]) rfl | exact go_back (ih _ ((((F.tr F1).tr F2).tr F3).tr F4)) (by rw [if_pos (er.mpr (And.intro c119 (Int32.not_lt.mpr c144))), if_neg (fun q => c156 q.2)]; simp [lsub, nI_1]) rfl | exact go_back (ih _ ((((F.tr F1).tr F2).tr F3).tr F4)) (by rw [if_neg (fun q => c144 (Int32.not_lt.mp (er.mp q).2)), if_neg (fun q => c144 (Int32.not_lt.mp (er.mp q.1).2))]; simp [lsub, nI_1]) rfl | exact go_back (ih _ ((F.tr F1).tr F2)) (by rw [if_neg (fun q => (er.mp q).1 c119), if_neg (fun q => (er.mp q.1).1 c119)]; simp [lsub, nI_1]) rfl
        · refine go_goto (tgt := 169) dX10_game_147 (by decide) ?_
          refine go_iinc6 (c1 := 1) dX10_game_169 rfl rfl ?_
          refine go_goto (tgt := 79) dX10_game_172 (by decide) ?_
          first | exact go_back (ih _ ((((F.tr F1).tr F2).tr F3).tr F4)) (by rw [if_pos (er.mpr (And.intro c119 (Int32.not_lt.mpr c144))), if_pos (And.intro (er.mpr (And.intro c119 (Int32.not_lt.mpr c144))) c156)]; simp [lsub, nI_1]) rfl | exact go_back (ih _ ((((F.tr F1).tr F2).tr F3).tr F4)) (by rw [if_pos (er.mpr (And.intro c119 (Int32.not_lt.mpr c144))), if_neg (fun q => c156 q.2)]; simp [lsub, nI_1]) rfl | exact go_back (ih _ ((((F.tr F1).tr F2).tr F3).tr F4)) (by rw [if_neg (fun q => c144 (Int32.not_lt.mp (er.mp q).2)), if_neg (fun q => c144 (Int32.not_lt.mp (er.mp q.1).2))]; simp [lsub, nI_1]) rfl | exact go_back (ih _ ((F.tr F1).tr F2)) (by rw [if_neg (fun q => (er.mp q).1 c119), if_neg (fun q => (er.mp q.1).1 c119)]; simp [lsub, nI_1]) rfl
    · have hS := F.St hS
      refine go_iload dX10_game_79 rfl ?_
      refine go_iconst (v := 4) dX10_game_81 rfl ?_
      refine go_icmp_ge (tgt := 175) dX10_game_82 (by decide) (fun c82 => ?_) (fun c82 => absurd (by decide) c82)
      refine go_iloadn dX10_game_175 rfl ?_
      refine go_if_ne (tgt := 184) dX10_game_176 (by decide) (fun c176 => ?_) (fun c176 => ?_)
      · refine go_iload dX10_game_184 rfl ?_
        refine go_ireturn dX10_game_186 rfl rfl (Nat.zero_le _) (Nat.zero_le _) ?_
        first | exact qn_ok (by rw [if_pos c176]) (F.t0.trans h0) (hF.tr F.sn) | exact qn_ok (by rw [if_neg c176]) (F.t0.trans h0) (hF.tr F.sn)
      · refine go_iload dX10_game_179 rfl ?_
        refine go_goto (tgt := 186) dX10_game_181 (by decide) ?_
        refine go_ireturn dX10_game_186 rfl rfl (Nat.zero_le _) (Nat.zero_le _) ?_
        first | exact qn_ok (by rw [if_pos c176]) (F.t0.trans h0) (hF.tr F.sn) | exact qn_ok (by rw [if_neg c176]) (F.t0.trans h0) (hF.tr F.sn)
  by_cases a : nI p = nI o
  · refine go_aloadn dX10_game_30 rfl ?_
    refine go_iloadn dX10_game_31 rfl ?_
    refine go_iloadn dX10_game_32 rfl ?_
    refine go_icmp_eq (tgt := 40) dX10_game_33 (by decide) (fun c33 => ?_) (fun c33 => absurd a c33)
    refine go_iconst (v := 0) dX10_game_40 rfl ?_
    exact e41 0 (if_neg (fun q => q a)).symm
  · refine go_aloadn dX10_game_30 rfl ?_
    refine go_iloadn dX10_game_31 rfl ?_
    refine go_iloadn dX10_game_32 rfl ?_
    refine go_icmp_eq (tgt := 40) dX10_game_33 (by decide) (fun c33 => absurd c33 a) (fun c33 => ?_)
    refine go_iconst (v := 1) dX10_game_36 rfl ?_
    refine go_goto (tgt := 41) dX10_game_37 (by decide) ?_
    exact e41 1 (if_pos a).symm
