/-! the class's acts -/
theorem KB.fr {h g : Hp} {c fs fr : Nat} {x : Int32} {C : Cy} {T : Tn} (K : KB h c fs fr x C T) (hr : hR g = hR h) (hn : hN g = hN h) (e : ∀ a k, ¬ (a ≤ 2 ∨ 42 ≤ a ∧ a ≤ 54) → hI g a k = hI h a k) : KB g c fs fr x C T := by
  obtain ⟨h1, h2, h3⟩ := K
  obtain ⟨⟨⟨t1, t2, t3, t4, t5, t6, t7, t8⟩, ⟨k1, k2⟩, U, Wr, hD, hDl⟩, hC, ⟨e1, e2, e3, e4⟩⟩ := h2
  have n30 : ∀ i, i ≤ 11 → ∀ j, hI g (30 + i) j = hI h (30 + i) j := fun i hi j => e _ _ (by omega)
  have nc : ∀ i, i ≤ 11 → ∀ j, hI g (c + i) j = hI h (c + i) j := fun i hi j => e _ _ (by rcases t3 with rfl | rfl <;> omega)
  refine ⟨by rw [hr]; exact h1, ⟨⟨⟨⟨hn.trans t1.1, fun q hq => by rw [hr]; exact t1.2 q hq⟩, t2, t3, by rw [hr]; exact t4, (nc 0 (by omega) 2).trans t5, t6, (nc 0 (by omega) 1).trans t7, t8⟩, ⟨fun p hp => by rw [nc 3 (by omega)]; exact k1 p hp, fun i hi => by rw [n30 3 (by omega)]; exact k2 i hi⟩, ?_, fun t ht => by rw [n30 6 (by omega)]; exact Wr t ht, (n30 0 (by omega) 1).trans hD, hDl⟩, ?_, ⟨fun t ht => ?_, fun p hp => ?_, fun i hi => ?_, (n30 0 (by omega) 2).trans e4⟩⟩, fun p hp => by rw [nc 1 (by omega)]; exact h3 p hp⟩
  · unfold RU; rw [nc 10 (by omega), nc 10 (by omega), nc 11 (by omega), nc 11 (by omega)]; exact U
  · obtain ⟨⟨g1, g2⟩, g3, g4, g5, g6⟩ := hC
    refine ⟨⟨(nc 0 (by omega) 0).trans g1, (nc 0 (by omega) 3).trans g2⟩, fun p hp => ?_, fun t ht => ?_, fun j hj => ?_, fun j hj => ?_⟩
    · rw [nc 2 (by omega), nc 3 (by omega)]; exact g3 p hp
    · rw [nc 5 (by omega)]; exact g4 t ht
    · rw [nc 9 (by omega)]; exact g5 j hj
    · rw [nc 9 (by omega)]; exact g6 j hj
  · rw [n30 5 (by omega), n30 6 (by omega), n30 7 (by omega), n30 4 (by omega)]; exact e1 t ht
  · rw [n30 2 (by omega), n30 1 (by omega)]; exact e2 p hp
  · rw [n30 3 (by omega)]; exact e3 i hi
theorem fr_kp {h : Hp} {F M : Nat} : Fr (fun a => a = 42 ∨ a = 43) h (kpH h 42 30 F M) := by
  unfold kpH
  split
  · exact (Fr.rf.uF (Or.inr rfl)).uI (Or.inl rfl)
  · exact (Fr.rf.uF (Or.inr rfl)).uI (Or.inl rfl)
/-- an act is kept; the town is put anew -/
def kpS (S : Sx) (T : Tn) : Sx := (sC S, T, keepL (sA S) (sT S), sQ S, sM S, sP S, sF S, sR S)
theorem KR.acts {h g : Hp} {C : Cy} {A A' : List Tn} {Q : Nt} {I : Option (Tn × List Tn × Nt)} {P : Nat × (Nat → Nat)} {f : Int32} {R : Nat → Int32} (K : KR h C A Q I P f R) (hA : AVr g 42 C A') (e : ∀ a k, a ≤ 2 ∨ 44 ≤ a ∧ a ≤ 54 → hI g a k = hI h a k) : KR g C A' Q I P f R := by
  obtain ⟨h1, h2, h3, h4, h6, h7⟩ := K
  have k2 : KR (uF (uF g 42 (hI h 42)) 43 (hI h 43)) C A Q I P f R := KR.eq (h := h) ⟨h1, h2, h3, h4, h6, h7⟩ (fun a k q => by
    by_cases z : a = 43
    · subst z; rw [hI_uF_eq]
    · rw [hI_uF_ne z]
      by_cases z2 : a = 42
      · subst z2; rw [hI_uF_eq]
      · rw [hI_uF_ne z2]; exact e a k (by omega))
  have k3 : KR g C A' Q I P f R := by
    obtain ⟨-, j2, j3, ⟨j4, j5⟩, j6, j7⟩ := k2
    have nn : ∀ a k, a ≠ 42 → a ≠ 43 → hI (uF (uF g 42 (hI h 42)) 43 (hI h 43)) a k = hI g a k := fun a k q1 q2 => by rw [hI_uF_ne q2, hI_uF_ne q1]
    have nv : ∀ n Q, NotesAt n → NV (uF (uF g 42 (hI h 42)) 43 (hI h 43)) n (cN C) Q → NV g n (cN C) Q := fun n Q hn V => by
      have e' : ∀ i, i ≤ 3 → ∀ k, hI g (n + i) k = hI (uF (uF g 42 (hI h 42)) 43 (hI h 43)) (n + i) k := fun i hi k => (nn _ _ (by rcases hn with rfl | rfl <;> omega) (by rcases hn with rfl | rfl <;> omega)).symm
      obtain ⟨⟨v1, v2, v3⟩, v4⟩ := V
      refine ⟨⟨(e' 0 (by omega) 0).trans v1, v2, fun i hi => ?_⟩, fun i hi => ?_⟩
      · rw [e' 1 (by omega), e' 2 (by omega), e' 3 (by omega)]; exact v3 i hi
      · rw [e' 1 (by omega), e' 2 (by omega), e' 3 (by omega)]; exact v4 i hi
    refine ⟨hA, nv 44 Q at44 j2, ?_, ⟨(nn _ _ (by omega) (by omega)).symm.trans j4, fun i hi => (nn _ _ (by omega) (by omega)).symm.trans (j5 i hi)⟩, (nn _ _ (by omega) (by omega)).symm.trans j6, fun i hi => (nn _ _ (by omega) (by omega)).symm.trans (j7 i hi)⟩
    cases I with
    | none => exact (nn _ _ (by omega) (by omega)).symm.trans j3
    | some I =>
      obtain ⟨i1, i2, i3, i4⟩ := j3
      have e48 : hI g 48 = hI (uF (uF g 42 (hI h 42)) 43 (hI h 43)) 48 := funext fun k => (nn _ _ (by omega) (by omega)).symm
      exact ⟨(nn _ _ (by omega) (by omega)).symm.trans i1, by rw [e48]; exact i2, i3.fr (fun k => (nn _ _ (by omega) (by omega)).symm) (funext fun k => (nn _ _ (by omega) (by omega)).symm), nv 51 I.2.2 at51 i4⟩
  exact k3
/-- behind keep: the town as it was, the acts with it -/
theorem kp_ok {h : Hp} {c fs fr F : Nat} {x : Int32} {S : Sx} (W : WS S) (K : KB h c fs fr x (sC S) (sT S)) (R : KR h (sC S) (sA S) (sQ S) (sM S) (sP S) (sF S) (sR S)) (hF : AI h 42 F (sA S).length ∧ ∀ i, i < (sA S).length → PKr (hI h 43) (19 * ((F + i) % 40)) (sC S) ((sA S).getD i T00)) :
    KB (kpH h 42 30 F (sA S).length) c fs fr x (sC S) (sT S) ∧ KR (kpH h 42 30 F (sA S).length) (sC S) (keepL (sA S) (sT S)) (sQ S) (sM S) (sP S) (sF S) (sR S) := by
  have F1 := fr_kp (h := h) (F := F) (M := (sA S).length)
  exact ⟨K.fr F1.1 F1.2.1 (fun a k q => F1.2.2.2 a k (by omega)), R.acts (AVr.keep W.1 K.2.1 W.2.1.1 hF.1 hF.2) (fun a k q => F1.2.2.2 a k (by omega))⟩
theorem KB.po {h : Hp} {c fs fr t : Nat} {x z : Int32} {C : Cy} {T : Tn} (K : KB h c fs fr z C T) (hx : x = -1 ∨ ∃ w, w < cP C ∧ x = nI w) : KB (uI (uI h 36 t x) 37 t 0) c fs fr z C (poT x t T) := by
  obtain ⟨h1, h2, h3⟩ := K
  have hc := h2.hc.1
  exact ⟨h1, h2.po hx, fun p hp => by rw [hI_uI_ne (by rcases hc with rfl | rfl <;> omega), hI_uI_ne (by rcases hc with rfl | rfl <;> omega)]; exact h3 p hp⟩
theorem KR.town {h g : Hp} {C : Cy} {A : List Tn} {Q : Nt} {I : Option (Tn × List Tn × Nt)} {P : Nat × (Nat → Nat)} {f : Int32} {R : Nat → Int32} (K : KR h C A Q I P f R) (F : FrT 30 h g ∨ ∃ a k v, 33 ≤ a ∧ a ≤ 34 ∧ g = uI h a k v) : KR g C A Q I P f R := by
  refine K.eq (fun a k q => ?_)
  rcases F with F | ⟨b, j, v, h1, h2, rfl⟩
  · exact F.2.2.2 a k (by unfold Tt; omega)
  · exact hI_uI_ne (by omega)
def oSteal (S : Sx) (x y : Int32) : Sa := ndS (okX (cP (sC S)) x) S (ndS (okX (cN (sC S)) y) S (if tO (sT S) y.toNatClampNeg = x ∨ tB (sT S) y.toNatClampNeg = x then (0, -2, rfS 1 S) else (0, tB (sT S) y.toNatClampNeg, kpS S (poT x y.toNatClampNeg (sT S)))))
theorem k_steal {l : Launch} {d : Nat} {x y : Int32} {S : Sx} {h : Hp} (hl : l.stackTraces = false) (W : WS S) (K : KI h S) : Ka l (d + 7) mX9_steal [.ref 0, .int x, .int y] h (oSteal S x y) := by
  have K0 := K
  obtain ⟨c, c', fs, fr, z, h0, ⟨hbc, H, hv⟩, R⟩ := K
  obtain ⟨F, hF⟩ := id R.1
  obtain ⟨hc, -, hS⟩ := H.hc
  have hpe := H.1.1.2.2.2.2.2.2.1
  have hth := H.1.1.2.2.2.2.1
  have hP := W.1.1.2.1
  have hN1 := W.1.1.1
  refine run_lv [some (.ref 0), some (.int x), some (.int y), none] (go := ?_)
  unfold oSteal
  refine go_aloadn dX9_steal_0 rfl ?_
  refine go_iloadn dX9_steal_1 rfl ?_
  refine sg_naV (M' := mX9_needPerson) ([.int x]) dX9_steal_2 lX9_165 vX9_needPerson (wo_L rfl) (by decide) rfl hS (r_needPerson hl hS hc hbc hpe).1 (r_needPerson hl hS hc hbc hpe).2 K0 (by decide) rfl rfl (Nat.le_of_ble_eq_true rfl) (fun k2 => ?_)
  refine go_aloadn dX9_steal_5 rfl ?_
  refine go_iloadn dX9_steal_6 rfl ?_
  refine sg_naV (M' := mX9_needThing) ([.int y]) dX9_steal_7 lX9_196 vX9_needThing (wo_L rfl) (by decide) rfl hS (r_needThing hl hS hc hbc hth).1 (r_needThing hl hS hc hbc hth).2 K0 (by decide) rfl rfl (Nat.le_of_ble_eq_true rfl) (fun k7 => ?_)
  obtain ⟨p, hp, rfl⟩ := ok_nI (by omega) k2
  obtain ⟨t, ht, rfl⟩ := ok_nI (by omega) k7
  have e0 : (nI t).toNatClampNeg = t := cl_nI (by omega)
  rw [e0]
  refine go_aloadn dX9_steal_10 rfl ?_
  refine sg_getR dX9_steal_11 fX9_41 rfl (wo_L rfl) hS (wo_r7 hS rfl) ?_
  refine go_iloadn dX9_steal_14 rfl ?_
  refine go_iloadn dX9_steal_15 rfl ?_
  refine sg_cVi (M' := mX6_maySteal) ([.int (nI p), .int (nI t)]) dX9_steal_16 lX9_225 vX6_maySteal (tw_L (at30)) (by decide) rfl hS (r_maySteal H.1.1 (vp_in_nI (by omega) (by decide))) rfl (Nat.le_of_ble_eq_true rfl) (Nat.zero_le _) (Nat.zero_le _) ?_
  skip
  rw [e0, (H.2.2.1 t ht).1, (H.2.2.1 t ht).2.1]
  by_cases q : tO (sT S) t = nI p ∨ tB (sT S) t = nI p
  · have q' : tO (sX z (sT S)) t = nI p ∨ tB (sX z (sT S)) t = nI p := q
    rw [if_pos q, if_pos q']
    refine go_if_ne (tgt := 30) dX9_steal_19 (by decide) (fun c19 => absurd rfl c19) (fun c19 => ?_)
    refine go_aloadn dX9_steal_22 rfl ?_
    refine go_iconst (v := 1) dX9_steal_23 rfl ?_
    refine go_bipush (v := -2) dX9_steal_24 rfl ?_
    refine sg_cVi (M' := mX9_refuse) ([.int (nI 1), .int (-2)]) dX9_steal_26 lX9_119 vX9_refuse (wo_L rfl) (by decide) rfl hS (r_refuse hS (by decide)) rfl (Nat.le_of_ble_eq_true rfl) (Nat.zero_le _) (Nat.zero_le _) ?_
    refine go_ireturn dX9_steal_29 rfl rfl (Nat.zero_le _) (Nat.zero_le _) ?_
    exact ⟨⟨rfl, rfl⟩, K0.rf (by decide), Fw.rf.uI (by decide)⟩
  · have q' : ¬ (tO (sX z (sT S)) t = nI p ∨ tB (sX z (sT S)) t = nI p) := q
    rw [if_neg q, if_neg q']
    obtain ⟨K1, R1⟩ := kp_ok W ⟨hbc, H, hv⟩ R hF
    refine go_if_ne (tgt := 30) dX9_steal_19 (by decide) (fun c19 => ?_) (fun c19 => absurd c19 (by decide))
    refine go_aloadn dX9_steal_30 rfl ?_
    refine sg_getR dX9_steal_31 fX9_48 rfl (wo_L rfl) hS (wo_r8 hS rfl) ?_
    refine go_aloadn dX9_steal_34 rfl ?_
    refine sg_getR dX9_steal_35 fX9_41 rfl (wo_L rfl) hS (wo_r7 hS rfl) ?_
    refine sg_cV0 (M' := mX0_keep) ([.ref 30]) dX9_steal_38 lX9_217 vX0_keep (ac_L (at42)) (by decide) rfl hS (r_keep hS at42 at30 hF.1) rfl (Nat.le_of_ble_eq_true rfl) (Nat.zero_le _) (Nat.zero_le _) ?_
    have hS := K1.2.1.hc.2.2
    refine go_aloadn dX9_steal_41 rfl ?_
    refine sg_getR dX9_steal_42 fX9_41 rfl (wo_L rfl) hS (wo_r7 hS rfl) ?_
    refine sg_getR dX9_steal_45 fX9_208 rfl (tw_L (at30)) hS (tw_r8 hS (at30)) ?_
    refine go_iloadn dX9_steal_48 rfl ?_
    refine sg_ialdN (i := t) dX9_steal_49 (tw_8 (at30)) hS (by simp only [lit_nI, nI_add, pk_mul, Nat.add_assoc, Nat.zero_add, Nat.add_zero]) (by omega) ((K1.2.1.2.2.1 t ht).2.1) ?_
    refine go_ist3 dX9_steal_50 rfl ?_
    refine go_aloadn dX9_steal_51 rfl ?_
    refine sg_getR dX9_steal_52 fX9_41 rfl (wo_L rfl) hS (wo_r7 hS rfl) ?_
    refine go_iloadn dX9_steal_55 rfl ?_
    refine go_iloadn dX9_steal_56 rfl ?_
    refine sg_cV0 (M' := mX6_putOn) ([.int (nI p), .int (nI t)]) dX9_steal_57 lX9_229 vX6_putOn (tw_L (at30)) (by decide) rfl hS (r_putOn hS at30 (vp_in_nI (by omega) (by decide))) rfl (Nat.le_of_ble_eq_true rfl) (Nat.zero_le _) (Nat.zero_le _) ?_
    refine go_iloadn dX9_steal_60 rfl ?_
    refine go_ireturn dX9_steal_61 rfl rfl (Nat.zero_le _) (Nat.zero_le _) ?_
    exact ⟨⟨rfl, rfl⟩, ⟨c, c', fs, fr, z, ⟨h0.1, h0.2.1, by rw [show hR (uI (uI (kpH h 42 30 F (sA S).length) (30 + 6) (nI t).toNatClampNeg (nI p)) (30 + 7) (nI t).toNatClampNeg 0) = hR h from fr_kp.1]; exact h0.2.2⟩, by rw [e0]; exact K1.po (Or.inr ⟨p, hp, rfl⟩), by rw [e0]; exact R1.town (Or.inl ((FrT.rf.uI (tt_i (by omega))).uI (tt_i (by omega))))⟩, ((Fw.fr (fr_kp (F := F)) (fun a q => by omega)).uI (by decide)).uI (by decide)⟩

def oBack (S : Sx) (y : Int32) : Sa := ndS (okX (cN (sC S)) y) S (if tB (sT S) y.toNatClampNeg = -1 then (0, -1, rfS 1 S) else (0, tS (sT S) y.toNatClampNeg, kpS S (poT (-1) y.toNatClampNeg (sT S))))
theorem k_back {l : Launch} {d : Nat} {y : Int32} {S : Sx} {h : Hp} (hl : l.stackTraces = false) (W : WS S) (K : KI h S) : Ka l (d + 7) mX9_back [.ref 0, .int y] h (oBack S y) := by
  have K0 := K
  obtain ⟨c, c', fs, fr, z, h0, ⟨hbc, H, hv⟩, R⟩ := K
  obtain ⟨F, hF⟩ := id R.1
  obtain ⟨hc, -, hS⟩ := H.hc
  have hth := H.1.1.2.2.2.2.1
  have hN1 := W.1.1.1
  obtain ⟨K1, R1⟩ := kp_ok W ⟨hbc, H, hv⟩ R hF
  refine run_lv [some (.ref 0), some (.int y), none] (go := ?_)
  unfold oBack
  refine go_aloadn dX9_back_0 rfl ?_
  refine go_iloadn dX9_back_1 rfl ?_
  refine sg_naV (M' := mX9_needThing) ([.int y]) dX9_back_2 lX9_196 vX9_needThing (wo_L rfl) (by decide) rfl hS (r_needThing hl hS hc hbc hth).1 (r_needThing hl hS hc hbc hth).2 K0 (by decide) rfl rfl (Nat.le_of_ble_eq_true rfl) (fun k2 => ?_)
  obtain ⟨t, ht, rfl⟩ := ok_nI (by omega) k2
  have e0 : (nI t).toNatClampNeg = t := cl_nI (by omega)
  rw [e0]
  refine go_aloadn dX9_back_5 rfl ?_
  refine sg_getR dX9_back_6 fX9_41 rfl (wo_L rfl) hS (wo_r7 hS rfl) ?_
  refine sg_getR dX9_back_9 fX9_208 rfl (tw_L (at30)) hS (tw_r8 hS (at30)) ?_
  refine go_iloadn dX9_back_12 rfl ?_
  refine sg_ialdN (i := t) (x := tB (sT S) t) dX9_back_13 (tw_8 (at30)) hS (by simp only [lit_nI, nI_add, pk_mul, Nat.add_assoc, Nat.zero_add, Nat.add_zero]) (by omega) ((H.2.2.1 t ht).2.1) ?_
  refine go_iconst (v := -1) dX9_back_14 rfl ?_
  refine go_icmp_ne (tgt := 25) dX9_back_15 (by decide) (fun c15 => ?_) (fun c15 => ?_)
  · rw [if_neg c15]
    refine go_aloadn dX9_back_25 rfl ?_
    refine sg_getR dX9_back_26 fX9_48 rfl (wo_L rfl) hS (wo_r8 hS rfl) ?_
    refine go_aloadn dX9_back_29 rfl ?_
    refine sg_getR dX9_back_30 fX9_41 rfl (wo_L rfl) hS (wo_r7 hS rfl) ?_
    refine sg_cV0 (M' := mX0_keep) ([.ref 30]) dX9_back_33 lX9_217 vX0_keep (ac_L (at42)) (by decide) rfl hS (r_keep hS at42 at30 hF.1) rfl (Nat.le_of_ble_eq_true rfl) (Nat.zero_le _) (Nat.zero_le _) ?_
    have hS := K1.2.1.hc.2.2
    refine go_aloadn dX9_back_36 rfl ?_
    refine sg_getR dX9_back_37 fX9_41 rfl (wo_L rfl) hS (wo_r7 hS rfl) ?_
    refine sg_getR dX9_back_40 fX9_211 rfl (tw_L (at30)) hS (tw_r9 hS (at30)) ?_
    refine go_iloadn dX9_back_43 rfl ?_
    refine sg_ialdN (i := t) dX9_back_44 (tw_9 (at30)) hS (by simp only [lit_nI, nI_add, pk_mul, Nat.add_assoc, Nat.zero_add, Nat.add_zero]) (by omega) ((K1.2.1.2.2.1 t ht).2.2.1) ?_
    refine go_ist2 dX9_back_45 rfl ?_
    refine go_aloadn dX9_back_46 rfl ?_
    refine sg_getR dX9_back_47 fX9_41 rfl (wo_L rfl) hS (wo_r7 hS rfl) ?_
    refine go_iconst (v := -1) dX9_back_50 rfl ?_
    refine go_iloadn dX9_back_51 rfl ?_
    refine sg_cV0 (M' := mX6_putOn) ([.int (-1), .int (nI t)]) dX9_back_52 lX9_229 vX6_putOn (tw_L (at30)) (by decide) rfl hS (r_putOn hS at30 (vp_in_nI (by omega) (by decide))) rfl (Nat.le_of_ble_eq_true rfl) (Nat.zero_le _) (Nat.zero_le _) ?_
    refine go_iloadn dX9_back_55 rfl ?_
    refine go_ireturn dX9_back_56 rfl rfl (Nat.zero_le _) (Nat.zero_le _) ?_
    exact ⟨⟨rfl, rfl⟩, ⟨c, c', fs, fr, z, ⟨h0.1, h0.2.1, by rw [show hR (uI (uI (kpH h 42 30 F (sA S).length) (30 + 6) (nI t).toNatClampNeg (-1)) (30 + 7) (nI t).toNatClampNeg 0) = hR h from fr_kp.1]; exact h0.2.2⟩, by rw [e0]; exact K1.po (Or.inl rfl), by rw [e0]; exact R1.town (Or.inl ((FrT.rf.uI (tt_i (by omega))).uI (tt_i (by omega))))⟩, ((Fw.fr (fr_kp (F := F)) (fun a q => by omega)).uI (by decide)).uI (by decide)⟩
  · rw [if_pos (by first | exact c15 | exact Decidable.not_not.mp c15)]
    refine go_aloadn dX9_back_18 rfl ?_
    refine go_iconst (v := 1) dX9_back_19 rfl ?_
    refine go_iconst (v := -1) dX9_back_20 rfl ?_
    refine sg_cVi (M' := mX9_refuse) ([.int (nI 1), .int (-1)]) dX9_back_21 lX9_119 vX9_refuse (wo_L rfl) (by decide) rfl hS (r_refuse hS (by decide)) rfl (Nat.le_of_ble_eq_true rfl) (Nat.zero_le _) (Nat.zero_le _) ?_
    refine go_ireturn dX9_back_24 rfl rfl (Nat.zero_le _) (Nat.zero_le _) ?_
    exact ⟨⟨rfl, rfl⟩, K0.rf (by decide), Fw.rf.uI (by decide)⟩
def wkT (k : Nat) (v : Int32) (T : Tn) : Tn := (tD T, tC T, tO T, tB T, tS T, tX T, tH T, tV T, upd (tW T) k v)
def dyT (t : Nat) (v : Int32) (T : Tn) : Tn := (tD T, tC T, tO T, tB T, tS T, upd (tX T) t v, tH T, tV T, tW T)
theorem KB.wk {h : Hp} {c fs fr k : Nat} {v z : Int32} {C : Cy} {T : Tn} (K : KB h c fs fr z C T) (hv : vp_in v 6) : KB (uI h 33 k v) c fs fr z C (wkT k v T) := by
  obtain ⟨h1, h2, h3⟩ := K
  obtain ⟨⟨⟨t1, t2, t3, t4, t5, t6, t7, t8⟩, ⟨k1, k2⟩, U, Wr, hD, hDl⟩, hC, ⟨e1, e2, e3, e4⟩⟩ := h2
  have n30 : ∀ i, i ≤ 11 → i ≠ 3 → ∀ j, hI (uI h 33 k v) (30 + i) j = hI h (30 + i) j := fun i hi h3 j => hI_uI_ne (by omega)
  have nc : ∀ i, i ≤ 11 → ∀ j, hI (uI h 33 k v) (c + i) j = hI h (c + i) j := fun i hi j => hI_uI_ne (by rcases t3 with rfl | rfl <;> omega)
  refine ⟨h1, ⟨⟨⟨t1, t2, t3, t4, (nc 0 (by omega) 2).trans t5, t6, (nc 0 (by omega) 1).trans t7, t8⟩, ⟨fun p hp => by rw [nc 3 (by omega)]; exact k1 p hp, fun i hi => ?_⟩, ?_, fun t ht => by rw [n30 6 (by omega) (by omega)]; exact Wr t ht, (n30 0 (by omega) (by omega) 1).trans hD, hDl⟩, ?_, ⟨fun t ht => ?_, fun p hp => ?_, fun i hi => ?_, (n30 0 (by omega) (by omega) 2).trans e4⟩⟩, fun p hp => by rw [nc 1 (by omega)]; exact h3 p hp⟩
  · show vp_in (hI (uI h 33 k v) 33 i) 6
    rw [hI_uI]
    split
    · exact hv
    · exact k2 i hi
  · unfold RU; rw [nc 10 (by omega), nc 10 (by omega), nc 11 (by omega), nc 11 (by omega)]; exact U
  · obtain ⟨⟨g1, g2⟩, g3, g4, g5, g6⟩ := hC
    refine ⟨⟨(nc 0 (by omega) 0).trans g1, (nc 0 (by omega) 3).trans g2⟩, fun p hp => ?_, fun t ht => ?_, fun j hj => ?_, fun j hj => ?_⟩
    · rw [nc 2 (by omega), nc 3 (by omega)]; exact g3 p hp
    · rw [nc 5 (by omega)]; exact g4 t ht
    · rw [nc 9 (by omega)]; exact g5 j hj
    · rw [nc 9 (by omega)]; exact g6 j hj
  · rw [n30 5 (by omega) (by omega), n30 6 (by omega) (by omega), n30 7 (by omega) (by omega), n30 4 (by omega) (by omega)]; exact e1 t ht
  · rw [n30 2 (by omega) (by omega), n30 1 (by omega) (by omega)]; exact e2 p hp
  · show hI (uI h 33 k v) 33 i = upd (tW T) k v i
    rw [hI_uI]
    by_cases e : i = k
    · subst e; rw [if_pos ⟨rfl, rfl⟩, pk_us]
    · rw [if_neg (fun q => e q.2), pk_un e]; exact e3 i hi
theorem KB.dye {h : Hp} {c fs fr k : Nat} {v z : Int32} {C : Cy} {T : Tn} (K : KB h c fs fr z C T) : KB (uI h 34 k v) c fs fr z C (dyT k v T) := by
  obtain ⟨h1, h2, h3⟩ := K
  obtain ⟨⟨⟨t1, t2, t3, t4, t5, t6, t7, t8⟩, ⟨k1, k2⟩, U, Wr, hD, hDl⟩, hC, hE⟩ := h2
  have n30 : ∀ i, i ≤ 11 → i ≠ 4 → ∀ j, hI (uI h 34 k v) (30 + i) j = hI h (30 + i) j := fun i hi h3 j => hI_uI_ne (by omega)
  have nc : ∀ i, i ≤ 11 → ∀ j, hI (uI h 34 k v) (c + i) j = hI h (c + i) j := fun i hi j => hI_uI_ne (by rcases t3 with rfl | rfl <;> omega)
  refine ⟨h1, ⟨⟨⟨t1, t2, t3, t4, (nc 0 (by omega) 2).trans t5, t6, (nc 0 (by omega) 1).trans t7, t8⟩, ⟨fun p hp => by rw [nc 3 (by omega)]; exact k1 p hp, fun i hi => by rw [n30 3 (by omega) (by omega)]; exact k2 i hi⟩, ?_, fun t ht => by rw [n30 6 (by omega) (by omega)]; exact Wr t ht, (n30 0 (by omega) (by omega) 1).trans hD, hDl⟩, ?_, te_X hE⟩, fun p hp => by rw [nc 1 (by omega)]; exact h3 p hp⟩
  · unfold RU; rw [nc 10 (by omega), nc 10 (by omega), nc 11 (by omega), nc 11 (by omega)]; exact U
  · obtain ⟨⟨g1, g2⟩, g3, g4, g5, g6⟩ := hC
    refine ⟨⟨(nc 0 (by omega) 0).trans g1, (nc 0 (by omega) 3).trans g2⟩, fun p hp => ?_, fun t ht => ?_, fun j hj => ?_, fun j hj => ?_⟩
    · rw [nc 2 (by omega), nc 3 (by omega)]; exact g3 p hp
    · rw [nc 5 (by omega)]; exact g4 t ht
    · rw [nc 9 (by omega)]; exact g5 j hj
    · rw [nc 9 (by omega)]; exact g6 j hj
def oWalk (S : Sx) (x i v : Int32) : Sa := ndS (okX (cP (sC S)) x) S (ndS (okX (cWl (sC S) x.toNatClampNeg) i ∧ okX (cL (sC S)) v) S (if tW (sT S) (6 * x.toNatClampNeg + i.toNatClampNeg) = v then (0, -1, rfS 1 S) else (0, tW (sT S) (6 * x.toNatClampNeg + i.toNatClampNeg), kpS S (wkT (6 * x.toNatClampNeg + i.toNatClampNeg) v (sT S)))))
theorem k_walk {l : Launch} {d : Nat} {x i v : Int32} {S : Sx} {h : Hp} (hl : l.stackTraces = false) (W : WS S) (K : KI h S) : Ka l (d + 7) mX9_walk [.ref 0, .int x, .int i, .int v] h (oWalk S x i v) := by
  have K0 := K
  obtain ⟨c, c', fs, fr, z, h0, ⟨hbc, H, hv⟩, R⟩ := K
  obtain ⟨F, hF⟩ := id R.1
  obtain ⟨hc, -, hS⟩ := H.hc
  have hpe := H.1.1.2.2.2.2.2.2.1
  have hP := W.1.1.2.1
  have hL := W.1.1.2.2.2.1
  obtain ⟨K1, R1⟩ := kp_ok W ⟨hbc, H, hv⟩ R hF
  refine run_lv [some (.ref 0), some (.int x), some (.int i), some (.int v), none, none] (go := ?_)
  unfold oWalk
  refine go_aloadn dX9_walk_0 rfl ?_
  refine go_iloadn dX9_walk_1 rfl ?_
  refine sg_naV (M' := mX9_needPerson) ([.int x]) dX9_walk_2 lX9_165 vX9_needPerson (wo_L rfl) (by decide) rfl hS (r_needPerson hl hS hc hbc hpe).1 (r_needPerson hl hS hc hbc hpe).2 K0 (by decide) rfl rfl (Nat.le_of_ble_eq_true rfl) (fun k2 => ?_)
  skip
  obtain ⟨p, hp, rfl⟩ := ok_nI (by omega) k2
  have e0 : (nI p).toNatClampNeg = p := cl_nI (by omega)
  rw [e0]
  obtain ⟨w1, w6⟩ := W.1.2.1 p hp
  by_cases q : okX (cWl (sC S) p) i ∧ okX (cL (sC S)) v
  · rw [show ndS (okX (cWl (sC S) p) i ∧ okX (cL (sC S)) v) S _ = _ from if_pos q]
    obtain ⟨j, hj, rfl⟩ := ok_nI (by omega) q.1
    obtain ⟨y, hy, rfl⟩ := ok_nI (by omega) q.2
    rw [cl_nI (show j < 2 ^ 31 by omega)]
    have eW : hI h 33 (6 * p + j) = tW (sT S) (6 * p + j) := H.2.2.2.2.1 _ (by omega)
    by_cases q2 : tW (sT S) (6 * p + j) = nI y
    · rw [if_pos q2]
      refine go_iloadn dX9_walk_5 rfl ?_
      refine go_if_lt (tgt := 37) dX9_walk_6 (by decide) (fun c6 => absurd c6 (nI_pos (by omega))) (fun c6 => ?_)
      refine go_iloadn dX9_walk_9 rfl ?_
      refine go_aloadn dX9_walk_10 rfl ?_
      refine sg_getR dX9_walk_11 fX9_31 rfl (wo_L rfl) hS hbc ?_
      refine sg_getR dX9_walk_14 fX9_232 rfl (ct_L hc) hS (ct_r6 hS hc) ?_
      refine go_iloadn dX9_walk_17 rfl ?_
      refine sg_ialdN (i := p) dX9_walk_18 (ct_6 hc) hS (by simp only [lit_nI, nI_add, pk_mul, Nat.add_assoc, Nat.zero_add, Nat.add_zero]) (by omega) ((H.2.1.2.1 p hp).2) ?_
      refine go_icmp_ge (tgt := 37) dX9_walk_19 (by decide) (fun c19 => absurd c19 (nI_ge hj (by omega))) (fun c19 => ?_)
      refine go_iloadn dX9_walk_22 rfl ?_
      refine go_if_lt (tgt := 37) dX9_walk_23 (by decide) (fun c23 => absurd c23 (nI_pos (by omega))) (fun c23 => ?_)
      refine go_iloadn dX9_walk_26 rfl ?_
      refine go_aloadn dX9_walk_27 rfl ?_
      refine sg_getR dX9_walk_28 fX9_31 rfl (wo_L rfl) hS hbc ?_
      refine sg_getI dX9_walk_31 fX9_135 rfl (ct_L hc) hS ?_
      rw [H.2.1.1.1]
      refine go_icmp_lt (tgt := 45) dX9_walk_34 (by decide) (fun c34 => ?_) (fun c34 => absurd (nI_lt hy (by omega)) c34)
      refine go_iloadn dX9_walk_45 rfl ?_
      refine go_bipush (v := 6) dX9_walk_46 rfl ?_
      refine go_imul dX9_walk_48 ?_
      refine go_iloadn dX9_walk_49 rfl ?_
      refine go_iadd dX9_walk_50 ?_
      rw [show nI p * 6 + nI j = nI (6 * p + j) from by rw [show (6 : Int32) = nI 6 from rfl, pk_mul, nI_add, Nat.mul_comm]]
      refine go_ist4 dX9_walk_51 rfl ?_
      refine go_aloadn dX9_walk_53 rfl ?_
      refine sg_getR dX9_walk_54 fX9_41 rfl (wo_L rfl) hS (wo_r7 hS rfl) ?_
      refine sg_getR dX9_walk_57 fX9_238 rfl (tw_L (at30)) hS (tw_r5 hS (at30)) ?_
      refine go_iload dX9_walk_60 rfl ?_
      refine sg_ialdN (i := 6 * p + j) dX9_walk_62 (tw_5 (at30)) hS (by simp only [lit_nI, nI_add, pk_mul, Nat.add_assoc, Nat.zero_add, Nat.add_zero]) (by omega) (eW) ?_
      refine go_ist5 dX9_walk_63 rfl ?_
      refine go_iload dX9_walk_65 rfl ?_
      refine go_iloadn dX9_walk_67 rfl ?_
      refine go_icmp_ne (tgt := 78) dX9_walk_68 (by decide) (fun c68 => absurd q2 c68) (fun c68 => ?_)
      refine go_aloadn dX9_walk_71 rfl ?_
      refine go_iconst (v := 1) dX9_walk_72 rfl ?_
      refine go_iconst (v := -1) dX9_walk_73 rfl ?_
      refine sg_cVi (M' := mX9_refuse) ([.int (nI 1), .int (-1)]) dX9_walk_74 lX9_119 vX9_refuse (wo_L rfl) (by decide) rfl hS (r_refuse hS (by decide)) rfl (Nat.le_of_ble_eq_true rfl) (Nat.zero_le _) (Nat.zero_le _) ?_
      refine go_ireturn dX9_walk_77 rfl rfl (Nat.zero_le _) (Nat.zero_le _) ?_
      exact ⟨⟨rfl, rfl⟩, K0.rf (by decide), Fw.rf.uI (by decide)⟩
    · rw [if_neg q2]
      refine go_iloadn dX9_walk_5 rfl ?_
      refine go_if_lt (tgt := 37) dX9_walk_6 (by decide) (fun c6 => absurd c6 (nI_pos (by omega))) (fun c6 => ?_)
      refine go_iloadn dX9_walk_9 rfl ?_
      refine go_aloadn dX9_walk_10 rfl ?_
      refine sg_getR dX9_walk_11 fX9_31 rfl (wo_L rfl) hS hbc ?_
      refine sg_getR dX9_walk_14 fX9_232 rfl (ct_L hc) hS (ct_r6 hS hc) ?_
      refine go_iloadn dX9_walk_17 rfl ?_
      refine sg_ialdN (i := p) dX9_walk_18 (ct_6 hc) hS (by simp only [lit_nI, nI_add, pk_mul, Nat.add_assoc, Nat.zero_add, Nat.add_zero]) (by omega) ((H.2.1.2.1 p hp).2) ?_
      refine go_icmp_ge (tgt := 37) dX9_walk_19 (by decide) (fun c19 => absurd c19 (nI_ge hj (by omega))) (fun c19 => ?_)
      refine go_iloadn dX9_walk_22 rfl ?_
      refine go_if_lt (tgt := 37) dX9_walk_23 (by decide) (fun c23 => absurd c23 (nI_pos (by omega))) (fun c23 => ?_)
      refine go_iloadn dX9_walk_26 rfl ?_
      refine go_aloadn dX9_walk_27 rfl ?_
      refine sg_getR dX9_walk_28 fX9_31 rfl (wo_L rfl) hS hbc ?_
      refine sg_getI dX9_walk_31 fX9_135 rfl (ct_L hc) hS ?_
      rw [H.2.1.1.1]
      refine go_icmp_lt (tgt := 45) dX9_walk_34 (by decide) (fun c34 => ?_) (fun c34 => absurd (nI_lt hy (by omega)) c34)
      refine go_iloadn dX9_walk_45 rfl ?_
      refine go_bipush (v := 6) dX9_walk_46 rfl ?_
      refine go_imul dX9_walk_48 ?_
      refine go_iloadn dX9_walk_49 rfl ?_
      refine go_iadd dX9_walk_50 ?_
      rw [show nI p * 6 + nI j = nI (6 * p + j) from by rw [show (6 : Int32) = nI 6 from rfl, pk_mul, nI_add, Nat.mul_comm]]
      refine go_ist4 dX9_walk_51 rfl ?_
      refine go_aloadn dX9_walk_53 rfl ?_
      refine sg_getR dX9_walk_54 fX9_41 rfl (wo_L rfl) hS (wo_r7 hS rfl) ?_
      refine sg_getR dX9_walk_57 fX9_238 rfl (tw_L (at30)) hS (tw_r5 hS (at30)) ?_
      refine go_iload dX9_walk_60 rfl ?_
      refine sg_ialdN (i := 6 * p + j) dX9_walk_62 (tw_5 (at30)) hS (by simp only [lit_nI, nI_add, pk_mul, Nat.add_assoc, Nat.zero_add, Nat.add_zero]) (by omega) (eW) ?_
      refine go_ist5 dX9_walk_63 rfl ?_
      refine go_iload dX9_walk_65 rfl ?_
      refine go_iloadn dX9_walk_67 rfl ?_
      refine go_icmp_ne (tgt := 78) dX9_walk_68 (by decide) (fun c68 => ?_) (fun c68 => absurd c68 q2)
      refine go_aloadn dX9_walk_78 rfl ?_
      refine sg_getR dX9_walk_79 fX9_48 rfl (wo_L rfl) hS (wo_r8 hS rfl) ?_
      refine go_aloadn dX9_walk_82 rfl ?_
      refine sg_getR dX9_walk_83 fX9_41 rfl (wo_L rfl) hS (wo_r7 hS rfl) ?_
      refine sg_cV0 (M' := mX0_keep) ([.ref 30]) dX9_walk_86 lX9_217 vX0_keep (ac_L (at42)) (by decide) rfl hS (r_keep hS at42 at30 hF.1) rfl (Nat.le_of_ble_eq_true rfl) (Nat.zero_le _) (Nat.zero_le _) ?_
      have hS := K1.2.1.hc.2.2
      refine go_aloadn dX9_walk_89 rfl ?_
      refine sg_getR dX9_walk_90 fX9_41 rfl (wo_L rfl) hS (wo_r7 hS rfl) ?_
      refine sg_getR dX9_walk_93 fX9_238 rfl (tw_L (at30)) hS (tw_r5 hS (at30)) ?_
      refine go_iload dX9_walk_96 rfl ?_
      refine go_iloadn dX9_walk_98 rfl ?_
      refine sg_iastN (i := 6 * p + j) dX9_walk_99 (tw_5 (at30)) hS (by simp only [lit_nI, nI_add, pk_mul, Nat.add_assoc, Nat.zero_add, Nat.add_zero]) (by omega) ?_
      refine go_iload dX9_walk_100 rfl ?_
      refine go_ireturn dX9_walk_102 rfl rfl (Nat.zero_le _) (Nat.zero_le _) ?_
      exact ⟨⟨rfl, rfl⟩, ⟨c, c', fs, fr, z, ⟨h0.1, h0.2.1, by rw [show hR (uI (kpH h 42 30 F (sA S).length) 33 (6 * p + j) (nI y)) = hR h from fr_kp.1]; exact h0.2.2⟩, K1.wk (vp_in_nI (by omega) (by decide)), R1.town (Or.inr ⟨33, _, _, by omega, by omega, rfl⟩)⟩, (Fw.fr (fr_kp (F := F)) (fun a q => by omega)).uI (by decide)⟩
  · rw [show ndS (okX (cWl (sC S) p) i ∧ okX (cL (sC S)) v) S _ = _ from if_neg q]
    refine go_iloadn dX9_walk_5 rfl ?_
    refine go_if_lt (tgt := 37) dX9_walk_6 (by decide) (fun c6 => ?_) (fun c6 => ?_)
    · exact go_throwN hl rfl (by decide) rfl dX9_walk_37 dX9_walk_40 dX9_walk_41 dX9_walk_44 (Nat.le_of_ble_eq_true rfl) (by simp only [rmOf]; omega) (by simp only [rmOf]; omega) (Nat.le_refl _) (Nat.le_refl _) (Nat.le_refl _) (Nat.le_refl _) hS.1 ⟨⟨rfl, rfl⟩, K0, Fw.rf⟩
    · refine go_iloadn dX9_walk_9 rfl ?_
      refine go_aloadn dX9_walk_10 rfl ?_
      refine sg_getR dX9_walk_11 fX9_31 rfl (wo_L rfl) hS hbc ?_
      refine sg_getR dX9_walk_14 fX9_232 rfl (ct_L hc) hS (ct_r6 hS hc) ?_
      refine go_iloadn dX9_walk_17 rfl ?_
      refine sg_ialdN (i := p) dX9_walk_18 (ct_6 hc) hS (by simp only [lit_nI, nI_add, pk_mul, Nat.add_assoc, Nat.zero_add, Nat.add_zero]) (by omega) ((H.2.1.2.1 p hp).2) ?_
      refine go_icmp_ge (tgt := 37) dX9_walk_19 (by decide) (fun c19 => ?_) (fun c19 => ?_)
      · exact go_throwN hl rfl (by decide) rfl dX9_walk_37 dX9_walk_40 dX9_walk_41 dX9_walk_44 (Nat.le_of_ble_eq_true rfl) (by simp only [rmOf]; omega) (by simp only [rmOf]; omega) (Nat.le_refl _) (Nat.le_refl _) (Nat.le_refl _) (Nat.le_refl _) hS.1 ⟨⟨rfl, rfl⟩, K0, Fw.rf⟩
      · refine go_iloadn dX9_walk_22 rfl ?_
        refine go_if_lt (tgt := 37) dX9_walk_23 (by decide) (fun c23 => ?_) (fun c23 => ?_)
        · exact go_throwN hl rfl (by decide) rfl dX9_walk_37 dX9_walk_40 dX9_walk_41 dX9_walk_44 (Nat.le_of_ble_eq_true rfl) (by simp only [rmOf]; omega) (by simp only [rmOf]; omega) (Nat.le_refl _) (Nat.le_refl _) (Nat.le_refl _) (Nat.le_refl _) hS.1 ⟨⟨rfl, rfl⟩, K0, Fw.rf⟩
        · refine go_iloadn dX9_walk_26 rfl ?_
          refine go_aloadn dX9_walk_27 rfl ?_
          refine sg_getR dX9_walk_28 fX9_31 rfl (wo_L rfl) hS hbc ?_
          refine sg_getI dX9_walk_31 fX9_135 rfl (ct_L hc) hS ?_
          rw [H.2.1.1.1]
          refine go_icmp_lt (tgt := 45) dX9_walk_34 (by decide) (fun c34 => absurd ⟨⟨Int32.not_lt.mp c6, Int32.not_le.mp c19⟩, Int32.not_lt.mp c23, c34⟩ q) (fun c34 => ?_)
          exact go_throwN hl rfl (by decide) rfl dX9_walk_37 dX9_walk_40 dX9_walk_41 dX9_walk_44 (Nat.le_of_ble_eq_true rfl) (by simp only [rmOf]; omega) (by simp only [rmOf]; omega) (Nat.le_refl _) (Nat.le_refl _) (Nat.le_refl _) (Nat.le_refl _) hS.1 ⟨⟨rfl, rfl⟩, K0, Fw.rf⟩
def oDye (S : Sx) (y v : Int32) : Sa := ndS (okX (cN (sC S)) y) S (if 0 ≤ v ∧ v ≤ 9 then (0, tX (sT S) y.toNatClampNeg, kpS S (dyT y.toNatClampNeg v (sT S))) else (0, -1, rfS 1 S))
theorem k_dye {l : Launch} {d : Nat} {y v : Int32} {S : Sx} {h : Hp} (hl : l.stackTraces = false) (W : WS S) (K : KI h S) : Ka l (d + 7) mX9_dye [.ref 0, .int y, .int v] h (oDye S y v) := by
  have K0 := K
  obtain ⟨c, c', fs, fr, z, h0, ⟨hbc, H, hv⟩, R⟩ := K
  obtain ⟨F, hF⟩ := id R.1
  obtain ⟨hc, -, hS⟩ := H.hc
  have hth := H.1.1.2.2.2.2.1
  have hN1 := W.1.1.1
  obtain ⟨K1, R1⟩ := kp_ok W ⟨hbc, H, hv⟩ R hF
  refine run_lv [some (.ref 0), some (.int y), some (.int v), none] (go := ?_)
  unfold oDye
  refine go_aloadn dX9_dye_0 rfl ?_
  refine go_iloadn dX9_dye_1 rfl ?_
  refine sg_naV (M' := mX9_needThing) ([.int y]) dX9_dye_2 lX9_196 vX9_needThing (wo_L rfl) (by decide) rfl hS (r_needThing hl hS hc hbc hth).1 (r_needThing hl hS hc hbc hth).2 K0 (by decide) rfl rfl (Nat.le_of_ble_eq_true rfl) (fun k2 => ?_)
  obtain ⟨t, ht, rfl⟩ := ok_nI (by omega) k2
  have e0 : (nI t).toNatClampNeg = t := cl_nI (by omega)
  rw [e0]
  refine go_iloadn dX9_dye_5 rfl ?_
  refine go_if_lt (tgt := 15) dX9_dye_6 (by decide) (fun c6 => ?_) (fun c6 => ?_)
  · rw [if_neg (fun q => by first | exact absurd c6 (Int32.not_lt.mpr q.1) | exact c12 q.2)]
    refine go_aloadn dX9_dye_15 rfl ?_
    refine go_iconst (v := 1) dX9_dye_16 rfl ?_
    refine go_iconst (v := -1) dX9_dye_17 rfl ?_
    refine sg_cVi (M' := mX9_refuse) ([.int (nI 1), .int (-1)]) dX9_dye_18 lX9_119 vX9_refuse (wo_L rfl) (by decide) rfl hS (r_refuse hS (by decide)) rfl (Nat.le_of_ble_eq_true rfl) (Nat.zero_le _) (Nat.zero_le _) ?_
    refine go_ireturn dX9_dye_21 rfl rfl (Nat.zero_le _) (Nat.zero_le _) ?_
    exact ⟨⟨rfl, rfl⟩, K0.rf (by decide), Fw.rf.uI (by decide)⟩
  · refine go_iloadn dX9_dye_9 rfl ?_
    refine go_bipush (v := 9) dX9_dye_10 rfl ?_
    refine go_icmp_le (tgt := 22) dX9_dye_12 (by decide) (fun c12 => ?_) (fun c12 => ?_)
    · rw [if_pos ⟨Int32.not_lt.mp c6, c12⟩]
      refine go_aloadn dX9_dye_22 rfl ?_
      refine sg_getR dX9_dye_23 fX9_48 rfl (wo_L rfl) hS (wo_r8 hS rfl) ?_
      refine go_aloadn dX9_dye_26 rfl ?_
      refine sg_getR dX9_dye_27 fX9_41 rfl (wo_L rfl) hS (wo_r7 hS rfl) ?_
      refine sg_cV0 (M' := mX0_keep) ([.ref 30]) dX9_dye_30 lX9_217 vX0_keep (ac_L (at42)) (by decide) rfl hS (r_keep hS at42 at30 hF.1) rfl (Nat.le_of_ble_eq_true rfl) (Nat.zero_le _) (Nat.zero_le _) ?_
      have hS := K1.2.1.hc.2.2
      refine go_aloadn dX9_dye_33 rfl ?_
      refine sg_getR dX9_dye_34 fX9_41 rfl (wo_L rfl) hS (wo_r7 hS rfl) ?_
      refine sg_getR dX9_dye_37 fX9_202 rfl (tw_L (at30)) hS (tw_r6 hS (at30)) ?_
      refine go_iloadn dX9_dye_40 rfl ?_
      refine sg_ialdN (i := t) dX9_dye_41 (tw_6 (at30)) hS (by simp only [lit_nI, nI_add, pk_mul, Nat.add_assoc, Nat.zero_add, Nat.add_zero]) (by omega) ((K1.2.1.2.2.1 t ht).2.2.2) ?_
      refine go_ist3 dX9_dye_42 rfl ?_
      refine go_aloadn dX9_dye_43 rfl ?_
      refine sg_getR dX9_dye_44 fX9_41 rfl (wo_L rfl) hS (wo_r7 hS rfl) ?_
      refine sg_getR dX9_dye_47 fX9_202 rfl (tw_L (at30)) hS (tw_r6 hS (at30)) ?_
      refine go_iloadn dX9_dye_50 rfl ?_
      refine go_iloadn dX9_dye_51 rfl ?_
      refine sg_iastN (i := t) dX9_dye_52 (tw_6 (at30)) hS (by simp only [lit_nI, nI_add, pk_mul, Nat.add_assoc, Nat.zero_add, Nat.add_zero]) (by omega) ?_
      refine go_iloadn dX9_dye_53 rfl ?_
      refine go_ireturn dX9_dye_54 rfl rfl (Nat.zero_le _) (Nat.zero_le _) ?_
      exact ⟨⟨rfl, rfl⟩, ⟨c, c', fs, fr, z, ⟨h0.1, h0.2.1, by rw [show hR (uI (kpH h 42 30 F (sA S).length) 34 t v) = hR h from fr_kp.1]; exact h0.2.2⟩, K1.dye, R1.town (Or.inr ⟨34, _, _, by omega, by omega, rfl⟩)⟩, (Fw.fr (fr_kp (F := F)) (fun a q => by omega)).uI (by decide)⟩
    · rw [if_neg (fun q => by first | exact absurd c6 (Int32.not_lt.mpr q.1) | exact c12 q.2)]
      refine go_aloadn dX9_dye_15 rfl ?_
      refine go_iconst (v := 1) dX9_dye_16 rfl ?_
      refine go_iconst (v := -1) dX9_dye_17 rfl ?_
      refine sg_cVi (M' := mX9_refuse) ([.int (nI 1), .int (-1)]) dX9_dye_18 lX9_119 vX9_refuse (wo_L rfl) (by decide) rfl hS (r_refuse hS (by decide)) rfl (Nat.le_of_ble_eq_true rfl) (Nat.zero_le _) (Nat.zero_le _) ?_
      refine go_ireturn dX9_dye_21 rfl rfl (Nat.zero_le _) (Nat.zero_le _) ?_
      exact ⟨⟨rfl, rfl⟩, K0.rf (by decide), Fw.rf.uI (by decide)⟩
