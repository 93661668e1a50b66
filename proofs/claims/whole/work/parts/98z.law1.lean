/-! the law: what either side leaves of the other -/
def Fq7 (h g : Hp) : Prop := hR g = hR h ∧ hN g = hN h ∧ ∀ a k, a < 77 → hI g a k = hI h a k
theorem Fq7.fj {h g : Hp} (F : Fj SA h g) : Fq7 h g := ⟨F.1, F.2.1, fun a k q => F.2.2.2 a k (fun z => by unfold SA at z; omega)⟩
theorem Fq7.uJ {h : Hp} {a k : Nat} {v : Int64} : Fq7 h (uJ h a k v) := ⟨rfl, rfl, fun _ _ _ => rfl⟩
theorem Fq7.St {h g : Hp} (F : Fq7 h g) (hS : St h) : St g := ⟨F.2.1.trans hS.1, fun q hq => by rw [F.1]; exact hS.2 q hq⟩
theorem c7_lt {c i : Nat} (hc : CityAt c) (hi : i ≤ 11) : c + i < 77 := by rcases hc with rfl | rfl <;> omega
theorem CC.q7 {h g : Hp} {c fs fr : Nat} {C : Cy} (H : CC h c fs fr C) (hc : CityAt c) (F : Fq7 h g) : CC g c fs fr C := by
  obtain ⟨⟨h1, h2⟩, h3, h4, h5, h6⟩ := H
  have e : ∀ i, i ≤ 11 → ∀ k, hI g (c + i) k = hI h (c + i) k := fun i hi k => F.2.2 _ _ (c7_lt hc hi)
  refine ⟨⟨(e 0 (by omega) 0).trans h1, (e 0 (by omega) 3).trans h2⟩, fun p hp => ?_, fun t ht => ?_, fun j hj => ?_, fun j hj => ?_⟩
  · rw [e 2 (by omega), e 3 (by omega)]; exact h3 p hp
  · rw [e 5 (by omega)]; exact h4 t ht
  · rw [e 9 (by omega)]; exact h5 j hj
  · rw [e 9 (by omega)]; exact h6 j hj
theorem RU.q7 {h g : Hp} {c fs ns fr nr : Nat} (H : RU h c fs ns fr nr) (hc : CityAt c) (F : Fq7 h g) : RU g c fs ns fr nr := by
  unfold RU
  have e : ∀ i, i ≤ 11 → ∀ k, hI g (c + i) k = hI h (c + i) k := fun i hi k => F.2.2 _ _ (c7_lt hc hi)
  rw [e 10 (by omega), e 10 (by omega), e 11 (by omega), e 11 (by omega)]
  exact H
theorem TV.q7 {h g : Hp} {c fs fr : Nat} {C : Cy} {T : Tn} (H : TV h 30 c fs fr C T) (F : Fq7 h g) : TV g 30 c fs fr C T := by
  obtain ⟨⟨⟨h1, h2, h3, h4, h5, h6, h7, h8⟩, ⟨k1, k2⟩, U, Wr, hD, hDl⟩, hC, ⟨e1, e2, e3, e4⟩⟩ := H
  have e : ∀ i, i ≤ 7 → ∀ k, hI g (30 + i) k = hI h (30 + i) k := fun i hi k => F.2.2 _ _ (by omega)
  have ec : ∀ i, i ≤ 11 → ∀ k, hI g (c + i) k = hI h (c + i) k := fun i hi k => F.2.2 _ _ (c7_lt h3 hi)
  refine ⟨⟨⟨F.St h1, h2, h3, by rw [F.1]; exact h4, (ec 0 (by omega) 2).trans h5, h6, (ec 0 (by omega) 1).trans h7, h8⟩, ⟨fun p hp => by rw [ec 3 (by omega)]; exact k1 p hp, fun i hi => by rw [e 3 (by omega)]; exact k2 i hi⟩, U.q7 h3 F, fun t ht => by rw [e 6 (by omega)]; exact Wr t ht, (e 0 (by omega) 1).trans hD, hDl⟩, hC.q7 h3 F, ⟨fun t ht => ?_, fun p hp => ?_, fun i hi => ?_, (e 0 (by omega) 2).trans e4⟩⟩
  · rw [e 5 (by omega), e 6 (by omega), e 7 (by omega), e 4 (by omega)]; exact e1 t ht
  · rw [e 2 (by omega), e 1 (by omega)]; exact e2 p hp
  · rw [e 3 (by omega)]; exact e3 i hi
theorem KB.q7 {h g : Hp} {c fs fr : Nat} {x : Int32} {C : Cy} {T : Tn} (K : KB h c fs fr x C T) (F : Fq7 h g) : KB g c fs fr x C T := by
  obtain ⟨h1, h2, h3⟩ := K
  exact ⟨by rw [F.1]; exact h1, h2.q7 F, fun p hp => by rw [F.2.2 _ _ (c7_lt h2.hc.1 (by omega))]; exact h3 p hp⟩
theorem KI.q7 {h g : Hp} {S : Sx} (K : KI h S) (F : Fq7 h g) : KI g S := by
  obtain ⟨c, c', fs, fr, x, ⟨h1, h2, h3⟩, h4, h5⟩ := K
  exact ⟨c, c', fs, fr, x, ⟨h1, h2, by rw [F.1]; exact h3⟩, h4.q7 F, h5.eq (fun a k q => F.2.2 a k (by omega))⟩
theorem KI.Stt {h : Hp} {S : Sx} (K : KI h S) : St h := by
  obtain ⟨c, c', fs, fr, x, _, h4, _⟩ := K
  exact h4.2.1.hc.2.2
theorem MVr.f8 {h g : Hp} {C : Cy} {A : List Tn} {Q : Nt} {I : Option (Tn × List Tn × Nt)} {P : Nat × (Nat → Nat)} {f : Int32} {R : Nat → Int32} (K : MVr h C A Q I P f R) (e : ∀ a, 77 ≤ a → ∀ k, hI g a k = hI h a k) : MVr g C A Q I P f R := by
  obtain ⟨h1, h2, h3, ⟨h4, h5⟩, h6, h7⟩ := K
  have e92 : hI g 92 = hI h 92 := funext (e 92 (by omega))
  have e97 : hI g 97 = hI h 97 := funext (e 97 (by omega))
  refine ⟨by rw [e92, e 77 (by omega)]; exact h1, mq_mn.1 (by rw [e97, e 77 (by omega)]; exact mq_mn.2 h2), h3.eq (fun k a q => e a (by omega) k), ⟨by rw [e 77 (by omega)]; exact h4, fun i hi => by rw [e 82 (by omega)]; exact h5 i hi⟩, by rw [e 77 (by omega)]; exact h6, fun i hi => by rw [e 83 (by omega)]; exact h7 i hi⟩
theorem mv_f8 {h g : Hp} {S : Sx} (W : WC (sC S)) (K : MV h S) (hS : St g) (e : ∀ a, 77 ≤ a → ∀ k, hI g a k = hI h a k) : MV g S := by
  obtain ⟨as, ar, h1, h2⟩ := K
  exact ⟨as, ar, h1.ej W hS (fun k _ => e 77 (by omega) k) (fun a k q => e a (by omega) k), h2.f8 e⟩
theorem mv_fw {h g : Hp} {S : Sx} (W : WC (sC S)) (K : MV h S) (hS : St g) (F : Fw h g) : MV g S := mv_f8 W K hS (fun a ha => (F.2.2 a ha).1)
theorem mv_uJ {h : Hp} {S : Sx} {a k : Nat} {v : Int64} (W : WC (sC S)) (K : MV h S) : MV (uJ h a k v) S := mv_f8 W K (Fq7.uJ.St K.St) (fun _ _ _ => rfl)
theorem KI.uJ {h : Hp} {S : Sx} {a k : Nat} {v : Int64} (K : KI h S) : KI (uJ h a k v) S := K.q7 Fq7.uJ
theorem q_thrown {l : Launch} {d : Nat} {h : Hp} (hS : St h) : Ex l (d + 1) mX10_thrown [.ref 77] h (some (.int (hI h 77 0))) h := by
  refine run_lv [some (.ref 77)] (go := ?_)
  refine go_aloadn dX10_thrown_0 rfl ?_
  refine sg_getI dX10_thrown_1 fX10_102 rfl (mo_L rfl) hS ?_
  refine go_ireturn dX10_thrown_4 rfl rfl (Nat.zero_le _) (Nat.zero_le _) ?_
  exact ⟨rfl, rfl⟩
