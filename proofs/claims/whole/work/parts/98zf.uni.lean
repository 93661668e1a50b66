/-! one form for all calls -/
theorem c_q {l : Launch} {d : Nat} {M : MI} {as : List Value} {h : Hp} {o : An} {E1 E2 : String} {S : Sx} (K : KI h S) (q : Qc l d M as h o E1 E2) : Run l d (1, 6) M as h (CQ (o.1, o.2, S) h) (CX (o.1, o.2, S) E1 E2 h) :=
  q.mono (fun _ _ z => ⟨z.1, K.fc z.2, Fw.fc z.2⟩) (fun _ _ z => ⟨z.1, K.fc z.2, Fw.fc z.2⟩)
theorem c_a {l : Launch} {d : Nat} {M : MI} {as : List Value} {h : Hp} {o : Sa} (q : Ka l d M as h o) : Run l d (1, 6) M as h (CQ o h) (CX o nNSE nIAE h) :=
  q.mono (fun _ _ z => z) (fun _ _ z => ⟨Or.inl z.1, z.2⟩)
theorem c_mq {l : Launch} {d : Nat} {M : MI} {as : List Value} {h : Hp} {o : An} {S : Sx} (W : WC (sC S)) (K : MV h S) (q : Qm l d M as h o) : Run l d (0, 0) M as h (Qj (o.1, o.2, S) h) noX :=
  q.mono (fun _ _ z => ⟨z.1, z.2.1, K.sm W z.2.2, z.2.2.sa.j⟩) (fun _ _ z => z)
theorem c_ma {l : Launch} {d : Nat} {M : MI} {as : List Value} {h : Hp} {o : Sa} (q : Mo l d M as h o) : Run l d (0, 0) M as h (Qj o h) noX :=
  q.mono (fun _ _ z => ⟨z.1, z.2.1, z.2.2.1, z.2.2.2.j⟩) (fun _ _ z => z)
theorem nd_2 {P : Prop} [Decidable P] {o : An} (h : o.1 ≠ 2) : (nd P 1 o).1 ≠ 2 := by
  unfold nd
  split
  · exact h
  · exact (show ¬ (1 : Nat) = 2 by decide)
theorem ndS_2 {P : Prop} [Decidable P] {S : Sx} {o : Sa} (h : o.1 ≠ 2) : (ndS P S o).1 ≠ 2 := by
  unfold ndS
  split
  · exact h
  · exact (show ¬ (1 : Nat) = 2 by decide)
