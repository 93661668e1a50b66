/-! the walk of the law's body out of its walk over the pure heap -/
abbrev mL_law : MI := (x, code, 7, ret, [])
def h00 : Hp := (fun _ _ => 0, fun _ _ => none, fun _ _ => 0, 0)
def Zlw : ZT := fun _ _ _ below args s => lw_Z below args s
theorem lay_words (C n d : String) (i : Nat) (h : lw_tbl[i]? = some (.laysStatic C n d)) : Cond.laysStatic C n d ∈ lw_tbl := List.mem_of_getElem? h
theorem ls_1 : Cond.laysStatic Bundle.tN "UNASSIGNED_STACK" Bundle.steD ∈ lw_tbl := List.mem_of_getElem? (i := 750) (by decide +kernel)
theorem ls_2 : Cond.laysStatic Bundle.tN "SUPPRESSED_SENTINEL" Bundle.listD ∈ lw_tbl := List.mem_of_getElem? (i := 752) (by decide +kernel)
theorem ls_3 : Cond.laysStatic "java/lang/String" "COMPACT_STRINGS" "Z" ∈ lw_tbl := List.mem_of_getElem? (i := 817) (by decide +kernel)
theorem ls_4 : Cond.laysStatic "jdk/internal/util/Preconditions" "SIOOBE_FORMATTER" "Ljava/util/function/BiFunction;" ∈ lw_tbl := List.mem_of_getElem? (i := 856) (by decide +kernel)
theorem ls_5 : Cond.laysStatic RX3 "BINDING" "[I" ∈ lw_tbl := List.mem_of_getElem? (i := 1039) (by decide +kernel)
theorem li_1 : Cond.initialized Bundle.tN ∈ lw_tbl := by decide +kernel
theorem li_3 : Cond.initialized "java/lang/String" ∈ lw_tbl := by decide +kernel
theorem li_4 : Cond.initialized "jdk/internal/util/Preconditions" ∈ lw_tbl := by decide +kernel
theorem ns_1 : Cond.isRef (.static Bundle.tN "UNASSIGNED_STACK" Bundle.steD) ∈ narF := by decide +kernel
theorem ns_2 : Cond.isRef (.static Bundle.tN "SUPPRESSED_SENTINEL" Bundle.listD) ∈ narF := by decide +kernel
theorem ns_3 : Cond.eq (.static "java/lang/String" "COMPACT_STRINGS" "Z") (.int 1) ∈ narF := by decide +kernel
theorem ns_4 : Cond.isRef (.static "jdk/internal/util/Preconditions" "SIOOBE_FORMATTER" "Ljava/util/function/BiFunction;") ∈ narF := by decide +kernel
theorem ns_5 : Cond.arrayOf (.static RX3 "BINDING" "[I") .int ∈ narF := by decide +kernel
theorem ns_6 : Cond.eq (.length (.static RX3 "BINDING" "[I")) (.int (Int32.ofNat 10)) ∈ narF := by decide +kernel
theorem ns_7 : ∀ j, j < 10 → Cond.eq (.elem (.static RX3 "BINDING" "[I") (.int (Int32.ofNat j))) (.int (bndV j)) ∈ narF := by decide +kernel
theorem ns_8 : Cond.not (.castable "java/lang/IllegalArgumentException" "java/util/NoSuchElementException") ∈ narF := by decide +kernel
theorem traces0 {l : Launch} (h : l.flags = flags0) : l.stackTraces = false := by
  unfold Launch.stackTraces
  rw [h]
  decide +kernel
set_option maxHeartbeats 4000000 in
theorem start_of {p : Program} {e : Env} {s : State} {m : MethodId} {below : List Frame} {meth : Method} {c : Code} (l : Launch) {b L : Nat} {xs : Nat → Int32} (law : Go l room_1 mL_law 0 (Zl L xs Zlw) 0 [some (.ref 1300), none, none, none, none, none, none] [] h00 0 0) (C0 : lw_At p s m meth c b L xs) :
    W p l e room_1 s m #[Value.ref b] below meth c s.heap [] 0 0 (lw_Z below #[Value.ref b] s) (entryFrame m ([Value.ref b] : List Value).toArray 7) := by
  obtain ⟨hx, hb, hr, hml, hown, hts, hX, hbl, hlocks, hgv⟩ := C0
  have hnar := flat_of_before _ hgv
  have hA : ∀ a : Nat, a < s.heap.size → ¬ (fun q : Nat => s.heap.size ≤ q) a := fun a h => Nat.not_le.mpr h
  -- classes
  have h0 : ∀ ci : Nat, ∃ q : ClassId × (Nat → Nat), ci < 11 → u_Kn s (clR ci) (clT ci) (clN ci) q.1 q.2 := by
    intro ci
    by_cases hci : ci < 11
    · obtain ⟨c1, i1, hk⟩ := u_known (C := clR ci) (T := clT ci) (N := clN ci) (n := clN ci) hts (fun w hw => (cl_in0 ci hci w hw).1) (hts _ (inst_in ci hci))
      exact ⟨(c1, i1), fun _ => hk⟩
    · exact ⟨(0, fun _ => 0), fun h => absurd h hci⟩
  obtain ⟨f0, hf0⟩ := Classical.axiomOfChoice h0
  -- texts
  obtain ⟨adK, adV, hstr, hstrE⟩ := vk_Sof (args := #[Value.ref b]) (s := s) (N := 21) (tm := nsT) (len := strL) (byt := strB) (A := fun q : Nat => s.heap.size ≤ q) (by decide +kernel)
    (fun i hi => hnar _ (narS_in _ (List.mem_flatMap.mpr ⟨i, List.mem_range.mpr hi, by simp⟩)))
    (fun i hi => hnar _ (narS_in _ (List.mem_flatMap.mpr ⟨i, List.mem_range.mpr hi, by simp⟩)))
    (fun i hi => hnar _ (narS_in _ (List.mem_flatMap.mpr ⟨i, List.mem_range.mpr hi, by simp⟩)))
    (fun i hi => hnar _ (narS_in _ (List.mem_flatMap.mpr ⟨i, List.mem_range.mpr hi, by simp⟩)))
    (fun i hi j hj => hnar _ (narE_in _ (List.mem_flatMap.mpr ⟨i, List.mem_range.mpr hi, List.mem_map.mpr ⟨j, List.mem_range.mpr hj, rfl⟩⟩)))
    (fun i j hi hj hij => by
      rcases Nat.lt_or_ge i j with h | h
      · exact Or.inl (hnar _ (narN_in _ (List.mem_flatMap.mpr ⟨j, List.mem_range.mpr hj, List.mem_map.mpr ⟨i, List.mem_range.mpr h, rfl⟩⟩)))
      · exact Or.inr (hnar _ (narN_in _ (List.mem_flatMap.mpr ⟨i, List.mem_range.mpr hi, List.mem_map.mpr ⟨j, List.mem_range.mpr (by omega), rfl⟩⟩))))
    hA
  -- the row of Reader
  obtain ⟨tb, htb, hT⟩ := va_Tof (args := #[Value.ref b]) (s := s) (tm := .static RX3 "BINDING" "[I") (ty := .int) (N := 10) (f := fun j => .int (bndV j)) (A := fun q : Nat => s.heap.size ≤ q) (by decide) (hnar _ ns_5) (va_eqt (hnar _ ns_6)) (fun j hj => va_eqt (hnar _ (ns_7 j hj))) hA
  have hZb := va_Zof (A := fun q : Nat => s.heap.size ≤ q) (hts _ ls_5) (hts _ iniX3.1) htb hA
  have hZf := va_Zqof (A := fun q : Nat => s.heap.size ≤ q) (hts _ ls_4) (hts _ li_4) (hnar _ ns_4) hA
  obtain ⟨tf, hZf⟩ : ∃ tf : Nat, va_Z "jdk/internal/util/Preconditions" "SIOOBE_FORMATTER" "Ljava/util/function/BiFunction;" .null (fun q : Nat => s.heap.size ≤ q) s s.heap ∨ va_Z "jdk/internal/util/Preconditions" "SIOOBE_FORMATTER" "Ljava/util/function/BiFunction;" (.ref tf) (fun q : Nat => s.heap.size ≤ q) s s.heap := by
    rcases hZf with h | ⟨t, h⟩
    · exact ⟨0, Or.inl h⟩
    · exact ⟨t, Or.inr h⟩
  obtain ⟨ρ, hρ⟩ : ∃ ρ : Nat → Nat, ρ = fun i => if i < 1000 then s.heap.size + i else if i = 1000 then tb else if i < 1101 then adK (i - 1001) else if i < 1200 then adV (i - 1101) else if i = 1200 then tf else b := ⟨_, rfl⟩
  have r0 : ∀ i, i < 1000 → ρ i = s.heap.size + i := fun i hi => by rw [hρ]; simp [hi]
  have r1 : ρ 1000 = tb := by rw [hρ]; simp
  have r2 : ∀ i, i < 21 → ρ (1001 + i) = adK i := fun i hi => by rw [hρ]; simp [show ¬ 1001 + i < 1000 by omega, show ¬ 1001 + i = 1000 by omega, show 1001 + i < 1101 by omega]
  have r3 : ∀ i, i < 21 → ρ (1101 + i) = adV i := fun i hi => by rw [hρ]; simp [show ¬ 1101 + i < 1000 by omega, show ¬ 1101 + i = 1000 by omega, show ¬ 1101 + i < 1101 by omega, show 1101 + i < 1200 by omega]
  have r4 : ρ 1200 = tf := by rw [hρ]; simp
  have r5 : ρ 1300 = b := by rw [hρ]; simp
  have hE : Ext (fun q : Nat => s.heap.size ≤ q) ρ s s.heap := by
    refine ⟨⟨vx_Zqof (hts _ ls_1) (hts _ li_1) (hnar _ ns_1) hA, vx_Zqof (hts _ ls_2) (hts _ li_1) (hnar _ ns_2) hA⟩, fun w hw => va_Nw.of (nest_ot w hw) (hts _ (nest_in w hw)), ⟨by rw [r1]; exact hZb, by rw [r1]; exact hT⟩, ⟨fun i hi => ?_, fun i j hi hj hij => ?_⟩, fun i hi => ?_, ⟨va_Zof (hts _ ls_3) (hts _ li_3) (va_eqi (hnar _ ns_3)) hA, by rw [r4]; exact hZf⟩, va_Nc.of (hnar _ ns_8), fun w hw => va_Nw.of (exFace_ok w hw).2 (hts _ (face_in w hw))⟩
    · have h9 := hstr.1 i hi
      rw [← r2 i hi, ← r3 i hi] at h9
      exact h9
    · have h9 : ρ (1001 + i) = ρ (1001 + j) := hij
      rw [r2 i hi, r2 j hj] at h9
      exact hstr.2 i j hi hj h9
    · rw [r2 i hi]
      exact vk_R.of (hts _ (str_in i hi)) (hstrE i hi)
  have hK : va_K (fun k => (f0 k).1, fun k => (f0 k).2) vwCl [] s := by
    refine ⟨fun k q hq => ?_, fun k q h => by simp at h⟩
    have hk : k < 11 := (List.getElem?_eq_some_iff.mp hq).1
    rw [cl_at k hk] at hq
    cases hq
    exact hf0 k hk
  have hC : Cx mL_law 0 p s m #[Value.ref b] meth c (fun q : Nat => s.heap.size ≤ q) ρ :=
    ⟨hx, hb, hml, hr, hown, fun w hw => hts w (List.mem_filter.mp hw).1, hlocks, fun h => absurd rfl h, trivial, ⟨s.heap.size, fun q => Iff.rfl, r0⟩, fun q h => h, hE, fun _ => by rw [r0 0 (by decide)]; rfl⟩
  have hWd : Wd (fun k => (f0 k).1, fun k => (f0 k).2) (fun q : Nat => s.heap.size ≤ q) ρ (fun _ => 0) h00 s s.heap :=
    ⟨hK, fun i ty len h => absurd h (Nat.not_lt_zero i), fun k q h => by simp [hW, hN, h00] at h, ⟨fun i j x y h => by simp [hW, hN, h00] at h, fun k q h => by simp [hW, hN, h00] at h⟩⟩
  rw [lg_entry_eq]
  have hLo := Lo.entry (ρ := ρ) (as := [.ref 1300]) (nL := 7) (by simp [Value.category]) (by decide)
  have h1 : ([Value.ref 1300] : List Value).map (tv ρ) = [Value.ref b] := by simp [tv, r5]
  rw [h1] at hLo
  have hgo := law p e s m #[Value.ref b] below meth c _ _ ρ hC (fun _ => 0) s.heap [] _ hWd va_S.rf hLo
  intro T hT X
  obtain ⟨t, a1, a2⟩ := hgo T hT X
  exact ⟨t, a1, a2 ⟨by rw [r5]; exact hX, by rw [r5]; exact hbl, by rw [r5]; exact hA b hbl⟩⟩
