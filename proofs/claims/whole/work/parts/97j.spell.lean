/-! the model's words -/
section
variable {l : Launch} {R : Room} {M : MI} {n0 : Nat} {Z : ZT} {pc : Nat} {st : List Value} {h : Hp} {u w : Nat}
theorem go_lst7 {a0 a1 a2 a3 a4 a5 a6 y z : Option Value} {x : Int64} (hd : decode M.2.1 pc = .ok (.lstore 7, 2)) (hn : nl1 a6 = true) (k : Go l R M n0 Z (pc + 2) [a0, a1, a2, a3, a4, a5, a6, some (.long x), none] st h u w) : Go l R M n0 Z pc [a0, a1, a2, a3, a4, a5, a6, y, z] (.long x :: st) h u w :=
  go_lstore_ (i := 7) (lv := [a0, a1, a2, a3, a4, a5, a6, y, z]) hd (by show 8 < 9; decide) (nl_at 6 rfl hn) k
end
theorem kX10_148 : inG (.constantLong RX10 148 96) := ⟨ch8_0 _ (List.mem_of_getElem? (i := 15) rfl), rfl⟩
/-- a letter onto a word, if there is one -/
def sp1 (v : Int64) (c : Int32) : Int64 := if c = 0 then v else (v <<< ((5 : Int32).toInt64 &&& 63)) ||| (c - 96).toInt64
theorem sp1_d (v : Int64) (c : Int32) : sp1 v c = if c = 0 then v else (v <<< ((5 : Int32).toInt64 &&& 63)) ||| (c - 96).toInt64 := rfl
def spF (a b c d e f g : Int32) : Int64 := sp1 (sp1 (sp1 (sp1 (sp1 (((a.toInt64 - 96) <<< ((5 : Int32).toInt64 &&& 63)) ||| (b - 96).toInt64) c) d) e) f) g
theorem q_spelled {l : Launch} {dd : Nat} {a b c d e f g : Int32} {h : Hp} (hS : St h) : Ex l (dd + 1) mX10_spelled [.int a, .int b, .int c, .int d, .int e, .int f, .int g] h (some (.long (spF a b c d e f g))) h := by
  refine run_lv [some (.int a), some (.int b), some (.int c), some (.int d), some (.int e), some (.int f), some (.int g), none, none] (go := ?_)
  have e102 : ∀ v, spF a b c d e f g = v → Go l (rmOf (dd + 1) (0, 0)) mX10_spelled (hN h) (Zm (0, 0) (fun v h1 => v = some (.long (spF a b c d e f g)) ∧ h1 = h) noX) 102 [some (.int a), some (.int b), some (.int c), some (.int d), some (.int e), some (.int f), some (.int g), some (.long v), none] [] h 0 0 := by
    intro v hv
    refine go_lload dX10_spelled_102 rfl ?_
    refine go_lreturn dX10_spelled_104 rfl (Nat.zero_le _) (Nat.zero_le _) ?_
    exact ⟨by rw [hv], rfl⟩
  have e84 : ∀ v, spF a b c d e f g = sp1 v g → Go l (rmOf (dd + 1) (0, 0)) mX10_spelled (hN h) (Zm (0, 0) (fun v h1 => v = some (.long (spF a b c d e f g)) ∧ h1 = h) noX) 84 [some (.int a), some (.int b), some (.int c), some (.int d), some (.int e), some (.int f), some (.int g), some (.long v), none] [] h 0 0 := by
    intro v hv
    unfold sp1 at hv
    refine go_iload dX10_spelled_84 rfl ?_
    refine go_if_eq (tgt := 102) dX10_spelled_86 (by decide) (fun c86 => e102 _ (by rw [hv, if_pos c86])) (fun c86 => ?_)
    refine go_lload dX10_spelled_89 rfl ?_
    refine go_iconst (v := 5) dX10_spelled_91 rfl ?_
    refine go_lshl dX10_spelled_92 ?_
    refine go_iload dX10_spelled_93 rfl ?_
    refine go_bipush (v := 96) dX10_spelled_95 rfl ?_
    refine go_isub dX10_spelled_97 ?_
    refine go_i2l dX10_spelled_98 ?_
    refine go_lor dX10_spelled_99 ?_
    refine go_lst7 dX10_spelled_100 rfl ?_
    exact e102 _ (by rw [hv, if_neg c86])
  have e66 : ∀ v, spF a b c d e f g = sp1 (sp1 v f) g → Go l (rmOf (dd + 1) (0, 0)) mX10_spelled (hN h) (Zm (0, 0) (fun v h1 => v = some (.long (spF a b c d e f g)) ∧ h1 = h) noX) 66 [some (.int a), some (.int b), some (.int c), some (.int d), some (.int e), some (.int f), some (.int g), some (.long v), none] [] h 0 0 := by
    intro v hv
    rw [sp1_d v f] at hv
    refine go_iload dX10_spelled_66 rfl ?_
    refine go_if_eq (tgt := 84) dX10_spelled_68 (by decide) (fun c68 => e84 _ (by rw [hv, if_pos c68])) (fun c68 => ?_)
    refine go_lload dX10_spelled_71 rfl ?_
    refine go_iconst (v := 5) dX10_spelled_73 rfl ?_
    refine go_lshl dX10_spelled_74 ?_
    refine go_iload dX10_spelled_75 rfl ?_
    refine go_bipush (v := 96) dX10_spelled_77 rfl ?_
    refine go_isub dX10_spelled_79 ?_
    refine go_i2l dX10_spelled_80 ?_
    refine go_lor dX10_spelled_81 ?_
    refine go_lst7 dX10_spelled_82 rfl ?_
    exact e84 _ (by rw [hv, if_neg c68])
  have e48 : ∀ v, spF a b c d e f g = sp1 (sp1 (sp1 v e) f) g → Go l (rmOf (dd + 1) (0, 0)) mX10_spelled (hN h) (Zm (0, 0) (fun v h1 => v = some (.long (spF a b c d e f g)) ∧ h1 = h) noX) 48 [some (.int a), some (.int b), some (.int c), some (.int d), some (.int e), some (.int f), some (.int g), some (.long v), none] [] h 0 0 := by
    intro v hv
    rw [sp1_d v e] at hv
    refine go_iload dX10_spelled_48 rfl ?_
    refine go_if_eq (tgt := 66) dX10_spelled_50 (by decide) (fun c50 => e66 _ (by rw [hv, if_pos c50])) (fun c50 => ?_)
    refine go_lload dX10_spelled_53 rfl ?_
    refine go_iconst (v := 5) dX10_spelled_55 rfl ?_
    refine go_lshl dX10_spelled_56 ?_
    refine go_iload dX10_spelled_57 rfl ?_
    refine go_bipush (v := 96) dX10_spelled_59 rfl ?_
    refine go_isub dX10_spelled_61 ?_
    refine go_i2l dX10_spelled_62 ?_
    refine go_lor dX10_spelled_63 ?_
    refine go_lst7 dX10_spelled_64 rfl ?_
    exact e66 _ (by rw [hv, if_neg c50])
  have e32 : ∀ v, spF a b c d e f g = sp1 (sp1 (sp1 (sp1 v d) e) f) g → Go l (rmOf (dd + 1) (0, 0)) mX10_spelled (hN h) (Zm (0, 0) (fun v h1 => v = some (.long (spF a b c d e f g)) ∧ h1 = h) noX) 32 [some (.int a), some (.int b), some (.int c), some (.int d), some (.int e), some (.int f), some (.int g), some (.long v), none] [] h 0 0 := by
    intro v hv
    rw [sp1_d v d] at hv
    refine go_iloadn dX10_spelled_32 rfl ?_
    refine go_if_eq (tgt := 48) dX10_spelled_33 (by decide) (fun c33 => e48 _ (by rw [hv, if_pos c33])) (fun c33 => ?_)
    refine go_lload dX10_spelled_36 rfl ?_
    refine go_iconst (v := 5) dX10_spelled_38 rfl ?_
    refine go_lshl dX10_spelled_39 ?_
    refine go_iloadn dX10_spelled_40 rfl ?_
    refine go_bipush (v := 96) dX10_spelled_41 rfl ?_
    refine go_isub dX10_spelled_43 ?_
    refine go_i2l dX10_spelled_44 ?_
    refine go_lor dX10_spelled_45 ?_
    refine go_lst7 dX10_spelled_46 rfl ?_
    exact e48 _ (by rw [hv, if_neg c33])
  have e16 : ∀ v, spF a b c d e f g = sp1 (sp1 (sp1 (sp1 (sp1 v c) d) e) f) g → Go l (rmOf (dd + 1) (0, 0)) mX10_spelled (hN h) (Zm (0, 0) (fun v h1 => v = some (.long (spF a b c d e f g)) ∧ h1 = h) noX) 16 [some (.int a), some (.int b), some (.int c), some (.int d), some (.int e), some (.int f), some (.int g), some (.long v), none] [] h 0 0 := by
    intro v hv
    rw [sp1_d v c] at hv
    refine go_iloadn dX10_spelled_16 rfl ?_
    refine go_if_eq (tgt := 32) dX10_spelled_17 (by decide) (fun c17 => e32 _ (by rw [hv, if_pos c17])) (fun c17 => ?_)
    refine go_lload dX10_spelled_20 rfl ?_
    refine go_iconst (v := 5) dX10_spelled_22 rfl ?_
    refine go_lshl dX10_spelled_23 ?_
    refine go_iloadn dX10_spelled_24 rfl ?_
    refine go_bipush (v := 96) dX10_spelled_25 rfl ?_
    refine go_isub dX10_spelled_27 ?_
    refine go_i2l dX10_spelled_28 ?_
    refine go_lor dX10_spelled_29 ?_
    refine go_lst7 dX10_spelled_30 rfl ?_
    exact e32 _ (by rw [hv, if_neg c17])
  refine go_iloadn dX10_spelled_0 rfl ?_
  refine go_i2l dX10_spelled_1 ?_
  refine go_ldc2 dX10_spelled_2 kX10_148 ?_
  refine go_lsub dX10_spelled_5 ?_
  refine go_iconst (v := 5) dX10_spelled_6 rfl ?_
  refine go_lshl dX10_spelled_7 ?_
  refine go_iloadn dX10_spelled_8 rfl ?_
  refine go_bipush (v := 96) dX10_spelled_9 rfl ?_
  refine go_isub dX10_spelled_11 ?_
  refine go_i2l dX10_spelled_12 ?_
  refine go_lor dX10_spelled_13 ?_
  refine go_lst7 dX10_spelled_14 rfl ?_
  exact e16 _ rfl
/-- the number of the known word k -/
def wdK (k : Nat) : Nat := wdN (fun i => (kwT.getD k []).getD i 0) 0 (kwT.getD k []).length
theorem q_letters_ {l : Launch} {d k : Nat} {h : Hp} (hS : St h) (hk : k < 20) : Ex l (d + 2) mX10_letters [.int (nI k)] h (some (.long (lN (wdK k)))) h := by
  refine run_lv [some (.int (nI k))] (go := ?_)
  refine go_iloadn dX10_letters_0 rfl ?_
  refine go_tab 19 0 388 [92, 106, 123, 139, 154, 170, 187, 201, 217, 232, 249, 266, 282, 298, 311, 326, 343, 361, 375] dX10_letters_1 rfl rfl rfl rfl rfl (by decide) (fun c1 => ?_) (fun i hi c1 => ?_)
  · refine go_bipush (v := 110) dX10_letters_388 rfl ?_
    refine go_bipush (v := 111) dX10_letters_390 rfl ?_
    refine go_bipush (v := 116) dX10_letters_392 rfl ?_
    refine go_iconst (v := 0) dX10_letters_394 rfl ?_
    refine go_iconst (v := 0) dX10_letters_395 rfl ?_
    refine go_iconst (v := 0) dX10_letters_396 rfl ?_
    refine go_iconst (v := 0) dX10_letters_397 rfl ?_
    refine sg_cSi (M' := mX10_spelled) ([.int 110, .int 111, .int 116, .int 0, .int 0, .int 0, .int 0]) dX10_letters_398 lX10_150 sX10_spelled hS (q_spelled hS) rfl (Nat.le_of_ble_eq_true rfl) (Nat.zero_le _) (Nat.zero_le _) ?_
    refine go_lreturn dX10_letters_401 rfl (Nat.zero_le _) (Nat.zero_le _) ?_
    exact ⟨by have e : k = 19 := (by rcases Nat.lt_or_ge k 19 with q | q; exact absurd (by rw [Nat.zero_add]) (c1 k q); omega); rw [e]; exact congrArg (fun v => some (Value.long v)) (by decide +kernel), rfl⟩
  · match i, hi, c1 with
    | 0, _, c1 =>
      have e := (nI_eq (by omega) (by omega)).mp c1
      refine go_bipush (v := 111) dX10_letters_92 rfl ?_
      refine go_bipush (v := 100) dX10_letters_94 rfl ?_
      refine go_bipush (v := 100) dX10_letters_96 rfl ?_
      refine go_iconst (v := 0) dX10_letters_98 rfl ?_
      refine go_iconst (v := 0) dX10_letters_99 rfl ?_
      refine go_iconst (v := 0) dX10_letters_100 rfl ?_
      refine go_iconst (v := 0) dX10_letters_101 rfl ?_
      refine sg_cSi (M' := mX10_spelled) ([.int 111, .int 100, .int 100, .int 0, .int 0, .int 0, .int 0]) dX10_letters_102 lX10_150 sX10_spelled hS (q_spelled hS) rfl (Nat.le_of_ble_eq_true rfl) (Nat.zero_le _) (Nat.zero_le _) ?_
      refine go_lreturn dX10_letters_105 rfl (Nat.zero_le _) (Nat.zero_le _) ?_
      exact ⟨by rw [e]; exact congrArg (fun v => some (Value.long v)) (by decide +kernel), rfl⟩
    | 1, _, c1 =>
      have e := (nI_eq (by omega) (by omega)).mp c1
      refine go_bipush (v := 119) dX10_letters_106 rfl ?_
      refine go_bipush (v := 101) dX10_letters_108 rfl ?_
      refine go_bipush (v := 105) dX10_letters_110 rfl ?_
      refine go_bipush (v := 103) dX10_letters_112 rfl ?_
      refine go_bipush (v := 104) dX10_letters_114 rfl ?_
      refine go_bipush (v := 116) dX10_letters_116 rfl ?_
      refine go_iconst (v := 0) dX10_letters_118 rfl ?_
      refine sg_cSi (M' := mX10_spelled) ([.int 119, .int 101, .int 105, .int 103, .int 104, .int 116, .int 0]) dX10_letters_119 lX10_150 sX10_spelled hS (q_spelled hS) rfl (Nat.le_of_ble_eq_true rfl) (Nat.zero_le _) (Nat.zero_le _) ?_
      refine go_lreturn dX10_letters_122 rfl (Nat.zero_le _) (Nat.zero_le _) ?_
      exact ⟨by rw [e]; exact congrArg (fun v => some (Value.long v)) (by decide +kernel), rfl⟩
    | 2, _, c1 =>
      have e := (nI_eq (by omega) (by omega)).mp c1
      refine go_bipush (v := 99) dX10_letters_123 rfl ?_
      refine go_bipush (v := 111) dX10_letters_125 rfl ?_
      refine go_bipush (v := 117) dX10_letters_127 rfl ?_
      refine go_bipush (v := 110) dX10_letters_129 rfl ?_
      refine go_bipush (v := 116) dX10_letters_131 rfl ?_
      refine go_iconst (v := 0) dX10_letters_133 rfl ?_
      refine go_iconst (v := 0) dX10_letters_134 rfl ?_
      refine sg_cSi (M' := mX10_spelled) ([.int 99, .int 111, .int 117, .int 110, .int 116, .int 0, .int 0]) dX10_letters_135 lX10_150 sX10_spelled hS (q_spelled hS) rfl (Nat.le_of_ble_eq_true rfl) (Nat.zero_le _) (Nat.zero_le _) ?_
      refine go_lreturn dX10_letters_138 rfl (Nat.zero_le _) (Nat.zero_le _) ?_
      exact ⟨by rw [e]; exact congrArg (fun v => some (Value.long v)) (by decide +kernel), rfl⟩
    | 3, _, c1 =>
      have e := (nI_eq (by omega) (by omega)).mp c1
      refine go_bipush (v := 101) dX10_letters_139 rfl ?_
      refine go_bipush (v := 121) dX10_letters_141 rfl ?_
      refine go_bipush (v := 101) dX10_letters_143 rfl ?_
      refine go_bipush (v := 115) dX10_letters_145 rfl ?_
      refine go_iconst (v := 0) dX10_letters_147 rfl ?_
      refine go_iconst (v := 0) dX10_letters_148 rfl ?_
      refine go_iconst (v := 0) dX10_letters_149 rfl ?_
      refine sg_cSi (M' := mX10_spelled) ([.int 101, .int 121, .int 101, .int 115, .int 0, .int 0, .int 0]) dX10_letters_150 lX10_150 sX10_spelled hS (q_spelled hS) rfl (Nat.le_of_ble_eq_true rfl) (Nat.zero_le _) (Nat.zero_le _) ?_
      refine go_lreturn dX10_letters_153 rfl (Nat.zero_le _) (Nat.zero_le _) ?_
      exact ⟨by rw [e]; exact congrArg (fun v => some (Value.long v)) (by decide +kernel), rfl⟩
    | 4, _, c1 =>
      have e := (nI_eq (by omega) (by omega)).mp c1
      refine go_bipush (v := 111) dX10_letters_154 rfl ?_
      refine go_bipush (v := 119) dX10_letters_156 rfl ?_
      refine go_bipush (v := 110) dX10_letters_158 rfl ?_
      refine go_bipush (v := 101) dX10_letters_160 rfl ?_
      refine go_bipush (v := 114) dX10_letters_162 rfl ?_
      refine go_iconst (v := 0) dX10_letters_164 rfl ?_
      refine go_iconst (v := 0) dX10_letters_165 rfl ?_
      refine sg_cSi (M' := mX10_spelled) ([.int 111, .int 119, .int 110, .int 101, .int 114, .int 0, .int 0]) dX10_letters_166 lX10_150 sX10_spelled hS (q_spelled hS) rfl (Nat.le_of_ble_eq_true rfl) (Nat.zero_le _) (Nat.zero_le _) ?_
      refine go_lreturn dX10_letters_169 rfl (Nat.zero_le _) (Nat.zero_le _) ?_
      exact ⟨by rw [e]; exact congrArg (fun v => some (Value.long v)) (by decide +kernel), rfl⟩
    | 5, _, c1 =>
      have e := (nI_eq (by omega) (by omega)).mp c1
      refine go_bipush (v := 118) dX10_letters_170 rfl ?_
      refine go_bipush (v := 97) dX10_letters_172 rfl ?_
      refine go_bipush (v := 110) dX10_letters_174 rfl ?_
      refine go_bipush (v := 105) dX10_letters_176 rfl ?_
      refine go_bipush (v := 116) dX10_letters_178 rfl ?_
      refine go_bipush (v := 121) dX10_letters_180 rfl ?_
      refine go_iconst (v := 0) dX10_letters_182 rfl ?_
      refine sg_cSi (M' := mX10_spelled) ([.int 118, .int 97, .int 110, .int 105, .int 116, .int 121, .int 0]) dX10_letters_183 lX10_150 sX10_spelled hS (q_spelled hS) rfl (Nat.le_of_ble_eq_true rfl) (Nat.zero_le _) (Nat.zero_le _) ?_
      refine go_lreturn dX10_letters_186 rfl (Nat.zero_le _) (Nat.zero_le _) ?_
      exact ⟨by rw [e]; exact congrArg (fun v => some (Value.long v)) (by decide +kernel), rfl⟩
    | 6, _, c1 =>
      have e := (nI_eq (by omega) (by omega)).mp c1
      refine go_bipush (v := 100) dX10_letters_187 rfl ?_
      refine go_bipush (v := 97) dX10_letters_189 rfl ?_
      refine go_bipush (v := 121) dX10_letters_191 rfl ?_
      refine go_iconst (v := 0) dX10_letters_193 rfl ?_
      refine go_iconst (v := 0) dX10_letters_194 rfl ?_
      refine go_iconst (v := 0) dX10_letters_195 rfl ?_
      refine go_iconst (v := 0) dX10_letters_196 rfl ?_
      refine sg_cSi (M' := mX10_spelled) ([.int 100, .int 97, .int 121, .int 0, .int 0, .int 0, .int 0]) dX10_letters_197 lX10_150 sX10_spelled hS (q_spelled hS) rfl (Nat.le_of_ble_eq_true rfl) (Nat.zero_le _) (Nat.zero_le _) ?_
      refine go_lreturn dX10_letters_200 rfl (Nat.zero_le _) (Nat.zero_le _) ?_
      exact ⟨by rw [e]; exact congrArg (fun v => some (Value.long v)) (by decide +kernel), rfl⟩
    | 7, _, c1 =>
      have e := (nI_eq (by omega) (by omega)).mp c1
      refine go_bipush (v := 115) dX10_letters_201 rfl ?_
      refine go_bipush (v := 104) dX10_letters_203 rfl ?_
      refine go_bipush (v := 97) dX10_letters_205 rfl ?_
      refine go_bipush (v := 109) dX10_letters_207 rfl ?_
      refine go_bipush (v := 101) dX10_letters_209 rfl ?_
      refine go_iconst (v := 0) dX10_letters_211 rfl ?_
      refine go_iconst (v := 0) dX10_letters_212 rfl ?_
      refine sg_cSi (M' := mX10_spelled) ([.int 115, .int 104, .int 97, .int 109, .int 101, .int 0, .int 0]) dX10_letters_213 lX10_150 sX10_spelled hS (q_spelled hS) rfl (Nat.le_of_ble_eq_true rfl) (Nat.zero_le _) (Nat.zero_le _) ?_
      refine go_lreturn dX10_letters_216 rfl (Nat.zero_le _) (Nat.zero_le _) ?_
      exact ⟨by rw [e]; exact congrArg (fun v => some (Value.long v)) (by decide +kernel), rfl⟩
    | 8, _, c1 =>
      have e := (nI_eq (by omega) (by omega)).mp c1
      refine go_bipush (v := 109) dX10_letters_217 rfl ?_
      refine go_bipush (v := 97) dX10_letters_219 rfl ?_
      refine go_bipush (v := 110) dX10_letters_221 rfl ?_
      refine go_bipush (v := 121) dX10_letters_223 rfl ?_
      refine go_iconst (v := 0) dX10_letters_225 rfl ?_
      refine go_iconst (v := 0) dX10_letters_226 rfl ?_
      refine go_iconst (v := 0) dX10_letters_227 rfl ?_
      refine sg_cSi (M' := mX10_spelled) ([.int 109, .int 97, .int 110, .int 121, .int 0, .int 0, .int 0]) dX10_letters_228 lX10_150 sX10_spelled hS (q_spelled hS) rfl (Nat.le_of_ble_eq_true rfl) (Nat.zero_le _) (Nat.zero_le _) ?_
      refine go_lreturn dX10_letters_231 rfl (Nat.zero_le _) (Nat.zero_le _) ?_
      exact ⟨by rw [e]; exact congrArg (fun v => some (Value.long v)) (by decide +kernel), rfl⟩
    | 9, _, c1 =>
      have e := (nI_eq (by omega) (by omega)).mp c1
      refine go_bipush (v := 112) dX10_letters_232 rfl ?_
      refine go_bipush (v := 108) dX10_letters_234 rfl ?_
      refine go_bipush (v := 97) dX10_letters_236 rfl ?_
      refine go_bipush (v := 99) dX10_letters_238 rfl ?_
      refine go_bipush (v := 101) dX10_letters_240 rfl ?_
      refine go_bipush (v := 115) dX10_letters_242 rfl ?_
      refine go_iconst (v := 0) dX10_letters_244 rfl ?_
      refine sg_cSi (M' := mX10_spelled) ([.int 112, .int 108, .int 97, .int 99, .int 101, .int 115, .int 0]) dX10_letters_245 lX10_150 sX10_spelled hS (q_spelled hS) rfl (Nat.le_of_ble_eq_true rfl) (Nat.zero_le _) (Nat.zero_le _) ?_
      refine go_lreturn dX10_letters_248 rfl (Nat.zero_le _) (Nat.zero_le _) ?_
      exact ⟨by rw [e]; exact congrArg (fun v => some (Value.long v)) (by decide +kernel), rfl⟩
    | 10, _, c1 =>
      have e := (nI_eq (by omega) (by omega)).mp c1
      refine go_bipush (v := 112) dX10_letters_249 rfl ?_
      refine go_bipush (v := 101) dX10_letters_251 rfl ?_
      refine go_bipush (v := 114) dX10_letters_253 rfl ?_
      refine go_bipush (v := 115) dX10_letters_255 rfl ?_
      refine go_bipush (v := 111) dX10_letters_257 rfl ?_
      refine go_bipush (v := 110) dX10_letters_259 rfl ?_
      refine go_iconst (v := 0) dX10_letters_261 rfl ?_
      refine sg_cSi (M' := mX10_spelled) ([.int 112, .int 101, .int 114, .int 115, .int 111, .int 110, .int 0]) dX10_letters_262 lX10_150 sX10_spelled hS (q_spelled hS) rfl (Nat.le_of_ble_eq_true rfl) (Nat.zero_le _) (Nat.zero_le _) ?_
      refine go_lreturn dX10_letters_265 rfl (Nat.zero_le _) (Nat.zero_le _) ?_
      exact ⟨by rw [e]; exact congrArg (fun v => some (Value.long v)) (by decide +kernel), rfl⟩
    | 11, _, c1 =>
      have e := (nI_eq (by omega) (by omega)).mp c1
      refine go_bipush (v := 98) dX10_letters_266 rfl ?_
      refine go_bipush (v := 108) dX10_letters_268 rfl ?_
      refine go_bipush (v := 105) dX10_letters_270 rfl ?_
      refine go_bipush (v := 110) dX10_letters_272 rfl ?_
      refine go_bipush (v := 100) dX10_letters_274 rfl ?_
      refine go_iconst (v := 0) dX10_letters_276 rfl ?_
      refine go_iconst (v := 0) dX10_letters_277 rfl ?_
      refine sg_cSi (M' := mX10_spelled) ([.int 98, .int 108, .int 105, .int 110, .int 100, .int 0, .int 0]) dX10_letters_278 lX10_150 sX10_spelled hS (q_spelled hS) rfl (Nat.le_of_ble_eq_true rfl) (Nat.zero_le _) (Nat.zero_le _) ?_
      refine go_lreturn dX10_letters_281 rfl (Nat.zero_le _) (Nat.zero_le _) ?_
      exact ⟨by rw [e]; exact congrArg (fun v => some (Value.long v)) (by decide +kernel), rfl⟩
    | 12, _, c1 =>
      have e := (nI_eq (by omega) (by omega)).mp c1
      refine go_bipush (v := 116) dX10_letters_282 rfl ?_
      refine go_bipush (v := 104) dX10_letters_284 rfl ?_
      refine go_bipush (v := 105) dX10_letters_286 rfl ?_
      refine go_bipush (v := 110) dX10_letters_288 rfl ?_
      refine go_bipush (v := 103) dX10_letters_290 rfl ?_
      refine go_iconst (v := 0) dX10_letters_292 rfl ?_
      refine go_iconst (v := 0) dX10_letters_293 rfl ?_
      refine sg_cSi (M' := mX10_spelled) ([.int 116, .int 104, .int 105, .int 110, .int 103, .int 0, .int 0]) dX10_letters_294 lX10_150 sX10_spelled hS (q_spelled hS) rfl (Nat.le_of_ble_eq_true rfl) (Nat.zero_le _) (Nat.zero_le _) ?_
      refine go_lreturn dX10_letters_297 rfl (Nat.zero_le _) (Nat.zero_le _) ?_
      exact ⟨by rw [e]; exact congrArg (fun v => some (Value.long v)) (by decide +kernel), rfl⟩
    | 13, _, c1 =>
      have e := (nI_eq (by omega) (by omega)).mp c1
      refine go_bipush (v := 98) dX10_letters_298 rfl ?_
      refine go_bipush (v := 121) dX10_letters_300 rfl ?_
      refine go_iconst (v := 0) dX10_letters_302 rfl ?_
      refine go_iconst (v := 0) dX10_letters_303 rfl ?_
      refine go_iconst (v := 0) dX10_letters_304 rfl ?_
      refine go_iconst (v := 0) dX10_letters_305 rfl ?_
      refine go_iconst (v := 0) dX10_letters_306 rfl ?_
      refine sg_cSi (M' := mX10_spelled) ([.int 98, .int 121, .int 0, .int 0, .int 0, .int 0, .int 0]) dX10_letters_307 lX10_150 sX10_spelled hS (q_spelled hS) rfl (Nat.le_of_ble_eq_true rfl) (Nat.zero_le _) (Nat.zero_le _) ?_
      refine go_lreturn dX10_letters_310 rfl (Nat.zero_le _) (Nat.zero_le _) ?_
      exact ⟨by rw [e]; exact congrArg (fun v => some (Value.long v)) (by decide +kernel), rfl⟩
    | 14, _, c1 =>
      have e := (nI_eq (by omega) (by omega)).mp c1
      refine go_bipush (v := 116) dX10_letters_311 rfl ?_
      refine go_bipush (v := 101) dX10_letters_313 rfl ?_
      refine go_bipush (v := 114) dX10_letters_315 rfl ?_
      refine go_bipush (v := 109) dX10_letters_317 rfl ?_
      refine go_iconst (v := 0) dX10_letters_319 rfl ?_
      refine go_iconst (v := 0) dX10_letters_320 rfl ?_
      refine go_iconst (v := 0) dX10_letters_321 rfl ?_
      refine sg_cSi (M' := mX10_spelled) ([.int 116, .int 101, .int 114, .int 109, .int 0, .int 0, .int 0]) dX10_letters_322 lX10_150 sX10_spelled hS (q_spelled hS) rfl (Nat.le_of_ble_eq_true rfl) (Nat.zero_le _) (Nat.zero_le _) ?_
      refine go_lreturn dX10_letters_325 rfl (Nat.zero_le _) (Nat.zero_le _) ?_
      exact ⟨by rw [e]; exact congrArg (fun v => some (Value.long v)) (by decide +kernel), rfl⟩
    | 15, _, c1 =>
      have e := (nI_eq (by omega) (by omega)).mp c1
      refine go_bipush (v := 115) dX10_letters_326 rfl ?_
      refine go_bipush (v := 104) dX10_letters_328 rfl ?_
      refine go_bipush (v := 97) dX10_letters_330 rfl ?_
      refine go_bipush (v := 109) dX10_letters_332 rfl ?_
      refine go_bipush (v := 101) dX10_letters_334 rfl ?_
      refine go_bipush (v := 115) dX10_letters_336 rfl ?_
      refine go_iconst (v := 0) dX10_letters_338 rfl ?_
      refine sg_cSi (M' := mX10_spelled) ([.int 115, .int 104, .int 97, .int 109, .int 101, .int 115, .int 0]) dX10_letters_339 lX10_150 sX10_spelled hS (q_spelled hS) rfl (Nat.le_of_ble_eq_true rfl) (Nat.zero_le _) (Nat.zero_le _) ?_
      refine go_lreturn dX10_letters_342 rfl (Nat.zero_le _) (Nat.zero_le _) ?_
      exact ⟨by rw [e]; exact congrArg (fun v => some (Value.long v)) (by decide +kernel), rfl⟩
    | 16, _, c1 =>
      have e := (nI_eq (by omega) (by omega)).mp c1
      refine go_bipush (v := 114) dX10_letters_343 rfl ?_
      refine go_bipush (v := 101) dX10_letters_345 rfl ?_
      refine go_bipush (v := 116) dX10_letters_347 rfl ?_
      refine go_bipush (v := 117) dX10_letters_349 rfl ?_
      refine go_bipush (v := 114) dX10_letters_351 rfl ?_
      refine go_bipush (v := 110) dX10_letters_353 rfl ?_
      refine go_bipush (v := 115) dX10_letters_355 rfl ?_
      refine sg_cSi (M' := mX10_spelled) ([.int 114, .int 101, .int 116, .int 117, .int 114, .int 110, .int 115]) dX10_letters_357 lX10_150 sX10_spelled hS (q_spelled hS) rfl (Nat.le_of_ble_eq_true rfl) (Nat.zero_le _) (Nat.zero_le _) ?_
      refine go_lreturn dX10_letters_360 rfl (Nat.zero_le _) (Nat.zero_le _) ?_
      exact ⟨by rw [e]; exact congrArg (fun v => some (Value.long v)) (by decide +kernel), rfl⟩
    | 17, _, c1 =>
      have e := (nI_eq (by omega) (by omega)).mp c1
      refine go_bipush (v := 97) dX10_letters_361 rfl ?_
      refine go_bipush (v := 110) dX10_letters_363 rfl ?_
      refine go_bipush (v := 100) dX10_letters_365 rfl ?_
      refine go_iconst (v := 0) dX10_letters_367 rfl ?_
      refine go_iconst (v := 0) dX10_letters_368 rfl ?_
      refine go_iconst (v := 0) dX10_letters_369 rfl ?_
      refine go_iconst (v := 0) dX10_letters_370 rfl ?_
      refine sg_cSi (M' := mX10_spelled) ([.int 97, .int 110, .int 100, .int 0, .int 0, .int 0, .int 0]) dX10_letters_371 lX10_150 sX10_spelled hS (q_spelled hS) rfl (Nat.le_of_ble_eq_true rfl) (Nat.zero_le _) (Nat.zero_le _) ?_
      refine go_lreturn dX10_letters_374 rfl (Nat.zero_le _) (Nat.zero_le _) ?_
      exact ⟨by rw [e]; exact congrArg (fun v => some (Value.long v)) (by decide +kernel), rfl⟩
    | 18, _, c1 =>
      have e := (nI_eq (by omega) (by omega)).mp c1
      refine go_bipush (v := 111) dX10_letters_375 rfl ?_
      refine go_bipush (v := 114) dX10_letters_377 rfl ?_
      refine go_iconst (v := 0) dX10_letters_379 rfl ?_
      refine go_iconst (v := 0) dX10_letters_380 rfl ?_
      refine go_iconst (v := 0) dX10_letters_381 rfl ?_
      refine go_iconst (v := 0) dX10_letters_382 rfl ?_
      refine go_iconst (v := 0) dX10_letters_383 rfl ?_
      refine sg_cSi (M' := mX10_spelled) ([.int 111, .int 114, .int 0, .int 0, .int 0, .int 0, .int 0]) dX10_letters_384 lX10_150 sX10_spelled hS (q_spelled hS) rfl (Nat.le_of_ble_eq_true rfl) (Nat.zero_le _) (Nat.zero_le _) ?_
      refine go_lreturn dX10_letters_387 rfl (Nat.zero_le _) (Nat.zero_le _) ?_
      exact ⟨by rw [e]; exact congrArg (fun v => some (Value.long v)) (by decide +kernel), rfl⟩
    | (i + 19), hi, _ => exact absurd hi (by omega)
