/-- the references that never change: cell, field, the cell that it holds -/
def frefs : List (Nat × Nat × Nat) := [(0, 0, 1), (0, 3, 2), (0, 4, 3), (0, 7, 30), (0, 8, 42), (0, 9, 44), (0, 11, 48), (0, 12, 49), (0, 13, 51), (0, 14, 55), (0, 15, 70), (0, 16, 73), (3, 12, 5), (6, 4, 7), (6, 5, 8), (6, 6, 9), (6, 7, 10), (6, 8, 11), (6, 9, 12), (6, 10, 13), (6, 11, 14), (6, 12, 15), (6, 14, 16), (6, 15, 17), (18, 4, 19), (18, 5, 20), (18, 6, 21), (18, 7, 22), (18, 8, 23), (18, 9, 24), (18, 10, 25), (18, 11, 26), (18, 12, 27), (18, 14, 28), (18, 15, 29), (30, 3, 31), (30, 4, 32), (30, 5, 33), (30, 6, 34), (30, 7, 35), (30, 8, 36), (30, 9, 37), (30, 10, 38), (30, 11, 39), (30, 12, 40), (30, 13, 41), (42, 0, 43), (44, 1, 45), (44, 2, 46), (44, 3, 47), (49, 0, 50), (51, 1, 52), (51, 2, 53), (51, 3, 54), (55, 0, 56), (55, 2, 68), (55, 3, 69), (56, 3, 57), (56, 4, 58), (56, 5, 59), (56, 6, 60), (56, 7, 61), (56, 8, 62), (56, 9, 63), (56, 10, 64), (56, 11, 65), (56, 12, 66), (56, 13, 67), (70, 3, 71), (70, 4, 72), (73, 0, 74), (73, 1, 75), (73, 2, 76), (77, 7, 78), (77, 8, 79), (77, 9, 80), (77, 10, 81), (77, 11, 82), (77, 15, 83), (77, 35, 84), (77, 36, 85), (77, 37, 86), (77, 38, 87), (77, 39, 88), (77, 40, 89), (77, 41, 90), (77, 42, 91), (77, 43, 92), (77, 45, 93), (77, 46, 94), (77, 49, 95), (77, 50, 96), (77, 52, 97), (77, 53, 98), (77, 54, 99), (77, 59, 100), (77, 60, 101), (77, 61, 102)]
/-- the steady heap: all cells are made, and hold each other -/
def St (h : Hp) : Prop := hN h = nAll ∧ ∀ q ∈ frefs, hR h q.1 q.2.1 = some q.2.2
theorem st_r {h : Hp} (hS : St h) (a k b : Nat) (hm : (a, k, b) ∈ frefs := by decide) : hR h a k = some b := hS.2 (a, k, b) hm
theorem lay_lt {a : Nat} {x : Nat ⊕ (Nat × Nat)} (hx : x ≠ .inl 99) (h : lay a = x) : a < nAll := by
  rcases Nat.lt_or_ge a nAll with q | q
  · exact q
  · exact absurd h (fun z => hx (by rw [← z]; unfold lay; rw [List.getD_eq_getElem?_getD, List.getElem?_eq_none (by show layL.length ≤ a; exact q)]; rfl))
def ActsAt (b : Nat) : Prop := b = 42 ∨ b = 49
theorem ac_L {b : Nat} (hb : ActsAt b) : lay b = .inl 0 := by rcases hb with rfl | rfl <;> rfl
theorem ac_lt {b : Nat} (hb : ActsAt b) : b < 1000 := by rcases hb with rfl | rfl <;> decide
theorem ac_0 {b : Nat} (hb : ActsAt b) : lay (b + 1) = .inr (0, 760) := by rcases hb with rfl | rfl <;> rfl
theorem ac_r0 {h : Hp} {b : Nat} (hS : St h) (hb : ActsAt b) : hR h b 0 = some (b + 1) := by
  rcases hb with rfl | rfl
  · exact st_r hS 42 0 43
  · exact st_r hS 49 0 50
def CityAt (b : Nat) : Prop := b = 6 ∨ b = 18
theorem ct_L {b : Nat} (hb : CityAt b) : lay b = .inl 1 := by rcases hb with rfl | rfl <;> rfl
theorem ct_lt {b : Nat} (hb : CityAt b) : b < 1000 := by rcases hb with rfl | rfl <;> decide
theorem ct_4 {b : Nat} (hb : CityAt b) : lay (b + 1) = .inr (0, 8) := by rcases hb with rfl | rfl <;> rfl
theorem ct_r4 {h : Hp} {b : Nat} (hS : St h) (hb : CityAt b) : hR h b 4 = some (b + 1) := by
  rcases hb with rfl | rfl
  · exact st_r hS 6 4 7
  · exact st_r hS 18 4 19
theorem ct_5 {b : Nat} (hb : CityAt b) : lay (b + 2) = .inr (0, 8) := by rcases hb with rfl | rfl <;> rfl
theorem ct_r5 {h : Hp} {b : Nat} (hS : St h) (hb : CityAt b) : hR h b 5 = some (b + 2) := by
  rcases hb with rfl | rfl
  · exact st_r hS 6 5 8
  · exact st_r hS 18 5 20
theorem ct_6 {b : Nat} (hb : CityAt b) : lay (b + 3) = .inr (0, 8) := by rcases hb with rfl | rfl <;> rfl
theorem ct_r6 {h : Hp} {b : Nat} (hS : St h) (hb : CityAt b) : hR h b 6 = some (b + 3) := by
  rcases hb with rfl | rfl
  · exact st_r hS 6 6 9
  · exact st_r hS 18 6 21
theorem ct_7 {b : Nat} (hb : CityAt b) : lay (b + 4) = .inr (0, 48) := by rcases hb with rfl | rfl <;> rfl
theorem ct_r7 {h : Hp} {b : Nat} (hS : St h) (hb : CityAt b) : hR h b 7 = some (b + 4) := by
  rcases hb with rfl | rfl
  · exact st_r hS 6 7 10
  · exact st_r hS 18 7 22
theorem ct_8 {b : Nat} (hb : CityAt b) : lay (b + 5) = .inr (0, 10) := by rcases hb with rfl | rfl <;> rfl
theorem ct_r8 {h : Hp} {b : Nat} (hS : St h) (hb : CityAt b) : hR h b 8 = some (b + 5) := by
  rcases hb with rfl | rfl
  · exact st_r hS 6 8 11
  · exact st_r hS 18 8 23
theorem ct_9 {b : Nat} (hb : CityAt b) : lay (b + 6) = .inr (0, 10) := by rcases hb with rfl | rfl <;> rfl
theorem ct_r9 {h : Hp} {b : Nat} (hS : St h) (hb : CityAt b) : hR h b 9 = some (b + 6) := by
  rcases hb with rfl | rfl
  · exact st_r hS 6 9 12
  · exact st_r hS 18 9 24
theorem ct_10 {b : Nat} (hb : CityAt b) : lay (b + 7) = .inr (0, 10) := by rcases hb with rfl | rfl <;> rfl
theorem ct_r10 {h : Hp} {b : Nat} (hS : St h) (hb : CityAt b) : hR h b 10 = some (b + 7) := by
  rcases hb with rfl | rfl
  · exact st_r hS 6 10 13
  · exact st_r hS 18 10 25
theorem ct_11 {b : Nat} (hb : CityAt b) : lay (b + 8) = .inr (0, 10) := by rcases hb with rfl | rfl <;> rfl
theorem ct_r11 {h : Hp} {b : Nat} (hS : St h) (hb : CityAt b) : hR h b 11 = some (b + 8) := by
  rcases hb with rfl | rfl
  · exact st_r hS 6 11 14
  · exact st_r hS 18 11 26
theorem ct_12 {b : Nat} (hb : CityAt b) : lay (b + 9) = .inr (0, 700) := by rcases hb with rfl | rfl <;> rfl
theorem ct_r12 {h : Hp} {b : Nat} (hS : St h) (hb : CityAt b) : hR h b 12 = some (b + 9) := by
  rcases hb with rfl | rfl
  · exact st_r hS 6 12 15
  · exact st_r hS 18 12 27
theorem ct_14 {b : Nat} (hb : CityAt b) : lay (b + 10) = .inl 4 := by rcases hb with rfl | rfl <;> rfl
theorem ct_r14 {h : Hp} {b : Nat} (hS : St h) (hb : CityAt b) : hR h b 14 = some (b + 10) := by
  rcases hb with rfl | rfl
  · exact st_r hS 6 14 16
  · exact st_r hS 18 14 28
theorem ct_15 {b : Nat} (hb : CityAt b) : lay (b + 11) = .inl 4 := by rcases hb with rfl | rfl <;> rfl
theorem ct_r15 {h : Hp} {b : Nat} (hS : St h) (hb : CityAt b) : hR h b 15 = some (b + 11) := by
  rcases hb with rfl | rfl
  · exact st_r hS 6 15 17
  · exact st_r hS 18 15 29
def NotesAt (b : Nat) : Prop := b = 44 ∨ b = 51
theorem no_L {b : Nat} (hb : NotesAt b) : lay b = .inl 2 := by rcases hb with rfl | rfl <;> rfl
theorem no_lt {b : Nat} (hb : NotesAt b) : b < 1000 := by rcases hb with rfl | rfl <;> decide
theorem no_1 {b : Nat} (hb : NotesAt b) : lay (b + 1) = .inr (0, 8) := by rcases hb with rfl | rfl <;> rfl
theorem no_r1 {h : Hp} {b : Nat} (hS : St h) (hb : NotesAt b) : hR h b 1 = some (b + 1) := by
  rcases hb with rfl | rfl
  · exact st_r hS 44 1 45
  · exact st_r hS 51 1 52
theorem no_2 {b : Nat} (hb : NotesAt b) : lay (b + 2) = .inr (0, 8) := by rcases hb with rfl | rfl <;> rfl
theorem no_r2 {h : Hp} {b : Nat} (hS : St h) (hb : NotesAt b) : hR h b 2 = some (b + 2) := by
  rcases hb with rfl | rfl
  · exact st_r hS 44 2 46
  · exact st_r hS 51 2 53
theorem no_3 {b : Nat} (hb : NotesAt b) : lay (b + 3) = .inr (0, 8) := by rcases hb with rfl | rfl <;> rfl
theorem no_r3 {h : Hp} {b : Nat} (hS : St h) (hb : NotesAt b) : hR h b 3 = some (b + 3) := by
  rcases hb with rfl | rfl
  · exact st_r hS 44 3 47
  · exact st_r hS 51 3 54
def ReaderAt (b : Nat) : Prop := b = 3
theorem rd_L {b : Nat} (hb : ReaderAt b) : lay b = .inl 3 := by cases hb; rfl
theorem rd_lt {b : Nat} (hb : ReaderAt b) : b < 1000 := by cases hb <;> decide
theorem rd_12 {b : Nat} (hb : ReaderAt b) : lay (b + 2) = .inr (0, 128) := by cases hb; rfl
theorem rd_r12 {h : Hp} {b : Nat} (hS : St h) (hb : ReaderAt b) : hR h b 12 = some (b + 2) := by
  cases hb
  exact st_r hS 3 12 5
def RuleAt (b : Nat) : Prop := b = 16 ∨ b = 17 ∨ b = 28 ∨ b = 29
theorem ru_L {b : Nat} (hb : RuleAt b) : lay b = .inl 4 := by rcases hb with rfl | rfl | rfl | rfl <;> rfl
theorem ru_lt {b : Nat} (hb : RuleAt b) : b < 1000 := by rcases hb with rfl | rfl | rfl | rfl <;> decide
def TiesAt (b : Nat) : Prop := b = 73
theorem ti_L {b : Nat} (hb : TiesAt b) : lay b = .inl 5 := by cases hb; rfl
theorem ti_lt {b : Nat} (hb : TiesAt b) : b < 1000 := by cases hb <;> decide
theorem ti_0 {b : Nat} (hb : TiesAt b) : lay (b + 1) = .inr (0, 8) := by cases hb; rfl
theorem ti_r0 {h : Hp} {b : Nat} (hS : St h) (hb : TiesAt b) : hR h b 0 = some (b + 1) := by
  cases hb
  exact st_r hS 73 0 74
theorem ti_1 {b : Nat} (hb : TiesAt b) : lay (b + 2) = .inr (0, 256) := by cases hb; rfl
theorem ti_r1 {h : Hp} {b : Nat} (hS : St h) (hb : TiesAt b) : hR h b 1 = some (b + 2) := by
  cases hb
  exact st_r hS 73 1 75
theorem ti_2 {b : Nat} (hb : TiesAt b) : lay (b + 3) = .inr (0, 10) := by cases hb; rfl
theorem ti_r2 {h : Hp} {b : Nat} (hS : St h) (hb : TiesAt b) : hR h b 2 = some (b + 3) := by
  cases hb
  exact st_r hS 73 2 76
def TownAt (b : Nat) : Prop := b = 30 ∨ b = 56
theorem tw_L {b : Nat} (hb : TownAt b) : lay b = .inl 6 := by rcases hb with rfl | rfl <;> rfl
theorem tw_lt {b : Nat} (hb : TownAt b) : b < 1000 := by rcases hb with rfl | rfl <;> decide
theorem tw_3 {b : Nat} (hb : TownAt b) : lay (b + 1) = .inr (0, 8) := by rcases hb with rfl | rfl <;> rfl
theorem tw_r3 {h : Hp} {b : Nat} (hS : St h) (hb : TownAt b) : hR h b 3 = some (b + 1) := by
  rcases hb with rfl | rfl
  · exact st_r hS 30 3 31
  · exact st_r hS 56 3 57
theorem tw_4 {b : Nat} (hb : TownAt b) : lay (b + 2) = .inr (0, 8) := by rcases hb with rfl | rfl <;> rfl
theorem tw_r4 {h : Hp} {b : Nat} (hS : St h) (hb : TownAt b) : hR h b 4 = some (b + 2) := by
  rcases hb with rfl | rfl
  · exact st_r hS 30 4 32
  · exact st_r hS 56 4 58
theorem tw_5 {b : Nat} (hb : TownAt b) : lay (b + 3) = .inr (0, 48) := by rcases hb with rfl | rfl <;> rfl
theorem tw_r5 {h : Hp} {b : Nat} (hS : St h) (hb : TownAt b) : hR h b 5 = some (b + 3) := by
  rcases hb with rfl | rfl
  · exact st_r hS 30 5 33
  · exact st_r hS 56 5 59
theorem tw_6 {b : Nat} (hb : TownAt b) : lay (b + 4) = .inr (0, 10) := by rcases hb with rfl | rfl <;> rfl
theorem tw_r6 {h : Hp} {b : Nat} (hS : St h) (hb : TownAt b) : hR h b 6 = some (b + 4) := by
  rcases hb with rfl | rfl
  · exact st_r hS 30 6 34
  · exact st_r hS 56 6 60
theorem tw_7 {b : Nat} (hb : TownAt b) : lay (b + 5) = .inr (0, 10) := by rcases hb with rfl | rfl <;> rfl
theorem tw_r7 {h : Hp} {b : Nat} (hS : St h) (hb : TownAt b) : hR h b 7 = some (b + 5) := by
  rcases hb with rfl | rfl
  · exact st_r hS 30 7 35
  · exact st_r hS 56 7 61
theorem tw_8 {b : Nat} (hb : TownAt b) : lay (b + 6) = .inr (0, 10) := by rcases hb with rfl | rfl <;> rfl
theorem tw_r8 {h : Hp} {b : Nat} (hS : St h) (hb : TownAt b) : hR h b 8 = some (b + 6) := by
  rcases hb with rfl | rfl
  · exact st_r hS 30 8 36
  · exact st_r hS 56 8 62
theorem tw_9 {b : Nat} (hb : TownAt b) : lay (b + 7) = .inr (0, 10) := by rcases hb with rfl | rfl <;> rfl
theorem tw_r9 {h : Hp} {b : Nat} (hS : St h) (hb : TownAt b) : hR h b 9 = some (b + 7) := by
  rcases hb with rfl | rfl
  · exact st_r hS 30 9 37
  · exact st_r hS 56 9 63
theorem tw_10 {b : Nat} (hb : TownAt b) : lay (b + 8) = .inr (0, 6) := by rcases hb with rfl | rfl <;> rfl
theorem tw_r10 {h : Hp} {b : Nat} (hS : St h) (hb : TownAt b) : hR h b 10 = some (b + 8) := by
  rcases hb with rfl | rfl
  · exact st_r hS 30 10 38
  · exact st_r hS 56 10 64
theorem tw_11 {b : Nat} (hb : TownAt b) : lay (b + 9) = .inr (0, 8) := by rcases hb with rfl | rfl <;> rfl
theorem tw_r11 {h : Hp} {b : Nat} (hS : St h) (hb : TownAt b) : hR h b 11 = some (b + 9) := by
  rcases hb with rfl | rfl
  · exact st_r hS 30 11 39
  · exact st_r hS 56 11 65
theorem tw_12 {b : Nat} (hb : TownAt b) : lay (b + 10) = .inr (0, 9) := by rcases hb with rfl | rfl <;> rfl
theorem tw_r12 {h : Hp} {b : Nat} (hS : St h) (hb : TownAt b) : hR h b 12 = some (b + 10) := by
  rcases hb with rfl | rfl
  · exact st_r hS 30 12 40
  · exact st_r hS 56 12 66
theorem tw_13 {b : Nat} (hb : TownAt b) : lay (b + 11) = .inr (0, 64) := by rcases hb with rfl | rfl <;> rfl
theorem tw_r13 {h : Hp} {b : Nat} (hS : St h) (hb : TownAt b) : hR h b 13 = some (b + 11) := by
  rcases hb with rfl | rfl
  · exact st_r hS 30 13 41
  · exact st_r hS 56 13 67
def TrialsAt (b : Nat) : Prop := b = 55
theorem tr_L {b : Nat} (hb : TrialsAt b) : lay b = .inl 7 := by cases hb; rfl
theorem tr_lt {b : Nat} (hb : TrialsAt b) : b < 1000 := by cases hb <;> decide
theorem tr_0 {b : Nat} (hb : TrialsAt b) : lay (b + 1) = .inl 6 := by cases hb; rfl
theorem tr_r0 {h : Hp} {b : Nat} (hS : St h) (hb : TrialsAt b) : hR h b 0 = some (b + 1) := by
  cases hb
  exact st_r hS 55 0 56
theorem tr_2 {b : Nat} (hb : TrialsAt b) : lay (b + 13) = .inr (0, 4) := by cases hb; rfl
theorem tr_r2 {h : Hp} {b : Nat} (hS : St h) (hb : TrialsAt b) : hR h b 2 = some (b + 13) := by
  cases hb
  exact st_r hS 55 2 68
theorem tr_3 {b : Nat} (hb : TrialsAt b) : lay (b + 14) = .inr (0, 4) := by cases hb; rfl
theorem tr_r3 {h : Hp} {b : Nat} (hS : St h) (hb : TrialsAt b) : hR h b 3 = some (b + 14) := by
  cases hb
  exact st_r hS 55 3 69
def VanitiesAt (b : Nat) : Prop := b = 70
theorem va_L {b : Nat} (hb : VanitiesAt b) : lay b = .inl 8 := by cases hb; rfl
theorem va_lt {b : Nat} (hb : VanitiesAt b) : b < 1000 := by cases hb <;> decide
theorem va_3 {b : Nat} (hb : VanitiesAt b) : lay (b + 1) = .inr (0, 72) := by cases hb; rfl
theorem va_r3 {h : Hp} {b : Nat} (hS : St h) (hb : VanitiesAt b) : hR h b 3 = some (b + 1) := by
  cases hb
  exact st_r hS 70 3 71
theorem va_4 {b : Nat} (hb : VanitiesAt b) : lay (b + 2) = .inr (0, 720) := by cases hb; rfl
theorem va_r4 {h : Hp} {b : Nat} (hS : St h) (hb : VanitiesAt b) : hR h b 4 = some (b + 2) := by
  cases hb
  exact st_r hS 70 4 72
def WornAt (b : Nat) : Prop := b = 0
theorem wo_L {b : Nat} (hb : WornAt b) : lay b = .inl 9 := by cases hb; rfl
theorem wo_lt {b : Nat} (hb : WornAt b) : b < 1000 := by cases hb <;> decide
theorem wo_0 {b : Nat} (hb : WornAt b) : lay (b + 1) = .inr (1, 700) := by cases hb; rfl
theorem wo_r0 {h : Hp} {b : Nat} (hS : St h) (hb : WornAt b) : hR h b 0 = some (b + 1) := by
  cases hb
  exact st_r hS 0 0 1
theorem wo_3 {b : Nat} (hb : WornAt b) : lay (b + 2) = .inr (0, 3) := by cases hb; rfl
theorem wo_r3 {h : Hp} {b : Nat} (hS : St h) (hb : WornAt b) : hR h b 3 = some (b + 2) := by
  cases hb
  exact st_r hS 0 3 2
theorem wo_4 {b : Nat} (hb : WornAt b) : lay (b + 3) = .inl 3 := by cases hb; rfl
theorem wo_r4 {h : Hp} {b : Nat} (hS : St h) (hb : WornAt b) : hR h b 4 = some (b + 3) := by
  cases hb
  exact st_r hS 0 4 3
theorem wo_7 {b : Nat} (hb : WornAt b) : lay (b + 30) = .inl 6 := by cases hb; rfl
theorem wo_r7 {h : Hp} {b : Nat} (hS : St h) (hb : WornAt b) : hR h b 7 = some (b + 30) := by
  cases hb
  exact st_r hS 0 7 30
theorem wo_8 {b : Nat} (hb : WornAt b) : lay (b + 42) = .inl 0 := by cases hb; rfl
theorem wo_r8 {h : Hp} {b : Nat} (hS : St h) (hb : WornAt b) : hR h b 8 = some (b + 42) := by
  cases hb
  exact st_r hS 0 8 42
theorem wo_9 {b : Nat} (hb : WornAt b) : lay (b + 44) = .inl 2 := by cases hb; rfl
theorem wo_r9 {h : Hp} {b : Nat} (hS : St h) (hb : WornAt b) : hR h b 9 = some (b + 44) := by
  cases hb
  exact st_r hS 0 9 44
theorem wo_11 {b : Nat} (hb : WornAt b) : lay (b + 48) = .inr (0, 19) := by cases hb; rfl
theorem wo_r11 {h : Hp} {b : Nat} (hS : St h) (hb : WornAt b) : hR h b 11 = some (b + 48) := by
  cases hb
  exact st_r hS 0 11 48
theorem wo_12 {b : Nat} (hb : WornAt b) : lay (b + 49) = .inl 0 := by cases hb; rfl
theorem wo_r12 {h : Hp} {b : Nat} (hS : St h) (hb : WornAt b) : hR h b 12 = some (b + 49) := by
  cases hb
  exact st_r hS 0 12 49
theorem wo_13 {b : Nat} (hb : WornAt b) : lay (b + 51) = .inl 2 := by cases hb; rfl
theorem wo_r13 {h : Hp} {b : Nat} (hS : St h) (hb : WornAt b) : hR h b 13 = some (b + 51) := by
  cases hb
  exact st_r hS 0 13 51
theorem wo_14 {b : Nat} (hb : WornAt b) : lay (b + 55) = .inl 7 := by cases hb; rfl
theorem wo_r14 {h : Hp} {b : Nat} (hS : St h) (hb : WornAt b) : hR h b 14 = some (b + 55) := by
  cases hb
  exact st_r hS 0 14 55
theorem wo_15 {b : Nat} (hb : WornAt b) : lay (b + 70) = .inl 8 := by cases hb; rfl
theorem wo_r15 {h : Hp} {b : Nat} (hS : St h) (hb : WornAt b) : hR h b 15 = some (b + 70) := by
  cases hb
  exact st_r hS 0 15 70
theorem wo_16 {b : Nat} (hb : WornAt b) : lay (b + 73) = .inl 5 := by cases hb; rfl
theorem wo_r16 {h : Hp} {b : Nat} (hS : St h) (hb : WornAt b) : hR h b 16 = some (b + 73) := by
  cases hb
  exact st_r hS 0 16 73
def ModAt (b : Nat) : Prop := b = 77
theorem mo_L {b : Nat} (hb : ModAt b) : lay b = .inl 10 := by cases hb; rfl
theorem mo_lt {b : Nat} (hb : ModAt b) : b < 1000 := by cases hb <;> decide
theorem mo_7 {b : Nat} (hb : ModAt b) : lay (b + 1) = .inr (0, 8) := by cases hb; rfl
theorem mo_r7 {h : Hp} {b : Nat} (hS : St h) (hb : ModAt b) : hR h b 7 = some (b + 1) := by
  cases hb
  exact st_r hS 77 7 78
theorem mo_8 {b : Nat} (hb : ModAt b) : lay (b + 2) = .inr (0, 10) := by cases hb; rfl
theorem mo_r8 {h : Hp} {b : Nat} (hS : St h) (hb : ModAt b) : hR h b 8 = some (b + 2) := by
  cases hb
  exact st_r hS 77 8 79
theorem mo_9 {b : Nat} (hb : ModAt b) : lay (b + 3) = .inr (0, 1400) := by cases hb; rfl
theorem mo_r9 {h : Hp} {b : Nat} (hS : St h) (hb : ModAt b) : hR h b 9 = some (b + 3) := by
  cases hb
  exact st_r hS 77 9 80
theorem mo_10 {b : Nat} (hb : ModAt b) : lay (b + 4) = .inr (3, 8) := by cases hb; rfl
theorem mo_r10 {h : Hp} {b : Nat} (hS : St h) (hb : ModAt b) : hR h b 10 = some (b + 4) := by
  cases hb
  exact st_r hS 77 10 81
theorem mo_11 {b : Nat} (hb : ModAt b) : lay (b + 5) = .inr (0, 700) := by cases hb; rfl
theorem mo_r11 {h : Hp} {b : Nat} (hS : St h) (hb : ModAt b) : hR h b 11 = some (b + 5) := by
  cases hb
  exact st_r hS 77 11 82
theorem mo_15 {b : Nat} (hb : ModAt b) : lay (b + 6) = .inr (0, 3) := by cases hb; rfl
theorem mo_r15 {h : Hp} {b : Nat} (hS : St h) (hb : ModAt b) : hR h b 15 = some (b + 6) := by
  cases hb
  exact st_r hS 77 15 83
theorem mo_35 {b : Nat} (hb : ModAt b) : lay (b + 7) = .inr (0, 8) := by cases hb; rfl
theorem mo_r35 {h : Hp} {b : Nat} (hS : St h) (hb : ModAt b) : hR h b 35 = some (b + 7) := by
  cases hb
  exact st_r hS 77 35 84
theorem mo_36 {b : Nat} (hb : ModAt b) : lay (b + 8) = .inr (0, 10) := by cases hb; rfl
theorem mo_r36 {h : Hp} {b : Nat} (hS : St h) (hb : ModAt b) : hR h b 36 = some (b + 8) := by
  cases hb
  exact st_r hS 77 36 85
theorem mo_37 {b : Nat} (hb : ModAt b) : lay (b + 9) = .inr (0, 105) := by cases hb; rfl
theorem mo_r37 {h : Hp} {b : Nat} (hS : St h) (hb : ModAt b) : hR h b 37 = some (b + 9) := by
  cases hb
  exact st_r hS 77 37 86
theorem mo_38 {b : Nat} (hb : ModAt b) : lay (b + 10) = .inr (0, 1400) := by cases hb; rfl
theorem mo_r38 {h : Hp} {b : Nat} (hS : St h) (hb : ModAt b) : hR h b 38 = some (b + 10) := by
  cases hb
  exact st_r hS 77 38 87
theorem mo_39 {b : Nat} (hb : ModAt b) : lay (b + 11) = .inr (0, 950) := by cases hb; rfl
theorem mo_r39 {h : Hp} {b : Nat} (hS : St h) (hb : ModAt b) : hR h b 39 = some (b + 11) := by
  cases hb
  exact st_r hS 77 39 88
theorem mo_40 {b : Nat} (hb : ModAt b) : lay (b + 12) = .inr (3, 8) := by cases hb; rfl
theorem mo_r40 {h : Hp} {b : Nat} (hS : St h) (hb : ModAt b) : hR h b 40 = some (b + 12) := by
  cases hb
  exact st_r hS 77 40 89
theorem mo_41 {b : Nat} (hb : ModAt b) : lay (b + 13) = .inr (3, 9) := by cases hb; rfl
theorem mo_r41 {h : Hp} {b : Nat} (hS : St h) (hb : ModAt b) : hR h b 41 = some (b + 13) := by
  cases hb
  exact st_r hS 77 41 90
theorem mo_42 {b : Nat} (hb : ModAt b) : lay (b + 14) = .inr (0, 210) := by cases hb; rfl
theorem mo_r42 {h : Hp} {b : Nat} (hS : St h) (hb : ModAt b) : hR h b 42 = some (b + 14) := by
  cases hb
  exact st_r hS 77 42 91
theorem mo_43 {b : Nat} (hb : ModAt b) : lay (b + 15) = .inr (0, 4200) := by cases hb; rfl
theorem mo_r43 {h : Hp} {b : Nat} (hS : St h) (hb : ModAt b) : hR h b 43 = some (b + 15) := by
  cases hb
  exact st_r hS 77 43 92
theorem mo_45 {b : Nat} (hb : ModAt b) : lay (b + 16) = .inr (0, 9) := by cases hb; rfl
theorem mo_r45 {h : Hp} {b : Nat} (hS : St h) (hb : ModAt b) : hR h b 45 = some (b + 16) := by
  cases hb
  exact st_r hS 77 45 93
theorem mo_46 {b : Nat} (hb : ModAt b) : lay (b + 17) = .inr (0, 950) := by cases hb; rfl
theorem mo_r46 {h : Hp} {b : Nat} (hS : St h) (hb : ModAt b) : hR h b 46 = some (b + 17) := by
  cases hb
  exact st_r hS 77 46 94
theorem mo_49 {b : Nat} (hb : ModAt b) : lay (b + 18) = .inr (0, 2816) := by cases hb; rfl
theorem mo_r49 {h : Hp} {b : Nat} (hS : St h) (hb : ModAt b) : hR h b 49 = some (b + 18) := by
  cases hb
  exact st_r hS 77 49 95
theorem mo_50 {b : Nat} (hb : ModAt b) : lay (b + 19) = .inr (0, 6) := by cases hb; rfl
theorem mo_r50 {h : Hp} {b : Nat} (hS : St h) (hb : ModAt b) : hR h b 50 = some (b + 19) := by
  cases hb
  exact st_r hS 77 50 96
theorem mo_52 {b : Nat} (hb : ModAt b) : lay (b + 20) = .inr (0, 24) := by cases hb; rfl
theorem mo_r52 {h : Hp} {b : Nat} (hS : St h) (hb : ModAt b) : hR h b 52 = some (b + 20) := by
  cases hb
  exact st_r hS 77 52 97
theorem mo_53 {b : Nat} (hb : ModAt b) : lay (b + 21) = .inr (0, 20) := by cases hb; rfl
theorem mo_r53 {h : Hp} {b : Nat} (hS : St h) (hb : ModAt b) : hR h b 53 = some (b + 21) := by
  cases hb
  exact st_r hS 77 53 98
theorem mo_54 {b : Nat} (hb : ModAt b) : lay (b + 22) = .inr (0, 1600) := by cases hb; rfl
theorem mo_r54 {h : Hp} {b : Nat} (hS : St h) (hb : ModAt b) : hR h b 54 = some (b + 22) := by
  cases hb
  exact st_r hS 77 54 99
theorem mo_59 {b : Nat} (hb : ModAt b) : lay (b + 23) = .inr (0, 105) := by cases hb; rfl
theorem mo_r59 {h : Hp} {b : Nat} (hS : St h) (hb : ModAt b) : hR h b 59 = some (b + 23) := by
  cases hb
  exact st_r hS 77 59 100
theorem mo_60 {b : Nat} (hb : ModAt b) : lay (b + 24) = .inr (0, 4200) := by cases hb; rfl
theorem mo_r60 {h : Hp} {b : Nat} (hS : St h) (hb : ModAt b) : hR h b 60 = some (b + 24) := by
  cases hb
  exact st_r hS 77 60 101
theorem mo_61 {b : Nat} (hb : ModAt b) : lay (b + 25) = .inr (0, 24) := by cases hb; rfl
theorem mo_r61 {h : Hp} {b : Nat} (hS : St h) (hb : ModAt b) : hR h b 61 = some (b + 25) := by
  cases hb
  exact st_r hS 77 61 102
theorem ct_sh {b : Nat} (hb : CityAt b) : RuleAt (b + 10) := by rcases hb with rfl | rfl <;> simp [RuleAt]
theorem ct_re {b : Nat} (hb : CityAt b) : RuleAt (b + 11) := by rcases hb with rfl | rfl <;> simp [RuleAt]
section
variable {l : Launch} {R : Room} {M : MI} {n0 : Nat} {Z : ZT} {pc : Nat} {lv : List (Option Value)} {st : List Value} {h : Hp} {u w : Nat}
theorem ne_o {ci : Nat} (hci : ci < 11) : (Sum.inl ci : Nat ⊕ (Nat × Nat)) ≠ .inl 99 := fun q => by cases q; omega
theorem ne_a {x : Nat × Nat} : (Sum.inr x : Nat ⊕ (Nat × Nat)) ≠ .inl 99 := fun q => by cases q
theorem sg_getI {idx ci k a : Nat} (hd : decode M.2.1 pc = .ok (.getfield idx, 3)) (hf : FL M.1.cls idx ci k) (hk : fk ci k = 0) (ha : lay a = .inl ci) (hS : St h) (kk : Go l R M n0 Z (pc + 3) lv (.int (hI h a k) :: st) h u w) : Go l R M n0 Z pc lv (.ref a :: st) h u w := go_getI hd hf hk ha (by rw [hS.1]; exact lay_lt (ne_o hf.1) ha) kk
theorem sg_getJ {idx ci k a : Nat} (hd : decode M.2.1 pc = .ok (.getfield idx, 3)) (hf : FL M.1.cls idx ci k) (hk : fk ci k = 1) (ha : lay a = .inl ci) (hS : St h) (kk : Go l R M n0 Z (pc + 3) lv (.long (hJ h a k) :: st) h u w) : Go l R M n0 Z pc lv (.ref a :: st) h u w := go_getJ hd hf hk ha (by rw [hS.1]; exact lay_lt (ne_o hf.1) ha) kk
theorem sg_getR {idx ci k a b : Nat} (hd : decode M.2.1 pc = .ok (.getfield idx, 3)) (hf : FL M.1.cls idx ci k) (hk : fk ci k = 2) (ha : lay a = .inl ci) (hS : St h) (hb : hR h a k = some b) (kk : Go l R M n0 Z (pc + 3) lv (.ref b :: st) h u w) : Go l R M n0 Z pc lv (.ref a :: st) h u w := go_getR hd hf hk ha (by rw [hS.1]; exact lay_lt (ne_o hf.1) ha) hb kk
theorem sg_putI {idx ci k a : Nat} {v : Int32} (hd : decode M.2.1 pc = .ok (.putfield idx, 3)) (hf : FL M.1.cls idx ci k) (hk : clY ci k = .int) (hfin : (clT ci k).2.2.2 = false) (ha : lay a = .inl ci) (hS : St h) (kk : Go l R M n0 Z (pc + 3) lv st (uI h a k v) u w) : Go l R M n0 Z pc lv (.int v :: .ref a :: st) h u w := go_putI hd hf hk hfin ha (by rw [hS.1]; exact lay_lt (ne_o hf.1) ha) kk
theorem sg_putJ {idx ci k a : Nat} {v : Int64} (hd : decode M.2.1 pc = .ok (.putfield idx, 3)) (hf : FL M.1.cls idx ci k) (hk : clY ci k = .long) (hfin : (clT ci k).2.2.2 = false) (ha : lay a = .inl ci) (hS : St h) (kk : Go l R M n0 Z (pc + 3) lv st (uJ h a k v) u w) : Go l R M n0 Z pc lv (.long v :: .ref a :: st) h u w := go_putJ hd hf hk hfin ha (by rw [hS.1]; exact lay_lt (ne_o hf.1) ha) kk
theorem sg_putZ {idx ci k a : Nat} {v : Int32} (hd : decode M.2.1 pc = .ok (.putfield idx, 3)) (hf : FL M.1.cls idx ci k) (hk : clY ci k = .boolean) (hfin : (clT ci k).2.2.2 = false) (ha : lay a = .inl ci) (hS : St h) (h01 : v = 0 ∨ v = 1) (kk : Go l R M n0 Z (pc + 3) lv st (uI h a k v) u w) : Go l R M n0 Z pc lv (.int v :: .ref a :: st) h u w := go_putZ hd hf hk hfin ha (by rw [hS.1]; exact lay_lt (ne_o hf.1) ha) h01 kk
theorem sg_putR {idx ci k a b : Nat} (hd : decode M.2.1 pc = .ok (.putfield idx, 3)) (hf : FL M.1.cls idx ci k) (hk : isRT (clY ci k) = true) (hfin : (clT ci k).2.2.2 = false) (ha : lay a = .inl ci) (hS : St h) (kk : Go l R M n0 Z (pc + 3) lv st (uR h a k (some b)) u w) : Go l R M n0 Z pc lv (.ref b :: .ref a :: st) h u w := go_putR hd hf hk hfin ha (by rw [hS.1]; exact lay_lt (ne_o hf.1) ha) kk
theorem sg_iald {a n : Nat} {i : Int32} (hd : decode M.2.1 pc = .ok (.iaload, 1)) (ha : lay a = .inr (0, n)) (hS : St h) (hi : vp_in i n) (kk : Go l R M n0 Z (pc + 1) lv (.int (hI h a i.toNatClampNeg) :: st) h u w) : Go l R M n0 Z pc lv (.int i :: .ref a :: st) h u w := go_iald hd ha (by rw [hS.1]; exact lay_lt ne_a ha) hi kk
theorem sg_bald {a n : Nat} {i : Int32} (hd : decode M.2.1 pc = .ok (.baload, 1)) (ha : lay a = .inr (1, n)) (hS : St h) (hi : vp_in i n) (kk : Go l R M n0 Z (pc + 1) lv (.int (hI h a i.toNatClampNeg) :: st) h u w) : Go l R M n0 Z pc lv (.int i :: .ref a :: st) h u w := go_bald hd ha (by rw [hS.1]; exact lay_lt ne_a ha) hi kk
theorem sg_zald {a n : Nat} {i : Int32} (hd : decode M.2.1 pc = .ok (.baload, 1)) (ha : lay a = .inr (3, n)) (hS : St h) (hi : vp_in i n) (kk : Go l R M n0 Z (pc + 1) lv (.int (hI h a i.toNatClampNeg) :: st) h u w) : Go l R M n0 Z pc lv (.int i :: .ref a :: st) h u w := go_zald hd ha (by rw [hS.1]; exact lay_lt ne_a ha) hi kk
theorem sg_lald {a n : Nat} {i : Int32} (hd : decode M.2.1 pc = .ok (.laload, 1)) (ha : lay a = .inr (2, n)) (hS : St h) (hi : vp_in i n) (kk : Go l R M n0 Z (pc + 1) lv (.long (hJ h a i.toNatClampNeg) :: st) h u w) : Go l R M n0 Z pc lv (.int i :: .ref a :: st) h u w := go_lald hd ha (by rw [hS.1]; exact lay_lt ne_a ha) hi kk
theorem sg_iast {a n : Nat} {i : Int32} {x : Int32} (hd : decode M.2.1 pc = .ok (.iastore, 1)) (ha : lay a = .inr (0, n)) (hS : St h) (hi : vp_in i n) (kk : Go l R M n0 Z (pc + 1) lv st (uI h a i.toNatClampNeg x) u w) : Go l R M n0 Z pc lv (.int x :: .int i :: .ref a :: st) h u w := go_iast hd ha (by rw [hS.1]; exact lay_lt ne_a ha) hi kk
theorem sg_bast {a n : Nat} {i : Int32} {x : Int32} (hd : decode M.2.1 pc = .ok (.bastore, 1)) (ha : lay a = .inr (1, n)) (hS : St h) (hi : vp_in i n) (kk : Go l R M n0 Z (pc + 1) lv st (uI h a i.toNatClampNeg (vp_nar .byte x)) u w) : Go l R M n0 Z pc lv (.int x :: .int i :: .ref a :: st) h u w := go_bast hd ha (by rw [hS.1]; exact lay_lt ne_a ha) hi kk
theorem sg_zast {a n : Nat} {i : Int32} {x : Int32} (hd : decode M.2.1 pc = .ok (.bastore, 1)) (ha : lay a = .inr (3, n)) (hS : St h) (hi : vp_in i n) (kk : Go l R M n0 Z (pc + 1) lv st (uI h a i.toNatClampNeg (vp_nar .boolean x)) u w) : Go l R M n0 Z pc lv (.int x :: .int i :: .ref a :: st) h u w := go_zast hd ha (by rw [hS.1]; exact lay_lt ne_a ha) hi kk
theorem sg_last {a n : Nat} {i : Int32} {x : Int64} (hd : decode M.2.1 pc = .ok (.lastore, 1)) (ha : lay a = .inr (2, n)) (hS : St h) (hi : vp_in i n) (kk : Go l R M n0 Z (pc + 1) lv st (uJ h a i.toNatClampNeg x) u w) : Go l R M n0 Z pc lv (.long x :: .int i :: .ref a :: st) h u w := go_last hd ha (by rw [hS.1]; exact lay_lt ne_a ha) hi kk
theorem sg_alen {a ty n : Nat} {v : Int32} (hd : decode M.2.1 pc = .ok (.arraylength, 1)) (ha : lay a = .inr (ty, n)) (hS : St h) (hv : Int32.ofNat n = v) (kk : Go l R M n0 Z (pc + 1) lv (.int v :: st) h u w) : Go l R M n0 Z pc lv (.ref a :: st) h u w := go_alen hd ha (by rw [hS.1]; exact lay_lt ne_a ha) hv kk
/-- a virtual call that makes nothing and doesn't throw; d' frames are left for it -/
theorem sg_callV {M' : MI} (as : List Value) {a ci idx d : Nat} {B0 : Nat × Nat} {Q' : Option Value → Hp → Prop} {stk : List Value} (hd : decode M.2.1 pc = .ok (.invokevirtual idx, 3)) (hl : inG (.methodLink M.1.cls idx M'.1)) (hc : CV M' as.length) (ha : lay a = .inl ci) (hci : ci < 11) (hcl : clR ci = M'.1.cls) (hS : St h)
    (hr : Run l d (0, 0) M' (.ref a :: as) h Q' noX) (hstk : stk = as.reverse ++ .ref a :: st) (hst : (st.map (fun v => v.category)).sum ≤ 8) (hu : u ≤ B0.1) (hw : w ≤ B0.2)
    (kk : ∀ v h', Q' v h' → Go l (rmOf (d + 1) B0) M n0 Z (pc + 3) lv (v.toList ++ st) h' u w) : Go l (rmOf (d + 1) B0) M n0 Z pc lv stk h u w :=
  go_callV_ hd hl hc ha hci hcl (by rw [hS.1]; exact lay_lt (ne_o hci) ha) hr hstk hst (Nat.le_refl _) (Nat.le_of_eq (Nat.mul_succ 40 d).symm) hu hw (fun q => absurd hS.1 (Nat.ne_of_lt q)) kk (fun _ _ q => q.elim)
theorem sg_callS {M' : MI} (as : List Value) {idx d : Nat} {B0 : Nat × Nat} {Q' : Option Value → Hp → Prop} {stk : List Value} (hd : decode M.2.1 pc = .ok (.invokestatic idx, 3)) (hl : inG (.methodLink M.1.cls idx M'.1)) (hc : CS M' as.length) (hS : St h)
    (hr : Run l d (0, 0) M' as h Q' noX) (hstk : stk = as.reverse ++ st) (hst : (st.map (fun v => v.category)).sum ≤ 8) (hu : u ≤ B0.1) (hw : w ≤ B0.2)
    (kk : ∀ v h', Q' v h' → Go l (rmOf (d + 1) B0) M n0 Z (pc + 3) lv (v.toList ++ st) h' u w) : Go l (rmOf (d + 1) B0) M n0 Z pc lv stk h u w :=
  go_callS_ hd hl hc hr hstk hst (Nat.le_refl _) (Nat.le_of_eq (Nat.mul_succ 40 d).symm) hu hw (fun q => absurd hS.1 (Nat.ne_of_lt q)) kk (fun _ _ q => q.elim)
theorem Run.mono {d : Nat} {B : Nat × Nat} {M' : MI} {as : List Value} {Q Q' : Option Value → Hp → Prop} {X X' : String → Hp → Prop} (hr : Run l d B M' as h Q X) (hq : ∀ v h', Q v h' → Q' v h') (hx : ∀ E h', X E h' → X' E h') : Run l d B M' as h Q' X' := by
  intro D A ρ cA hRH
  refine MetFree.mono (hr D A ρ cA hRH) (fun _ _ q => q) (fun _ _ _ _ _ q => q) ?_
  intro a st o t hPc hQ
  rcases hQ with ⟨⟨⟨v, h', cA', e1, e2, e3⟩, e4⟩, e5⟩ | ⟨q, e1, E, ce, L, ⟨⟨h', cA', g1, g2⟩, g3⟩, g4⟩
  · exact Or.inl ⟨⟨⟨v, h', cA', e1, hq v h' e2, e3⟩, e4⟩, e5⟩
  · exact Or.inr ⟨q, e1, E, ce, L, ⟨⟨h', cA', hx E h' g1, g2⟩, g3⟩, g4⟩
theorem run_lv {d : Nat} {B : Nat × Nat} {M' : MI} {as : List Value} {Q : Option Value → Hp → Prop} {X : String → Hp → Prop} (lv : List (Option Value)) (hlv : ent as M'.2.2.1 = lv := by rfl) (hpl : plainName M'.1.cls = true := by decide) (hh : M'.2.2.2.2 = [] := by rfl) (hc : (as.all fun v => v.category == 1) = true := by rfl) (hl : as.length ≤ M'.2.2.1 := by exact Nat.le_of_ble_eq_true rfl)
    (go : Go l (rmOf d B) M' (hN h) (Zm B Q X) 0 lv [] h 0 0) : Run l d B M' as h Q X := run_of hpl hh (fun v hv => by have := List.all_eq_true.mp hc v hv; simpa using this) hl (by rw [hlv]; exact go)
end
