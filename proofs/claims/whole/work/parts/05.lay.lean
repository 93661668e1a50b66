/-- which cells the law makes, in their order: an object of a class, or an array: its type (0 int, 1 byte, 2 long, 3 boolean) and its length -/
def layL : List (Nat ⊕ (Nat × Nat)) := [.inl 9, .inr (1, 700), .inr (0, 3), .inl 3, .inr (1, 0), .inr (0, 128), .inl 1, .inr (0, 8), .inr (0, 8), .inr (0, 8), .inr (0, 48), .inr (0, 10), .inr (0, 10), .inr (0, 10), .inr (0, 10), .inr (0, 700), .inl 4, .inl 4, .inl 1, .inr (0, 8), .inr (0, 8), .inr (0, 8), .inr (0, 48), .inr (0, 10), .inr (0, 10), .inr (0, 10), .inr (0, 10), .inr (0, 700), .inl 4, .inl 4, .inl 6, .inr (0, 8), .inr (0, 8), .inr (0, 48), .inr (0, 10), .inr (0, 10), .inr (0, 10), .inr (0, 10), .inr (0, 6), .inr (0, 8), .inr (0, 9), .inr (0, 64), .inl 0, .inr (0, 760), .inl 2, .inr (0, 8), .inr (0, 8), .inr (0, 8), .inr (0, 19), .inl 0, .inr (0, 760), .inl 2, .inr (0, 8), .inr (0, 8), .inr (0, 8), .inl 7, .inl 6, .inr (0, 8), .inr (0, 8), .inr (0, 48), .inr (0, 10), .inr (0, 10), .inr (0, 10), .inr (0, 10), .inr (0, 6), .inr (0, 8), .inr (0, 9), .inr (0, 64), .inr (0, 4), .inr (0, 4), .inl 8, .inr (0, 72), .inr (0, 720), .inl 5, .inr (0, 8), .inr (0, 256), .inr (0, 10), .inl 10, .inr (0, 8), .inr (0, 10), .inr (0, 1400), .inr (3, 8), .inr (0, 700), .inr (0, 3), .inr (0, 8), .inr (0, 10), .inr (0, 105), .inr (0, 1400), .inr (0, 950), .inr (3, 8), .inr (3, 9), .inr (0, 210), .inr (0, 4200), .inr (0, 9), .inr (0, 950), .inr (0, 2816), .inr (0, 6), .inr (0, 24), .inr (0, 20), .inr (0, 1600), .inr (0, 105), .inr (0, 4200), .inr (0, 24), .inr (2, 1)]
def lay (i : Nat) : Nat ⊕ (Nat × Nat) := layL.getD i (.inl 99)
abbrev nAll : Nat := 104
def clR (ci : Nat) : String := match ci with
  | 0 => RX0
  | 1 => RX1
  | 2 => RX2
  | 3 => RX3
  | 4 => RX4
  | 5 => RX5
  | 6 => RX6
  | 7 => RX7
  | 8 => RX8
  | 9 => RX9
  | _ => RX10
def clT (ci : Nat) : u_T := match ci with
  | 0 => TX0
  | 1 => TX1
  | 2 => TX2
  | 3 => TX3
  | 4 => TX4
  | 5 => TX5
  | 6 => TX6
  | 7 => TX7
  | 8 => TX8
  | 9 => TX9
  | _ => TX10
def clY (ci : Nat) : Nat → FieldType := match ci with
  | 0 => tyX0
  | 1 => tyX1
  | 2 => tyX2
  | 3 => tyX3
  | 4 => tyX4
  | 5 => tyX5
  | 6 => tyX6
  | 7 => tyX7
  | 8 => tyX8
  | 9 => tyX9
  | _ => tyX10
def clN (ci : Nat) : Nat := match ci with
  | 0 => 3
  | 1 => 16
  | 2 => 4
  | 3 => 18
  | 4 => 2
  | 5 => 4
  | 6 => 14
  | 7 => 4
  | 8 => 5
  | 9 => 17
  | _ => 62
/-- of which kind a field is: 0 int, boolean; 1 long; 2 a reference -/
def fkOf : FieldType → Nat
  | .int => 0 | .boolean => 0 | .long => 1 | _ => 2
def fk (ci k : Nat) : Nat := fkOf (clY ci k)
theorem cl_at : ∀ ci, ci < 11 → vwCl[ci]? = some (clR ci, clT ci, clN ci) := by
  intro ci h
  match ci, h with
  | 0, _ => rfl
  | 1, _ => rfl
  | 2, _ => rfl
  | 3, _ => rfl
  | 4, _ => rfl
  | 5, _ => rfl
  | 6, _ => rfl
  | 7, _ => rfl
  | 8, _ => rfl
  | 9, _ => rfl
  | 10, _ => rfl
theorem cl_ty : ∀ ci, ci < 11 → ∀ k, k < clN ci → parseFieldDescriptor (clT ci k).2.2.1 = some (clY ci k) := by
  intro ci h
  match ci, h with
  | 0, _ => exact tyX0_ok
  | 1, _ => exact tyX1_ok
  | 2, _ => exact tyX2_ok
  | 3, _ => exact tyX3_ok
  | 4, _ => exact tyX4_ok
  | 5, _ => exact tyX5_ok
  | 6, _ => exact tyX6_ok
  | 7, _ => exact tyX7_ok
  | 8, _ => exact tyX8_ok
  | 9, _ => exact tyX9_ok
  | 10, _ => exact tyX10_ok
theorem cl_nm : ∀ ci, ci < 11 → ∀ a, a < clN ci → ∀ b, b < clN ci → a ≠ b → (clT ci a).2.1 ≠ (clT ci b).2.1 := by
  intro ci h
  match ci, h with
  | 0, _ => exact nmX0
  | 1, _ => exact nmX1
  | 2, _ => exact nmX2
  | 3, _ => exact nmX3
  | 4, _ => exact nmX4
  | 5, _ => exact nmX5
  | 6, _ => exact nmX6
  | 7, _ => exact nmX7
  | 8, _ => exact nmX8
  | 9, _ => exact nmX9
  | 10, _ => exact nmX10
/-- a word of the tables that stays when the tables warm -/
def inG (w : Cond) : Prop := w ∈ lw_tbl ∧ goodWord w = true
def lw_good : List Cond := lw_tbl.filter goodWord
theorem inG_mem {w : Cond} (h : inG w) : w ∈ lw_good := List.mem_filter.mpr h
theorem inG_of (i : Nat) {w : Cond} (h : lw_tbl[i]? = some w) (g : goodWord w = true) : inG w := ⟨List.mem_of_getElem? h, g⟩
set_option maxRecDepth 100000 in
theorem cl_lay0 : GoodIn lw_tbl (u_ws RX0 TX0 3) := goodIn_r _ [427, 429, 431] (by decide +kernel) (by decide +kernel)
set_option maxRecDepth 100000 in
theorem cl_lay1 : GoodIn lw_tbl (u_ws RX1 TX1 16) := goodIn_r _ [311, 313, 315, 317, 319, 321, 323, 325, 327, 329, 331, 333, 335, 337, 339, 341] (by decide +kernel) (by decide +kernel)
set_option maxRecDepth 100000 in
theorem cl_lay2 : GoodIn lw_tbl (u_ws RX2 TX2 4) := goodIn_r _ [445, 447, 449, 451] (by decide +kernel) (by decide +kernel)
set_option maxRecDepth 100000 in
theorem cl_lay3 : GoodIn lw_tbl (u_ws RX3 TX3 18) := goodIn_r _ [181, 183, 185, 187, 189, 191, 193, 195, 197, 199, 201, 203, 205, 207, 209, 211, 213, 215] (by decide +kernel) (by decide +kernel)
set_option maxRecDepth 100000 in
theorem cl_lay4 : GoodIn lw_tbl (u_ws RX4 TX4 2) := goodIn_r _ [238, 240] (by decide +kernel) (by decide +kernel)
set_option maxRecDepth 100000 in
theorem cl_lay5 : GoodIn lw_tbl (u_ws RX5 TX5 4) := goodIn_r _ [512, 514, 516, 518] (by decide +kernel) (by decide +kernel)
set_option maxRecDepth 100000 in
theorem cl_lay6 : GoodIn lw_tbl (u_ws RX6 TX6 14) := goodIn_r _ [388, 390, 392, 394, 396, 398, 400, 402, 404, 406, 408, 410, 412, 414] (by decide +kernel) (by decide +kernel)
set_option maxRecDepth 100000 in
theorem cl_lay7 : GoodIn lw_tbl (u_ws RX7 TX7 4) := goodIn_r _ [468, 470, 472, 474] (by decide +kernel) (by decide +kernel)
set_option maxRecDepth 100000 in
theorem cl_lay8 : GoodIn lw_tbl (u_ws RX8 TX8 5) := goodIn_r _ [491, 493, 495, 497, 499] (by decide +kernel) (by decide +kernel)
set_option maxRecDepth 100000 in
theorem cl_lay9 : GoodIn lw_tbl (u_ws RX9 TX9 17) := goodIn_r _ [552, 554, 556, 558, 560, 562, 564, 566, 568, 570, 572, 574, 576, 578, 580, 582, 584] (by decide +kernel) (by decide +kernel)
set_option maxRecDepth 100000 in
theorem cl_lay10 : GoodIn lw_tbl (u_ws RX10 TX10 62) := goodIn_r _ [1638, 1640, 1642, 1644, 1646, 1648, 1650, 1652, 1654, 1656, 1658, 1660, 1662, 1664, 1666, 1668, 1670, 1672, 1674, 1676, 1678, 1680, 1682, 1684, 1686, 1688, 1690, 1692, 1694, 1696, 1698, 1700, 1702, 1704, 1706, 1708, 1710, 1712, 1714, 1716, 1718, 1720, 1722, 1724, 1726, 1728, 1730, 1732, 1734, 1736, 1738, 1740, 1742, 1744, 1746, 1748, 1750, 1752, 1754, 1756, 1758, 1760] (by decide +kernel) (by decide +kernel)
theorem cl_in0 : ∀ ci, ci < 11 → GoodIn lw_tbl (u_ws (clR ci) (clT ci) (clN ci)) := by
  intro ci h
  match ci, h with
  | 0, _ => exact cl_lay0
  | 1, _ => exact cl_lay1
  | 2, _ => exact cl_lay2
  | 3, _ => exact cl_lay3
  | 4, _ => exact cl_lay4
  | 5, _ => exact cl_lay5
  | 6, _ => exact cl_lay6
  | 7, _ => exact cl_lay7
  | 8, _ => exact cl_lay8
  | 9, _ => exact cl_lay9
  | 10, _ => exact cl_lay10
/-- the texts of Reader, by their entries -/
def strI : List Nat := [69, 90, 100, 106, 108, 187, 113, 118, 242, 250, 251, 252, 254, 256, 257, 258, 260, 262, 279, 281, 127]
def strT : List String := [";()+-*/<=", "places", "person", "blind", "thing", "by", "term", "shames", "not", "odd", "weight", "count", "eyes", "vanity", "owner", "day", "shame", "many", "or", "and", "returns"]
def strL : List Nat := [9, 6, 6, 5, 5, 2, 4, 6, 3, 3, 6, 5, 4, 6, 5, 3, 5, 4, 2, 3, 7]
def strB : List (List Int32) := [[59, 40, 41, 43, 45, 42, 47, 60, 61], [112, 108, 97, 99, 101, 115], [112, 101, 114, 115, 111, 110], [98, 108, 105, 110, 100], [116, 104, 105, 110, 103], [98, 121], [116, 101, 114, 109], [115, 104, 97, 109, 101, 115], [110, 111, 116], [111, 100, 100], [119, 101, 105, 103, 104, 116], [99, 111, 117, 110, 116], [101, 121, 101, 115], [118, 97, 110, 105, 116, 121], [111, 119, 110, 101, 114], [100, 97, 121], [115, 104, 97, 109, 101], [109, 97, 110, 121], [111, 114], [97, 110, 100], [114, 101, 116, 117, 114, 110, 115]]
def bndV (j : Nat) : Int32 := ([0, 1, 2, 3, 4, 4, 5, 5, 6, 6] : List Int32).getD j 0
def exNest : List Cond := [.methodLinkNest RX9 23 yX3_init "WornThings", .methodLinkNest RX1 41 yX4_init "WornThings", .methodLinkNest RX9 40 yX6_init "WornThings", .methodLinkNest RX9 47 yX0_init "WornThings", .methodLinkNest RX9 54 yX2_init "WornThings", .methodLinkNest RX9 70 yX7_init "WornThings", .methodLinkNest RX7 11 yX6_init "WornThings", .methodLinkNest RX9 77 yX8_init "WornThings", .methodLinkNest RX9 84 yX5_init "WornThings"]
