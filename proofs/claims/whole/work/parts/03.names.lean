def RX0 : String := "WornThings$Acts"
def TX0 : u_T := fun k => match k with
  | 0 => ("WornThings$Acts", "rows", "[I", true)
  | 1 => ("WornThings$Acts", "first", "I", false)
  | _ => ("WornThings$Acts", "many", "I", false)
def tyX0 : Nat → FieldType := fun k => match k with
  | 0 => .array .int
  | 1 => .int
  | _ => .int
abbrev wsX00 : List Cond := u_ws RX0 TX0 3
theorem nmX0 : ∀ a, a < 3 → ∀ b, b < 3 → a ≠ b → (TX0 a).2.1 ≠ (TX0 b).2.1 := by decide +kernel
theorem tyX0_ok : ∀ k, k < 3 → parseFieldDescriptor (TX0 k).2.2.1 = some (tyX0 k) := by decide +kernel
abbrev cX0_init : ByteArray := prog_2_method_1_code
def yX0_init : MethodName := ⟨RX0, "<init>", "()V"⟩
abbrev cX0_clear : ByteArray := prog_2_method_2_code
def yX0_clear : MethodName := ⟨RX0, "clear", "()V"⟩
abbrev cX0_copyFrom : ByteArray := prog_2_method_3_code
def yX0_copyFrom : MethodName := ⟨RX0, "copyFrom", "(LWornThings$Acts;)V"⟩
abbrev cX0_keep : ByteArray := prog_2_method_4_code
def yX0_keep : MethodName := ⟨RX0, "keep", "(LWornThings$Town;)V"⟩
abbrev cX0_takeBack : ByteArray := prog_2_method_5_code
def yX0_takeBack : MethodName := ⟨RX0, "takeBack", "(LWornThings$Town;)I"⟩
def RX1 : String := "WornThings$City"
def TX1 : u_T := fun k => match k with
  | 0 => ("WornThings$City", "places", "I", false)
  | 1 => ("WornThings$City", "people", "I", false)
  | 2 => ("WornThings$City", "things", "I", false)
  | 3 => ("WornThings$City", "term", "I", false)
  | 4 => ("WornThings$City", "vanity", "[I", true)
  | 5 => ("WornThings$City", "blind", "[I", true)
  | 6 => ("WornThings$City", "walkLength", "[I", true)
  | 7 => ("WornThings$City", "walk", "[I", true)
  | 8 => ("WornThings$City", "weight", "[I", true)
  | 9 => ("WornThings$City", "odd", "[I", true)
  | 10 => ("WornThings$City", "owner", "[I", true)
  | 11 => ("WornThings$City", "wearer", "[I", true)
  | 12 => ("WornThings$City", "code", "[I", true)
  | 13 => ("WornThings$City", "codeLength", "I", false)
  | 14 => ("WornThings$City", "shames", "LWornThings$Rule;", true)
  | _ => ("WornThings$City", "returns", "LWornThings$Rule;", true)
def tyX1 : Nat → FieldType := fun k => match k with
  | 0 => .int
  | 1 => .int
  | 2 => .int
  | 3 => .int
  | 4 => .array .int
  | 5 => .array .int
  | 6 => .array .int
  | 7 => .array .int
  | 8 => .array .int
  | 9 => .array .int
  | 10 => .array .int
  | 11 => .array .int
  | 12 => .array .int
  | 13 => .int
  | 14 => .object "WornThings$Rule"
  | _ => .object "WornThings$Rule"
abbrev wsX10 : List Cond := u_ws RX1 TX1 16
theorem nmX1 : ∀ a, a < 16 → ∀ b, b < 16 → a ≠ b → (TX1 a).2.1 ≠ (TX1 b).2.1 := by decide +kernel
theorem tyX1_ok : ∀ k, k < 16 → parseFieldDescriptor (TX1 k).2.2.1 = some (tyX1 k) := by decide +kernel
abbrev cX1_init : ByteArray := prog_3_method_1_code
def yX1_init : MethodName := ⟨RX1, "<init>", "()V"⟩
abbrev cX1_clear : ByteArray := prog_3_method_2_code
def yX1_clear : MethodName := ⟨RX1, "clear", "()V"⟩
abbrev cX1_putCode : ByteArray := prog_3_method_3_code
def yX1_putCode : MethodName := ⟨RX1, "putCode", "(I)V"⟩
def RX2 : String := "WornThings$Notes"
def TX2 : u_T := fun k => match k with
  | 0 => ("WornThings$Notes", "many", "I", false)
  | 1 => ("WornThings$Notes", "thing", "[I", true)
  | 2 => ("WornThings$Notes", "days", "[I", true)
  | _ => ("WornThings$Notes", "worn", "[I", true)
def tyX2 : Nat → FieldType := fun k => match k with
  | 0 => .int
  | 1 => .array .int
  | 2 => .array .int
  | _ => .array .int
abbrev wsX20 : List Cond := u_ws RX2 TX2 4
theorem nmX2 : ∀ a, a < 4 → ∀ b, b < 4 → a ≠ b → (TX2 a).2.1 ≠ (TX2 b).2.1 := by decide +kernel
theorem tyX2_ok : ∀ k, k < 4 → parseFieldDescriptor (TX2 k).2.2.1 = some (tyX2 k) := by decide +kernel
abbrev cX2_init : ByteArray := prog_4_method_1_code
def yX2_init : MethodName := ⟨RX2, "<init>", "()V"⟩
abbrev cX2_isFull : ByteArray := prog_4_method_2_code
def yX2_isFull : MethodName := ⟨RX2, "isFull", "()Z"⟩
abbrev cX2_clear : ByteArray := prog_4_method_3_code
def yX2_clear : MethodName := ⟨RX2, "clear", "()V"⟩
abbrev cX2_put : ByteArray := prog_4_method_4_code
def yX2_put : MethodName := ⟨RX2, "put", "(IIZ)V"⟩
abbrev cX2_copyFrom : ByteArray := prog_4_method_5_code
def yX2_copyFrom : MethodName := ⟨RX2, "copyFrom", "(LWornThings$Notes;)V"⟩
abbrev cX2_hold : ByteArray := prog_4_method_6_code
def yX2_hold : MethodName := ⟨RX2, "hold", "(LWornThings$Town;)Z"⟩
abbrev cX2_lastDay : ByteArray := prog_4_method_7_code
def yX2_lastDay : MethodName := ⟨RX2, "lastDay", "()I"⟩
abbrev cX2_holdBehind : ByteArray := prog_4_method_8_code
def yX2_holdBehind : MethodName := ⟨RX2, "holdBehind", "(LWornThings$Town;I)Z"⟩
def RX3 : String := "WornThings$Reader"
def TX3 : u_T := fun k => match k with
  | 0 => ("WornThings$Reader", "text", "[B", false)
  | 1 => ("WornThings$Reader", "length", "I", false)
  | 2 => ("WornThings$Reader", "kind", "I", false)
  | 3 => ("WornThings$Reader", "start", "I", false)
  | 4 => ("WornThings$Reader", "end", "I", false)
  | 5 => ("WornThings$Reader", "number", "I", false)
  | 6 => ("WornThings$Reader", "digits", "I", false)
  | 7 => ("WornThings$Reader", "city", "LWornThings$City;", false)
  | 8 => ("WornThings$Reader", "placesTold", "Z", false)
  | 9 => ("WornThings$Reader", "termTold", "Z", false)
  | 10 => ("WornThings$Reader", "fault", "I", false)
  | 11 => ("WornThings$Reader", "faultStart", "I", false)
  | 12 => ("WornThings$Reader", "waiting", "[I", true)
  | 13 => ("WornThings$Reader", "waitingMany", "I", false)
  | 14 => ("WornThings$Reader", "nested", "I", false)
  | 15 => ("WornThings$Reader", "nots", "I", false)
  | 16 => ("WornThings$Reader", "partDue", "Z", false)
  | _ => ("WornThings$Reader", "notMayStand", "Z", false)
def tyX3 : Nat → FieldType := fun k => match k with
  | 0 => .array .byte
  | 1 => .int
  | 2 => .int
  | 3 => .int
  | 4 => .int
  | 5 => .int
  | 6 => .int
  | 7 => .object "WornThings$City"
  | 8 => .boolean
  | 9 => .boolean
  | 10 => .int
  | 11 => .int
  | 12 => .array .int
  | 13 => .int
  | 14 => .int
  | 15 => .int
  | 16 => .boolean
  | _ => .boolean
abbrev wsX30 : List Cond := u_ws RX3 TX3 18
theorem nmX3 : ∀ a, a < 18 → ∀ b, b < 18 → a ≠ b → (TX3 a).2.1 ≠ (TX3 b).2.1 := by decide +kernel
theorem tyX3_ok : ∀ k, k < 18 → parseFieldDescriptor (TX3 k).2.2.1 = some (tyX3 k) := by decide +kernel
abbrev cX3_init : ByteArray := prog_5_method_1_code
def yX3_init : MethodName := ⟨RX3, "<init>", "()V"⟩
abbrev cX3_begin : ByteArray := prog_5_method_2_code
def yX3_begin : MethodName := ⟨RX3, "begin", "([BILWornThings$City;)V"⟩
abbrev cX3_hasMore : ByteArray := prog_5_method_3_code
def yX3_hasMore : MethodName := ⟨RX3, "hasMore", "()Z"⟩
abbrev cX3_fail : ByteArray := prog_5_method_4_code
def yX3_fail : MethodName := ⟨RX3, "fail", "(I)Z"⟩
abbrev cX3_next : ByteArray := prog_5_method_5_code
def yX3_next : MethodName := ⟨RX3, "next", "()V"⟩
abbrev cX3_nextWord : ByteArray := prog_5_method_6_code
def yX3_nextWord : MethodName := ⟨RX3, "nextWord", "()V"⟩
abbrev cX3_nextNumber : ByteArray := prog_5_method_7_code
def yX3_nextNumber : MethodName := ⟨RX3, "nextNumber", "()V"⟩
abbrev cX3_isWord : ByteArray := prog_5_method_8_code
def yX3_isWord : MethodName := ⟨RX3, "isWord", "(Ljava/lang/String;)Z"⟩
abbrev cX3_isSign : ByteArray := prog_5_method_9_code
def yX3_isSign : MethodName := ⟨RX3, "isSign", "(C)Z"⟩
abbrev cX3_line : ByteArray := prog_5_method_10_code
def yX3_line : MethodName := ⟨RX3, "line", "()Z"⟩
abbrev cX3_lineEnd : ByteArray := prog_5_method_11_code
def yX3_lineEnd : MethodName := ⟨RX3, "lineEnd", "()Z"⟩
abbrev cX3_nextIsNumber : ByteArray := prog_5_method_12_code
def yX3_nextIsNumber : MethodName := ⟨RX3, "nextIsNumber", "()Z"⟩
abbrev cX3_isFitNumber : ByteArray := prog_5_method_13_code
def yX3_isFitNumber : MethodName := ⟨RX3, "isFitNumber", "()Z"⟩
abbrev cX3_nextIsWithin : ByteArray := prog_5_method_14_code
def yX3_nextIsWithin : MethodName := ⟨RX3, "nextIsWithin", "(II)Z"⟩
abbrev cX3_placesLine : ByteArray := prog_5_method_15_code
def yX3_placesLine : MethodName := ⟨RX3, "placesLine", "()Z"⟩
abbrev cX3_termLine : ByteArray := prog_5_method_16_code
def yX3_termLine : MethodName := ⟨RX3, "termLine", "()Z"⟩
abbrev cX3_personLine : ByteArray := prog_5_method_17_code
def yX3_personLine : MethodName := ⟨RX3, "personLine", "(I)Z"⟩
abbrev cX3_isFitPlace : ByteArray := prog_5_method_18_code
def yX3_isFitPlace : MethodName := ⟨RX3, "isFitPlace", "(I)Z"⟩
abbrev cX3_nextIsPerson : ByteArray := prog_5_method_19_code
def yX3_nextIsPerson : MethodName := ⟨RX3, "nextIsPerson", "()Z"⟩
abbrev cX3_thingLine : ByteArray := prog_5_method_20_code
def yX3_thingLine : MethodName := ⟨RX3, "thingLine", "()Z"⟩
abbrev cX3_ruleLine : ByteArray := prog_5_method_21_code
def yX3_ruleLine : MethodName := ⟨RX3, "ruleLine", "(LWornThings$Rule;)Z"⟩
abbrev cX3_beginRule : ByteArray := prog_5_method_22_code
def yX3_beginRule : MethodName := ⟨RX3, "beginRule", "()V"⟩
abbrev cX3_part : ByteArray := prog_5_method_23_code
def yX3_part : MethodName := ⟨RX3, "part", "(Z)Z"⟩
abbrev cX3_wordOfPart : ByteArray := prog_5_method_24_code
def yX3_wordOfPart : MethodName := ⟨RX3, "wordOfPart", "(Z)Z"⟩
abbrev cX3_valueOfShames : ByteArray := prog_5_method_25_code
def yX3_valueOfShames : MethodName := ⟨RX3, "valueOfShames", "()I"⟩
abbrev cX3_valueOfReturns : ByteArray := prog_5_method_26_code
def yX3_valueOfReturns : MethodName := ⟨RX3, "valueOfReturns", "()I"⟩
abbrev cX3_putPart : ByteArray := prog_5_method_27_code
def yX3_putPart : MethodName := ⟨RX3, "putPart", "(I)Z"⟩
abbrev cX3_behindPart : ByteArray := prog_5_method_28_code
def yX3_behindPart : MethodName := ⟨RX3, "behindPart", "()Z"⟩
abbrev cX3_close : ByteArray := prog_5_method_29_code
def yX3_close : MethodName := ⟨RX3, "close", "()Z"⟩
abbrev cX3_operatorRead : ByteArray := prog_5_method_30_code
def yX3_operatorRead : MethodName := ⟨RX3, "operatorRead", "()I"⟩
abbrev cX3_await : ByteArray := prog_5_method_31_code
def yX3_await : MethodName := ⟨RX3, "await", "(I)Z"⟩
abbrev cX3_bindingOnTop : ByteArray := prog_5_method_32_code
def yX3_bindingOnTop : MethodName := ⟨RX3, "bindingOnTop", "()I"⟩
abbrev cX3_putTighter : ByteArray := prog_5_method_33_code
def yX3_putTighter : MethodName := ⟨RX3, "putTighter", "(I)V"⟩
def RX4 : String := "WornThings$Rule"
def TX4 : u_T := fun k => match k with
  | 0 => ("WornThings$Rule", "from", "I", false)
  | _ => ("WornThings$Rule", "end", "I", false)
def tyX4 : Nat → FieldType := fun k => match k with
  | 0 => .int
  | _ => .int
abbrev wsX40 : List Cond := u_ws RX4 TX4 2
theorem nmX4 : ∀ a, a < 2 → ∀ b, b < 2 → a ≠ b → (TX4 a).2.1 ≠ (TX4 b).2.1 := by decide +kernel
theorem tyX4_ok : ∀ k, k < 2 → parseFieldDescriptor (TX4 k).2.2.1 = some (tyX4 k) := by decide +kernel
abbrev cX4_init : ByteArray := prog_6_method_1_code
def yX4_init : MethodName := ⟨RX4, "<init>", "()V"⟩
abbrev cX4_isTold : ByteArray := prog_6_method_2_code
def yX4_isTold : MethodName := ⟨RX4, "isTold", "()Z"⟩
abbrev cX4_result : ByteArray := prog_6_method_3_code
def yX4_result : MethodName := ⟨RX4, "result", "([I[I[I)I"⟩
abbrev cX4_two : ByteArray := prog_6_method_4_code
def yX4_two : MethodName := ⟨RX4, "two", "(III)I"⟩
def RX5 : String := "WornThings$Ties"
def TX5 : u_T := fun k => match k with
  | 0 => ("WornThings$Ties", "rows", "[I", true)
  | 1 => ("WornThings$Ties", "left", "[I", true)
  | 2 => ("WornThings$Ties", "wornThings", "[I", true)
  | _ => ("WornThings$Ties", "wornMany", "I", false)
def tyX5 : Nat → FieldType := fun k => match k with
  | 0 => .array .int
  | 1 => .array .int
  | 2 => .array .int
  | _ => .int
abbrev wsX50 : List Cond := u_ws RX5 TX5 4
theorem nmX5 : ∀ a, a < 4 → ∀ b, b < 4 → a ≠ b → (TX5 a).2.1 ≠ (TX5 b).2.1 := by decide +kernel
theorem tyX5_ok : ∀ k, k < 4 → parseFieldDescriptor (TX5 k).2.2.1 = some (tyX5 k) := by decide +kernel
abbrev cX5_init : ByteArray := prog_7_method_1_code
def yX5_init : MethodName := ⟨RX5, "<init>", "()V"⟩
abbrev cX5_rings : ByteArray := prog_7_method_2_code
def yX5_rings : MethodName := ⟨RX5, "rings", "(LWornThings$Town;)I"⟩
abbrev cX5_cameTo : ByteArray := prog_7_method_3_code
def yX5_cameTo : MethodName := ⟨RX5, "cameTo", "(LWornThings$Town;I)I"⟩
abbrev cX5_ownersOf : ByteArray := prog_7_method_4_code
def yX5_ownersOf : MethodName := ⟨RX5, "ownersOf", "(LWornThings$Town;I)I"⟩
abbrev cX5_fewestPlaces : ByteArray := prog_7_method_5_code
def yX5_fewestPlaces : MethodName := ⟨RX5, "fewestPlaces", "(LWornThings$Town;I)I"⟩
abbrev cX5_placesOf : ByteArray := prog_7_method_6_code
def yX5_placesOf : MethodName := ⟨RX5, "placesOf", "(LWornThings$Town;II)I"⟩
abbrev cX5_meetsAll : ByteArray := prog_7_method_7_code
def yX5_meetsAll : MethodName := ⟨RX5, "meetsAll", "(LWornThings$Town;I)Z"⟩
abbrev cX5_busiest : ByteArray := prog_7_method_8_code
def yX5_busiest : MethodName := ⟨RX5, "busiest", "(LWornThings$Town;I)I"⟩
abbrev cX5_visits : ByteArray := prog_7_method_9_code
def yX5_visits : MethodName := ⟨RX5, "visits", "(LWornThings$Town;II)I"⟩
abbrev cX5_leastShame : ByteArray := prog_7_method_10_code
def yX5_leastShame : MethodName := ⟨RX5, "leastShame", "(LWornThings$Town;I)I"⟩
abbrev cX5_listWorn : ByteArray := prog_7_method_11_code
def yX5_listWorn : MethodName := ⟨RX5, "listWorn", "(LWornThings$Town;)V"⟩
abbrev cX5_fillLeft : ByteArray := prog_7_method_12_code
def yX5_fillLeft : MethodName := ⟨RX5, "fillLeft", "(LWornThings$Town;)V"⟩
abbrev cX5_canGo : ByteArray := prog_7_method_13_code
def yX5_canGo : MethodName := ⟨RX5, "canGo", "(LWornThings$Town;III)Z"⟩
abbrev cX5_costWith : ByteArray := prog_7_method_14_code
def yX5_costWith : MethodName := ⟨RX5, "costWith", "(LWornThings$Town;III)I"⟩
abbrev cX5_goesTo : ByteArray := prog_7_method_15_code
def yX5_goesTo : MethodName := ⟨RX5, "goesTo", "(LWornThings$Town;I)I"⟩
abbrev cX5_firstOf : ByteArray := prog_7_method_16_code
def yX5_firstOf : MethodName := ⟨RX5, "firstOf", "(LWornThings$Town;II)I"⟩
def RX6 : String := "WornThings$Town"
def TX6 : u_T := fun k => match k with
  | 0 => ("WornThings$Town", "city", "LWornThings$City;", false)
  | 1 => ("WornThings$Town", "day", "I", false)
  | 2 => ("WornThings$Town", "changes", "I", false)
  | 3 => ("WornThings$Town", "vanity", "[I", true)
  | 4 => ("WornThings$Town", "shame", "[I", true)
  | 5 => ("WornThings$Town", "walk", "[I", true)
  | 6 => ("WornThings$Town", "odd", "[I", true)
  | 7 => ("WornThings$Town", "owner", "[I", true)
  | 8 => ("WornThings$Town", "wearer", "[I", true)
  | 9 => ("WornThings$Town", "seen", "[I", true)
  | 10 => ("WornThings$Town", "sight", "[I", true)
  | 11 => ("WornThings$Town", "many", "[I", true)
  | 12 => ("WornThings$Town", "values", "[I", true)
  | _ => ("WornThings$Town", "stack", "[I", true)
def tyX6 : Nat → FieldType := fun k => match k with
  | 0 => .object "WornThings$City"
  | 1 => .int
  | 2 => .int
  | 3 => .array .int
  | 4 => .array .int
  | 5 => .array .int
  | 6 => .array .int
  | 7 => .array .int
  | 8 => .array .int
  | 9 => .array .int
  | 10 => .array .int
  | 11 => .array .int
  | 12 => .array .int
  | _ => .array .int
abbrev wsX60 : List Cond := u_ws RX6 TX6 14
theorem nmX6 : ∀ a, a < 14 → ∀ b, b < 14 → a ≠ b → (TX6 a).2.1 ≠ (TX6 b).2.1 := by decide +kernel
theorem tyX6_ok : ∀ k, k < 14 → parseFieldDescriptor (TX6 k).2.2.1 = some (tyX6 k) := by decide +kernel
abbrev cX6_init : ByteArray := prog_8_method_1_code
def yX6_init : MethodName := ⟨RX6, "<init>", "()V"⟩
abbrev cX6_begin : ByteArray := prog_8_method_2_code
def yX6_begin : MethodName := ⟨RX6, "begin", "(LWornThings$City;)V"⟩
abbrev cX6_copyFrom : ByteArray := prog_8_method_3_code
def yX6_copyFrom : MethodName := ⟨RX6, "copyFrom", "(LWornThings$Town;)V"⟩
abbrev cX6_copyRow : ByteArray := prog_8_method_4_code
def yX6_copyRow : MethodName := ⟨RX6, "copyRow", "([I[I)V"⟩
abbrev cX6_pack : ByteArray := prog_8_method_5_code
def yX6_pack : MethodName := ⟨RX6, "pack", "([II)V"⟩
abbrev cX6_unpack : ByteArray := prog_8_method_6_code
def yX6_unpack : MethodName := ⟨RX6, "unpack", "([II)V"⟩
abbrev cX6_passDay : ByteArray := prog_8_method_7_code
def yX6_passDay : MethodName := ⟨RX6, "passDay", "(Z)V"⟩
abbrev cX6_countWorn : ByteArray := prog_8_method_8_code
def yX6_countWorn : MethodName := ⟨RX6, "countWorn", "()V"⟩
abbrev cX6_wearForADay : ByteArray := prog_8_method_9_code
def yX6_wearForADay : MethodName := ⟨RX6, "wearForADay", "(II)V"⟩
abbrev cX6_shameToday : ByteArray := prog_8_method_10_code
def yX6_shameToday : MethodName := ⟨RX6, "shameToday", "(I)I"⟩
abbrev cX6_shameBy : ByteArray := prog_8_method_11_code
def yX6_shameBy : MethodName := ⟨RX6, "shameBy", "(II)I"⟩
abbrev cX6_givesBack : ByteArray := prog_8_method_12_code
def yX6_givesBack : MethodName := ⟨RX6, "givesBack", "(I)Z"⟩
abbrev cX6_maySteal : ByteArray := prog_8_method_13_code
def yX6_maySteal : MethodName := ⟨RX6, "maySteal", "(II)Z"⟩
abbrev cX6_putOn : ByteArray := prog_8_method_14_code
def yX6_putOn : MethodName := ⟨RX6, "putOn", "(II)V"⟩
abbrev cX6_putOffAll : ByteArray := prog_8_method_15_code
def yX6_putOffAll : MethodName := ⟨RX6, "putOffAll", "(I)V"⟩
abbrev cX6_standAlways : ByteArray := prog_8_method_16_code
def yX6_standAlways : MethodName := ⟨RX6, "standAlways", "(II)V"⟩
abbrev cX6_placeOn : ByteArray := prog_8_method_17_code
def yX6_placeOn : MethodName := ⟨RX6, "placeOn", "(II)I"⟩
abbrev cX6_lookAround : ByteArray := prog_8_method_18_code
def yX6_lookAround : MethodName := ⟨RX6, "lookAround", "(I)V"⟩
abbrev cX6_lookersAt : ByteArray := prog_8_method_19_code
def yX6_lookersAt : MethodName := ⟨RX6, "lookersAt", "(II)I"⟩
abbrev cX6_lookersOn : ByteArray := prog_8_method_20_code
def yX6_lookersOn : MethodName := ⟨RX6, "lookersOn", "(II)I"⟩
abbrev cX6_firstTogether : ByteArray := prog_8_method_21_code
def yX6_firstTogether : MethodName := ⟨RX6, "firstTogether", "(II)I"⟩
abbrev cX6_unseen : ByteArray := prog_8_method_22_code
def yX6_unseen : MethodName := ⟨RX6, "unseen", "(I)I"⟩
abbrev cX6_isSeen : ByteArray := prog_8_method_23_code
def yX6_isSeen : MethodName := ⟨RX6, "isSeen", "(II)Z"⟩
abbrev cX6_wornBits : ByteArray := prog_8_method_24_code
def yX6_wornBits : MethodName := ⟨RX6, "wornBits", "()I"⟩
abbrev cX6_wearsBits : ByteArray := prog_8_method_25_code
def yX6_wearsBits : MethodName := ⟨RX6, "wearsBits", "(I)I"⟩
abbrev cX6_ownsBits : ByteArray := prog_8_method_26_code
def yX6_ownsBits : MethodName := ⟨RX6, "ownsBits", "(I)I"⟩
abbrev cX6_missed : ByteArray := prog_8_method_27_code
def yX6_missed : MethodName := ⟨RX6, "missed", "(I)I"⟩
abbrev cX6_load : ByteArray := prog_8_method_28_code
def yX6_load : MethodName := ⟨RX6, "load", "(I)I"⟩
abbrev cX6_wealth : ByteArray := prog_8_method_29_code
def yX6_wealth : MethodName := ⟨RX6, "wealth", "(I)I"⟩
abbrev cX6_weightOf : ByteArray := prog_8_method_30_code
def yX6_weightOf : MethodName := ⟨RX6, "weightOf", "(I)I"⟩
abbrev cX6_oddest : ByteArray := prog_8_method_31_code
def yX6_oddest : MethodName := ⟨RX6, "oddest", "(I)I"⟩
abbrev cX6_richest : ByteArray := prog_8_method_32_code
def yX6_richest : MethodName := ⟨RX6, "richest", "()I"⟩
abbrev cX6_mostAshamed : ByteArray := prog_8_method_33_code
def yX6_mostAshamed : MethodName := ⟨RX6, "mostAshamed", "()I"⟩
abbrev cX6_shameOfAll : ByteArray := prog_8_method_34_code
def yX6_shameOfAll : MethodName := ⟨RX6, "shameOfAll", "()I"⟩
def RX7 : String := "WornThings$Trials"
def TX7 : u_T := fun k => match k with
  | 0 => ("WornThings$Trials", "town", "LWornThings$Town;", true)
  | 1 => ("WornThings$Trials", "seed", "I", false)
  | 2 => ("WornThings$Trials", "gains", "[I", true)
  | _ => ("WornThings$Trials", "othersGains", "[I", true)
def tyX7 : Nat → FieldType := fun k => match k with
  | 0 => .object "WornThings$Town"
  | 1 => .int
  | 2 => .array .int
  | _ => .array .int
abbrev wsX70 : List Cond := u_ws RX7 TX7 4
theorem nmX7 : ∀ a, a < 4 → ∀ b, b < 4 → a ≠ b → (TX7 a).2.1 ≠ (TX7 b).2.1 := by decide +kernel
theorem tyX7_ok : ∀ k, k < 4 → parseFieldDescriptor (TX7 k).2.2.1 = some (tyX7 k) := by decide +kernel
abbrev cX7_init : ByteArray := prog_9_method_1_code
def yX7_init : MethodName := ⟨RX7, "<init>", "()V"⟩
abbrev cX7_start : ByteArray := prog_9_method_2_code
def yX7_start : MethodName := ⟨RX7, "start", "(LWornThings$Town;)V"⟩
abbrev cX7_behind : ByteArray := prog_9_method_3_code
def yX7_behind : MethodName := ⟨RX7, "behind", "(LWornThings$Town;I)LWornThings$Town;"⟩
abbrev cX7_passDays : ByteArray := prog_9_method_4_code
def yX7_passDays : MethodName := ⟨RX7, "passDays", "(I)V"⟩
abbrev cX7_endOfWearing : ByteArray := prog_9_method_5_code
def yX7_endOfWearing : MethodName := ⟨RX7, "endOfWearing", "(IZ)I"⟩
abbrev cX7_bestPlace : ByteArray := prog_9_method_6_code
def yX7_bestPlace : MethodName := ⟨RX7, "bestPlace", "(LWornThings$Town;IZ)I"⟩
abbrev cX7_bestThing : ByteArray := prog_9_method_7_code
def yX7_bestThing : MethodName := ⟨RX7, "bestThing", "(LWornThings$Town;IZ)I"⟩
abbrev cX7_isSooner : ByteArray := prog_9_method_8_code
def yX7_isSooner : MethodName := ⟨RX7, "isSooner", "(II)Z"⟩
abbrev cX7_daysToShame : ByteArray := prog_9_method_9_code
def yX7_daysToShame : MethodName := ⟨RX7, "daysToShame", "(II)I"⟩
abbrev cX7_neverWorn : ByteArray := prog_9_method_10_code
def yX7_neverWorn : MethodName := ⟨RX7, "neverWorn", "(I)I"⟩
abbrev cX7_inFog : ByteArray := prog_9_method_11_code
def yX7_inFog : MethodName := ⟨RX7, "inFog", "(LWornThings$Town;III)I"⟩
abbrev cX7_play : ByteArray := prog_9_method_12_code
def yX7_play : MethodName := ⟨RX7, "play", "(LWornThings$Town;II)V"⟩
abbrev cX7_gain : ByteArray := prog_9_method_13_code
def yX7_gain : MethodName := ⟨RX7, "gain", "(I)I"⟩
abbrev cX7_rests : ByteArray := prog_9_method_14_code
def yX7_rests : MethodName := ⟨RX7, "rests", "(I)Z"⟩
abbrev cX7_couplesAtRest : ByteArray := prog_9_method_15_code
def yX7_couplesAtRest : MethodName := ⟨RX7, "couplesAtRest", "()I"⟩
abbrev cX7_firstCoupleAtRest : ByteArray := prog_9_method_16_code
def yX7_firstCoupleAtRest : MethodName := ⟨RX7, "firstCoupleAtRest", "()I"⟩
abbrev cX7_drawYears : ByteArray := prog_9_method_17_code
def yX7_drawYears : MethodName := ⟨RX7, "drawYears", "(LWornThings$Town;II)LWornThings$Town;"⟩
abbrev cX7_happen : ByteArray := prog_9_method_18_code
def yX7_happen : MethodName := ⟨RX7, "happen", "(I)V"⟩
abbrev cX7_draw : ByteArray := prog_9_method_19_code
def yX7_draw : MethodName := ⟨RX7, "draw", "(I)I"⟩
def RX8 : String := "WornThings$Vanities"
def TX8 : u_T := fun k => match k with
  | 0 => ("WornThings$Vanities", "many", "I", false)
  | 1 => ("WornThings$Vanities", "bestThing", "I", false)
  | 2 => ("WornThings$Vanities", "unlikeOnes", "I", false)
  | 3 => ("WornThings$Vanities", "found", "[I", true)
  | _ => ("WornThings$Vanities", "outcomes", "[I", true)
def tyX8 : Nat → FieldType := fun k => match k with
  | 0 => .int
  | 1 => .int
  | 2 => .int
  | 3 => .array .int
  | _ => .array .int
abbrev wsX80 : List Cond := u_ws RX8 TX8 5
theorem nmX8 : ∀ a, a < 5 → ∀ b, b < 5 → a ≠ b → (TX8 a).2.1 ≠ (TX8 b).2.1 := by decide +kernel
theorem tyX8_ok : ∀ k, k < 5 → parseFieldDescriptor (TX8 k).2.2.1 = some (tyX8 k) := by decide +kernel
abbrev cX8_init : ByteArray := prog_10_method_1_code
def yX8_init : MethodName := ⟨RX8, "<init>", "()V"⟩
abbrev cX8_find : ByteArray := prog_10_method_2_code
def yX8_find : MethodName := ⟨RX8, "find", "(LWornThings$Town;LWornThings$Notes;LWornThings$Trials;)V"⟩
abbrev cX8_first : ByteArray := prog_10_method_3_code
def yX8_first : MethodName := ⟨RX8, "first", "()I"⟩
abbrev cX8_compare : ByteArray := prog_10_method_4_code
def yX8_compare : MethodName := ⟨RX8, "compare", "(LWornThings$Town;LWornThings$Trials;)V"⟩
abbrev cX8_keepOutcomes : ByteArray := prog_10_method_5_code
def yX8_keepOutcomes : MethodName := ⟨RX8, "keepOutcomes", "(ILWornThings$Town;)V"⟩
abbrev cX8_unlikeOutcomes : ByteArray := prog_10_method_6_code
def yX8_unlikeOutcomes : MethodName := ⟨RX8, "unlikeOutcomes", "(I)I"⟩
abbrev cX8_isNewOutcome : ByteArray := prog_10_method_7_code
def yX8_isNewOutcome : MethodName := ⟨RX8, "isNewOutcome", "(II)Z"⟩
def RX9 : String := "WornThings"
def TX9 : u_T := fun k => match k with
  | 0 => ("WornThings", "tape", "[B", true)
  | 1 => ("WornThings", "tapeLength", "I", false)
  | 2 => ("WornThings", "faultPlace", "I", false)
  | 3 => ("WornThings", "status", "[I", true)
  | 4 => ("WornThings", "reader", "LWornThings$Reader;", true)
  | 5 => ("WornThings", "city", "LWornThings$City;", false)
  | 6 => ("WornThings", "draft", "LWornThings$City;", false)
  | 7 => ("WornThings", "now", "LWornThings$Town;", true)
  | 8 => ("WornThings", "acts", "LWornThings$Acts;", true)
  | 9 => ("WornThings", "notes", "LWornThings$Notes;", true)
  | 10 => ("WornThings", "imageKept", "Z", false)
  | 11 => ("WornThings", "imageRow", "[I", true)
  | 12 => ("WornThings", "imageActs", "LWornThings$Acts;", true)
  | 13 => ("WornThings", "imageNotes", "LWornThings$Notes;", true)
  | 14 => ("WornThings", "trials", "LWornThings$Trials;", true)
  | 15 => ("WornThings", "vanities", "LWornThings$Vanities;", true)
  | _ => ("WornThings", "ties", "LWornThings$Ties;", true)
def tyX9 : Nat → FieldType := fun k => match k with
  | 0 => .array .byte
  | 1 => .int
  | 2 => .int
  | 3 => .array .int
  | 4 => .object "WornThings$Reader"
  | 5 => .object "WornThings$City"
  | 6 => .object "WornThings$City"
  | 7 => .object "WornThings$Town"
  | 8 => .object "WornThings$Acts"
  | 9 => .object "WornThings$Notes"
  | 10 => .boolean
  | 11 => .array .int
  | 12 => .object "WornThings$Acts"
  | 13 => .object "WornThings$Notes"
  | 14 => .object "WornThings$Trials"
  | 15 => .object "WornThings$Vanities"
  | _ => .object "WornThings$Ties"
abbrev wsX90 : List Cond := u_ws RX9 TX9 17
theorem nmX9 : ∀ a, a < 17 → ∀ b, b < 17 → a ≠ b → (TX9 a).2.1 ≠ (TX9 b).2.1 := by decide +kernel
theorem tyX9_ok : ∀ k, k < 17 → parseFieldDescriptor (TX9 k).2.2.1 = some (tyX9 k) := by decide +kernel
abbrev cX9_init : ByteArray := prog_1_method_1_code
def yX9_init : MethodName := ⟨RX9, "<init>", "()V"⟩
abbrev cX9_feed : ByteArray := prog_1_method_2_code
def yX9_feed : MethodName := ⟨RX9, "feed", "(IIIII)I"⟩
abbrev cX9_city : ByteArray := prog_1_method_3_code
def yX9_city : MethodName := ⟨RX9, "city", "(I)I"⟩
abbrev cX9_fault : ByteArray := prog_1_method_4_code
def yX9_fault : MethodName := ⟨RX9, "fault", "()I"⟩
abbrev cX9_count : ByteArray := prog_1_method_5_code
def yX9_count : MethodName := ⟨RX9, "count", "(I)I"⟩
abbrev cX9_person : ByteArray := prog_1_method_6_code
def yX9_person : MethodName := ⟨RX9, "person", "(II)I"⟩
abbrev cX9_thing : ByteArray := prog_1_method_7_code
def yX9_thing : MethodName := ⟨RX9, "thing", "(II)I"⟩
abbrev cX9_days : ByteArray := prog_1_method_8_code
def yX9_days : MethodName := ⟨RX9, "days", "(I)I"⟩
abbrev cX9_steal : ByteArray := prog_1_method_9_code
def yX9_steal : MethodName := ⟨RX9, "steal", "(II)I"⟩
abbrev cX9_back : ByteArray := prog_1_method_10_code
def yX9_back : MethodName := ⟨RX9, "back", "(I)I"⟩
abbrev cX9_walk : ByteArray := prog_1_method_11_code
def yX9_walk : MethodName := ⟨RX9, "walk", "(III)I"⟩
abbrev cX9_dye : ByteArray := prog_1_method_12_code
def yX9_dye : MethodName := ⟨RX9, "dye", "(II)I"⟩
abbrev cX9_undo : ByteArray := prog_1_method_13_code
def yX9_undo : MethodName := ⟨RX9, "undo", "()I"⟩
abbrev cX9_then : ByteArray := prog_1_method_14_code
def yX9_then : MethodName := ⟨RX9, "then", "(III)I"⟩
abbrev cX9_later : ByteArray := prog_1_method_15_code
def yX9_later : MethodName := ⟨RX9, "later", "(III)I"⟩
abbrev cX9_when : ByteArray := prog_1_method_16_code
def yX9_when : MethodName := ⟨RX9, "when", "(II)I"⟩
abbrev cX9_all : ByteArray := prog_1_method_17_code
def yX9_all : MethodName := ⟨RX9, "all", "(II)I"⟩
abbrev cX9_where : ByteArray := prog_1_method_18_code
def yX9_where : MethodName := ⟨RX9, "where", "(III)I"⟩
abbrev cX9_toStand : ByteArray := prog_1_method_19_code
def yX9_toStand : MethodName := ⟨RX9, "toStand", "(II)I"⟩
abbrev cX9_toSteal : ByteArray := prog_1_method_20_code
def yX9_toSteal : MethodName := ⟨RX9, "toSteal", "(II)I"⟩
abbrev cX9_watch : ByteArray := prog_1_method_21_code
def yX9_watch : MethodName := ⟨RX9, "watch", "(I)I"⟩
abbrev cX9_least : ByteArray := prog_1_method_22_code
def yX9_least : MethodName := ⟨RX9, "least", "(I)I"⟩
abbrev cX9_whose : ByteArray := prog_1_method_23_code
def yX9_whose : MethodName := ⟨RX9, "whose", "(I)I"⟩
abbrev cX9_note : ByteArray := prog_1_method_24_code
def yX9_note : MethodName := ⟨RX9, "note", "(IIZ)I"⟩
abbrev cX9_forget : ByteArray := prog_1_method_25_code
def yX9_forget : MethodName := ⟨RX9, "forget", "()V"⟩
abbrev cX9_vain : ByteArray := prog_1_method_26_code
def yX9_vain : MethodName := ⟨RX9, "vain", "(I)I"⟩
abbrev cX9_ask : ByteArray := prog_1_method_27_code
def yX9_ask : MethodName := ⟨RX9, "ask", "(I)I"⟩
abbrev cX9_fog : ByteArray := prog_1_method_28_code
def yX9_fog : MethodName := ⟨RX9, "fog", "(III)I"⟩
abbrev cX9_game : ByteArray := prog_1_method_29_code
def yX9_game : MethodName := ⟨RX9, "game", "(III)I"⟩
abbrev cX9_years : ByteArray := prog_1_method_30_code
def yX9_years : MethodName := ⟨RX9, "years", "(III)I"⟩
abbrev cX9_meet : ByteArray := prog_1_method_31_code
def yX9_meet : MethodName := ⟨RX9, "meet", "(II)I"⟩
abbrev cX9_faced : ByteArray := prog_1_method_32_code
def yX9_faced : MethodName := ⟨RX9, "faced", "(I)I"⟩
abbrev cX9_walks : ByteArray := prog_1_method_33_code
def yX9_walks : MethodName := ⟨RX9, "walks", "(II)I"⟩
abbrev cX9_shamed : ByteArray := prog_1_method_34_code
def yX9_shamed : MethodName := ⟨RX9, "shamed", "(II)I"⟩
abbrev cX9_has : ByteArray := prog_1_method_35_code
def yX9_has : MethodName := ⟨RX9, "has", "(II)I"⟩
abbrev cX9_takes : ByteArray := prog_1_method_36_code
def yX9_takes : MethodName := ⟨RX9, "takes", "(II)I"⟩
abbrev cX9_quiet : ByteArray := prog_1_method_37_code
def yX9_quiet : MethodName := ⟨RX9, "quiet", "(I)I"⟩
abbrev cX9_image : ByteArray := prog_1_method_38_code
def yX9_image : MethodName := ⟨RX9, "image", "()V"⟩
abbrev cX9_restore : ByteArray := prog_1_method_39_code
def yX9_restore : MethodName := ⟨RX9, "restore", "()Z"⟩
abbrev cX9_putBytes : ByteArray := prog_1_method_40_code
def yX9_putBytes : MethodName := ⟨RX9, "putBytes", "(I)V"⟩
abbrev cX9_refuse : ByteArray := prog_1_method_41_code
def yX9_refuse : MethodName := ⟨RX9, "refuse", "(II)I"⟩
abbrev cX9_needPerson : ByteArray := prog_1_method_42_code
def yX9_needPerson : MethodName := ⟨RX9, "needPerson", "(I)V"⟩
abbrev cX9_needThing : ByteArray := prog_1_method_43_code
def yX9_needThing : MethodName := ⟨RX9, "needThing", "(I)V"⟩
abbrev cX9_needWhat : ByteArray := prog_1_method_44_code
def yX9_needWhat : MethodName := ⟨RX9, "needWhat", "(II)V"⟩
abbrev cX9_needWithin : ByteArray := prog_1_method_45_code
def yX9_needWithin : MethodName := ⟨RX9, "needWithin", "(III)V"⟩
def RX10 : String := "WornThingsModel"
def TX10 : u_T := fun k => match k with
  | 0 => ("WornThingsModel", "thrown", "I", false)
  | 1 => ("WornThingsModel", "places", "I", false)
  | 2 => ("WornThingsModel", "people", "I", false)
  | 3 => ("WornThingsModel", "things", "I", false)
  | 4 => ("WornThingsModel", "term", "I", false)
  | 5 => ("WornThingsModel", "shamesAt", "I", false)
  | 6 => ("WornThingsModel", "returnsAt", "I", false)
  | 7 => ("WornThingsModel", "walkLong", "[I", true)
  | 8 => ("WornThingsModel", "weight", "[I", true)
  | 9 => ("WornThingsModel", "code", "[I", true)
  | 10 => ("WornThingsModel", "isBlind", "[Z", true)
  | 11 => ("WornThingsModel", "tape", "[I", true)
  | 12 => ("WornThingsModel", "taped", "I", false)
  | 13 => ("WornThingsModel", "faultKind", "I", false)
  | 14 => ("WornThingsModel", "faultPlace", "I", false)
  | 15 => ("WornThingsModel", "refused", "[I", true)
  | 16 => ("WornThingsModel", "long1", "I", false)
  | 17 => ("WornThingsModel", "next0", "I", false)
  | 18 => ("WornThingsModel", "sort", "I", false)
  | 19 => ("WornThingsModel", "place", "I", false)
  | 20 => ("WornThingsModel", "long0", "I", false)
  | 21 => ("WornThingsModel", "value", "I", false)
  | 22 => ("WornThingsModel", "sign", "I", false)
  | 23 => ("WornThingsModel", "word", "J", false)
  | 24 => ("WornThingsModel", "newPlaces", "I", false)
  | 25 => ("WornThingsModel", "newPeople", "I", false)
  | 26 => ("WornThingsModel", "newThings", "I", false)
  | 27 => ("WornThingsModel", "newTerm", "I", false)
  | 28 => ("WornThingsModel", "newShamesAt", "I", false)
  | 29 => ("WornThingsModel", "newReturnsAt", "I", false)
  | 30 => ("WornThingsModel", "top", "I", false)
  | 31 => ("WornThingsModel", "firstValue", "I", false)
  | 32 => ("WornThingsModel", "lastValue", "I", false)
  | 33 => ("WornThingsModel", "waiting", "I", false)
  | 34 => ("WornThingsModel", "depth", "I", false)
  | 35 => ("WornThingsModel", "newWalkLong", "[I", true)
  | 36 => ("WornThingsModel", "newWeight", "[I", true)
  | 37 => ("WornThingsModel", "newRow", "[I", true)
  | 38 => ("WornThingsModel", "readCode", "[I", true)
  | 39 => ("WornThingsModel", "waits", "[I", true)
  | 40 => ("WornThingsModel", "newBlind", "[Z", true)
  | 41 => ("WornThingsModel", "tested", "[Z", true)
  | 42 => ("WornThingsModel", "rows", "[I", true)
  | 43 => ("WornThingsModel", "ahead", "[I", true)
  | 44 => ("WornThingsModel", "acts", "I", false)
  | 45 => ("WornThingsModel", "told", "[I", true)
  | 46 => ("WornThingsModel", "pile", "[I", true)
  | 47 => ("WornThingsModel", "isFog", "Z", false)
  | 48 => ("WornThingsModel", "owned", "I", false)
  | 49 => ("WornThingsModel", "leastOf", "[I", true)
  | 50 => ("WornThingsModel", "often", "[I", true)
  | 51 => ("WornThingsModel", "notedMany", "I", false)
  | 52 => ("WornThingsModel", "noted", "[I", true)
  | 53 => ("WornThingsModel", "soon", "[I", true)
  | 54 => ("WornThingsModel", "soonAll", "[I", true)
  | 55 => ("WornThingsModel", "its0", "I", false)
  | 56 => ("WornThingsModel", "hasImage", "Z", false)
  | 57 => ("WornThingsModel", "imageActs", "I", false)
  | 58 => ("WornThingsModel", "imageNoted", "I", false)
  | 59 => ("WornThingsModel", "imageRow", "[I", true)
  | 60 => ("WornThingsModel", "imageAhead", "[I", true)
  | _ => ("WornThingsModel", "imageNotes", "[I", true)
def tyX10 : Nat → FieldType := fun k => match k with
  | 0 => .int
  | 1 => .int
  | 2 => .int
  | 3 => .int
  | 4 => .int
  | 5 => .int
  | 6 => .int
  | 7 => .array .int
  | 8 => .array .int
  | 9 => .array .int
  | 10 => .array .boolean
  | 11 => .array .int
  | 12 => .int
  | 13 => .int
  | 14 => .int
  | 15 => .array .int
  | 16 => .int
  | 17 => .int
  | 18 => .int
  | 19 => .int
  | 20 => .int
  | 21 => .int
  | 22 => .int
  | 23 => .long
  | 24 => .int
  | 25 => .int
  | 26 => .int
  | 27 => .int
  | 28 => .int
  | 29 => .int
  | 30 => .int
  | 31 => .int
  | 32 => .int
  | 33 => .int
  | 34 => .int
  | 35 => .array .int
  | 36 => .array .int
  | 37 => .array .int
  | 38 => .array .int
  | 39 => .array .int
  | 40 => .array .boolean
  | 41 => .array .boolean
  | 42 => .array .int
  | 43 => .array .int
  | 44 => .int
  | 45 => .array .int
  | 46 => .array .int
  | 47 => .boolean
  | 48 => .int
  | 49 => .array .int
  | 50 => .array .int
  | 51 => .int
  | 52 => .array .int
  | 53 => .array .int
  | 54 => .array .int
  | 55 => .int
  | 56 => .boolean
  | 57 => .int
  | 58 => .int
  | 59 => .array .int
  | 60 => .array .int
  | _ => .array .int
abbrev wsX100 : List Cond := u_ws RX10 TX10 62
theorem nmX10 : ∀ a, a < 62 → ∀ b, b < 62 → a ≠ b → (TX10 a).2.1 ≠ (TX10 b).2.1 := by decide +kernel
theorem tyX10_ok : ∀ k, k < 62 → parseFieldDescriptor (TX10 k).2.2.1 = some (tyX10 k) := by decide +kernel
abbrev cX10_init : ByteArray := prog_12_method_1_code
def yX10_init : MethodName := ⟨RX10, "<init>", "()V"⟩
abbrev cX10_thrown : ByteArray := prog_12_method_2_code
def yX10_thrown : MethodName := ⟨RX10, "thrown", "()I"⟩
abbrev cX10_right : ByteArray := prog_12_method_3_code
def yX10_right : MethodName := ⟨RX10, "right", "(ZI)Z"⟩
abbrev cX10_within : ByteArray := prog_12_method_4_code
def yX10_within : MethodName := ⟨RX10, "within", "(III)Z"⟩
abbrev cX10_bounded : ByteArray := prog_12_method_5_code
def yX10_bounded : MethodName := ⟨RX10, "bounded", "(III)I"⟩
abbrev cX10_lesser : ByteArray := prog_12_method_6_code
def yX10_lesser : MethodName := ⟨RX10, "lesser", "(II)I"⟩
abbrev cX10_copies : ByteArray := prog_12_method_7_code
def yX10_copies : MethodName := ⟨RX10, "copies", "([I[I)V"⟩
abbrev cX10_bits : ByteArray := prog_12_method_8_code
def yX10_bits : MethodName := ⟨RX10, "bits", "(I)I"⟩
abbrev cX10_feed : ByteArray := prog_12_method_9_code
def yX10_feed : MethodName := ⟨RX10, "feed", "(IIIII)I"⟩
abbrev cX10_lays : ByteArray := prog_12_method_10_code
def yX10_lays : MethodName := ⟨RX10, "lays", "(I)V"⟩
abbrev cX10_byteAt : ByteArray := prog_12_method_11_code
def yX10_byteAt : MethodName := ⟨RX10, "byteAt", "(I)I"⟩
abbrev cX10_isLetter : ByteArray := prog_12_method_12_code
def yX10_isLetter : MethodName := ⟨RX10, "isLetter", "(I)Z"⟩
abbrev cX10_isDigit : ByteArray := prog_12_method_13_code
def yX10_isDigit : MethodName := ⟨RX10, "isDigit", "(I)Z"⟩
abbrev cX10_goes : ByteArray := prog_12_method_14_code
def yX10_goes : MethodName := ⟨RX10, "goes", "()V"⟩
abbrev cX10_spelled : ByteArray := prog_12_method_15_code
def yX10_spelled : MethodName := ⟨RX10, "spelled", "(IIIIIII)J"⟩
abbrev cX10_letters : ByteArray := prog_12_method_16_code
def yX10_letters : MethodName := ⟨RX10, "letters", "(I)J"⟩
abbrev cX10_knownWord : ByteArray := prog_12_method_17_code
def yX10_knownWord : MethodName := ⟨RX10, "knownWord", "()I"⟩
abbrev cX10_wrong : ByteArray := prog_12_method_18_code
def yX10_wrong : MethodName := ⟨RX10, "wrong", "(I)V"⟩
abbrev cX10_isGood : ByteArray := prog_12_method_19_code
def yX10_isGood : MethodName := ⟨RX10, "isGood", "()Z"⟩
abbrev cX10_isSign : ByteArray := prog_12_method_20_code
def yX10_isSign : MethodName := ⟨RX10, "isSign", "(I)Z"⟩
abbrev cX10_need : ByteArray := prog_12_method_21_code
def yX10_need : MethodName := ⟨RX10, "need", "(Z)V"⟩
abbrev cX10_number : ByteArray := prog_12_method_22_code
def yX10_number : MethodName := ⟨RX10, "number", "(II)I"⟩
abbrev cX10_isOneOf : ByteArray := prog_12_method_23_code
def yX10_isOneOf : MethodName := ⟨RX10, "isOneOf", "(I)Z"⟩
abbrev cX10_puts : ByteArray := prog_12_method_24_code
def yX10_puts : MethodName := ⟨RX10, "puts", "(I)V"⟩
abbrev cX10_isOpen : ByteArray := prog_12_method_25_code
def yX10_isOpen : MethodName := ⟨RX10, "isOpen", "(I)Z"⟩
abbrev cX10_strength : ByteArray := prog_12_method_26_code
def yX10_strength : MethodName := ⟨RX10, "strength", "(I)I"⟩
abbrev cX10_drops : ByteArray := prog_12_method_27_code
def yX10_drops : MethodName := ⟨RX10, "drops", "(I)V"⟩
abbrev cX10_waitsFor : ByteArray := prog_12_method_28_code
def yX10_waitsFor : MethodName := ⟨RX10, "waitsFor", "(I)V"⟩
abbrev cX10_part : ByteArray := prog_12_method_29_code
def yX10_part : MethodName := ⟨RX10, "part", "()V"⟩
abbrev cX10_deeper : ByteArray := prog_12_method_30_code
def yX10_deeper : MethodName := ⟨RX10, "deeper", "()V"⟩
abbrev cX10_operand : ByteArray := prog_12_method_31_code
def yX10_operand : MethodName := ⟨RX10, "operand", "(Z)V"⟩
abbrev cX10_isOpened : ByteArray := prog_12_method_32_code
def yX10_isOpened : MethodName := ⟨RX10, "isOpened", "()Z"⟩
abbrev cX10_closes : ByteArray := prog_12_method_33_code
def yX10_closes : MethodName := ⟨RX10, "closes", "()V"⟩
abbrev cX10_expression : ByteArray := prog_12_method_34_code
def yX10_expression : MethodName := ⟨RX10, "expression", "(II)V"⟩
abbrev cX10_begins : ByteArray := prog_12_method_35_code
def yX10_begins : MethodName := ⟨RX10, "begins", "(ZZZ)Z"⟩
abbrev cX10_readsPerson : ByteArray := prog_12_method_36_code
def yX10_readsPerson : MethodName := ⟨RX10, "readsPerson", "(Z)V"⟩
abbrev cX10_readsThing : ByteArray := prog_12_method_37_code
def yX10_readsThing : MethodName := ⟨RX10, "readsThing", "()V"⟩
abbrev cX10_line : ByteArray := prog_12_method_38_code
def yX10_line : MethodName := ⟨RX10, "line", "()V"⟩
abbrev cX10_city : ByteArray := prog_12_method_39_code
def yX10_city : MethodName := ⟨RX10, "city", "(I)I"⟩
abbrev cX10_fault : ByteArray := prog_12_method_40_code
def yX10_fault : MethodName := ⟨RX10, "fault", "()I"⟩
abbrev cX10_keeps : ByteArray := prog_12_method_41_code
def yX10_keeps : MethodName := ⟨RX10, "keeps", "()V"⟩
abbrev cX10_refuses : ByteArray := prog_12_method_42_code
def yX10_refuses : MethodName := ⟨RX10, "refuses", "(I)I"⟩
abbrev cX10_undo : ByteArray := prog_12_method_43_code
def yX10_undo : MethodName := ⟨RX10, "undo", "()I"⟩
abbrev cX10_tries : ByteArray := prog_12_method_44_code
def yX10_tries : MethodName := ⟨RX10, "tries", "()V"⟩
abbrev cX10_works : ByteArray := prog_12_method_45_code
def yX10_works : MethodName := ⟨RX10, "works", "(III)I"⟩
abbrev cX10_reckons : ByteArray := prog_12_method_46_code
def yX10_reckons : MethodName := ⟨RX10, "reckons", "(I)I"⟩
abbrev cX10_placeOn : ByteArray := prog_12_method_47_code
def yX10_placeOn : MethodName := ⟨RX10, "placeOn", "(III)I"⟩
abbrev cX10_looksAt : ByteArray := prog_12_method_48_code
def yX10_looksAt : MethodName := ⟨RX10, "looksAt", "(III)I"⟩
abbrev cX10_wornBy : ByteArray := prog_12_method_49_code
def yX10_wornBy : MethodName := ⟨RX10, "wornBy", "(II)I"⟩
abbrev cX10_wornOnes : ByteArray := prog_12_method_50_code
def yX10_wornOnes : MethodName := ⟨RX10, "wornOnes", "(I)I"⟩
abbrev cX10_eyesOn : ByteArray := prog_12_method_51_code
def yX10_eyesOn : MethodName := ⟨RX10, "eyesOn", "(II)I"⟩
abbrev cX10_shameOf : ByteArray := prog_12_method_52_code
def yX10_shameOf : MethodName := ⟨RX10, "shameOf", "(II)I"⟩
abbrev cX10_isOff : ByteArray := prog_12_method_53_code
def yX10_isOff : MethodName := ⟨RX10, "isOff", "(II)V"⟩
abbrev cX10_thingGoes : ByteArray := prog_12_method_54_code
def yX10_thingGoes : MethodName := ⟨RX10, "thingGoes", "(II)V"⟩
abbrev cX10_returns0 : ByteArray := prog_12_method_55_code
def yX10_returns0 : MethodName := ⟨RX10, "returns0", "(II)Z"⟩
abbrev cX10_givesAll : ByteArray := prog_12_method_56_code
def yX10_givesAll : MethodName := ⟨RX10, "givesAll", "(II)V"⟩
abbrev cX10_dayGoes : ByteArray := prog_12_method_57_code
def yX10_dayGoes : MethodName := ⟨RX10, "dayGoes", "(I)V"⟩
abbrev cX10_daysGo : ByteArray := prog_12_method_58_code
def yX10_daysGo : MethodName := ⟨RX10, "daysGo", "(I)V"⟩
abbrev cX10_comesTo : ByteArray := prog_12_method_59_code
def yX10_comesTo : MethodName := ⟨RX10, "comesTo", "(I)I"⟩
abbrev cX10_ringsNow : ByteArray := prog_12_method_60_code
def yX10_ringsNow : MethodName := ⟨RX10, "ringsNow", "()I"⟩
abbrev cX10_shameAll : ByteArray := prog_12_method_61_code
def yX10_shameAll : MethodName := ⟨RX10, "shameAll", "(I)I"⟩
abbrev cX10_count : ByteArray := prog_12_method_62_code
def yX10_count : MethodName := ⟨RX10, "count", "(I)I"⟩
abbrev cX10_isPerson : ByteArray := prog_12_method_63_code
def yX10_isPerson : MethodName := ⟨RX10, "isPerson", "(I)Z"⟩
abbrev cX10_isThing : ByteArray := prog_12_method_64_code
def yX10_isThing : MethodName := ⟨RX10, "isThing", "(I)Z"⟩
abbrev cX10_isWhat : ByteArray := prog_12_method_65_code
def yX10_isWhat : MethodName := ⟨RX10, "isWhat", "(II)Z"⟩
abbrev cX10_isSoon : ByteArray := prog_12_method_66_code
def yX10_isSoon : MethodName := ⟨RX10, "isSoon", "(III)Z"⟩
abbrev cX10_ownedBy : ByteArray := prog_12_method_67_code
def yX10_ownedBy : MethodName := ⟨RX10, "ownedBy", "(II)I"⟩
abbrev cX10_heavy : ByteArray := prog_12_method_68_code
def yX10_heavy : MethodName := ⟨RX10, "heavy", "(I)I"⟩
abbrev cX10_oddest : ByteArray := prog_12_method_69_code
def yX10_oddest : MethodName := ⟨RX10, "oddest", "(I)I"⟩
abbrev cX10_person : ByteArray := prog_12_method_70_code
def yX10_person : MethodName := ⟨RX10, "person", "(II)I"⟩
abbrev cX10_thing : ByteArray := prog_12_method_71_code
def yX10_thing : MethodName := ⟨RX10, "thing", "(II)I"⟩
abbrev cX10_days : ByteArray := prog_12_method_72_code
def yX10_days : MethodName := ⟨RX10, "days", "(I)I"⟩
abbrev cX10_maySteal : ByteArray := prog_12_method_73_code
def yX10_maySteal : MethodName := ⟨RX10, "maySteal", "(III)Z"⟩
abbrev cX10_steals : ByteArray := prog_12_method_74_code
def yX10_steals : MethodName := ⟨RX10, "steals", "(III)V"⟩
abbrev cX10_steal : ByteArray := prog_12_method_75_code
def yX10_steal : MethodName := ⟨RX10, "steal", "(II)I"⟩
abbrev cX10_back : ByteArray := prog_12_method_76_code
def yX10_back : MethodName := ⟨RX10, "back", "(I)I"⟩
abbrev cX10_walk : ByteArray := prog_12_method_77_code
def yX10_walk : MethodName := ⟨RX10, "walk", "(III)I"⟩
abbrev cX10_dye : ByteArray := prog_12_method_78_code
def yX10_dye : MethodName := ⟨RX10, "dye", "(II)I"⟩
abbrev cX10_goesTo : ByteArray := prog_12_method_79_code
def yX10_goesTo : MethodName := ⟨RX10, "goesTo", "(I)V"⟩
abbrev cX10_then : ByteArray := prog_12_method_80_code
def yX10_then : MethodName := ⟨RX10, "then", "(III)I"⟩
abbrev cX10_later : ByteArray := prog_12_method_81_code
def yX10_later : MethodName := ⟨RX10, "later", "(III)I"⟩
abbrev cX10_ownIn : ByteArray := prog_12_method_82_code
def yX10_ownIn : MethodName := ⟨RX10, "ownIn", "(IZ)I"⟩
abbrev cX10_orNone : ByteArray := prog_12_method_83_code
def yX10_orNone : MethodName := ⟨RX10, "orNone", "(I)I"⟩
abbrev cX10_when : ByteArray := prog_12_method_84_code
def yX10_when : MethodName := ⟨RX10, "when", "(II)I"⟩
abbrev cX10_all : ByteArray := prog_12_method_85_code
def yX10_all : MethodName := ⟨RX10, "all", "(II)I"⟩
abbrev cX10_where : ByteArray := prog_12_method_86_code
def yX10_where : MethodName := ⟨RX10, "where", "(III)I"⟩
abbrev cX10_shamed : ByteArray := prog_12_method_87_code
def yX10_shamed : MethodName := ⟨RX10, "shamed", "(II)I"⟩
abbrev cX10_has : ByteArray := prog_12_method_88_code
def yX10_has : MethodName := ⟨RX10, "has", "(II)I"⟩
abbrev cX10_takes : ByteArray := prog_12_method_89_code
def yX10_takes : MethodName := ⟨RX10, "takes", "(II)I"⟩
abbrev cX10_quiet : ByteArray := prog_12_method_90_code
def yX10_quiet : MethodName := ⟨RX10, "quiet", "(I)I"⟩
abbrev cX10_toStand : ByteArray := prog_12_method_91_code
def yX10_toStand : MethodName := ⟨RX10, "toStand", "(II)I"⟩
abbrev cX10_toSteal : ByteArray := prog_12_method_92_code
def yX10_toSteal : MethodName := ⟨RX10, "toSteal", "(II)I"⟩
abbrev cX10_watch : ByteArray := prog_12_method_93_code
def yX10_watch : MethodName := ⟨RX10, "watch", "(I)I"⟩
abbrev cX10_isSeenAt : ByteArray := prog_12_method_94_code
def yX10_isSeenAt : MethodName := ⟨RX10, "isSeenAt", "(III)Z"⟩
abbrev cX10_goesAt : ByteArray := prog_12_method_95_code
def yX10_goesAt : MethodName := ⟨RX10, "goesAt", "(III)I"⟩
abbrev cX10_canGo : ByteArray := prog_12_method_96_code
def yX10_canGo : MethodName := ⟨RX10, "canGo", "(III)Z"⟩
abbrev cX10_least : ByteArray := prog_12_method_97_code
def yX10_least : MethodName := ⟨RX10, "least", "(I)I"⟩
abbrev cX10_whose : ByteArray := prog_12_method_98_code
def yX10_whose : MethodName := ⟨RX10, "whose", "(I)I"⟩
abbrev cX10_meet : ByteArray := prog_12_method_99_code
def yX10_meet : MethodName := ⟨RX10, "meet", "(II)I"⟩
abbrev cX10_faced : ByteArray := prog_12_method_100_code
def yX10_faced : MethodName := ⟨RX10, "faced", "(I)I"⟩
abbrev cX10_walks : ByteArray := prog_12_method_101_code
def yX10_walks : MethodName := ⟨RX10, "walks", "(II)I"⟩
abbrev cX10_note : ByteArray := prog_12_method_102_code
def yX10_note : MethodName := ⟨RX10, "note", "(IIZ)I"⟩
abbrev cX10_forget : ByteArray := prog_12_method_103_code
def yX10_forget : MethodName := ⟨RX10, "forget", "()V"⟩
abbrev cX10_isNoted : ByteArray := prog_12_method_104_code
def yX10_isNoted : MethodName := ⟨RX10, "isNoted", "()Z"⟩
abbrev cX10_isGuess : ByteArray := prog_12_method_105_code
def yX10_isGuess : MethodName := ⟨RX10, "isGuess", "(I)Z"⟩
abbrev cX10_vain : ByteArray := prog_12_method_106_code
def yX10_vain : MethodName := ⟨RX10, "vain", "(I)I"⟩
abbrev cX10_areLike : ByteArray := prog_12_method_107_code
def yX10_areLike : MethodName := ⟨RX10, "areLike", "(III)Z"⟩
abbrev cX10_ask : ByteArray := prog_12_method_108_code
def yX10_ask : MethodName := ⟨RX10, "ask", "(I)I"⟩
abbrev cX10_fog : ByteArray := prog_12_method_109_code
def yX10_fog : MethodName := ⟨RX10, "fog", "(III)I"⟩
abbrev cX10_gains : ByteArray := prog_12_method_110_code
def yX10_gains : MethodName := ⟨RX10, "gains", "(IIII)I"⟩
abbrev cX10_game : ByteArray := prog_12_method_111_code
def yX10_game : MethodName := ⟨RX10, "game", "(III)I"⟩
abbrev cX10_draw : ByteArray := prog_12_method_112_code
def yX10_draw : MethodName := ⟨RX10, "draw", "(I)I"⟩
abbrev cX10_happens : ByteArray := prog_12_method_113_code
def yX10_happens : MethodName := ⟨RX10, "happens", "()V"⟩
abbrev cX10_years : ByteArray := prog_12_method_114_code
def yX10_years : MethodName := ⟨RX10, "years", "(III)I"⟩
abbrev cX10_image : ByteArray := prog_12_method_115_code
def yX10_image : MethodName := ⟨RX10, "image", "()V"⟩
abbrev cX10_restore : ByteArray := prog_12_method_116_code
def yX10_restore : MethodName := ⟨RX10, "restore", "()Z"⟩
def RJx145de : String := "java/io/Serializable"
def TJx145de : u_T := fun k => match k with
  | _ => ("", "", "", false)
def tyJx145de : Nat → FieldType := fun k => match k with
  | _ => .int
theorem nmJx145de : ∀ a, a < 0 → ∀ b, b < 0 → a ≠ b → (TJx145de a).2.1 ≠ (TJx145de b).2.1 := by decide +kernel
theorem tyJx145de_ok : ∀ k, k < 0 → parseFieldDescriptor (TJx145de k).2.2.1 = some (tyJx145de k) := by decide +kernel
def RJx9f9b0 : String := "java/lang/CharSequence"
def TJx9f9b0 : u_T := fun k => match k with
  | _ => ("", "", "", false)
def tyJx9f9b0 : Nat → FieldType := fun k => match k with
  | _ => .int
theorem nmJx9f9b0 : ∀ a, a < 0 → ∀ b, b < 0 → a ≠ b → (TJx9f9b0 a).2.1 ≠ (TJx9f9b0 b).2.1 := by decide +kernel
theorem tyJx9f9b0_ok : ∀ k, k < 0 → parseFieldDescriptor (TJx9f9b0 k).2.2.1 = some (tyJx9f9b0 k) := by decide +kernel
def RJ11 : String := "java/lang/Character"
def TJ11 : u_T := fun k => match k with
  | _ => ("", "", "", false)
def tyJ11 : Nat → FieldType := fun k => match k with
  | _ => .int
theorem nmJ11 : ∀ a, a < 0 → ∀ b, b < 0 → a ≠ b → (TJ11 a).2.1 ≠ (TJ11 b).2.1 := by decide +kernel
theorem tyJ11_ok : ∀ k, k < 0 → parseFieldDescriptor (TJ11 k).2.2.1 = some (tyJ11 k) := by decide +kernel
abbrev cJ11_isValidCodePoint_9a6ad : ByteArray := prog_15_method_11_code
def yJ11_isValidCodePoint_9a6ad : MethodName := ⟨RJ11, "isValidCodePoint", "(I)Z"⟩
abbrev cJ11_highSurrogate_5068e : ByteArray := prog_15_method_28_code
def yJ11_highSurrogate_5068e : MethodName := ⟨RJ11, "highSurrogate", "(I)C"⟩
abbrev cJ11_lowSurrogate_5068e : ByteArray := prog_15_method_29_code
def yJ11_lowSurrogate_5068e : MethodName := ⟨RJ11, "lowSurrogate", "(I)C"⟩
def RJxb160c : String := "java/lang/Comparable"
def TJxb160c : u_T := fun k => match k with
  | _ => ("", "", "", false)
def tyJxb160c : Nat → FieldType := fun k => match k with
  | _ => .int
theorem nmJxb160c : ∀ a, a < 0 → ∀ b, b < 0 → a ≠ b → (TJxb160c a).2.1 ≠ (TJxb160c b).2.1 := by decide +kernel
theorem tyJxb160c_ok : ∀ k, k < 0 → parseFieldDescriptor (TJxb160c k).2.2.1 = some (tyJxb160c k) := by decide +kernel
def RJ6 : String := "java/lang/Integer"
def TJ6 : u_T := fun k => match k with
  | _ => ("", "", "", false)
def tyJ6 : Nat → FieldType := fun k => match k with
  | _ => .int
theorem nmJ6 : ∀ a, a < 0 → ∀ b, b < 0 → a ≠ b → (TJ6 a).2.1 ≠ (TJ6 b).2.1 := by decide +kernel
theorem tyJ6_ok : ∀ k, k < 0 → parseFieldDescriptor (TJ6 k).2.2.1 = some (tyJ6 k) := by decide +kernel
abbrev cJ6_bitCount_0f7a4 : ByteArray := prog_19_method_49_code
def yJ6_bitCount_0f7a4 : MethodName := ⟨RJ6, "bitCount", "(I)I"⟩
def RJ9 : String := "java/lang/Math"
def TJ9 : u_T := fun k => match k with
  | _ => ("", "", "", false)
def tyJ9 : Nat → FieldType := fun k => match k with
  | _ => .int
theorem nmJ9 : ∀ a, a < 0 → ∀ b, b < 0 → a ≠ b → (TJ9 a).2.1 ≠ (TJ9 b).2.1 := by decide +kernel
theorem tyJ9_ok : ∀ k, k < 0 → parseFieldDescriptor (TJ9 k).2.2.1 = some (tyJ9 k) := by decide +kernel
abbrev cJ9_max_7cf53 : ByteArray := prog_20_method_65_code
def yJ9_max_7cf53 : MethodName := ⟨RJ9, "max", "(II)I"⟩
abbrev cJ9_min_7cf53 : ByteArray := prog_20_method_69_code
def yJ9_min_7cf53 : MethodName := ⟨RJ9, "min", "(II)I"⟩
def RJ0 : String := "java/lang/String"
def TJ0 : u_T := fun k => match k with
  | _ => ("", "", "", false)
def tyJ0 : Nat → FieldType := fun k => match k with
  | _ => .int
theorem nmJ0 : ∀ a, a < 0 → ∀ b, b < 0 → a ≠ b → (TJ0 a).2.1 ≠ (TJ0 b).2.1 := by decide +kernel
theorem tyJ0_ok : ∀ k, k < 0 → parseFieldDescriptor (TJ0 k).2.2.1 = some (tyJ0 k) := by decide +kernel
abbrev cJ0_length_8abf5 : ByteArray := prog_22_method_54_code
def yJ0_length_8abf5 : MethodName := ⟨RJ0, "length", "()I"⟩
abbrev cJ0_charAt_5068e : ByteArray := prog_22_method_56_code
def yJ0_charAt_5068e : MethodName := ⟨RJ0, "charAt", "(I)C"⟩
abbrev cJ0_indexOf_0f7a4 : ByteArray := prog_22_method_79_code
def yJ0_indexOf_0f7a4 : MethodName := ⟨RJ0, "indexOf", "(I)I"⟩
abbrev cJ0_indexOf_7cf53 : ByteArray := prog_22_method_80_code
def yJ0_indexOf_7cf53 : MethodName := ⟨RJ0, "indexOf", "(II)I"⟩
abbrev cJ0_coder_7d493 : ByteArray := prog_22_method_152_code
def yJ0_coder_7d493 : MethodName := ⟨RJ0, "coder", "()B"⟩
abbrev cJ0_isLatin1_aae02 : ByteArray := prog_22_method_154_code
def yJ0_isLatin1_aae02 : MethodName := ⟨RJ0, "isLatin1", "()Z"⟩
abbrev cJ0_checkIndex_df160 : ByteArray := prog_22_method_155_code
def yJ0_checkIndex_df160 : MethodName := ⟨RJ0, "checkIndex", "(II)V"⟩
abbrev cJ0_checkBoundsBeginEnd_23922 : ByteArray := prog_22_method_158_code
def yJ0_checkBoundsBeginEnd_23922 : MethodName := ⟨RJ0, "checkBoundsBeginEnd", "(III)V"⟩
def RJ1 : String := "java/lang/StringLatin1"
def TJ1 : u_T := fun k => match k with
  | _ => ("", "", "", false)
def tyJ1 : Nat → FieldType := fun k => match k with
  | _ => .int
theorem nmJ1 : ∀ a, a < 0 → ∀ b, b < 0 → a ≠ b → (TJ1 a).2.1 ≠ (TJ1 b).2.1 := by decide +kernel
theorem tyJ1_ok : ∀ k, k < 0 → parseFieldDescriptor (TJ1 k).2.2.1 = some (tyJ1 k) := by decide +kernel
abbrev cJ1_charAt_3b067 : ByteArray := prog_23_method_2_code
def yJ1_charAt_3b067 : MethodName := ⟨RJ1, "charAt", "([BI)C"⟩
abbrev cJ1_canEncode_9a6ad : ByteArray := prog_23_method_4_code
def yJ1_canEncode_9a6ad : MethodName := ⟨RJ1, "canEncode", "(I)Z"⟩
abbrev cJ1_indexOf_4cfef : ByteArray := prog_23_method_22_code
def yJ1_indexOf_4cfef : MethodName := ⟨RJ1, "indexOf", "([BIII)I"⟩
abbrev cJ1_indexOfChar_4cfef : ByteArray := prog_23_method_23_code
def yJ1_indexOfChar_4cfef : MethodName := ⟨RJ1, "indexOfChar", "([BIII)I"⟩
def RJ2 : String := "java/lang/StringUTF16"
def TJ2 : u_T := fun k => match k with
  | _ => ("", "", "", false)
def tyJ2 : Nat → FieldType := fun k => match k with
  | _ => .int
theorem nmJ2 : ∀ a, a < 0 → ∀ b, b < 0 → a ≠ b → (TJ2 a).2.1 ≠ (TJ2 b).2.1 := by decide +kernel
theorem tyJ2_ok : ∀ k, k < 0 → parseFieldDescriptor (TJ2 k).2.2.1 = some (tyJ2 k) := by decide +kernel
abbrev cJ2_getChar_3b067 : ByteArray := prog_24_method_5_code
def yJ2_getChar_3b067 : MethodName := ⟨RJ2, "getChar", "([BI)C"⟩
abbrev cJ2_length_9d52b : ByteArray := prog_24_method_6_code
def yJ2_length_9d52b : MethodName := ⟨RJ2, "length", "([B)I"⟩
abbrev cJ2_indexOf_4cfef : ByteArray := prog_24_method_40_code
def yJ2_indexOf_4cfef : MethodName := ⟨RJ2, "indexOf", "([BIII)I"⟩
abbrev cJ2_indexOfChar_4cfef : ByteArray := prog_24_method_47_code
def yJ2_indexOfChar_4cfef : MethodName := ⟨RJ2, "indexOfChar", "([BIII)I"⟩
abbrev cJ2_indexOfCharUnsafe_4cfef : ByteArray := prog_24_method_48_code
def yJ2_indexOfCharUnsafe_4cfef : MethodName := ⟨RJ2, "indexOfCharUnsafe", "([BIII)I"⟩
abbrev cJ2_indexOfSupplementary_4cfef : ByteArray := prog_24_method_49_code
def yJ2_indexOfSupplementary_4cfef : MethodName := ⟨RJ2, "indexOfSupplementary", "([BIII)I"⟩
abbrev cJ2_charAt_3b067 : ByteArray := prog_24_method_83_code
def yJ2_charAt_3b067 : MethodName := ⟨RJ2, "charAt", "([BI)C"⟩
abbrev cJ2_checkIndex_2214a : ByteArray := prog_24_method_91_code
def yJ2_checkIndex_2214a : MethodName := ⟨RJ2, "checkIndex", "(I[B)V"⟩
abbrev cJ2_checkBoundsBeginEnd_d044e : ByteArray := prog_24_method_93_code
def yJ2_checkBoundsBeginEnd_d044e : MethodName := ⟨RJ2, "checkBoundsBeginEnd", "(II[B)V"⟩
def RJ10 : String := "java/lang/System"
def TJ10 : u_T := fun k => match k with
  | _ => ("", "", "", false)
def tyJ10 : Nat → FieldType := fun k => match k with
  | _ => .int
theorem nmJ10 : ∀ a, a < 0 → ∀ b, b < 0 → a ≠ b → (TJ10 a).2.1 ≠ (TJ10 b).2.1 := by decide +kernel
theorem tyJ10_ok : ∀ k, k < 0 → parseFieldDescriptor (TJ10 k).2.2.1 = some (tyJ10 k) := by decide +kernel
def RJxfd54e : String := "java/lang/constant/Constable"
def TJxfd54e : u_T := fun k => match k with
  | _ => ("", "", "", false)
def tyJxfd54e : Nat → FieldType := fun k => match k with
  | _ => .int
theorem nmJxfd54e : ∀ a, a < 0 → ∀ b, b < 0 → a ≠ b → (TJxfd54e a).2.1 ≠ (TJxfd54e b).2.1 := by decide +kernel
theorem tyJxfd54e_ok : ∀ k, k < 0 → parseFieldDescriptor (TJxfd54e k).2.2.1 = some (tyJxfd54e k) := by decide +kernel
def RJx3cf43 : String := "java/lang/constant/ConstantDesc"
def TJx3cf43 : u_T := fun k => match k with
  | _ => ("", "", "", false)
def tyJx3cf43 : Nat → FieldType := fun k => match k with
  | _ => .int
theorem nmJx3cf43 : ∀ a, a < 0 → ∀ b, b < 0 → a ≠ b → (TJx3cf43 a).2.1 ≠ (TJx3cf43 b).2.1 := by decide +kernel
theorem tyJx3cf43_ok : ∀ k, k < 0 → parseFieldDescriptor (TJx3cf43 k).2.2.1 = some (tyJx3cf43 k) := by decide +kernel
def RJ7 : String := "java/util/Arrays"
def TJ7 : u_T := fun k => match k with
  | _ => ("", "", "", false)
def tyJ7 : Nat → FieldType := fun k => match k with
  | _ => .int
theorem nmJ7 : ∀ a, a < 0 → ∀ b, b < 0 → a ≠ b → (TJ7 a).2.1 ≠ (TJ7 b).2.1 := by decide +kernel
theorem tyJ7_ok : ∀ k, k < 0 → parseFieldDescriptor (TJ7 k).2.2.1 = some (tyJ7 k) := by decide +kernel
abbrev cJ7_fill_53178 : ByteArray := prog_29_method_103_code
def yJ7_fill_53178 : MethodName := ⟨RJ7, "fill", "([II)V"⟩
def RJ3 : String := "jdk/internal/util/Preconditions"
def TJ3 : u_T := fun k => match k with
  | _ => ("", "", "", false)
def tyJ3 : Nat → FieldType := fun k => match k with
  | _ => .int
theorem nmJ3 : ∀ a, a < 0 → ∀ b, b < 0 → a ≠ b → (TJ3 a).2.1 ≠ (TJ3 b).2.1 := by decide +kernel
theorem tyJ3_ok : ∀ k, k < 0 → parseFieldDescriptor (TJ3 k).2.2.1 = some (tyJ3 k) := by decide +kernel
abbrev cJ3_checkIndex_8e157 : ByteArray := prog_31_method_11_code
def yJ3_checkIndex_8e157 : MethodName := ⟨RJ3, "checkIndex", "(IILjava/util/function/BiFunction;)I"⟩
abbrev cJ3_checkFromToIndex_8c36e : ByteArray := prog_31_method_12_code
def yJ3_checkFromToIndex_8c36e : MethodName := ⟨RJ3, "checkFromToIndex", "(IIILjava/util/function/BiFunction;)I"⟩
def RL : String := "WornThingsLaw"
abbrev cL_city : ByteArray := method_3_code
def yL_city : MethodName := ⟨RL, "city", "(LWornThings;I[J)I"⟩
abbrev cL_count : ByteArray := method_4_code
def yL_count : MethodName := ⟨RL, "count", "(LWornThings;I[J)I"⟩
abbrev cL_person : ByteArray := method_5_code
def yL_person : MethodName := ⟨RL, "person", "(LWornThings;II[J)I"⟩
abbrev cL_thing : ByteArray := method_6_code
def yL_thing : MethodName := ⟨RL, "thing", "(LWornThings;II[J)I"⟩
abbrev cL_steal : ByteArray := method_7_code
def yL_steal : MethodName := ⟨RL, "steal", "(LWornThings;II[J)I"⟩
abbrev cL_back : ByteArray := method_8_code
def yL_back : MethodName := ⟨RL, "back", "(LWornThings;I[J)I"⟩
abbrev cL_walk : ByteArray := method_9_code
def yL_walk : MethodName := ⟨RL, "walk", "(LWornThings;III[J)I"⟩
abbrev cL_dye : ByteArray := method_10_code
def yL_dye : MethodName := ⟨RL, "dye", "(LWornThings;II[J)I"⟩
abbrev cL_then : ByteArray := method_11_code
def yL_then : MethodName := ⟨RL, "then", "(LWornThings;III[J)I"⟩
abbrev cL_later : ByteArray := method_12_code
def yL_later : MethodName := ⟨RL, "later", "(LWornThings;III[J)I"⟩
abbrev cL_when : ByteArray := method_13_code
def yL_when : MethodName := ⟨RL, "when", "(LWornThings;II[J)I"⟩
abbrev cL_all : ByteArray := method_14_code
def yL_all : MethodName := ⟨RL, "all", "(LWornThings;II[J)I"⟩
abbrev cL_where : ByteArray := method_15_code
def yL_where : MethodName := ⟨RL, "where", "(LWornThings;III[J)I"⟩
abbrev cL_toStand : ByteArray := method_16_code
def yL_toStand : MethodName := ⟨RL, "toStand", "(LWornThings;II[J)I"⟩
abbrev cL_toSteal : ByteArray := method_17_code
def yL_toSteal : MethodName := ⟨RL, "toSteal", "(LWornThings;II[J)I"⟩
abbrev cL_watch : ByteArray := method_18_code
def yL_watch : MethodName := ⟨RL, "watch", "(LWornThings;I[J)I"⟩
abbrev cL_least : ByteArray := method_19_code
def yL_least : MethodName := ⟨RL, "least", "(LWornThings;I[J)I"⟩
abbrev cL_whose : ByteArray := method_20_code
def yL_whose : MethodName := ⟨RL, "whose", "(LWornThings;I[J)I"⟩
abbrev cL_note : ByteArray := method_21_code
def yL_note : MethodName := ⟨RL, "note", "(LWornThings;IIZ[J)I"⟩
abbrev cL_vain : ByteArray := method_22_code
def yL_vain : MethodName := ⟨RL, "vain", "(LWornThings;I[J)I"⟩
abbrev cL_ask : ByteArray := method_23_code
def yL_ask : MethodName := ⟨RL, "ask", "(LWornThings;I[J)I"⟩
abbrev cL_fog : ByteArray := method_24_code
def yL_fog : MethodName := ⟨RL, "fog", "(LWornThings;III[J)I"⟩
abbrev cL_game : ByteArray := method_25_code
def yL_game : MethodName := ⟨RL, "game", "(LWornThings;III[J)I"⟩
abbrev cL_years : ByteArray := method_26_code
def yL_years : MethodName := ⟨RL, "years", "(LWornThings;III[J)I"⟩
abbrev cL_meet : ByteArray := method_27_code
def yL_meet : MethodName := ⟨RL, "meet", "(LWornThings;II[J)I"⟩
abbrev cL_faced : ByteArray := method_28_code
def yL_faced : MethodName := ⟨RL, "faced", "(LWornThings;I[J)I"⟩
abbrev cL_walks : ByteArray := method_29_code
def yL_walks : MethodName := ⟨RL, "walks", "(LWornThings;II[J)I"⟩
abbrev cL_shamed : ByteArray := method_30_code
def yL_shamed : MethodName := ⟨RL, "shamed", "(LWornThings;II[J)I"⟩
abbrev cL_has : ByteArray := method_31_code
def yL_has : MethodName := ⟨RL, "has", "(LWornThings;II[J)I"⟩
abbrev cL_takes : ByteArray := method_32_code
def yL_takes : MethodName := ⟨RL, "takes", "(LWornThings;II[J)I"⟩
abbrev cL_quiet : ByteArray := method_33_code
def yL_quiet : MethodName := ⟨RL, "quiet", "(LWornThings;I[J)I"⟩
abbrev cL_law : ByteArray := code
def yL_law : MethodName := ⟨RL, "law", "([I)Z"⟩
abbrev vwCl : List vw_C := [(RX0, TX0, 3), (RX1, TX1, 16), (RX2, TX2, 4), (RX3, TX3, 18), (RX4, TX4, 2), (RX5, TX5, 4), (RX6, TX6, 14), (RX7, TX7, 4), (RX8, TX8, 5), (RX9, TX9, 17), (RX10, TX10, 62)]
abbrev wP0 : wPS := { L := [], K := (fun _ => 0), O_Acts := { f_rows := (fun _ => none), f_first := (fun _ => 0), f_many := (fun _ => 0) }, O_City := { f_places := (fun _ => 0), f_people := (fun _ => 0), f_things := (fun _ => 0), f_term := (fun _ => 0), f_vanity := (fun _ => none), f_blind := (fun _ => none), f_walkLength := (fun _ => none), f_walk := (fun _ => none), f_weight := (fun _ => none), f_odd := (fun _ => none), f_owner := (fun _ => none), f_wearer := (fun _ => none), f_code := (fun _ => none), f_codeLength := (fun _ => 0), f_shames := (fun _ => none), f_returns := (fun _ => none) }, O_Notes := { f_many := (fun _ => 0), f_thing := (fun _ => none), f_days := (fun _ => none), f_worn := (fun _ => none) }, O_Reader := { f_text := (fun _ => none), f_length := (fun _ => 0), f_kind := (fun _ => 0), f_start := (fun _ => 0), f_end := (fun _ => 0), f_number := (fun _ => 0), f_digits := (fun _ => 0), f_city := (fun _ => none), f_placesTold := (fun _ => 0), f_termTold := (fun _ => 0), f_fault := (fun _ => 0), f_faultStart := (fun _ => 0), f_waiting := (fun _ => none), f_waitingMany := (fun _ => 0), f_nested := (fun _ => 0), f_nots := (fun _ => 0), f_partDue := (fun _ => 0), f_notMayStand := (fun _ => 0) }, O_Rule := { f_from := (fun _ => 0), f_end := (fun _ => 0) }, O_Ties := { f_rows := (fun _ => none), f_left := (fun _ => none), f_wornThings := (fun _ => none), f_wornMany := (fun _ => 0) }, O_Town := { f_city := (fun _ => none), f_day := (fun _ => 0), f_changes := (fun _ => 0), f_vanity := (fun _ => none), f_shame := (fun _ => none), f_walk := (fun _ => none), f_odd := (fun _ => none), f_owner := (fun _ => none), f_wearer := (fun _ => none), f_seen := (fun _ => none), f_sight := (fun _ => none), f_many := (fun _ => none), f_values := (fun _ => none), f_stack := (fun _ => none) }, O_Trials := { f_town := (fun _ => none), f_seed := (fun _ => 0), f_gains := (fun _ => none), f_othersGains := (fun _ => none) }, O_Vanities := { f_many := (fun _ => 0), f_bestThing := (fun _ => 0), f_unlikeOnes := (fun _ => 0), f_found := (fun _ => none), f_outcomes := (fun _ => none) }, O_WornThings := { f_tape := (fun _ => none), f_tapeLength := (fun _ => 0), f_faultPlace := (fun _ => 0), f_status := (fun _ => none), f_reader := (fun _ => none), f_city := (fun _ => none), f_draft := (fun _ => none), f_now := (fun _ => none), f_acts := (fun _ => none), f_notes := (fun _ => none), f_imageKept := (fun _ => 0), f_imageRow := (fun _ => none), f_imageActs := (fun _ => none), f_imageNotes := (fun _ => none), f_trials := (fun _ => none), f_vanities := (fun _ => none), f_ties := (fun _ => none) }, O_WornThingsModel := { f_thrown := (fun _ => 0), f_places := (fun _ => 0), f_people := (fun _ => 0), f_things := (fun _ => 0), f_term := (fun _ => 0), f_shamesAt := (fun _ => 0), f_returnsAt := (fun _ => 0), f_walkLong := (fun _ => none), f_weight := (fun _ => none), f_code := (fun _ => none), f_isBlind := (fun _ => none), f_tape := (fun _ => none), f_taped := (fun _ => 0), f_faultKind := (fun _ => 0), f_faultPlace := (fun _ => 0), f_refused := (fun _ => none), f_long1 := (fun _ => 0), f_next0 := (fun _ => 0), f_sort := (fun _ => 0), f_place := (fun _ => 0), f_long0 := (fun _ => 0), f_value := (fun _ => 0), f_sign := (fun _ => 0), f_word := (fun _ => 0), f_newPlaces := (fun _ => 0), f_newPeople := (fun _ => 0), f_newThings := (fun _ => 0), f_newTerm := (fun _ => 0), f_newShamesAt := (fun _ => 0), f_newReturnsAt := (fun _ => 0), f_top := (fun _ => 0), f_firstValue := (fun _ => 0), f_lastValue := (fun _ => 0), f_waiting := (fun _ => 0), f_depth := (fun _ => 0), f_newWalkLong := (fun _ => none), f_newWeight := (fun _ => none), f_newRow := (fun _ => none), f_readCode := (fun _ => none), f_waits := (fun _ => none), f_newBlind := (fun _ => none), f_tested := (fun _ => none), f_rows := (fun _ => none), f_ahead := (fun _ => none), f_acts := (fun _ => 0), f_told := (fun _ => none), f_pile := (fun _ => none), f_isFog := (fun _ => 0), f_owned := (fun _ => 0), f_leastOf := (fun _ => none), f_often := (fun _ => none), f_notedMany := (fun _ => 0), f_noted := (fun _ => none), f_soon := (fun _ => none), f_soonAll := (fun _ => none), f_its0 := (fun _ => 0), f_hasImage := (fun _ => 0), f_imageActs := (fun _ => 0), f_imageNoted := (fun _ => 0), f_imageRow := (fun _ => none), f_imageAhead := (fun _ => none), f_imageNotes := (fun _ => none) }, R_B := { len := (fun _ => 0), row := (fun _ _ => 0) }, R_I := { len := (fun _ => 0), row := (fun _ _ => 0) }, R_Z := { len := (fun _ => 0), row := (fun _ _ => 0) } }
abbrev wPF (cyB : ClassId) (cyI : ClassId) (cyZ : ClassId) (S : wPS) : Nat → va_E := fun a => if S.K a = 0 then .inr (0, [va_rf (S.O_Acts.f_rows a), .int (S.O_Acts.f_first a), .int (S.O_Acts.f_many a)]) else if S.K a = 1 then .inr (1, [.int (S.O_City.f_places a), .int (S.O_City.f_people a), .int (S.O_City.f_things a), .int (S.O_City.f_term a), va_rf (S.O_City.f_vanity a), va_rf (S.O_City.f_blind a), va_rf (S.O_City.f_walkLength a), va_rf (S.O_City.f_walk a), va_rf (S.O_City.f_weight a), va_rf (S.O_City.f_odd a), va_rf (S.O_City.f_owner a), va_rf (S.O_City.f_wearer a), va_rf (S.O_City.f_code a), .int (S.O_City.f_codeLength a), va_rf (S.O_City.f_shames a), va_rf (S.O_City.f_returns a)]) else if S.K a = 2 then .inr (2, [.int (S.O_Notes.f_many a), va_rf (S.O_Notes.f_thing a), va_rf (S.O_Notes.f_days a), va_rf (S.O_Notes.f_worn a)]) else if S.K a = 3 then .inr (3, [va_rf (S.O_Reader.f_text a), .int (S.O_Reader.f_length a), .int (S.O_Reader.f_kind a), .int (S.O_Reader.f_start a), .int (S.O_Reader.f_end a), .int (S.O_Reader.f_number a), .int (S.O_Reader.f_digits a), va_rf (S.O_Reader.f_city a), .int (S.O_Reader.f_placesTold a), .int (S.O_Reader.f_termTold a), .int (S.O_Reader.f_fault a), .int (S.O_Reader.f_faultStart a), va_rf (S.O_Reader.f_waiting a), .int (S.O_Reader.f_waitingMany a), .int (S.O_Reader.f_nested a), .int (S.O_Reader.f_nots a), .int (S.O_Reader.f_partDue a), .int (S.O_Reader.f_notMayStand a)]) else if S.K a = 4 then .inr (4, [.int (S.O_Rule.f_from a), .int (S.O_Rule.f_end a)]) else if S.K a = 5 then .inr (5, [va_rf (S.O_Ties.f_rows a), va_rf (S.O_Ties.f_left a), va_rf (S.O_Ties.f_wornThings a), .int (S.O_Ties.f_wornMany a)]) else if S.K a = 6 then .inr (6, [va_rf (S.O_Town.f_city a), .int (S.O_Town.f_day a), .int (S.O_Town.f_changes a), va_rf (S.O_Town.f_vanity a), va_rf (S.O_Town.f_shame a), va_rf (S.O_Town.f_walk a), va_rf (S.O_Town.f_odd a), va_rf (S.O_Town.f_owner a), va_rf (S.O_Town.f_wearer a), va_rf (S.O_Town.f_seen a), va_rf (S.O_Town.f_sight a), va_rf (S.O_Town.f_many a), va_rf (S.O_Town.f_values a), va_rf (S.O_Town.f_stack a)]) else if S.K a = 7 then .inr (7, [va_rf (S.O_Trials.f_town a), .int (S.O_Trials.f_seed a), va_rf (S.O_Trials.f_gains a), va_rf (S.O_Trials.f_othersGains a)]) else if S.K a = 8 then .inr (8, [.int (S.O_Vanities.f_many a), .int (S.O_Vanities.f_bestThing a), .int (S.O_Vanities.f_unlikeOnes a), va_rf (S.O_Vanities.f_found a), va_rf (S.O_Vanities.f_outcomes a)]) else if S.K a = 9 then .inr (9, [va_rf (S.O_WornThings.f_tape a), .int (S.O_WornThings.f_tapeLength a), .int (S.O_WornThings.f_faultPlace a), va_rf (S.O_WornThings.f_status a), va_rf (S.O_WornThings.f_reader a), va_rf (S.O_WornThings.f_city a), va_rf (S.O_WornThings.f_draft a), va_rf (S.O_WornThings.f_now a), va_rf (S.O_WornThings.f_acts a), va_rf (S.O_WornThings.f_notes a), .int (S.O_WornThings.f_imageKept a), va_rf (S.O_WornThings.f_imageRow a), va_rf (S.O_WornThings.f_imageActs a), va_rf (S.O_WornThings.f_imageNotes a), va_rf (S.O_WornThings.f_trials a), va_rf (S.O_WornThings.f_vanities a), va_rf (S.O_WornThings.f_ties a)]) else if S.K a = 10 then .inr (10, [.int (S.O_WornThingsModel.f_thrown a), .int (S.O_WornThingsModel.f_places a), .int (S.O_WornThingsModel.f_people a), .int (S.O_WornThingsModel.f_things a), .int (S.O_WornThingsModel.f_term a), .int (S.O_WornThingsModel.f_shamesAt a), .int (S.O_WornThingsModel.f_returnsAt a), va_rf (S.O_WornThingsModel.f_walkLong a), va_rf (S.O_WornThingsModel.f_weight a), va_rf (S.O_WornThingsModel.f_code a), va_rf (S.O_WornThingsModel.f_isBlind a), va_rf (S.O_WornThingsModel.f_tape a), .int (S.O_WornThingsModel.f_taped a), .int (S.O_WornThingsModel.f_faultKind a), .int (S.O_WornThingsModel.f_faultPlace a), va_rf (S.O_WornThingsModel.f_refused a), .int (S.O_WornThingsModel.f_long1 a), .int (S.O_WornThingsModel.f_next0 a), .int (S.O_WornThingsModel.f_sort a), .int (S.O_WornThingsModel.f_place a), .int (S.O_WornThingsModel.f_long0 a), .int (S.O_WornThingsModel.f_value a), .int (S.O_WornThingsModel.f_sign a), .long (S.O_WornThingsModel.f_word a), .int (S.O_WornThingsModel.f_newPlaces a), .int (S.O_WornThingsModel.f_newPeople a), .int (S.O_WornThingsModel.f_newThings a), .int (S.O_WornThingsModel.f_newTerm a), .int (S.O_WornThingsModel.f_newShamesAt a), .int (S.O_WornThingsModel.f_newReturnsAt a), .int (S.O_WornThingsModel.f_top a), .int (S.O_WornThingsModel.f_firstValue a), .int (S.O_WornThingsModel.f_lastValue a), .int (S.O_WornThingsModel.f_waiting a), .int (S.O_WornThingsModel.f_depth a), va_rf (S.O_WornThingsModel.f_newWalkLong a), va_rf (S.O_WornThingsModel.f_newWeight a), va_rf (S.O_WornThingsModel.f_newRow a), va_rf (S.O_WornThingsModel.f_readCode a), va_rf (S.O_WornThingsModel.f_waits a), va_rf (S.O_WornThingsModel.f_newBlind a), va_rf (S.O_WornThingsModel.f_tested a), va_rf (S.O_WornThingsModel.f_rows a), va_rf (S.O_WornThingsModel.f_ahead a), .int (S.O_WornThingsModel.f_acts a), va_rf (S.O_WornThingsModel.f_told a), va_rf (S.O_WornThingsModel.f_pile a), .int (S.O_WornThingsModel.f_isFog a), .int (S.O_WornThingsModel.f_owned a), va_rf (S.O_WornThingsModel.f_leastOf a), va_rf (S.O_WornThingsModel.f_often a), .int (S.O_WornThingsModel.f_notedMany a), va_rf (S.O_WornThingsModel.f_noted a), va_rf (S.O_WornThingsModel.f_soon a), va_rf (S.O_WornThingsModel.f_soonAll a), .int (S.O_WornThingsModel.f_its0 a), .int (S.O_WornThingsModel.f_hasImage a), .int (S.O_WornThingsModel.f_imageActs a), .int (S.O_WornThingsModel.f_imageNoted a), va_rf (S.O_WornThingsModel.f_imageRow a), va_rf (S.O_WornThingsModel.f_imageAhead a), va_rf (S.O_WornThingsModel.f_imageNotes a)]) else if S.K a = 11 then .inl (cyB, S.R_B.len a, .inl (S.R_B.row a)) else if S.K a = 12 then .inl (cyI, S.R_I.len a, .inl (S.R_I.row a)) else .inl (cyZ, S.R_Z.len a, .inl (S.R_Z.row a))
theorem wAt_O_Acts (cyB : ClassId) (cyI : ClassId) (cyZ : ClassId) (S : wPS) {a : Nat} (h : S.K a = 0) : wPF cyB cyI cyZ S a = .inr (0, [va_rf (S.O_Acts.f_rows a), .int (S.O_Acts.f_first a), .int (S.O_Acts.f_many a)]) := by simp [wPF, h]
theorem wGt_O_Acts (cyB : ClassId) (cyI : ClassId) (cyZ : ClassId) (X : va_W) (S : wPS) {a : Nat} (hL : a ∈ S.L) (h : S.K a = 0) : ∃ k : Nat, (X ++ va_pl S.L (wPF cyB cyI cyZ S))[k]? = some (a, wPF cyB cyI cyZ S a) ∧ (X ++ va_pl S.L (wPF cyB cyI cyZ S))[k]? = some (a, .inr (0, [va_rf (S.O_Acts.f_rows a), .int (S.O_Acts.f_first a), .int (S.O_Acts.f_many a)])) := by
  obtain ⟨k, hk⟩ := va_pl_get (X := X) (f := wPF cyB cyI cyZ S) hL
  exact ⟨k, hk, hk.trans (congrArg (fun e => some (a, e)) (wAt_O_Acts cyB cyI cyZ S h))⟩
theorem wNw_O_Acts (cyB : ClassId) (cyI : ClassId) (cyZ : ClassId) (S : wPS) (a b : Nat) : va_up (wPF cyB cyI cyZ S) a (.inr (0, [.null, .int 0, .int 0])) b = wPF cyB cyI cyZ { S with L := S.L ++ [a], K := va_up S.K a 0, O_Acts := { f_rows := va_up S.O_Acts.f_rows a none, f_first := va_up S.O_Acts.f_first a 0, f_many := va_up S.O_Acts.f_many a 0 } } b := by by_cases hb : b = a <;> first | (simp only [wPF, va_up_ne _ _ hb]; done) | (simp only [wPF, va_up, if_neg hb]; done) | simp [wPF, va_re, va_up, va_rf, hb]
theorem wPn_O_Acts (cyB : ClassId) (cyI : ClassId) (cyZ : ClassId) (X : va_W) (S : wPS) {a : Nat} (ha : a ∉ S.L) : (X ++ va_pl S.L (wPF cyB cyI cyZ S)) ++ [(a, .inr (0, [.null, .int 0, .int 0]))] = X ++ va_pl (S.L ++ [a]) (wPF cyB cyI cyZ { S with L := S.L ++ [a], K := va_up S.K a 0, O_Acts := { f_rows := va_up S.O_Acts.f_rows a none, f_first := va_up S.O_Acts.f_first a 0, f_many := va_up S.O_Acts.f_many a 0 } }) := by
  rw [List.append_assoc, va_pl_push ha]
  exact congrArg (fun l => X ++ l) (va_pl_congr (wNw_O_Acts cyB cyI cyZ S a))
theorem wAt_O_City (cyB : ClassId) (cyI : ClassId) (cyZ : ClassId) (S : wPS) {a : Nat} (h : S.K a = 1) : wPF cyB cyI cyZ S a = .inr (1, [.int (S.O_City.f_places a), .int (S.O_City.f_people a), .int (S.O_City.f_things a), .int (S.O_City.f_term a), va_rf (S.O_City.f_vanity a), va_rf (S.O_City.f_blind a), va_rf (S.O_City.f_walkLength a), va_rf (S.O_City.f_walk a), va_rf (S.O_City.f_weight a), va_rf (S.O_City.f_odd a), va_rf (S.O_City.f_owner a), va_rf (S.O_City.f_wearer a), va_rf (S.O_City.f_code a), .int (S.O_City.f_codeLength a), va_rf (S.O_City.f_shames a), va_rf (S.O_City.f_returns a)]) := by simp [wPF, h]
theorem wGt_O_City (cyB : ClassId) (cyI : ClassId) (cyZ : ClassId) (X : va_W) (S : wPS) {a : Nat} (hL : a ∈ S.L) (h : S.K a = 1) : ∃ k : Nat, (X ++ va_pl S.L (wPF cyB cyI cyZ S))[k]? = some (a, wPF cyB cyI cyZ S a) ∧ (X ++ va_pl S.L (wPF cyB cyI cyZ S))[k]? = some (a, .inr (1, [.int (S.O_City.f_places a), .int (S.O_City.f_people a), .int (S.O_City.f_things a), .int (S.O_City.f_term a), va_rf (S.O_City.f_vanity a), va_rf (S.O_City.f_blind a), va_rf (S.O_City.f_walkLength a), va_rf (S.O_City.f_walk a), va_rf (S.O_City.f_weight a), va_rf (S.O_City.f_odd a), va_rf (S.O_City.f_owner a), va_rf (S.O_City.f_wearer a), va_rf (S.O_City.f_code a), .int (S.O_City.f_codeLength a), va_rf (S.O_City.f_shames a), va_rf (S.O_City.f_returns a)])) := by
  obtain ⟨k, hk⟩ := va_pl_get (X := X) (f := wPF cyB cyI cyZ S) hL
  exact ⟨k, hk, hk.trans (congrArg (fun e => some (a, e)) (wAt_O_City cyB cyI cyZ S h))⟩
theorem wNw_O_City (cyB : ClassId) (cyI : ClassId) (cyZ : ClassId) (S : wPS) (a b : Nat) : va_up (wPF cyB cyI cyZ S) a (.inr (1, [.int 0, .int 0, .int 0, .int 0, .null, .null, .null, .null, .null, .null, .null, .null, .null, .int 0, .null, .null])) b = wPF cyB cyI cyZ { S with L := S.L ++ [a], K := va_up S.K a 1, O_City := { f_places := va_up S.O_City.f_places a 0, f_people := va_up S.O_City.f_people a 0, f_things := va_up S.O_City.f_things a 0, f_term := va_up S.O_City.f_term a 0, f_vanity := va_up S.O_City.f_vanity a none, f_blind := va_up S.O_City.f_blind a none, f_walkLength := va_up S.O_City.f_walkLength a none, f_walk := va_up S.O_City.f_walk a none, f_weight := va_up S.O_City.f_weight a none, f_odd := va_up S.O_City.f_odd a none, f_owner := va_up S.O_City.f_owner a none, f_wearer := va_up S.O_City.f_wearer a none, f_code := va_up S.O_City.f_code a none, f_codeLength := va_up S.O_City.f_codeLength a 0, f_shames := va_up S.O_City.f_shames a none, f_returns := va_up S.O_City.f_returns a none } } b := by by_cases hb : b = a <;> first | (simp only [wPF, va_up_ne _ _ hb]; done) | (simp only [wPF, va_up, if_neg hb]; done) | simp [wPF, va_re, va_up, va_rf, hb]
theorem wPn_O_City (cyB : ClassId) (cyI : ClassId) (cyZ : ClassId) (X : va_W) (S : wPS) {a : Nat} (ha : a ∉ S.L) : (X ++ va_pl S.L (wPF cyB cyI cyZ S)) ++ [(a, .inr (1, [.int 0, .int 0, .int 0, .int 0, .null, .null, .null, .null, .null, .null, .null, .null, .null, .int 0, .null, .null]))] = X ++ va_pl (S.L ++ [a]) (wPF cyB cyI cyZ { S with L := S.L ++ [a], K := va_up S.K a 1, O_City := { f_places := va_up S.O_City.f_places a 0, f_people := va_up S.O_City.f_people a 0, f_things := va_up S.O_City.f_things a 0, f_term := va_up S.O_City.f_term a 0, f_vanity := va_up S.O_City.f_vanity a none, f_blind := va_up S.O_City.f_blind a none, f_walkLength := va_up S.O_City.f_walkLength a none, f_walk := va_up S.O_City.f_walk a none, f_weight := va_up S.O_City.f_weight a none, f_odd := va_up S.O_City.f_odd a none, f_owner := va_up S.O_City.f_owner a none, f_wearer := va_up S.O_City.f_wearer a none, f_code := va_up S.O_City.f_code a none, f_codeLength := va_up S.O_City.f_codeLength a 0, f_shames := va_up S.O_City.f_shames a none, f_returns := va_up S.O_City.f_returns a none } }) := by
  rw [List.append_assoc, va_pl_push ha]
  exact congrArg (fun l => X ++ l) (va_pl_congr (wNw_O_City cyB cyI cyZ S a))
theorem wAt_O_Notes (cyB : ClassId) (cyI : ClassId) (cyZ : ClassId) (S : wPS) {a : Nat} (h : S.K a = 2) : wPF cyB cyI cyZ S a = .inr (2, [.int (S.O_Notes.f_many a), va_rf (S.O_Notes.f_thing a), va_rf (S.O_Notes.f_days a), va_rf (S.O_Notes.f_worn a)]) := by simp [wPF, h]
theorem wGt_O_Notes (cyB : ClassId) (cyI : ClassId) (cyZ : ClassId) (X : va_W) (S : wPS) {a : Nat} (hL : a ∈ S.L) (h : S.K a = 2) : ∃ k : Nat, (X ++ va_pl S.L (wPF cyB cyI cyZ S))[k]? = some (a, wPF cyB cyI cyZ S a) ∧ (X ++ va_pl S.L (wPF cyB cyI cyZ S))[k]? = some (a, .inr (2, [.int (S.O_Notes.f_many a), va_rf (S.O_Notes.f_thing a), va_rf (S.O_Notes.f_days a), va_rf (S.O_Notes.f_worn a)])) := by
  obtain ⟨k, hk⟩ := va_pl_get (X := X) (f := wPF cyB cyI cyZ S) hL
  exact ⟨k, hk, hk.trans (congrArg (fun e => some (a, e)) (wAt_O_Notes cyB cyI cyZ S h))⟩
theorem wNw_O_Notes (cyB : ClassId) (cyI : ClassId) (cyZ : ClassId) (S : wPS) (a b : Nat) : va_up (wPF cyB cyI cyZ S) a (.inr (2, [.int 0, .null, .null, .null])) b = wPF cyB cyI cyZ { S with L := S.L ++ [a], K := va_up S.K a 2, O_Notes := { f_many := va_up S.O_Notes.f_many a 0, f_thing := va_up S.O_Notes.f_thing a none, f_days := va_up S.O_Notes.f_days a none, f_worn := va_up S.O_Notes.f_worn a none } } b := by by_cases hb : b = a <;> first | (simp only [wPF, va_up_ne _ _ hb]; done) | (simp only [wPF, va_up, if_neg hb]; done) | simp [wPF, va_re, va_up, va_rf, hb]
theorem wPn_O_Notes (cyB : ClassId) (cyI : ClassId) (cyZ : ClassId) (X : va_W) (S : wPS) {a : Nat} (ha : a ∉ S.L) : (X ++ va_pl S.L (wPF cyB cyI cyZ S)) ++ [(a, .inr (2, [.int 0, .null, .null, .null]))] = X ++ va_pl (S.L ++ [a]) (wPF cyB cyI cyZ { S with L := S.L ++ [a], K := va_up S.K a 2, O_Notes := { f_many := va_up S.O_Notes.f_many a 0, f_thing := va_up S.O_Notes.f_thing a none, f_days := va_up S.O_Notes.f_days a none, f_worn := va_up S.O_Notes.f_worn a none } }) := by
  rw [List.append_assoc, va_pl_push ha]
  exact congrArg (fun l => X ++ l) (va_pl_congr (wNw_O_Notes cyB cyI cyZ S a))
theorem wAt_O_Reader (cyB : ClassId) (cyI : ClassId) (cyZ : ClassId) (S : wPS) {a : Nat} (h : S.K a = 3) : wPF cyB cyI cyZ S a = .inr (3, [va_rf (S.O_Reader.f_text a), .int (S.O_Reader.f_length a), .int (S.O_Reader.f_kind a), .int (S.O_Reader.f_start a), .int (S.O_Reader.f_end a), .int (S.O_Reader.f_number a), .int (S.O_Reader.f_digits a), va_rf (S.O_Reader.f_city a), .int (S.O_Reader.f_placesTold a), .int (S.O_Reader.f_termTold a), .int (S.O_Reader.f_fault a), .int (S.O_Reader.f_faultStart a), va_rf (S.O_Reader.f_waiting a), .int (S.O_Reader.f_waitingMany a), .int (S.O_Reader.f_nested a), .int (S.O_Reader.f_nots a), .int (S.O_Reader.f_partDue a), .int (S.O_Reader.f_notMayStand a)]) := by simp [wPF, h]
theorem wGt_O_Reader (cyB : ClassId) (cyI : ClassId) (cyZ : ClassId) (X : va_W) (S : wPS) {a : Nat} (hL : a ∈ S.L) (h : S.K a = 3) : ∃ k : Nat, (X ++ va_pl S.L (wPF cyB cyI cyZ S))[k]? = some (a, wPF cyB cyI cyZ S a) ∧ (X ++ va_pl S.L (wPF cyB cyI cyZ S))[k]? = some (a, .inr (3, [va_rf (S.O_Reader.f_text a), .int (S.O_Reader.f_length a), .int (S.O_Reader.f_kind a), .int (S.O_Reader.f_start a), .int (S.O_Reader.f_end a), .int (S.O_Reader.f_number a), .int (S.O_Reader.f_digits a), va_rf (S.O_Reader.f_city a), .int (S.O_Reader.f_placesTold a), .int (S.O_Reader.f_termTold a), .int (S.O_Reader.f_fault a), .int (S.O_Reader.f_faultStart a), va_rf (S.O_Reader.f_waiting a), .int (S.O_Reader.f_waitingMany a), .int (S.O_Reader.f_nested a), .int (S.O_Reader.f_nots a), .int (S.O_Reader.f_partDue a), .int (S.O_Reader.f_notMayStand a)])) := by
  obtain ⟨k, hk⟩ := va_pl_get (X := X) (f := wPF cyB cyI cyZ S) hL
  exact ⟨k, hk, hk.trans (congrArg (fun e => some (a, e)) (wAt_O_Reader cyB cyI cyZ S h))⟩
theorem wNw_O_Reader (cyB : ClassId) (cyI : ClassId) (cyZ : ClassId) (S : wPS) (a b : Nat) : va_up (wPF cyB cyI cyZ S) a (.inr (3, [.null, .int 0, .int 0, .int 0, .int 0, .int 0, .int 0, .null, .int 0, .int 0, .int 0, .int 0, .null, .int 0, .int 0, .int 0, .int 0, .int 0])) b = wPF cyB cyI cyZ { S with L := S.L ++ [a], K := va_up S.K a 3, O_Reader := { f_text := va_up S.O_Reader.f_text a none, f_length := va_up S.O_Reader.f_length a 0, f_kind := va_up S.O_Reader.f_kind a 0, f_start := va_up S.O_Reader.f_start a 0, f_end := va_up S.O_Reader.f_end a 0, f_number := va_up S.O_Reader.f_number a 0, f_digits := va_up S.O_Reader.f_digits a 0, f_city := va_up S.O_Reader.f_city a none, f_placesTold := va_up S.O_Reader.f_placesTold a 0, f_termTold := va_up S.O_Reader.f_termTold a 0, f_fault := va_up S.O_Reader.f_fault a 0, f_faultStart := va_up S.O_Reader.f_faultStart a 0, f_waiting := va_up S.O_Reader.f_waiting a none, f_waitingMany := va_up S.O_Reader.f_waitingMany a 0, f_nested := va_up S.O_Reader.f_nested a 0, f_nots := va_up S.O_Reader.f_nots a 0, f_partDue := va_up S.O_Reader.f_partDue a 0, f_notMayStand := va_up S.O_Reader.f_notMayStand a 0 } } b := by by_cases hb : b = a <;> first | (simp only [wPF, va_up_ne _ _ hb]; done) | (simp only [wPF, va_up, if_neg hb]; done) | simp [wPF, va_re, va_up, va_rf, hb]
theorem wPn_O_Reader (cyB : ClassId) (cyI : ClassId) (cyZ : ClassId) (X : va_W) (S : wPS) {a : Nat} (ha : a ∉ S.L) : (X ++ va_pl S.L (wPF cyB cyI cyZ S)) ++ [(a, .inr (3, [.null, .int 0, .int 0, .int 0, .int 0, .int 0, .int 0, .null, .int 0, .int 0, .int 0, .int 0, .null, .int 0, .int 0, .int 0, .int 0, .int 0]))] = X ++ va_pl (S.L ++ [a]) (wPF cyB cyI cyZ { S with L := S.L ++ [a], K := va_up S.K a 3, O_Reader := { f_text := va_up S.O_Reader.f_text a none, f_length := va_up S.O_Reader.f_length a 0, f_kind := va_up S.O_Reader.f_kind a 0, f_start := va_up S.O_Reader.f_start a 0, f_end := va_up S.O_Reader.f_end a 0, f_number := va_up S.O_Reader.f_number a 0, f_digits := va_up S.O_Reader.f_digits a 0, f_city := va_up S.O_Reader.f_city a none, f_placesTold := va_up S.O_Reader.f_placesTold a 0, f_termTold := va_up S.O_Reader.f_termTold a 0, f_fault := va_up S.O_Reader.f_fault a 0, f_faultStart := va_up S.O_Reader.f_faultStart a 0, f_waiting := va_up S.O_Reader.f_waiting a none, f_waitingMany := va_up S.O_Reader.f_waitingMany a 0, f_nested := va_up S.O_Reader.f_nested a 0, f_nots := va_up S.O_Reader.f_nots a 0, f_partDue := va_up S.O_Reader.f_partDue a 0, f_notMayStand := va_up S.O_Reader.f_notMayStand a 0 } }) := by
  rw [List.append_assoc, va_pl_push ha]
  exact congrArg (fun l => X ++ l) (va_pl_congr (wNw_O_Reader cyB cyI cyZ S a))
theorem wAt_O_Rule (cyB : ClassId) (cyI : ClassId) (cyZ : ClassId) (S : wPS) {a : Nat} (h : S.K a = 4) : wPF cyB cyI cyZ S a = .inr (4, [.int (S.O_Rule.f_from a), .int (S.O_Rule.f_end a)]) := by simp [wPF, h]
theorem wGt_O_Rule (cyB : ClassId) (cyI : ClassId) (cyZ : ClassId) (X : va_W) (S : wPS) {a : Nat} (hL : a ∈ S.L) (h : S.K a = 4) : ∃ k : Nat, (X ++ va_pl S.L (wPF cyB cyI cyZ S))[k]? = some (a, wPF cyB cyI cyZ S a) ∧ (X ++ va_pl S.L (wPF cyB cyI cyZ S))[k]? = some (a, .inr (4, [.int (S.O_Rule.f_from a), .int (S.O_Rule.f_end a)])) := by
  obtain ⟨k, hk⟩ := va_pl_get (X := X) (f := wPF cyB cyI cyZ S) hL
  exact ⟨k, hk, hk.trans (congrArg (fun e => some (a, e)) (wAt_O_Rule cyB cyI cyZ S h))⟩
theorem wNw_O_Rule (cyB : ClassId) (cyI : ClassId) (cyZ : ClassId) (S : wPS) (a b : Nat) : va_up (wPF cyB cyI cyZ S) a (.inr (4, [.int 0, .int 0])) b = wPF cyB cyI cyZ { S with L := S.L ++ [a], K := va_up S.K a 4, O_Rule := { f_from := va_up S.O_Rule.f_from a 0, f_end := va_up S.O_Rule.f_end a 0 } } b := by by_cases hb : b = a <;> first | (simp only [wPF, va_up_ne _ _ hb]; done) | (simp only [wPF, va_up, if_neg hb]; done) | simp [wPF, va_re, va_up, va_rf, hb]
theorem wPn_O_Rule (cyB : ClassId) (cyI : ClassId) (cyZ : ClassId) (X : va_W) (S : wPS) {a : Nat} (ha : a ∉ S.L) : (X ++ va_pl S.L (wPF cyB cyI cyZ S)) ++ [(a, .inr (4, [.int 0, .int 0]))] = X ++ va_pl (S.L ++ [a]) (wPF cyB cyI cyZ { S with L := S.L ++ [a], K := va_up S.K a 4, O_Rule := { f_from := va_up S.O_Rule.f_from a 0, f_end := va_up S.O_Rule.f_end a 0 } }) := by
  rw [List.append_assoc, va_pl_push ha]
  exact congrArg (fun l => X ++ l) (va_pl_congr (wNw_O_Rule cyB cyI cyZ S a))
theorem wAt_O_Ties (cyB : ClassId) (cyI : ClassId) (cyZ : ClassId) (S : wPS) {a : Nat} (h : S.K a = 5) : wPF cyB cyI cyZ S a = .inr (5, [va_rf (S.O_Ties.f_rows a), va_rf (S.O_Ties.f_left a), va_rf (S.O_Ties.f_wornThings a), .int (S.O_Ties.f_wornMany a)]) := by simp [wPF, h]
theorem wGt_O_Ties (cyB : ClassId) (cyI : ClassId) (cyZ : ClassId) (X : va_W) (S : wPS) {a : Nat} (hL : a ∈ S.L) (h : S.K a = 5) : ∃ k : Nat, (X ++ va_pl S.L (wPF cyB cyI cyZ S))[k]? = some (a, wPF cyB cyI cyZ S a) ∧ (X ++ va_pl S.L (wPF cyB cyI cyZ S))[k]? = some (a, .inr (5, [va_rf (S.O_Ties.f_rows a), va_rf (S.O_Ties.f_left a), va_rf (S.O_Ties.f_wornThings a), .int (S.O_Ties.f_wornMany a)])) := by
  obtain ⟨k, hk⟩ := va_pl_get (X := X) (f := wPF cyB cyI cyZ S) hL
  exact ⟨k, hk, hk.trans (congrArg (fun e => some (a, e)) (wAt_O_Ties cyB cyI cyZ S h))⟩
theorem wNw_O_Ties (cyB : ClassId) (cyI : ClassId) (cyZ : ClassId) (S : wPS) (a b : Nat) : va_up (wPF cyB cyI cyZ S) a (.inr (5, [.null, .null, .null, .int 0])) b = wPF cyB cyI cyZ { S with L := S.L ++ [a], K := va_up S.K a 5, O_Ties := { f_rows := va_up S.O_Ties.f_rows a none, f_left := va_up S.O_Ties.f_left a none, f_wornThings := va_up S.O_Ties.f_wornThings a none, f_wornMany := va_up S.O_Ties.f_wornMany a 0 } } b := by by_cases hb : b = a <;> first | (simp only [wPF, va_up_ne _ _ hb]; done) | (simp only [wPF, va_up, if_neg hb]; done) | simp [wPF, va_re, va_up, va_rf, hb]
theorem wPn_O_Ties (cyB : ClassId) (cyI : ClassId) (cyZ : ClassId) (X : va_W) (S : wPS) {a : Nat} (ha : a ∉ S.L) : (X ++ va_pl S.L (wPF cyB cyI cyZ S)) ++ [(a, .inr (5, [.null, .null, .null, .int 0]))] = X ++ va_pl (S.L ++ [a]) (wPF cyB cyI cyZ { S with L := S.L ++ [a], K := va_up S.K a 5, O_Ties := { f_rows := va_up S.O_Ties.f_rows a none, f_left := va_up S.O_Ties.f_left a none, f_wornThings := va_up S.O_Ties.f_wornThings a none, f_wornMany := va_up S.O_Ties.f_wornMany a 0 } }) := by
  rw [List.append_assoc, va_pl_push ha]
  exact congrArg (fun l => X ++ l) (va_pl_congr (wNw_O_Ties cyB cyI cyZ S a))
theorem wAt_O_Town (cyB : ClassId) (cyI : ClassId) (cyZ : ClassId) (S : wPS) {a : Nat} (h : S.K a = 6) : wPF cyB cyI cyZ S a = .inr (6, [va_rf (S.O_Town.f_city a), .int (S.O_Town.f_day a), .int (S.O_Town.f_changes a), va_rf (S.O_Town.f_vanity a), va_rf (S.O_Town.f_shame a), va_rf (S.O_Town.f_walk a), va_rf (S.O_Town.f_odd a), va_rf (S.O_Town.f_owner a), va_rf (S.O_Town.f_wearer a), va_rf (S.O_Town.f_seen a), va_rf (S.O_Town.f_sight a), va_rf (S.O_Town.f_many a), va_rf (S.O_Town.f_values a), va_rf (S.O_Town.f_stack a)]) := by simp [wPF, h]
theorem wGt_O_Town (cyB : ClassId) (cyI : ClassId) (cyZ : ClassId) (X : va_W) (S : wPS) {a : Nat} (hL : a ∈ S.L) (h : S.K a = 6) : ∃ k : Nat, (X ++ va_pl S.L (wPF cyB cyI cyZ S))[k]? = some (a, wPF cyB cyI cyZ S a) ∧ (X ++ va_pl S.L (wPF cyB cyI cyZ S))[k]? = some (a, .inr (6, [va_rf (S.O_Town.f_city a), .int (S.O_Town.f_day a), .int (S.O_Town.f_changes a), va_rf (S.O_Town.f_vanity a), va_rf (S.O_Town.f_shame a), va_rf (S.O_Town.f_walk a), va_rf (S.O_Town.f_odd a), va_rf (S.O_Town.f_owner a), va_rf (S.O_Town.f_wearer a), va_rf (S.O_Town.f_seen a), va_rf (S.O_Town.f_sight a), va_rf (S.O_Town.f_many a), va_rf (S.O_Town.f_values a), va_rf (S.O_Town.f_stack a)])) := by
  obtain ⟨k, hk⟩ := va_pl_get (X := X) (f := wPF cyB cyI cyZ S) hL
  exact ⟨k, hk, hk.trans (congrArg (fun e => some (a, e)) (wAt_O_Town cyB cyI cyZ S h))⟩
theorem wNw_O_Town (cyB : ClassId) (cyI : ClassId) (cyZ : ClassId) (S : wPS) (a b : Nat) : va_up (wPF cyB cyI cyZ S) a (.inr (6, [.null, .int 0, .int 0, .null, .null, .null, .null, .null, .null, .null, .null, .null, .null, .null])) b = wPF cyB cyI cyZ { S with L := S.L ++ [a], K := va_up S.K a 6, O_Town := { f_city := va_up S.O_Town.f_city a none, f_day := va_up S.O_Town.f_day a 0, f_changes := va_up S.O_Town.f_changes a 0, f_vanity := va_up S.O_Town.f_vanity a none, f_shame := va_up S.O_Town.f_shame a none, f_walk := va_up S.O_Town.f_walk a none, f_odd := va_up S.O_Town.f_odd a none, f_owner := va_up S.O_Town.f_owner a none, f_wearer := va_up S.O_Town.f_wearer a none, f_seen := va_up S.O_Town.f_seen a none, f_sight := va_up S.O_Town.f_sight a none, f_many := va_up S.O_Town.f_many a none, f_values := va_up S.O_Town.f_values a none, f_stack := va_up S.O_Town.f_stack a none } } b := by by_cases hb : b = a <;> first | (simp only [wPF, va_up_ne _ _ hb]; done) | (simp only [wPF, va_up, if_neg hb]; done) | simp [wPF, va_re, va_up, va_rf, hb]
theorem wPn_O_Town (cyB : ClassId) (cyI : ClassId) (cyZ : ClassId) (X : va_W) (S : wPS) {a : Nat} (ha : a ∉ S.L) : (X ++ va_pl S.L (wPF cyB cyI cyZ S)) ++ [(a, .inr (6, [.null, .int 0, .int 0, .null, .null, .null, .null, .null, .null, .null, .null, .null, .null, .null]))] = X ++ va_pl (S.L ++ [a]) (wPF cyB cyI cyZ { S with L := S.L ++ [a], K := va_up S.K a 6, O_Town := { f_city := va_up S.O_Town.f_city a none, f_day := va_up S.O_Town.f_day a 0, f_changes := va_up S.O_Town.f_changes a 0, f_vanity := va_up S.O_Town.f_vanity a none, f_shame := va_up S.O_Town.f_shame a none, f_walk := va_up S.O_Town.f_walk a none, f_odd := va_up S.O_Town.f_odd a none, f_owner := va_up S.O_Town.f_owner a none, f_wearer := va_up S.O_Town.f_wearer a none, f_seen := va_up S.O_Town.f_seen a none, f_sight := va_up S.O_Town.f_sight a none, f_many := va_up S.O_Town.f_many a none, f_values := va_up S.O_Town.f_values a none, f_stack := va_up S.O_Town.f_stack a none } }) := by
  rw [List.append_assoc, va_pl_push ha]
  exact congrArg (fun l => X ++ l) (va_pl_congr (wNw_O_Town cyB cyI cyZ S a))
theorem wAt_O_Trials (cyB : ClassId) (cyI : ClassId) (cyZ : ClassId) (S : wPS) {a : Nat} (h : S.K a = 7) : wPF cyB cyI cyZ S a = .inr (7, [va_rf (S.O_Trials.f_town a), .int (S.O_Trials.f_seed a), va_rf (S.O_Trials.f_gains a), va_rf (S.O_Trials.f_othersGains a)]) := by simp [wPF, h]
theorem wGt_O_Trials (cyB : ClassId) (cyI : ClassId) (cyZ : ClassId) (X : va_W) (S : wPS) {a : Nat} (hL : a ∈ S.L) (h : S.K a = 7) : ∃ k : Nat, (X ++ va_pl S.L (wPF cyB cyI cyZ S))[k]? = some (a, wPF cyB cyI cyZ S a) ∧ (X ++ va_pl S.L (wPF cyB cyI cyZ S))[k]? = some (a, .inr (7, [va_rf (S.O_Trials.f_town a), .int (S.O_Trials.f_seed a), va_rf (S.O_Trials.f_gains a), va_rf (S.O_Trials.f_othersGains a)])) := by
  obtain ⟨k, hk⟩ := va_pl_get (X := X) (f := wPF cyB cyI cyZ S) hL
  exact ⟨k, hk, hk.trans (congrArg (fun e => some (a, e)) (wAt_O_Trials cyB cyI cyZ S h))⟩
theorem wNw_O_Trials (cyB : ClassId) (cyI : ClassId) (cyZ : ClassId) (S : wPS) (a b : Nat) : va_up (wPF cyB cyI cyZ S) a (.inr (7, [.null, .int 0, .null, .null])) b = wPF cyB cyI cyZ { S with L := S.L ++ [a], K := va_up S.K a 7, O_Trials := { f_town := va_up S.O_Trials.f_town a none, f_seed := va_up S.O_Trials.f_seed a 0, f_gains := va_up S.O_Trials.f_gains a none, f_othersGains := va_up S.O_Trials.f_othersGains a none } } b := by by_cases hb : b = a <;> first | (simp only [wPF, va_up_ne _ _ hb]; done) | (simp only [wPF, va_up, if_neg hb]; done) | simp [wPF, va_re, va_up, va_rf, hb]
theorem wPn_O_Trials (cyB : ClassId) (cyI : ClassId) (cyZ : ClassId) (X : va_W) (S : wPS) {a : Nat} (ha : a ∉ S.L) : (X ++ va_pl S.L (wPF cyB cyI cyZ S)) ++ [(a, .inr (7, [.null, .int 0, .null, .null]))] = X ++ va_pl (S.L ++ [a]) (wPF cyB cyI cyZ { S with L := S.L ++ [a], K := va_up S.K a 7, O_Trials := { f_town := va_up S.O_Trials.f_town a none, f_seed := va_up S.O_Trials.f_seed a 0, f_gains := va_up S.O_Trials.f_gains a none, f_othersGains := va_up S.O_Trials.f_othersGains a none } }) := by
  rw [List.append_assoc, va_pl_push ha]
  exact congrArg (fun l => X ++ l) (va_pl_congr (wNw_O_Trials cyB cyI cyZ S a))
theorem wAt_O_Vanities (cyB : ClassId) (cyI : ClassId) (cyZ : ClassId) (S : wPS) {a : Nat} (h : S.K a = 8) : wPF cyB cyI cyZ S a = .inr (8, [.int (S.O_Vanities.f_many a), .int (S.O_Vanities.f_bestThing a), .int (S.O_Vanities.f_unlikeOnes a), va_rf (S.O_Vanities.f_found a), va_rf (S.O_Vanities.f_outcomes a)]) := by simp [wPF, h]
theorem wGt_O_Vanities (cyB : ClassId) (cyI : ClassId) (cyZ : ClassId) (X : va_W) (S : wPS) {a : Nat} (hL : a ∈ S.L) (h : S.K a = 8) : ∃ k : Nat, (X ++ va_pl S.L (wPF cyB cyI cyZ S))[k]? = some (a, wPF cyB cyI cyZ S a) ∧ (X ++ va_pl S.L (wPF cyB cyI cyZ S))[k]? = some (a, .inr (8, [.int (S.O_Vanities.f_many a), .int (S.O_Vanities.f_bestThing a), .int (S.O_Vanities.f_unlikeOnes a), va_rf (S.O_Vanities.f_found a), va_rf (S.O_Vanities.f_outcomes a)])) := by
  obtain ⟨k, hk⟩ := va_pl_get (X := X) (f := wPF cyB cyI cyZ S) hL
  exact ⟨k, hk, hk.trans (congrArg (fun e => some (a, e)) (wAt_O_Vanities cyB cyI cyZ S h))⟩
theorem wNw_O_Vanities (cyB : ClassId) (cyI : ClassId) (cyZ : ClassId) (S : wPS) (a b : Nat) : va_up (wPF cyB cyI cyZ S) a (.inr (8, [.int 0, .int 0, .int 0, .null, .null])) b = wPF cyB cyI cyZ { S with L := S.L ++ [a], K := va_up S.K a 8, O_Vanities := { f_many := va_up S.O_Vanities.f_many a 0, f_bestThing := va_up S.O_Vanities.f_bestThing a 0, f_unlikeOnes := va_up S.O_Vanities.f_unlikeOnes a 0, f_found := va_up S.O_Vanities.f_found a none, f_outcomes := va_up S.O_Vanities.f_outcomes a none } } b := by by_cases hb : b = a <;> first | (simp only [wPF, va_up_ne _ _ hb]; done) | (simp only [wPF, va_up, if_neg hb]; done) | simp [wPF, va_re, va_up, va_rf, hb]
theorem wPn_O_Vanities (cyB : ClassId) (cyI : ClassId) (cyZ : ClassId) (X : va_W) (S : wPS) {a : Nat} (ha : a ∉ S.L) : (X ++ va_pl S.L (wPF cyB cyI cyZ S)) ++ [(a, .inr (8, [.int 0, .int 0, .int 0, .null, .null]))] = X ++ va_pl (S.L ++ [a]) (wPF cyB cyI cyZ { S with L := S.L ++ [a], K := va_up S.K a 8, O_Vanities := { f_many := va_up S.O_Vanities.f_many a 0, f_bestThing := va_up S.O_Vanities.f_bestThing a 0, f_unlikeOnes := va_up S.O_Vanities.f_unlikeOnes a 0, f_found := va_up S.O_Vanities.f_found a none, f_outcomes := va_up S.O_Vanities.f_outcomes a none } }) := by
  rw [List.append_assoc, va_pl_push ha]
  exact congrArg (fun l => X ++ l) (va_pl_congr (wNw_O_Vanities cyB cyI cyZ S a))
theorem wAt_O_WornThings (cyB : ClassId) (cyI : ClassId) (cyZ : ClassId) (S : wPS) {a : Nat} (h : S.K a = 9) : wPF cyB cyI cyZ S a = .inr (9, [va_rf (S.O_WornThings.f_tape a), .int (S.O_WornThings.f_tapeLength a), .int (S.O_WornThings.f_faultPlace a), va_rf (S.O_WornThings.f_status a), va_rf (S.O_WornThings.f_reader a), va_rf (S.O_WornThings.f_city a), va_rf (S.O_WornThings.f_draft a), va_rf (S.O_WornThings.f_now a), va_rf (S.O_WornThings.f_acts a), va_rf (S.O_WornThings.f_notes a), .int (S.O_WornThings.f_imageKept a), va_rf (S.O_WornThings.f_imageRow a), va_rf (S.O_WornThings.f_imageActs a), va_rf (S.O_WornThings.f_imageNotes a), va_rf (S.O_WornThings.f_trials a), va_rf (S.O_WornThings.f_vanities a), va_rf (S.O_WornThings.f_ties a)]) := by simp [wPF, h]
theorem wGt_O_WornThings (cyB : ClassId) (cyI : ClassId) (cyZ : ClassId) (X : va_W) (S : wPS) {a : Nat} (hL : a ∈ S.L) (h : S.K a = 9) : ∃ k : Nat, (X ++ va_pl S.L (wPF cyB cyI cyZ S))[k]? = some (a, wPF cyB cyI cyZ S a) ∧ (X ++ va_pl S.L (wPF cyB cyI cyZ S))[k]? = some (a, .inr (9, [va_rf (S.O_WornThings.f_tape a), .int (S.O_WornThings.f_tapeLength a), .int (S.O_WornThings.f_faultPlace a), va_rf (S.O_WornThings.f_status a), va_rf (S.O_WornThings.f_reader a), va_rf (S.O_WornThings.f_city a), va_rf (S.O_WornThings.f_draft a), va_rf (S.O_WornThings.f_now a), va_rf (S.O_WornThings.f_acts a), va_rf (S.O_WornThings.f_notes a), .int (S.O_WornThings.f_imageKept a), va_rf (S.O_WornThings.f_imageRow a), va_rf (S.O_WornThings.f_imageActs a), va_rf (S.O_WornThings.f_imageNotes a), va_rf (S.O_WornThings.f_trials a), va_rf (S.O_WornThings.f_vanities a), va_rf (S.O_WornThings.f_ties a)])) := by
  obtain ⟨k, hk⟩ := va_pl_get (X := X) (f := wPF cyB cyI cyZ S) hL
  exact ⟨k, hk, hk.trans (congrArg (fun e => some (a, e)) (wAt_O_WornThings cyB cyI cyZ S h))⟩
theorem wNw_O_WornThings (cyB : ClassId) (cyI : ClassId) (cyZ : ClassId) (S : wPS) (a b : Nat) : va_up (wPF cyB cyI cyZ S) a (.inr (9, [.null, .int 0, .int 0, .null, .null, .null, .null, .null, .null, .null, .int 0, .null, .null, .null, .null, .null, .null])) b = wPF cyB cyI cyZ { S with L := S.L ++ [a], K := va_up S.K a 9, O_WornThings := { f_tape := va_up S.O_WornThings.f_tape a none, f_tapeLength := va_up S.O_WornThings.f_tapeLength a 0, f_faultPlace := va_up S.O_WornThings.f_faultPlace a 0, f_status := va_up S.O_WornThings.f_status a none, f_reader := va_up S.O_WornThings.f_reader a none, f_city := va_up S.O_WornThings.f_city a none, f_draft := va_up S.O_WornThings.f_draft a none, f_now := va_up S.O_WornThings.f_now a none, f_acts := va_up S.O_WornThings.f_acts a none, f_notes := va_up S.O_WornThings.f_notes a none, f_imageKept := va_up S.O_WornThings.f_imageKept a 0, f_imageRow := va_up S.O_WornThings.f_imageRow a none, f_imageActs := va_up S.O_WornThings.f_imageActs a none, f_imageNotes := va_up S.O_WornThings.f_imageNotes a none, f_trials := va_up S.O_WornThings.f_trials a none, f_vanities := va_up S.O_WornThings.f_vanities a none, f_ties := va_up S.O_WornThings.f_ties a none } } b := by by_cases hb : b = a <;> first | (simp only [wPF, va_up_ne _ _ hb]; done) | (simp only [wPF, va_up, if_neg hb]; done) | simp [wPF, va_re, va_up, va_rf, hb]
theorem wPn_O_WornThings (cyB : ClassId) (cyI : ClassId) (cyZ : ClassId) (X : va_W) (S : wPS) {a : Nat} (ha : a ∉ S.L) : (X ++ va_pl S.L (wPF cyB cyI cyZ S)) ++ [(a, .inr (9, [.null, .int 0, .int 0, .null, .null, .null, .null, .null, .null, .null, .int 0, .null, .null, .null, .null, .null, .null]))] = X ++ va_pl (S.L ++ [a]) (wPF cyB cyI cyZ { S with L := S.L ++ [a], K := va_up S.K a 9, O_WornThings := { f_tape := va_up S.O_WornThings.f_tape a none, f_tapeLength := va_up S.O_WornThings.f_tapeLength a 0, f_faultPlace := va_up S.O_WornThings.f_faultPlace a 0, f_status := va_up S.O_WornThings.f_status a none, f_reader := va_up S.O_WornThings.f_reader a none, f_city := va_up S.O_WornThings.f_city a none, f_draft := va_up S.O_WornThings.f_draft a none, f_now := va_up S.O_WornThings.f_now a none, f_acts := va_up S.O_WornThings.f_acts a none, f_notes := va_up S.O_WornThings.f_notes a none, f_imageKept := va_up S.O_WornThings.f_imageKept a 0, f_imageRow := va_up S.O_WornThings.f_imageRow a none, f_imageActs := va_up S.O_WornThings.f_imageActs a none, f_imageNotes := va_up S.O_WornThings.f_imageNotes a none, f_trials := va_up S.O_WornThings.f_trials a none, f_vanities := va_up S.O_WornThings.f_vanities a none, f_ties := va_up S.O_WornThings.f_ties a none } }) := by
  rw [List.append_assoc, va_pl_push ha]
  exact congrArg (fun l => X ++ l) (va_pl_congr (wNw_O_WornThings cyB cyI cyZ S a))
theorem wAt_O_WornThingsModel (cyB : ClassId) (cyI : ClassId) (cyZ : ClassId) (S : wPS) {a : Nat} (h : S.K a = 10) : wPF cyB cyI cyZ S a = .inr (10, [.int (S.O_WornThingsModel.f_thrown a), .int (S.O_WornThingsModel.f_places a), .int (S.O_WornThingsModel.f_people a), .int (S.O_WornThingsModel.f_things a), .int (S.O_WornThingsModel.f_term a), .int (S.O_WornThingsModel.f_shamesAt a), .int (S.O_WornThingsModel.f_returnsAt a), va_rf (S.O_WornThingsModel.f_walkLong a), va_rf (S.O_WornThingsModel.f_weight a), va_rf (S.O_WornThingsModel.f_code a), va_rf (S.O_WornThingsModel.f_isBlind a), va_rf (S.O_WornThingsModel.f_tape a), .int (S.O_WornThingsModel.f_taped a), .int (S.O_WornThingsModel.f_faultKind a), .int (S.O_WornThingsModel.f_faultPlace a), va_rf (S.O_WornThingsModel.f_refused a), .int (S.O_WornThingsModel.f_long1 a), .int (S.O_WornThingsModel.f_next0 a), .int (S.O_WornThingsModel.f_sort a), .int (S.O_WornThingsModel.f_place a), .int (S.O_WornThingsModel.f_long0 a), .int (S.O_WornThingsModel.f_value a), .int (S.O_WornThingsModel.f_sign a), .long (S.O_WornThingsModel.f_word a), .int (S.O_WornThingsModel.f_newPlaces a), .int (S.O_WornThingsModel.f_newPeople a), .int (S.O_WornThingsModel.f_newThings a), .int (S.O_WornThingsModel.f_newTerm a), .int (S.O_WornThingsModel.f_newShamesAt a), .int (S.O_WornThingsModel.f_newReturnsAt a), .int (S.O_WornThingsModel.f_top a), .int (S.O_WornThingsModel.f_firstValue a), .int (S.O_WornThingsModel.f_lastValue a), .int (S.O_WornThingsModel.f_waiting a), .int (S.O_WornThingsModel.f_depth a), va_rf (S.O_WornThingsModel.f_newWalkLong a), va_rf (S.O_WornThingsModel.f_newWeight a), va_rf (S.O_WornThingsModel.f_newRow a), va_rf (S.O_WornThingsModel.f_readCode a), va_rf (S.O_WornThingsModel.f_waits a), va_rf (S.O_WornThingsModel.f_newBlind a), va_rf (S.O_WornThingsModel.f_tested a), va_rf (S.O_WornThingsModel.f_rows a), va_rf (S.O_WornThingsModel.f_ahead a), .int (S.O_WornThingsModel.f_acts a), va_rf (S.O_WornThingsModel.f_told a), va_rf (S.O_WornThingsModel.f_pile a), .int (S.O_WornThingsModel.f_isFog a), .int (S.O_WornThingsModel.f_owned a), va_rf (S.O_WornThingsModel.f_leastOf a), va_rf (S.O_WornThingsModel.f_often a), .int (S.O_WornThingsModel.f_notedMany a), va_rf (S.O_WornThingsModel.f_noted a), va_rf (S.O_WornThingsModel.f_soon a), va_rf (S.O_WornThingsModel.f_soonAll a), .int (S.O_WornThingsModel.f_its0 a), .int (S.O_WornThingsModel.f_hasImage a), .int (S.O_WornThingsModel.f_imageActs a), .int (S.O_WornThingsModel.f_imageNoted a), va_rf (S.O_WornThingsModel.f_imageRow a), va_rf (S.O_WornThingsModel.f_imageAhead a), va_rf (S.O_WornThingsModel.f_imageNotes a)]) := by simp [wPF, h]
theorem wGt_O_WornThingsModel (cyB : ClassId) (cyI : ClassId) (cyZ : ClassId) (X : va_W) (S : wPS) {a : Nat} (hL : a ∈ S.L) (h : S.K a = 10) : ∃ k : Nat, (X ++ va_pl S.L (wPF cyB cyI cyZ S))[k]? = some (a, wPF cyB cyI cyZ S a) ∧ (X ++ va_pl S.L (wPF cyB cyI cyZ S))[k]? = some (a, .inr (10, [.int (S.O_WornThingsModel.f_thrown a), .int (S.O_WornThingsModel.f_places a), .int (S.O_WornThingsModel.f_people a), .int (S.O_WornThingsModel.f_things a), .int (S.O_WornThingsModel.f_term a), .int (S.O_WornThingsModel.f_shamesAt a), .int (S.O_WornThingsModel.f_returnsAt a), va_rf (S.O_WornThingsModel.f_walkLong a), va_rf (S.O_WornThingsModel.f_weight a), va_rf (S.O_WornThingsModel.f_code a), va_rf (S.O_WornThingsModel.f_isBlind a), va_rf (S.O_WornThingsModel.f_tape a), .int (S.O_WornThingsModel.f_taped a), .int (S.O_WornThingsModel.f_faultKind a), .int (S.O_WornThingsModel.f_faultPlace a), va_rf (S.O_WornThingsModel.f_refused a), .int (S.O_WornThingsModel.f_long1 a), .int (S.O_WornThingsModel.f_next0 a), .int (S.O_WornThingsModel.f_sort a), .int (S.O_WornThingsModel.f_place a), .int (S.O_WornThingsModel.f_long0 a), .int (S.O_WornThingsModel.f_value a), .int (S.O_WornThingsModel.f_sign a), .long (S.O_WornThingsModel.f_word a), .int (S.O_WornThingsModel.f_newPlaces a), .int (S.O_WornThingsModel.f_newPeople a), .int (S.O_WornThingsModel.f_newThings a), .int (S.O_WornThingsModel.f_newTerm a), .int (S.O_WornThingsModel.f_newShamesAt a), .int (S.O_WornThingsModel.f_newReturnsAt a), .int (S.O_WornThingsModel.f_top a), .int (S.O_WornThingsModel.f_firstValue a), .int (S.O_WornThingsModel.f_lastValue a), .int (S.O_WornThingsModel.f_waiting a), .int (S.O_WornThingsModel.f_depth a), va_rf (S.O_WornThingsModel.f_newWalkLong a), va_rf (S.O_WornThingsModel.f_newWeight a), va_rf (S.O_WornThingsModel.f_newRow a), va_rf (S.O_WornThingsModel.f_readCode a), va_rf (S.O_WornThingsModel.f_waits a), va_rf (S.O_WornThingsModel.f_newBlind a), va_rf (S.O_WornThingsModel.f_tested a), va_rf (S.O_WornThingsModel.f_rows a), va_rf (S.O_WornThingsModel.f_ahead a), .int (S.O_WornThingsModel.f_acts a), va_rf (S.O_WornThingsModel.f_told a), va_rf (S.O_WornThingsModel.f_pile a), .int (S.O_WornThingsModel.f_isFog a), .int (S.O_WornThingsModel.f_owned a), va_rf (S.O_WornThingsModel.f_leastOf a), va_rf (S.O_WornThingsModel.f_often a), .int (S.O_WornThingsModel.f_notedMany a), va_rf (S.O_WornThingsModel.f_noted a), va_rf (S.O_WornThingsModel.f_soon a), va_rf (S.O_WornThingsModel.f_soonAll a), .int (S.O_WornThingsModel.f_its0 a), .int (S.O_WornThingsModel.f_hasImage a), .int (S.O_WornThingsModel.f_imageActs a), .int (S.O_WornThingsModel.f_imageNoted a), va_rf (S.O_WornThingsModel.f_imageRow a), va_rf (S.O_WornThingsModel.f_imageAhead a), va_rf (S.O_WornThingsModel.f_imageNotes a)])) := by
  obtain ⟨k, hk⟩ := va_pl_get (X := X) (f := wPF cyB cyI cyZ S) hL
  exact ⟨k, hk, hk.trans (congrArg (fun e => some (a, e)) (wAt_O_WornThingsModel cyB cyI cyZ S h))⟩
theorem wNw_O_WornThingsModel (cyB : ClassId) (cyI : ClassId) (cyZ : ClassId) (S : wPS) (a b : Nat) : va_up (wPF cyB cyI cyZ S) a (.inr (10, [.int 0, .int 0, .int 0, .int 0, .int 0, .int 0, .int 0, .null, .null, .null, .null, .null, .int 0, .int 0, .int 0, .null, .int 0, .int 0, .int 0, .int 0, .int 0, .int 0, .int 0, .long 0, .int 0, .int 0, .int 0, .int 0, .int 0, .int 0, .int 0, .int 0, .int 0, .int 0, .int 0, .null, .null, .null, .null, .null, .null, .null, .null, .null, .int 0, .null, .null, .int 0, .int 0, .null, .null, .int 0, .null, .null, .null, .int 0, .int 0, .int 0, .int 0, .null, .null, .null])) b = wPF cyB cyI cyZ { S with L := S.L ++ [a], K := va_up S.K a 10, O_WornThingsModel := { f_thrown := va_up S.O_WornThingsModel.f_thrown a 0, f_places := va_up S.O_WornThingsModel.f_places a 0, f_people := va_up S.O_WornThingsModel.f_people a 0, f_things := va_up S.O_WornThingsModel.f_things a 0, f_term := va_up S.O_WornThingsModel.f_term a 0, f_shamesAt := va_up S.O_WornThingsModel.f_shamesAt a 0, f_returnsAt := va_up S.O_WornThingsModel.f_returnsAt a 0, f_walkLong := va_up S.O_WornThingsModel.f_walkLong a none, f_weight := va_up S.O_WornThingsModel.f_weight a none, f_code := va_up S.O_WornThingsModel.f_code a none, f_isBlind := va_up S.O_WornThingsModel.f_isBlind a none, f_tape := va_up S.O_WornThingsModel.f_tape a none, f_taped := va_up S.O_WornThingsModel.f_taped a 0, f_faultKind := va_up S.O_WornThingsModel.f_faultKind a 0, f_faultPlace := va_up S.O_WornThingsModel.f_faultPlace a 0, f_refused := va_up S.O_WornThingsModel.f_refused a none, f_long1 := va_up S.O_WornThingsModel.f_long1 a 0, f_next0 := va_up S.O_WornThingsModel.f_next0 a 0, f_sort := va_up S.O_WornThingsModel.f_sort a 0, f_place := va_up S.O_WornThingsModel.f_place a 0, f_long0 := va_up S.O_WornThingsModel.f_long0 a 0, f_value := va_up S.O_WornThingsModel.f_value a 0, f_sign := va_up S.O_WornThingsModel.f_sign a 0, f_word := va_up S.O_WornThingsModel.f_word a 0, f_newPlaces := va_up S.O_WornThingsModel.f_newPlaces a 0, f_newPeople := va_up S.O_WornThingsModel.f_newPeople a 0, f_newThings := va_up S.O_WornThingsModel.f_newThings a 0, f_newTerm := va_up S.O_WornThingsModel.f_newTerm a 0, f_newShamesAt := va_up S.O_WornThingsModel.f_newShamesAt a 0, f_newReturnsAt := va_up S.O_WornThingsModel.f_newReturnsAt a 0, f_top := va_up S.O_WornThingsModel.f_top a 0, f_firstValue := va_up S.O_WornThingsModel.f_firstValue a 0, f_lastValue := va_up S.O_WornThingsModel.f_lastValue a 0, f_waiting := va_up S.O_WornThingsModel.f_waiting a 0, f_depth := va_up S.O_WornThingsModel.f_depth a 0, f_newWalkLong := va_up S.O_WornThingsModel.f_newWalkLong a none, f_newWeight := va_up S.O_WornThingsModel.f_newWeight a none, f_newRow := va_up S.O_WornThingsModel.f_newRow a none, f_readCode := va_up S.O_WornThingsModel.f_readCode a none, f_waits := va_up S.O_WornThingsModel.f_waits a none, f_newBlind := va_up S.O_WornThingsModel.f_newBlind a none, f_tested := va_up S.O_WornThingsModel.f_tested a none, f_rows := va_up S.O_WornThingsModel.f_rows a none, f_ahead := va_up S.O_WornThingsModel.f_ahead a none, f_acts := va_up S.O_WornThingsModel.f_acts a 0, f_told := va_up S.O_WornThingsModel.f_told a none, f_pile := va_up S.O_WornThingsModel.f_pile a none, f_isFog := va_up S.O_WornThingsModel.f_isFog a 0, f_owned := va_up S.O_WornThingsModel.f_owned a 0, f_leastOf := va_up S.O_WornThingsModel.f_leastOf a none, f_often := va_up S.O_WornThingsModel.f_often a none, f_notedMany := va_up S.O_WornThingsModel.f_notedMany a 0, f_noted := va_up S.O_WornThingsModel.f_noted a none, f_soon := va_up S.O_WornThingsModel.f_soon a none, f_soonAll := va_up S.O_WornThingsModel.f_soonAll a none, f_its0 := va_up S.O_WornThingsModel.f_its0 a 0, f_hasImage := va_up S.O_WornThingsModel.f_hasImage a 0, f_imageActs := va_up S.O_WornThingsModel.f_imageActs a 0, f_imageNoted := va_up S.O_WornThingsModel.f_imageNoted a 0, f_imageRow := va_up S.O_WornThingsModel.f_imageRow a none, f_imageAhead := va_up S.O_WornThingsModel.f_imageAhead a none, f_imageNotes := va_up S.O_WornThingsModel.f_imageNotes a none } } b := by by_cases hb : b = a <;> first | (simp only [wPF, va_up_ne _ _ hb]; done) | (simp only [wPF, va_up, if_neg hb]; done) | simp [wPF, va_re, va_up, va_rf, hb]
theorem wPn_O_WornThingsModel (cyB : ClassId) (cyI : ClassId) (cyZ : ClassId) (X : va_W) (S : wPS) {a : Nat} (ha : a ∉ S.L) : (X ++ va_pl S.L (wPF cyB cyI cyZ S)) ++ [(a, .inr (10, [.int 0, .int 0, .int 0, .int 0, .int 0, .int 0, .int 0, .null, .null, .null, .null, .null, .int 0, .int 0, .int 0, .null, .int 0, .int 0, .int 0, .int 0, .int 0, .int 0, .int 0, .long 0, .int 0, .int 0, .int 0, .int 0, .int 0, .int 0, .int 0, .int 0, .int 0, .int 0, .int 0, .null, .null, .null, .null, .null, .null, .null, .null, .null, .int 0, .null, .null, .int 0, .int 0, .null, .null, .int 0, .null, .null, .null, .int 0, .int 0, .int 0, .int 0, .null, .null, .null]))] = X ++ va_pl (S.L ++ [a]) (wPF cyB cyI cyZ { S with L := S.L ++ [a], K := va_up S.K a 10, O_WornThingsModel := { f_thrown := va_up S.O_WornThingsModel.f_thrown a 0, f_places := va_up S.O_WornThingsModel.f_places a 0, f_people := va_up S.O_WornThingsModel.f_people a 0, f_things := va_up S.O_WornThingsModel.f_things a 0, f_term := va_up S.O_WornThingsModel.f_term a 0, f_shamesAt := va_up S.O_WornThingsModel.f_shamesAt a 0, f_returnsAt := va_up S.O_WornThingsModel.f_returnsAt a 0, f_walkLong := va_up S.O_WornThingsModel.f_walkLong a none, f_weight := va_up S.O_WornThingsModel.f_weight a none, f_code := va_up S.O_WornThingsModel.f_code a none, f_isBlind := va_up S.O_WornThingsModel.f_isBlind a none, f_tape := va_up S.O_WornThingsModel.f_tape a none, f_taped := va_up S.O_WornThingsModel.f_taped a 0, f_faultKind := va_up S.O_WornThingsModel.f_faultKind a 0, f_faultPlace := va_up S.O_WornThingsModel.f_faultPlace a 0, f_refused := va_up S.O_WornThingsModel.f_refused a none, f_long1 := va_up S.O_WornThingsModel.f_long1 a 0, f_next0 := va_up S.O_WornThingsModel.f_next0 a 0, f_sort := va_up S.O_WornThingsModel.f_sort a 0, f_place := va_up S.O_WornThingsModel.f_place a 0, f_long0 := va_up S.O_WornThingsModel.f_long0 a 0, f_value := va_up S.O_WornThingsModel.f_value a 0, f_sign := va_up S.O_WornThingsModel.f_sign a 0, f_word := va_up S.O_WornThingsModel.f_word a 0, f_newPlaces := va_up S.O_WornThingsModel.f_newPlaces a 0, f_newPeople := va_up S.O_WornThingsModel.f_newPeople a 0, f_newThings := va_up S.O_WornThingsModel.f_newThings a 0, f_newTerm := va_up S.O_WornThingsModel.f_newTerm a 0, f_newShamesAt := va_up S.O_WornThingsModel.f_newShamesAt a 0, f_newReturnsAt := va_up S.O_WornThingsModel.f_newReturnsAt a 0, f_top := va_up S.O_WornThingsModel.f_top a 0, f_firstValue := va_up S.O_WornThingsModel.f_firstValue a 0, f_lastValue := va_up S.O_WornThingsModel.f_lastValue a 0, f_waiting := va_up S.O_WornThingsModel.f_waiting a 0, f_depth := va_up S.O_WornThingsModel.f_depth a 0, f_newWalkLong := va_up S.O_WornThingsModel.f_newWalkLong a none, f_newWeight := va_up S.O_WornThingsModel.f_newWeight a none, f_newRow := va_up S.O_WornThingsModel.f_newRow a none, f_readCode := va_up S.O_WornThingsModel.f_readCode a none, f_waits := va_up S.O_WornThingsModel.f_waits a none, f_newBlind := va_up S.O_WornThingsModel.f_newBlind a none, f_tested := va_up S.O_WornThingsModel.f_tested a none, f_rows := va_up S.O_WornThingsModel.f_rows a none, f_ahead := va_up S.O_WornThingsModel.f_ahead a none, f_acts := va_up S.O_WornThingsModel.f_acts a 0, f_told := va_up S.O_WornThingsModel.f_told a none, f_pile := va_up S.O_WornThingsModel.f_pile a none, f_isFog := va_up S.O_WornThingsModel.f_isFog a 0, f_owned := va_up S.O_WornThingsModel.f_owned a 0, f_leastOf := va_up S.O_WornThingsModel.f_leastOf a none, f_often := va_up S.O_WornThingsModel.f_often a none, f_notedMany := va_up S.O_WornThingsModel.f_notedMany a 0, f_noted := va_up S.O_WornThingsModel.f_noted a none, f_soon := va_up S.O_WornThingsModel.f_soon a none, f_soonAll := va_up S.O_WornThingsModel.f_soonAll a none, f_its0 := va_up S.O_WornThingsModel.f_its0 a 0, f_hasImage := va_up S.O_WornThingsModel.f_hasImage a 0, f_imageActs := va_up S.O_WornThingsModel.f_imageActs a 0, f_imageNoted := va_up S.O_WornThingsModel.f_imageNoted a 0, f_imageRow := va_up S.O_WornThingsModel.f_imageRow a none, f_imageAhead := va_up S.O_WornThingsModel.f_imageAhead a none, f_imageNotes := va_up S.O_WornThingsModel.f_imageNotes a none } }) := by
  rw [List.append_assoc, va_pl_push ha]
  exact congrArg (fun l => X ++ l) (va_pl_congr (wNw_O_WornThingsModel cyB cyI cyZ S a))
theorem wAt_R_B (cyB : ClassId) (cyI : ClassId) (cyZ : ClassId) (S : wPS) {a : Nat} (h : S.K a = 11) : wPF cyB cyI cyZ S a = .inl (cyB, S.R_B.len a, .inl (S.R_B.row a)) := by simp [wPF, h]
theorem wGt_R_B (cyB : ClassId) (cyI : ClassId) (cyZ : ClassId) (X : va_W) (S : wPS) {a : Nat} (hL : a ∈ S.L) (h : S.K a = 11) : ∃ k : Nat, (X ++ va_pl S.L (wPF cyB cyI cyZ S))[k]? = some (a, wPF cyB cyI cyZ S a) ∧ (X ++ va_pl S.L (wPF cyB cyI cyZ S))[k]? = some (a, .inl (cyB, S.R_B.len a, .inl (S.R_B.row a))) := by
  obtain ⟨k, hk⟩ := va_pl_get (X := X) (f := wPF cyB cyI cyZ S) hL
  exact ⟨k, hk, hk.trans (congrArg (fun e => some (a, e)) (wAt_R_B cyB cyI cyZ S h))⟩
theorem wNw_R_B (cyB : ClassId) (cyI : ClassId) (cyZ : ClassId) (S : wPS) (a : Nat) (z : Nat) (f : Nat → Int32) (b : Nat) : va_up (wPF cyB cyI cyZ S) a (.inl (cyB, z, .inl f)) b = wPF cyB cyI cyZ { S with L := S.L ++ [a], K := va_up S.K a 11, R_B := { len := va_up S.R_B.len a z, row := va_up S.R_B.row a f } } b := by by_cases hb : b = a <;> first | (simp only [wPF, va_up_ne _ _ hb]; done) | (simp only [wPF, va_up, if_neg hb]; done) | simp [wPF, va_re, va_up, va_rf, hb]
theorem wAt_R_I (cyB : ClassId) (cyI : ClassId) (cyZ : ClassId) (S : wPS) {a : Nat} (h : S.K a = 12) : wPF cyB cyI cyZ S a = .inl (cyI, S.R_I.len a, .inl (S.R_I.row a)) := by simp [wPF, h]
theorem wGt_R_I (cyB : ClassId) (cyI : ClassId) (cyZ : ClassId) (X : va_W) (S : wPS) {a : Nat} (hL : a ∈ S.L) (h : S.K a = 12) : ∃ k : Nat, (X ++ va_pl S.L (wPF cyB cyI cyZ S))[k]? = some (a, wPF cyB cyI cyZ S a) ∧ (X ++ va_pl S.L (wPF cyB cyI cyZ S))[k]? = some (a, .inl (cyI, S.R_I.len a, .inl (S.R_I.row a))) := by
  obtain ⟨k, hk⟩ := va_pl_get (X := X) (f := wPF cyB cyI cyZ S) hL
  exact ⟨k, hk, hk.trans (congrArg (fun e => some (a, e)) (wAt_R_I cyB cyI cyZ S h))⟩
theorem wNw_R_I (cyB : ClassId) (cyI : ClassId) (cyZ : ClassId) (S : wPS) (a : Nat) (z : Nat) (f : Nat → Int32) (b : Nat) : va_up (wPF cyB cyI cyZ S) a (.inl (cyI, z, .inl f)) b = wPF cyB cyI cyZ { S with L := S.L ++ [a], K := va_up S.K a 12, R_I := { len := va_up S.R_I.len a z, row := va_up S.R_I.row a f } } b := by by_cases hb : b = a <;> first | (simp only [wPF, va_up_ne _ _ hb]; done) | (simp only [wPF, va_up, if_neg hb]; done) | simp [wPF, va_re, va_up, va_rf, hb]
theorem wAt_R_Z (cyB : ClassId) (cyI : ClassId) (cyZ : ClassId) (S : wPS) {a : Nat} (h : S.K a = 13) : wPF cyB cyI cyZ S a = .inl (cyZ, S.R_Z.len a, .inl (S.R_Z.row a)) := by simp [wPF, h]
theorem wGt_R_Z (cyB : ClassId) (cyI : ClassId) (cyZ : ClassId) (X : va_W) (S : wPS) {a : Nat} (hL : a ∈ S.L) (h : S.K a = 13) : ∃ k : Nat, (X ++ va_pl S.L (wPF cyB cyI cyZ S))[k]? = some (a, wPF cyB cyI cyZ S a) ∧ (X ++ va_pl S.L (wPF cyB cyI cyZ S))[k]? = some (a, .inl (cyZ, S.R_Z.len a, .inl (S.R_Z.row a))) := by
  obtain ⟨k, hk⟩ := va_pl_get (X := X) (f := wPF cyB cyI cyZ S) hL
  exact ⟨k, hk, hk.trans (congrArg (fun e => some (a, e)) (wAt_R_Z cyB cyI cyZ S h))⟩
theorem wNw_R_Z (cyB : ClassId) (cyI : ClassId) (cyZ : ClassId) (S : wPS) (a : Nat) (z : Nat) (f : Nat → Int32) (b : Nat) : va_up (wPF cyB cyI cyZ S) a (.inl (cyZ, z, .inl f)) b = wPF cyB cyI cyZ { S with L := S.L ++ [a], K := va_up S.K a 13, R_Z := { len := va_up S.R_Z.len a z, row := va_up S.R_Z.row a f } } b := by by_cases hb : b = a <;> first | (simp only [wPF, va_up_ne _ _ hb]; done) | (simp only [wPF, va_up, if_neg hb]; done) | simp [wPF, va_re, va_up, va_rf, hb]
