/-! THE CLAIM OUT OF ONE WALK OF THE LAW'S BODY. Your part is whole_start (and what it stands on); all else here is the same for every law, but numbers. -/
def R_law : String := "WornThingsLaw"
def lw_P (b : Addr) (xs : List Int32) (args : Array Value) (s : State) : Prop := args = #[.ref b] ∧ s.IntsAt b xs ∧ xs.length ≤ 3072 ∧ (Jvm.Cond.and given_1 narrow_1).before args s = true
def lw_Q (_ : Array Value) (s : State) (o : Outcome) (t : State) : Prop := o = .returned (some (.int 1)) ∧ Framed s o t [] 1135 32708
def lw_Z (below : List Frame) (a : Array Value) (s : State) : State → Prop := fun t => ∃ o, t.status = .running ∧ Ended t below o ∧ lw_Q a s o t
/-- the law's own end, with 1 on the stack, nothing written that was there before, its room as the claim has it -/
theorem lw_ret {p : Program} {l : Launch} {e : Env} {s : State} {m : MethodId} {below : List Frame} {meth : Method} {c : Code} {b : Nat} (hx : p.tables.exec = Jvm.exec) (hb : c.code = code) (hr : meth.sig.returnType = ret) (hlocks : meth.locks = false) {pc : Nat} {H : Heap} {ls : Array Slot} (hdg : decode code pc = .ok (.ireturn, 1)) : W p l e room_1 s m #[Value.ref b] below meth c H [] 1135 32708 (lw_Z below #[Value.ref b] s) (F0 m pc ls [.int 1]) := by
  intro T hT X
  obtain ⟨fs, hret, hrun, hended, hW, hframe⟩ := X.leave (v := some (.int 1)) (hlocks := hlocks) (fun h => by rw [hr] at h; cases h)
  have hmeth' : T.vm.method? m = some meth := X.method'
  refine ⟨T.setFrames fs, ?_, .returned (some (.int 1)), hrun, hended, rfl, ⟨_, rfl⟩, hW, hframe⟩
  jvm_step X.here [X.here.top, hx, hb, hdg, hmeth', hr, ret, narrow_b1]
  (try refine ⟨rfl, ?_⟩); (try refine ⟨rfl, ?_⟩)
  first | (intro acts; rw [hret _ acts rfl rfl rfl]) | rw [hret _ _ rfl rfl rfl]
  exact Steps.refl _
/-- what holds at the law's entry: the machine, the code, the tables' words (any of lw_tbl by 'hts w (by decide +kernel)'), the script of L ints xs at the cell b, what the Statement gives of the start (any of its parts by flat_of_before) -/
def lw_At (p : Program) (s : State) (m : MethodId) (meth : Method) (c : Code) (b L : Nat) (xs : Nat → Int32) : Prop :=
  p.tables.exec = Jvm.exec ∧ c.code = code ∧ meth.sig.returnType = ret ∧ c.maxLocals = 7 ∧ s.vm.findClass R_law = some m.cls ∧ (∀ w ∈ lw_tbl, w.before #[Value.ref b] s = true) ∧ va_X b L xs s s.heap ∧ b < s.heap.size ∧ meth.locks = false ∧ (Jvm.Cond.and given_1 narrow_1).before #[Value.ref b] s = true
theorem nest_in : ∀ w ∈ exNest, w ∈ lw_tbl := by
  intro w hw
  simp only [exNest, List.mem_cons, List.not_mem_nil, or_false] at hw
  rcases hw with rfl | rfl | rfl | rfl | rfl | rfl | rfl | rfl | rfl
  · exact (ch1_2 _ (List.mem_of_getElem? (i := 4) rfl))
  · exact (ch1_6 _ (List.mem_of_getElem? (i := 11) rfl))
  · exact (ch1_14 _ (List.mem_of_getElem? (i := 1) rfl))
  · exact (ch2_3 _ (List.mem_of_getElem? (i := 10) rfl))
  · exact (ch2_4 _ (List.mem_of_getElem? (i := 11) rfl))
  · exact (ch2_5 _ (List.mem_of_getElem? (i := 15) rfl))
  · exact (ch2_6 _ (List.mem_of_getElem? (i := 4) rfl))
  · exact (ch2_7 _ (List.mem_of_getElem? (i := 6) rfl))
  · exact (ch2_8 _ (List.mem_of_getElem? (i := 15) rfl))
set_option maxRecDepth 100000 in
theorem face_in : ∀ w ∈ exFace, w ∈ lw_tbl := by decide +kernel
theorem inst_in : ∀ ci, ci < 11 → Cond.instantiable (clR ci) (clN ci) ∈ lw_tbl := by
  intro ci h
  match ci, h with
  | 0, _ => exact (ch2_3 _ (List.mem_of_getElem? (i := 9) rfl))
  | 1, _ => exact (ch1_6 _ (List.mem_of_getElem? (i := 4) rfl))
  | 2, _ => exact (ch2_4 _ (List.mem_of_getElem? (i := 10) rfl))
  | 3, _ => exact (ch1_2 _ (List.mem_of_getElem? (i := 3) rfl))
  | 4, _ => exact (ch1_6 _ (List.mem_of_getElem? (i := 10) rfl))
  | 5, _ => exact (ch2_8 _ (List.mem_of_getElem? (i := 14) rfl))
  | 6, _ => exact (ch1_14 _ (List.mem_of_getElem? (i := 0) rfl))
  | 7, _ => exact (ch2_5 _ (List.mem_of_getElem? (i := 14) rfl))
  | 8, _ => exact (ch2_7 _ (List.mem_of_getElem? (i := 5) rfl))
  | 9, _ => exact (ch1_1 _ (List.mem_of_getElem? (i := 11) rfl))
  | 10, _ => exact (ch7_0 _ (List.mem_of_getElem? (i := 10) rfl))
theorem nest_ot : ∀ w ∈ exNest, w.onTables = true := by decide +kernel
theorem str_in : ∀ i, i < 21 → Cond.stringRef RX3 (strI.getD i 0) (strT.getD i "") ∈ lw_tbl := by
  intro i h
  match i, h with
  | 0, _ => exact (ch3_12 _ (List.mem_of_getElem? (i := 10) rfl))
  | 1, _ => exact (ch4_3 _ (List.mem_of_getElem? (i := 5) rfl))
  | 2, _ => exact (ch4_6 _ (List.mem_of_getElem? (i := 11) rfl))
  | 3, _ => exact (ch4_7 _ (List.mem_of_getElem? (i := 4) rfl))
  | 4, _ => exact (ch4_7 _ (List.mem_of_getElem? (i := 5) rfl))
  | 5, _ => exact (ch4_7 _ (List.mem_of_getElem? (i := 14) rfl))
  | 6, _ => exact (ch4_7 _ (List.mem_of_getElem? (i := 15) rfl))
  | 7, _ => exact (ch4_8 _ (List.mem_of_getElem? (i := 4) rfl))
  | 8, _ => exact (ch4_9 _ (List.mem_of_getElem? (i := 14) rfl))
  | 9, _ => exact (ch4_10 _ (List.mem_of_getElem? (i := 7) rfl))
  | 10, _ => exact (ch4_10 _ (List.mem_of_getElem? (i := 8) rfl))
  | 11, _ => exact (ch4_10 _ (List.mem_of_getElem? (i := 9) rfl))
  | 12, _ => exact (ch4_10 _ (List.mem_of_getElem? (i := 10) rfl))
  | 13, _ => exact (ch4_10 _ (List.mem_of_getElem? (i := 11) rfl))
  | 14, _ => exact (ch4_10 _ (List.mem_of_getElem? (i := 12) rfl))
  | 15, _ => exact (ch4_10 _ (List.mem_of_getElem? (i := 13) rfl))
  | 16, _ => exact (ch4_11 _ (List.mem_of_getElem? (i := 2) rfl))
  | 17, _ => exact (ch4_11 _ (List.mem_of_getElem? (i := 3) rfl))
  | 18, _ => exact (ch4_12 _ (List.mem_of_getElem? (i := 11) rfl))
  | 19, _ => exact (ch4_12 _ (List.mem_of_getElem? (i := 12) rfl))
  | 20, _ => exact (ch4_12 _ (List.mem_of_getElem? (i := 13) rfl))
  | (n + 21), h => exact absurd h (by omega)
/-- what the Statement says of the start, as a list -/
def narF : List Cond := flatC (Jvm.Cond.and given_1 narrow_1)
def nsT (i : Nat) : Term := .string RX3 (strI.getD i 0)
def narS : List Cond := (List.range 21).flatMap (fun i => [.exactly (nsT i) "java/lang/String", .eq (.field (nsT i) "java/lang/String" "coder" "B") (.int 0), .arrayOf (.field (nsT i) "java/lang/String" "value" "[B") .byte, .eq (.length (.field (nsT i) "java/lang/String" "value" "[B")) (.int (Int32.ofNat (strL.getD i 0)))])
def narE : List Cond := (List.range 21).flatMap (fun i => (List.range (strL.getD i 0)).map (fun j => .eq (.elem (.field (nsT i) "java/lang/String" "value" "[B") (.int (Int32.ofNat j))) (.int ((strB.getD i []).getD j 0))))
def narN : List Cond := (List.range 21).flatMap (fun i => (List.range i).map (fun j => .not (.eq (nsT j) (nsT i))))
theorem mem_fm {big ws : List Cond} (ps : List Nat) (hp : ws = ps.filterMap (fun i => big[i]?)) : ∀ w ∈ ws, w ∈ big := by
  intro w hw
  rw [hp] at hw
  obtain ⟨i, -, hi⟩ := List.mem_filterMap.mp hw
  exact List.mem_of_getElem? hi
set_option maxRecDepth 100000 in
theorem narS_in : ∀ w ∈ narS, w ∈ narF := mem_fm [48, 49, 50, 51, 61, 62, 63, 64, 72, 73, 74, 75, 84, 85, 86, 87, 96, 97, 98, 99, 109, 110, 111, 112, 120, 121, 122, 123, 134, 135, 136, 137, 151, 152, 153, 154, 166, 167, 168, 169, 182, 183, 184, 185, 202, 203, 204, 205, 222, 223, 224, 225, 242, 243, 244, 245, 265, 266, 267, 268, 288, 289, 290, 291, 310, 311, 312, 313, 335, 336, 337, 338, 360, 361, 362, 363, 384, 385, 386, 387, 410, 411, 412, 413] (by decide +kernel)
set_option maxRecDepth 100000 in
theorem narE_in : ∀ w ∈ narE, w ∈ narF := mem_fm [52, 53, 54, 55, 56, 57, 58, 59, 60, 65, 66, 67, 68, 69, 70, 76, 77, 78, 79, 80, 81, 88, 89, 90, 91, 92, 100, 101, 102, 103, 104, 113, 114, 124, 125, 126, 127, 138, 139, 140, 141, 142, 143, 155, 156, 157, 170, 171, 172, 186, 187, 188, 189, 190, 191, 206, 207, 208, 209, 210, 226, 227, 228, 229, 246, 247, 248, 249, 250, 251, 269, 270, 271, 272, 273, 292, 293, 294, 314, 315, 316, 317, 318, 339, 340, 341, 342, 364, 365, 388, 389, 390, 414, 415, 416, 417, 418, 419, 420] (by decide +kernel)
set_option maxRecDepth 100000 in
theorem narN_in : ∀ w ∈ narN, w ∈ narF := mem_fm [71, 82, 83, 93, 94, 95, 105, 106, 107, 108, 115, 116, 117, 118, 119, 128, 129, 130, 131, 132, 133, 144, 145, 146, 147, 148, 149, 150, 158, 159, 160, 161, 162, 163, 164, 165, 173, 174, 175, 176, 177, 178, 179, 180, 181, 192, 193, 194, 195, 196, 197, 198, 199, 200, 201, 211, 212, 213, 214, 215, 216, 217, 218, 219, 220, 221, 230, 231, 232, 233, 234, 235, 236, 237, 238, 239, 240, 241, 252, 253, 254, 255, 256, 257, 258, 259, 260, 261, 262, 263, 264, 274, 275, 276, 277, 278, 279, 280, 281, 282, 283, 284, 285, 286, 287, 295, 296, 297, 298, 299, 300, 301, 302, 303, 304, 305, 306, 307, 308, 309, 319, 320, 321, 322, 323, 324, 325, 326, 327, 328, 329, 330, 331, 332, 333, 334, 343, 344, 345, 346, 347, 348, 349, 350, 351, 352, 353, 354, 355, 356, 357, 358, 359, 366, 367, 368, 369, 370, 371, 372, 373, 374, 375, 376, 377, 378, 379, 380, 381, 382, 383, 391, 392, 393, 394, 395, 396, 397, 398, 399, 400, 401, 402, 403, 404, 405, 406, 407, 408, 409, 421, 422, 423, 424, 425, 426, 427, 428, 429, 430, 431, 432, 433, 434, 435, 436, 437, 438, 439, 440] (by decide +kernel)
