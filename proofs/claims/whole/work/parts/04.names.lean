def mz_tb : List Cond := lw_tbl.filter goodWord
def T_Ch : u_T := fun k => match k with
  | _ => ("MazeForms$Chance", "state", "J", false)
def ty_Ch : Nat → FieldType := fun k => match k with
  | _ => .long
theorem nm_Ch : ∀ a, a < 1 → ∀ b, b < 1 → a ≠ b → (T_Ch a).2.1 ≠ (T_Ch b).2.1 := by decide +kernel
theorem ty_Ch_ok : ∀ k, k < 1 → parseFieldDescriptor (T_Ch k).2.2.1 = some (ty_Ch k) := by decide +kernel
theorem in_Ch : ∀ w ∈ u_ws "MazeForms$Chance" T_Ch 1, w ∈ mz_tb := by decide +kernel
def T_Dr : u_T := fun k => match k with
  | 0 => ("MazeForms$DoorRow", "chance", "LMazeForms$Chance;", true)
  | 1 => ("MazeForms$DoorRow", "row", "[I", true)
  | _ => ("MazeForms$DoorRow", "count", "I", false)
def ty_Dr : Nat → FieldType := fun k => match k with
  | 0 => .object "MazeForms$Chance"
  | 1 => .array .int
  | _ => .int
theorem nm_Dr : ∀ a, a < 3 → ∀ b, b < 3 → a ≠ b → (T_Dr a).2.1 ≠ (T_Dr b).2.1 := by decide +kernel
theorem ty_Dr_ok : ∀ k, k < 3 → parseFieldDescriptor (T_Dr k).2.2.1 = some (ty_Dr k) := by decide +kernel
theorem in_Dr : ∀ w ∈ u_ws "MazeForms$DoorRow" T_Dr 3, w ∈ mz_tb := by decide +kernel
def T_Fl : u_T := fun k => match k with
  | 0 => ("MazeForms$Flood", "grid", "LMazeForms$Grid;", true)
  | 1 => ("MazeForms$Flood", "steps", "[I", true)
  | 2 => ("MazeForms$Flood", "queue", "[I", true)
  | _ => ("MazeForms$Flood", "queued", "I", false)
def ty_Fl : Nat → FieldType := fun k => match k with
  | 0 => .object "MazeForms$Grid"
  | 1 => .array .int
  | 2 => .array .int
  | _ => .int
theorem nm_Fl : ∀ a, a < 4 → ∀ b, b < 4 → a ≠ b → (T_Fl a).2.1 ≠ (T_Fl b).2.1 := by decide +kernel
theorem ty_Fl_ok : ∀ k, k < 4 → parseFieldDescriptor (T_Fl k).2.2.1 = some (ty_Fl k) := by decide +kernel
theorem in_Fl : ∀ w ∈ u_ws "MazeForms$Flood" T_Fl 4, w ∈ mz_tb := by decide +kernel
def T_Gr : u_T := fun k => match k with
  | 0 => ("MazeForms$Grid", "width", "I", true)
  | 1 => ("MazeForms$Grid", "height", "I", true)
  | 2 => ("MazeForms$Grid", "masked", "[Z", true)
  | 3 => ("MazeForms$Grid", "doorOnSide", "[I", true)
  | 4 => ("MazeForms$Grid", "lesserCell", "[I", true)
  | 5 => ("MazeForms$Grid", "greaterCell", "[I", true)
  | 6 => ("MazeForms$Grid", "doorOpen", "[Z", true)
  | 7 => ("MazeForms$Grid", "doorCount", "I", false)
  | _ => ("MazeForms$Grid", "edition", "I", false)
def ty_Gr : Nat → FieldType := fun k => match k with
  | 0 => .int
  | 1 => .int
  | 2 => .array .boolean
  | 3 => .array .int
  | 4 => .array .int
  | 5 => .array .int
  | 6 => .array .boolean
  | 7 => .int
  | _ => .int
theorem nm_Gr : ∀ a, a < 9 → ∀ b, b < 9 → a ≠ b → (T_Gr a).2.1 ≠ (T_Gr b).2.1 := by decide +kernel
theorem ty_Gr_ok : ∀ k, k < 9 → parseFieldDescriptor (T_Gr k).2.2.1 = some (ty_Gr k) := by decide +kernel
theorem in_Gr : ∀ w ∈ u_ws "MazeForms$Grid" T_Gr 9, w ∈ mz_tb := by decide +kernel
def T_Jo : u_T := fun k => match k with
  | 0 => ("MazeForms$Joined", "grid", "LMazeForms$Grid;", true)
  | _ => ("MazeForms$Joined", "parent", "[I", true)
def ty_Jo : Nat → FieldType := fun k => match k with
  | 0 => .object "MazeForms$Grid"
  | _ => .array .int
theorem nm_Jo : ∀ a, a < 2 → ∀ b, b < 2 → a ≠ b → (T_Jo a).2.1 ≠ (T_Jo b).2.1 := by decide +kernel
theorem ty_Jo_ok : ∀ k, k < 2 → parseFieldDescriptor (T_Jo k).2.2.1 = some (ty_Jo k) := by decide +kernel
theorem in_Jo : ∀ w ∈ u_ws "MazeForms$Joined" T_Jo 2, w ∈ mz_tb := by decide +kernel
def T_Mk : u_T := fun k => match k with
  | 0 => ("MazeForms$Maker", "grid", "LMazeForms$Grid;", true)
  | 1 => ("MazeForms$Maker", "joined", "LMazeForms$Joined;", true)
  | 2 => ("MazeForms$Maker", "flood", "LMazeForms$Flood;", true)
  | 3 => ("MazeForms$Maker", "choice", "LMazeForms$DoorRow;", true)
  | 4 => ("MazeForms$Maker", "reached", "[Z", true)
  | 5 => ("MazeForms$Maker", "trace", "[I", true)
  | _ => ("MazeForms$Maker", "opened", "I", false)
def ty_Mk : Nat → FieldType := fun k => match k with
  | 0 => .object "MazeForms$Grid"
  | 1 => .object "MazeForms$Joined"
  | 2 => .object "MazeForms$Flood"
  | 3 => .object "MazeForms$DoorRow"
  | 4 => .array .boolean
  | 5 => .array .int
  | _ => .int
theorem nm_Mk : ∀ a, a < 7 → ∀ b, b < 7 → a ≠ b → (T_Mk a).2.1 ≠ (T_Mk b).2.1 := by decide +kernel
theorem ty_Mk_ok : ∀ k, k < 7 → parseFieldDescriptor (T_Mk k).2.2.1 = some (ty_Mk k) := by decide +kernel
theorem in_Mk : ∀ w ∈ u_ws "MazeForms$Maker" T_Mk 7, w ∈ mz_tb := by decide +kernel
def T_Tr : u_T := fun k => match k with
  | 0 => ("MazeForms$Trail", "grid", "LMazeForms$Grid;", true)
  | 1 => ("MazeForms$Trail", "flood", "LMazeForms$Flood;", true)
  | 2 => ("MazeForms$Trail", "cells", "[I", true)
  | 3 => ("MazeForms$Trail", "length", "I", false)
  | _ => ("MazeForms$Trail", "edition", "I", false)
def ty_Tr : Nat → FieldType := fun k => match k with
  | 0 => .object "MazeForms$Grid"
  | 1 => .object "MazeForms$Flood"
  | 2 => .array .int
  | 3 => .int
  | _ => .int
theorem nm_Tr : ∀ a, a < 5 → ∀ b, b < 5 → a ≠ b → (T_Tr a).2.1 ≠ (T_Tr b).2.1 := by decide +kernel
theorem ty_Tr_ok : ∀ k, k < 5 → parseFieldDescriptor (T_Tr k).2.2.1 = some (ty_Tr k) := by decide +kernel
theorem in_Tr : ∀ w ∈ u_ws "MazeForms$Trail" T_Tr 5, w ∈ mz_tb := by decide +kernel
def T_Tc : u_T := fun k => match k with
  | 0 => ("MazeForms$TreeCount", "grid", "LMazeForms$Grid;", true)
  | 1 => ("MazeForms$TreeCount", "band", "I", true)
  | 2 => ("MazeForms$TreeCount", "stride", "I", true)
  | 3 => ("MazeForms$TreeCount", "placeOf", "[I", true)
  | 4 => ("MazeForms$TreeCount", "entries", "[J", true)
  | 5 => ("MazeForms$TreeCount", "size", "I", false)
  | _ => ("MazeForms$TreeCount", "prime", "J", false)
def ty_Tc : Nat → FieldType := fun k => match k with
  | 0 => .object "MazeForms$Grid"
  | 1 => .int
  | 2 => .int
  | 3 => .array .int
  | 4 => .array .long
  | 5 => .int
  | _ => .long
theorem nm_Tc : ∀ a, a < 7 → ∀ b, b < 7 → a ≠ b → (T_Tc a).2.1 ≠ (T_Tc b).2.1 := by decide +kernel
theorem ty_Tc_ok : ∀ k, k < 7 → parseFieldDescriptor (T_Tc k).2.2.1 = some (ty_Tc k) := by decide +kernel
theorem in_Tc : ∀ w ∈ u_ws "MazeForms$TreeCount" T_Tc 7, w ∈ mz_tb := by decide +kernel
def T_Mf : u_T := fun k => match k with
  | 0 => ("MazeForms", "grid", "LMazeForms$Grid;", true)
  | 1 => ("MazeForms", "joined", "LMazeForms$Joined;", true)
  | 2 => ("MazeForms", "maker", "LMazeForms$Maker;", true)
  | 3 => ("MazeForms", "trail", "LMazeForms$Trail;", true)
  | _ => ("MazeForms", "treeCount", "LMazeForms$TreeCount;", true)
def ty_Mf : Nat → FieldType := fun k => match k with
  | 0 => .object "MazeForms$Grid"
  | 1 => .object "MazeForms$Joined"
  | 2 => .object "MazeForms$Maker"
  | 3 => .object "MazeForms$Trail"
  | _ => .object "MazeForms$TreeCount"
theorem nm_Mf : ∀ a, a < 5 → ∀ b, b < 5 → a ≠ b → (T_Mf a).2.1 ≠ (T_Mf b).2.1 := by decide +kernel
theorem ty_Mf_ok : ∀ k, k < 5 → parseFieldDescriptor (T_Mf k).2.2.1 = some (ty_Mf k) := by decide +kernel
theorem in_Mf : ∀ w ∈ u_ws "MazeForms" T_Mf 5, w ∈ mz_tb := by decide +kernel
def T_Mo : u_T := fun k => match k with
  | 0 => ("MazeFormsModel", "thrown", "I", false)
  | 1 => ("MazeFormsModel", "width", "I", true)
  | 2 => ("MazeFormsModel", "height", "I", true)
  | 3 => ("MazeFormsModel", "chance", "J", false)
  | 4 => ("MazeFormsModel", "masked", "[Z", true)
  | 5 => ("MazeFormsModel", "doors", "I", false)
  | 6 => ("MazeFormsModel", "first", "[I", true)
  | 7 => ("MazeFormsModel", "second", "[I", true)
  | 8 => ("MazeFormsModel", "isOpen", "[Z", true)
  | 9 => ("MazeFormsModel", "in", "[Z", true)
  | 10 => ("MazeFormsModel", "kept", "[I", true)
  | 11 => ("MazeFormsModel", "came", "[I", true)
  | 12 => ("MazeFormsModel", "colours", "[I", true)
  | 13 => ("MazeFormsModel", "many", "I", false)
  | 14 => ("MazeFormsModel", "choice", "[I", true)
  | 15 => ("MazeFormsModel", "length", "I", false)
  | 16 => ("MazeFormsModel", "path", "[I", true)
  | 17 => ("MazeFormsModel", "far", "[I", true)
  | _ => ("MazeFormsModel", "square", "[J", true)
def ty_Mo : Nat → FieldType := fun k => match k with
  | 0 => .int
  | 1 => .int
  | 2 => .int
  | 3 => .long
  | 4 => .array .boolean
  | 5 => .int
  | 6 => .array .int
  | 7 => .array .int
  | 8 => .array .boolean
  | 9 => .array .boolean
  | 10 => .array .int
  | 11 => .array .int
  | 12 => .array .int
  | 13 => .int
  | 14 => .array .int
  | 15 => .int
  | 16 => .array .int
  | 17 => .array .int
  | _ => .array .long
theorem nm_Mo : ∀ a, a < 19 → ∀ b, b < 19 → a ≠ b → (T_Mo a).2.1 ≠ (T_Mo b).2.1 := by decide +kernel
theorem ty_Mo_ok : ∀ k, k < 19 → parseFieldDescriptor (T_Mo k).2.2.1 = some (ty_Mo k) := by decide +kernel
theorem in_Mo : ∀ w ∈ u_ws "MazeFormsModel" T_Mo 19, w ∈ mz_tb := by decide +kernel
abbrev mz_cls : List vw_C := [("MazeForms$Chance", T_Ch, 1), ("MazeForms$DoorRow", T_Dr, 3), ("MazeForms$Flood", T_Fl, 4), ("MazeForms$Grid", T_Gr, 9), ("MazeForms$Joined", T_Jo, 2), ("MazeForms$Maker", T_Mk, 7), ("MazeForms$Trail", T_Tr, 5), ("MazeForms$TreeCount", T_Tc, 7), ("MazeForms", T_Mf, 5), ("MazeFormsModel", T_Mo, 19)]
theorem mz_good : ∀ w ∈ mz_tb, goodWord w = true := fun w hw => (List.mem_filter.mp hw).2
theorem mz_inC {ws : List Cond} {c : Cond} (h : ∀ w ∈ ws, w ∈ mz_tb) : ∀ w ∈ ws, w ∈ c :: mz_tb := fun w hw => List.mem_cons_of_mem _ (h w hw)
theorem mz_gW {c0 cw : Cond} {ex : List Cond} (hex : ∀ w ∈ ex, w ∈ mz_tb) (h5 : cw ∈ mz_tb) : GoodIn (c0 :: mz_tb) (ex ++ cw :: mz_tb) := by
  intro w hw
  have h : w ∈ mz_tb := by
    rcases List.mem_append.mp hw with h | h
    · exact hex w h
    · rcases List.mem_cons.mp h with rfl | h
      · exact h5
      · exact h
  exact ⟨List.mem_cons_of_mem _ h, good_of_word (mz_good w h)⟩
theorem mz_gV {c0 cw : Cond} {own C : String} {idx : Nat} {y : MethodName} (h1 : Cond.methodLink own idx y ∈ mz_tb) (h2 : Cond.instanceMethod y ∈ mz_tb) (h3 : Cond.selects C y y ∈ mz_tb) (h4 : Cond.initialized C ∈ mz_tb) (h5 : cw ∈ mz_tb) : GoodIn (c0 :: mz_tb) (wsV own idx C y (cw :: mz_tb)) := by
  refine mz_gW (fun w hw => ?_) h5
  simp only [List.mem_cons, List.not_mem_nil, or_false] at hw
  rcases hw with rfl | rfl | rfl | rfl <;> assumption
theorem mz_gS {c0 cw : Cond} {own : String} {idx : Nat} {y : MethodName} (h1 : Cond.methodLink own idx y ∈ mz_tb) (h2 : Cond.static y ∈ mz_tb) (h4 : Cond.initialized own ∈ mz_tb) (h5 : cw ∈ mz_tb) : GoodIn (c0 :: mz_tb) (wsS own idx y (cw :: mz_tb)) := by
  refine mz_gW (fun w hw => ?_) h5
  simp only [List.mem_cons, List.not_mem_nil, or_false] at hw
  rcases hw with rfl | rfl | rfl <;> assumption
theorem mz_All.cons {V : mz_K} {Q : mz_Q} {op : mz_Op} {k : Nat} {r : List (Nat × mz_Op)} (h1 : mz_Sd V Q op k) (h2 : mz_All V Q r) : mz_All V Q ((k, op) :: r) := And.intro h1 h2
def mz_dec (b : ByteArray) (l : List (Nat × ClassFile.Instr × Nat)) : Bool := l.all (fun q => decide (decode b q.1 = .ok q.2))
theorem mz_dg {b : ByteArray} {l : List (Nat × ClassFile.Instr × Nat)} (h : mz_dec b l = true) (i pc : Nat) (ins : ClassFile.Instr) (n : Nat) (hi : l[i]? = some (pc, ins, n)) : decode b pc = .ok (ins, n) := of_decide_eq_true (p := decode b (pc, ins, n).1 = .ok (pc, ins, n).2) (List.all_eq_true.mp h (pc, ins, n) (List.mem_of_getElem? hi))
set_option maxRecDepth 20000 in
theorem wm_67 : (.initialized "MazeForms$Grid" : Cond) ∈ mz_tb := List.mem_filter.mpr ⟨List.mem_of_getElem? (i := 67) rfl, rfl⟩
set_option maxRecDepth 20000 in
theorem wm_116 : (.methodLink "MazeForms$Grid" 86 (⟨"MazeForms$Grid", "isFree", "(I)Z"⟩) : Cond) ∈ mz_tb := List.mem_filter.mpr ⟨List.mem_of_getElem? (i := 116) rfl, rfl⟩
set_option maxRecDepth 20000 in
theorem wm_117 : (.instanceMethod (⟨"MazeForms$Grid", "isFree", "(I)Z"⟩) : Cond) ∈ mz_tb := List.mem_filter.mpr ⟨List.mem_of_getElem? (i := 117) rfl, rfl⟩
set_option maxRecDepth 20000 in
theorem wm_118 : (.selects "MazeForms$Grid" (⟨"MazeForms$Grid", "isFree", "(I)Z"⟩) (⟨"MazeForms$Grid", "isFree", "(I)Z"⟩) : Cond) ∈ mz_tb := List.mem_filter.mpr ⟨List.mem_of_getElem? (i := 118) rfl, rfl⟩
set_option maxRecDepth 20000 in
theorem wm_119 : (.code (⟨"MazeForms$Grid", "isFree", "(I)Z"⟩) prog_5_method_9_code 2 (some .boolean) : Cond) ∈ mz_tb := List.mem_filter.mpr ⟨List.mem_of_getElem? (i := 119) rfl, rfl⟩
set_option maxRecDepth 20000 in
theorem wm_120 : (.methodLink "MazeForms$Grid" 48 (⟨"MazeForms$Grid", "isCell", "(I)Z"⟩) : Cond) ∈ mz_tb := List.mem_filter.mpr ⟨List.mem_of_getElem? (i := 120) rfl, rfl⟩
set_option maxRecDepth 20000 in
theorem wm_121 : (.instanceMethod (⟨"MazeForms$Grid", "isCell", "(I)Z"⟩) : Cond) ∈ mz_tb := List.mem_filter.mpr ⟨List.mem_of_getElem? (i := 121) rfl, rfl⟩
set_option maxRecDepth 20000 in
theorem wm_122 : (.selects "MazeForms$Grid" (⟨"MazeForms$Grid", "isCell", "(I)Z"⟩) (⟨"MazeForms$Grid", "isCell", "(I)Z"⟩) : Cond) ∈ mz_tb := List.mem_filter.mpr ⟨List.mem_of_getElem? (i := 122) rfl, rfl⟩
set_option maxRecDepth 20000 in
theorem wm_123 : (.code (⟨"MazeForms$Grid", "isCell", "(I)Z"⟩) prog_5_method_8_code 2 (some .boolean) : Cond) ∈ mz_tb := List.mem_filter.mpr ⟨List.mem_of_getElem? (i := 123) rfl, rfl⟩
set_option maxRecDepth 20000 in
theorem wm_124 : (.fieldLink "MazeForms$Grid" 15 "MazeForms$Grid" "width" "I" : Cond) ∈ mz_tb := List.mem_filter.mpr ⟨List.mem_of_getElem? (i := 124) rfl, rfl⟩
set_option maxRecDepth 20000 in
theorem wm_125 : (.fieldLink "MazeForms$Grid" 19 "MazeForms$Grid" "height" "I" : Cond) ∈ mz_tb := List.mem_filter.mpr ⟨List.mem_of_getElem? (i := 125) rfl, rfl⟩
set_option maxRecDepth 20000 in
theorem wm_126 : (.fieldLink "MazeForms$Grid" 22 "MazeForms$Grid" "masked" "[Z" : Cond) ∈ mz_tb := List.mem_filter.mpr ⟨List.mem_of_getElem? (i := 126) rfl, rfl⟩
set_option maxRecDepth 20000 in
theorem wm_127 : (.fieldLink "MazeForms$Grid" 26 "MazeForms$Grid" "doorOnSide" "[I" : Cond) ∈ mz_tb := List.mem_filter.mpr ⟨List.mem_of_getElem? (i := 127) rfl, rfl⟩
set_option maxRecDepth 20000 in
theorem wm_128 : (.fieldLink "MazeForms$Grid" 30 "MazeForms$Grid" "lesserCell" "[I" : Cond) ∈ mz_tb := List.mem_filter.mpr ⟨List.mem_of_getElem? (i := 128) rfl, rfl⟩
set_option maxRecDepth 20000 in
theorem wm_129 : (.fieldLink "MazeForms$Grid" 33 "MazeForms$Grid" "greaterCell" "[I" : Cond) ∈ mz_tb := List.mem_filter.mpr ⟨List.mem_of_getElem? (i := 129) rfl, rfl⟩
set_option maxRecDepth 20000 in
theorem wm_130 : (.fieldLink "MazeForms$Grid" 36 "MazeForms$Grid" "doorOpen" "[Z" : Cond) ∈ mz_tb := List.mem_filter.mpr ⟨List.mem_of_getElem? (i := 130) rfl, rfl⟩
set_option maxRecDepth 20000 in
theorem wm_131 : (.fieldLink "MazeForms$Grid" 42 "MazeForms$Grid" "doorCount" "I" : Cond) ∈ mz_tb := List.mem_filter.mpr ⟨List.mem_of_getElem? (i := 131) rfl, rfl⟩
set_option maxRecDepth 20000 in
theorem wm_132 : (.fieldLink "MazeForms$Grid" 45 "MazeForms$Grid" "edition" "I" : Cond) ∈ mz_tb := List.mem_filter.mpr ⟨List.mem_of_getElem? (i := 132) rfl, rfl⟩
set_option maxRecDepth 20000 in
theorem wm_372 : (.instanceMethod (⟨"MazeForms$Grid", "doorOn", "(II)I"⟩) : Cond) ∈ mz_tb := List.mem_filter.mpr ⟨List.mem_of_getElem? (i := 372) rfl, rfl⟩
set_option maxRecDepth 20000 in
theorem wm_373 : (.selects "MazeForms$Grid" (⟨"MazeForms$Grid", "doorOn", "(II)I"⟩) (⟨"MazeForms$Grid", "doorOn", "(II)I"⟩) : Cond) ∈ mz_tb := List.mem_filter.mpr ⟨List.mem_of_getElem? (i := 373) rfl, rfl⟩
set_option maxRecDepth 20000 in
theorem wm_374 : (.code (⟨"MazeForms$Grid", "doorOn", "(II)I"⟩) prog_5_method_15_code 4 (some .int) : Cond) ∈ mz_tb := List.mem_filter.mpr ⟨List.mem_of_getElem? (i := 374) rfl, rfl⟩
set_option maxRecDepth 20000 in
theorem wm_379 : (.methodLink "MazeForms$Grid" 52 (⟨"MazeForms$Grid", "isDoor", "(I)Z"⟩) : Cond) ∈ mz_tb := List.mem_filter.mpr ⟨List.mem_of_getElem? (i := 379) rfl, rfl⟩
set_option maxRecDepth 20000 in
theorem wm_380 : (.instanceMethod (⟨"MazeForms$Grid", "isDoor", "(I)Z"⟩) : Cond) ∈ mz_tb := List.mem_filter.mpr ⟨List.mem_of_getElem? (i := 380) rfl, rfl⟩
set_option maxRecDepth 20000 in
theorem wm_381 : (.selects "MazeForms$Grid" (⟨"MazeForms$Grid", "isDoor", "(I)Z"⟩) (⟨"MazeForms$Grid", "isDoor", "(I)Z"⟩) : Cond) ∈ mz_tb := List.mem_filter.mpr ⟨List.mem_of_getElem? (i := 381) rfl, rfl⟩
set_option maxRecDepth 20000 in
theorem wm_382 : (.code (⟨"MazeForms$Grid", "isDoor", "(I)Z"⟩) prog_5_method_10_code 2 (some .boolean) : Cond) ∈ mz_tb := List.mem_filter.mpr ⟨List.mem_of_getElem? (i := 382) rfl, rfl⟩
set_option maxRecDepth 20000 in
theorem wm_497 : (.instanceMethod (⟨"MazeForms$Grid", "isOpen", "(I)Z"⟩) : Cond) ∈ mz_tb := List.mem_filter.mpr ⟨List.mem_of_getElem? (i := 497) rfl, rfl⟩
set_option maxRecDepth 20000 in
theorem wm_498 : (.selects "MazeForms$Grid" (⟨"MazeForms$Grid", "isOpen", "(I)Z"⟩) (⟨"MazeForms$Grid", "isOpen", "(I)Z"⟩) : Cond) ∈ mz_tb := List.mem_filter.mpr ⟨List.mem_of_getElem? (i := 498) rfl, rfl⟩
set_option maxRecDepth 20000 in
theorem wm_499 : (.code (⟨"MazeForms$Grid", "isOpen", "(I)Z"⟩) prog_5_method_11_code 2 (some .boolean) : Cond) ∈ mz_tb := List.mem_filter.mpr ⟨List.mem_of_getElem? (i := 499) rfl, rfl⟩
set_option maxRecDepth 20000 in
theorem wm_588 : (.methodLink "MazeForms$Grid" 58 (⟨"MazeForms$Grid", "doorOn", "(II)I"⟩) : Cond) ∈ mz_tb := List.mem_filter.mpr ⟨List.mem_of_getElem? (i := 588) rfl, rfl⟩
set_option maxRecDepth 20000 in
theorem wm_589 : (.methodLink "MazeForms$Grid" 55 (⟨"MazeForms$Grid", "isOpen", "(I)Z"⟩) : Cond) ∈ mz_tb := List.mem_filter.mpr ⟨List.mem_of_getElem? (i := 589) rfl, rfl⟩
def y_Gr_width : MethodName := ⟨"MazeForms$Grid", "width", "()I"⟩
abbrev w_Gr_width : List Cond := .code y_Gr_width prog_5_method_2_code 1 (some .int) :: mz_tb
def dl_Gr_width : List (Nat × ClassFile.Instr × Nat) := [(0, .aload_n 0, 1), (1, .getfield 15, 3), (4, .ireturn, 1)]
theorem d_Gr_width : mz_dec prog_5_method_2_code dl_Gr_width = true := by decide +kernel
def y_Gr_cellCount : MethodName := ⟨"MazeForms$Grid", "cellCount", "()I"⟩
abbrev w_Gr_cellCount : List Cond := .code y_Gr_cellCount prog_5_method_3_code 1 (some .int) :: mz_tb
def dl_Gr_cellCount : List (Nat × ClassFile.Instr × Nat) := [(0, .aload_n 0, 1), (1, .getfield 22, 3), (4, .arraylength, 1), (5, .ireturn, 1)]
theorem d_Gr_cellCount : mz_dec prog_5_method_3_code dl_Gr_cellCount = true := by decide +kernel
def y_Gr_mostDoors : MethodName := ⟨"MazeForms$Grid", "mostDoors", "()I"⟩
abbrev w_Gr_mostDoors : List Cond := .code y_Gr_mostDoors prog_5_method_4_code 1 (some .int) :: mz_tb
def dl_Gr_mostDoors : List (Nat × ClassFile.Instr × Nat) := [(0, .aload_n 0, 1), (1, .getfield 36, 3), (4, .arraylength, 1), (5, .ireturn, 1)]
theorem d_Gr_mostDoors : mz_dec prog_5_method_4_code dl_Gr_mostDoors = true := by decide +kernel
def y_Gr_doorCount : MethodName := ⟨"MazeForms$Grid", "doorCount", "()I"⟩
abbrev w_Gr_doorCount : List Cond := .code y_Gr_doorCount prog_5_method_5_code 1 (some .int) :: mz_tb
def dl_Gr_doorCount : List (Nat × ClassFile.Instr × Nat) := [(0, .aload_n 0, 1), (1, .getfield 42, 3), (4, .ireturn, 1)]
theorem d_Gr_doorCount : mz_dec prog_5_method_5_code dl_Gr_doorCount = true := by decide +kernel
def y_Gr_edition : MethodName := ⟨"MazeForms$Grid", "edition", "()I"⟩
abbrev w_Gr_edition : List Cond := .code y_Gr_edition prog_5_method_6_code 1 (some .int) :: mz_tb
def dl_Gr_edition : List (Nat × ClassFile.Instr × Nat) := [(0, .aload_n 0, 1), (1, .getfield 45, 3), (4, .ireturn, 1)]
theorem d_Gr_edition : mz_dec prog_5_method_6_code dl_Gr_edition = true := by decide +kernel
def y_Gr_isCell : MethodName := ⟨"MazeForms$Grid", "isCell", "(I)Z"⟩
abbrev w_Gr_isCell : List Cond := .code y_Gr_isCell prog_5_method_8_code 2 (some .boolean) :: mz_tb
def dl_Gr_isCell : List (Nat × ClassFile.Instr × Nat) := [(0, .iload_n 1, 1), (1, .ifCond .lt (16), 3), (4, .iload_n 1, 1), (5, .aload_n 0, 1), (6, .getfield 22, 3), (9, .arraylength, 1), (10, .if_icmp .ge (7), 3), (13, .iconst (1), 1), (14, .goto (4), 3), (17, .iconst (0), 1), (18, .ireturn, 1)]
theorem d_Gr_isCell : mz_dec prog_5_method_8_code dl_Gr_isCell = true := by decide +kernel
def y_Gr_isFree : MethodName := ⟨"MazeForms$Grid", "isFree", "(I)Z"⟩
abbrev w_Gr_isFree : List Cond := .code y_Gr_isFree prog_5_method_9_code 2 (some .boolean) :: mz_tb
def dl_Gr_isFree : List (Nat × ClassFile.Instr × Nat) := [(0, .aload_n 0, 1), (1, .iload_n 1, 1), (2, .invokevirtual 48, 3), (5, .ifCond .eq (16), 3), (8, .aload_n 0, 1), (9, .getfield 22, 3), (12, .iload_n 1, 1), (13, .baload, 1), (14, .ifCond .ne (7), 3), (17, .iconst (1), 1), (18, .goto (4), 3), (21, .iconst (0), 1), (22, .ireturn, 1)]
theorem d_Gr_isFree : mz_dec prog_5_method_9_code dl_Gr_isFree = true := by decide +kernel
def y_Gr_isDoor : MethodName := ⟨"MazeForms$Grid", "isDoor", "(I)Z"⟩
abbrev w_Gr_isDoor : List Cond := .code y_Gr_isDoor prog_5_method_10_code 2 (some .boolean) :: mz_tb
def dl_Gr_isDoor : List (Nat × ClassFile.Instr × Nat) := [(0, .iload_n 1, 1), (1, .ifCond .lt (24), 3), (4, .iload_n 1, 1), (5, .aload_n 0, 1), (6, .getfield 42, 3), (9, .if_icmp .ge (16), 3), (12, .iload_n 1, 1), (13, .aload_n 0, 1), (14, .getfield 36, 3), (17, .arraylength, 1), (18, .if_icmp .ge (7), 3), (21, .iconst (1), 1), (22, .goto (4), 3), (25, .iconst (0), 1), (26, .ireturn, 1)]
theorem d_Gr_isDoor : mz_dec prog_5_method_10_code dl_Gr_isDoor = true := by decide +kernel
def y_Gr_isOpen : MethodName := ⟨"MazeForms$Grid", "isOpen", "(I)Z"⟩
abbrev w_Gr_isOpen : List Cond := .code y_Gr_isOpen prog_5_method_11_code 2 (some .boolean) :: mz_tb
def dl_Gr_isOpen : List (Nat × ClassFile.Instr × Nat) := [(0, .aload_n 0, 1), (1, .iload_n 1, 1), (2, .invokevirtual 52, 3), (5, .ifCond .eq (16), 3), (8, .aload_n 0, 1), (9, .getfield 36, 3), (12, .iload_n 1, 1), (13, .baload, 1), (14, .ifCond .eq (7), 3), (17, .iconst (1), 1), (18, .goto (4), 3), (21, .iconst (0), 1), (22, .ireturn, 1)]
theorem d_Gr_isOpen : mz_dec prog_5_method_11_code dl_Gr_isOpen = true := by decide +kernel
def y_Gr_lesserCell : MethodName := ⟨"MazeForms$Grid", "lesserCell", "(I)I"⟩
abbrev w_Gr_lesserCell : List Cond := .code y_Gr_lesserCell prog_5_method_17_code 2 (some .int) :: mz_tb
def dl_Gr_lesserCell : List (Nat × ClassFile.Instr × Nat) := [(0, .aload_n 0, 1), (1, .iload_n 1, 1), (2, .invokevirtual 52, 3), (5, .ifCond .eq (12), 3), (8, .aload_n 0, 1), (9, .getfield 30, 3), (12, .iload_n 1, 1), (13, .iaload, 1), (14, .goto (4), 3), (17, .iconst (-1), 1), (18, .ireturn, 1)]
theorem d_Gr_lesserCell : mz_dec prog_5_method_17_code dl_Gr_lesserCell = true := by decide +kernel
def y_Gr_greaterCell : MethodName := ⟨"MazeForms$Grid", "greaterCell", "(I)I"⟩
abbrev w_Gr_greaterCell : List Cond := .code y_Gr_greaterCell prog_5_method_18_code 2 (some .int) :: mz_tb
def dl_Gr_greaterCell : List (Nat × ClassFile.Instr × Nat) := [(0, .aload_n 0, 1), (1, .iload_n 1, 1), (2, .invokevirtual 52, 3), (5, .ifCond .eq (12), 3), (8, .aload_n 0, 1), (9, .getfield 33, 3), (12, .iload_n 1, 1), (13, .iaload, 1), (14, .goto (4), 3), (17, .iconst (-1), 1), (18, .ireturn, 1)]
theorem d_Gr_greaterCell : mz_dec prog_5_method_18_code dl_Gr_greaterCell = true := by decide +kernel
def y_Gr_cellAt : MethodName := ⟨"MazeForms$Grid", "cellAt", "(II)I"⟩
abbrev w_Gr_cellAt : List Cond := .code y_Gr_cellAt prog_5_method_7_code 4 (some .int) :: mz_tb
def dl_Gr_cellAt : List (Nat × ClassFile.Instr × Nat) := [(0, .iload_n 1, 1), (1, .ifCond .lt (27), 3), (4, .iload_n 1, 1), (5, .aload_n 0, 1), (6, .getfield 15, 3), (9, .if_icmp .ge (19), 3), (12, .iload_n 2, 1), (13, .ifCond .lt (15), 3), (16, .iload_n 2, 1), (17, .aload_n 0, 1), (18, .getfield 19, 3), (21, .if_icmp .ge (7), 3), (24, .iconst (1), 1), (25, .goto (4), 3), (28, .iconst (0), 1), (29, .istore_n 3, 1), (30, .iload_n 3, 1), (31, .ifCond .eq (14), 3), (34, .iload_n 1, 1), (35, .aload_n 0, 1), (36, .getfield 15, 3), (39, .iload_n 2, 1), (40, .imul, 1), (41, .iadd, 1), (42, .goto (4), 3), (45, .iconst (-1), 1), (46, .ireturn, 1)]
theorem d_Gr_cellAt : mz_dec prog_5_method_7_code dl_Gr_cellAt = true := by decide +kernel
def y_Gr_doorOn : MethodName := ⟨"MazeForms$Grid", "doorOn", "(II)I"⟩
abbrev w_Gr_doorOn : List Cond := .code y_Gr_doorOn prog_5_method_15_code 4 (some .int) :: mz_tb
def dl_Gr_doorOn : List (Nat × ClassFile.Instr × Nat) := [(0, .aload_n 0, 1), (1, .iload_n 1, 1), (2, .invokevirtual 48, 3), (5, .ifCond .eq (16), 3), (8, .iload_n 2, 1), (9, .ifCond .lt (12), 3), (12, .iload_n 2, 1), (13, .iconst (4), 1), (14, .if_icmp .ge (7), 3), (17, .iconst (1), 1), (18, .goto (4), 3), (21, .iconst (0), 1), (22, .istore_n 3, 1), (23, .iload_n 3, 1), (24, .ifCond .eq (16), 3), (27, .aload_n 0, 1), (28, .getfield 26, 3), (31, .iconst (4), 1), (32, .iload_n 1, 1), (33, .imul, 1), (34, .iload_n 2, 1), (35, .iadd, 1), (36, .iaload, 1), (37, .goto (4), 3), (40, .iconst (-1), 1), (41, .ireturn, 1)]
theorem d_Gr_doorOn : mz_dec prog_5_method_15_code dl_Gr_doorOn = true := by decide +kernel
def y_Gr_otherCell : MethodName := ⟨"MazeForms$Grid", "otherCell", "(II)I"⟩
abbrev w_Gr_otherCell : List Cond := .code y_Gr_otherCell prog_5_method_19_code 3 (some .int) :: mz_tb
def dl_Gr_otherCell : List (Nat × ClassFile.Instr × Nat) := [(0, .aload_n 0, 1), (1, .iload_n 1, 1), (2, .invokevirtual 52, 3), (5, .ifCond .ne (5), 3), (8, .iconst (-1), 1), (9, .ireturn, 1), (10, .aload_n 0, 1), (11, .getfield 30, 3), (14, .iload_n 1, 1), (15, .iaload, 1), (16, .iload_n 2, 1), (17, .if_icmp .ne (12), 3), (20, .aload_n 0, 1), (21, .getfield 33, 3), (24, .iload_n 1, 1), (25, .iaload, 1), (26, .goto (9), 3), (29, .aload_n 0, 1), (30, .getfield 30, 3), (33, .iload_n 1, 1), (34, .iaload, 1), (35, .ireturn, 1)]
theorem d_Gr_otherCell : mz_dec prog_5_method_19_code dl_Gr_otherCell = true := by decide +kernel
def y_Gr_freeCells : MethodName := ⟨"MazeForms$Grid", "freeCells", "()I"⟩
abbrev w_Gr_freeCells : List Cond := .code y_Gr_freeCells prog_5_method_12_code 3 (some .int) :: mz_tb
def dl_Gr_freeCells : List (Nat × ClassFile.Instr × Nat) := [(0, .iconst (0), 1), (1, .istore_n 1, 1), (2, .iconst (0), 1), (3, .istore_n 2, 1), (4, .iload_n 2, 1), (5, .aload_n 0, 1), (6, .getfield 22, 3), (9, .arraylength, 1), (10, .if_icmp .ge (21), 3), (13, .aload_n 0, 1), (14, .getfield 22, 3), (17, .iload_n 2, 1), (18, .baload, 1), (19, .ifCond .ne (6), 3), (22, .iinc 1 (1), 3), (25, .iinc 2 (1), 3), (28, .goto (-24), 3), (31, .iload_n 1, 1), (32, .ireturn, 1)]
theorem d_Gr_freeCells : mz_dec prog_5_method_12_code dl_Gr_freeCells = true := by decide +kernel
def y_Gr_firstCell : MethodName := ⟨"MazeForms$Grid", "firstCell", "()I"⟩
abbrev w_Gr_firstCell : List Cond := .code y_Gr_firstCell prog_5_method_13_code 2 (some .int) :: mz_tb
def dl_Gr_firstCell : List (Nat × ClassFile.Instr × Nat) := [(0, .iconst (0), 1), (1, .istore_n 1, 1), (2, .iload_n 1, 1), (3, .aload_n 0, 1), (4, .getfield 22, 3), (7, .arraylength, 1), (8, .if_icmp .ge (20), 3), (11, .aload_n 0, 1), (12, .getfield 22, 3), (15, .iload_n 1, 1), (16, .baload, 1), (17, .ifCond .ne (5), 3), (20, .iload_n 1, 1), (21, .ireturn, 1), (22, .iinc 1 (1), 3), (25, .goto (-23), 3), (28, .iconst (-1), 1), (29, .ireturn, 1)]
theorem d_Gr_firstCell : mz_dec prog_5_method_13_code dl_Gr_firstCell = true := by decide +kernel
def y_Gr_openDoors : MethodName := ⟨"MazeForms$Grid", "openDoors", "()I"⟩
abbrev w_Gr_openDoors : List Cond := .code y_Gr_openDoors prog_5_method_14_code 3 (some .int) :: mz_tb
def dl_Gr_openDoors : List (Nat × ClassFile.Instr × Nat) := [(0, .iconst (0), 1), (1, .istore_n 1, 1), (2, .iconst (0), 1), (3, .istore_n 2, 1), (4, .iload_n 2, 1), (5, .aload_n 0, 1), (6, .getfield 42, 3), (9, .if_icmp .ge (20), 3), (12, .aload_n 0, 1), (13, .iload_n 2, 1), (14, .invokevirtual 55, 3), (17, .ifCond .eq (6), 3), (20, .iinc 1 (1), 3), (23, .iinc 2 (1), 3), (26, .goto (-22), 3), (29, .iload_n 1, 1), (30, .ireturn, 1)]
theorem d_Gr_openDoors : mz_dec prog_5_method_14_code dl_Gr_openDoors = true := by decide +kernel
def y_Gr_openSides : MethodName := ⟨"MazeForms$Grid", "openSides", "(I)I"⟩
abbrev w_Gr_openSides : List Cond := .code y_Gr_openSides prog_5_method_16_code 4 (some .int) :: mz_tb
def dl_Gr_openSides : List (Nat × ClassFile.Instr × Nat) := [(0, .iconst (0), 1), (1, .istore_n 2, 1), (2, .iconst (0), 1), (3, .istore_n 3, 1), (4, .iload_n 3, 1), (5, .iconst (4), 1), (6, .if_icmp .ge (25), 3), (9, .aload_n 0, 1), (10, .aload_n 0, 1), (11, .iload_n 1, 1), (12, .iload_n 3, 1), (13, .invokevirtual 58, 3), (16, .invokevirtual 55, 3), (19, .ifCond .eq (6), 3), (22, .iinc 2 (1), 3), (25, .iinc 3 (1), 3), (28, .goto (-24), 3), (31, .iload_n 2, 1), (32, .ireturn, 1)]
theorem d_Gr_openSides : mz_dec prog_5_method_16_code dl_Gr_openSides = true := by decide +kernel
def y_Gr_setDoor : MethodName := ⟨"MazeForms$Grid", "setDoor", "(IZ)Z"⟩
abbrev w_Gr_setDoor : List Cond := .code y_Gr_setDoor prog_5_method_20_code 3 (some .boolean) :: mz_tb
def dl_Gr_setDoor : List (Nat × ClassFile.Instr × Nat) := [(0, .aload_n 0, 1), (1, .iload_n 1, 1), (2, .invokevirtual 52, 3), (5, .ifCond .eq (13), 3), (8, .aload_n 0, 1), (9, .getfield 36, 3), (12, .iload_n 1, 1), (13, .baload, 1), (14, .iload_n 2, 1), (15, .if_icmp .ne (5), 3), (18, .iconst (0), 1), (19, .ireturn, 1), (20, .aload_n 0, 1), (21, .getfield 36, 3), (24, .iload_n 1, 1), (25, .iload_n 2, 1), (26, .bastore, 1), (27, .aload_n 0, 1), (28, .dup, 1), (29, .getfield 45, 3), (32, .iconst (1), 1), (33, .iadd, 1), (34, .putfield 45, 3), (37, .iconst (1), 1), (38, .ireturn, 1)]
theorem d_Gr_setDoor : mz_dec prog_5_method_20_code dl_Gr_setDoor = true := by decide +kernel
def y_Gr_closeDoors : MethodName := ⟨"MazeForms$Grid", "closeDoors", "()V"⟩
abbrev w_Gr_closeDoors : List Cond := .code y_Gr_closeDoors prog_5_method_22_code 2 none :: mz_tb
def dl_Gr_closeDoors : List (Nat × ClassFile.Instr × Nat) := [(0, .iconst (0), 1), (1, .istore_n 1, 1), (2, .iload_n 1, 1), (3, .aload_n 0, 1), (4, .getfield 36, 3), (7, .arraylength, 1), (8, .if_icmp .ge (16), 3), (11, .aload_n 0, 1), (12, .getfield 36, 3), (15, .iload_n 1, 1), (16, .iconst (0), 1), (17, .bastore, 1), (18, .iinc 1 (1), 3), (21, .goto (-19), 3), (24, .aload_n 0, 1), (25, .dup, 1), (26, .getfield 45, 3), (29, .iconst (1), 1), (30, .iadd, 1), (31, .putfield 45, 3), (34, .return_, 1)]
theorem d_Gr_closeDoors : mz_dec prog_5_method_22_code dl_Gr_closeDoors = true := by decide +kernel
def y_Gr_addDoor : MethodName := ⟨"MazeForms$Grid", "addDoor", "(IIII)V"⟩
abbrev w_Gr_addDoor : List Cond := .code y_Gr_addDoor prog_5_method_25_code 5 none :: mz_tb
def dl_Gr_addDoor : List (Nat × ClassFile.Instr × Nat) := [(0, .aload_n 0, 1), (1, .iload_n 1, 1), (2, .invokevirtual 86, 3), (5, .ifCond .eq (23), 3), (8, .aload_n 0, 1), (9, .iload_n 3, 1), (10, .invokevirtual 86, 3), (13, .ifCond .eq (15), 3), (16, .aload_n 0, 1), (17, .getfield 42, 3), (20, .aload_n 0, 1), (21, .getfield 36, 3), (24, .arraylength, 1), (25, .if_icmp .lt (4), 3), (28, .return_, 1), (29, .aload_n 0, 1), (30, .getfield 30, 3), (33, .aload_n 0, 1), (34, .getfield 42, 3), (37, .iload_n 1, 1), (38, .iastore, 1), (39, .aload_n 0, 1), (40, .getfield 33, 3), (43, .aload_n 0, 1), (44, .getfield 42, 3), (47, .iload_n 3, 1), (48, .iastore, 1), (49, .aload_n 0, 1), (50, .getfield 26, 3), (53, .iconst (4), 1), (54, .iload_n 1, 1), (55, .imul, 1), (56, .iload_n 2, 1), (57, .iadd, 1), (58, .aload_n 0, 1), (59, .getfield 42, 3), (62, .iastore, 1), (63, .aload_n 0, 1), (64, .getfield 26, 3), (67, .iconst (4), 1), (68, .iload_n 3, 1), (69, .imul, 1), (70, .iload 4, 2), (72, .iadd, 1), (73, .aload_n 0, 1), (74, .getfield 42, 3), (77, .iastore, 1), (78, .aload_n 0, 1), (79, .dup, 1), (80, .getfield 42, 3), (83, .iconst (1), 1), (84, .iadd, 1), (85, .putfield 42, 3), (88, .return_, 1)]
theorem d_Gr_addDoor : mz_dec prog_5_method_25_code dl_Gr_addDoor = true := by decide +kernel
