def mz_tb : List Cond := lw_tbl.filter goodWord
def T_Ch : u_T := fun k => match k with
  | _ => ("MazeForms$Chance", "state", "J", false)
def ty_Ch : Nat → FieldType := fun k => match k with
  | _ => .long
theorem nm_Ch : ∀ a, a < 1 → ∀ b, b < 1 → a ≠ b → (T_Ch a).2.1 ≠ (T_Ch b).2.1 := by decide +kernel
theorem ty_Ch_ok : ∀ k, k < 1 → parseFieldDescriptor (T_Ch k).2.2.1 = some (ty_Ch k) := by decide +kernel
theorem in_Ch : ∀ w ∈ u_ws "MazeForms$Chance" T_Ch 1, w ∈ mz_tb := by decide +kernel
def T_Dr : u_T := fun k => match k with
  | 0 => ("MazeForms$DoorRow", "chance", "LMazeForms$Chance;", true)
  | 1 => ("MazeForms$DoorRow", "row", "[I", true)
  | _ => ("MazeForms$DoorRow", "count", "I", false)
def ty_Dr : Nat → FieldType := fun k => match k with
  | 0 => .object "MazeForms$Chance"
  | 1 => .array .int
  | _ => .int
theorem nm_Dr : ∀ a, a < 3 → ∀ b, b < 3 → a ≠ b → (T_Dr a).2.1 ≠ (T_Dr b).2.1 := by decide +kernel
theorem ty_Dr_ok : ∀ k, k < 3 → parseFieldDescriptor (T_Dr k).2.2.1 = some (ty_Dr k) := by decide +kernel
theorem in_Dr : ∀ w ∈ u_ws "MazeForms$DoorRow" T_Dr 3, w ∈ mz_tb := by decide +kernel
def T_Fl : u_T := fun k => match k with
  | 0 => ("MazeForms$Flood", "grid", "LMazeForms$Grid;", true)
  | 1 => ("MazeForms$Flood", "steps", "[I", true)
  | 2 => ("MazeForms$Flood", "queue", "[I", true)
  | _ => ("MazeForms$Flood", "queued", "I", false)
def ty_Fl : Nat → FieldType := fun k => match k with
  | 0 => .object "MazeForms$Grid"
  | 1 => .array .int
  | 2 => .array .int
  | _ => .int
theorem nm_Fl : ∀ a, a < 4 → ∀ b, b < 4 → a ≠ b → (T_Fl a).2.1 ≠ (T_Fl b).2.1 := by decide +kernel
theorem ty_Fl_ok : ∀ k, k < 4 → parseFieldDescriptor (T_Fl k).2.2.1 = some (ty_Fl k) := by decide +kernel
theorem in_Fl : ∀ w ∈ u_ws "MazeForms$Flood" T_Fl 4, w ∈ mz_tb := by decide +kernel
def T_Gr : u_T := fun k => match k with
  | 0 => ("MazeForms$Grid", "width", "I", true)
  | 1 => ("MazeForms$Grid", "height", "I", true)
  | 2 => ("MazeForms$Grid", "masked", "[Z", true)
  | 3 => ("MazeForms$Grid", "doorOnSide", "[I", true)
  | 4 => ("MazeForms$Grid", "lesserCell", "[I", true)
  | 5 => ("MazeForms$Grid", "greaterCell", "[I", true)
  | 6 => ("MazeForms$Grid", "doorOpen", "[Z", true)
  | 7 => ("MazeForms$Grid", "doorCount", "I", false)
  | _ => ("MazeForms$Grid", "edition", "I", false)
def ty_Gr : Nat → FieldType := fun k => match k with
  | 0 => .int
  | 1 => .int
  | 2 => .array .boolean
  | 3 => .array .int
  | 4 => .array .int
  | 5 => .array .int
  | 6 => .array .boolean
  | 7 => .int
  | _ => .int
theorem nm_Gr : ∀ a, a < 9 → ∀ b, b < 9 → a ≠ b → (T_Gr a).2.1 ≠ (T_Gr b).2.1 := by decide +kernel
theorem ty_Gr_ok : ∀ k, k < 9 → parseFieldDescriptor (T_Gr k).2.2.1 = some (ty_Gr k) := by decide +kernel
theorem in_Gr : ∀ w ∈ u_ws "MazeForms$Grid" T_Gr 9, w ∈ mz_tb := by decide +kernel
def T_Jo : u_T := fun k => match k with
  | 0 => ("MazeForms$Joined", "grid", "LMazeForms$Grid;", true)
  | _ => ("MazeForms$Joined", "parent", "[I", true)
def ty_Jo : Nat → FieldType := fun k => match k with
  | 0 => .object "MazeForms$Grid"
  | _ => .array .int
theorem nm_Jo : ∀ a, a < 2 → ∀ b, b < 2 → a ≠ b → (T_Jo a).2.1 ≠ (T_Jo b).2.1 := by decide +kernel
theorem ty_Jo_ok : ∀ k, k < 2 → parseFieldDescriptor (T_Jo k).2.2.1 = some (ty_Jo k) := by decide +kernel
theorem in_Jo : ∀ w ∈ u_ws "MazeForms$Joined" T_Jo 2, w ∈ mz_tb := by decide +kernel
def T_Mk : u_T := fun k => match k with
  | 0 => ("MazeForms$Maker", "grid", "LMazeForms$Grid;", true)
  | 1 => ("MazeForms$Maker", "joined", "LMazeForms$Joined;", true)
  | 2 => ("MazeForms$Maker", "flood", "LMazeForms$Flood;", true)
  | 3 => ("MazeForms$Maker", "choice", "LMazeForms$DoorRow;", true)
  | 4 => ("MazeForms$Maker", "reached", "[Z", true)
  | 5 => ("MazeForms$Maker", "trace", "[I", true)
  | _ => ("MazeForms$Maker", "opened", "I", false)
def ty_Mk : Nat → FieldType := fun k => match k with
  | 0 => .object "MazeForms$Grid"
  | 1 => .object "MazeForms$Joined"
  | 2 => .object "MazeForms$Flood"
  | 3 => .object "MazeForms$DoorRow"
  | 4 => .array .boolean
  | 5 => .array .int
  | _ => .int
theorem nm_Mk : ∀ a, a < 7 → ∀ b, b < 7 → a ≠ b → (T_Mk a).2.1 ≠ (T_Mk b).2.1 := by decide +kernel
theorem ty_Mk_ok : ∀ k, k < 7 → parseFieldDescriptor (T_Mk k).2.2.1 = some (ty_Mk k) := by decide +kernel
theorem in_Mk : ∀ w ∈ u_ws "MazeForms$Maker" T_Mk 7, w ∈ mz_tb := by decide +kernel
def T_Tr : u_T := fun k => match k with
  | 0 => ("MazeForms$Trail", "grid", "LMazeForms$Grid;", true)
  | 1 => ("MazeForms$Trail", "flood", "LMazeForms$Flood;", true)
  | 2 => ("MazeForms$Trail", "cells", "[I", true)
  | 3 => ("MazeForms$Trail", "length", "I", false)
  | _ => ("MazeForms$Trail", "edition", "I", false)
def ty_Tr : Nat → FieldType := fun k => match k with
  | 0 => .object "MazeForms$Grid"
  | 1 => .object "MazeForms$Flood"
  | 2 => .array .int
  | 3 => .int
  | _ => .int
theorem nm_Tr : ∀ a, a < 5 → ∀ b, b < 5 → a ≠ b → (T_Tr a).2.1 ≠ (T_Tr b).2.1 := by decide +kernel
theorem ty_Tr_ok : ∀ k, k < 5 → parseFieldDescriptor (T_Tr k).2.2.1 = some (ty_Tr k) := by decide +kernel
theorem in_Tr : ∀ w ∈ u_ws "MazeForms$Trail" T_Tr 5, w ∈ mz_tb := by decide +kernel
def T_Tc : u_T := fun k => match k with
  | 0 => ("MazeForms$TreeCount", "grid", "LMazeForms$Grid;", true)
  | 1 => ("MazeForms$TreeCount", "band", "I", true)
  | 2 => ("MazeForms$TreeCount", "stride", "I", true)
  | 3 => ("MazeForms$TreeCount", "placeOf", "[I", true)
  | 4 => ("MazeForms$TreeCount", "entries", "[J", true)
  | 5 => ("MazeForms$TreeCount", "size", "I", false)
  | _ => ("MazeForms$TreeCount", "prime", "J", false)
def ty_Tc : Nat → FieldType := fun k => match k with
  | 0 => .object "MazeForms$Grid"
  | 1 => .int
  | 2 => .int
  | 3 => .array .int
  | 4 => .array .long
  | 5 => .int
  | _ => .long
theorem nm_Tc : ∀ a, a < 7 → ∀ b, b < 7 → a ≠ b → (T_Tc a).2.1 ≠ (T_Tc b).2.1 := by decide +kernel
theorem ty_Tc_ok : ∀ k, k < 7 → parseFieldDescriptor (T_Tc k).2.2.1 = some (ty_Tc k) := by decide +kernel
theorem in_Tc : ∀ w ∈ u_ws "MazeForms$TreeCount" T_Tc 7, w ∈ mz_tb := by decide +kernel
def T_Mf : u_T := fun k => match k with
  | 0 => ("MazeForms", "grid", "LMazeForms$Grid;", true)
  | 1 => ("MazeForms", "joined", "LMazeForms$Joined;", true)
  | 2 => ("MazeForms", "maker", "LMazeForms$Maker;", true)
  | 3 => ("MazeForms", "trail", "LMazeForms$Trail;", true)
  | _ => ("MazeForms", "treeCount", "LMazeForms$TreeCount;", true)
def ty_Mf : Nat → FieldType := fun k => match k with
  | 0 => .object "MazeForms$Grid"
  | 1 => .object "MazeForms$Joined"
  | 2 => .object "MazeForms$Maker"
  | 3 => .object "MazeForms$Trail"
  | _ => .object "MazeForms$TreeCount"
theorem nm_Mf : ∀ a, a < 5 → ∀ b, b < 5 → a ≠ b → (T_Mf a).2.1 ≠ (T_Mf b).2.1 := by decide +kernel
theorem ty_Mf_ok : ∀ k, k < 5 → parseFieldDescriptor (T_Mf k).2.2.1 = some (ty_Mf k) := by decide +kernel
theorem in_Mf : ∀ w ∈ u_ws "MazeForms" T_Mf 5, w ∈ mz_tb := by decide +kernel
def T_Mo : u_T := fun k => match k with
  | 0 => ("MazeFormsModel", "thrown", "I", false)
  | 1 => ("MazeFormsModel", "width", "I", true)
  | 2 => ("MazeFormsModel", "height", "I", true)
  | 3 => ("MazeFormsModel", "chance", "J", false)
  | 4 => ("MazeFormsModel", "masked", "[Z", true)
  | 5 => ("MazeFormsModel", "doors", "I", false)
  | 6 => ("MazeFormsModel", "first", "[I", true)
  | 7 => ("MazeFormsModel", "second", "[I", true)
  | 8 => ("MazeFormsModel", "isOpen", "[Z", true)
  | 9 => ("MazeFormsModel", "in", "[Z", true)
  | 10 => ("MazeFormsModel", "kept", "[I", true)
  | 11 => ("MazeFormsModel", "came", "[I", true)
  | 12 => ("MazeFormsModel", "colours", "[I", true)
  | 13 => ("MazeFormsModel", "many", "I", false)
  | 14 => ("MazeFormsModel", "choice", "[I", true)
  | 15 => ("MazeFormsModel", "length", "I", false)
  | 16 => ("MazeFormsModel", "path", "[I", true)
  | 17 => ("MazeFormsModel", "far", "[I", true)
  | _ => ("MazeFormsModel", "square", "[J", true)
def ty_Mo : Nat → FieldType := fun k => match k with
  | 0 => .int
  | 1 => .int
  | 2 => .int
  | 3 => .long
  | 4 => .array .boolean
  | 5 => .int
  | 6 => .array .int
  | 7 => .array .int
  | 8 => .array .boolean
  | 9 => .array .boolean
  | 10 => .array .int
  | 11 => .array .int
  | 12 => .array .int
  | 13 => .int
  | 14 => .array .int
  | 15 => .int
  | 16 => .array .int
  | 17 => .array .int
  | _ => .array .long
theorem nm_Mo : ∀ a, a < 19 → ∀ b, b < 19 → a ≠ b → (T_Mo a).2.1 ≠ (T_Mo b).2.1 := by decide +kernel
theorem ty_Mo_ok : ∀ k, k < 19 → parseFieldDescriptor (T_Mo k).2.2.1 = some (ty_Mo k) := by decide +kernel
theorem in_Mo : ∀ w ∈ u_ws "MazeFormsModel" T_Mo 19, w ∈ mz_tb := by decide +kernel
abbrev mz_cls : List vw_C := [("MazeForms$Chance", T_Ch, 1), ("MazeForms$DoorRow", T_Dr, 3), ("MazeForms$Flood", T_Fl, 4), ("MazeForms$Grid", T_Gr, 9), ("MazeForms$Joined", T_Jo, 2), ("MazeForms$Maker", T_Mk, 7), ("MazeForms$Trail", T_Tr, 5), ("MazeForms$TreeCount", T_Tc, 7), ("MazeForms", T_Mf, 5), ("MazeFormsModel", T_Mo, 19)]
theorem mz_good : ∀ w ∈ mz_tb, goodWord w = true := fun w hw => (List.mem_filter.mp hw).2
theorem mz_inC {ws : List Cond} {c : Cond} (h : ∀ w ∈ ws, w ∈ mz_tb) : ∀ w ∈ ws, w ∈ c :: mz_tb := fun w hw => List.mem_cons_of_mem _ (h w hw)
theorem mz_gW {c0 cw : Cond} {ex : List Cond} (hex : ∀ w ∈ ex, w ∈ mz_tb) (h5 : cw ∈ mz_tb) : GoodIn (c0 :: mz_tb) (ex ++ cw :: mz_tb) := by
  intro w hw
  have h : w ∈ mz_tb := by
    rcases List.mem_append.mp hw with h | h
    · exact hex w h
    · rcases List.mem_cons.mp h with rfl | h
      · exact h5
      · exact h
  exact ⟨List.mem_cons_of_mem _ h, good_of_word (mz_good w h)⟩
theorem mz_gV {c0 cw : Cond} {own C : String} {idx : Nat} {y : MethodName} (h1 : Cond.methodLink own idx y ∈ mz_tb) (h2 : Cond.instanceMethod y ∈ mz_tb) (h3 : Cond.selects C y y ∈ mz_tb) (h4 : Cond.initialized C ∈ mz_tb) (h5 : cw ∈ mz_tb) : GoodIn (c0 :: mz_tb) (wsV own idx C y (cw :: mz_tb)) := by
  refine mz_gW (fun w hw => ?_) h5
  simp only [List.mem_cons, List.not_mem_nil, or_false] at hw
  rcases hw with rfl | rfl | rfl | rfl <;> assumption
theorem mz_gS {c0 cw : Cond} {own : String} {idx : Nat} {y : MethodName} (h1 : Cond.methodLink own idx y ∈ mz_tb) (h2 : Cond.static y ∈ mz_tb) (h4 : Cond.initialized own ∈ mz_tb) (h5 : cw ∈ mz_tb) : GoodIn (c0 :: mz_tb) (wsS own idx y (cw :: mz_tb)) := by
  refine mz_gW (fun w hw => ?_) h5
  simp only [List.mem_cons, List.not_mem_nil, or_false] at hw
  rcases hw with rfl | rfl | rfl <;> assumption
theorem mz_gSo {c0 cw : Cond} {own : String} {idx : Nat} {y : MethodName} (h1 : Cond.methodLink own idx y ∈ mz_tb) (h2 : Cond.static y ∈ mz_tb) (h4 : Cond.initialized y.cls ∈ mz_tb) (h5 : cw ∈ mz_tb) : GoodIn (c0 :: mz_tb) (va_wsS own idx y (cw :: mz_tb)) := by
  refine mz_gW (fun w hw => ?_) h5
  simp only [List.mem_cons, List.not_mem_nil, or_false] at hw
  rcases hw with rfl | rfl | rfl <;> assumption
theorem mz_All.cons {V : mz_K} {Q : mz_Q} {op : mz_Op} {k : Nat} {r : List (Nat × mz_Op)} (h1 : mz_Sd V Q op k) (h2 : mz_All V Q r) : mz_All V Q ((k, op) :: r) := And.intro h1 h2
def mz_dec (b : ByteArray) (l : List (Nat × ClassFile.Instr × Nat)) : Bool := l.all (fun q => decide (decode b q.1 = .ok q.2))
theorem mz_dg {b : ByteArray} {l : List (Nat × ClassFile.Instr × Nat)} (h : mz_dec b l = true) (i pc : Nat) (ins : ClassFile.Instr) (n : Nat) (hi : l[i]? = some (pc, ins, n)) : decode b pc = .ok (ins, n) := of_decide_eq_true (p := decode b (pc, ins, n).1 = .ok (pc, ins, n).2) (List.all_eq_true.mp h (pc, ins, n) (List.mem_of_getElem? hi))
set_option maxRecDepth 20000 in
theorem wm_0 : (.selects "MazeForms$Grid" (⟨"MazeForms$Grid", "numberDoors", "()V"⟩) (⟨"MazeForms$Grid", "numberDoors", "()V"⟩) : Cond) ∈ mz_tb := List.mem_filter.mpr ⟨List.mem_of_getElem? (i := 0) rfl, rfl⟩
set_option maxRecDepth 20000 in
theorem wm_1 : (.selects "MazeForms$Grid" (⟨"MazeForms$Grid", "addDoor", "(IIII)V"⟩) (⟨"MazeForms$Grid", "addDoor", "(IIII)V"⟩) : Cond) ∈ mz_tb := List.mem_filter.mpr ⟨List.mem_of_getElem? (i := 1) rfl, rfl⟩
set_option maxRecDepth 20000 in
theorem wm_11 : (.selects "MazeForms$DoorRow" (⟨"MazeForms$DoorRow", "exchange", "(II)V"⟩) (⟨"MazeForms$DoorRow", "exchange", "(II)V"⟩) : Cond) ∈ mz_tb := List.mem_filter.mpr ⟨List.mem_of_getElem? (i := 11) rfl, rfl⟩
set_option maxRecDepth 20000 in
theorem wm_12 : (.selects "MazeForms$Joined" (⟨"MazeForms$Joined", "root", "(I)I"⟩) (⟨"MazeForms$Joined", "root", "(I)I"⟩) : Cond) ∈ mz_tb := List.mem_filter.mpr ⟨List.mem_of_getElem? (i := 12) rfl, rfl⟩
set_option maxRecDepth 20000 in
theorem wm_67 : (.initialized "MazeForms$Grid" : Cond) ∈ mz_tb := List.mem_filter.mpr ⟨List.mem_of_getElem? (i := 67) rfl, rfl⟩
set_option maxRecDepth 20000 in
theorem wm_69 : (.initialized "java/util/Arrays" : Cond) ∈ mz_tb := List.mem_filter.mpr ⟨List.mem_of_getElem? (i := 69) rfl, rfl⟩
set_option maxRecDepth 20000 in
theorem wm_70 : (.initialized "MazeForms$Joined" : Cond) ∈ mz_tb := List.mem_filter.mpr ⟨List.mem_of_getElem? (i := 70) rfl, rfl⟩
set_option maxRecDepth 20000 in
theorem wm_73 : (.initialized "MazeForms$Chance" : Cond) ∈ mz_tb := List.mem_filter.mpr ⟨List.mem_of_getElem? (i := 73) rfl, rfl⟩
set_option maxRecDepth 20000 in
theorem wm_74 : (.initialized "MazeForms$DoorRow" : Cond) ∈ mz_tb := List.mem_filter.mpr ⟨List.mem_of_getElem? (i := 74) rfl, rfl⟩
set_option maxRecDepth 20000 in
theorem wm_101 : (.methodLink "MazeForms$Grid" 39 (⟨"MazeForms$Grid", "numberDoors", "()V"⟩) : Cond) ∈ mz_tb := List.mem_filter.mpr ⟨List.mem_of_getElem? (i := 101) rfl, rfl⟩
set_option maxRecDepth 20000 in
theorem wm_103 : (.instanceMethod (⟨"MazeForms$Grid", "numberDoors", "()V"⟩) : Cond) ∈ mz_tb := List.mem_filter.mpr ⟨List.mem_of_getElem? (i := 103) rfl, rfl⟩
set_option maxRecDepth 20000 in
theorem wm_104 : (.code (⟨"MazeForms$Grid", "numberDoors", "()V"⟩) prog_5_method_24_code 4 none : Cond) ∈ mz_tb := List.mem_filter.mpr ⟨List.mem_of_getElem? (i := 104) rfl, rfl⟩
set_option maxRecDepth 20000 in
theorem wm_105 : (.methodLink "MazeForms$Grid" 73 (⟨"java/util/Arrays", "fill", "([II)V"⟩) : Cond) ∈ mz_tb := List.mem_filter.mpr ⟨List.mem_of_getElem? (i := 105) rfl, rfl⟩
set_option maxRecDepth 20000 in
theorem wm_106 : (.static (⟨"java/util/Arrays", "fill", "([II)V"⟩) : Cond) ∈ mz_tb := List.mem_filter.mpr ⟨List.mem_of_getElem? (i := 106) rfl, rfl⟩
set_option maxRecDepth 20000 in
theorem wm_107 : (.code (⟨"java/util/Arrays", "fill", "([II)V"⟩) prog_13_method_103_code 4 none : Cond) ∈ mz_tb := List.mem_filter.mpr ⟨List.mem_of_getElem? (i := 107) rfl, rfl⟩
set_option maxRecDepth 20000 in
theorem wm_108 : (.methodLink "MazeForms$Grid" 79 (⟨"MazeForms$Grid", "cellAt", "(II)I"⟩) : Cond) ∈ mz_tb := List.mem_filter.mpr ⟨List.mem_of_getElem? (i := 108) rfl, rfl⟩
set_option maxRecDepth 20000 in
theorem wm_109 : (.instanceMethod (⟨"MazeForms$Grid", "cellAt", "(II)I"⟩) : Cond) ∈ mz_tb := List.mem_filter.mpr ⟨List.mem_of_getElem? (i := 109) rfl, rfl⟩
set_option maxRecDepth 20000 in
theorem wm_110 : (.selects "MazeForms$Grid" (⟨"MazeForms$Grid", "cellAt", "(II)I"⟩) (⟨"MazeForms$Grid", "cellAt", "(II)I"⟩) : Cond) ∈ mz_tb := List.mem_filter.mpr ⟨List.mem_of_getElem? (i := 110) rfl, rfl⟩
set_option maxRecDepth 20000 in
theorem wm_111 : (.code (⟨"MazeForms$Grid", "cellAt", "(II)I"⟩) prog_5_method_7_code 4 (some .int) : Cond) ∈ mz_tb := List.mem_filter.mpr ⟨List.mem_of_getElem? (i := 111) rfl, rfl⟩
set_option maxRecDepth 20000 in
theorem wm_112 : (.methodLink "MazeForms$Grid" 82 (⟨"MazeForms$Grid", "addDoor", "(IIII)V"⟩) : Cond) ∈ mz_tb := List.mem_filter.mpr ⟨List.mem_of_getElem? (i := 112) rfl, rfl⟩
set_option maxRecDepth 20000 in
theorem wm_114 : (.instanceMethod (⟨"MazeForms$Grid", "addDoor", "(IIII)V"⟩) : Cond) ∈ mz_tb := List.mem_filter.mpr ⟨List.mem_of_getElem? (i := 114) rfl, rfl⟩
set_option maxRecDepth 20000 in
theorem wm_115 : (.code (⟨"MazeForms$Grid", "addDoor", "(IIII)V"⟩) prog_5_method_25_code 5 none : Cond) ∈ mz_tb := List.mem_filter.mpr ⟨List.mem_of_getElem? (i := 115) rfl, rfl⟩
set_option maxRecDepth 20000 in
theorem wm_116 : (.methodLink "MazeForms$Grid" 86 (⟨"MazeForms$Grid", "isFree", "(I)Z"⟩) : Cond) ∈ mz_tb := List.mem_filter.mpr ⟨List.mem_of_getElem? (i := 116) rfl, rfl⟩
set_option maxRecDepth 20000 in
theorem wm_117 : (.instanceMethod (⟨"MazeForms$Grid", "isFree", "(I)Z"⟩) : Cond) ∈ mz_tb := List.mem_filter.mpr ⟨List.mem_of_getElem? (i := 117) rfl, rfl⟩
set_option maxRecDepth 20000 in
theorem wm_118 : (.selects "MazeForms$Grid" (⟨"MazeForms$Grid", "isFree", "(I)Z"⟩) (⟨"MazeForms$Grid", "isFree", "(I)Z"⟩) : Cond) ∈ mz_tb := List.mem_filter.mpr ⟨List.mem_of_getElem? (i := 118) rfl, rfl⟩
set_option maxRecDepth 20000 in
theorem wm_119 : (.code (⟨"MazeForms$Grid", "isFree", "(I)Z"⟩) prog_5_method_9_code 2 (some .boolean) : Cond) ∈ mz_tb := List.mem_filter.mpr ⟨List.mem_of_getElem? (i := 119) rfl, rfl⟩
set_option maxRecDepth 20000 in
theorem wm_120 : (.methodLink "MazeForms$Grid" 48 (⟨"MazeForms$Grid", "isCell", "(I)Z"⟩) : Cond) ∈ mz_tb := List.mem_filter.mpr ⟨List.mem_of_getElem? (i := 120) rfl, rfl⟩
set_option maxRecDepth 20000 in
theorem wm_121 : (.instanceMethod (⟨"MazeForms$Grid", "isCell", "(I)Z"⟩) : Cond) ∈ mz_tb := List.mem_filter.mpr ⟨List.mem_of_getElem? (i := 121) rfl, rfl⟩
set_option maxRecDepth 20000 in
theorem wm_122 : (.selects "MazeForms$Grid" (⟨"MazeForms$Grid", "isCell", "(I)Z"⟩) (⟨"MazeForms$Grid", "isCell", "(I)Z"⟩) : Cond) ∈ mz_tb := List.mem_filter.mpr ⟨List.mem_of_getElem? (i := 122) rfl, rfl⟩
set_option maxRecDepth 20000 in
theorem wm_123 : (.code (⟨"MazeForms$Grid", "isCell", "(I)Z"⟩) prog_5_method_8_code 2 (some .boolean) : Cond) ∈ mz_tb := List.mem_filter.mpr ⟨List.mem_of_getElem? (i := 123) rfl, rfl⟩
set_option maxRecDepth 20000 in
theorem wm_124 : (.fieldLink "MazeForms$Grid" 15 "MazeForms$Grid" "width" "I" : Cond) ∈ mz_tb := List.mem_filter.mpr ⟨List.mem_of_getElem? (i := 124) rfl, rfl⟩
set_option maxRecDepth 20000 in
theorem wm_125 : (.fieldLink "MazeForms$Grid" 19 "MazeForms$Grid" "height" "I" : Cond) ∈ mz_tb := List.mem_filter.mpr ⟨List.mem_of_getElem? (i := 125) rfl, rfl⟩
set_option maxRecDepth 20000 in
theorem wm_126 : (.fieldLink "MazeForms$Grid" 22 "MazeForms$Grid" "masked" "[Z" : Cond) ∈ mz_tb := List.mem_filter.mpr ⟨List.mem_of_getElem? (i := 126) rfl, rfl⟩
set_option maxRecDepth 20000 in
theorem wm_127 : (.fieldLink "MazeForms$Grid" 26 "MazeForms$Grid" "doorOnSide" "[I" : Cond) ∈ mz_tb := List.mem_filter.mpr ⟨List.mem_of_getElem? (i := 127) rfl, rfl⟩
set_option maxRecDepth 20000 in
theorem wm_128 : (.fieldLink "MazeForms$Grid" 30 "MazeForms$Grid" "lesserCell" "[I" : Cond) ∈ mz_tb := List.mem_filter.mpr ⟨List.mem_of_getElem? (i := 128) rfl, rfl⟩
set_option maxRecDepth 20000 in
theorem wm_129 : (.fieldLink "MazeForms$Grid" 33 "MazeForms$Grid" "greaterCell" "[I" : Cond) ∈ mz_tb := List.mem_filter.mpr ⟨List.mem_of_getElem? (i := 129) rfl, rfl⟩
set_option maxRecDepth 20000 in
theorem wm_130 : (.fieldLink "MazeForms$Grid" 36 "MazeForms$Grid" "doorOpen" "[Z" : Cond) ∈ mz_tb := List.mem_filter.mpr ⟨List.mem_of_getElem? (i := 130) rfl, rfl⟩
set_option maxRecDepth 20000 in
theorem wm_131 : (.fieldLink "MazeForms$Grid" 42 "MazeForms$Grid" "doorCount" "I" : Cond) ∈ mz_tb := List.mem_filter.mpr ⟨List.mem_of_getElem? (i := 131) rfl, rfl⟩
set_option maxRecDepth 20000 in
theorem wm_132 : (.fieldLink "MazeForms$Grid" 45 "MazeForms$Grid" "edition" "I" : Cond) ∈ mz_tb := List.mem_filter.mpr ⟨List.mem_of_getElem? (i := 132) rfl, rfl⟩
set_option maxRecDepth 20000 in
theorem wm_164 : (.fieldLink "MazeForms$Joined" 9 "MazeForms$Joined" "grid" "LMazeForms$Grid;" : Cond) ∈ mz_tb := List.mem_filter.mpr ⟨List.mem_of_getElem? (i := 164) rfl, rfl⟩
set_option maxRecDepth 20000 in
theorem wm_165 : (.fieldLink "MazeForms$Joined" 21 "MazeForms$Joined" "parent" "[I" : Cond) ∈ mz_tb := List.mem_filter.mpr ⟨List.mem_of_getElem? (i := 165) rfl, rfl⟩
set_option maxRecDepth 20000 in
theorem wm_199 : (.fieldLink "MazeForms$Chance" 7 "MazeForms$Chance" "state" "J" : Cond) ∈ mz_tb := List.mem_filter.mpr ⟨List.mem_of_getElem? (i := 199) rfl, rfl⟩
set_option maxRecDepth 20000 in
theorem wm_218 : (.fieldLink "MazeForms$DoorRow" 9 "MazeForms$DoorRow" "chance" "LMazeForms$Chance;" : Cond) ∈ mz_tb := List.mem_filter.mpr ⟨List.mem_of_getElem? (i := 218) rfl, rfl⟩
set_option maxRecDepth 20000 in
theorem wm_219 : (.fieldLink "MazeForms$DoorRow" 21 "MazeForms$DoorRow" "row" "[I" : Cond) ∈ mz_tb := List.mem_filter.mpr ⟨List.mem_of_getElem? (i := 219) rfl, rfl⟩
set_option maxRecDepth 20000 in
theorem wm_220 : (.fieldLink "MazeForms$DoorRow" 25 "MazeForms$DoorRow" "count" "I" : Cond) ∈ mz_tb := List.mem_filter.mpr ⟨List.mem_of_getElem? (i := 220) rfl, rfl⟩
set_option maxRecDepth 20000 in
theorem wm_333 : (.methodLink "MazeForms$Grid" 62 (⟨"MazeForms$Grid", "closeDoors", "()V"⟩) : Cond) ∈ mz_tb := List.mem_filter.mpr ⟨List.mem_of_getElem? (i := 333) rfl, rfl⟩
set_option maxRecDepth 20000 in
theorem wm_334 : (.instanceMethod (⟨"MazeForms$Grid", "closeDoors", "()V"⟩) : Cond) ∈ mz_tb := List.mem_filter.mpr ⟨List.mem_of_getElem? (i := 334) rfl, rfl⟩
set_option maxRecDepth 20000 in
theorem wm_335 : (.selects "MazeForms$Grid" (⟨"MazeForms$Grid", "closeDoors", "()V"⟩) (⟨"MazeForms$Grid", "closeDoors", "()V"⟩) : Cond) ∈ mz_tb := List.mem_filter.mpr ⟨List.mem_of_getElem? (i := 335) rfl, rfl⟩
set_option maxRecDepth 20000 in
theorem wm_336 : (.code (⟨"MazeForms$Grid", "closeDoors", "()V"⟩) prog_5_method_22_code 2 none : Cond) ∈ mz_tb := List.mem_filter.mpr ⟨List.mem_of_getElem? (i := 336) rfl, rfl⟩
set_option maxRecDepth 20000 in
theorem wm_372 : (.instanceMethod (⟨"MazeForms$Grid", "doorOn", "(II)I"⟩) : Cond) ∈ mz_tb := List.mem_filter.mpr ⟨List.mem_of_getElem? (i := 372) rfl, rfl⟩
set_option maxRecDepth 20000 in
theorem wm_373 : (.selects "MazeForms$Grid" (⟨"MazeForms$Grid", "doorOn", "(II)I"⟩) (⟨"MazeForms$Grid", "doorOn", "(II)I"⟩) : Cond) ∈ mz_tb := List.mem_filter.mpr ⟨List.mem_of_getElem? (i := 373) rfl, rfl⟩
set_option maxRecDepth 20000 in
theorem wm_374 : (.code (⟨"MazeForms$Grid", "doorOn", "(II)I"⟩) prog_5_method_15_code 4 (some .int) : Cond) ∈ mz_tb := List.mem_filter.mpr ⟨List.mem_of_getElem? (i := 374) rfl, rfl⟩
set_option maxRecDepth 20000 in
theorem wm_379 : (.methodLink "MazeForms$Grid" 52 (⟨"MazeForms$Grid", "isDoor", "(I)Z"⟩) : Cond) ∈ mz_tb := List.mem_filter.mpr ⟨List.mem_of_getElem? (i := 379) rfl, rfl⟩
set_option maxRecDepth 20000 in
theorem wm_380 : (.instanceMethod (⟨"MazeForms$Grid", "isDoor", "(I)Z"⟩) : Cond) ∈ mz_tb := List.mem_filter.mpr ⟨List.mem_of_getElem? (i := 380) rfl, rfl⟩
set_option maxRecDepth 20000 in
theorem wm_381 : (.selects "MazeForms$Grid" (⟨"MazeForms$Grid", "isDoor", "(I)Z"⟩) (⟨"MazeForms$Grid", "isDoor", "(I)Z"⟩) : Cond) ∈ mz_tb := List.mem_filter.mpr ⟨List.mem_of_getElem? (i := 381) rfl, rfl⟩
set_option maxRecDepth 20000 in
theorem wm_382 : (.code (⟨"MazeForms$Grid", "isDoor", "(I)Z"⟩) prog_5_method_10_code 2 (some .boolean) : Cond) ∈ mz_tb := List.mem_filter.mpr ⟨List.mem_of_getElem? (i := 382) rfl, rfl⟩
set_option maxRecDepth 20000 in
theorem wm_395 : (.methodLink "MazeForms$DoorRow" 29 (⟨"MazeForms$Chance", "below", "(I)I"⟩) : Cond) ∈ mz_tb := List.mem_filter.mpr ⟨List.mem_of_getElem? (i := 395) rfl, rfl⟩
set_option maxRecDepth 20000 in
theorem wm_396 : (.instanceMethod (⟨"MazeForms$Chance", "below", "(I)I"⟩) : Cond) ∈ mz_tb := List.mem_filter.mpr ⟨List.mem_of_getElem? (i := 396) rfl, rfl⟩
set_option maxRecDepth 20000 in
theorem wm_397 : (.selects "MazeForms$Chance" (⟨"MazeForms$Chance", "below", "(I)I"⟩) (⟨"MazeForms$Chance", "below", "(I)I"⟩) : Cond) ∈ mz_tb := List.mem_filter.mpr ⟨List.mem_of_getElem? (i := 397) rfl, rfl⟩
set_option maxRecDepth 20000 in
theorem wm_398 : (.code (⟨"MazeForms$Chance", "below", "(I)I"⟩) prog_2_method_2_code 2 (some .int) : Cond) ∈ mz_tb := List.mem_filter.mpr ⟨List.mem_of_getElem? (i := 398) rfl, rfl⟩
set_option maxRecDepth 20000 in
theorem wm_399 : (.constantLong "MazeForms$Chance" 13 (6364136223846793005) : Cond) ∈ mz_tb := List.mem_filter.mpr ⟨List.mem_of_getElem? (i := 399) rfl, rfl⟩
set_option maxRecDepth 20000 in
theorem wm_400 : (.constantLong "MazeForms$Chance" 15 (1442695040888963407) : Cond) ∈ mz_tb := List.mem_filter.mpr ⟨List.mem_of_getElem? (i := 400) rfl, rfl⟩
set_option maxRecDepth 20000 in
theorem wm_401 : (.methodLink "MazeForms$DoorRow" 35 (⟨"MazeForms$DoorRow", "doorAt", "(I)I"⟩) : Cond) ∈ mz_tb := List.mem_filter.mpr ⟨List.mem_of_getElem? (i := 401) rfl, rfl⟩
set_option maxRecDepth 20000 in
theorem wm_402 : (.instanceMethod (⟨"MazeForms$DoorRow", "doorAt", "(I)I"⟩) : Cond) ∈ mz_tb := List.mem_filter.mpr ⟨List.mem_of_getElem? (i := 402) rfl, rfl⟩
set_option maxRecDepth 20000 in
theorem wm_403 : (.selects "MazeForms$DoorRow" (⟨"MazeForms$DoorRow", "doorAt", "(I)I"⟩) (⟨"MazeForms$DoorRow", "doorAt", "(I)I"⟩) : Cond) ∈ mz_tb := List.mem_filter.mpr ⟨List.mem_of_getElem? (i := 403) rfl, rfl⟩
set_option maxRecDepth 20000 in
theorem wm_404 : (.code (⟨"MazeForms$DoorRow", "doorAt", "(I)I"⟩) prog_3_method_3_code 2 (some .int) : Cond) ∈ mz_tb := List.mem_filter.mpr ⟨List.mem_of_getElem? (i := 404) rfl, rfl⟩
set_option maxRecDepth 20000 in
theorem wm_426 : (.instanceMethod (⟨"MazeForms$Grid", "doorCount", "()I"⟩) : Cond) ∈ mz_tb := List.mem_filter.mpr ⟨List.mem_of_getElem? (i := 426) rfl, rfl⟩
set_option maxRecDepth 20000 in
theorem wm_427 : (.selects "MazeForms$Grid" (⟨"MazeForms$Grid", "doorCount", "()I"⟩) (⟨"MazeForms$Grid", "doorCount", "()I"⟩) : Cond) ∈ mz_tb := List.mem_filter.mpr ⟨List.mem_of_getElem? (i := 427) rfl, rfl⟩
set_option maxRecDepth 20000 in
theorem wm_428 : (.code (⟨"MazeForms$Grid", "doorCount", "()I"⟩) prog_5_method_5_code 1 (some .int) : Cond) ∈ mz_tb := List.mem_filter.mpr ⟨List.mem_of_getElem? (i := 428) rfl, rfl⟩
set_option maxRecDepth 20000 in
theorem wm_433 : (.methodLink "MazeForms$DoorRow" 38 (⟨"MazeForms$DoorRow", "exchange", "(II)V"⟩) : Cond) ∈ mz_tb := List.mem_filter.mpr ⟨List.mem_of_getElem? (i := 433) rfl, rfl⟩
set_option maxRecDepth 20000 in
theorem wm_435 : (.instanceMethod (⟨"MazeForms$DoorRow", "exchange", "(II)V"⟩) : Cond) ∈ mz_tb := List.mem_filter.mpr ⟨List.mem_of_getElem? (i := 435) rfl, rfl⟩
set_option maxRecDepth 20000 in
theorem wm_436 : (.code (⟨"MazeForms$DoorRow", "exchange", "(II)V"⟩) prog_3_method_8_code 5 none : Cond) ∈ mz_tb := List.mem_filter.mpr ⟨List.mem_of_getElem? (i := 436) rfl, rfl⟩
set_option maxRecDepth 20000 in
theorem wm_438 : (.instanceMethod (⟨"MazeForms$Joined", "reset", "()V"⟩) : Cond) ∈ mz_tb := List.mem_filter.mpr ⟨List.mem_of_getElem? (i := 438) rfl, rfl⟩
set_option maxRecDepth 20000 in
theorem wm_439 : (.selects "MazeForms$Joined" (⟨"MazeForms$Joined", "reset", "()V"⟩) (⟨"MazeForms$Joined", "reset", "()V"⟩) : Cond) ∈ mz_tb := List.mem_filter.mpr ⟨List.mem_of_getElem? (i := 439) rfl, rfl⟩
set_option maxRecDepth 20000 in
theorem wm_440 : (.code (⟨"MazeForms$Joined", "reset", "()V"⟩) prog_6_method_2_code 2 none : Cond) ∈ mz_tb := List.mem_filter.mpr ⟨List.mem_of_getElem? (i := 440) rfl, rfl⟩
set_option maxRecDepth 20000 in
theorem wm_447 : (.instanceMethod (⟨"MazeForms$Joined", "joinBy", "(I)Z"⟩) : Cond) ∈ mz_tb := List.mem_filter.mpr ⟨List.mem_of_getElem? (i := 447) rfl, rfl⟩
set_option maxRecDepth 20000 in
theorem wm_448 : (.selects "MazeForms$Joined" (⟨"MazeForms$Joined", "joinBy", "(I)Z"⟩) (⟨"MazeForms$Joined", "joinBy", "(I)Z"⟩) : Cond) ∈ mz_tb := List.mem_filter.mpr ⟨List.mem_of_getElem? (i := 448) rfl, rfl⟩
set_option maxRecDepth 20000 in
theorem wm_449 : (.code (⟨"MazeForms$Joined", "joinBy", "(I)Z"⟩) prog_6_method_3_code 4 (some .boolean) : Cond) ∈ mz_tb := List.mem_filter.mpr ⟨List.mem_of_getElem? (i := 449) rfl, rfl⟩
set_option maxRecDepth 20000 in
theorem wm_450 : (.methodLink "MazeForms$Joined" 25 (⟨"MazeForms$Grid", "lesserCell", "(I)I"⟩) : Cond) ∈ mz_tb := List.mem_filter.mpr ⟨List.mem_of_getElem? (i := 450) rfl, rfl⟩
set_option maxRecDepth 20000 in
theorem wm_451 : (.instanceMethod (⟨"MazeForms$Grid", "lesserCell", "(I)I"⟩) : Cond) ∈ mz_tb := List.mem_filter.mpr ⟨List.mem_of_getElem? (i := 451) rfl, rfl⟩
set_option maxRecDepth 20000 in
theorem wm_452 : (.selects "MazeForms$Grid" (⟨"MazeForms$Grid", "lesserCell", "(I)I"⟩) (⟨"MazeForms$Grid", "lesserCell", "(I)I"⟩) : Cond) ∈ mz_tb := List.mem_filter.mpr ⟨List.mem_of_getElem? (i := 452) rfl, rfl⟩
set_option maxRecDepth 20000 in
theorem wm_453 : (.code (⟨"MazeForms$Grid", "lesserCell", "(I)I"⟩) prog_5_method_17_code 2 (some .int) : Cond) ∈ mz_tb := List.mem_filter.mpr ⟨List.mem_of_getElem? (i := 453) rfl, rfl⟩
set_option maxRecDepth 20000 in
theorem wm_454 : (.methodLink "MazeForms$Joined" 29 (⟨"MazeForms$Joined", "root", "(I)I"⟩) : Cond) ∈ mz_tb := List.mem_filter.mpr ⟨List.mem_of_getElem? (i := 454) rfl, rfl⟩
set_option maxRecDepth 20000 in
theorem wm_456 : (.instanceMethod (⟨"MazeForms$Joined", "root", "(I)I"⟩) : Cond) ∈ mz_tb := List.mem_filter.mpr ⟨List.mem_of_getElem? (i := 456) rfl, rfl⟩
set_option maxRecDepth 20000 in
theorem wm_457 : (.code (⟨"MazeForms$Joined", "root", "(I)I"⟩) prog_6_method_5_code 4 (some .int) : Cond) ∈ mz_tb := List.mem_filter.mpr ⟨List.mem_of_getElem? (i := 457) rfl, rfl⟩
set_option maxRecDepth 20000 in
theorem wm_458 : (.methodLink "MazeForms$Joined" 48 (⟨"MazeForms$Grid", "isCell", "(I)Z"⟩) : Cond) ∈ mz_tb := List.mem_filter.mpr ⟨List.mem_of_getElem? (i := 458) rfl, rfl⟩
set_option maxRecDepth 20000 in
theorem wm_459 : (.methodLink "MazeForms$Joined" 32 (⟨"MazeForms$Grid", "greaterCell", "(I)I"⟩) : Cond) ∈ mz_tb := List.mem_filter.mpr ⟨List.mem_of_getElem? (i := 459) rfl, rfl⟩
set_option maxRecDepth 20000 in
theorem wm_460 : (.instanceMethod (⟨"MazeForms$Grid", "greaterCell", "(I)I"⟩) : Cond) ∈ mz_tb := List.mem_filter.mpr ⟨List.mem_of_getElem? (i := 460) rfl, rfl⟩
set_option maxRecDepth 20000 in
theorem wm_461 : (.selects "MazeForms$Grid" (⟨"MazeForms$Grid", "greaterCell", "(I)I"⟩) (⟨"MazeForms$Grid", "greaterCell", "(I)I"⟩) : Cond) ∈ mz_tb := List.mem_filter.mpr ⟨List.mem_of_getElem? (i := 461) rfl, rfl⟩
set_option maxRecDepth 20000 in
theorem wm_462 : (.code (⟨"MazeForms$Grid", "greaterCell", "(I)I"⟩) prog_5_method_18_code 2 (some .int) : Cond) ∈ mz_tb := List.mem_filter.mpr ⟨List.mem_of_getElem? (i := 462) rfl, rfl⟩
set_option maxRecDepth 20000 in
theorem wm_497 : (.instanceMethod (⟨"MazeForms$Grid", "isOpen", "(I)Z"⟩) : Cond) ∈ mz_tb := List.mem_filter.mpr ⟨List.mem_of_getElem? (i := 497) rfl, rfl⟩
set_option maxRecDepth 20000 in
theorem wm_498 : (.selects "MazeForms$Grid" (⟨"MazeForms$Grid", "isOpen", "(I)Z"⟩) (⟨"MazeForms$Grid", "isOpen", "(I)Z"⟩) : Cond) ∈ mz_tb := List.mem_filter.mpr ⟨List.mem_of_getElem? (i := 498) rfl, rfl⟩
set_option maxRecDepth 20000 in
theorem wm_499 : (.code (⟨"MazeForms$Grid", "isOpen", "(I)Z"⟩) prog_5_method_11_code 2 (some .boolean) : Cond) ∈ mz_tb := List.mem_filter.mpr ⟨List.mem_of_getElem? (i := 499) rfl, rfl⟩
set_option maxRecDepth 20000 in
theorem wm_588 : (.methodLink "MazeForms$Grid" 58 (⟨"MazeForms$Grid", "doorOn", "(II)I"⟩) : Cond) ∈ mz_tb := List.mem_filter.mpr ⟨List.mem_of_getElem? (i := 588) rfl, rfl⟩
set_option maxRecDepth 20000 in
theorem wm_589 : (.methodLink "MazeForms$Grid" 55 (⟨"MazeForms$Grid", "isOpen", "(I)Z"⟩) : Cond) ∈ mz_tb := List.mem_filter.mpr ⟨List.mem_of_getElem? (i := 589) rfl, rfl⟩
set_option maxRecDepth 20000 in
theorem wm_602 : (.methodLink "MazeForms$Joined" 35 (⟨"MazeForms$Joined", "reset", "()V"⟩) : Cond) ∈ mz_tb := List.mem_filter.mpr ⟨List.mem_of_getElem? (i := 602) rfl, rfl⟩
set_option maxRecDepth 20000 in
theorem wm_603 : (.methodLink "MazeForms$Joined" 38 (⟨"MazeForms$Grid", "doorCount", "()I"⟩) : Cond) ∈ mz_tb := List.mem_filter.mpr ⟨List.mem_of_getElem? (i := 603) rfl, rfl⟩
set_option maxRecDepth 20000 in
theorem wm_604 : (.methodLink "MazeForms$Joined" 41 (⟨"MazeForms$Grid", "isOpen", "(I)Z"⟩) : Cond) ∈ mz_tb := List.mem_filter.mpr ⟨List.mem_of_getElem? (i := 604) rfl, rfl⟩
set_option maxRecDepth 20000 in
theorem wm_605 : (.methodLink "MazeForms$Joined" 45 (⟨"MazeForms$Joined", "joinBy", "(I)Z"⟩) : Cond) ∈ mz_tb := List.mem_filter.mpr ⟨List.mem_of_getElem? (i := 605) rfl, rfl⟩
