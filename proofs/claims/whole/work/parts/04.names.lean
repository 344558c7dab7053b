def mz_tb : List Cond := lw_tbl.filter goodWord
def T_Ch : u_T := fun k => match k with
  | _ => ("MazeForms$Chance", "state", "J", false)
def ty_Ch : Nat → FieldType := fun k => match k with
  | _ => .long
theorem nm_Ch : ∀ a, a < 1 → ∀ b, b < 1 → a ≠ b → (T_Ch a).2.1 ≠ (T_Ch b).2.1 := by decide +kernel
theorem ty_Ch_ok : ∀ k, k < 1 → parseFieldDescriptor (T_Ch k).2.2.1 = some (ty_Ch k) := by decide +kernel
theorem in_Ch : ∀ w ∈ u_ws "MazeForms$Chance" T_Ch 1, w ∈ mz_tb := by decide +kernel
def T_Dr : u_T := fun k => match k with
  | 0 => ("MazeForms$DoorRow", "chance", "LMazeForms$Chance;", true)
  | 1 => ("MazeForms$DoorRow", "row", "[I", true)
  | _ => ("MazeForms$DoorRow", "count", "I", false)
def ty_Dr : Nat → FieldType := fun k => match k with
  | 0 => .object "MazeForms$Chance"
  | 1 => .array .int
  | _ => .int
theorem nm_Dr : ∀ a, a < 3 → ∀ b, b < 3 → a ≠ b → (T_Dr a).2.1 ≠ (T_Dr b).2.1 := by decide +kernel
theorem ty_Dr_ok : ∀ k, k < 3 → parseFieldDescriptor (T_Dr k).2.2.1 = some (ty_Dr k) := by decide +kernel
theorem in_Dr : ∀ w ∈ u_ws "MazeForms$DoorRow" T_Dr 3, w ∈ mz_tb := by decide +kernel
def T_Fl : u_T := fun k => match k with
  | 0 => ("MazeForms$Flood", "grid", "LMazeForms$Grid;", true)
  | 1 => ("MazeForms$Flood", "steps", "[I", true)
  | 2 => ("MazeForms$Flood", "queue", "[I", true)
  | _ => ("MazeForms$Flood", "queued", "I", false)
def ty_Fl : Nat → FieldType := fun k => match k with
  | 0 => .object "MazeForms$Grid"
  | 1 => .array .int
  | 2 => .array .int
  | _ => .int
theorem nm_Fl : ∀ a, a < 4 → ∀ b, b < 4 → a ≠ b → (T_Fl a).2.1 ≠ (T_Fl b).2.1 := by decide +kernel
theorem ty_Fl_ok : ∀ k, k < 4 → parseFieldDescriptor (T_Fl k).2.2.1 = some (ty_Fl k) := by decide +kernel
theorem in_Fl : ∀ w ∈ u_ws "MazeForms$Flood" T_Fl 4, w ∈ mz_tb := by decide +kernel
def T_Gr : u_T := fun k => match k with
  | 0 => ("MazeForms$Grid", "width", "I", true)
  | 1 => ("MazeForms$Grid", "height", "I", true)
  | 2 => ("MazeForms$Grid", "masked", "[Z", true)
  | 3 => ("MazeForms$Grid", "doorOnSide", "[I", true)
  | 4 => ("MazeForms$Grid", "lesserCell", "[I", true)
  | 5 => ("MazeForms$Grid", "greaterCell", "[I", true)
  | 6 => ("MazeForms$Grid", "doorOpen", "[Z", true)
  | 7 => ("MazeForms$Grid", "doorCount", "I", false)
  | _ => ("MazeForms$Grid", "edition", "I", false)
def ty_Gr : Nat → FieldType := fun k => match k with
  | 0 => .int
  | 1 => .int
  | 2 => .array .boolean
  | 3 => .array .int
  | 4 => .array .int
  | 5 => .array .int
  | 6 => .array .boolean
  | 7 => .int
  | _ => .int
theorem nm_Gr : ∀ a, a < 9 → ∀ b, b < 9 → a ≠ b → (T_Gr a).2.1 ≠ (T_Gr b).2.1 := by decide +kernel
theorem ty_Gr_ok : ∀ k, k < 9 → parseFieldDescriptor (T_Gr k).2.2.1 = some (ty_Gr k) := by decide +kernel
theorem in_Gr : ∀ w ∈ u_ws "MazeForms$Grid" T_Gr 9, w ∈ mz_tb := by decide +kernel
def T_Jo : u_T := fun k => match k with
  | 0 => ("MazeForms$Joined", "grid", "LMazeForms$Grid;", true)
  | _ => ("MazeForms$Joined", "parent", "[I", true)
def ty_Jo : Nat → FieldType := fun k => match k with
  | 0 => .object "MazeForms$Grid"
  | _ => .array .int
theorem nm_Jo : ∀ a, a < 2 → ∀ b, b < 2 → a ≠ b → (T_Jo a).2.1 ≠ (T_Jo b).2.1 := by decide +kernel
theorem ty_Jo_ok : ∀ k, k < 2 → parseFieldDescriptor (T_Jo k).2.2.1 = some (ty_Jo k) := by decide +kernel
theorem in_Jo : ∀ w ∈ u_ws "MazeForms$Joined" T_Jo 2, w ∈ mz_tb := by decide +kernel
def T_Mk : u_T := fun k => match k with
  | 0 => ("MazeForms$Maker", "grid", "LMazeForms$Grid;", true)
  | 1 => ("MazeForms$Maker", "joined", "LMazeForms$Joined;", true)
  | 2 => ("MazeForms$Maker", "flood", "LMazeForms$Flood;", true)
  | 3 => ("MazeForms$Maker", "choice", "LMazeForms$DoorRow;", true)
  | 4 => ("MazeForms$Maker", "reached", "[Z", true)
  | 5 => ("MazeForms$Maker", "trace", "[I", true)
  | _ => ("MazeForms$Maker", "opened", "I", false)
def ty_Mk : Nat → FieldType := fun k => match k with
  | 0 => .object "MazeForms$Grid"
  | 1 => .object "MazeForms$Joined"
  | 2 => .object "MazeForms$Flood"
  | 3 => .object "MazeForms$DoorRow"
  | 4 => .array .boolean
  | 5 => .array .int
  | _ => .int
theorem nm_Mk : ∀ a, a < 7 → ∀ b, b < 7 → a ≠ b → (T_Mk a).2.1 ≠ (T_Mk b).2.1 := by decide +kernel
theorem ty_Mk_ok : ∀ k, k < 7 → parseFieldDescriptor (T_Mk k).2.2.1 = some (ty_Mk k) := by decide +kernel
theorem in_Mk : ∀ w ∈ u_ws "MazeForms$Maker" T_Mk 7, w ∈ mz_tb := by decide +kernel
def T_Tr : u_T := fun k => match k with
  | 0 => ("MazeForms$Trail", "grid", "LMazeForms$Grid;", true)
  | 1 => ("MazeForms$Trail", "flood", "LMazeForms$Flood;", true)
  | 2 => ("MazeForms$Trail", "cells", "[I", true)
  | 3 => ("MazeForms$Trail", "length", "I", false)
  | _ => ("MazeForms$Trail", "edition", "I", false)
def ty_Tr : Nat → FieldType := fun k => match k with
  | 0 => .object "MazeForms$Grid"
  | 1 => .object "MazeForms$Flood"
  | 2 => .array .int
  | 3 => .int
  | _ => .int
theorem nm_Tr : ∀ a, a < 5 → ∀ b, b < 5 → a ≠ b → (T_Tr a).2.1 ≠ (T_Tr b).2.1 := by decide +kernel
theorem ty_Tr_ok : ∀ k, k < 5 → parseFieldDescriptor (T_Tr k).2.2.1 = some (ty_Tr k) := by decide +kernel
theorem in_Tr : ∀ w ∈ u_ws "MazeForms$Trail" T_Tr 5, w ∈ mz_tb := by decide +kernel
def T_Tc : u_T := fun k => match k with
  | 0 => ("MazeForms$TreeCount", "grid", "LMazeForms$Grid;", true)
  | 1 => ("MazeForms$TreeCount", "band", "I", true)
  | 2 => ("MazeForms$TreeCount", "stride", "I", true)
  | 3 => ("MazeForms$TreeCount", "placeOf", "[I", true)
  | 4 => ("MazeForms$TreeCount", "entries", "[J", true)
  | 5 => ("MazeForms$TreeCount", "size", "I", false)
  | _ => ("MazeForms$TreeCount", "prime", "J", false)
def ty_Tc : Nat → FieldType := fun k => match k with
  | 0 => .object "MazeForms$Grid"
  | 1 => .int
  | 2 => .int
  | 3 => .array .int
  | 4 => .array .long
  | 5 => .int
  | _ => .long
theorem nm_Tc : ∀ a, a < 7 → ∀ b, b < 7 → a ≠ b → (T_Tc a).2.1 ≠ (T_Tc b).2.1 := by decide +kernel
theorem ty_Tc_ok : ∀ k, k < 7 → parseFieldDescriptor (T_Tc k).2.2.1 = some (ty_Tc k) := by decide +kernel
theorem in_Tc : ∀ w ∈ u_ws "MazeForms$TreeCount" T_Tc 7, w ∈ mz_tb := by decide +kernel
def T_Mf : u_T := fun k => match k with
  | 0 => ("MazeForms", "grid", "LMazeForms$Grid;", true)
  | 1 => ("MazeForms", "joined", "LMazeForms$Joined;", true)
  | 2 => ("MazeForms", "maker", "LMazeForms$Maker;", true)
  | 3 => ("MazeForms", "trail", "LMazeForms$Trail;", true)
  | _ => ("MazeForms", "treeCount", "LMazeForms$TreeCount;", true)
def ty_Mf : Nat → FieldType := fun k => match k with
  | 0 => .object "MazeForms$Grid"
  | 1 => .object "MazeForms$Joined"
  | 2 => .object "MazeForms$Maker"
  | 3 => .object "MazeForms$Trail"
  | _ => .object "MazeForms$TreeCount"
theorem nm_Mf : ∀ a, a < 5 → ∀ b, b < 5 → a ≠ b → (T_Mf a).2.1 ≠ (T_Mf b).2.1 := by decide +kernel
theorem ty_Mf_ok : ∀ k, k < 5 → parseFieldDescriptor (T_Mf k).2.2.1 = some (ty_Mf k) := by decide +kernel
theorem in_Mf : ∀ w ∈ u_ws "MazeForms" T_Mf 5, w ∈ mz_tb := by decide +kernel
def T_Mo : u_T := fun k => match k with
  | 0 => ("MazeFormsModel", "thrown", "I", false)
  | 1 => ("MazeFormsModel", "width", "I", true)
  | 2 => ("MazeFormsModel", "height", "I", true)
  | 3 => ("MazeFormsModel", "chance", "J", false)
  | 4 => ("MazeFormsModel", "masked", "[Z", true)
  | 5 => ("MazeFormsModel", "doors", "I", false)
  | 6 => ("MazeFormsModel", "first", "[I", true)
  | 7 => ("MazeFormsModel", "second", "[I", true)
  | 8 => ("MazeFormsModel", "isOpen", "[Z", true)
  | 9 => ("MazeFormsModel", "in", "[Z", true)
  | 10 => ("MazeFormsModel", "kept", "[I", true)
  | 11 => ("MazeFormsModel", "came", "[I", true)
  | 12 => ("MazeFormsModel", "colours", "[I", true)
  | 13 => ("MazeFormsModel", "many", "I", false)
  | 14 => ("MazeFormsModel", "choice", "[I", true)
  | 15 => ("MazeFormsModel", "length", "I", false)
  | 16 => ("MazeFormsModel", "path", "[I", true)
  | 17 => ("MazeFormsModel", "far", "[I", true)
  | _ => ("MazeFormsModel", "square", "[J", true)
def ty_Mo : Nat → FieldType := fun k => match k with
  | 0 => .int
  | 1 => .int
  | 2 => .int
  | 3 => .long
  | 4 => .array .boolean
  | 5 => .int
  | 6 => .array .int
  | 7 => .array .int
  | 8 => .array .boolean
  | 9 => .array .boolean
  | 10 => .array .int
  | 11 => .array .int
  | 12 => .array .int
  | 13 => .int
  | 14 => .array .int
  | 15 => .int
  | 16 => .array .int
  | 17 => .array .int
  | _ => .array .long
theorem nm_Mo : ∀ a, a < 19 → ∀ b, b < 19 → a ≠ b → (T_Mo a).2.1 ≠ (T_Mo b).2.1 := by decide +kernel
theorem ty_Mo_ok : ∀ k, k < 19 → parseFieldDescriptor (T_Mo k).2.2.1 = some (ty_Mo k) := by decide +kernel
theorem in_Mo : ∀ w ∈ u_ws "MazeFormsModel" T_Mo 19, w ∈ mz_tb := by decide +kernel
abbrev mz_cls : List vw_C := [("MazeForms$Chance", T_Ch, 1), ("MazeForms$DoorRow", T_Dr, 3), ("MazeForms$Flood", T_Fl, 4), ("MazeForms$Grid", T_Gr, 9), ("MazeForms$Joined", T_Jo, 2), ("MazeForms$Maker", T_Mk, 7), ("MazeForms$Trail", T_Tr, 5), ("MazeForms$TreeCount", T_Tc, 7), ("MazeForms", T_Mf, 5), ("MazeFormsModel", T_Mo, 19)]
theorem mz_good : ∀ w ∈ mz_tb, goodWord w = true := fun w hw => (List.mem_filter.mp hw).2
theorem mz_inC {ws : List Cond} {c : Cond} (h : ∀ w ∈ ws, w ∈ mz_tb) : ∀ w ∈ ws, w ∈ c :: mz_tb := fun w hw => List.mem_cons_of_mem _ (h w hw)
theorem mz_gW {c0 cw : Cond} {ex : List Cond} (hex : ∀ w ∈ ex, w ∈ mz_tb) (h5 : cw ∈ mz_tb) : GoodIn (c0 :: mz_tb) (ex ++ cw :: mz_tb) := by
  intro w hw
  have h : w ∈ mz_tb := by
    rcases List.mem_append.mp hw with h | h
    · exact hex w h
    · rcases List.mem_cons.mp h with rfl | h
      · exact h5
      · exact h
  exact ⟨List.mem_cons_of_mem _ h, good_of_word (mz_good w h)⟩
theorem mz_gV {c0 cw : Cond} {own C : String} {idx : Nat} {y : MethodName} (h1 : Cond.methodLink own idx y ∈ mz_tb) (h2 : Cond.instanceMethod y ∈ mz_tb) (h3 : Cond.selects C y y ∈ mz_tb) (h4 : Cond.initialized C ∈ mz_tb) (h5 : cw ∈ mz_tb) : GoodIn (c0 :: mz_tb) (wsV own idx C y (cw :: mz_tb)) := by
  refine mz_gW (fun w hw => ?_) h5
  simp only [List.mem_cons, List.not_mem_nil, or_false] at hw
  rcases hw with rfl | rfl | rfl | rfl <;> assumption
theorem mz_gS {c0 cw : Cond} {own : String} {idx : Nat} {y : MethodName} (h1 : Cond.methodLink own idx y ∈ mz_tb) (h2 : Cond.static y ∈ mz_tb) (h4 : Cond.initialized own ∈ mz_tb) (h5 : cw ∈ mz_tb) : GoodIn (c0 :: mz_tb) (wsS own idx y (cw :: mz_tb)) := by
  refine mz_gW (fun w hw => ?_) h5
  simp only [List.mem_cons, List.not_mem_nil, or_false] at hw
  rcases hw with rfl | rfl | rfl <;> assumption
theorem mz_gSo {c0 cw : Cond} {own : String} {idx : Nat} {y : MethodName} (h1 : Cond.methodLink own idx y ∈ mz_tb) (h2 : Cond.static y ∈ mz_tb) (h4 : Cond.initialized y.cls ∈ mz_tb) (h5 : cw ∈ mz_tb) : GoodIn (c0 :: mz_tb) (va_wsS own idx y (cw :: mz_tb)) := by
  refine mz_gW (fun w hw => ?_) h5
  simp only [List.mem_cons, List.not_mem_nil, or_false] at hw
  rcases hw with rfl | rfl | rfl <;> assumption
theorem mz_All.cons {V : mz_K} {Q : mz_Q} {op : mz_Op} {k : Nat} {r : List (Nat × mz_Op)} (h1 : mz_Sd V Q op k) (h2 : mz_All V Q r) : mz_All V Q ((k, op) :: r) := And.intro h1 h2
def mz_dec (b : ByteArray) (l : List (Nat × ClassFile.Instr × Nat)) : Bool := l.all (fun q => decide (decode b q.1 = .ok q.2))
theorem mz_dg {b : ByteArray} {l : List (Nat × ClassFile.Instr × Nat)} (h : mz_dec b l = true) (i pc : Nat) (ins : ClassFile.Instr) (n : Nat) (hi : l[i]? = some (pc, ins, n)) : decode b pc = .ok (ins, n) := of_decide_eq_true (p := decode b (pc, ins, n).1 = .ok (pc, ins, n).2) (List.all_eq_true.mp h (pc, ins, n) (List.mem_of_getElem? hi))
set_option maxRecDepth 20000 in
theorem wm_0 : (.selects "MazeForms$Grid" (⟨"MazeForms$Grid", "numberDoors", "()V"⟩) (⟨"MazeForms$Grid", "numberDoors", "()V"⟩) : Cond) ∈ mz_tb := List.mem_filter.mpr ⟨List.mem_of_getElem? (i := 0) rfl, rfl⟩
set_option maxRecDepth 20000 in
theorem wm_1 : (.selects "MazeForms$Grid" (⟨"MazeForms$Grid", "addDoor", "(IIII)V"⟩) (⟨"MazeForms$Grid", "addDoor", "(IIII)V"⟩) : Cond) ∈ mz_tb := List.mem_filter.mpr ⟨List.mem_of_getElem? (i := 1) rfl, rfl⟩
set_option maxRecDepth 20000 in
theorem wm_2 : (.selects "MazeForms$Maker" (⟨"MazeForms$Maker", "goDeep", "()V"⟩) (⟨"MazeForms$Maker", "goDeep", "()V"⟩) : Cond) ∈ mz_tb := List.mem_filter.mpr ⟨List.mem_of_getElem? (i := 2) rfl, rfl⟩
set_option maxRecDepth 20000 in
theorem wm_3 : (.selects "MazeForms$Maker" (⟨"MazeForms$Maker", "begin", "(I)V"⟩) (⟨"MazeForms$Maker", "begin", "(I)V"⟩) : Cond) ∈ mz_tb := List.mem_filter.mpr ⟨List.mem_of_getElem? (i := 3) rfl, rfl⟩
set_option maxRecDepth 20000 in
theorem wm_4 : (.selects "MazeForms$Maker" (⟨"MazeForms$Maker", "enter", "(I)V"⟩) (⟨"MazeForms$Maker", "enter", "(I)V"⟩) : Cond) ∈ mz_tb := List.mem_filter.mpr ⟨List.mem_of_getElem? (i := 4) rfl, rfl⟩
set_option maxRecDepth 20000 in
theorem wm_5 : (.selects "MazeForms$Maker" (⟨"MazeForms$Maker", "offerUnreached", "(I)V"⟩) (⟨"MazeForms$Maker", "offerUnreached", "(I)V"⟩) : Cond) ∈ mz_tb := List.mem_filter.mpr ⟨List.mem_of_getElem? (i := 5) rfl, rfl⟩
set_option maxRecDepth 20000 in
theorem wm_6 : (.selects "MazeForms$Maker" (⟨"MazeForms$Maker", "isReached", "(I)Z"⟩) (⟨"MazeForms$Maker", "isReached", "(I)Z"⟩) : Cond) ∈ mz_tb := List.mem_filter.mpr ⟨List.mem_of_getElem? (i := 6) rfl, rfl⟩
set_option maxRecDepth 20000 in
theorem wm_7 : (.selects "MazeForms$Maker" (⟨"MazeForms$Maker", "traceOf", "(I)I"⟩) (⟨"MazeForms$Maker", "traceOf", "(I)I"⟩) : Cond) ∈ mz_tb := List.mem_filter.mpr ⟨List.mem_of_getElem? (i := 7) rfl, rfl⟩
set_option maxRecDepth 20000 in
theorem wm_8 : (.selects "MazeForms$Maker" (⟨"MazeForms$Maker", "openDoor", "(I)V"⟩) (⟨"MazeForms$Maker", "openDoor", "(I)V"⟩) : Cond) ∈ mz_tb := List.mem_filter.mpr ⟨List.mem_of_getElem? (i := 8) rfl, rfl⟩
set_option maxRecDepth 20000 in
theorem wm_9 : (.selects "MazeForms$Maker" (⟨"MazeForms$Maker", "setTrace", "(II)V"⟩) (⟨"MazeForms$Maker", "setTrace", "(II)V"⟩) : Cond) ∈ mz_tb := List.mem_filter.mpr ⟨List.mem_of_getElem? (i := 9) rfl, rfl⟩
set_option maxRecDepth 20000 in
theorem wm_10 : (.selects "MazeForms$Maker" (⟨"MazeForms$Maker", "joinSets", "()V"⟩) (⟨"MazeForms$Maker", "joinSets", "()V"⟩) : Cond) ∈ mz_tb := List.mem_filter.mpr ⟨List.mem_of_getElem? (i := 10) rfl, rfl⟩
set_option maxRecDepth 20000 in
theorem wm_11 : (.selects "MazeForms$DoorRow" (⟨"MazeForms$DoorRow", "exchange", "(II)V"⟩) (⟨"MazeForms$DoorRow", "exchange", "(II)V"⟩) : Cond) ∈ mz_tb := List.mem_filter.mpr ⟨List.mem_of_getElem? (i := 11) rfl, rfl⟩
set_option maxRecDepth 20000 in
theorem wm_12 : (.selects "MazeForms$Joined" (⟨"MazeForms$Joined", "root", "(I)I"⟩) (⟨"MazeForms$Joined", "root", "(I)I"⟩) : Cond) ∈ mz_tb := List.mem_filter.mpr ⟨List.mem_of_getElem? (i := 12) rfl, rfl⟩
set_option maxRecDepth 20000 in
theorem wm_13 : (.selects "MazeForms$Maker" (⟨"MazeForms$Maker", "grow", "()V"⟩) (⟨"MazeForms$Maker", "grow", "()V"⟩) : Cond) ∈ mz_tb := List.mem_filter.mpr ⟨List.mem_of_getElem? (i := 13) rfl, rfl⟩
set_option maxRecDepth 20000 in
theorem wm_14 : (.selects "MazeForms$Maker" (⟨"MazeForms$Maker", "offerRim", "()V"⟩) (⟨"MazeForms$Maker", "offerRim", "()V"⟩) : Cond) ∈ mz_tb := List.mem_filter.mpr ⟨List.mem_of_getElem? (i := 14) rfl, rfl⟩
set_option maxRecDepth 20000 in
theorem wm_15 : (.selects "MazeForms$Maker" (⟨"MazeForms$Maker", "walkAll", "()V"⟩) (⟨"MazeForms$Maker", "walkAll", "()V"⟩) : Cond) ∈ mz_tb := List.mem_filter.mpr ⟨List.mem_of_getElem? (i := 15) rfl, rfl⟩
set_option maxRecDepth 20000 in
theorem wm_16 : (.selects "MazeForms$Flood" (⟨"MazeForms$Flood", "reach", "(II)V"⟩) (⟨"MazeForms$Flood", "reach", "(II)V"⟩) : Cond) ∈ mz_tb := List.mem_filter.mpr ⟨List.mem_of_getElem? (i := 16) rfl, rfl⟩
set_option maxRecDepth 20000 in
theorem wm_17 : (.selects "MazeForms$Flood" (⟨"MazeForms$Flood", "spreadOn", "(IZ)V"⟩) (⟨"MazeForms$Flood", "spreadOn", "(IZ)V"⟩) : Cond) ∈ mz_tb := List.mem_filter.mpr ⟨List.mem_of_getElem? (i := 17) rfl, rfl⟩
set_option maxRecDepth 20000 in
theorem wm_18 : (.selects "MazeForms$Maker" (⟨"MazeForms$Maker", "walkToTree", "(I)Z"⟩) (⟨"MazeForms$Maker", "walkToTree", "(I)Z"⟩) : Cond) ∈ mz_tb := List.mem_filter.mpr ⟨List.mem_of_getElem? (i := 18) rfl, rfl⟩
set_option maxRecDepth 20000 in
theorem wm_19 : (.selects "MazeForms$Maker" (⟨"MazeForms$Maker", "offerAll", "(I)V"⟩) (⟨"MazeForms$Maker", "offerAll", "(I)V"⟩) : Cond) ∈ mz_tb := List.mem_filter.mpr ⟨List.mem_of_getElem? (i := 19) rfl, rfl⟩
set_option maxRecDepth 20000 in
theorem wm_20 : (.selects "MazeForms$Maker" (⟨"MazeForms$Maker", "joinWalk", "(I)V"⟩) (⟨"MazeForms$Maker", "joinWalk", "(I)V"⟩) : Cond) ∈ mz_tb := List.mem_filter.mpr ⟨List.mem_of_getElem? (i := 20) rfl, rfl⟩
set_option maxRecDepth 20000 in
theorem wm_21 : (.selects "MazeForms$Maker" (⟨"MazeForms$Maker", "comb", "()V"⟩) (⟨"MazeForms$Maker", "comb", "()V"⟩) : Cond) ∈ mz_tb := List.mem_filter.mpr ⟨List.mem_of_getElem? (i := 21) rfl, rfl⟩
set_option maxRecDepth 20000 in
theorem wm_22 : (.selects "MazeForms$Trail" (⟨"MazeForms$Trail", "nearerCell", "(I)I"⟩) (⟨"MazeForms$Trail", "nearerCell", "(I)I"⟩) : Cond) ∈ mz_tb := List.mem_filter.mpr ⟨List.mem_of_getElem? (i := 22) rfl, rfl⟩
set_option maxRecDepth 20000 in
theorem wm_23 : (.selects "MazeForms$Trail" (⟨"MazeForms$Trail", "isFound", "()Z"⟩) (⟨"MazeForms$Trail", "isFound", "()Z"⟩) : Cond) ∈ mz_tb := List.mem_filter.mpr ⟨List.mem_of_getElem? (i := 23) rfl, rfl⟩
set_option maxRecDepth 20000 in
theorem wm_24 : (.selects "MazeForms$TreeCount" (⟨"MazeForms$TreeCount", "numberFreeCells", "()I"⟩) (⟨"MazeForms$TreeCount", "numberFreeCells", "()I"⟩) : Cond) ∈ mz_tb := List.mem_filter.mpr ⟨List.mem_of_getElem? (i := 24) rfl, rfl⟩
set_option maxRecDepth 20000 in
theorem wm_25 : (.selects "MazeForms$TreeCount" (⟨"MazeForms$TreeCount", "fillIn", "()V"⟩) (⟨"MazeForms$TreeCount", "fillIn", "()V"⟩) : Cond) ∈ mz_tb := List.mem_filter.mpr ⟨List.mem_of_getElem? (i := 25) rfl, rfl⟩
set_option maxRecDepth 20000 in
theorem wm_26 : (.selects "MazeForms$TreeCount" (⟨"MazeForms$TreeCount", "placeIn", "(I)I"⟩) (⟨"MazeForms$TreeCount", "placeIn", "(I)I"⟩) : Cond) ∈ mz_tb := List.mem_filter.mpr ⟨List.mem_of_getElem? (i := 26) rfl, rfl⟩
set_option maxRecDepth 20000 in
theorem wm_27 : (.selects "MazeForms$TreeCount" (⟨"MazeForms$TreeCount", "addTo", "(IIJ)V"⟩) (⟨"MazeForms$TreeCount", "addTo", "(IIJ)V"⟩) : Cond) ∈ mz_tb := List.mem_filter.mpr ⟨List.mem_of_getElem? (i := 27) rfl, rfl⟩
set_option maxRecDepth 20000 in
theorem wm_28 : (.selects "MazeForms$TreeCount" (⟨"MazeForms$TreeCount", "slotOf", "(II)I"⟩) (⟨"MazeForms$TreeCount", "slotOf", "(II)I"⟩) : Cond) ∈ mz_tb := List.mem_filter.mpr ⟨List.mem_of_getElem? (i := 28) rfl, rfl⟩
set_option maxRecDepth 20000 in
theorem wm_29 : (.selects "MazeForms$TreeCount" (⟨"MazeForms$TreeCount", "determinant", "()J"⟩) (⟨"MazeForms$TreeCount", "determinant", "()J"⟩) : Cond) ∈ mz_tb := List.mem_filter.mpr ⟨List.mem_of_getElem? (i := 29) rfl, rfl⟩
set_option maxRecDepth 20000 in
theorem wm_30 : (.selects "MazeForms$TreeCount" (⟨"MazeForms$TreeCount", "pivotRow", "(I)I"⟩) (⟨"MazeForms$TreeCount", "pivotRow", "(I)I"⟩) : Cond) ∈ mz_tb := List.mem_filter.mpr ⟨List.mem_of_getElem? (i := 30) rfl, rfl⟩
set_option maxRecDepth 20000 in
theorem wm_31 : (.selects "MazeForms$TreeCount" (⟨"MazeForms$TreeCount", "lastRow", "(I)I"⟩) (⟨"MazeForms$TreeCount", "lastRow", "(I)I"⟩) : Cond) ∈ mz_tb := List.mem_filter.mpr ⟨List.mem_of_getElem? (i := 31) rfl, rfl⟩
set_option maxRecDepth 20000 in
theorem wm_32 : (.selects "MazeForms$TreeCount" (⟨"MazeForms$TreeCount", "entry", "(II)J"⟩) (⟨"MazeForms$TreeCount", "entry", "(II)J"⟩) : Cond) ∈ mz_tb := List.mem_filter.mpr ⟨List.mem_of_getElem? (i := 32) rfl, rfl⟩
set_option maxRecDepth 20000 in
theorem wm_33 : (.selects "MazeForms$TreeCount" (⟨"MazeForms$TreeCount", "exchangeRows", "(II)V"⟩) (⟨"MazeForms$TreeCount", "exchangeRows", "(II)V"⟩) : Cond) ∈ mz_tb := List.mem_filter.mpr ⟨List.mem_of_getElem? (i := 33) rfl, rfl⟩
set_option maxRecDepth 20000 in
theorem wm_34 : (.selects "MazeForms$TreeCount" (⟨"MazeForms$TreeCount", "lastColumn", "(I)I"⟩) (⟨"MazeForms$TreeCount", "lastColumn", "(I)I"⟩) : Cond) ∈ mz_tb := List.mem_filter.mpr ⟨List.mem_of_getElem? (i := 34) rfl, rfl⟩
set_option maxRecDepth 20000 in
theorem wm_35 : (.selects "MazeForms$TreeCount" (⟨"MazeForms$TreeCount", "times", "(JJ)J"⟩) (⟨"MazeForms$TreeCount", "times", "(JJ)J"⟩) : Cond) ∈ mz_tb := List.mem_filter.mpr ⟨List.mem_of_getElem? (i := 35) rfl, rfl⟩
set_option maxRecDepth 20000 in
theorem wm_36 : (.selects "MazeForms$TreeCount" (⟨"MazeForms$TreeCount", "clearBelow", "(I)V"⟩) (⟨"MazeForms$TreeCount", "clearBelow", "(I)V"⟩) : Cond) ∈ mz_tb := List.mem_filter.mpr ⟨List.mem_of_getElem? (i := 36) rfl, rfl⟩
set_option maxRecDepth 20000 in
theorem wm_37 : (.selects "MazeForms$TreeCount" (⟨"MazeForms$TreeCount", "inverse", "(J)J"⟩) (⟨"MazeForms$TreeCount", "inverse", "(J)J"⟩) : Cond) ∈ mz_tb := List.mem_filter.mpr ⟨List.mem_of_getElem? (i := 37) rfl, rfl⟩
set_option maxRecDepth 20000 in
theorem wm_38 : (.selects "MazeForms$TreeCount" (⟨"MazeForms$TreeCount", "addRow", "(IIJ)V"⟩) (⟨"MazeForms$TreeCount", "addRow", "(IIJ)V"⟩) : Cond) ∈ mz_tb := List.mem_filter.mpr ⟨List.mem_of_getElem? (i := 38) rfl, rfl⟩
set_option maxRecDepth 20000 in
theorem wm_39 : (.selects "MazeFormsModel" (⟨"MazeFormsModel", "number", "()V"⟩) (⟨"MazeFormsModel", "number", "()V"⟩) : Cond) ∈ mz_tb := List.mem_filter.mpr ⟨List.mem_of_getElem? (i := 39) rfl, rfl⟩
set_option maxRecDepth 20000 in
theorem wm_40 : (.selects "MazeFormsModel" (⟨"MazeFormsModel", "cells", "()I"⟩) (⟨"MazeFormsModel", "cells", "()I"⟩) : Cond) ∈ mz_tb := List.mem_filter.mpr ⟨List.mem_of_getElem? (i := 40) rfl, rfl⟩
set_option maxRecDepth 20000 in
theorem wm_41 : (.selects "MazeFormsModel" (⟨"MazeFormsModel", "addDoor", "(II)V"⟩) (⟨"MazeFormsModel", "addDoor", "(II)V"⟩) : Cond) ∈ mz_tb := List.mem_filter.mpr ⟨List.mem_of_getElem? (i := 41) rfl, rfl⟩
set_option maxRecDepth 20000 in
theorem wm_42 : (.selects "MazeFormsModel" (⟨"MazeFormsModel", "firstCell", "()I"⟩) (⟨"MazeFormsModel", "firstCell", "()I"⟩) : Cond) ∈ mz_tb := List.mem_filter.mpr ⟨List.mem_of_getElem? (i := 42) rfl, rfl⟩
set_option maxRecDepth 20000 in
theorem wm_43 : (.selects "MazeFormsModel" (⟨"MazeFormsModel", "deep", "(I)V"⟩) (⟨"MazeFormsModel", "deep", "(I)V"⟩) : Cond) ∈ mz_tb := List.mem_filter.mpr ⟨List.mem_of_getElem? (i := 43) rfl, rfl⟩
set_option maxRecDepth 20000 in
theorem wm_44 : (.selects "MazeFormsModel" (⟨"MazeFormsModel", "none", "()V"⟩) (⟨"MazeFormsModel", "none", "()V"⟩) : Cond) ∈ mz_tb := List.mem_filter.mpr ⟨List.mem_of_getElem? (i := 44) rfl, rfl⟩
set_option maxRecDepth 20000 in
theorem wm_45 : (.selects "MazeFormsModel" (⟨"MazeFormsModel", "doorAt", "(II)I"⟩) (⟨"MazeFormsModel", "doorAt", "(II)I"⟩) : Cond) ∈ mz_tb := List.mem_filter.mpr ⟨List.mem_of_getElem? (i := 45) rfl, rfl⟩
set_option maxRecDepth 20000 in
theorem wm_46 : (.selects "MazeFormsModel" (⟨"MazeFormsModel", "beside", "(II)I"⟩) (⟨"MazeFormsModel", "beside", "(II)I"⟩) : Cond) ∈ mz_tb := List.mem_filter.mpr ⟨List.mem_of_getElem? (i := 46) rfl, rfl⟩
set_option maxRecDepth 20000 in
theorem wm_47 : (.selects "MazeFormsModel" (⟨"MazeFormsModel", "isCell", "(I)Z"⟩) (⟨"MazeFormsModel", "isCell", "(I)Z"⟩) : Cond) ∈ mz_tb := List.mem_filter.mpr ⟨List.mem_of_getElem? (i := 47) rfl, rfl⟩
set_option maxRecDepth 20000 in
theorem wm_48 : (.selects "MazeFormsModel" (⟨"MazeFormsModel", "doorOf", "(II)I"⟩) (⟨"MazeFormsModel", "doorOf", "(II)I"⟩) : Cond) ∈ mz_tb := List.mem_filter.mpr ⟨List.mem_of_getElem? (i := 48) rfl, rfl⟩
set_option maxRecDepth 20000 in
theorem wm_49 : (.selects "MazeFormsModel" (⟨"MazeFormsModel", "across", "(II)I"⟩) (⟨"MazeFormsModel", "across", "(II)I"⟩) : Cond) ∈ mz_tb := List.mem_filter.mpr ⟨List.mem_of_getElem? (i := 49) rfl, rfl⟩
set_option maxRecDepth 20000 in
theorem wm_50 : (.selects "MazeFormsModel" (⟨"MazeFormsModel", "below", "(I)I"⟩) (⟨"MazeFormsModel", "below", "(I)I"⟩) : Cond) ∈ mz_tb := List.mem_filter.mpr ⟨List.mem_of_getElem? (i := 50) rfl, rfl⟩
set_option maxRecDepth 20000 in
theorem wm_51 : (.selects "MazeFormsModel" (⟨"MazeFormsModel", "sets", "()V"⟩) (⟨"MazeFormsModel", "sets", "()V"⟩) : Cond) ∈ mz_tb := List.mem_filter.mpr ⟨List.mem_of_getElem? (i := 51) rfl, rfl⟩
set_option maxRecDepth 20000 in
theorem wm_52 : (.selects "MazeFormsModel" (⟨"MazeFormsModel", "grown", "(I)V"⟩) (⟨"MazeFormsModel", "grown", "(I)V"⟩) : Cond) ∈ mz_tb := List.mem_filter.mpr ⟨List.mem_of_getElem? (i := 52) rfl, rfl⟩
set_option maxRecDepth 20000 in
theorem wm_53 : (.selects "MazeFormsModel" (⟨"MazeFormsModel", "walked", "(I)V"⟩) (⟨"MazeFormsModel", "walked", "(I)V"⟩) : Cond) ∈ mz_tb := List.mem_filter.mpr ⟨List.mem_of_getElem? (i := 53) rfl, rfl⟩
set_option maxRecDepth 20000 in
theorem wm_54 : (.selects "MazeFormsModel" (⟨"MazeFormsModel", "colour", "(Z)V"⟩) (⟨"MazeFormsModel", "colour", "(Z)V"⟩) : Cond) ∈ mz_tb := List.mem_filter.mpr ⟨List.mem_of_getElem? (i := 54) rfl, rfl⟩
set_option maxRecDepth 20000 in
theorem wm_55 : (.selects "MazeFormsModel" (⟨"MazeFormsModel", "combed", "()V"⟩) (⟨"MazeFormsModel", "combed", "()V"⟩) : Cond) ∈ mz_tb := List.mem_filter.mpr ⟨List.mem_of_getElem? (i := 55) rfl, rfl⟩
set_option maxRecDepth 20000 in
theorem wm_56 : (.selects "MazeFormsModel" (⟨"MazeFormsModel", "openDoors", "()I"⟩) (⟨"MazeFormsModel", "openDoors", "()I"⟩) : Cond) ∈ mz_tb := List.mem_filter.mpr ⟨List.mem_of_getElem? (i := 56) rfl, rfl⟩
set_option maxRecDepth 20000 in
theorem wm_57 : (.selects "MazeFormsModel" (⟨"MazeFormsModel", "spread", "(I)V"⟩) (⟨"MazeFormsModel", "spread", "(I)V"⟩) : Cond) ∈ mz_tb := List.mem_filter.mpr ⟨List.mem_of_getElem? (i := 57) rfl, rfl⟩
set_option maxRecDepth 20000 in
theorem wm_58 : (.selects "MazeFormsModel" (⟨"MazeFormsModel", "leads", "(II)Z"⟩) (⟨"MazeFormsModel", "leads", "(II)Z"⟩) : Cond) ∈ mz_tb := List.mem_filter.mpr ⟨List.mem_of_getElem? (i := 58) rfl, rfl⟩
set_option maxRecDepth 20000 in
theorem wm_59 : (.selects "MazeFormsModel" (⟨"MazeFormsModel", "openAt", "(I)I"⟩) (⟨"MazeFormsModel", "openAt", "(I)I"⟩) : Cond) ∈ mz_tb := List.mem_filter.mpr ⟨List.mem_of_getElem? (i := 59) rfl, rfl⟩
set_option maxRecDepth 20000 in
theorem wm_60 : (.selects "MazeFormsModel" (⟨"MazeFormsModel", "countParts", "()I"⟩) (⟨"MazeFormsModel", "countParts", "()I"⟩) : Cond) ∈ mz_tb := List.mem_filter.mpr ⟨List.mem_of_getElem? (i := 60) rfl, rfl⟩
set_option maxRecDepth 20000 in
theorem wm_61 : (.selects "MazeFormsModel" (⟨"MazeFormsModel", "cellsThere", "()I"⟩) (⟨"MazeFormsModel", "cellsThere", "()I"⟩) : Cond) ∈ mz_tb := List.mem_filter.mpr ⟨List.mem_of_getElem? (i := 61) rfl, rfl⟩
set_option maxRecDepth 20000 in
theorem wm_62 : (.selects "MazeFormsModel" (⟨"MazeFormsModel", "add", "(IIJJ)V"⟩) (⟨"MazeFormsModel", "add", "(IIJJ)V"⟩) : Cond) ∈ mz_tb := List.mem_filter.mpr ⟨List.mem_of_getElem? (i := 62) rfl, rfl⟩
set_option maxRecDepth 20000 in
theorem wm_63 : (.selects "MazeFormsModel" (⟨"MazeFormsModel", "determinant", "(J)J"⟩) (⟨"MazeFormsModel", "determinant", "(J)J"⟩) : Cond) ∈ mz_tb := List.mem_filter.mpr ⟨List.mem_of_getElem? (i := 63) rfl, rfl⟩
set_option maxRecDepth 20000 in
theorem wm_64 : (.selects "MazeFormsModel" (⟨"MazeFormsModel", "get", "(II)J"⟩) (⟨"MazeFormsModel", "get", "(II)J"⟩) : Cond) ∈ mz_tb := List.mem_filter.mpr ⟨List.mem_of_getElem? (i := 64) rfl, rfl⟩
set_option maxRecDepth 20000 in
theorem wm_67 : (.initialized "MazeForms$Grid" : Cond) ∈ mz_tb := List.mem_filter.mpr ⟨List.mem_of_getElem? (i := 67) rfl, rfl⟩
set_option maxRecDepth 20000 in
theorem wm_68 : (.initialized "java/lang/Math" : Cond) ∈ mz_tb := List.mem_filter.mpr ⟨List.mem_of_getElem? (i := 68) rfl, rfl⟩
set_option maxRecDepth 20000 in
theorem wm_69 : (.initialized "java/util/Arrays" : Cond) ∈ mz_tb := List.mem_filter.mpr ⟨List.mem_of_getElem? (i := 69) rfl, rfl⟩
set_option maxRecDepth 20000 in
theorem wm_70 : (.initialized "MazeForms$Joined" : Cond) ∈ mz_tb := List.mem_filter.mpr ⟨List.mem_of_getElem? (i := 70) rfl, rfl⟩
set_option maxRecDepth 20000 in
theorem wm_71 : (.initialized "MazeForms$Flood" : Cond) ∈ mz_tb := List.mem_filter.mpr ⟨List.mem_of_getElem? (i := 71) rfl, rfl⟩
set_option maxRecDepth 20000 in
theorem wm_72 : (.initialized "MazeForms$Maker" : Cond) ∈ mz_tb := List.mem_filter.mpr ⟨List.mem_of_getElem? (i := 72) rfl, rfl⟩
set_option maxRecDepth 20000 in
theorem wm_73 : (.initialized "MazeForms$Chance" : Cond) ∈ mz_tb := List.mem_filter.mpr ⟨List.mem_of_getElem? (i := 73) rfl, rfl⟩
set_option maxRecDepth 20000 in
theorem wm_74 : (.initialized "MazeForms$DoorRow" : Cond) ∈ mz_tb := List.mem_filter.mpr ⟨List.mem_of_getElem? (i := 74) rfl, rfl⟩
set_option maxRecDepth 20000 in
theorem wm_75 : (.initialized "MazeForms$Trail" : Cond) ∈ mz_tb := List.mem_filter.mpr ⟨List.mem_of_getElem? (i := 75) rfl, rfl⟩
set_option maxRecDepth 20000 in
theorem wm_76 : (.initialized "MazeForms$TreeCount" : Cond) ∈ mz_tb := List.mem_filter.mpr ⟨List.mem_of_getElem? (i := 76) rfl, rfl⟩
set_option maxRecDepth 20000 in
theorem wm_77 : (.initialized "MazeFormsModel" : Cond) ∈ mz_tb := List.mem_filter.mpr ⟨List.mem_of_getElem? (i := 77) rfl, rfl⟩
set_option maxRecDepth 20000 in
theorem wm_95 : (.methodLink "MazeForms$Grid" 65 (⟨"java/lang/Math", "min", "(II)I"⟩) : Cond) ∈ mz_tb := List.mem_filter.mpr ⟨List.mem_of_getElem? (i := 95) rfl, rfl⟩
set_option maxRecDepth 20000 in
theorem wm_96 : (.static (⟨"java/lang/Math", "min", "(II)I"⟩) : Cond) ∈ mz_tb := List.mem_filter.mpr ⟨List.mem_of_getElem? (i := 96) rfl, rfl⟩
set_option maxRecDepth 20000 in
theorem wm_97 : (.code (⟨"java/lang/Math", "min", "(II)I"⟩) prog_12_method_69_code 2 (some .int) : Cond) ∈ mz_tb := List.mem_filter.mpr ⟨List.mem_of_getElem? (i := 97) rfl, rfl⟩
set_option maxRecDepth 20000 in
theorem wm_98 : (.methodLink "MazeForms$Grid" 70 (⟨"java/lang/Math", "max", "(II)I"⟩) : Cond) ∈ mz_tb := List.mem_filter.mpr ⟨List.mem_of_getElem? (i := 98) rfl, rfl⟩
set_option maxRecDepth 20000 in
theorem wm_99 : (.static (⟨"java/lang/Math", "max", "(II)I"⟩) : Cond) ∈ mz_tb := List.mem_filter.mpr ⟨List.mem_of_getElem? (i := 99) rfl, rfl⟩
set_option maxRecDepth 20000 in
theorem wm_100 : (.code (⟨"java/lang/Math", "max", "(II)I"⟩) prog_12_method_65_code 2 (some .int) : Cond) ∈ mz_tb := List.mem_filter.mpr ⟨List.mem_of_getElem? (i := 100) rfl, rfl⟩
set_option maxRecDepth 20000 in
theorem wm_101 : (.methodLink "MazeForms$Grid" 39 (⟨"MazeForms$Grid", "numberDoors", "()V"⟩) : Cond) ∈ mz_tb := List.mem_filter.mpr ⟨List.mem_of_getElem? (i := 101) rfl, rfl⟩
set_option maxRecDepth 20000 in
theorem wm_103 : (.instanceMethod (⟨"MazeForms$Grid", "numberDoors", "()V"⟩) : Cond) ∈ mz_tb := List.mem_filter.mpr ⟨List.mem_of_getElem? (i := 103) rfl, rfl⟩
set_option maxRecDepth 20000 in
theorem wm_104 : (.code (⟨"MazeForms$Grid", "numberDoors", "()V"⟩) prog_5_method_24_code 4 none : Cond) ∈ mz_tb := List.mem_filter.mpr ⟨List.mem_of_getElem? (i := 104) rfl, rfl⟩
set_option maxRecDepth 20000 in
theorem wm_105 : (.methodLink "MazeForms$Grid" 73 (⟨"java/util/Arrays", "fill", "([II)V"⟩) : Cond) ∈ mz_tb := List.mem_filter.mpr ⟨List.mem_of_getElem? (i := 105) rfl, rfl⟩
set_option maxRecDepth 20000 in
theorem wm_106 : (.static (⟨"java/util/Arrays", "fill", "([II)V"⟩) : Cond) ∈ mz_tb := List.mem_filter.mpr ⟨List.mem_of_getElem? (i := 106) rfl, rfl⟩
set_option maxRecDepth 20000 in
theorem wm_107 : (.code (⟨"java/util/Arrays", "fill", "([II)V"⟩) prog_13_method_103_code 4 none : Cond) ∈ mz_tb := List.mem_filter.mpr ⟨List.mem_of_getElem? (i := 107) rfl, rfl⟩
set_option maxRecDepth 20000 in
theorem wm_108 : (.methodLink "MazeForms$Grid" 79 (⟨"MazeForms$Grid", "cellAt", "(II)I"⟩) : Cond) ∈ mz_tb := List.mem_filter.mpr ⟨List.mem_of_getElem? (i := 108) rfl, rfl⟩
set_option maxRecDepth 20000 in
theorem wm_109 : (.instanceMethod (⟨"MazeForms$Grid", "cellAt", "(II)I"⟩) : Cond) ∈ mz_tb := List.mem_filter.mpr ⟨List.mem_of_getElem? (i := 109) rfl, rfl⟩
set_option maxRecDepth 20000 in
theorem wm_110 : (.selects "MazeForms$Grid" (⟨"MazeForms$Grid", "cellAt", "(II)I"⟩) (⟨"MazeForms$Grid", "cellAt", "(II)I"⟩) : Cond) ∈ mz_tb := List.mem_filter.mpr ⟨List.mem_of_getElem? (i := 110) rfl, rfl⟩
set_option maxRecDepth 20000 in
theorem wm_111 : (.code (⟨"MazeForms$Grid", "cellAt", "(II)I"⟩) prog_5_method_7_code 4 (some .int) : Cond) ∈ mz_tb := List.mem_filter.mpr ⟨List.mem_of_getElem? (i := 111) rfl, rfl⟩
set_option maxRecDepth 20000 in
theorem wm_112 : (.methodLink "MazeForms$Grid" 82 (⟨"MazeForms$Grid", "addDoor", "(IIII)V"⟩) : Cond) ∈ mz_tb := List.mem_filter.mpr ⟨List.mem_of_getElem? (i := 112) rfl, rfl⟩
set_option maxRecDepth 20000 in
theorem wm_114 : (.instanceMethod (⟨"MazeForms$Grid", "addDoor", "(IIII)V"⟩) : Cond) ∈ mz_tb := List.mem_filter.mpr ⟨List.mem_of_getElem? (i := 114) rfl, rfl⟩
set_option maxRecDepth 20000 in
theorem wm_115 : (.code (⟨"MazeForms$Grid", "addDoor", "(IIII)V"⟩) prog_5_method_25_code 5 none : Cond) ∈ mz_tb := List.mem_filter.mpr ⟨List.mem_of_getElem? (i := 115) rfl, rfl⟩
set_option maxRecDepth 20000 in
theorem wm_116 : (.methodLink "MazeForms$Grid" 86 (⟨"MazeForms$Grid", "isFree", "(I)Z"⟩) : Cond) ∈ mz_tb := List.mem_filter.mpr ⟨List.mem_of_getElem? (i := 116) rfl, rfl⟩
set_option maxRecDepth 20000 in
theorem wm_117 : (.instanceMethod (⟨"MazeForms$Grid", "isFree", "(I)Z"⟩) : Cond) ∈ mz_tb := List.mem_filter.mpr ⟨List.mem_of_getElem? (i := 117) rfl, rfl⟩
set_option maxRecDepth 20000 in
theorem wm_118 : (.selects "MazeForms$Grid" (⟨"MazeForms$Grid", "isFree", "(I)Z"⟩) (⟨"MazeForms$Grid", "isFree", "(I)Z"⟩) : Cond) ∈ mz_tb := List.mem_filter.mpr ⟨List.mem_of_getElem? (i := 118) rfl, rfl⟩
set_option maxRecDepth 20000 in
theorem wm_119 : (.code (⟨"MazeForms$Grid", "isFree", "(I)Z"⟩) prog_5_method_9_code 2 (some .boolean) : Cond) ∈ mz_tb := List.mem_filter.mpr ⟨List.mem_of_getElem? (i := 119) rfl, rfl⟩
set_option maxRecDepth 20000 in
theorem wm_120 : (.methodLink "MazeForms$Grid" 48 (⟨"MazeForms$Grid", "isCell", "(I)Z"⟩) : Cond) ∈ mz_tb := List.mem_filter.mpr ⟨List.mem_of_getElem? (i := 120) rfl, rfl⟩
set_option maxRecDepth 20000 in
theorem wm_121 : (.instanceMethod (⟨"MazeForms$Grid", "isCell", "(I)Z"⟩) : Cond) ∈ mz_tb := List.mem_filter.mpr ⟨List.mem_of_getElem? (i := 121) rfl, rfl⟩
set_option maxRecDepth 20000 in
theorem wm_122 : (.selects "MazeForms$Grid" (⟨"MazeForms$Grid", "isCell", "(I)Z"⟩) (⟨"MazeForms$Grid", "isCell", "(I)Z"⟩) : Cond) ∈ mz_tb := List.mem_filter.mpr ⟨List.mem_of_getElem? (i := 122) rfl, rfl⟩
set_option maxRecDepth 20000 in
theorem wm_123 : (.code (⟨"MazeForms$Grid", "isCell", "(I)Z"⟩) prog_5_method_8_code 2 (some .boolean) : Cond) ∈ mz_tb := List.mem_filter.mpr ⟨List.mem_of_getElem? (i := 123) rfl, rfl⟩
set_option maxRecDepth 20000 in
theorem wm_124 : (.fieldLink "MazeForms$Grid" 15 "MazeForms$Grid" "width" "I" : Cond) ∈ mz_tb := List.mem_filter.mpr ⟨List.mem_of_getElem? (i := 124) rfl, rfl⟩
set_option maxRecDepth 20000 in
theorem wm_125 : (.fieldLink "MazeForms$Grid" 19 "MazeForms$Grid" "height" "I" : Cond) ∈ mz_tb := List.mem_filter.mpr ⟨List.mem_of_getElem? (i := 125) rfl, rfl⟩
set_option maxRecDepth 20000 in
theorem wm_126 : (.fieldLink "MazeForms$Grid" 22 "MazeForms$Grid" "masked" "[Z" : Cond) ∈ mz_tb := List.mem_filter.mpr ⟨List.mem_of_getElem? (i := 126) rfl, rfl⟩
set_option maxRecDepth 20000 in
theorem wm_127 : (.fieldLink "MazeForms$Grid" 26 "MazeForms$Grid" "doorOnSide" "[I" : Cond) ∈ mz_tb := List.mem_filter.mpr ⟨List.mem_of_getElem? (i := 127) rfl, rfl⟩
set_option maxRecDepth 20000 in
theorem wm_128 : (.fieldLink "MazeForms$Grid" 30 "MazeForms$Grid" "lesserCell" "[I" : Cond) ∈ mz_tb := List.mem_filter.mpr ⟨List.mem_of_getElem? (i := 128) rfl, rfl⟩
set_option maxRecDepth 20000 in
theorem wm_129 : (.fieldLink "MazeForms$Grid" 33 "MazeForms$Grid" "greaterCell" "[I" : Cond) ∈ mz_tb := List.mem_filter.mpr ⟨List.mem_of_getElem? (i := 129) rfl, rfl⟩
set_option maxRecDepth 20000 in
theorem wm_130 : (.fieldLink "MazeForms$Grid" 36 "MazeForms$Grid" "doorOpen" "[Z" : Cond) ∈ mz_tb := List.mem_filter.mpr ⟨List.mem_of_getElem? (i := 130) rfl, rfl⟩
set_option maxRecDepth 20000 in
theorem wm_131 : (.fieldLink "MazeForms$Grid" 42 "MazeForms$Grid" "doorCount" "I" : Cond) ∈ mz_tb := List.mem_filter.mpr ⟨List.mem_of_getElem? (i := 131) rfl, rfl⟩
set_option maxRecDepth 20000 in
theorem wm_132 : (.fieldLink "MazeForms$Grid" 45 "MazeForms$Grid" "edition" "I" : Cond) ∈ mz_tb := List.mem_filter.mpr ⟨List.mem_of_getElem? (i := 132) rfl, rfl⟩
set_option maxRecDepth 20000 in
theorem wm_161 : (.instanceMethod (⟨"MazeForms$Grid", "cellCount", "()I"⟩) : Cond) ∈ mz_tb := List.mem_filter.mpr ⟨List.mem_of_getElem? (i := 161) rfl, rfl⟩
set_option maxRecDepth 20000 in
theorem wm_162 : (.selects "MazeForms$Grid" (⟨"MazeForms$Grid", "cellCount", "()I"⟩) (⟨"MazeForms$Grid", "cellCount", "()I"⟩) : Cond) ∈ mz_tb := List.mem_filter.mpr ⟨List.mem_of_getElem? (i := 162) rfl, rfl⟩
set_option maxRecDepth 20000 in
theorem wm_163 : (.code (⟨"MazeForms$Grid", "cellCount", "()I"⟩) prog_5_method_3_code 1 (some .int) : Cond) ∈ mz_tb := List.mem_filter.mpr ⟨List.mem_of_getElem? (i := 163) rfl, rfl⟩
set_option maxRecDepth 20000 in
theorem wm_164 : (.fieldLink "MazeForms$Joined" 9 "MazeForms$Joined" "grid" "LMazeForms$Grid;" : Cond) ∈ mz_tb := List.mem_filter.mpr ⟨List.mem_of_getElem? (i := 164) rfl, rfl⟩
set_option maxRecDepth 20000 in
theorem wm_165 : (.fieldLink "MazeForms$Joined" 21 "MazeForms$Joined" "parent" "[I" : Cond) ∈ mz_tb := List.mem_filter.mpr ⟨List.mem_of_getElem? (i := 165) rfl, rfl⟩
set_option maxRecDepth 20000 in
theorem wm_178 : (.fieldLink "MazeForms$Flood" 9 "MazeForms$Flood" "grid" "LMazeForms$Grid;" : Cond) ∈ mz_tb := List.mem_filter.mpr ⟨List.mem_of_getElem? (i := 178) rfl, rfl⟩
set_option maxRecDepth 20000 in
theorem wm_179 : (.fieldLink "MazeForms$Flood" 21 "MazeForms$Flood" "steps" "[I" : Cond) ∈ mz_tb := List.mem_filter.mpr ⟨List.mem_of_getElem? (i := 179) rfl, rfl⟩
set_option maxRecDepth 20000 in
theorem wm_180 : (.fieldLink "MazeForms$Flood" 25 "MazeForms$Flood" "queue" "[I" : Cond) ∈ mz_tb := List.mem_filter.mpr ⟨List.mem_of_getElem? (i := 180) rfl, rfl⟩
set_option maxRecDepth 20000 in
theorem wm_181 : (.fieldLink "MazeForms$Flood" 34 "MazeForms$Flood" "queued" "I" : Cond) ∈ mz_tb := List.mem_filter.mpr ⟨List.mem_of_getElem? (i := 181) rfl, rfl⟩
set_option maxRecDepth 20000 in
theorem wm_199 : (.fieldLink "MazeForms$Chance" 7 "MazeForms$Chance" "state" "J" : Cond) ∈ mz_tb := List.mem_filter.mpr ⟨List.mem_of_getElem? (i := 199) rfl, rfl⟩
set_option maxRecDepth 20000 in
theorem wm_218 : (.fieldLink "MazeForms$DoorRow" 9 "MazeForms$DoorRow" "chance" "LMazeForms$Chance;" : Cond) ∈ mz_tb := List.mem_filter.mpr ⟨List.mem_of_getElem? (i := 218) rfl, rfl⟩
set_option maxRecDepth 20000 in
theorem wm_219 : (.fieldLink "MazeForms$DoorRow" 21 "MazeForms$DoorRow" "row" "[I" : Cond) ∈ mz_tb := List.mem_filter.mpr ⟨List.mem_of_getElem? (i := 219) rfl, rfl⟩
set_option maxRecDepth 20000 in
theorem wm_220 : (.fieldLink "MazeForms$DoorRow" 25 "MazeForms$DoorRow" "count" "I" : Cond) ∈ mz_tb := List.mem_filter.mpr ⟨List.mem_of_getElem? (i := 220) rfl, rfl⟩
set_option maxRecDepth 20000 in
theorem wm_229 : (.fieldLink "MazeForms$Maker" 9 "MazeForms$Maker" "grid" "LMazeForms$Grid;" : Cond) ∈ mz_tb := List.mem_filter.mpr ⟨List.mem_of_getElem? (i := 229) rfl, rfl⟩
set_option maxRecDepth 20000 in
theorem wm_230 : (.fieldLink "MazeForms$Maker" 15 "MazeForms$Maker" "joined" "LMazeForms$Joined;" : Cond) ∈ mz_tb := List.mem_filter.mpr ⟨List.mem_of_getElem? (i := 230) rfl, rfl⟩
set_option maxRecDepth 20000 in
theorem wm_231 : (.fieldLink "MazeForms$Maker" 19 "MazeForms$Maker" "flood" "LMazeForms$Flood;" : Cond) ∈ mz_tb := List.mem_filter.mpr ⟨List.mem_of_getElem? (i := 231) rfl, rfl⟩
set_option maxRecDepth 20000 in
theorem wm_232 : (.fieldLink "MazeForms$Maker" 34 "MazeForms$Maker" "choice" "LMazeForms$DoorRow;" : Cond) ∈ mz_tb := List.mem_filter.mpr ⟨List.mem_of_getElem? (i := 232) rfl, rfl⟩
set_option maxRecDepth 20000 in
theorem wm_233 : (.fieldLink "MazeForms$Maker" 41 "MazeForms$Maker" "reached" "[Z" : Cond) ∈ mz_tb := List.mem_filter.mpr ⟨List.mem_of_getElem? (i := 233) rfl, rfl⟩
set_option maxRecDepth 20000 in
theorem wm_234 : (.fieldLink "MazeForms$Maker" 45 "MazeForms$Maker" "trace" "[I" : Cond) ∈ mz_tb := List.mem_filter.mpr ⟨List.mem_of_getElem? (i := 234) rfl, rfl⟩
set_option maxRecDepth 20000 in
theorem wm_235 : (.fieldLink "MazeForms$Maker" 52 "MazeForms$Maker" "opened" "I" : Cond) ∈ mz_tb := List.mem_filter.mpr ⟨List.mem_of_getElem? (i := 235) rfl, rfl⟩
set_option maxRecDepth 20000 in
theorem wm_258 : (.fieldLink "MazeForms$Trail" 9 "MazeForms$Trail" "grid" "LMazeForms$Grid;" : Cond) ∈ mz_tb := List.mem_filter.mpr ⟨List.mem_of_getElem? (i := 258) rfl, rfl⟩
set_option maxRecDepth 20000 in
theorem wm_259 : (.fieldLink "MazeForms$Trail" 15 "MazeForms$Trail" "flood" "LMazeForms$Flood;" : Cond) ∈ mz_tb := List.mem_filter.mpr ⟨List.mem_of_getElem? (i := 259) rfl, rfl⟩
set_option maxRecDepth 20000 in
theorem wm_260 : (.fieldLink "MazeForms$Trail" 25 "MazeForms$Trail" "cells" "[I" : Cond) ∈ mz_tb := List.mem_filter.mpr ⟨List.mem_of_getElem? (i := 260) rfl, rfl⟩
set_option maxRecDepth 20000 in
theorem wm_261 : (.fieldLink "MazeForms$Trail" 29 "MazeForms$Trail" "length" "I" : Cond) ∈ mz_tb := List.mem_filter.mpr ⟨List.mem_of_getElem? (i := 261) rfl, rfl⟩
set_option maxRecDepth 20000 in
theorem wm_262 : (.fieldLink "MazeForms$Trail" 53 "MazeForms$Trail" "edition" "I" : Cond) ∈ mz_tb := List.mem_filter.mpr ⟨List.mem_of_getElem? (i := 262) rfl, rfl⟩
set_option maxRecDepth 20000 in
theorem wm_285 : (.fieldLink "MazeForms$TreeCount" 9 "MazeForms$TreeCount" "grid" "LMazeForms$Grid;" : Cond) ∈ mz_tb := List.mem_filter.mpr ⟨List.mem_of_getElem? (i := 285) rfl, rfl⟩
set_option maxRecDepth 20000 in
theorem wm_286 : (.fieldLink "MazeForms$TreeCount" 21 "MazeForms$TreeCount" "band" "I" : Cond) ∈ mz_tb := List.mem_filter.mpr ⟨List.mem_of_getElem? (i := 286) rfl, rfl⟩
set_option maxRecDepth 20000 in
theorem wm_287 : (.fieldLink "MazeForms$TreeCount" 25 "MazeForms$TreeCount" "stride" "I" : Cond) ∈ mz_tb := List.mem_filter.mpr ⟨List.mem_of_getElem? (i := 287) rfl, rfl⟩
set_option maxRecDepth 20000 in
theorem wm_288 : (.fieldLink "MazeForms$TreeCount" 31 "MazeForms$TreeCount" "placeOf" "[I" : Cond) ∈ mz_tb := List.mem_filter.mpr ⟨List.mem_of_getElem? (i := 288) rfl, rfl⟩
set_option maxRecDepth 20000 in
theorem wm_289 : (.fieldLink "MazeForms$TreeCount" 35 "MazeForms$TreeCount" "entries" "[J" : Cond) ∈ mz_tb := List.mem_filter.mpr ⟨List.mem_of_getElem? (i := 289) rfl, rfl⟩
set_option maxRecDepth 20000 in
theorem wm_290 : (.fieldLink "MazeForms$TreeCount" 50 "MazeForms$TreeCount" "size" "I" : Cond) ∈ mz_tb := List.mem_filter.mpr ⟨List.mem_of_getElem? (i := 290) rfl, rfl⟩
set_option maxRecDepth 20000 in
theorem wm_291 : (.fieldLink "MazeForms$TreeCount" 43 "MazeForms$TreeCount" "prime" "J" : Cond) ∈ mz_tb := List.mem_filter.mpr ⟨List.mem_of_getElem? (i := 291) rfl, rfl⟩
set_option maxRecDepth 20000 in
theorem wm_308 : (.fieldLink "MazeForms" 12 "MazeForms" "grid" "LMazeForms$Grid;" : Cond) ∈ mz_tb := List.mem_filter.mpr ⟨List.mem_of_getElem? (i := 308) rfl, rfl⟩
set_option maxRecDepth 20000 in
theorem wm_309 : (.fieldLink "MazeForms" 23 "MazeForms" "joined" "LMazeForms$Joined;" : Cond) ∈ mz_tb := List.mem_filter.mpr ⟨List.mem_of_getElem? (i := 309) rfl, rfl⟩
set_option maxRecDepth 20000 in
theorem wm_310 : (.fieldLink "MazeForms" 40 "MazeForms" "maker" "LMazeForms$Maker;" : Cond) ∈ mz_tb := List.mem_filter.mpr ⟨List.mem_of_getElem? (i := 310) rfl, rfl⟩
set_option maxRecDepth 20000 in
theorem wm_311 : (.fieldLink "MazeForms" 49 "MazeForms" "trail" "LMazeForms$Trail;" : Cond) ∈ mz_tb := List.mem_filter.mpr ⟨List.mem_of_getElem? (i := 311) rfl, rfl⟩
set_option maxRecDepth 20000 in
theorem wm_328 : (.methodLink "MazeForms" 60 (⟨"MazeForms$Grid", "cellAt", "(II)I"⟩) : Cond) ∈ mz_tb := List.mem_filter.mpr ⟨List.mem_of_getElem? (i := 328) rfl, rfl⟩
set_option maxRecDepth 20000 in
theorem wm_329 : (.methodLink "MazeForms" 64 (⟨"MazeForms$Grid", "setMask", "(IZ)Z"⟩) : Cond) ∈ mz_tb := List.mem_filter.mpr ⟨List.mem_of_getElem? (i := 329) rfl, rfl⟩
set_option maxRecDepth 20000 in
theorem wm_330 : (.instanceMethod (⟨"MazeForms$Grid", "setMask", "(IZ)Z"⟩) : Cond) ∈ mz_tb := List.mem_filter.mpr ⟨List.mem_of_getElem? (i := 330) rfl, rfl⟩
set_option maxRecDepth 20000 in
theorem wm_331 : (.selects "MazeForms$Grid" (⟨"MazeForms$Grid", "setMask", "(IZ)Z"⟩) (⟨"MazeForms$Grid", "setMask", "(IZ)Z"⟩) : Cond) ∈ mz_tb := List.mem_filter.mpr ⟨List.mem_of_getElem? (i := 331) rfl, rfl⟩
set_option maxRecDepth 20000 in
theorem wm_332 : (.code (⟨"MazeForms$Grid", "setMask", "(IZ)Z"⟩) prog_5_method_21_code 3 (some .boolean) : Cond) ∈ mz_tb := List.mem_filter.mpr ⟨List.mem_of_getElem? (i := 332) rfl, rfl⟩
set_option maxRecDepth 20000 in
theorem wm_333 : (.methodLink "MazeForms$Grid" 62 (⟨"MazeForms$Grid", "closeDoors", "()V"⟩) : Cond) ∈ mz_tb := List.mem_filter.mpr ⟨List.mem_of_getElem? (i := 333) rfl, rfl⟩
set_option maxRecDepth 20000 in
theorem wm_334 : (.instanceMethod (⟨"MazeForms$Grid", "closeDoors", "()V"⟩) : Cond) ∈ mz_tb := List.mem_filter.mpr ⟨List.mem_of_getElem? (i := 334) rfl, rfl⟩
set_option maxRecDepth 20000 in
theorem wm_335 : (.selects "MazeForms$Grid" (⟨"MazeForms$Grid", "closeDoors", "()V"⟩) (⟨"MazeForms$Grid", "closeDoors", "()V"⟩) : Cond) ∈ mz_tb := List.mem_filter.mpr ⟨List.mem_of_getElem? (i := 335) rfl, rfl⟩
set_option maxRecDepth 20000 in
theorem wm_336 : (.code (⟨"MazeForms$Grid", "closeDoors", "()V"⟩) prog_5_method_22_code 2 none : Cond) ∈ mz_tb := List.mem_filter.mpr ⟨List.mem_of_getElem? (i := 336) rfl, rfl⟩
set_option maxRecDepth 20000 in
theorem wm_341 : (.methodLink "MazeForms" 68 (⟨"MazeForms$Maker", "build", "(I)I"⟩) : Cond) ∈ mz_tb := List.mem_filter.mpr ⟨List.mem_of_getElem? (i := 341) rfl, rfl⟩
set_option maxRecDepth 20000 in
theorem wm_342 : (.instanceMethod (⟨"MazeForms$Maker", "build", "(I)I"⟩) : Cond) ∈ mz_tb := List.mem_filter.mpr ⟨List.mem_of_getElem? (i := 342) rfl, rfl⟩
set_option maxRecDepth 20000 in
theorem wm_343 : (.selects "MazeForms$Maker" (⟨"MazeForms$Maker", "build", "(I)I"⟩) (⟨"MazeForms$Maker", "build", "(I)I"⟩) : Cond) ∈ mz_tb := List.mem_filter.mpr ⟨List.mem_of_getElem? (i := 343) rfl, rfl⟩
set_option maxRecDepth 20000 in
theorem wm_344 : (.code (⟨"MazeForms$Maker", "build", "(I)I"⟩) prog_7_method_2_code 2 (some .int) : Cond) ∈ mz_tb := List.mem_filter.mpr ⟨List.mem_of_getElem? (i := 344) rfl, rfl⟩
set_option maxRecDepth 20000 in
theorem wm_345 : (.methodLink "MazeForms$Maker" 49 (⟨"MazeForms$Grid", "closeDoors", "()V"⟩) : Cond) ∈ mz_tb := List.mem_filter.mpr ⟨List.mem_of_getElem? (i := 345) rfl, rfl⟩
set_option maxRecDepth 20000 in
theorem wm_346 : (.methodLink "MazeForms$Maker" 56 (⟨"MazeForms$Maker", "goDeep", "()V"⟩) : Cond) ∈ mz_tb := List.mem_filter.mpr ⟨List.mem_of_getElem? (i := 346) rfl, rfl⟩
set_option maxRecDepth 20000 in
theorem wm_348 : (.instanceMethod (⟨"MazeForms$Maker", "goDeep", "()V"⟩) : Cond) ∈ mz_tb := List.mem_filter.mpr ⟨List.mem_of_getElem? (i := 348) rfl, rfl⟩
set_option maxRecDepth 20000 in
theorem wm_349 : (.code (⟨"MazeForms$Maker", "goDeep", "()V"⟩) prog_7_method_10_code 5 none : Cond) ∈ mz_tb := List.mem_filter.mpr ⟨List.mem_of_getElem? (i := 349) rfl, rfl⟩
set_option maxRecDepth 20000 in
theorem wm_350 : (.methodLink "MazeForms$Maker" 104 (⟨"MazeForms$Grid", "firstCell", "()I"⟩) : Cond) ∈ mz_tb := List.mem_filter.mpr ⟨List.mem_of_getElem? (i := 350) rfl, rfl⟩
set_option maxRecDepth 20000 in
theorem wm_351 : (.instanceMethod (⟨"MazeForms$Grid", "firstCell", "()I"⟩) : Cond) ∈ mz_tb := List.mem_filter.mpr ⟨List.mem_of_getElem? (i := 351) rfl, rfl⟩
set_option maxRecDepth 20000 in
theorem wm_352 : (.selects "MazeForms$Grid" (⟨"MazeForms$Grid", "firstCell", "()I"⟩) (⟨"MazeForms$Grid", "firstCell", "()I"⟩) : Cond) ∈ mz_tb := List.mem_filter.mpr ⟨List.mem_of_getElem? (i := 352) rfl, rfl⟩
set_option maxRecDepth 20000 in
theorem wm_353 : (.code (⟨"MazeForms$Grid", "firstCell", "()I"⟩) prog_5_method_13_code 2 (some .int) : Cond) ∈ mz_tb := List.mem_filter.mpr ⟨List.mem_of_getElem? (i := 353) rfl, rfl⟩
set_option maxRecDepth 20000 in
theorem wm_354 : (.methodLink "MazeForms$Maker" 107 (⟨"MazeForms$Maker", "begin", "(I)V"⟩) : Cond) ∈ mz_tb := List.mem_filter.mpr ⟨List.mem_of_getElem? (i := 354) rfl, rfl⟩
set_option maxRecDepth 20000 in
theorem wm_356 : (.instanceMethod (⟨"MazeForms$Maker", "begin", "(I)V"⟩) : Cond) ∈ mz_tb := List.mem_filter.mpr ⟨List.mem_of_getElem? (i := 356) rfl, rfl⟩
set_option maxRecDepth 20000 in
theorem wm_357 : (.code (⟨"MazeForms$Maker", "begin", "(I)V"⟩) prog_7_method_5_code 3 none : Cond) ∈ mz_tb := List.mem_filter.mpr ⟨List.mem_of_getElem? (i := 357) rfl, rfl⟩
set_option maxRecDepth 20000 in
theorem wm_358 : (.methodLink "MazeForms$Maker" 98 (⟨"MazeForms$Maker", "enter", "(I)V"⟩) : Cond) ∈ mz_tb := List.mem_filter.mpr ⟨List.mem_of_getElem? (i := 358) rfl, rfl⟩
set_option maxRecDepth 20000 in
theorem wm_360 : (.instanceMethod (⟨"MazeForms$Maker", "enter", "(I)V"⟩) : Cond) ∈ mz_tb := List.mem_filter.mpr ⟨List.mem_of_getElem? (i := 360) rfl, rfl⟩
set_option maxRecDepth 20000 in
theorem wm_361 : (.code (⟨"MazeForms$Maker", "enter", "(I)V"⟩) prog_7_method_6_code 2 none : Cond) ∈ mz_tb := List.mem_filter.mpr ⟨List.mem_of_getElem? (i := 361) rfl, rfl⟩
set_option maxRecDepth 20000 in
theorem wm_362 : (.methodLink "MazeForms$Maker" 101 (⟨"MazeForms$Grid", "isCell", "(I)Z"⟩) : Cond) ∈ mz_tb := List.mem_filter.mpr ⟨List.mem_of_getElem? (i := 362) rfl, rfl⟩
set_option maxRecDepth 20000 in
theorem wm_363 : (.methodLink "MazeForms$Maker" 110 (⟨"MazeForms$Maker", "offerUnreached", "(I)V"⟩) : Cond) ∈ mz_tb := List.mem_filter.mpr ⟨List.mem_of_getElem? (i := 363) rfl, rfl⟩
set_option maxRecDepth 20000 in
theorem wm_365 : (.instanceMethod (⟨"MazeForms$Maker", "offerUnreached", "(I)V"⟩) : Cond) ∈ mz_tb := List.mem_filter.mpr ⟨List.mem_of_getElem? (i := 365) rfl, rfl⟩
set_option maxRecDepth 20000 in
theorem wm_366 : (.code (⟨"MazeForms$Maker", "offerUnreached", "(I)V"⟩) prog_7_method_11_code 4 none : Cond) ∈ mz_tb := List.mem_filter.mpr ⟨List.mem_of_getElem? (i := 366) rfl, rfl⟩
set_option maxRecDepth 20000 in
theorem wm_367 : (.methodLink "MazeForms$Maker" 71 (⟨"MazeForms$DoorRow", "clear", "()V"⟩) : Cond) ∈ mz_tb := List.mem_filter.mpr ⟨List.mem_of_getElem? (i := 367) rfl, rfl⟩
set_option maxRecDepth 20000 in
theorem wm_368 : (.instanceMethod (⟨"MazeForms$DoorRow", "clear", "()V"⟩) : Cond) ∈ mz_tb := List.mem_filter.mpr ⟨List.mem_of_getElem? (i := 368) rfl, rfl⟩
set_option maxRecDepth 20000 in
theorem wm_369 : (.selects "MazeForms$DoorRow" (⟨"MazeForms$DoorRow", "clear", "()V"⟩) (⟨"MazeForms$DoorRow", "clear", "()V"⟩) : Cond) ∈ mz_tb := List.mem_filter.mpr ⟨List.mem_of_getElem? (i := 369) rfl, rfl⟩
set_option maxRecDepth 20000 in
theorem wm_370 : (.code (⟨"MazeForms$DoorRow", "clear", "()V"⟩) prog_3_method_4_code 1 none : Cond) ∈ mz_tb := List.mem_filter.mpr ⟨List.mem_of_getElem? (i := 370) rfl, rfl⟩
set_option maxRecDepth 20000 in
theorem wm_371 : (.methodLink "MazeForms$Maker" 125 (⟨"MazeForms$Grid", "doorOn", "(II)I"⟩) : Cond) ∈ mz_tb := List.mem_filter.mpr ⟨List.mem_of_getElem? (i := 371) rfl, rfl⟩
set_option maxRecDepth 20000 in
theorem wm_372 : (.instanceMethod (⟨"MazeForms$Grid", "doorOn", "(II)I"⟩) : Cond) ∈ mz_tb := List.mem_filter.mpr ⟨List.mem_of_getElem? (i := 372) rfl, rfl⟩
set_option maxRecDepth 20000 in
theorem wm_373 : (.selects "MazeForms$Grid" (⟨"MazeForms$Grid", "doorOn", "(II)I"⟩) (⟨"MazeForms$Grid", "doorOn", "(II)I"⟩) : Cond) ∈ mz_tb := List.mem_filter.mpr ⟨List.mem_of_getElem? (i := 373) rfl, rfl⟩
set_option maxRecDepth 20000 in
theorem wm_374 : (.code (⟨"MazeForms$Grid", "doorOn", "(II)I"⟩) prog_5_method_15_code 4 (some .int) : Cond) ∈ mz_tb := List.mem_filter.mpr ⟨List.mem_of_getElem? (i := 374) rfl, rfl⟩
set_option maxRecDepth 20000 in
theorem wm_375 : (.methodLink "MazeForms$Maker" 117 (⟨"MazeForms$Grid", "otherCell", "(II)I"⟩) : Cond) ∈ mz_tb := List.mem_filter.mpr ⟨List.mem_of_getElem? (i := 375) rfl, rfl⟩
set_option maxRecDepth 20000 in
theorem wm_376 : (.instanceMethod (⟨"MazeForms$Grid", "otherCell", "(II)I"⟩) : Cond) ∈ mz_tb := List.mem_filter.mpr ⟨List.mem_of_getElem? (i := 376) rfl, rfl⟩
set_option maxRecDepth 20000 in
theorem wm_377 : (.selects "MazeForms$Grid" (⟨"MazeForms$Grid", "otherCell", "(II)I"⟩) (⟨"MazeForms$Grid", "otherCell", "(II)I"⟩) : Cond) ∈ mz_tb := List.mem_filter.mpr ⟨List.mem_of_getElem? (i := 377) rfl, rfl⟩
set_option maxRecDepth 20000 in
theorem wm_378 : (.code (⟨"MazeForms$Grid", "otherCell", "(II)I"⟩) prog_5_method_19_code 3 (some .int) : Cond) ∈ mz_tb := List.mem_filter.mpr ⟨List.mem_of_getElem? (i := 378) rfl, rfl⟩
set_option maxRecDepth 20000 in
theorem wm_379 : (.methodLink "MazeForms$Grid" 52 (⟨"MazeForms$Grid", "isDoor", "(I)Z"⟩) : Cond) ∈ mz_tb := List.mem_filter.mpr ⟨List.mem_of_getElem? (i := 379) rfl, rfl⟩
set_option maxRecDepth 20000 in
theorem wm_380 : (.instanceMethod (⟨"MazeForms$Grid", "isDoor", "(I)Z"⟩) : Cond) ∈ mz_tb := List.mem_filter.mpr ⟨List.mem_of_getElem? (i := 380) rfl, rfl⟩
set_option maxRecDepth 20000 in
theorem wm_381 : (.selects "MazeForms$Grid" (⟨"MazeForms$Grid", "isDoor", "(I)Z"⟩) (⟨"MazeForms$Grid", "isDoor", "(I)Z"⟩) : Cond) ∈ mz_tb := List.mem_filter.mpr ⟨List.mem_of_getElem? (i := 381) rfl, rfl⟩
set_option maxRecDepth 20000 in
theorem wm_382 : (.code (⟨"MazeForms$Grid", "isDoor", "(I)Z"⟩) prog_5_method_10_code 2 (some .boolean) : Cond) ∈ mz_tb := List.mem_filter.mpr ⟨List.mem_of_getElem? (i := 382) rfl, rfl⟩
set_option maxRecDepth 20000 in
theorem wm_383 : (.methodLink "MazeForms$Maker" 128 (⟨"MazeForms$Maker", "isReached", "(I)Z"⟩) : Cond) ∈ mz_tb := List.mem_filter.mpr ⟨List.mem_of_getElem? (i := 383) rfl, rfl⟩
set_option maxRecDepth 20000 in
theorem wm_385 : (.instanceMethod (⟨"MazeForms$Maker", "isReached", "(I)Z"⟩) : Cond) ∈ mz_tb := List.mem_filter.mpr ⟨List.mem_of_getElem? (i := 385) rfl, rfl⟩
set_option maxRecDepth 20000 in
theorem wm_386 : (.code (⟨"MazeForms$Maker", "isReached", "(I)Z"⟩) prog_7_method_7_code 2 (some .boolean) : Cond) ∈ mz_tb := List.mem_filter.mpr ⟨List.mem_of_getElem? (i := 386) rfl, rfl⟩
set_option maxRecDepth 20000 in
theorem wm_387 : (.methodLink "MazeForms$Maker" 81 (⟨"MazeForms$DoorRow", "add", "(I)V"⟩) : Cond) ∈ mz_tb := List.mem_filter.mpr ⟨List.mem_of_getElem? (i := 387) rfl, rfl⟩
set_option maxRecDepth 20000 in
theorem wm_388 : (.instanceMethod (⟨"MazeForms$DoorRow", "add", "(I)V"⟩) : Cond) ∈ mz_tb := List.mem_filter.mpr ⟨List.mem_of_getElem? (i := 388) rfl, rfl⟩
set_option maxRecDepth 20000 in
theorem wm_389 : (.selects "MazeForms$DoorRow" (⟨"MazeForms$DoorRow", "add", "(I)V"⟩) (⟨"MazeForms$DoorRow", "add", "(I)V"⟩) : Cond) ∈ mz_tb := List.mem_filter.mpr ⟨List.mem_of_getElem? (i := 389) rfl, rfl⟩
set_option maxRecDepth 20000 in
theorem wm_390 : (.code (⟨"MazeForms$DoorRow", "add", "(I)V"⟩) prog_3_method_5_code 2 none : Cond) ∈ mz_tb := List.mem_filter.mpr ⟨List.mem_of_getElem? (i := 390) rfl, rfl⟩
set_option maxRecDepth 20000 in
theorem wm_391 : (.methodLink "MazeForms$Maker" 88 (⟨"MazeForms$DoorRow", "draw", "()I"⟩) : Cond) ∈ mz_tb := List.mem_filter.mpr ⟨List.mem_of_getElem? (i := 391) rfl, rfl⟩
set_option maxRecDepth 20000 in
theorem wm_392 : (.instanceMethod (⟨"MazeForms$DoorRow", "draw", "()I"⟩) : Cond) ∈ mz_tb := List.mem_filter.mpr ⟨List.mem_of_getElem? (i := 392) rfl, rfl⟩
set_option maxRecDepth 20000 in
theorem wm_393 : (.selects "MazeForms$DoorRow" (⟨"MazeForms$DoorRow", "draw", "()I"⟩) (⟨"MazeForms$DoorRow", "draw", "()I"⟩) : Cond) ∈ mz_tb := List.mem_filter.mpr ⟨List.mem_of_getElem? (i := 393) rfl, rfl⟩
set_option maxRecDepth 20000 in
theorem wm_394 : (.code (⟨"MazeForms$DoorRow", "draw", "()I"⟩) prog_3_method_6_code 1 (some .int) : Cond) ∈ mz_tb := List.mem_filter.mpr ⟨List.mem_of_getElem? (i := 394) rfl, rfl⟩
set_option maxRecDepth 20000 in
theorem wm_395 : (.methodLink "MazeForms$DoorRow" 29 (⟨"MazeForms$Chance", "below", "(I)I"⟩) : Cond) ∈ mz_tb := List.mem_filter.mpr ⟨List.mem_of_getElem? (i := 395) rfl, rfl⟩
set_option maxRecDepth 20000 in
theorem wm_396 : (.instanceMethod (⟨"MazeForms$Chance", "below", "(I)I"⟩) : Cond) ∈ mz_tb := List.mem_filter.mpr ⟨List.mem_of_getElem? (i := 396) rfl, rfl⟩
set_option maxRecDepth 20000 in
theorem wm_397 : (.selects "MazeForms$Chance" (⟨"MazeForms$Chance", "below", "(I)I"⟩) (⟨"MazeForms$Chance", "below", "(I)I"⟩) : Cond) ∈ mz_tb := List.mem_filter.mpr ⟨List.mem_of_getElem? (i := 397) rfl, rfl⟩
set_option maxRecDepth 20000 in
theorem wm_398 : (.code (⟨"MazeForms$Chance", "below", "(I)I"⟩) prog_2_method_2_code 2 (some .int) : Cond) ∈ mz_tb := List.mem_filter.mpr ⟨List.mem_of_getElem? (i := 398) rfl, rfl⟩
set_option maxRecDepth 20000 in
theorem wm_399 : (.constantLong "MazeForms$Chance" 13 (6364136223846793005) : Cond) ∈ mz_tb := List.mem_filter.mpr ⟨List.mem_of_getElem? (i := 399) rfl, rfl⟩
set_option maxRecDepth 20000 in
theorem wm_400 : (.constantLong "MazeForms$Chance" 15 (1442695040888963407) : Cond) ∈ mz_tb := List.mem_filter.mpr ⟨List.mem_of_getElem? (i := 400) rfl, rfl⟩
set_option maxRecDepth 20000 in
theorem wm_401 : (.methodLink "MazeForms$DoorRow" 35 (⟨"MazeForms$DoorRow", "doorAt", "(I)I"⟩) : Cond) ∈ mz_tb := List.mem_filter.mpr ⟨List.mem_of_getElem? (i := 401) rfl, rfl⟩
set_option maxRecDepth 20000 in
theorem wm_402 : (.instanceMethod (⟨"MazeForms$DoorRow", "doorAt", "(I)I"⟩) : Cond) ∈ mz_tb := List.mem_filter.mpr ⟨List.mem_of_getElem? (i := 402) rfl, rfl⟩
set_option maxRecDepth 20000 in
theorem wm_403 : (.selects "MazeForms$DoorRow" (⟨"MazeForms$DoorRow", "doorAt", "(I)I"⟩) (⟨"MazeForms$DoorRow", "doorAt", "(I)I"⟩) : Cond) ∈ mz_tb := List.mem_filter.mpr ⟨List.mem_of_getElem? (i := 403) rfl, rfl⟩
set_option maxRecDepth 20000 in
theorem wm_404 : (.code (⟨"MazeForms$DoorRow", "doorAt", "(I)I"⟩) prog_3_method_3_code 2 (some .int) : Cond) ∈ mz_tb := List.mem_filter.mpr ⟨List.mem_of_getElem? (i := 404) rfl, rfl⟩
set_option maxRecDepth 20000 in
theorem wm_405 : (.methodLink "MazeForms$Maker" 113 (⟨"MazeForms$Maker", "traceOf", "(I)I"⟩) : Cond) ∈ mz_tb := List.mem_filter.mpr ⟨List.mem_of_getElem? (i := 405) rfl, rfl⟩
set_option maxRecDepth 20000 in
theorem wm_407 : (.instanceMethod (⟨"MazeForms$Maker", "traceOf", "(I)I"⟩) : Cond) ∈ mz_tb := List.mem_filter.mpr ⟨List.mem_of_getElem? (i := 407) rfl, rfl⟩
set_option maxRecDepth 20000 in
theorem wm_408 : (.code (⟨"MazeForms$Maker", "traceOf", "(I)I"⟩) prog_7_method_8_code 2 (some .int) : Cond) ∈ mz_tb := List.mem_filter.mpr ⟨List.mem_of_getElem? (i := 408) rfl, rfl⟩
set_option maxRecDepth 20000 in
theorem wm_409 : (.methodLink "MazeForms$Maker" 91 (⟨"MazeForms$Maker", "openDoor", "(I)V"⟩) : Cond) ∈ mz_tb := List.mem_filter.mpr ⟨List.mem_of_getElem? (i := 409) rfl, rfl⟩
set_option maxRecDepth 20000 in
theorem wm_411 : (.instanceMethod (⟨"MazeForms$Maker", "openDoor", "(I)V"⟩) : Cond) ∈ mz_tb := List.mem_filter.mpr ⟨List.mem_of_getElem? (i := 411) rfl, rfl⟩
set_option maxRecDepth 20000 in
theorem wm_412 : (.code (⟨"MazeForms$Maker", "openDoor", "(I)V"⟩) prog_7_method_4_code 2 none : Cond) ∈ mz_tb := List.mem_filter.mpr ⟨List.mem_of_getElem? (i := 412) rfl, rfl⟩
set_option maxRecDepth 20000 in
theorem wm_413 : (.methodLink "MazeForms$Maker" 94 (⟨"MazeForms$Grid", "setDoor", "(IZ)Z"⟩) : Cond) ∈ mz_tb := List.mem_filter.mpr ⟨List.mem_of_getElem? (i := 413) rfl, rfl⟩
set_option maxRecDepth 20000 in
theorem wm_414 : (.instanceMethod (⟨"MazeForms$Grid", "setDoor", "(IZ)Z"⟩) : Cond) ∈ mz_tb := List.mem_filter.mpr ⟨List.mem_of_getElem? (i := 414) rfl, rfl⟩
set_option maxRecDepth 20000 in
theorem wm_415 : (.selects "MazeForms$Grid" (⟨"MazeForms$Grid", "setDoor", "(IZ)Z"⟩) (⟨"MazeForms$Grid", "setDoor", "(IZ)Z"⟩) : Cond) ∈ mz_tb := List.mem_filter.mpr ⟨List.mem_of_getElem? (i := 415) rfl, rfl⟩
set_option maxRecDepth 20000 in
theorem wm_416 : (.code (⟨"MazeForms$Grid", "setDoor", "(IZ)Z"⟩) prog_5_method_20_code 3 (some .boolean) : Cond) ∈ mz_tb := List.mem_filter.mpr ⟨List.mem_of_getElem? (i := 416) rfl, rfl⟩
set_option maxRecDepth 20000 in
theorem wm_417 : (.methodLink "MazeForms$Maker" 121 (⟨"MazeForms$Maker", "setTrace", "(II)V"⟩) : Cond) ∈ mz_tb := List.mem_filter.mpr ⟨List.mem_of_getElem? (i := 417) rfl, rfl⟩
set_option maxRecDepth 20000 in
theorem wm_419 : (.instanceMethod (⟨"MazeForms$Maker", "setTrace", "(II)V"⟩) : Cond) ∈ mz_tb := List.mem_filter.mpr ⟨List.mem_of_getElem? (i := 419) rfl, rfl⟩
set_option maxRecDepth 20000 in
theorem wm_420 : (.code (⟨"MazeForms$Maker", "setTrace", "(II)V"⟩) prog_7_method_9_code 3 none : Cond) ∈ mz_tb := List.mem_filter.mpr ⟨List.mem_of_getElem? (i := 420) rfl, rfl⟩
set_option maxRecDepth 20000 in
theorem wm_421 : (.methodLink "MazeForms$Maker" 59 (⟨"MazeForms$Maker", "joinSets", "()V"⟩) : Cond) ∈ mz_tb := List.mem_filter.mpr ⟨List.mem_of_getElem? (i := 421) rfl, rfl⟩
set_option maxRecDepth 20000 in
theorem wm_423 : (.instanceMethod (⟨"MazeForms$Maker", "joinSets", "()V"⟩) : Cond) ∈ mz_tb := List.mem_filter.mpr ⟨List.mem_of_getElem? (i := 423) rfl, rfl⟩
set_option maxRecDepth 20000 in
theorem wm_424 : (.code (⟨"MazeForms$Maker", "joinSets", "()V"⟩) prog_7_method_12_code 3 none : Cond) ∈ mz_tb := List.mem_filter.mpr ⟨List.mem_of_getElem? (i := 424) rfl, rfl⟩
set_option maxRecDepth 20000 in
theorem wm_425 : (.methodLink "MazeForms$Maker" 74 (⟨"MazeForms$Grid", "doorCount", "()I"⟩) : Cond) ∈ mz_tb := List.mem_filter.mpr ⟨List.mem_of_getElem? (i := 425) rfl, rfl⟩
set_option maxRecDepth 20000 in
theorem wm_426 : (.instanceMethod (⟨"MazeForms$Grid", "doorCount", "()I"⟩) : Cond) ∈ mz_tb := List.mem_filter.mpr ⟨List.mem_of_getElem? (i := 426) rfl, rfl⟩
set_option maxRecDepth 20000 in
theorem wm_427 : (.selects "MazeForms$Grid" (⟨"MazeForms$Grid", "doorCount", "()I"⟩) (⟨"MazeForms$Grid", "doorCount", "()I"⟩) : Cond) ∈ mz_tb := List.mem_filter.mpr ⟨List.mem_of_getElem? (i := 427) rfl, rfl⟩
set_option maxRecDepth 20000 in
theorem wm_428 : (.code (⟨"MazeForms$Grid", "doorCount", "()I"⟩) prog_5_method_5_code 1 (some .int) : Cond) ∈ mz_tb := List.mem_filter.mpr ⟨List.mem_of_getElem? (i := 428) rfl, rfl⟩
set_option maxRecDepth 20000 in
theorem wm_429 : (.methodLink "MazeForms$Maker" 131 (⟨"MazeForms$DoorRow", "shuffle", "()V"⟩) : Cond) ∈ mz_tb := List.mem_filter.mpr ⟨List.mem_of_getElem? (i := 429) rfl, rfl⟩
set_option maxRecDepth 20000 in
theorem wm_430 : (.instanceMethod (⟨"MazeForms$DoorRow", "shuffle", "()V"⟩) : Cond) ∈ mz_tb := List.mem_filter.mpr ⟨List.mem_of_getElem? (i := 430) rfl, rfl⟩
set_option maxRecDepth 20000 in
theorem wm_431 : (.selects "MazeForms$DoorRow" (⟨"MazeForms$DoorRow", "shuffle", "()V"⟩) (⟨"MazeForms$DoorRow", "shuffle", "()V"⟩) : Cond) ∈ mz_tb := List.mem_filter.mpr ⟨List.mem_of_getElem? (i := 431) rfl, rfl⟩
set_option maxRecDepth 20000 in
theorem wm_432 : (.code (⟨"MazeForms$DoorRow", "shuffle", "()V"⟩) prog_3_method_7_code 2 none : Cond) ∈ mz_tb := List.mem_filter.mpr ⟨List.mem_of_getElem? (i := 432) rfl, rfl⟩
set_option maxRecDepth 20000 in
theorem wm_433 : (.methodLink "MazeForms$DoorRow" 38 (⟨"MazeForms$DoorRow", "exchange", "(II)V"⟩) : Cond) ∈ mz_tb := List.mem_filter.mpr ⟨List.mem_of_getElem? (i := 433) rfl, rfl⟩
set_option maxRecDepth 20000 in
theorem wm_435 : (.instanceMethod (⟨"MazeForms$DoorRow", "exchange", "(II)V"⟩) : Cond) ∈ mz_tb := List.mem_filter.mpr ⟨List.mem_of_getElem? (i := 435) rfl, rfl⟩
set_option maxRecDepth 20000 in
theorem wm_436 : (.code (⟨"MazeForms$DoorRow", "exchange", "(II)V"⟩) prog_3_method_8_code 5 none : Cond) ∈ mz_tb := List.mem_filter.mpr ⟨List.mem_of_getElem? (i := 436) rfl, rfl⟩
set_option maxRecDepth 20000 in
theorem wm_437 : (.methodLink "MazeForms$Maker" 134 (⟨"MazeForms$Joined", "reset", "()V"⟩) : Cond) ∈ mz_tb := List.mem_filter.mpr ⟨List.mem_of_getElem? (i := 437) rfl, rfl⟩
set_option maxRecDepth 20000 in
theorem wm_438 : (.instanceMethod (⟨"MazeForms$Joined", "reset", "()V"⟩) : Cond) ∈ mz_tb := List.mem_filter.mpr ⟨List.mem_of_getElem? (i := 438) rfl, rfl⟩
set_option maxRecDepth 20000 in
theorem wm_439 : (.selects "MazeForms$Joined" (⟨"MazeForms$Joined", "reset", "()V"⟩) (⟨"MazeForms$Joined", "reset", "()V"⟩) : Cond) ∈ mz_tb := List.mem_filter.mpr ⟨List.mem_of_getElem? (i := 439) rfl, rfl⟩
set_option maxRecDepth 20000 in
theorem wm_440 : (.code (⟨"MazeForms$Joined", "reset", "()V"⟩) prog_6_method_2_code 2 none : Cond) ∈ mz_tb := List.mem_filter.mpr ⟨List.mem_of_getElem? (i := 440) rfl, rfl⟩
set_option maxRecDepth 20000 in
theorem wm_441 : (.methodLink "MazeForms$Maker" 85 (⟨"MazeForms$DoorRow", "count", "()I"⟩) : Cond) ∈ mz_tb := List.mem_filter.mpr ⟨List.mem_of_getElem? (i := 441) rfl, rfl⟩
set_option maxRecDepth 20000 in
theorem wm_442 : (.instanceMethod (⟨"MazeForms$DoorRow", "count", "()I"⟩) : Cond) ∈ mz_tb := List.mem_filter.mpr ⟨List.mem_of_getElem? (i := 442) rfl, rfl⟩
set_option maxRecDepth 20000 in
theorem wm_443 : (.selects "MazeForms$DoorRow" (⟨"MazeForms$DoorRow", "count", "()I"⟩) (⟨"MazeForms$DoorRow", "count", "()I"⟩) : Cond) ∈ mz_tb := List.mem_filter.mpr ⟨List.mem_of_getElem? (i := 443) rfl, rfl⟩
set_option maxRecDepth 20000 in
theorem wm_444 : (.code (⟨"MazeForms$DoorRow", "count", "()I"⟩) prog_3_method_2_code 1 (some .int) : Cond) ∈ mz_tb := List.mem_filter.mpr ⟨List.mem_of_getElem? (i := 444) rfl, rfl⟩
set_option maxRecDepth 20000 in
theorem wm_445 : (.methodLink "MazeForms$Maker" 139 (⟨"MazeForms$DoorRow", "doorAt", "(I)I"⟩) : Cond) ∈ mz_tb := List.mem_filter.mpr ⟨List.mem_of_getElem? (i := 445) rfl, rfl⟩
set_option maxRecDepth 20000 in
theorem wm_446 : (.methodLink "MazeForms$Maker" 142 (⟨"MazeForms$Joined", "joinBy", "(I)Z"⟩) : Cond) ∈ mz_tb := List.mem_filter.mpr ⟨List.mem_of_getElem? (i := 446) rfl, rfl⟩
set_option maxRecDepth 20000 in
theorem wm_447 : (.instanceMethod (⟨"MazeForms$Joined", "joinBy", "(I)Z"⟩) : Cond) ∈ mz_tb := List.mem_filter.mpr ⟨List.mem_of_getElem? (i := 447) rfl, rfl⟩
set_option maxRecDepth 20000 in
theorem wm_448 : (.selects "MazeForms$Joined" (⟨"MazeForms$Joined", "joinBy", "(I)Z"⟩) (⟨"MazeForms$Joined", "joinBy", "(I)Z"⟩) : Cond) ∈ mz_tb := List.mem_filter.mpr ⟨List.mem_of_getElem? (i := 448) rfl, rfl⟩
set_option maxRecDepth 20000 in
theorem wm_449 : (.code (⟨"MazeForms$Joined", "joinBy", "(I)Z"⟩) prog_6_method_3_code 4 (some .boolean) : Cond) ∈ mz_tb := List.mem_filter.mpr ⟨List.mem_of_getElem? (i := 449) rfl, rfl⟩
set_option maxRecDepth 20000 in
theorem wm_450 : (.methodLink "MazeForms$Joined" 25 (⟨"MazeForms$Grid", "lesserCell", "(I)I"⟩) : Cond) ∈ mz_tb := List.mem_filter.mpr ⟨List.mem_of_getElem? (i := 450) rfl, rfl⟩
set_option maxRecDepth 20000 in
theorem wm_451 : (.instanceMethod (⟨"MazeForms$Grid", "lesserCell", "(I)I"⟩) : Cond) ∈ mz_tb := List.mem_filter.mpr ⟨List.mem_of_getElem? (i := 451) rfl, rfl⟩
set_option maxRecDepth 20000 in
theorem wm_452 : (.selects "MazeForms$Grid" (⟨"MazeForms$Grid", "lesserCell", "(I)I"⟩) (⟨"MazeForms$Grid", "lesserCell", "(I)I"⟩) : Cond) ∈ mz_tb := List.mem_filter.mpr ⟨List.mem_of_getElem? (i := 452) rfl, rfl⟩
set_option maxRecDepth 20000 in
theorem wm_453 : (.code (⟨"MazeForms$Grid", "lesserCell", "(I)I"⟩) prog_5_method_17_code 2 (some .int) : Cond) ∈ mz_tb := List.mem_filter.mpr ⟨List.mem_of_getElem? (i := 453) rfl, rfl⟩
set_option maxRecDepth 20000 in
theorem wm_454 : (.methodLink "MazeForms$Joined" 29 (⟨"MazeForms$Joined", "root", "(I)I"⟩) : Cond) ∈ mz_tb := List.mem_filter.mpr ⟨List.mem_of_getElem? (i := 454) rfl, rfl⟩
set_option maxRecDepth 20000 in
theorem wm_456 : (.instanceMethod (⟨"MazeForms$Joined", "root", "(I)I"⟩) : Cond) ∈ mz_tb := List.mem_filter.mpr ⟨List.mem_of_getElem? (i := 456) rfl, rfl⟩
set_option maxRecDepth 20000 in
theorem wm_457 : (.code (⟨"MazeForms$Joined", "root", "(I)I"⟩) prog_6_method_5_code 4 (some .int) : Cond) ∈ mz_tb := List.mem_filter.mpr ⟨List.mem_of_getElem? (i := 457) rfl, rfl⟩
set_option maxRecDepth 20000 in
theorem wm_458 : (.methodLink "MazeForms$Joined" 48 (⟨"MazeForms$Grid", "isCell", "(I)Z"⟩) : Cond) ∈ mz_tb := List.mem_filter.mpr ⟨List.mem_of_getElem? (i := 458) rfl, rfl⟩
set_option maxRecDepth 20000 in
theorem wm_459 : (.methodLink "MazeForms$Joined" 32 (⟨"MazeForms$Grid", "greaterCell", "(I)I"⟩) : Cond) ∈ mz_tb := List.mem_filter.mpr ⟨List.mem_of_getElem? (i := 459) rfl, rfl⟩
set_option maxRecDepth 20000 in
theorem wm_460 : (.instanceMethod (⟨"MazeForms$Grid", "greaterCell", "(I)I"⟩) : Cond) ∈ mz_tb := List.mem_filter.mpr ⟨List.mem_of_getElem? (i := 460) rfl, rfl⟩
set_option maxRecDepth 20000 in
theorem wm_461 : (.selects "MazeForms$Grid" (⟨"MazeForms$Grid", "greaterCell", "(I)I"⟩) (⟨"MazeForms$Grid", "greaterCell", "(I)I"⟩) : Cond) ∈ mz_tb := List.mem_filter.mpr ⟨List.mem_of_getElem? (i := 461) rfl, rfl⟩
set_option maxRecDepth 20000 in
theorem wm_462 : (.code (⟨"MazeForms$Grid", "greaterCell", "(I)I"⟩) prog_5_method_18_code 2 (some .int) : Cond) ∈ mz_tb := List.mem_filter.mpr ⟨List.mem_of_getElem? (i := 462) rfl, rfl⟩
set_option maxRecDepth 20000 in
theorem wm_463 : (.methodLink "MazeForms$Maker" 62 (⟨"MazeForms$Maker", "grow", "()V"⟩) : Cond) ∈ mz_tb := List.mem_filter.mpr ⟨List.mem_of_getElem? (i := 463) rfl, rfl⟩
set_option maxRecDepth 20000 in
theorem wm_465 : (.instanceMethod (⟨"MazeForms$Maker", "grow", "()V"⟩) : Cond) ∈ mz_tb := List.mem_filter.mpr ⟨List.mem_of_getElem? (i := 465) rfl, rfl⟩
set_option maxRecDepth 20000 in
theorem wm_466 : (.code (⟨"MazeForms$Maker", "grow", "()V"⟩) prog_7_method_13_code 3 none : Cond) ∈ mz_tb := List.mem_filter.mpr ⟨List.mem_of_getElem? (i := 466) rfl, rfl⟩
set_option maxRecDepth 20000 in
theorem wm_467 : (.methodLink "MazeForms$Maker" 145 (⟨"MazeForms$Maker", "offerRim", "()V"⟩) : Cond) ∈ mz_tb := List.mem_filter.mpr ⟨List.mem_of_getElem? (i := 467) rfl, rfl⟩
set_option maxRecDepth 20000 in
theorem wm_469 : (.instanceMethod (⟨"MazeForms$Maker", "offerRim", "()V"⟩) : Cond) ∈ mz_tb := List.mem_filter.mpr ⟨List.mem_of_getElem? (i := 469) rfl, rfl⟩
set_option maxRecDepth 20000 in
theorem wm_470 : (.code (⟨"MazeForms$Maker", "offerRim", "()V"⟩) prog_7_method_14_code 2 none : Cond) ∈ mz_tb := List.mem_filter.mpr ⟨List.mem_of_getElem? (i := 470) rfl, rfl⟩
set_option maxRecDepth 20000 in
theorem wm_471 : (.methodLink "MazeForms$Maker" 148 (⟨"MazeForms$Grid", "lesserCell", "(I)I"⟩) : Cond) ∈ mz_tb := List.mem_filter.mpr ⟨List.mem_of_getElem? (i := 471) rfl, rfl⟩
set_option maxRecDepth 20000 in
theorem wm_472 : (.methodLink "MazeForms$Maker" 151 (⟨"MazeForms$Grid", "greaterCell", "(I)I"⟩) : Cond) ∈ mz_tb := List.mem_filter.mpr ⟨List.mem_of_getElem? (i := 472) rfl, rfl⟩
set_option maxRecDepth 20000 in
theorem wm_473 : (.methodLink "MazeForms$Maker" 65 (⟨"MazeForms$Maker", "walkAll", "()V"⟩) : Cond) ∈ mz_tb := List.mem_filter.mpr ⟨List.mem_of_getElem? (i := 473) rfl, rfl⟩
set_option maxRecDepth 20000 in
theorem wm_475 : (.instanceMethod (⟨"MazeForms$Maker", "walkAll", "()V"⟩) : Cond) ∈ mz_tb := List.mem_filter.mpr ⟨List.mem_of_getElem? (i := 475) rfl, rfl⟩
set_option maxRecDepth 20000 in
theorem wm_476 : (.code (⟨"MazeForms$Maker", "walkAll", "()V"⟩) prog_7_method_15_code 3 none : Cond) ∈ mz_tb := List.mem_filter.mpr ⟨List.mem_of_getElem? (i := 476) rfl, rfl⟩
set_option maxRecDepth 20000 in
theorem wm_477 : (.methodLink "MazeForms$Maker" 154 (⟨"MazeForms$Flood", "spread", "(IZ)V"⟩) : Cond) ∈ mz_tb := List.mem_filter.mpr ⟨List.mem_of_getElem? (i := 477) rfl, rfl⟩
set_option maxRecDepth 20000 in
theorem wm_478 : (.instanceMethod (⟨"MazeForms$Flood", "spread", "(IZ)V"⟩) : Cond) ∈ mz_tb := List.mem_filter.mpr ⟨List.mem_of_getElem? (i := 478) rfl, rfl⟩
set_option maxRecDepth 20000 in
theorem wm_479 : (.selects "MazeForms$Flood" (⟨"MazeForms$Flood", "spread", "(IZ)V"⟩) (⟨"MazeForms$Flood", "spread", "(IZ)V"⟩) : Cond) ∈ mz_tb := List.mem_filter.mpr ⟨List.mem_of_getElem? (i := 479) rfl, rfl⟩
set_option maxRecDepth 20000 in
theorem wm_480 : (.code (⟨"MazeForms$Flood", "spread", "(IZ)V"⟩) prog_4_method_2_code 4 none : Cond) ∈ mz_tb := List.mem_filter.mpr ⟨List.mem_of_getElem? (i := 480) rfl, rfl⟩
set_option maxRecDepth 20000 in
theorem wm_481 : (.methodLink "MazeForms$Flood" 28 (⟨"java/util/Arrays", "fill", "([II)V"⟩) : Cond) ∈ mz_tb := List.mem_filter.mpr ⟨List.mem_of_getElem? (i := 481) rfl, rfl⟩
set_option maxRecDepth 20000 in
theorem wm_482 : (.methodLink "MazeForms$Flood" 38 (⟨"MazeForms$Flood", "reach", "(II)V"⟩) : Cond) ∈ mz_tb := List.mem_filter.mpr ⟨List.mem_of_getElem? (i := 482) rfl, rfl⟩
set_option maxRecDepth 20000 in
theorem wm_484 : (.instanceMethod (⟨"MazeForms$Flood", "reach", "(II)V"⟩) : Cond) ∈ mz_tb := List.mem_filter.mpr ⟨List.mem_of_getElem? (i := 484) rfl, rfl⟩
set_option maxRecDepth 20000 in
theorem wm_485 : (.code (⟨"MazeForms$Flood", "reach", "(II)V"⟩) prog_4_method_5_code 3 none : Cond) ∈ mz_tb := List.mem_filter.mpr ⟨List.mem_of_getElem? (i := 485) rfl, rfl⟩
set_option maxRecDepth 20000 in
theorem wm_486 : (.methodLink "MazeForms$Flood" 46 (⟨"MazeForms$Grid", "isCell", "(I)Z"⟩) : Cond) ∈ mz_tb := List.mem_filter.mpr ⟨List.mem_of_getElem? (i := 486) rfl, rfl⟩
set_option maxRecDepth 20000 in
theorem wm_487 : (.methodLink "MazeForms$Flood" 42 (⟨"MazeForms$Flood", "spreadOn", "(IZ)V"⟩) : Cond) ∈ mz_tb := List.mem_filter.mpr ⟨List.mem_of_getElem? (i := 487) rfl, rfl⟩
set_option maxRecDepth 20000 in
theorem wm_489 : (.instanceMethod (⟨"MazeForms$Flood", "spreadOn", "(IZ)V"⟩) : Cond) ∈ mz_tb := List.mem_filter.mpr ⟨List.mem_of_getElem? (i := 489) rfl, rfl⟩
set_option maxRecDepth 20000 in
theorem wm_490 : (.code (⟨"MazeForms$Flood", "spreadOn", "(IZ)V"⟩) prog_4_method_4_code 6 none : Cond) ∈ mz_tb := List.mem_filter.mpr ⟨List.mem_of_getElem? (i := 490) rfl, rfl⟩
set_option maxRecDepth 20000 in
theorem wm_491 : (.methodLink "MazeForms$Flood" 50 (⟨"MazeForms$Flood", "stepsTo", "(I)I"⟩) : Cond) ∈ mz_tb := List.mem_filter.mpr ⟨List.mem_of_getElem? (i := 491) rfl, rfl⟩
set_option maxRecDepth 20000 in
theorem wm_492 : (.instanceMethod (⟨"MazeForms$Flood", "stepsTo", "(I)I"⟩) : Cond) ∈ mz_tb := List.mem_filter.mpr ⟨List.mem_of_getElem? (i := 492) rfl, rfl⟩
set_option maxRecDepth 20000 in
theorem wm_493 : (.selects "MazeForms$Flood" (⟨"MazeForms$Flood", "stepsTo", "(I)I"⟩) (⟨"MazeForms$Flood", "stepsTo", "(I)I"⟩) : Cond) ∈ mz_tb := List.mem_filter.mpr ⟨List.mem_of_getElem? (i := 493) rfl, rfl⟩
set_option maxRecDepth 20000 in
theorem wm_494 : (.code (⟨"MazeForms$Flood", "stepsTo", "(I)I"⟩) prog_4_method_3_code 2 (some .int) : Cond) ∈ mz_tb := List.mem_filter.mpr ⟨List.mem_of_getElem? (i := 494) rfl, rfl⟩
set_option maxRecDepth 20000 in
theorem wm_495 : (.methodLink "MazeForms$Flood" 54 (⟨"MazeForms$Grid", "doorOn", "(II)I"⟩) : Cond) ∈ mz_tb := List.mem_filter.mpr ⟨List.mem_of_getElem? (i := 495) rfl, rfl⟩
set_option maxRecDepth 20000 in
theorem wm_496 : (.methodLink "MazeForms$Flood" 58 (⟨"MazeForms$Grid", "isOpen", "(I)Z"⟩) : Cond) ∈ mz_tb := List.mem_filter.mpr ⟨List.mem_of_getElem? (i := 496) rfl, rfl⟩
set_option maxRecDepth 20000 in
theorem wm_497 : (.instanceMethod (⟨"MazeForms$Grid", "isOpen", "(I)Z"⟩) : Cond) ∈ mz_tb := List.mem_filter.mpr ⟨List.mem_of_getElem? (i := 497) rfl, rfl⟩
set_option maxRecDepth 20000 in
theorem wm_498 : (.selects "MazeForms$Grid" (⟨"MazeForms$Grid", "isOpen", "(I)Z"⟩) (⟨"MazeForms$Grid", "isOpen", "(I)Z"⟩) : Cond) ∈ mz_tb := List.mem_filter.mpr ⟨List.mem_of_getElem? (i := 498) rfl, rfl⟩
set_option maxRecDepth 20000 in
theorem wm_499 : (.code (⟨"MazeForms$Grid", "isOpen", "(I)Z"⟩) prog_5_method_11_code 2 (some .boolean) : Cond) ∈ mz_tb := List.mem_filter.mpr ⟨List.mem_of_getElem? (i := 499) rfl, rfl⟩
set_option maxRecDepth 20000 in
theorem wm_500 : (.methodLink "MazeForms$Flood" 61 (⟨"MazeForms$Grid", "otherCell", "(II)I"⟩) : Cond) ∈ mz_tb := List.mem_filter.mpr ⟨List.mem_of_getElem? (i := 500) rfl, rfl⟩
set_option maxRecDepth 20000 in
theorem wm_501 : (.methodLink "MazeForms$Maker" 160 (⟨"MazeForms$Flood", "stepsTo", "(I)I"⟩) : Cond) ∈ mz_tb := List.mem_filter.mpr ⟨List.mem_of_getElem? (i := 501) rfl, rfl⟩
set_option maxRecDepth 20000 in
theorem wm_502 : (.methodLink "MazeForms$Maker" 163 (⟨"MazeForms$Maker", "walkToTree", "(I)Z"⟩) : Cond) ∈ mz_tb := List.mem_filter.mpr ⟨List.mem_of_getElem? (i := 502) rfl, rfl⟩
set_option maxRecDepth 20000 in
theorem wm_504 : (.instanceMethod (⟨"MazeForms$Maker", "walkToTree", "(I)Z"⟩) : Cond) ∈ mz_tb := List.mem_filter.mpr ⟨List.mem_of_getElem? (i := 504) rfl, rfl⟩
set_option maxRecDepth 20000 in
theorem wm_505 : (.code (⟨"MazeForms$Maker", "walkToTree", "(I)Z"⟩) prog_7_method_16_code 5 (some .boolean) : Cond) ∈ mz_tb := List.mem_filter.mpr ⟨List.mem_of_getElem? (i := 505) rfl, rfl⟩
set_option maxRecDepth 20000 in
theorem wm_506 : (.constant "MazeForms$Maker" 169 (1000000) : Cond) ∈ mz_tb := List.mem_filter.mpr ⟨List.mem_of_getElem? (i := 506) rfl, rfl⟩
set_option maxRecDepth 20000 in
theorem wm_507 : (.methodLink "MazeForms$Maker" 170 (⟨"MazeForms$Maker", "offerAll", "(I)V"⟩) : Cond) ∈ mz_tb := List.mem_filter.mpr ⟨List.mem_of_getElem? (i := 507) rfl, rfl⟩
set_option maxRecDepth 20000 in
theorem wm_509 : (.instanceMethod (⟨"MazeForms$Maker", "offerAll", "(I)V"⟩) : Cond) ∈ mz_tb := List.mem_filter.mpr ⟨List.mem_of_getElem? (i := 509) rfl, rfl⟩
set_option maxRecDepth 20000 in
theorem wm_510 : (.code (⟨"MazeForms$Maker", "offerAll", "(I)V"⟩) prog_7_method_17_code 3 none : Cond) ∈ mz_tb := List.mem_filter.mpr ⟨List.mem_of_getElem? (i := 510) rfl, rfl⟩
set_option maxRecDepth 20000 in
theorem wm_511 : (.methodLink "MazeForms$Maker" 166 (⟨"MazeForms$Maker", "joinWalk", "(I)V"⟩) : Cond) ∈ mz_tb := List.mem_filter.mpr ⟨List.mem_of_getElem? (i := 511) rfl, rfl⟩
set_option maxRecDepth 20000 in
theorem wm_513 : (.instanceMethod (⟨"MazeForms$Maker", "joinWalk", "(I)V"⟩) : Cond) ∈ mz_tb := List.mem_filter.mpr ⟨List.mem_of_getElem? (i := 513) rfl, rfl⟩
set_option maxRecDepth 20000 in
theorem wm_514 : (.code (⟨"MazeForms$Maker", "joinWalk", "(I)V"⟩) prog_7_method_18_code 5 none : Cond) ∈ mz_tb := List.mem_filter.mpr ⟨List.mem_of_getElem? (i := 514) rfl, rfl⟩
set_option maxRecDepth 20000 in
theorem wm_515 : (.methodLink "MazeForms$Maker" 68 (⟨"MazeForms$Maker", "comb", "()V"⟩) : Cond) ∈ mz_tb := List.mem_filter.mpr ⟨List.mem_of_getElem? (i := 515) rfl, rfl⟩
set_option maxRecDepth 20000 in
theorem wm_517 : (.instanceMethod (⟨"MazeForms$Maker", "comb", "()V"⟩) : Cond) ∈ mz_tb := List.mem_filter.mpr ⟨List.mem_of_getElem? (i := 517) rfl, rfl⟩
set_option maxRecDepth 20000 in
theorem wm_518 : (.code (⟨"MazeForms$Maker", "comb", "()V"⟩) prog_7_method_19_code 2 none : Cond) ∈ mz_tb := List.mem_filter.mpr ⟨List.mem_of_getElem? (i := 518) rfl, rfl⟩
set_option maxRecDepth 20000 in
theorem wm_523 : (.methodLink "MazeForms" 72 (⟨"MazeForms$Grid", "doorCount", "()I"⟩) : Cond) ∈ mz_tb := List.mem_filter.mpr ⟨List.mem_of_getElem? (i := 523) rfl, rfl⟩
set_option maxRecDepth 20000 in
theorem wm_528 : (.methodLink "MazeForms" 76 (⟨"MazeForms$Grid", "doorOn", "(II)I"⟩) : Cond) ∈ mz_tb := List.mem_filter.mpr ⟨List.mem_of_getElem? (i := 528) rfl, rfl⟩
set_option maxRecDepth 20000 in
theorem wm_529 : (.methodLink "MazeForms" 79 (⟨"MazeForms$Grid", "isOpen", "(I)Z"⟩) : Cond) ∈ mz_tb := List.mem_filter.mpr ⟨List.mem_of_getElem? (i := 529) rfl, rfl⟩
set_option maxRecDepth 20000 in
theorem wm_534 : (.methodLink "MazeForms" 83 (⟨"MazeForms$Grid", "setDoor", "(IZ)Z"⟩) : Cond) ∈ mz_tb := List.mem_filter.mpr ⟨List.mem_of_getElem? (i := 534) rfl, rfl⟩
set_option maxRecDepth 20000 in
theorem wm_539 : (.methodLink "MazeForms" 86 (⟨"MazeForms$Maker", "openMore", "(I)I"⟩) : Cond) ∈ mz_tb := List.mem_filter.mpr ⟨List.mem_of_getElem? (i := 539) rfl, rfl⟩
set_option maxRecDepth 20000 in
theorem wm_540 : (.instanceMethod (⟨"MazeForms$Maker", "openMore", "(I)I"⟩) : Cond) ∈ mz_tb := List.mem_filter.mpr ⟨List.mem_of_getElem? (i := 540) rfl, rfl⟩
set_option maxRecDepth 20000 in
theorem wm_541 : (.selects "MazeForms$Maker" (⟨"MazeForms$Maker", "openMore", "(I)I"⟩) (⟨"MazeForms$Maker", "openMore", "(I)I"⟩) : Cond) ∈ mz_tb := List.mem_filter.mpr ⟨List.mem_of_getElem? (i := 541) rfl, rfl⟩
set_option maxRecDepth 20000 in
theorem wm_542 : (.code (⟨"MazeForms$Maker", "openMore", "(I)I"⟩) prog_7_method_3_code 4 (some .int) : Cond) ∈ mz_tb := List.mem_filter.mpr ⟨List.mem_of_getElem? (i := 542) rfl, rfl⟩
set_option maxRecDepth 20000 in
theorem wm_543 : (.methodLink "MazeForms$Maker" 77 (⟨"MazeForms$Grid", "isOpen", "(I)Z"⟩) : Cond) ∈ mz_tb := List.mem_filter.mpr ⟨List.mem_of_getElem? (i := 543) rfl, rfl⟩
set_option maxRecDepth 20000 in
theorem wm_548 : (.methodLink "MazeForms" 89 (⟨"MazeForms$Trail", "find", "(II)I"⟩) : Cond) ∈ mz_tb := List.mem_filter.mpr ⟨List.mem_of_getElem? (i := 548) rfl, rfl⟩
set_option maxRecDepth 20000 in
theorem wm_549 : (.instanceMethod (⟨"MazeForms$Trail", "find", "(II)I"⟩) : Cond) ∈ mz_tb := List.mem_filter.mpr ⟨List.mem_of_getElem? (i := 549) rfl, rfl⟩
set_option maxRecDepth 20000 in
theorem wm_550 : (.selects "MazeForms$Trail" (⟨"MazeForms$Trail", "find", "(II)I"⟩) (⟨"MazeForms$Trail", "find", "(II)I"⟩) : Cond) ∈ mz_tb := List.mem_filter.mpr ⟨List.mem_of_getElem? (i := 550) rfl, rfl⟩
set_option maxRecDepth 20000 in
theorem wm_551 : (.code (⟨"MazeForms$Trail", "find", "(II)I"⟩) prog_8_method_2_code 6 (some .int) : Cond) ∈ mz_tb := List.mem_filter.mpr ⟨List.mem_of_getElem? (i := 551) rfl, rfl⟩
set_option maxRecDepth 20000 in
theorem wm_552 : (.methodLink "MazeForms$Trail" 33 (⟨"MazeForms$Grid", "isFree", "(I)Z"⟩) : Cond) ∈ mz_tb := List.mem_filter.mpr ⟨List.mem_of_getElem? (i := 552) rfl, rfl⟩
set_option maxRecDepth 20000 in
theorem wm_553 : (.methodLink "MazeForms$Trail" 37 (⟨"MazeForms$Flood", "spread", "(IZ)V"⟩) : Cond) ∈ mz_tb := List.mem_filter.mpr ⟨List.mem_of_getElem? (i := 553) rfl, rfl⟩
set_option maxRecDepth 20000 in
theorem wm_554 : (.methodLink "MazeForms$Trail" 43 (⟨"MazeForms$Flood", "stepsTo", "(I)I"⟩) : Cond) ∈ mz_tb := List.mem_filter.mpr ⟨List.mem_of_getElem? (i := 554) rfl, rfl⟩
set_option maxRecDepth 20000 in
theorem wm_555 : (.methodLink "MazeForms$Trail" 47 (⟨"MazeForms$Trail", "nearerCell", "(I)I"⟩) : Cond) ∈ mz_tb := List.mem_filter.mpr ⟨List.mem_of_getElem? (i := 555) rfl, rfl⟩
set_option maxRecDepth 20000 in
theorem wm_557 : (.instanceMethod (⟨"MazeForms$Trail", "nearerCell", "(I)I"⟩) : Cond) ∈ mz_tb := List.mem_filter.mpr ⟨List.mem_of_getElem? (i := 557) rfl, rfl⟩
set_option maxRecDepth 20000 in
theorem wm_558 : (.code (⟨"MazeForms$Trail", "nearerCell", "(I)I"⟩) prog_8_method_6_code 5 (some .int) : Cond) ∈ mz_tb := List.mem_filter.mpr ⟨List.mem_of_getElem? (i := 558) rfl, rfl⟩
set_option maxRecDepth 20000 in
theorem wm_559 : (.methodLink "MazeForms$Trail" 67 (⟨"MazeForms$Grid", "doorOn", "(II)I"⟩) : Cond) ∈ mz_tb := List.mem_filter.mpr ⟨List.mem_of_getElem? (i := 559) rfl, rfl⟩
set_option maxRecDepth 20000 in
theorem wm_560 : (.methodLink "MazeForms$Trail" 71 (⟨"MazeForms$Grid", "otherCell", "(II)I"⟩) : Cond) ∈ mz_tb := List.mem_filter.mpr ⟨List.mem_of_getElem? (i := 560) rfl, rfl⟩
set_option maxRecDepth 20000 in
theorem wm_561 : (.methodLink "MazeForms$Trail" 74 (⟨"MazeForms$Grid", "isOpen", "(I)Z"⟩) : Cond) ∈ mz_tb := List.mem_filter.mpr ⟨List.mem_of_getElem? (i := 561) rfl, rfl⟩
set_option maxRecDepth 20000 in
theorem wm_562 : (.methodLink "MazeForms$Trail" 50 (⟨"MazeForms$Grid", "edition", "()I"⟩) : Cond) ∈ mz_tb := List.mem_filter.mpr ⟨List.mem_of_getElem? (i := 562) rfl, rfl⟩
set_option maxRecDepth 20000 in
theorem wm_563 : (.instanceMethod (⟨"MazeForms$Grid", "edition", "()I"⟩) : Cond) ∈ mz_tb := List.mem_filter.mpr ⟨List.mem_of_getElem? (i := 563) rfl, rfl⟩
set_option maxRecDepth 20000 in
theorem wm_564 : (.selects "MazeForms$Grid" (⟨"MazeForms$Grid", "edition", "()I"⟩) (⟨"MazeForms$Grid", "edition", "()I"⟩) : Cond) ∈ mz_tb := List.mem_filter.mpr ⟨List.mem_of_getElem? (i := 564) rfl, rfl⟩
set_option maxRecDepth 20000 in
theorem wm_565 : (.code (⟨"MazeForms$Grid", "edition", "()I"⟩) prog_5_method_6_code 1 (some .int) : Cond) ∈ mz_tb := List.mem_filter.mpr ⟨List.mem_of_getElem? (i := 565) rfl, rfl⟩
set_option maxRecDepth 20000 in
theorem wm_570 : (.methodLink "MazeForms" 92 (⟨"MazeForms$Trail", "cellAtStep", "(I)I"⟩) : Cond) ∈ mz_tb := List.mem_filter.mpr ⟨List.mem_of_getElem? (i := 570) rfl, rfl⟩
set_option maxRecDepth 20000 in
theorem wm_571 : (.instanceMethod (⟨"MazeForms$Trail", "cellAtStep", "(I)I"⟩) : Cond) ∈ mz_tb := List.mem_filter.mpr ⟨List.mem_of_getElem? (i := 571) rfl, rfl⟩
set_option maxRecDepth 20000 in
theorem wm_572 : (.selects "MazeForms$Trail" (⟨"MazeForms$Trail", "cellAtStep", "(I)I"⟩) (⟨"MazeForms$Trail", "cellAtStep", "(I)I"⟩) : Cond) ∈ mz_tb := List.mem_filter.mpr ⟨List.mem_of_getElem? (i := 572) rfl, rfl⟩
set_option maxRecDepth 20000 in
theorem wm_573 : (.code (⟨"MazeForms$Trail", "cellAtStep", "(I)I"⟩) prog_8_method_3_code 3 (some .int) : Cond) ∈ mz_tb := List.mem_filter.mpr ⟨List.mem_of_getElem? (i := 573) rfl, rfl⟩
set_option maxRecDepth 20000 in
theorem wm_574 : (.methodLink "MazeForms$Trail" 55 (⟨"MazeForms$Trail", "isFound", "()Z"⟩) : Cond) ∈ mz_tb := List.mem_filter.mpr ⟨List.mem_of_getElem? (i := 574) rfl, rfl⟩
set_option maxRecDepth 20000 in
theorem wm_576 : (.instanceMethod (⟨"MazeForms$Trail", "isFound", "()Z"⟩) : Cond) ∈ mz_tb := List.mem_filter.mpr ⟨List.mem_of_getElem? (i := 576) rfl, rfl⟩
set_option maxRecDepth 20000 in
theorem wm_577 : (.code (⟨"MazeForms$Trail", "isFound", "()Z"⟩) prog_8_method_5_code 1 (some .boolean) : Cond) ∈ mz_tb := List.mem_filter.mpr ⟨List.mem_of_getElem? (i := 577) rfl, rfl⟩
set_option maxRecDepth 20000 in
theorem wm_582 : (.methodLink "MazeForms" 95 (⟨"MazeForms$Grid", "cellCount", "()I"⟩) : Cond) ∈ mz_tb := List.mem_filter.mpr ⟨List.mem_of_getElem? (i := 582) rfl, rfl⟩
set_option maxRecDepth 20000 in
theorem wm_583 : (.methodLink "MazeForms" 98 (⟨"MazeForms$Grid", "isFree", "(I)Z"⟩) : Cond) ∈ mz_tb := List.mem_filter.mpr ⟨List.mem_of_getElem? (i := 583) rfl, rfl⟩
set_option maxRecDepth 20000 in
theorem wm_584 : (.methodLink "MazeForms" 101 (⟨"MazeForms$Grid", "openSides", "(I)I"⟩) : Cond) ∈ mz_tb := List.mem_filter.mpr ⟨List.mem_of_getElem? (i := 584) rfl, rfl⟩
set_option maxRecDepth 20000 in
theorem wm_585 : (.instanceMethod (⟨"MazeForms$Grid", "openSides", "(I)I"⟩) : Cond) ∈ mz_tb := List.mem_filter.mpr ⟨List.mem_of_getElem? (i := 585) rfl, rfl⟩
set_option maxRecDepth 20000 in
theorem wm_586 : (.selects "MazeForms$Grid" (⟨"MazeForms$Grid", "openSides", "(I)I"⟩) (⟨"MazeForms$Grid", "openSides", "(I)I"⟩) : Cond) ∈ mz_tb := List.mem_filter.mpr ⟨List.mem_of_getElem? (i := 586) rfl, rfl⟩
set_option maxRecDepth 20000 in
theorem wm_587 : (.code (⟨"MazeForms$Grid", "openSides", "(I)I"⟩) prog_5_method_16_code 4 (some .int) : Cond) ∈ mz_tb := List.mem_filter.mpr ⟨List.mem_of_getElem? (i := 587) rfl, rfl⟩
set_option maxRecDepth 20000 in
theorem wm_588 : (.methodLink "MazeForms$Grid" 58 (⟨"MazeForms$Grid", "doorOn", "(II)I"⟩) : Cond) ∈ mz_tb := List.mem_filter.mpr ⟨List.mem_of_getElem? (i := 588) rfl, rfl⟩
set_option maxRecDepth 20000 in
theorem wm_589 : (.methodLink "MazeForms$Grid" 55 (⟨"MazeForms$Grid", "isOpen", "(I)Z"⟩) : Cond) ∈ mz_tb := List.mem_filter.mpr ⟨List.mem_of_getElem? (i := 589) rfl, rfl⟩
set_option maxRecDepth 20000 in
theorem wm_594 : (.methodLink "MazeForms" 104 (⟨"MazeForms$Grid", "freeCells", "()I"⟩) : Cond) ∈ mz_tb := List.mem_filter.mpr ⟨List.mem_of_getElem? (i := 594) rfl, rfl⟩
set_option maxRecDepth 20000 in
theorem wm_595 : (.instanceMethod (⟨"MazeForms$Grid", "freeCells", "()I"⟩) : Cond) ∈ mz_tb := List.mem_filter.mpr ⟨List.mem_of_getElem? (i := 595) rfl, rfl⟩
set_option maxRecDepth 20000 in
theorem wm_596 : (.selects "MazeForms$Grid" (⟨"MazeForms$Grid", "freeCells", "()I"⟩) (⟨"MazeForms$Grid", "freeCells", "()I"⟩) : Cond) ∈ mz_tb := List.mem_filter.mpr ⟨List.mem_of_getElem? (i := 596) rfl, rfl⟩
set_option maxRecDepth 20000 in
theorem wm_597 : (.code (⟨"MazeForms$Grid", "freeCells", "()I"⟩) prog_5_method_12_code 3 (some .int) : Cond) ∈ mz_tb := List.mem_filter.mpr ⟨List.mem_of_getElem? (i := 597) rfl, rfl⟩
set_option maxRecDepth 20000 in
theorem wm_598 : (.methodLink "MazeForms" 107 (⟨"MazeForms$Joined", "joinOpenDoors", "()I"⟩) : Cond) ∈ mz_tb := List.mem_filter.mpr ⟨List.mem_of_getElem? (i := 598) rfl, rfl⟩
set_option maxRecDepth 20000 in
theorem wm_599 : (.instanceMethod (⟨"MazeForms$Joined", "joinOpenDoors", "()I"⟩) : Cond) ∈ mz_tb := List.mem_filter.mpr ⟨List.mem_of_getElem? (i := 599) rfl, rfl⟩
set_option maxRecDepth 20000 in
theorem wm_600 : (.selects "MazeForms$Joined" (⟨"MazeForms$Joined", "joinOpenDoors", "()I"⟩) (⟨"MazeForms$Joined", "joinOpenDoors", "()I"⟩) : Cond) ∈ mz_tb := List.mem_filter.mpr ⟨List.mem_of_getElem? (i := 600) rfl, rfl⟩
set_option maxRecDepth 20000 in
theorem wm_601 : (.code (⟨"MazeForms$Joined", "joinOpenDoors", "()I"⟩) prog_6_method_4_code 3 (some .int) : Cond) ∈ mz_tb := List.mem_filter.mpr ⟨List.mem_of_getElem? (i := 601) rfl, rfl⟩
set_option maxRecDepth 20000 in
theorem wm_602 : (.methodLink "MazeForms$Joined" 35 (⟨"MazeForms$Joined", "reset", "()V"⟩) : Cond) ∈ mz_tb := List.mem_filter.mpr ⟨List.mem_of_getElem? (i := 602) rfl, rfl⟩
set_option maxRecDepth 20000 in
theorem wm_603 : (.methodLink "MazeForms$Joined" 38 (⟨"MazeForms$Grid", "doorCount", "()I"⟩) : Cond) ∈ mz_tb := List.mem_filter.mpr ⟨List.mem_of_getElem? (i := 603) rfl, rfl⟩
set_option maxRecDepth 20000 in
theorem wm_604 : (.methodLink "MazeForms$Joined" 41 (⟨"MazeForms$Grid", "isOpen", "(I)Z"⟩) : Cond) ∈ mz_tb := List.mem_filter.mpr ⟨List.mem_of_getElem? (i := 604) rfl, rfl⟩
set_option maxRecDepth 20000 in
theorem wm_605 : (.methodLink "MazeForms$Joined" 45 (⟨"MazeForms$Joined", "joinBy", "(I)Z"⟩) : Cond) ∈ mz_tb := List.mem_filter.mpr ⟨List.mem_of_getElem? (i := 605) rfl, rfl⟩
set_option maxRecDepth 20000 in
theorem wm_610 : (.methodLink "MazeForms" 110 (⟨"MazeForms$Grid", "openDoors", "()I"⟩) : Cond) ∈ mz_tb := List.mem_filter.mpr ⟨List.mem_of_getElem? (i := 610) rfl, rfl⟩
set_option maxRecDepth 20000 in
theorem wm_611 : (.instanceMethod (⟨"MazeForms$Grid", "openDoors", "()I"⟩) : Cond) ∈ mz_tb := List.mem_filter.mpr ⟨List.mem_of_getElem? (i := 611) rfl, rfl⟩
set_option maxRecDepth 20000 in
theorem wm_612 : (.selects "MazeForms$Grid" (⟨"MazeForms$Grid", "openDoors", "()I"⟩) (⟨"MazeForms$Grid", "openDoors", "()I"⟩) : Cond) ∈ mz_tb := List.mem_filter.mpr ⟨List.mem_of_getElem? (i := 612) rfl, rfl⟩
set_option maxRecDepth 20000 in
theorem wm_613 : (.code (⟨"MazeForms$Grid", "openDoors", "()I"⟩) prog_5_method_14_code 3 (some .int) : Cond) ∈ mz_tb := List.mem_filter.mpr ⟨List.mem_of_getElem? (i := 613) rfl, rfl⟩
set_option maxRecDepth 20000 in
theorem wm_618 : (.methodLink "MazeForms" 113 (⟨"MazeForms$Trail", "toll", "()J"⟩) : Cond) ∈ mz_tb := List.mem_filter.mpr ⟨List.mem_of_getElem? (i := 618) rfl, rfl⟩
set_option maxRecDepth 20000 in
theorem wm_619 : (.instanceMethod (⟨"MazeForms$Trail", "toll", "()J"⟩) : Cond) ∈ mz_tb := List.mem_filter.mpr ⟨List.mem_of_getElem? (i := 619) rfl, rfl⟩
set_option maxRecDepth 20000 in
theorem wm_620 : (.selects "MazeForms$Trail" (⟨"MazeForms$Trail", "toll", "()J"⟩) (⟨"MazeForms$Trail", "toll", "()J"⟩) : Cond) ∈ mz_tb := List.mem_filter.mpr ⟨List.mem_of_getElem? (i := 620) rfl, rfl⟩
set_option maxRecDepth 20000 in
theorem wm_621 : (.code (⟨"MazeForms$Trail", "toll", "()J"⟩) prog_8_method_4_code 7 (some .long) : Cond) ∈ mz_tb := List.mem_filter.mpr ⟨List.mem_of_getElem? (i := 621) rfl, rfl⟩
set_option maxRecDepth 20000 in
theorem wm_622 : (.constantLong "MazeForms$Trail" 59 (-1) : Cond) ∈ mz_tb := List.mem_filter.mpr ⟨List.mem_of_getElem? (i := 622) rfl, rfl⟩
set_option maxRecDepth 20000 in
theorem wm_623 : (.methodLink "MazeForms$Trail" 61 (⟨"MazeForms$Trail", "cellAtStep", "(I)I"⟩) : Cond) ∈ mz_tb := List.mem_filter.mpr ⟨List.mem_of_getElem? (i := 623) rfl, rfl⟩
set_option maxRecDepth 20000 in
theorem wm_624 : (.methodLink "MazeForms$Trail" 64 (⟨"MazeForms$Grid", "openSides", "(I)I"⟩) : Cond) ∈ mz_tb := List.mem_filter.mpr ⟨List.mem_of_getElem? (i := 624) rfl, rfl⟩
set_option maxRecDepth 20000 in
theorem wm_636 : (.constantLong "MazeForms$TreeCount" 39 (2) : Cond) ∈ mz_tb := List.mem_filter.mpr ⟨List.mem_of_getElem? (i := 636) rfl, rfl⟩
set_option maxRecDepth 20000 in
theorem wm_637 : (.constantLong "MazeForms$TreeCount" 41 (-1) : Cond) ∈ mz_tb := List.mem_filter.mpr ⟨List.mem_of_getElem? (i := 637) rfl, rfl⟩
set_option maxRecDepth 20000 in
theorem wm_638 : (.methodLink "MazeForms$TreeCount" 47 (⟨"MazeForms$TreeCount", "numberFreeCells", "()I"⟩) : Cond) ∈ mz_tb := List.mem_filter.mpr ⟨List.mem_of_getElem? (i := 638) rfl, rfl⟩
set_option maxRecDepth 20000 in
theorem wm_640 : (.instanceMethod (⟨"MazeForms$TreeCount", "numberFreeCells", "()I"⟩) : Cond) ∈ mz_tb := List.mem_filter.mpr ⟨List.mem_of_getElem? (i := 640) rfl, rfl⟩
set_option maxRecDepth 20000 in
theorem wm_641 : (.code (⟨"MazeForms$TreeCount", "numberFreeCells", "()I"⟩) prog_9_method_3_code 3 (some .int) : Cond) ∈ mz_tb := List.mem_filter.mpr ⟨List.mem_of_getElem? (i := 641) rfl, rfl⟩
set_option maxRecDepth 20000 in
theorem wm_642 : (.methodLink "MazeForms$TreeCount" 60 (⟨"MazeForms$Grid", "isFree", "(I)Z"⟩) : Cond) ∈ mz_tb := List.mem_filter.mpr ⟨List.mem_of_getElem? (i := 642) rfl, rfl⟩
set_option maxRecDepth 20000 in
theorem wm_643 : (.methodLink "MazeForms$TreeCount" 53 (⟨"MazeForms$TreeCount", "fillIn", "()V"⟩) : Cond) ∈ mz_tb := List.mem_filter.mpr ⟨List.mem_of_getElem? (i := 643) rfl, rfl⟩
set_option maxRecDepth 20000 in
theorem wm_645 : (.instanceMethod (⟨"MazeForms$TreeCount", "fillIn", "()V"⟩) : Cond) ∈ mz_tb := List.mem_filter.mpr ⟨List.mem_of_getElem? (i := 645) rfl, rfl⟩
set_option maxRecDepth 20000 in
theorem wm_646 : (.code (⟨"MazeForms$TreeCount", "fillIn", "()V"⟩) prog_9_method_4_code 4 none : Cond) ∈ mz_tb := List.mem_filter.mpr ⟨List.mem_of_getElem? (i := 646) rfl, rfl⟩
set_option maxRecDepth 20000 in
theorem wm_647 : (.methodLink "MazeForms$TreeCount" 64 (⟨"java/util/Arrays", "fill", "([JJ)V"⟩) : Cond) ∈ mz_tb := List.mem_filter.mpr ⟨List.mem_of_getElem? (i := 647) rfl, rfl⟩
set_option maxRecDepth 20000 in
theorem wm_648 : (.static (⟨"java/util/Arrays", "fill", "([JJ)V"⟩) : Cond) ∈ mz_tb := List.mem_filter.mpr ⟨List.mem_of_getElem? (i := 648) rfl, rfl⟩
set_option maxRecDepth 20000 in
theorem wm_649 : (.code (⟨"java/util/Arrays", "fill", "([JJ)V"⟩) prog_13_method_101_code 5 none : Cond) ∈ mz_tb := List.mem_filter.mpr ⟨List.mem_of_getElem? (i := 649) rfl, rfl⟩
set_option maxRecDepth 20000 in
theorem wm_650 : (.methodLink "MazeForms$TreeCount" 70 (⟨"MazeForms$Grid", "doorCount", "()I"⟩) : Cond) ∈ mz_tb := List.mem_filter.mpr ⟨List.mem_of_getElem? (i := 650) rfl, rfl⟩
set_option maxRecDepth 20000 in
theorem wm_651 : (.methodLink "MazeForms$TreeCount" 73 (⟨"MazeForms$Grid", "lesserCell", "(I)I"⟩) : Cond) ∈ mz_tb := List.mem_filter.mpr ⟨List.mem_of_getElem? (i := 651) rfl, rfl⟩
set_option maxRecDepth 20000 in
theorem wm_652 : (.methodLink "MazeForms$TreeCount" 77 (⟨"MazeForms$TreeCount", "placeIn", "(I)I"⟩) : Cond) ∈ mz_tb := List.mem_filter.mpr ⟨List.mem_of_getElem? (i := 652) rfl, rfl⟩
set_option maxRecDepth 20000 in
theorem wm_654 : (.instanceMethod (⟨"MazeForms$TreeCount", "placeIn", "(I)I"⟩) : Cond) ∈ mz_tb := List.mem_filter.mpr ⟨List.mem_of_getElem? (i := 654) rfl, rfl⟩
set_option maxRecDepth 20000 in
theorem wm_655 : (.code (⟨"MazeForms$TreeCount", "placeIn", "(I)I"⟩) prog_9_method_5_code 2 (some .int) : Cond) ∈ mz_tb := List.mem_filter.mpr ⟨List.mem_of_getElem? (i := 655) rfl, rfl⟩
set_option maxRecDepth 20000 in
theorem wm_656 : (.methodLink "MazeForms$TreeCount" 87 (⟨"MazeForms$Grid", "isCell", "(I)Z"⟩) : Cond) ∈ mz_tb := List.mem_filter.mpr ⟨List.mem_of_getElem? (i := 656) rfl, rfl⟩
set_option maxRecDepth 20000 in
theorem wm_657 : (.methodLink "MazeForms$TreeCount" 80 (⟨"MazeForms$Grid", "greaterCell", "(I)I"⟩) : Cond) ∈ mz_tb := List.mem_filter.mpr ⟨List.mem_of_getElem? (i := 657) rfl, rfl⟩
set_option maxRecDepth 20000 in
theorem wm_658 : (.methodLink "MazeForms$TreeCount" 83 (⟨"MazeForms$TreeCount", "addTo", "(IIJ)V"⟩) : Cond) ∈ mz_tb := List.mem_filter.mpr ⟨List.mem_of_getElem? (i := 658) rfl, rfl⟩
set_option maxRecDepth 20000 in
theorem wm_660 : (.instanceMethod (⟨"MazeForms$TreeCount", "addTo", "(IIJ)V"⟩) : Cond) ∈ mz_tb := List.mem_filter.mpr ⟨List.mem_of_getElem? (i := 660) rfl, rfl⟩
set_option maxRecDepth 20000 in
theorem wm_661 : (.code (⟨"MazeForms$TreeCount", "addTo", "(IIJ)V"⟩) prog_9_method_6_code 6 none : Cond) ∈ mz_tb := List.mem_filter.mpr ⟨List.mem_of_getElem? (i := 661) rfl, rfl⟩
set_option maxRecDepth 20000 in
theorem wm_662 : (.methodLink "MazeForms$TreeCount" 90 (⟨"MazeForms$TreeCount", "slotOf", "(II)I"⟩) : Cond) ∈ mz_tb := List.mem_filter.mpr ⟨List.mem_of_getElem? (i := 662) rfl, rfl⟩
set_option maxRecDepth 20000 in
theorem wm_664 : (.instanceMethod (⟨"MazeForms$TreeCount", "slotOf", "(II)I"⟩) : Cond) ∈ mz_tb := List.mem_filter.mpr ⟨List.mem_of_getElem? (i := 664) rfl, rfl⟩
set_option maxRecDepth 20000 in
theorem wm_665 : (.code (⟨"MazeForms$TreeCount", "slotOf", "(II)I"⟩) prog_9_method_7_code 6 (some .int) : Cond) ∈ mz_tb := List.mem_filter.mpr ⟨List.mem_of_getElem? (i := 665) rfl, rfl⟩
set_option maxRecDepth 20000 in
theorem wm_666 : (.methodLink "MazeForms$TreeCount" 56 (⟨"MazeForms$TreeCount", "determinant", "()J"⟩) : Cond) ∈ mz_tb := List.mem_filter.mpr ⟨List.mem_of_getElem? (i := 666) rfl, rfl⟩
set_option maxRecDepth 20000 in
theorem wm_668 : (.instanceMethod (⟨"MazeForms$TreeCount", "determinant", "()J"⟩) : Cond) ∈ mz_tb := List.mem_filter.mpr ⟨List.mem_of_getElem? (i := 668) rfl, rfl⟩
set_option maxRecDepth 20000 in
theorem wm_669 : (.code (⟨"MazeForms$TreeCount", "determinant", "()J"⟩) prog_9_method_9_code 5 (some .long) : Cond) ∈ mz_tb := List.mem_filter.mpr ⟨List.mem_of_getElem? (i := 669) rfl, rfl⟩
set_option maxRecDepth 20000 in
theorem wm_670 : (.methodLink "MazeForms$TreeCount" 94 (⟨"MazeForms$TreeCount", "pivotRow", "(I)I"⟩) : Cond) ∈ mz_tb := List.mem_filter.mpr ⟨List.mem_of_getElem? (i := 670) rfl, rfl⟩
set_option maxRecDepth 20000 in
theorem wm_672 : (.instanceMethod (⟨"MazeForms$TreeCount", "pivotRow", "(I)I"⟩) : Cond) ∈ mz_tb := List.mem_filter.mpr ⟨List.mem_of_getElem? (i := 672) rfl, rfl⟩
set_option maxRecDepth 20000 in
theorem wm_673 : (.code (⟨"MazeForms$TreeCount", "pivotRow", "(I)I"⟩) prog_9_method_10_code 3 (some .int) : Cond) ∈ mz_tb := List.mem_filter.mpr ⟨List.mem_of_getElem? (i := 673) rfl, rfl⟩
set_option maxRecDepth 20000 in
theorem wm_674 : (.methodLink "MazeForms$TreeCount" 113 (⟨"MazeForms$TreeCount", "lastRow", "(I)I"⟩) : Cond) ∈ mz_tb := List.mem_filter.mpr ⟨List.mem_of_getElem? (i := 674) rfl, rfl⟩
set_option maxRecDepth 20000 in
theorem wm_676 : (.instanceMethod (⟨"MazeForms$TreeCount", "lastRow", "(I)I"⟩) : Cond) ∈ mz_tb := List.mem_filter.mpr ⟨List.mem_of_getElem? (i := 676) rfl, rfl⟩
set_option maxRecDepth 20000 in
theorem wm_677 : (.code (⟨"MazeForms$TreeCount", "lastRow", "(I)I"⟩) prog_9_method_11_code 2 (some .int) : Cond) ∈ mz_tb := List.mem_filter.mpr ⟨List.mem_of_getElem? (i := 677) rfl, rfl⟩
set_option maxRecDepth 20000 in
theorem wm_678 : (.methodLink "MazeForms$TreeCount" 116 (⟨"java/lang/Math", "min", "(II)I"⟩) : Cond) ∈ mz_tb := List.mem_filter.mpr ⟨List.mem_of_getElem? (i := 678) rfl, rfl⟩
set_option maxRecDepth 20000 in
theorem wm_679 : (.methodLink "MazeForms$TreeCount" 101 (⟨"MazeForms$TreeCount", "entry", "(II)J"⟩) : Cond) ∈ mz_tb := List.mem_filter.mpr ⟨List.mem_of_getElem? (i := 679) rfl, rfl⟩
set_option maxRecDepth 20000 in
theorem wm_681 : (.instanceMethod (⟨"MazeForms$TreeCount", "entry", "(II)J"⟩) : Cond) ∈ mz_tb := List.mem_filter.mpr ⟨List.mem_of_getElem? (i := 681) rfl, rfl⟩
set_option maxRecDepth 20000 in
theorem wm_682 : (.code (⟨"MazeForms$TreeCount", "entry", "(II)J"⟩) prog_9_method_8_code 4 (some .long) : Cond) ∈ mz_tb := List.mem_filter.mpr ⟨List.mem_of_getElem? (i := 682) rfl, rfl⟩
set_option maxRecDepth 20000 in
theorem wm_683 : (.methodLink "MazeForms$TreeCount" 97 (⟨"MazeForms$TreeCount", "exchangeRows", "(II)V"⟩) : Cond) ∈ mz_tb := List.mem_filter.mpr ⟨List.mem_of_getElem? (i := 683) rfl, rfl⟩
set_option maxRecDepth 20000 in
theorem wm_685 : (.instanceMethod (⟨"MazeForms$TreeCount", "exchangeRows", "(II)V"⟩) : Cond) ∈ mz_tb := List.mem_filter.mpr ⟨List.mem_of_getElem? (i := 685) rfl, rfl⟩
set_option maxRecDepth 20000 in
theorem wm_686 : (.code (⟨"MazeForms$TreeCount", "exchangeRows", "(II)V"⟩) prog_9_method_13_code 8 none : Cond) ∈ mz_tb := List.mem_filter.mpr ⟨List.mem_of_getElem? (i := 686) rfl, rfl⟩
set_option maxRecDepth 20000 in
theorem wm_687 : (.methodLink "MazeForms$TreeCount" 121 (⟨"MazeForms$TreeCount", "lastColumn", "(I)I"⟩) : Cond) ∈ mz_tb := List.mem_filter.mpr ⟨List.mem_of_getElem? (i := 687) rfl, rfl⟩
set_option maxRecDepth 20000 in
theorem wm_689 : (.instanceMethod (⟨"MazeForms$TreeCount", "lastColumn", "(I)I"⟩) : Cond) ∈ mz_tb := List.mem_filter.mpr ⟨List.mem_of_getElem? (i := 689) rfl, rfl⟩
set_option maxRecDepth 20000 in
theorem wm_690 : (.code (⟨"MazeForms$TreeCount", "lastColumn", "(I)I"⟩) prog_9_method_12_code 2 (some .int) : Cond) ∈ mz_tb := List.mem_filter.mpr ⟨List.mem_of_getElem? (i := 690) rfl, rfl⟩
set_option maxRecDepth 20000 in
theorem wm_691 : (.methodLink "MazeForms$TreeCount" 105 (⟨"MazeForms$TreeCount", "times", "(JJ)J"⟩) : Cond) ∈ mz_tb := List.mem_filter.mpr ⟨List.mem_of_getElem? (i := 691) rfl, rfl⟩
set_option maxRecDepth 20000 in
theorem wm_693 : (.instanceMethod (⟨"MazeForms$TreeCount", "times", "(JJ)J"⟩) : Cond) ∈ mz_tb := List.mem_filter.mpr ⟨List.mem_of_getElem? (i := 693) rfl, rfl⟩
set_option maxRecDepth 20000 in
theorem wm_694 : (.code (⟨"MazeForms$TreeCount", "times", "(JJ)J"⟩) prog_9_method_16_code 5 (some .long) : Cond) ∈ mz_tb := List.mem_filter.mpr ⟨List.mem_of_getElem? (i := 694) rfl, rfl⟩
set_option maxRecDepth 20000 in
theorem wm_695 : (.methodLink "MazeForms$TreeCount" 109 (⟨"MazeForms$TreeCount", "clearBelow", "(I)V"⟩) : Cond) ∈ mz_tb := List.mem_filter.mpr ⟨List.mem_of_getElem? (i := 695) rfl, rfl⟩
set_option maxRecDepth 20000 in
theorem wm_697 : (.instanceMethod (⟨"MazeForms$TreeCount", "clearBelow", "(I)V"⟩) : Cond) ∈ mz_tb := List.mem_filter.mpr ⟨List.mem_of_getElem? (i := 697) rfl, rfl⟩
set_option maxRecDepth 20000 in
theorem wm_698 : (.code (⟨"MazeForms$TreeCount", "clearBelow", "(I)V"⟩) prog_9_method_14_code 7 none : Cond) ∈ mz_tb := List.mem_filter.mpr ⟨List.mem_of_getElem? (i := 698) rfl, rfl⟩
set_option maxRecDepth 20000 in
theorem wm_699 : (.methodLink "MazeForms$TreeCount" 124 (⟨"MazeForms$TreeCount", "inverse", "(J)J"⟩) : Cond) ∈ mz_tb := List.mem_filter.mpr ⟨List.mem_of_getElem? (i := 699) rfl, rfl⟩
set_option maxRecDepth 20000 in
theorem wm_701 : (.instanceMethod (⟨"MazeForms$TreeCount", "inverse", "(J)J"⟩) : Cond) ∈ mz_tb := List.mem_filter.mpr ⟨List.mem_of_getElem? (i := 701) rfl, rfl⟩
set_option maxRecDepth 20000 in
theorem wm_702 : (.code (⟨"MazeForms$TreeCount", "inverse", "(J)J"⟩) prog_9_method_17_code 9 (some .long) : Cond) ∈ mz_tb := List.mem_filter.mpr ⟨List.mem_of_getElem? (i := 702) rfl, rfl⟩
set_option maxRecDepth 20000 in
theorem wm_703 : (.methodLink "MazeForms$TreeCount" 128 (⟨"MazeForms$TreeCount", "addRow", "(IIJ)V"⟩) : Cond) ∈ mz_tb := List.mem_filter.mpr ⟨List.mem_of_getElem? (i := 703) rfl, rfl⟩
set_option maxRecDepth 20000 in
theorem wm_705 : (.instanceMethod (⟨"MazeForms$TreeCount", "addRow", "(IIJ)V"⟩) : Cond) ∈ mz_tb := List.mem_filter.mpr ⟨List.mem_of_getElem? (i := 705) rfl, rfl⟩
set_option maxRecDepth 20000 in
theorem wm_706 : (.code (⟨"MazeForms$TreeCount", "addRow", "(IIJ)V"⟩) prog_9_method_15_code 12 none : Cond) ∈ mz_tb := List.mem_filter.mpr ⟨List.mem_of_getElem? (i := 706) rfl, rfl⟩
set_option maxRecDepth 20000 in
theorem wm_716 : (.methodLink "MazeFormsModel" 62 (⟨"MazeFormsModel", "number", "()V"⟩) : Cond) ∈ mz_tb := List.mem_filter.mpr ⟨List.mem_of_getElem? (i := 716) rfl, rfl⟩
set_option maxRecDepth 20000 in
theorem wm_718 : (.instanceMethod (⟨"MazeFormsModel", "number", "()V"⟩) : Cond) ∈ mz_tb := List.mem_filter.mpr ⟨List.mem_of_getElem? (i := 718) rfl, rfl⟩
set_option maxRecDepth 20000 in
theorem wm_719 : (.code (⟨"MazeFormsModel", "number", "()V"⟩) prog_11_method_5_code 2 none : Cond) ∈ mz_tb := List.mem_filter.mpr ⟨List.mem_of_getElem? (i := 719) rfl, rfl⟩
set_option maxRecDepth 20000 in
theorem wm_720 : (.methodLink "MazeFormsModel" 68 (⟨"MazeFormsModel", "cells", "()I"⟩) : Cond) ∈ mz_tb := List.mem_filter.mpr ⟨List.mem_of_getElem? (i := 720) rfl, rfl⟩
set_option maxRecDepth 20000 in
theorem wm_722 : (.instanceMethod (⟨"MazeFormsModel", "cells", "()I"⟩) : Cond) ∈ mz_tb := List.mem_filter.mpr ⟨List.mem_of_getElem? (i := 722) rfl, rfl⟩
set_option maxRecDepth 20000 in
theorem wm_723 : (.code (⟨"MazeFormsModel", "cells", "()I"⟩) prog_11_method_3_code 1 (some .int) : Cond) ∈ mz_tb := List.mem_filter.mpr ⟨List.mem_of_getElem? (i := 723) rfl, rfl⟩
set_option maxRecDepth 20000 in
theorem wm_724 : (.methodLink "MazeFormsModel" 75 (⟨"MazeFormsModel", "addDoor", "(II)V"⟩) : Cond) ∈ mz_tb := List.mem_filter.mpr ⟨List.mem_of_getElem? (i := 724) rfl, rfl⟩
set_option maxRecDepth 20000 in
theorem wm_726 : (.instanceMethod (⟨"MazeFormsModel", "addDoor", "(II)V"⟩) : Cond) ∈ mz_tb := List.mem_filter.mpr ⟨List.mem_of_getElem? (i := 726) rfl, rfl⟩
set_option maxRecDepth 20000 in
theorem wm_727 : (.code (⟨"MazeFormsModel", "addDoor", "(II)V"⟩) prog_11_method_6_code 3 none : Cond) ∈ mz_tb := List.mem_filter.mpr ⟨List.mem_of_getElem? (i := 727) rfl, rfl⟩
set_option maxRecDepth 20000 in
theorem wm_728 : (.fieldLink "MazeFormsModel" 65 "MazeFormsModel" "thrown" "I" : Cond) ∈ mz_tb := List.mem_filter.mpr ⟨List.mem_of_getElem? (i := 728) rfl, rfl⟩
set_option maxRecDepth 20000 in
theorem wm_729 : (.fieldLink "MazeFormsModel" 52 "MazeFormsModel" "width" "I" : Cond) ∈ mz_tb := List.mem_filter.mpr ⟨List.mem_of_getElem? (i := 729) rfl, rfl⟩
set_option maxRecDepth 20000 in
theorem wm_730 : (.fieldLink "MazeFormsModel" 55 "MazeFormsModel" "height" "I" : Cond) ∈ mz_tb := List.mem_filter.mpr ⟨List.mem_of_getElem? (i := 730) rfl, rfl⟩
set_option maxRecDepth 20000 in
theorem wm_731 : (.fieldLink "MazeFormsModel" 58 "MazeFormsModel" "chance" "J" : Cond) ∈ mz_tb := List.mem_filter.mpr ⟨List.mem_of_getElem? (i := 731) rfl, rfl⟩
set_option maxRecDepth 20000 in
theorem wm_732 : (.fieldLink "MazeFormsModel" 7 "MazeFormsModel" "masked" "[Z" : Cond) ∈ mz_tb := List.mem_filter.mpr ⟨List.mem_of_getElem? (i := 732) rfl, rfl⟩
set_option maxRecDepth 20000 in
theorem wm_733 : (.fieldLink "MazeFormsModel" 72 "MazeFormsModel" "doors" "I" : Cond) ∈ mz_tb := List.mem_filter.mpr ⟨List.mem_of_getElem? (i := 733) rfl, rfl⟩
set_option maxRecDepth 20000 in
theorem wm_734 : (.fieldLink "MazeFormsModel" 13 "MazeFormsModel" "first" "[I" : Cond) ∈ mz_tb := List.mem_filter.mpr ⟨List.mem_of_getElem? (i := 734) rfl, rfl⟩
set_option maxRecDepth 20000 in
theorem wm_735 : (.fieldLink "MazeFormsModel" 17 "MazeFormsModel" "second" "[I" : Cond) ∈ mz_tb := List.mem_filter.mpr ⟨List.mem_of_getElem? (i := 735) rfl, rfl⟩
set_option maxRecDepth 20000 in
theorem wm_736 : (.fieldLink "MazeFormsModel" 20 "MazeFormsModel" "isOpen" "[Z" : Cond) ∈ mz_tb := List.mem_filter.mpr ⟨List.mem_of_getElem? (i := 736) rfl, rfl⟩
set_option maxRecDepth 20000 in
theorem wm_737 : (.fieldLink "MazeFormsModel" 23 "MazeFormsModel" "in" "[Z" : Cond) ∈ mz_tb := List.mem_filter.mpr ⟨List.mem_of_getElem? (i := 737) rfl, rfl⟩
set_option maxRecDepth 20000 in
theorem wm_738 : (.fieldLink "MazeFormsModel" 26 "MazeFormsModel" "kept" "[I" : Cond) ∈ mz_tb := List.mem_filter.mpr ⟨List.mem_of_getElem? (i := 738) rfl, rfl⟩
set_option maxRecDepth 20000 in
theorem wm_739 : (.fieldLink "MazeFormsModel" 29 "MazeFormsModel" "came" "[I" : Cond) ∈ mz_tb := List.mem_filter.mpr ⟨List.mem_of_getElem? (i := 739) rfl, rfl⟩
set_option maxRecDepth 20000 in
theorem wm_740 : (.fieldLink "MazeFormsModel" 32 "MazeFormsModel" "colours" "[I" : Cond) ∈ mz_tb := List.mem_filter.mpr ⟨List.mem_of_getElem? (i := 740) rfl, rfl⟩
set_option maxRecDepth 20000 in
theorem wm_741 : (.fieldLink "MazeFormsModel" 94 "MazeFormsModel" "many" "I" : Cond) ∈ mz_tb := List.mem_filter.mpr ⟨List.mem_of_getElem? (i := 741) rfl, rfl⟩
set_option maxRecDepth 20000 in
theorem wm_742 : (.fieldLink "MazeFormsModel" 35 "MazeFormsModel" "choice" "[I" : Cond) ∈ mz_tb := List.mem_filter.mpr ⟨List.mem_of_getElem? (i := 742) rfl, rfl⟩
set_option maxRecDepth 20000 in
theorem wm_743 : (.fieldLink "MazeFormsModel" 38 "MazeFormsModel" "length" "I" : Cond) ∈ mz_tb := List.mem_filter.mpr ⟨List.mem_of_getElem? (i := 743) rfl, rfl⟩
set_option maxRecDepth 20000 in
theorem wm_744 : (.fieldLink "MazeFormsModel" 42 "MazeFormsModel" "path" "[I" : Cond) ∈ mz_tb := List.mem_filter.mpr ⟨List.mem_of_getElem? (i := 744) rfl, rfl⟩
set_option maxRecDepth 20000 in
theorem wm_745 : (.fieldLink "MazeFormsModel" 45 "MazeFormsModel" "far" "[I" : Cond) ∈ mz_tb := List.mem_filter.mpr ⟨List.mem_of_getElem? (i := 745) rfl, rfl⟩
set_option maxRecDepth 20000 in
theorem wm_746 : (.fieldLink "MazeFormsModel" 48 "MazeFormsModel" "square" "[J" : Cond) ∈ mz_tb := List.mem_filter.mpr ⟨List.mem_of_getElem? (i := 746) rfl, rfl⟩
set_option maxRecDepth 20000 in
theorem wm_794 : (.methodLink "MazeFormsModel" 114 (⟨"MazeFormsModel", "firstCell", "()I"⟩) : Cond) ∈ mz_tb := List.mem_filter.mpr ⟨List.mem_of_getElem? (i := 794) rfl, rfl⟩
set_option maxRecDepth 20000 in
theorem wm_796 : (.instanceMethod (⟨"MazeFormsModel", "firstCell", "()I"⟩) : Cond) ∈ mz_tb := List.mem_filter.mpr ⟨List.mem_of_getElem? (i := 796) rfl, rfl⟩
set_option maxRecDepth 20000 in
theorem wm_797 : (.code (⟨"MazeFormsModel", "firstCell", "()I"⟩) prog_11_method_13_code 2 (some .int) : Cond) ∈ mz_tb := List.mem_filter.mpr ⟨List.mem_of_getElem? (i := 797) rfl, rfl⟩
set_option maxRecDepth 20000 in
theorem wm_798 : (.methodLink "MazeFormsModel" 117 (⟨"MazeFormsModel", "deep", "(I)V"⟩) : Cond) ∈ mz_tb := List.mem_filter.mpr ⟨List.mem_of_getElem? (i := 798) rfl, rfl⟩
set_option maxRecDepth 20000 in
theorem wm_800 : (.instanceMethod (⟨"MazeFormsModel", "deep", "(I)V"⟩) : Cond) ∈ mz_tb := List.mem_filter.mpr ⟨List.mem_of_getElem? (i := 800) rfl, rfl⟩
set_option maxRecDepth 20000 in
theorem wm_801 : (.code (⟨"MazeFormsModel", "deep", "(I)V"⟩) prog_11_method_15_code 5 none : Cond) ∈ mz_tb := List.mem_filter.mpr ⟨List.mem_of_getElem? (i := 801) rfl, rfl⟩
set_option maxRecDepth 20000 in
theorem wm_802 : (.methodLink "MazeFormsModel" 97 (⟨"MazeFormsModel", "none", "()V"⟩) : Cond) ∈ mz_tb := List.mem_filter.mpr ⟨List.mem_of_getElem? (i := 802) rfl, rfl⟩
set_option maxRecDepth 20000 in
theorem wm_804 : (.instanceMethod (⟨"MazeFormsModel", "none", "()V"⟩) : Cond) ∈ mz_tb := List.mem_filter.mpr ⟨List.mem_of_getElem? (i := 804) rfl, rfl⟩
set_option maxRecDepth 20000 in
theorem wm_805 : (.code (⟨"MazeFormsModel", "none", "()V"⟩) prog_11_method_14_code 2 none : Cond) ∈ mz_tb := List.mem_filter.mpr ⟨List.mem_of_getElem? (i := 805) rfl, rfl⟩
set_option maxRecDepth 20000 in
theorem wm_806 : (.methodLink "MazeFormsModel" 100 (⟨"MazeFormsModel", "doorAt", "(II)I"⟩) : Cond) ∈ mz_tb := List.mem_filter.mpr ⟨List.mem_of_getElem? (i := 806) rfl, rfl⟩
set_option maxRecDepth 20000 in
theorem wm_808 : (.instanceMethod (⟨"MazeFormsModel", "doorAt", "(II)I"⟩) : Cond) ∈ mz_tb := List.mem_filter.mpr ⟨List.mem_of_getElem? (i := 808) rfl, rfl⟩
set_option maxRecDepth 20000 in
theorem wm_809 : (.code (⟨"MazeFormsModel", "doorAt", "(II)I"⟩) prog_11_method_11_code 4 (some .int) : Cond) ∈ mz_tb := List.mem_filter.mpr ⟨List.mem_of_getElem? (i := 809) rfl, rfl⟩
set_option maxRecDepth 20000 in
theorem wm_810 : (.methodLink "MazeFormsModel" 83 (⟨"MazeFormsModel", "beside", "(II)I"⟩) : Cond) ∈ mz_tb := List.mem_filter.mpr ⟨List.mem_of_getElem? (i := 810) rfl, rfl⟩
set_option maxRecDepth 20000 in
theorem wm_812 : (.instanceMethod (⟨"MazeFormsModel", "beside", "(II)I"⟩) : Cond) ∈ mz_tb := List.mem_filter.mpr ⟨List.mem_of_getElem? (i := 812) rfl, rfl⟩
set_option maxRecDepth 20000 in
theorem wm_813 : (.code (⟨"MazeFormsModel", "beside", "(II)I"⟩) prog_11_method_9_code 3 (some .int) : Cond) ∈ mz_tb := List.mem_filter.mpr ⟨List.mem_of_getElem? (i := 813) rfl, rfl⟩
set_option maxRecDepth 20000 in
theorem wm_814 : (.methodLink "MazeFormsModel" 87 (⟨"MazeFormsModel", "isCell", "(I)Z"⟩) : Cond) ∈ mz_tb := List.mem_filter.mpr ⟨List.mem_of_getElem? (i := 814) rfl, rfl⟩
set_option maxRecDepth 20000 in
theorem wm_816 : (.instanceMethod (⟨"MazeFormsModel", "isCell", "(I)Z"⟩) : Cond) ∈ mz_tb := List.mem_filter.mpr ⟨List.mem_of_getElem? (i := 816) rfl, rfl⟩
set_option maxRecDepth 20000 in
theorem wm_817 : (.code (⟨"MazeFormsModel", "isCell", "(I)Z"⟩) prog_11_method_4_code 2 (some .boolean) : Cond) ∈ mz_tb := List.mem_filter.mpr ⟨List.mem_of_getElem? (i := 817) rfl, rfl⟩
set_option maxRecDepth 20000 in
theorem wm_818 : (.methodLink "MazeFormsModel" 91 (⟨"MazeFormsModel", "doorOf", "(II)I"⟩) : Cond) ∈ mz_tb := List.mem_filter.mpr ⟨List.mem_of_getElem? (i := 818) rfl, rfl⟩
set_option maxRecDepth 20000 in
theorem wm_820 : (.instanceMethod (⟨"MazeFormsModel", "doorOf", "(II)I"⟩) : Cond) ∈ mz_tb := List.mem_filter.mpr ⟨List.mem_of_getElem? (i := 820) rfl, rfl⟩
set_option maxRecDepth 20000 in
theorem wm_821 : (.code (⟨"MazeFormsModel", "doorOf", "(II)I"⟩) prog_11_method_10_code 4 (some .int) : Cond) ∈ mz_tb := List.mem_filter.mpr ⟨List.mem_of_getElem? (i := 821) rfl, rfl⟩
set_option maxRecDepth 20000 in
theorem wm_822 : (.methodLink "MazeFormsModel" 103 (⟨"MazeFormsModel", "across", "(II)I"⟩) : Cond) ∈ mz_tb := List.mem_filter.mpr ⟨List.mem_of_getElem? (i := 822) rfl, rfl⟩
set_option maxRecDepth 20000 in
theorem wm_824 : (.instanceMethod (⟨"MazeFormsModel", "across", "(II)I"⟩) : Cond) ∈ mz_tb := List.mem_filter.mpr ⟨List.mem_of_getElem? (i := 824) rfl, rfl⟩
set_option maxRecDepth 20000 in
theorem wm_825 : (.code (⟨"MazeFormsModel", "across", "(II)I"⟩) prog_11_method_12_code 3 (some .int) : Cond) ∈ mz_tb := List.mem_filter.mpr ⟨List.mem_of_getElem? (i := 825) rfl, rfl⟩
set_option maxRecDepth 20000 in
theorem wm_826 : (.methodLink "MazeFormsModel" 106 (⟨"MazeFormsModel", "below", "(I)I"⟩) : Cond) ∈ mz_tb := List.mem_filter.mpr ⟨List.mem_of_getElem? (i := 826) rfl, rfl⟩
set_option maxRecDepth 20000 in
theorem wm_828 : (.instanceMethod (⟨"MazeFormsModel", "below", "(I)I"⟩) : Cond) ∈ mz_tb := List.mem_filter.mpr ⟨List.mem_of_getElem? (i := 828) rfl, rfl⟩
set_option maxRecDepth 20000 in
theorem wm_829 : (.code (⟨"MazeFormsModel", "below", "(I)I"⟩) prog_11_method_8_code 2 (some .int) : Cond) ∈ mz_tb := List.mem_filter.mpr ⟨List.mem_of_getElem? (i := 829) rfl, rfl⟩
set_option maxRecDepth 20000 in
theorem wm_830 : (.constantLong "MazeFormsModel" 79 (6364136223846793005) : Cond) ∈ mz_tb := List.mem_filter.mpr ⟨List.mem_of_getElem? (i := 830) rfl, rfl⟩
set_option maxRecDepth 20000 in
theorem wm_831 : (.constantLong "MazeFormsModel" 81 (1442695040888963407) : Cond) ∈ mz_tb := List.mem_filter.mpr ⟨List.mem_of_getElem? (i := 831) rfl, rfl⟩
set_option maxRecDepth 20000 in
theorem wm_832 : (.methodLink "MazeFormsModel" 121 (⟨"MazeFormsModel", "sets", "()V"⟩) : Cond) ∈ mz_tb := List.mem_filter.mpr ⟨List.mem_of_getElem? (i := 832) rfl, rfl⟩
set_option maxRecDepth 20000 in
theorem wm_834 : (.instanceMethod (⟨"MazeFormsModel", "sets", "()V"⟩) : Cond) ∈ mz_tb := List.mem_filter.mpr ⟨List.mem_of_getElem? (i := 834) rfl, rfl⟩
set_option maxRecDepth 20000 in
theorem wm_835 : (.code (⟨"MazeFormsModel", "sets", "()V"⟩) prog_11_method_16_code 6 none : Cond) ∈ mz_tb := List.mem_filter.mpr ⟨List.mem_of_getElem? (i := 835) rfl, rfl⟩
set_option maxRecDepth 20000 in
theorem wm_836 : (.methodLink "MazeFormsModel" 124 (⟨"MazeFormsModel", "grown", "(I)V"⟩) : Cond) ∈ mz_tb := List.mem_filter.mpr ⟨List.mem_of_getElem? (i := 836) rfl, rfl⟩
set_option maxRecDepth 20000 in
theorem wm_838 : (.instanceMethod (⟨"MazeFormsModel", "grown", "(I)V"⟩) : Cond) ∈ mz_tb := List.mem_filter.mpr ⟨List.mem_of_getElem? (i := 838) rfl, rfl⟩
set_option maxRecDepth 20000 in
theorem wm_839 : (.code (⟨"MazeFormsModel", "grown", "(I)V"⟩) prog_11_method_17_code 4 none : Cond) ∈ mz_tb := List.mem_filter.mpr ⟨List.mem_of_getElem? (i := 839) rfl, rfl⟩
set_option maxRecDepth 20000 in
theorem wm_840 : (.methodLink "MazeFormsModel" 127 (⟨"MazeFormsModel", "walked", "(I)V"⟩) : Cond) ∈ mz_tb := List.mem_filter.mpr ⟨List.mem_of_getElem? (i := 840) rfl, rfl⟩
set_option maxRecDepth 20000 in
theorem wm_842 : (.instanceMethod (⟨"MazeFormsModel", "walked", "(I)V"⟩) : Cond) ∈ mz_tb := List.mem_filter.mpr ⟨List.mem_of_getElem? (i := 842) rfl, rfl⟩
set_option maxRecDepth 20000 in
theorem wm_843 : (.code (⟨"MazeFormsModel", "walked", "(I)V"⟩) prog_11_method_19_code 6 none : Cond) ∈ mz_tb := List.mem_filter.mpr ⟨List.mem_of_getElem? (i := 843) rfl, rfl⟩
set_option maxRecDepth 20000 in
theorem wm_844 : (.methodLink "MazeFormsModel" 110 (⟨"MazeFormsModel", "colour", "(Z)V"⟩) : Cond) ∈ mz_tb := List.mem_filter.mpr ⟨List.mem_of_getElem? (i := 844) rfl, rfl⟩
set_option maxRecDepth 20000 in
theorem wm_846 : (.instanceMethod (⟨"MazeFormsModel", "colour", "(Z)V"⟩) : Cond) ∈ mz_tb := List.mem_filter.mpr ⟨List.mem_of_getElem? (i := 846) rfl, rfl⟩
set_option maxRecDepth 20000 in
theorem wm_847 : (.code (⟨"MazeFormsModel", "colour", "(Z)V"⟩) prog_11_method_18_code 6 none : Cond) ∈ mz_tb := List.mem_filter.mpr ⟨List.mem_of_getElem? (i := 847) rfl, rfl⟩
set_option maxRecDepth 20000 in
theorem wm_848 : (.methodLink "MazeFormsModel" 130 (⟨"MazeFormsModel", "combed", "()V"⟩) : Cond) ∈ mz_tb := List.mem_filter.mpr ⟨List.mem_of_getElem? (i := 848) rfl, rfl⟩
set_option maxRecDepth 20000 in
theorem wm_850 : (.instanceMethod (⟨"MazeFormsModel", "combed", "()V"⟩) : Cond) ∈ mz_tb := List.mem_filter.mpr ⟨List.mem_of_getElem? (i := 850) rfl, rfl⟩
set_option maxRecDepth 20000 in
theorem wm_851 : (.code (⟨"MazeFormsModel", "combed", "()V"⟩) prog_11_method_20_code 5 none : Cond) ∈ mz_tb := List.mem_filter.mpr ⟨List.mem_of_getElem? (i := 851) rfl, rfl⟩
set_option maxRecDepth 20000 in
theorem wm_852 : (.methodLink "MazeFormsModel" 133 (⟨"MazeFormsModel", "openDoors", "()I"⟩) : Cond) ∈ mz_tb := List.mem_filter.mpr ⟨List.mem_of_getElem? (i := 852) rfl, rfl⟩
set_option maxRecDepth 20000 in
theorem wm_854 : (.instanceMethod (⟨"MazeFormsModel", "openDoors", "()I"⟩) : Cond) ∈ mz_tb := List.mem_filter.mpr ⟨List.mem_of_getElem? (i := 854) rfl, rfl⟩
set_option maxRecDepth 20000 in
theorem wm_855 : (.code (⟨"MazeFormsModel", "openDoors", "()I"⟩) prog_11_method_21_code 3 (some .int) : Cond) ∈ mz_tb := List.mem_filter.mpr ⟨List.mem_of_getElem? (i := 855) rfl, rfl⟩
set_option maxRecDepth 20000 in
theorem wm_876 : (.methodLink "MazeFormsModel" 136 (⟨"MazeFormsModel", "spread", "(I)V"⟩) : Cond) ∈ mz_tb := List.mem_filter.mpr ⟨List.mem_of_getElem? (i := 876) rfl, rfl⟩
set_option maxRecDepth 20000 in
theorem wm_878 : (.instanceMethod (⟨"MazeFormsModel", "spread", "(I)V"⟩) : Cond) ∈ mz_tb := List.mem_filter.mpr ⟨List.mem_of_getElem? (i := 878) rfl, rfl⟩
set_option maxRecDepth 20000 in
theorem wm_879 : (.code (⟨"MazeFormsModel", "spread", "(I)V"⟩) prog_11_method_27_code 6 none : Cond) ∈ mz_tb := List.mem_filter.mpr ⟨List.mem_of_getElem? (i := 879) rfl, rfl⟩
set_option maxRecDepth 20000 in
theorem wm_880 : (.methodLink "MazeFormsModel" 139 (⟨"MazeFormsModel", "leads", "(II)Z"⟩) : Cond) ∈ mz_tb := List.mem_filter.mpr ⟨List.mem_of_getElem? (i := 880) rfl, rfl⟩
set_option maxRecDepth 20000 in
theorem wm_882 : (.instanceMethod (⟨"MazeFormsModel", "leads", "(II)Z"⟩) : Cond) ∈ mz_tb := List.mem_filter.mpr ⟨List.mem_of_getElem? (i := 882) rfl, rfl⟩
set_option maxRecDepth 20000 in
theorem wm_883 : (.code (⟨"MazeFormsModel", "leads", "(II)Z"⟩) prog_11_method_29_code 4 (some .boolean) : Cond) ∈ mz_tb := List.mem_filter.mpr ⟨List.mem_of_getElem? (i := 883) rfl, rfl⟩
set_option maxRecDepth 20000 in
theorem wm_892 : (.constantLong "MazeFormsModel" 143 (-1) : Cond) ∈ mz_tb := List.mem_filter.mpr ⟨List.mem_of_getElem? (i := 892) rfl, rfl⟩
set_option maxRecDepth 20000 in
theorem wm_893 : (.methodLink "MazeFormsModel" 145 (⟨"MazeFormsModel", "openAt", "(I)I"⟩) : Cond) ∈ mz_tb := List.mem_filter.mpr ⟨List.mem_of_getElem? (i := 893) rfl, rfl⟩
set_option maxRecDepth 20000 in
theorem wm_895 : (.instanceMethod (⟨"MazeFormsModel", "openAt", "(I)I"⟩) : Cond) ∈ mz_tb := List.mem_filter.mpr ⟨List.mem_of_getElem? (i := 895) rfl, rfl⟩
set_option maxRecDepth 20000 in
theorem wm_896 : (.code (⟨"MazeFormsModel", "openAt", "(I)I"⟩) prog_11_method_31_code 4 (some .int) : Cond) ∈ mz_tb := List.mem_filter.mpr ⟨List.mem_of_getElem? (i := 896) rfl, rfl⟩
set_option maxRecDepth 20000 in
theorem wm_905 : (.methodLink "MazeFormsModel" 148 (⟨"MazeFormsModel", "countParts", "()I"⟩) : Cond) ∈ mz_tb := List.mem_filter.mpr ⟨List.mem_of_getElem? (i := 905) rfl, rfl⟩
set_option maxRecDepth 20000 in
theorem wm_907 : (.instanceMethod (⟨"MazeFormsModel", "countParts", "()I"⟩) : Cond) ∈ mz_tb := List.mem_filter.mpr ⟨List.mem_of_getElem? (i := 907) rfl, rfl⟩
set_option maxRecDepth 20000 in
theorem wm_908 : (.code (⟨"MazeFormsModel", "countParts", "()I"⟩) prog_11_method_34_code 5 (some .int) : Cond) ∈ mz_tb := List.mem_filter.mpr ⟨List.mem_of_getElem? (i := 908) rfl, rfl⟩
set_option maxRecDepth 20000 in
theorem wm_913 : (.methodLink "MazeFormsModel" 151 (⟨"MazeFormsModel", "cellsThere", "()I"⟩) : Cond) ∈ mz_tb := List.mem_filter.mpr ⟨List.mem_of_getElem? (i := 913) rfl, rfl⟩
set_option maxRecDepth 20000 in
theorem wm_915 : (.instanceMethod (⟨"MazeFormsModel", "cellsThere", "()I"⟩) : Cond) ∈ mz_tb := List.mem_filter.mpr ⟨List.mem_of_getElem? (i := 915) rfl, rfl⟩
set_option maxRecDepth 20000 in
theorem wm_916 : (.code (⟨"MazeFormsModel", "cellsThere", "()I"⟩) prog_11_method_36_code 3 (some .int) : Cond) ∈ mz_tb := List.mem_filter.mpr ⟨List.mem_of_getElem? (i := 916) rfl, rfl⟩
set_option maxRecDepth 20000 in
theorem wm_921 : (.constantLong "MazeFormsModel" 154 (2147483647) : Cond) ∈ mz_tb := List.mem_filter.mpr ⟨List.mem_of_getElem? (i := 921) rfl, rfl⟩
set_option maxRecDepth 20000 in
theorem wm_922 : (.constantLong "MazeFormsModel" 156 (1000000007) : Cond) ∈ mz_tb := List.mem_filter.mpr ⟨List.mem_of_getElem? (i := 922) rfl, rfl⟩
set_option maxRecDepth 20000 in
theorem wm_923 : (.constantLong "MazeFormsModel" 158 (998244353) : Cond) ∈ mz_tb := List.mem_filter.mpr ⟨List.mem_of_getElem? (i := 923) rfl, rfl⟩
set_option maxRecDepth 20000 in
theorem wm_924 : (.methodLink "MazeFormsModel" 160 (⟨"MazeFormsModel", "add", "(IIJJ)V"⟩) : Cond) ∈ mz_tb := List.mem_filter.mpr ⟨List.mem_of_getElem? (i := 924) rfl, rfl⟩
set_option maxRecDepth 20000 in
theorem wm_926 : (.instanceMethod (⟨"MazeFormsModel", "add", "(IIJJ)V"⟩) : Cond) ∈ mz_tb := List.mem_filter.mpr ⟨List.mem_of_getElem? (i := 926) rfl, rfl⟩
set_option maxRecDepth 20000 in
theorem wm_927 : (.code (⟨"MazeFormsModel", "add", "(IIJJ)V"⟩) prog_11_method_40_code 7 none : Cond) ∈ mz_tb := List.mem_filter.mpr ⟨List.mem_of_getElem? (i := 927) rfl, rfl⟩
set_option maxRecDepth 20000 in
theorem wm_928 : (.methodLink "MazeFormsModel" 164 (⟨"MazeFormsModel", "determinant", "(J)J"⟩) : Cond) ∈ mz_tb := List.mem_filter.mpr ⟨List.mem_of_getElem? (i := 928) rfl, rfl⟩
set_option maxRecDepth 20000 in
theorem wm_930 : (.instanceMethod (⟨"MazeFormsModel", "determinant", "(J)J"⟩) : Cond) ∈ mz_tb := List.mem_filter.mpr ⟨List.mem_of_getElem? (i := 930) rfl, rfl⟩
set_option maxRecDepth 20000 in
theorem wm_931 : (.code (⟨"MazeFormsModel", "determinant", "(J)J"⟩) prog_11_method_42_code 13 (some .long) : Cond) ∈ mz_tb := List.mem_filter.mpr ⟨List.mem_of_getElem? (i := 931) rfl, rfl⟩
set_option maxRecDepth 20000 in
theorem wm_932 : (.methodLink "MazeFormsModel" 168 (⟨"MazeFormsModel", "get", "(II)J"⟩) : Cond) ∈ mz_tb := List.mem_filter.mpr ⟨List.mem_of_getElem? (i := 932) rfl, rfl⟩
set_option maxRecDepth 20000 in
theorem wm_934 : (.instanceMethod (⟨"MazeFormsModel", "get", "(II)J"⟩) : Cond) ∈ mz_tb := List.mem_filter.mpr ⟨List.mem_of_getElem? (i := 934) rfl, rfl⟩
set_option maxRecDepth 20000 in
theorem wm_935 : (.code (⟨"MazeFormsModel", "get", "(II)J"⟩) prog_11_method_39_code 3 (some .long) : Cond) ∈ mz_tb := List.mem_filter.mpr ⟨List.mem_of_getElem? (i := 935) rfl, rfl⟩
set_option maxRecDepth 20000 in
theorem wm_936 : (.constantLong "MazeFormsModel" 172 (2) : Cond) ∈ mz_tb := List.mem_filter.mpr ⟨List.mem_of_getElem? (i := 936) rfl, rfl⟩
set_option maxRecDepth 20000 in
theorem wm_937 : (.methodLink "MazeFormsModel" 174 (⟨"MazeFormsModel", "power", "(JJJ)J"⟩) : Cond) ∈ mz_tb := List.mem_filter.mpr ⟨List.mem_of_getElem? (i := 937) rfl, rfl⟩
set_option maxRecDepth 20000 in
theorem wm_938 : (.static (⟨"MazeFormsModel", "power", "(JJJ)J"⟩) : Cond) ∈ mz_tb := List.mem_filter.mpr ⟨List.mem_of_getElem? (i := 938) rfl, rfl⟩
set_option maxRecDepth 20000 in
theorem wm_939 : (.code (⟨"MazeFormsModel", "power", "(JJJ)J"⟩) prog_11_method_38_code 12 (some .long) : Cond) ∈ mz_tb := List.mem_filter.mpr ⟨List.mem_of_getElem? (i := 939) rfl, rfl⟩
