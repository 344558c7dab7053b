/-- the layout behind both constructors, for a grid of w times h: the class's places 0 to 22, the reference's from 23 on -/
abbrev mz_dn (w h : Nat) : Nat := (w - 1) * h + w * (h - 1)
def mz_lay (w h : Nat) : List mz_E := [
  .inr (8, [4, 10, 15, 21, 23]),
  .inr (3, [0, 0, 5, 6, 7, 8, 9, 0, 0]), .inl (0, 1, w * h), .inl (1, 0, 4 * (w * h)), .inl (2, 0, mz_dn w h), .inl (3, 0, mz_dn w h), .inl (4, 1, mz_dn w h),
  .inr (4, [4, 11]), .inl (5, 0, w * h),
  .inr (2, [4, 13, 14, 0]), .inl (6, 0, w * h), .inl (7, 0, w * h),
  .inr (5, [4, 10, 12, 17, 19, 20, 0]), .inr (0, [1]), .inr (1, [16, 18, 0]), .inl (8, 0, mz_dn w h), .inl (9, 1, w * h), .inl (10, 0, w * h),
  .inr (6, [4, 12, 22, 0, 0]), .inl (11, 0, w * h),
  .inr (7, [4, 0, 0, 24, 25, 0, 1]), .inl (12, 0, w * h), .inl (13, 2, w * h * (3 * w + 1)),
  .inr (9, [0, 0, 0, 1, 27, 0, 28, 29, 30, 31, 32, 33, 34, 0, 35, 0, 36, 37, 38]), .inl (14, 1, 144), .inl (15, 0, 288), .inl (16, 0, 288), .inl (17, 1, 288), .inl (18, 1, 144), .inl (19, 0, 144), .inl (20, 0, 144), .inl (21, 0, 144), .inl (22, 0, 288), .inl (23, 0, 144), .inl (24, 0, 144), .inl (25, 2, 20736)]
/-- a boolean as the machine has it -/
def mz_b (b : Bool) : Int32 := match b with
  | true => 1
  | false => 0
theorem mz_b_01 (b : Bool) : mz_b b = 0 ∨ mz_b b = 1 := by cases b <;> simp [mz_b]
/-- is x the number of one of N things -/
def mz_lt (x : Int32) (N : Nat) : Bool := !decide (x < 0) && !decide (nI N ≤ x)
def mz_geo (w h : Nat) : Prop := 1 ≤ w ∧ w ≤ 12 ∧ 1 ≤ h ∧ h ≤ 12
/-- is x a door's number -/
def zg_door (w h : Nat) (X : mz_X) (x : Int32) : Bool := !decide (x < 0) && !decide (X.1 1 7 ≤ x) && !decide (nI (mz_dn w h) ≤ x)
def zg_open (w h : Nat) (X : mz_X) (x : Int32) : Bool := zg_door w h X x && !decide (X.1 6 x.toNatClampNeg = 0)
def zg_free (w h : Nat) (X : mz_X) (x : Int32) : Bool := mz_lt x (w * h) && decide (X.1 2 x.toNatClampNeg = 0)
def zg_at (X : mz_X) (x y : Int32) : Int32 := if (!decide (x < 0) && !decide (X.1 1 0 ≤ x) && !decide (y < 0) && !decide (X.1 1 1 ≤ y)) = true then x + X.1 1 0 * y else -1
def zg_on (w h : Nat) (X : mz_X) (c s : Int32) : Int32 := if (mz_lt c (w * h) && !decide (s < 0) && !decide (4 ≤ s)) = true then X.1 3 (4 * c + s).toNatClampNeg else -1
def zg_les (w h : Nat) (X : mz_X) (d : Int32) : Int32 := if zg_door w h X d = true then X.1 4 d.toNatClampNeg else -1
def zg_gre (w h : Nat) (X : mz_X) (d : Int32) : Int32 := if zg_door w h X d = true then X.1 5 d.toNatClampNeg else -1
def zg_oth (w h : Nat) (X : mz_X) (d c : Int32) : Int32 := if zg_door w h X d = true then (if X.1 4 d.toNatClampNeg = c then X.1 5 d.toNatClampNeg else X.1 4 d.toNatClampNeg) else -1
def C_Gr_width (w h : Nat) : mz_CI := fun lay as X Q => match as with
  | [.ref 1] => lay = mz_lay w h ∧ mz_geo w h ∧ Q (X.1 1 0) X
  | _ => False
def C_Gr_cellCount (w h : Nat) : mz_CI := fun lay as X Q => match as with
  | [.ref 1] => lay = mz_lay w h ∧ mz_geo w h ∧ Q (nI (w * h)) X
  | _ => False
def C_Gr_mostDoors (w h : Nat) : mz_CI := fun lay as X Q => match as with
  | [.ref 1] => lay = mz_lay w h ∧ mz_geo w h ∧ Q (nI (mz_dn w h)) X
  | _ => False
def C_Gr_doorCount (w h : Nat) : mz_CI := fun lay as X Q => match as with
  | [.ref 1] => lay = mz_lay w h ∧ mz_geo w h ∧ Q (X.1 1 7) X
  | _ => False
def C_Gr_edition (w h : Nat) : mz_CI := fun lay as X Q => match as with
  | [.ref 1] => lay = mz_lay w h ∧ mz_geo w h ∧ Q (X.1 1 8) X
  | _ => False
def C_Gr_cellAt (w h : Nat) : mz_CI := fun lay as X Q => match as with
  | [.ref 1, .int x, .int y] => lay = mz_lay w h ∧ mz_geo w h ∧ Q (zg_at X x y) X
  | _ => False
def C_Gr_isCell (w h : Nat) : mz_CI := fun lay as X Q => match as with
  | [.ref 1, .int x] => lay = mz_lay w h ∧ mz_geo w h ∧ Q (mz_b (mz_lt x (w * h))) X
  | _ => False
def C_Gr_isFree (w h : Nat) : mz_CI := fun lay as X Q => match as with
  | [.ref 1, .int x] => lay = mz_lay w h ∧ mz_geo w h ∧ Q (mz_b (zg_free w h X x)) X
  | _ => False
def C_Gr_isDoor (w h : Nat) : mz_CI := fun lay as X Q => match as with
  | [.ref 1, .int x] => lay = mz_lay w h ∧ mz_geo w h ∧ Q (mz_b (zg_door w h X x)) X
  | _ => False
def C_Gr_isOpen (w h : Nat) : mz_CI := fun lay as X Q => match as with
  | [.ref 1, .int x] => lay = mz_lay w h ∧ mz_geo w h ∧ Q (mz_b (zg_open w h X x)) X
  | _ => False
def C_Gr_doorOn (w h : Nat) : mz_CI := fun lay as X Q => match as with
  | [.ref 1, .int c, .int s] => lay = mz_lay w h ∧ mz_geo w h ∧ Q (zg_on w h X c s) X
  | _ => False
def C_Gr_lesserCell (w h : Nat) : mz_CI := fun lay as X Q => match as with
  | [.ref 1, .int d] => lay = mz_lay w h ∧ mz_geo w h ∧ Q (zg_les w h X d) X
  | _ => False
def C_Gr_greaterCell (w h : Nat) : mz_CI := fun lay as X Q => match as with
  | [.ref 1, .int d] => lay = mz_lay w h ∧ mz_geo w h ∧ Q (zg_gre w h X d) X
  | _ => False
def C_Gr_otherCell (w h : Nat) : mz_CI := fun lay as X Q => match as with
  | [.ref 1, .int d, .int c] => lay = mz_lay w h ∧ mz_geo w h ∧ Q (zg_oth w h X d c) X
  | _ => False
def y_Gr_width : MethodName := ⟨"MazeForms$Grid", "width", "()I"⟩
abbrev w_Gr_width : List Cond := .code y_Gr_width prog_5_method_2_code 1 (some .int) :: mz_tb
def dl_Gr_width : List (Nat × ClassFile.Instr × Nat) := [(0, .aload_n 0, 1), (1, .getfield 15, 3), (4, .ireturn, 1)]
theorem d_Gr_width : mz_dec prog_5_method_2_code dl_Gr_width = true := by decide +kernel
def y_Gr_cellCount : MethodName := ⟨"MazeForms$Grid", "cellCount", "()I"⟩
abbrev w_Gr_cellCount : List Cond := .code y_Gr_cellCount prog_5_method_3_code 1 (some .int) :: mz_tb
def dl_Gr_cellCount : List (Nat × ClassFile.Instr × Nat) := [(0, .aload_n 0, 1), (1, .getfield 22, 3), (4, .arraylength, 1), (5, .ireturn, 1)]
theorem d_Gr_cellCount : mz_dec prog_5_method_3_code dl_Gr_cellCount = true := by decide +kernel
def y_Gr_mostDoors : MethodName := ⟨"MazeForms$Grid", "mostDoors", "()I"⟩
abbrev w_Gr_mostDoors : List Cond := .code y_Gr_mostDoors prog_5_method_4_code 1 (some .int) :: mz_tb
def dl_Gr_mostDoors : List (Nat × ClassFile.Instr × Nat) := [(0, .aload_n 0, 1), (1, .getfield 36, 3), (4, .arraylength, 1), (5, .ireturn, 1)]
theorem d_Gr_mostDoors : mz_dec prog_5_method_4_code dl_Gr_mostDoors = true := by decide +kernel
def y_Gr_doorCount : MethodName := ⟨"MazeForms$Grid", "doorCount", "()I"⟩
abbrev w_Gr_doorCount : List Cond := .code y_Gr_doorCount prog_5_method_5_code 1 (some .int) :: mz_tb
def dl_Gr_doorCount : List (Nat × ClassFile.Instr × Nat) := [(0, .aload_n 0, 1), (1, .getfield 42, 3), (4, .ireturn, 1)]
theorem d_Gr_doorCount : mz_dec prog_5_method_5_code dl_Gr_doorCount = true := by decide +kernel
def y_Gr_edition : MethodName := ⟨"MazeForms$Grid", "edition", "()I"⟩
abbrev w_Gr_edition : List Cond := .code y_Gr_edition prog_5_method_6_code 1 (some .int) :: mz_tb
def dl_Gr_edition : List (Nat × ClassFile.Instr × Nat) := [(0, .aload_n 0, 1), (1, .getfield 45, 3), (4, .ireturn, 1)]
theorem d_Gr_edition : mz_dec prog_5_method_6_code dl_Gr_edition = true := by decide +kernel
def y_Gr_isCell : MethodName := ⟨"MazeForms$Grid", "isCell", "(I)Z"⟩
abbrev w_Gr_isCell : List Cond := .code y_Gr_isCell prog_5_method_8_code 2 (some .boolean) :: mz_tb
def dl_Gr_isCell : List (Nat × ClassFile.Instr × Nat) := [(0, .iload_n 1, 1), (1, .ifCond .lt (16), 3), (4, .iload_n 1, 1), (5, .aload_n 0, 1), (6, .getfield 22, 3), (9, .arraylength, 1), (10, .if_icmp .ge (7), 3), (13, .iconst (1), 1), (14, .goto (4), 3), (17, .iconst (0), 1), (18, .ireturn, 1)]
theorem d_Gr_isCell : mz_dec prog_5_method_8_code dl_Gr_isCell = true := by decide +kernel
def y_Gr_isFree : MethodName := ⟨"MazeForms$Grid", "isFree", "(I)Z"⟩
abbrev w_Gr_isFree : List Cond := .code y_Gr_isFree prog_5_method_9_code 2 (some .boolean) :: mz_tb
def dl_Gr_isFree : List (Nat × ClassFile.Instr × Nat) := [(0, .aload_n 0, 1), (1, .iload_n 1, 1), (2, .invokevirtual 48, 3), (5, .ifCond .eq (16), 3), (8, .aload_n 0, 1), (9, .getfield 22, 3), (12, .iload_n 1, 1), (13, .baload, 1), (14, .ifCond .ne (7), 3), (17, .iconst (1), 1), (18, .goto (4), 3), (21, .iconst (0), 1), (22, .ireturn, 1)]
theorem d_Gr_isFree : mz_dec prog_5_method_9_code dl_Gr_isFree = true := by decide +kernel
def y_Gr_isDoor : MethodName := ⟨"MazeForms$Grid", "isDoor", "(I)Z"⟩
abbrev w_Gr_isDoor : List Cond := .code y_Gr_isDoor prog_5_method_10_code 2 (some .boolean) :: mz_tb
def dl_Gr_isDoor : List (Nat × ClassFile.Instr × Nat) := [(0, .iload_n 1, 1), (1, .ifCond .lt (24), 3), (4, .iload_n 1, 1), (5, .aload_n 0, 1), (6, .getfield 42, 3), (9, .if_icmp .ge (16), 3), (12, .iload_n 1, 1), (13, .aload_n 0, 1), (14, .getfield 36, 3), (17, .arraylength, 1), (18, .if_icmp .ge (7), 3), (21, .iconst (1), 1), (22, .goto (4), 3), (25, .iconst (0), 1), (26, .ireturn, 1)]
theorem d_Gr_isDoor : mz_dec prog_5_method_10_code dl_Gr_isDoor = true := by decide +kernel
def y_Gr_isOpen : MethodName := ⟨"MazeForms$Grid", "isOpen", "(I)Z"⟩
abbrev w_Gr_isOpen : List Cond := .code y_Gr_isOpen prog_5_method_11_code 2 (some .boolean) :: mz_tb
def dl_Gr_isOpen : List (Nat × ClassFile.Instr × Nat) := [(0, .aload_n 0, 1), (1, .iload_n 1, 1), (2, .invokevirtual 52, 3), (5, .ifCond .eq (16), 3), (8, .aload_n 0, 1), (9, .getfield 36, 3), (12, .iload_n 1, 1), (13, .baload, 1), (14, .ifCond .eq (7), 3), (17, .iconst (1), 1), (18, .goto (4), 3), (21, .iconst (0), 1), (22, .ireturn, 1)]
theorem d_Gr_isOpen : mz_dec prog_5_method_11_code dl_Gr_isOpen = true := by decide +kernel
def y_Gr_lesserCell : MethodName := ⟨"MazeForms$Grid", "lesserCell", "(I)I"⟩
abbrev w_Gr_lesserCell : List Cond := .code y_Gr_lesserCell prog_5_method_17_code 2 (some .int) :: mz_tb
def dl_Gr_lesserCell : List (Nat × ClassFile.Instr × Nat) := [(0, .aload_n 0, 1), (1, .iload_n 1, 1), (2, .invokevirtual 52, 3), (5, .ifCond .eq (12), 3), (8, .aload_n 0, 1), (9, .getfield 30, 3), (12, .iload_n 1, 1), (13, .iaload, 1), (14, .goto (4), 3), (17, .iconst (-1), 1), (18, .ireturn, 1)]
theorem d_Gr_lesserCell : mz_dec prog_5_method_17_code dl_Gr_lesserCell = true := by decide +kernel
def y_Gr_greaterCell : MethodName := ⟨"MazeForms$Grid", "greaterCell", "(I)I"⟩
abbrev w_Gr_greaterCell : List Cond := .code y_Gr_greaterCell prog_5_method_18_code 2 (some .int) :: mz_tb
def dl_Gr_greaterCell : List (Nat × ClassFile.Instr × Nat) := [(0, .aload_n 0, 1), (1, .iload_n 1, 1), (2, .invokevirtual 52, 3), (5, .ifCond .eq (12), 3), (8, .aload_n 0, 1), (9, .getfield 33, 3), (12, .iload_n 1, 1), (13, .iaload, 1), (14, .goto (4), 3), (17, .iconst (-1), 1), (18, .ireturn, 1)]
theorem d_Gr_greaterCell : mz_dec prog_5_method_18_code dl_Gr_greaterCell = true := by decide +kernel
def y_Gr_cellAt : MethodName := ⟨"MazeForms$Grid", "cellAt", "(II)I"⟩
abbrev w_Gr_cellAt : List Cond := .code y_Gr_cellAt prog_5_method_7_code 4 (some .int) :: mz_tb
def dl_Gr_cellAt : List (Nat × ClassFile.Instr × Nat) := [(0, .iload_n 1, 1), (1, .ifCond .lt (27), 3), (4, .iload_n 1, 1), (5, .aload_n 0, 1), (6, .getfield 15, 3), (9, .if_icmp .ge (19), 3), (12, .iload_n 2, 1), (13, .ifCond .lt (15), 3), (16, .iload_n 2, 1), (17, .aload_n 0, 1), (18, .getfield 19, 3), (21, .if_icmp .ge (7), 3), (24, .iconst (1), 1), (25, .goto (4), 3), (28, .iconst (0), 1), (29, .istore_n 3, 1), (30, .iload_n 3, 1), (31, .ifCond .eq (14), 3), (34, .iload_n 1, 1), (35, .aload_n 0, 1), (36, .getfield 15, 3), (39, .iload_n 2, 1), (40, .imul, 1), (41, .iadd, 1), (42, .goto (4), 3), (45, .iconst (-1), 1), (46, .ireturn, 1)]
theorem d_Gr_cellAt : mz_dec prog_5_method_7_code dl_Gr_cellAt = true := by decide +kernel
def y_Gr_doorOn : MethodName := ⟨"MazeForms$Grid", "doorOn", "(II)I"⟩
abbrev w_Gr_doorOn : List Cond := .code y_Gr_doorOn prog_5_method_15_code 4 (some .int) :: mz_tb
def dl_Gr_doorOn : List (Nat × ClassFile.Instr × Nat) := [(0, .aload_n 0, 1), (1, .iload_n 1, 1), (2, .invokevirtual 48, 3), (5, .ifCond .eq (16), 3), (8, .iload_n 2, 1), (9, .ifCond .lt (12), 3), (12, .iload_n 2, 1), (13, .iconst (4), 1), (14, .if_icmp .ge (7), 3), (17, .iconst (1), 1), (18, .goto (4), 3), (21, .iconst (0), 1), (22, .istore_n 3, 1), (23, .iload_n 3, 1), (24, .ifCond .eq (16), 3), (27, .aload_n 0, 1), (28, .getfield 26, 3), (31, .iconst (4), 1), (32, .iload_n 1, 1), (33, .imul, 1), (34, .iload_n 2, 1), (35, .iadd, 1), (36, .iaload, 1), (37, .goto (4), 3), (40, .iconst (-1), 1), (41, .ireturn, 1)]
theorem d_Gr_doorOn : mz_dec prog_5_method_15_code dl_Gr_doorOn = true := by decide +kernel
def y_Gr_otherCell : MethodName := ⟨"MazeForms$Grid", "otherCell", "(II)I"⟩
abbrev w_Gr_otherCell : List Cond := .code y_Gr_otherCell prog_5_method_19_code 3 (some .int) :: mz_tb
def dl_Gr_otherCell : List (Nat × ClassFile.Instr × Nat) := [(0, .aload_n 0, 1), (1, .iload_n 1, 1), (2, .invokevirtual 52, 3), (5, .ifCond .ne (5), 3), (8, .iconst (-1), 1), (9, .ireturn, 1), (10, .aload_n 0, 1), (11, .getfield 30, 3), (14, .iload_n 1, 1), (15, .iaload, 1), (16, .iload_n 2, 1), (17, .if_icmp .ne (12), 3), (20, .aload_n 0, 1), (21, .getfield 33, 3), (24, .iload_n 1, 1), (25, .iaload, 1), (26, .goto (9), 3), (29, .aload_n 0, 1), (30, .getfield 30, 3), (33, .iload_n 1, 1), (34, .iaload, 1), (35, .ireturn, 1)]
theorem d_Gr_otherCell : mz_dec prog_5_method_19_code dl_Gr_otherCell = true := by decide +kernel
def I_Gr_width (w h : Nat) : List (Nat × mz_Op) := [(0, mz_lda 0 1), (1, mz_gf 3 0 4), (4, mz_ri)]
def I_Gr_cellCount (w h : Nat) : List (Nat × mz_Op) := [(0, mz_lda 0 1), (1, mz_gf 3 2 4), (4, mz_al 5), (5, mz_ri)]
def I_Gr_mostDoors (w h : Nat) : List (Nat × mz_Op) := [(0, mz_lda 0 1), (1, mz_gf 3 6 4), (4, mz_al 5), (5, mz_ri)]
def I_Gr_doorCount (w h : Nat) : List (Nat × mz_Op) := [(0, mz_lda 0 1), (1, mz_gf 3 7 4), (4, mz_ri)]
def I_Gr_edition (w h : Nat) : List (Nat × mz_Op) := [(0, mz_lda 0 1), (1, mz_gf 3 8 4), (4, mz_ri)]
def I_Gr_isCell (w h : Nat) : List (Nat × mz_Op) := [(0, mz_ldi 1 1), (1, mz_if (fun x => x < 0) 17 4), (4, mz_ldi 1 5), (5, mz_lda 0 6), (6, mz_gf 3 2 9), (9, mz_al 10), (10, mz_ic (fun x y => y ≤ x) 17 13), (13, mz_push (.int (1)) 14), (14, mz_go 18), (17, mz_push (.int (0)) 18), (18, mz_rz)]
def I_Gr_isFree (w h : Nat) : List (Nat × mz_Op) := [(0, mz_lda 0 1), (1, mz_ldi 1 2), (2, mz_ci 2 3 (C_Gr_isCell w h) 5), (5, mz_if (fun x => x = 0) 21 8), (8, mz_lda 0 9), (9, mz_gf 3 2 12), (12, mz_ldi 1 13), (13, mz_iald 1 14), (14, mz_if (fun x => x = 0) 17 21), (17, mz_push (.int (1)) 18), (18, mz_go 22), (21, mz_push (.int (0)) 22), (22, mz_rz)]
def I_Gr_isDoor (w h : Nat) : List (Nat × mz_Op) := [(0, mz_ldi 1 1), (1, mz_if (fun x => x < 0) 25 4), (4, mz_ldi 1 5), (5, mz_lda 0 6), (6, mz_gf 3 7 9), (9, mz_ic (fun x y => y ≤ x) 25 12), (12, mz_ldi 1 13), (13, mz_lda 0 14), (14, mz_gf 3 6 17), (17, mz_al 18), (18, mz_ic (fun x y => y ≤ x) 25 21), (21, mz_push (.int (1)) 22), (22, mz_go 26), (25, mz_push (.int (0)) 26), (26, mz_rz)]
def I_Gr_isOpen (w h : Nat) : List (Nat × mz_Op) := [(0, mz_lda 0 1), (1, mz_ldi 1 2), (2, mz_ci 2 3 (C_Gr_isDoor w h) 5), (5, mz_if (fun x => x = 0) 21 8), (8, mz_lda 0 9), (9, mz_gf 3 6 12), (12, mz_ldi 1 13), (13, mz_iald 1 14), (14, mz_if (fun x => x = 0) 21 17), (17, mz_push (.int (1)) 18), (18, mz_go 22), (21, mz_push (.int (0)) 22), (22, mz_rz)]
def I_Gr_lesserCell (w h : Nat) : List (Nat × mz_Op) := [(0, mz_lda 0 1), (1, mz_ldi 1 2), (2, mz_ci 2 3 (C_Gr_isDoor w h) 5), (5, mz_if (fun x => x = 0) 17 8), (8, mz_lda 0 9), (9, mz_gf 3 4 12), (12, mz_ldi 1 13), (13, mz_iald 0 14), (14, mz_go 18), (17, mz_push (.int (-1)) 18), (18, mz_ri)]
def I_Gr_greaterCell (w h : Nat) : List (Nat × mz_Op) := [(0, mz_lda 0 1), (1, mz_ldi 1 2), (2, mz_ci 2 3 (C_Gr_isDoor w h) 5), (5, mz_if (fun x => x = 0) 17 8), (8, mz_lda 0 9), (9, mz_gf 3 5 12), (12, mz_ldi 1 13), (13, mz_iald 0 14), (14, mz_go 18), (17, mz_push (.int (-1)) 18), (18, mz_ri)]
def I_Gr_cellAt (w h : Nat) : List (Nat × mz_Op) := [(0, mz_ldi 1 1), (1, mz_if (fun x => x < 0) 28 4), (4, mz_ldi 1 5), (5, mz_lda 0 6), (6, mz_gf 3 0 9), (9, mz_ic (fun x y => y ≤ x) 28 12), (12, mz_ldi 2 13), (13, mz_if (fun x => x < 0) 28 16), (16, mz_ldi 2 17), (17, mz_lda 0 18), (18, mz_gf 3 1 21), (21, mz_ic (fun x y => y ≤ x) 28 24), (24, mz_push (.int (1)) 25), (25, mz_go 29), (28, mz_push (.int (0)) 29), (29, mz_sti 3 30), (30, mz_ldi 3 31), (31, mz_if (fun x => x = 0) 45 34), (34, mz_ldi 1 35), (35, mz_lda 0 36), (36, mz_gf 3 0 39), (39, mz_ldi 2 40), (40, mz_bi (fun x y => x * y) 41), (41, mz_bi (fun x y => x + y) 42), (42, mz_go 46), (45, mz_push (.int (-1)) 46), (46, mz_ri)]
def I_Gr_doorOn (w h : Nat) : List (Nat × mz_Op) := [(0, mz_lda 0 1), (1, mz_ldi 1 2), (2, mz_ci 2 3 (C_Gr_isCell w h) 5), (5, mz_if (fun x => x = 0) 21 8), (8, mz_ldi 2 9), (9, mz_if (fun x => x < 0) 21 12), (12, mz_ldi 2 13), (13, mz_push (.int (4)) 14), (14, mz_ic (fun x y => y ≤ x) 21 17), (17, mz_push (.int (1)) 18), (18, mz_go 22), (21, mz_push (.int (0)) 22), (22, mz_sti 3 23), (23, mz_ldi 3 24), (24, mz_if (fun x => x = 0) 40 27), (27, mz_lda 0 28), (28, mz_gf 3 3 31), (31, mz_push (.int (4)) 32), (32, mz_ldi 1 33), (33, mz_bi (fun x y => x * y) 34), (34, mz_ldi 2 35), (35, mz_bi (fun x y => x + y) 36), (36, mz_iald 0 37), (37, mz_go 41), (40, mz_push (.int (-1)) 41), (41, mz_ri)]
def I_Gr_otherCell (w h : Nat) : List (Nat × mz_Op) := [(0, mz_lda 0 1), (1, mz_ldi 1 2), (2, mz_ci 2 3 (C_Gr_isDoor w h) 5), (5, mz_if (fun x => x = 0) 8 10), (8, mz_push (.int (-1)) 9), (9, mz_ri), (10, mz_lda 0 11), (11, mz_gf 3 4 14), (14, mz_ldi 1 15), (15, mz_iald 0 16), (16, mz_ldi 2 17), (17, mz_ic (fun x y => x = y) 20 29), (20, mz_lda 0 21), (21, mz_gf 3 5 24), (24, mz_ldi 1 25), (25, mz_iald 0 26), (26, mz_go 35), (29, mz_lda 0 30), (30, mz_gf 3 4 33), (33, mz_ldi 1 34), (34, mz_iald 0 35), (35, mz_ri)]
/-- how many of the first n there are -/
def mz_cnt (f : Nat → Bool) (n : Nat) : Nat := match n with
  | 0 => 0
  | k + 1 => mz_cnt f k + (match f k with
    | true => 1
    | false => 0)
/-- the first k places of row p are v -/
def mz_fil {α : Type} (f : Nat → Nat → α) (p k : Nat) (v : α) : Nat → Nat → α := fun a b => if a = p ∧ b < k then v else f a b
def zg_fre (X : mz_X) (c : Nat) : Bool := decide (X.1 2 c = 0)
/-- the least cell that is not masked, from i on -/
def zg_fst (X : mz_X) (n i : Nat) : Int32 := match n with
  | 0 => -1
  | k + 1 => match zg_fre X i with
    | true => nI i
    | false => zg_fst X k (i + 1)
def zg_closeX (w h : Nat) (X : mz_X) : mz_X := (mz_up (mz_fil X.1 6 (mz_dn w h) 0) 1 8 (X.1 1 8 + 1), X.2)
def zg_setX (X : mz_X) (d v : Int32) : mz_X := (mz_up (mz_up X.1 6 d.toNatClampNeg v) 1 8 (X.1 1 8 + 1), X.2)
def zg_setB (w h : Nat) (X : mz_X) (d v : Int32) : Bool := zg_door w h X d && !decide (X.1 6 d.toNatClampNeg = v)
/-- what addDoor does -/
def zg_addB (w h : Nat) (X : mz_X) (c o : Int32) : Bool := zg_free w h X c && zg_free w h X o && decide (X.1 1 7 < nI (mz_dn w h))
def zg_addX (X : mz_X) (c s o t : Int32) : mz_X := (mz_up (mz_up (mz_up (mz_up (mz_up X.1 4 (X.1 1 7).toNatClampNeg c) 5 (X.1 1 7).toNatClampNeg o) 3 (4 * c + s).toNatClampNeg (X.1 1 7)) 3 (4 * o + t).toNatClampNeg (X.1 1 7)) 1 7 (X.1 1 7 + 1), X.2)
def zg_add (w h : Nat) (X : mz_X) (c s o t : Int32) : mz_X := match zg_addB w h X c o with
  | true => zg_addX X c s o t
  | false => X
def C_Gr_freeCells (w h : Nat) : mz_CI := fun lay as X Q => match as with
  | [.ref 1] => lay = mz_lay w h ∧ mz_geo w h ∧ Q (nI (mz_cnt (zg_fre X) (w * h))) X
  | _ => False
def C_Gr_firstCell (w h : Nat) : mz_CI := fun lay as X Q => match as with
  | [.ref 1] => lay = mz_lay w h ∧ mz_geo w h ∧ Q (zg_fst X (w * h) 0) X
  | _ => False
def C_Gr_openDoors (w h : Nat) : mz_CI := fun lay as X Q => match as with
  | [.ref 1] => lay = mz_lay w h ∧ mz_geo w h ∧ ∃ D : Nat, D < 2 ^ 31 ∧ X.1 1 7 = nI D ∧ Q (nI (mz_cnt (fun i => zg_open w h X (nI i)) D)) X
  | _ => False
def C_Gr_openSides (w h : Nat) : mz_CI := fun lay as X Q => match as with
  | [.ref 1, .int c] => lay = mz_lay w h ∧ mz_geo w h ∧ Q (nI (mz_cnt (fun s => zg_open w h X (zg_on w h X c (nI s))) 4)) X
  | _ => False
def C_Gr_setDoor (w h : Nat) : mz_CI := fun lay as X Q => match as with
  | [.ref 1, .int d, .int v] => lay = mz_lay w h ∧ mz_geo w h ∧ (v = 0 ∨ v = 1) ∧ Q (mz_b (zg_setB w h X d v)) (match zg_setB w h X d v with
    | true => zg_setX X d v
    | false => X)
  | _ => False
def C_Gr_closeDoors (w h : Nat) : mz_CV := fun lay as X Q => match as with
  | [.ref 1] => lay = mz_lay w h ∧ mz_geo w h ∧ Q (zg_closeX w h X)
  | _ => False
def C_Gr_addDoor (w h : Nat) : mz_CV := fun lay as X Q => match as with
  | [.ref 1, .int c, .int s, .int o, .int t] => lay = mz_lay w h ∧ mz_geo w h ∧ (¬ X.1 1 7 < 0) ∧ (¬ s < 0 ∧ ¬ 4 ≤ s) ∧ (¬ t < 0 ∧ ¬ 4 ≤ t) ∧ Q (zg_add w h X c s o t)
  | _ => False
def y_Gr_freeCells : MethodName := ⟨"MazeForms$Grid", "freeCells", "()I"⟩
abbrev w_Gr_freeCells : List Cond := .code y_Gr_freeCells prog_5_method_12_code 3 (some .int) :: mz_tb
def dl_Gr_freeCells : List (Nat × ClassFile.Instr × Nat) := [(0, .iconst (0), 1), (1, .istore_n 1, 1), (2, .iconst (0), 1), (3, .istore_n 2, 1), (4, .iload_n 2, 1), (5, .aload_n 0, 1), (6, .getfield 22, 3), (9, .arraylength, 1), (10, .if_icmp .ge (21), 3), (13, .aload_n 0, 1), (14, .getfield 22, 3), (17, .iload_n 2, 1), (18, .baload, 1), (19, .ifCond .ne (6), 3), (22, .iinc 1 (1), 3), (25, .iinc 2 (1), 3), (28, .goto (-24), 3), (31, .iload_n 1, 1), (32, .ireturn, 1)]
theorem d_Gr_freeCells : mz_dec prog_5_method_12_code dl_Gr_freeCells = true := by decide +kernel
def y_Gr_firstCell : MethodName := ⟨"MazeForms$Grid", "firstCell", "()I"⟩
abbrev w_Gr_firstCell : List Cond := .code y_Gr_firstCell prog_5_method_13_code 2 (some .int) :: mz_tb
def dl_Gr_firstCell : List (Nat × ClassFile.Instr × Nat) := [(0, .iconst (0), 1), (1, .istore_n 1, 1), (2, .iload_n 1, 1), (3, .aload_n 0, 1), (4, .getfield 22, 3), (7, .arraylength, 1), (8, .if_icmp .ge (20), 3), (11, .aload_n 0, 1), (12, .getfield 22, 3), (15, .iload_n 1, 1), (16, .baload, 1), (17, .ifCond .ne (5), 3), (20, .iload_n 1, 1), (21, .ireturn, 1), (22, .iinc 1 (1), 3), (25, .goto (-23), 3), (28, .iconst (-1), 1), (29, .ireturn, 1)]
theorem d_Gr_firstCell : mz_dec prog_5_method_13_code dl_Gr_firstCell = true := by decide +kernel
def y_Gr_openDoors : MethodName := ⟨"MazeForms$Grid", "openDoors", "()I"⟩
abbrev w_Gr_openDoors : List Cond := .code y_Gr_openDoors prog_5_method_14_code 3 (some .int) :: mz_tb
def dl_Gr_openDoors : List (Nat × ClassFile.Instr × Nat) := [(0, .iconst (0), 1), (1, .istore_n 1, 1), (2, .iconst (0), 1), (3, .istore_n 2, 1), (4, .iload_n 2, 1), (5, .aload_n 0, 1), (6, .getfield 42, 3), (9, .if_icmp .ge (20), 3), (12, .aload_n 0, 1), (13, .iload_n 2, 1), (14, .invokevirtual 55, 3), (17, .ifCond .eq (6), 3), (20, .iinc 1 (1), 3), (23, .iinc 2 (1), 3), (26, .goto (-22), 3), (29, .iload_n 1, 1), (30, .ireturn, 1)]
theorem d_Gr_openDoors : mz_dec prog_5_method_14_code dl_Gr_openDoors = true := by decide +kernel
def y_Gr_openSides : MethodName := ⟨"MazeForms$Grid", "openSides", "(I)I"⟩
abbrev w_Gr_openSides : List Cond := .code y_Gr_openSides prog_5_method_16_code 4 (some .int) :: mz_tb
def dl_Gr_openSides : List (Nat × ClassFile.Instr × Nat) := [(0, .iconst (0), 1), (1, .istore_n 2, 1), (2, .iconst (0), 1), (3, .istore_n 3, 1), (4, .iload_n 3, 1), (5, .iconst (4), 1), (6, .if_icmp .ge (25), 3), (9, .aload_n 0, 1), (10, .aload_n 0, 1), (11, .iload_n 1, 1), (12, .iload_n 3, 1), (13, .invokevirtual 58, 3), (16, .invokevirtual 55, 3), (19, .ifCond .eq (6), 3), (22, .iinc 2 (1), 3), (25, .iinc 3 (1), 3), (28, .goto (-24), 3), (31, .iload_n 2, 1), (32, .ireturn, 1)]
theorem d_Gr_openSides : mz_dec prog_5_method_16_code dl_Gr_openSides = true := by decide +kernel
def y_Gr_setDoor : MethodName := ⟨"MazeForms$Grid", "setDoor", "(IZ)Z"⟩
abbrev w_Gr_setDoor : List Cond := .code y_Gr_setDoor prog_5_method_20_code 3 (some .boolean) :: mz_tb
def dl_Gr_setDoor : List (Nat × ClassFile.Instr × Nat) := [(0, .aload_n 0, 1), (1, .iload_n 1, 1), (2, .invokevirtual 52, 3), (5, .ifCond .eq (13), 3), (8, .aload_n 0, 1), (9, .getfield 36, 3), (12, .iload_n 1, 1), (13, .baload, 1), (14, .iload_n 2, 1), (15, .if_icmp .ne (5), 3), (18, .iconst (0), 1), (19, .ireturn, 1), (20, .aload_n 0, 1), (21, .getfield 36, 3), (24, .iload_n 1, 1), (25, .iload_n 2, 1), (26, .bastore, 1), (27, .aload_n 0, 1), (28, .dup, 1), (29, .getfield 45, 3), (32, .iconst (1), 1), (33, .iadd, 1), (34, .putfield 45, 3), (37, .iconst (1), 1), (38, .ireturn, 1)]
theorem d_Gr_setDoor : mz_dec prog_5_method_20_code dl_Gr_setDoor = true := by decide +kernel
def y_Gr_closeDoors : MethodName := ⟨"MazeForms$Grid", "closeDoors", "()V"⟩
abbrev w_Gr_closeDoors : List Cond := .code y_Gr_closeDoors prog_5_method_22_code 2 none :: mz_tb
def dl_Gr_closeDoors : List (Nat × ClassFile.Instr × Nat) := [(0, .iconst (0), 1), (1, .istore_n 1, 1), (2, .iload_n 1, 1), (3, .aload_n 0, 1), (4, .getfield 36, 3), (7, .arraylength, 1), (8, .if_icmp .ge (16), 3), (11, .aload_n 0, 1), (12, .getfield 36, 3), (15, .iload_n 1, 1), (16, .iconst (0), 1), (17, .bastore, 1), (18, .iinc 1 (1), 3), (21, .goto (-19), 3), (24, .aload_n 0, 1), (25, .dup, 1), (26, .getfield 45, 3), (29, .iconst (1), 1), (30, .iadd, 1), (31, .putfield 45, 3), (34, .return_, 1)]
theorem d_Gr_closeDoors : mz_dec prog_5_method_22_code dl_Gr_closeDoors = true := by decide +kernel
def y_Gr_addDoor : MethodName := ⟨"MazeForms$Grid", "addDoor", "(IIII)V"⟩
abbrev w_Gr_addDoor : List Cond := .code y_Gr_addDoor prog_5_method_25_code 5 none :: mz_tb
def dl_Gr_addDoor : List (Nat × ClassFile.Instr × Nat) := [(0, .aload_n 0, 1), (1, .iload_n 1, 1), (2, .invokevirtual 86, 3), (5, .ifCond .eq (23), 3), (8, .aload_n 0, 1), (9, .iload_n 3, 1), (10, .invokevirtual 86, 3), (13, .ifCond .eq (15), 3), (16, .aload_n 0, 1), (17, .getfield 42, 3), (20, .aload_n 0, 1), (21, .getfield 36, 3), (24, .arraylength, 1), (25, .if_icmp .lt (4), 3), (28, .return_, 1), (29, .aload_n 0, 1), (30, .getfield 30, 3), (33, .aload_n 0, 1), (34, .getfield 42, 3), (37, .iload_n 1, 1), (38, .iastore, 1), (39, .aload_n 0, 1), (40, .getfield 33, 3), (43, .aload_n 0, 1), (44, .getfield 42, 3), (47, .iload_n 3, 1), (48, .iastore, 1), (49, .aload_n 0, 1), (50, .getfield 26, 3), (53, .iconst (4), 1), (54, .iload_n 1, 1), (55, .imul, 1), (56, .iload_n 2, 1), (57, .iadd, 1), (58, .aload_n 0, 1), (59, .getfield 42, 3), (62, .iastore, 1), (63, .aload_n 0, 1), (64, .getfield 26, 3), (67, .iconst (4), 1), (68, .iload_n 3, 1), (69, .imul, 1), (70, .iload 4, 2), (72, .iadd, 1), (73, .aload_n 0, 1), (74, .getfield 42, 3), (77, .iastore, 1), (78, .aload_n 0, 1), (79, .dup, 1), (80, .getfield 42, 3), (83, .iconst (1), 1), (84, .iadd, 1), (85, .putfield 42, 3), (88, .return_, 1)]
theorem d_Gr_addDoor : mz_dec prog_5_method_25_code dl_Gr_addDoor = true := by decide +kernel
def I_Gr_freeCells (w h : Nat) : List (Nat × mz_Op) := [(0, mz_push (.int (0)) 1), (1, mz_sti 1 2), (2, mz_push (.int (0)) 3), (3, mz_sti 2 4), (4, mz_ldi 2 5), (5, mz_lda 0 6), (6, mz_gf 3 2 9), (9, mz_al 10), (10, mz_ic (fun x y => y ≤ x) 31 13), (13, mz_lda 0 14), (14, mz_gf 3 2 17), (17, mz_ldi 2 18), (18, mz_iald 1 19), (19, mz_if (fun x => x = 0) 22 25), (22, mz_inc 1 (1) 25), (25, mz_inc 2 (1) 28), (28, mz_go 4), (31, mz_ldi 1 32), (32, mz_ri)]
def I_Gr_firstCell (w h : Nat) : List (Nat × mz_Op) := [(0, mz_push (.int (0)) 1), (1, mz_sti 1 2), (2, mz_ldi 1 3), (3, mz_lda 0 4), (4, mz_gf 3 2 7), (7, mz_al 8), (8, mz_ic (fun x y => y ≤ x) 28 11), (11, mz_lda 0 12), (12, mz_gf 3 2 15), (15, mz_ldi 1 16), (16, mz_iald 1 17), (17, mz_if (fun x => x = 0) 20 22), (20, mz_ldi 1 21), (21, mz_ri), (22, mz_inc 1 (1) 25), (25, mz_go 2), (28, mz_push (.int (-1)) 29), (29, mz_ri)]
def I_Gr_openDoors (w h : Nat) : List (Nat × mz_Op) := [(0, mz_push (.int (0)) 1), (1, mz_sti 1 2), (2, mz_push (.int (0)) 3), (3, mz_sti 2 4), (4, mz_ldi 2 5), (5, mz_lda 0 6), (6, mz_gf 3 7 9), (9, mz_ic (fun x y => y ≤ x) 29 12), (12, mz_lda 0 13), (13, mz_ldi 2 14), (14, mz_ci 2 3 (C_Gr_isOpen w h) 17), (17, mz_if (fun x => x = 0) 23 20), (20, mz_inc 1 (1) 23), (23, mz_inc 2 (1) 26), (26, mz_go 4), (29, mz_ldi 1 30), (30, mz_ri)]
def I_Gr_openSides (w h : Nat) : List (Nat × mz_Op) := [(0, mz_push (.int (0)) 1), (1, mz_sti 2 2), (2, mz_push (.int (0)) 3), (3, mz_sti 3 4), (4, mz_ldi 3 5), (5, mz_push (.int (4)) 6), (6, mz_ic (fun x y => y ≤ x) 31 9), (9, mz_lda 0 10), (10, mz_lda 0 11), (11, mz_ldi 1 12), (12, mz_ldi 3 13), (13, mz_ci 3 3 (C_Gr_doorOn w h) 16), (16, mz_ci 2 3 (C_Gr_isOpen w h) 19), (19, mz_if (fun x => x = 0) 25 22), (22, mz_inc 2 (1) 25), (25, mz_inc 3 (1) 28), (28, mz_go 4), (31, mz_ldi 2 32), (32, mz_ri)]
def I_Gr_setDoor (w h : Nat) : List (Nat × mz_Op) := [(0, mz_lda 0 1), (1, mz_ldi 1 2), (2, mz_ci 2 3 (C_Gr_isDoor w h) 5), (5, mz_if (fun x => x = 0) 18 8), (8, mz_lda 0 9), (9, mz_gf 3 6 12), (12, mz_ldi 1 13), (13, mz_iald 1 14), (14, mz_ldi 2 15), (15, mz_ic (fun x y => x = y) 18 20), (18, mz_push (.int (0)) 19), (19, mz_rz), (20, mz_lda 0 21), (21, mz_gf 3 6 24), (24, mz_ldi 1 25), (25, mz_ldi 2 26), (26, mz_iast 1 27), (27, mz_lda 0 28), (28, mz_dup 29), (29, mz_gf 3 8 32), (32, mz_push (.int (1)) 33), (33, mz_bi (fun x y => x + y) 34), (34, mz_pfi 3 8 37), (37, mz_push (.int (1)) 38), (38, mz_rz)]
def I_Gr_closeDoors (w h : Nat) : List (Nat × mz_Op) := [(0, mz_push (.int (0)) 1), (1, mz_sti 1 2), (2, mz_ldi 1 3), (3, mz_lda 0 4), (4, mz_gf 3 6 7), (7, mz_al 8), (8, mz_ic (fun x y => y ≤ x) 24 11), (11, mz_lda 0 12), (12, mz_gf 3 6 15), (15, mz_ldi 1 16), (16, mz_push (.int (0)) 17), (17, mz_iast 1 18), (18, mz_inc 1 (1) 21), (21, mz_go 2), (24, mz_lda 0 25), (25, mz_dup 26), (26, mz_gf 3 8 29), (29, mz_push (.int (1)) 30), (30, mz_bi (fun x y => x + y) 31), (31, mz_pfi 3 8 34), (34, mz_rv)]
def I_Gr_addDoor (w h : Nat) : List (Nat × mz_Op) := [(0, mz_lda 0 1), (1, mz_ldi 1 2), (2, mz_ci 2 3 (C_Gr_isFree w h) 5), (5, mz_if (fun x => x = 0) 28 8), (8, mz_lda 0 9), (9, mz_ldi 3 10), (10, mz_ci 2 3 (C_Gr_isFree w h) 13), (13, mz_if (fun x => x = 0) 28 16), (16, mz_lda 0 17), (17, mz_gf 3 7 20), (20, mz_lda 0 21), (21, mz_gf 3 6 24), (24, mz_al 25), (25, mz_ic (fun x y => x < y) 29 28), (28, mz_rv), (29, mz_lda 0 30), (30, mz_gf 3 4 33), (33, mz_lda 0 34), (34, mz_gf 3 7 37), (37, mz_ldi 1 38), (38, mz_iast 0 39), (39, mz_lda 0 40), (40, mz_gf 3 5 43), (43, mz_lda 0 44), (44, mz_gf 3 7 47), (47, mz_ldi 3 48), (48, mz_iast 0 49), (49, mz_lda 0 50), (50, mz_gf 3 3 53), (53, mz_push (.int (4)) 54), (54, mz_ldi 1 55), (55, mz_bi (fun x y => x * y) 56), (56, mz_ldi 2 57), (57, mz_bi (fun x y => x + y) 58), (58, mz_lda 0 59), (59, mz_gf 3 7 62), (62, mz_iast 0 63), (63, mz_lda 0 64), (64, mz_gf 3 3 67), (67, mz_push (.int (4)) 68), (68, mz_ldi 3 69), (69, mz_bi (fun x y => x * y) 70), (70, mz_ldi 4 72), (72, mz_bi (fun x y => x + y) 73), (73, mz_lda 0 74), (74, mz_gf 3 7 77), (77, mz_iast 0 78), (78, mz_lda 0 79), (79, mz_dup 80), (80, mz_gf 3 7 83), (83, mz_push (.int (1)) 84), (84, mz_bi (fun x y => x + y) 85), (85, mz_pfi 3 7 88), (88, mz_rv)]
