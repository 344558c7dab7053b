/-- TreeCount (place 20: band 1, stride 2, size 5 are ints, prime 6 a long), placeOf (place 21), entries (place 22) -/
abbrev zq_E (w h : Nat) : Nat := w * h * (3 * w + 1)
def zq_lr (X : mz_X) (s : Int32) : Int32 := if s + X.1 20 1 < X.1 20 5 - 1 then s + X.1 20 1 else X.1 20 5 - 1
def zq_lc (X : mz_X) (s : Int32) : Int32 := if s + 2 * X.1 20 1 < X.1 20 5 - 1 then s + 2 * X.1 20 1 else X.1 20 5 - 1
def zq_in (X : mz_X) (r c : Int32) : Bool := !decide (r < 0) && !decide (X.1 20 5 ≤ r) && !decide (c < 0) && !decide (X.1 20 5 ≤ c)
def zq_he (X : mz_X) (r c : Int32) : Bool := !decide (c - r < -(X.1 20 1)) && !decide (2 * X.1 20 1 < c - r)
def zq_sl (X : mz_X) (r c : Int32) : Int32 := r * X.1 20 2 + c - r + X.1 20 1
def zq_sB (w h : Nat) (X : mz_X) (r c : Int32) : Bool := zq_in X r c && zq_he X r c && !decide (zq_sl X r c < 0) && !decide (nI (zq_E w h) ≤ zq_sl X r c)
def zq_slot (w h : Nat) (X : mz_X) (r c : Int32) : Int32 := match zq_sB w h X r c with
  | true => zq_sl X r c
  | false => -1
def zq_e (w h : Nat) (X : mz_X) (r c : Int32) : Int64 := match decide (zq_slot w h X r c = -1) with
  | true => 0
  | false => X.2 22 (zq_slot w h X r c).toNatClampNeg
def zq_add (w h : Nat) (X : mz_X) (r c : Int32) (v : Int64) : mz_X := match decide (zq_slot w h X r c = -1) with
  | true => X
  | false => (X.1, mz_up X.2 22 (zq_slot w h X r c).toNatClampNeg (X.2 22 (zq_slot w h X r c).toNatClampNeg + v))
def zq_pl (w h : Nat) (X : mz_X) (c : Int32) : Int32 := match mz_lt c (w * h) with
  | true => X.1 21 c.toNatClampNeg
  | false => -1
def zq_nm (w h : Nat) (X : mz_X) (k : Nat) : mz_X := (fun p j => if p = 21 ∧ j < k then nI (mz_cnt (fun c => zg_free w h X (nI c)) j) else X.1 p j, X.2)
def zq_tm (X : mz_X) (a b : Int64) : Int64 := match decide (2 ≤ X.2 20 6) with
  | true => a * b - a * b / X.2 20 6 * X.2 20 6
  | false => 0
/-- a door's four entries -/
def zq_fa (w h : Nat) (X : mz_X) (d : Nat) : Int32 := zq_pl w h X (zg_les w h X (nI d))
def zq_fb (w h : Nat) (X : mz_X) (d : Nat) : Int32 := zq_pl w h X (zg_gre w h X (nI d))
def zq_f1 (w h : Nat) (X : mz_X) (d : Nat) : mz_X := zq_add w h (zq_add w h X (zq_fa w h X d) (zq_fa w h X d) 1) (zq_fb w h X d) (zq_fb w h X d) 1
def zq_f2 (w h : Nat) (X : mz_X) (d : Nat) : mz_X := zq_add w h (zq_f1 w h X d) (zq_fa w h X d) (zq_fb w h X d) ((zq_f1 w h X d).2 20 6 - 1)
def zq_fS (w h : Nat) (X : mz_X) (d : Nat) : mz_X := zq_add w h (zq_f2 w h X d) (zq_fb w h X d) (zq_fa w h X d) ((zq_f2 w h X d).2 20 6 - 1)
def zq_f (w h : Nat) (X : mz_X) (k : Nat) : mz_X := match k with
  | 0 => (X.1, mz_fil X.2 22 (zq_E w h) 0)
  | j + 1 => zq_fS w h (zq_f w h X j) j
def C_Tc_lastRow (w h : Nat) : mz_CI := fun lay as X Q => match as with
  | [.ref 20, .int s] => lay = mz_lay w h ∧ mz_geo w h ∧ Q (zq_lr X s) X
  | _ => False
def C_Tc_lastColumn (w h : Nat) : mz_CI := fun lay as X Q => match as with
  | [.ref 20, .int s] => lay = mz_lay w h ∧ mz_geo w h ∧ Q (zq_lc X s) X
  | _ => False
def C_Tc_slotOf (w h : Nat) : mz_CI := fun lay as X Q => match as with
  | [.ref 20, .int r, .int c] => lay = mz_lay w h ∧ mz_geo w h ∧ Q (zq_slot w h X r c) X
  | _ => False
def C_Tc_entry (w h : Nat) : mz_CL := fun lay as X Q => match as with
  | [.ref 20, .int r, .int c] => lay = mz_lay w h ∧ mz_geo w h ∧ Q (zq_e w h X r c) X
  | _ => False
def C_Tc_addTo (w h : Nat) : mz_CV := fun lay as X Q => match as with
  | [.ref 20, .int r, .int c, .long v] => lay = mz_lay w h ∧ mz_geo w h ∧ Q (zq_add w h X r c v)
  | _ => False
def C_Tc_placeIn (w h : Nat) : mz_CI := fun lay as X Q => match as with
  | [.ref 20, .int c] => lay = mz_lay w h ∧ mz_geo w h ∧ Q (zq_pl w h X c) X
  | _ => False
def C_Tc_numberFreeCells (w h : Nat) : mz_CI := fun lay as X Q => match as with
  | [.ref 20] => lay = mz_lay w h ∧ mz_geo w h ∧ Q (nI (mz_cnt (fun c => zg_free w h X (nI c)) (w * h))) (zq_nm w h X (w * h))
  | _ => False
def C_Tc_times (w h : Nat) : mz_CL := fun lay as X Q => match as with
  | [.ref 20, .long a, .long b] => lay = mz_lay w h ∧ mz_geo w h ∧ Q (zq_tm X a b) X
  | _ => False
def C_Tc_fillIn (w h : Nat) : mz_CV := fun lay as X Q => match as with
  | [.ref 20] => lay = mz_lay w h ∧ mz_geo w h ∧ ∃ D : Nat, zm_D w h D X ∧ Q (zq_f w h X D)
  | _ => False
def y_Tc_lastRow : MethodName := ⟨"MazeForms$TreeCount", "lastRow", "(I)I"⟩
abbrev w_Tc_lastRow : List Cond := .code y_Tc_lastRow prog_9_method_11_code 2 (some .int) :: mz_tb
def dl_Tc_lastRow : List (Nat × ClassFile.Instr × Nat) := [(0, .aload_n 0, 1), (1, .getfield 50, 3), (4, .iconst (1), 1), (5, .isub, 1), (6, .iload_n 1, 1), (7, .aload_n 0, 1), (8, .getfield 21, 3), (11, .iadd, 1), (12, .invokestatic 116, 3), (15, .ireturn, 1)]
theorem d_Tc_lastRow : mz_dec prog_9_method_11_code dl_Tc_lastRow = true := by decide +kernel
def y_Tc_lastColumn : MethodName := ⟨"MazeForms$TreeCount", "lastColumn", "(I)I"⟩
abbrev w_Tc_lastColumn : List Cond := .code y_Tc_lastColumn prog_9_method_12_code 2 (some .int) :: mz_tb
def dl_Tc_lastColumn : List (Nat × ClassFile.Instr × Nat) := [(0, .aload_n 0, 1), (1, .getfield 50, 3), (4, .iconst (1), 1), (5, .isub, 1), (6, .iload_n 1, 1), (7, .iconst (2), 1), (8, .aload_n 0, 1), (9, .getfield 21, 3), (12, .imul, 1), (13, .iadd, 1), (14, .invokestatic 116, 3), (17, .ireturn, 1)]
theorem d_Tc_lastColumn : mz_dec prog_9_method_12_code dl_Tc_lastColumn = true := by decide +kernel
def y_Tc_slotOf : MethodName := ⟨"MazeForms$TreeCount", "slotOf", "(II)I"⟩
abbrev w_Tc_slotOf : List Cond := .code y_Tc_slotOf prog_9_method_7_code 6 (some .int) :: mz_tb
def dl_Tc_slotOf : List (Nat × ClassFile.Instr × Nat) := [(0, .iload_n 1, 1), (1, .ifCond .lt (27), 3), (4, .iload_n 1, 1), (5, .aload_n 0, 1), (6, .getfield 50, 3), (9, .if_icmp .ge (19), 3), (12, .iload_n 2, 1), (13, .ifCond .lt (15), 3), (16, .iload_n 2, 1), (17, .aload_n 0, 1), (18, .getfield 50, 3), (21, .if_icmp .ge (7), 3), (24, .iconst (1), 1), (25, .goto (4), 3), (28, .iconst (0), 1), (29, .istore_n 3, 1), (30, .iload_n 2, 1), (31, .iload_n 1, 1), (32, .isub, 1), (33, .aload_n 0, 1), (34, .getfield 21, 3), (37, .ineg, 1), (38, .if_icmp .lt (19), 3), (41, .iload_n 2, 1), (42, .iload_n 1, 1), (43, .isub, 1), (44, .iconst (2), 1), (45, .aload_n 0, 1), (46, .getfield 21, 3), (49, .imul, 1), (50, .if_icmp .gt (7), 3), (53, .iconst (1), 1), (54, .goto (4), 3), (57, .iconst (0), 1), (58, .istore 4, 2), (60, .iload_n 1, 1), (61, .aload_n 0, 1), (62, .getfield 25, 3), (65, .imul, 1), (66, .iload_n 2, 1), (67, .iadd, 1), (68, .iload_n 1, 1), (69, .isub, 1), (70, .aload_n 0, 1), (71, .getfield 21, 3), (74, .iadd, 1), (75, .istore 5, 2), (77, .iload_n 3, 1), (78, .ifCond .eq (28), 3), (81, .iload 4, 2), (83, .ifCond .eq (23), 3), (86, .iload 5, 2), (88, .ifCond .lt (18), 3), (91, .iload 5, 2), (93, .aload_n 0, 1), (94, .getfield 35, 3), (97, .arraylength, 1), (98, .if_icmp .ge (8), 3), (101, .iload 5, 2), (103, .goto (4), 3), (106, .iconst (-1), 1), (107, .ireturn, 1)]
theorem d_Tc_slotOf : mz_dec prog_9_method_7_code dl_Tc_slotOf = true := by decide +kernel
def y_Tc_entry : MethodName := ⟨"MazeForms$TreeCount", "entry", "(II)J"⟩
abbrev w_Tc_entry : List Cond := .code y_Tc_entry prog_9_method_8_code 4 (some .long) :: mz_tb
def dl_Tc_entry : List (Nat × ClassFile.Instr × Nat) := [(0, .aload_n 0, 1), (1, .iload_n 1, 1), (2, .iload_n 2, 1), (3, .invokevirtual 90, 3), (6, .istore_n 3, 1), (7, .iload_n 3, 1), (8, .iconst (-1), 1), (9, .if_icmp .ne (7), 3), (12, .lconst 0, 1), (13, .goto (9), 3), (16, .aload_n 0, 1), (17, .getfield 35, 3), (20, .iload_n 3, 1), (21, .laload, 1), (22, .lreturn, 1)]
theorem d_Tc_entry : mz_dec prog_9_method_8_code dl_Tc_entry = true := by decide +kernel
def y_Tc_addTo : MethodName := ⟨"MazeForms$TreeCount", "addTo", "(IIJ)V"⟩
abbrev w_Tc_addTo : List Cond := .code y_Tc_addTo prog_9_method_6_code 6 none :: mz_tb
def dl_Tc_addTo : List (Nat × ClassFile.Instr × Nat) := [(0, .aload_n 0, 1), (1, .iload_n 1, 1), (2, .iload_n 2, 1), (3, .invokevirtual 90, 3), (6, .istore 5, 2), (8, .iload 5, 2), (10, .iconst (-1), 1), (11, .if_icmp .eq (14), 3), (14, .aload_n 0, 1), (15, .getfield 35, 3), (18, .iload 5, 2), (20, .dup2, 1), (21, .laload, 1), (22, .lload_n 3, 1), (23, .ladd, 1), (24, .lastore, 1), (25, .return_, 1)]
theorem d_Tc_addTo : mz_dec prog_9_method_6_code dl_Tc_addTo = true := by decide +kernel
def y_Tc_placeIn : MethodName := ⟨"MazeForms$TreeCount", "placeIn", "(I)I"⟩
abbrev w_Tc_placeIn : List Cond := .code y_Tc_placeIn prog_9_method_5_code 2 (some .int) :: mz_tb
def dl_Tc_placeIn : List (Nat × ClassFile.Instr × Nat) := [(0, .aload_n 0, 1), (1, .getfield 9, 3), (4, .iload_n 1, 1), (5, .invokevirtual 87, 3), (8, .ifCond .eq (12), 3), (11, .aload_n 0, 1), (12, .getfield 31, 3), (15, .iload_n 1, 1), (16, .iaload, 1), (17, .goto (4), 3), (20, .iconst (-1), 1), (21, .ireturn, 1)]
theorem d_Tc_placeIn : mz_dec prog_9_method_5_code dl_Tc_placeIn = true := by decide +kernel
def y_Tc_numberFreeCells : MethodName := ⟨"MazeForms$TreeCount", "numberFreeCells", "()I"⟩
abbrev w_Tc_numberFreeCells : List Cond := .code y_Tc_numberFreeCells prog_9_method_3_code 3 (some .int) :: mz_tb
def dl_Tc_numberFreeCells : List (Nat × ClassFile.Instr × Nat) := [(0, .iconst (0), 1), (1, .istore_n 1, 1), (2, .iconst (0), 1), (3, .istore_n 2, 1), (4, .iload_n 2, 1), (5, .aload_n 0, 1), (6, .getfield 31, 3), (9, .arraylength, 1), (10, .if_icmp .ge (30), 3), (13, .aload_n 0, 1), (14, .getfield 31, 3), (17, .iload_n 2, 1), (18, .iload_n 1, 1), (19, .iastore, 1), (20, .aload_n 0, 1), (21, .getfield 9, 3), (24, .iload_n 2, 1), (25, .invokevirtual 60, 3), (28, .ifCond .eq (6), 3), (31, .iinc 1 (1), 3), (34, .iinc 2 (1), 3), (37, .goto (-33), 3), (40, .iload_n 1, 1), (41, .ireturn, 1)]
theorem d_Tc_numberFreeCells : mz_dec prog_9_method_3_code dl_Tc_numberFreeCells = true := by decide +kernel
def y_Tc_times : MethodName := ⟨"MazeForms$TreeCount", "times", "(JJ)J"⟩
abbrev w_Tc_times : List Cond := .code y_Tc_times prog_9_method_16_code 5 (some .long) :: mz_tb
def dl_Tc_times : List (Nat × ClassFile.Instr × Nat) := [(0, .aload_n 0, 1), (1, .getfield 43, 3), (4, .ldc2_w 39, 3), (7, .lcmp, 1), (8, .ifCond .ge (7), 3), (11, .lconst 0, 1), (12, .goto (11), 3), (15, .lload_n 1, 1), (16, .lload_n 3, 1), (17, .lmul, 1), (18, .aload_n 0, 1), (19, .getfield 43, 3), (22, .lrem, 1), (23, .lreturn, 1)]
theorem d_Tc_times : mz_dec prog_9_method_16_code dl_Tc_times = true := by decide +kernel
def y_Tc_fillIn : MethodName := ⟨"MazeForms$TreeCount", "fillIn", "()V"⟩
abbrev w_Tc_fillIn : List Cond := .code y_Tc_fillIn prog_9_method_4_code 4 none :: mz_tb
def dl_Tc_fillIn : List (Nat × ClassFile.Instr × Nat) := [(0, .aload_n 0, 1), (1, .getfield 35, 3), (4, .lconst 0, 1), (5, .invokestatic 64, 3), (8, .iconst (0), 1), (9, .istore_n 1, 1), (10, .iload_n 1, 1), (11, .aload_n 0, 1), (12, .getfield 9, 3), (15, .invokevirtual 70, 3), (18, .if_icmp .ge (73), 3), (21, .aload_n 0, 1), (22, .aload_n 0, 1), (23, .getfield 9, 3), (26, .iload_n 1, 1), (27, .invokevirtual 73, 3), (30, .invokevirtual 77, 3), (33, .istore_n 2, 1), (34, .aload_n 0, 1), (35, .aload_n 0, 1), (36, .getfield 9, 3), (39, .iload_n 1, 1), (40, .invokevirtual 80, 3), (43, .invokevirtual 77, 3), (46, .istore_n 3, 1), (47, .aload_n 0, 1), (48, .iload_n 2, 1), (49, .iload_n 2, 1), (50, .lconst 1, 1), (51, .invokevirtual 83, 3), (54, .aload_n 0, 1), (55, .iload_n 3, 1), (56, .iload_n 3, 1), (57, .lconst 1, 1), (58, .invokevirtual 83, 3), (61, .aload_n 0, 1), (62, .iload_n 2, 1), (63, .iload_n 3, 1), (64, .aload_n 0, 1), (65, .getfield 43, 3), (68, .lconst 1, 1), (69, .lsub, 1), (70, .invokevirtual 83, 3), (73, .aload_n 0, 1), (74, .iload_n 3, 1), (75, .iload_n 2, 1), (76, .aload_n 0, 1), (77, .getfield 43, 3), (80, .lconst 1, 1), (81, .lsub, 1), (82, .invokevirtual 83, 3), (85, .iinc 1 (1), 3), (88, .goto (-78), 3), (91, .return_, 1)]
theorem d_Tc_fillIn : mz_dec prog_9_method_4_code dl_Tc_fillIn = true := by decide +kernel
def I_Tc_lastRow (w h : Nat) : List (Nat × mz_Op) := [(0, mz_lda 0 1), (1, mz_gf 7 5 4), (4, mz_push (.int (1)) 5), (5, mz_bi (fun x y => x - y) 6), (6, mz_ldi 1 7), (7, mz_lda 0 8), (8, mz_gf 7 1 11), (11, mz_bi (fun x y => x + y) 12), (12, mz_bin8 (fun x y => if y < x then y else x) 15), (15, mz_ri)]
def I_Tc_lastColumn (w h : Nat) : List (Nat × mz_Op) := [(0, mz_lda 0 1), (1, mz_gf 7 5 4), (4, mz_push (.int (1)) 5), (5, mz_bi (fun x y => x - y) 6), (6, mz_ldi 1 7), (7, mz_push (.int (2)) 8), (8, mz_lda 0 9), (9, mz_gf 7 1 12), (12, mz_bi (fun x y => x * y) 13), (13, mz_bi (fun x y => x + y) 14), (14, mz_bin8 (fun x y => if y < x then y else x) 17), (17, mz_ri)]
def I_Tc_slotOf (w h : Nat) : List (Nat × mz_Op) := [(0, mz_ldi 1 1), (1, mz_if (fun x => x < 0) 28 4), (4, mz_ldi 1 5), (5, mz_lda 0 6), (6, mz_gf 7 5 9), (9, mz_ic (fun x y => y ≤ x) 28 12), (12, mz_ldi 2 13), (13, mz_if (fun x => x < 0) 28 16), (16, mz_ldi 2 17), (17, mz_lda 0 18), (18, mz_gf 7 5 21), (21, mz_ic (fun x y => y ≤ x) 28 24), (24, mz_push (.int (1)) 25), (25, mz_go 29), (28, mz_push (.int (0)) 29), (29, mz_sti 3 30), (30, mz_ldi 2 31), (31, mz_ldi 1 32), (32, mz_bi (fun x y => x - y) 33), (33, mz_lda 0 34), (34, mz_gf 7 1 37), (37, mz_i1 (fun x => -x) 38), (38, mz_ic (fun x y => x < y) 57 41), (41, mz_ldi 2 42), (42, mz_ldi 1 43), (43, mz_bi (fun x y => x - y) 44), (44, mz_push (.int (2)) 45), (45, mz_lda 0 46), (46, mz_gf 7 1 49), (49, mz_bi (fun x y => x * y) 50), (50, mz_ic (fun x y => y < x) 57 53), (53, mz_push (.int (1)) 54), (54, mz_go 58), (57, mz_push (.int (0)) 58), (58, mz_sti 4 60), (60, mz_ldi 1 61), (61, mz_lda 0 62), (62, mz_gf 7 2 65), (65, mz_bi (fun x y => x * y) 66), (66, mz_ldi 2 67), (67, mz_bi (fun x y => x + y) 68), (68, mz_ldi 1 69), (69, mz_bi (fun x y => x - y) 70), (70, mz_lda 0 71), (71, mz_gf 7 1 74), (74, mz_bi (fun x y => x + y) 75), (75, mz_sti 5 77), (77, mz_ldi 3 78), (78, mz_if (fun x => x = 0) 106 81), (81, mz_ldi 4 83), (83, mz_if (fun x => x = 0) 106 86), (86, mz_ldi 5 88), (88, mz_if (fun x => x < 0) 106 91), (91, mz_ldi 5 93), (93, mz_lda 0 94), (94, mz_gf 7 4 97), (97, mz_al 98), (98, mz_ic (fun x y => y ≤ x) 106 101), (101, mz_ldi 5 103), (103, mz_go 107), (106, mz_push (.int (-1)) 107), (107, mz_ri)]
def I_Tc_entry (w h : Nat) : List (Nat × mz_Op) := [(0, mz_lda 0 1), (1, mz_ldi 1 2), (2, mz_ldi 2 3), (3, mz_ci 3 7 (C_Tc_slotOf w h) 6), (6, mz_sti 3 7), (7, mz_ldi 3 8), (8, mz_push (.int (-1)) 9), (9, mz_ic (fun x y => x = y) 12 16), (12, mz_push (.long 0) 13), (13, mz_go 22), (16, mz_lda 0 17), (17, mz_gf 7 4 20), (20, mz_ldi 3 21), (21, mz_lald 22), (22, mz_rl)]
def I_Tc_addTo (w h : Nat) : List (Nat × mz_Op) := [(0, mz_lda 0 1), (1, mz_ldi 1 2), (2, mz_ldi 2 3), (3, mz_ci 3 7 (C_Tc_slotOf w h) 6), (6, mz_sti 5 8), (8, mz_ldi 5 10), (10, mz_push (.int (-1)) 11), (11, mz_ic (fun x y => x = y) 25 14), (14, mz_lda 0 15), (15, mz_gf 7 4 18), (18, mz_ldi 5 20), (20, mz_dup2 21), (21, mz_lald 22), (22, mz_ldl 3 23), (23, mz_bl (fun x y => x + y) 24), (24, mz_last 25), (25, mz_rv)]
def I_Tc_placeIn (w h : Nat) : List (Nat × mz_Op) := [(0, mz_lda 0 1), (1, mz_gf 7 0 4), (4, mz_ldi 1 5), (5, mz_ci 2 3 (C_Gr_isCell w h) 8), (8, mz_if (fun x => x = 0) 20 11), (11, mz_lda 0 12), (12, mz_gf 7 3 15), (15, mz_ldi 1 16), (16, mz_iald 0 17), (17, mz_go 21), (20, mz_push (.int (-1)) 21), (21, mz_ri)]
def I_Tc_numberFreeCells (w h : Nat) : List (Nat × mz_Op) := [(0, mz_push (.int (0)) 1), (1, mz_sti 1 2), (2, mz_push (.int (0)) 3), (3, mz_sti 2 4), (4, mz_ldi 2 5), (5, mz_lda 0 6), (6, mz_gf 7 3 9), (9, mz_al 10), (10, mz_ic (fun x y => y ≤ x) 40 13), (13, mz_lda 0 14), (14, mz_gf 7 3 17), (17, mz_ldi 2 18), (18, mz_ldi 1 19), (19, mz_iast 0 20), (20, mz_lda 0 21), (21, mz_gf 7 0 24), (24, mz_ldi 2 25), (25, mz_ci 2 3 (C_Gr_isFree w h) 28), (28, mz_if (fun x => x = 0) 34 31), (31, mz_inc 1 (1) 34), (34, mz_inc 2 (1) 37), (37, mz_go 4), (40, mz_ldi 1 41), (41, mz_ri)]
def I_Tc_times (w h : Nat) : List (Nat × mz_Op) := [(0, mz_lda 0 1), (1, mz_gf 7 6 4), (4, mz_push (.long (2)) 7), (7, mz_lcmp 8), (8, mz_if (fun x => 0 ≤ x) 15 11), (11, mz_push (.long 0) 12), (12, mz_go 23), (15, mz_ldl 1 16), (16, mz_ldl 3 17), (17, mz_bl (fun x y => x * y) 18), (18, mz_lda 0 19), (19, mz_gf 7 6 22), (22, mz_bld (fun x y => x - x / y * y) 23), (23, mz_rl)]
def I_Tc_fillIn (w h : Nat) : List (Nat × mz_Op) := [(0, mz_lda 0 1), (1, mz_gf 7 4 4), (4, mz_push (.long 0) 5), (5, mz_svo 2 (C_Ja_fillJ w h) 8), (8, mz_push (.int (0)) 9), (9, mz_sti 1 10), (10, mz_ldi 1 11), (11, mz_lda 0 12), (12, mz_gf 7 0 15), (15, mz_ci 1 3 (C_Gr_doorCount w h) 18), (18, mz_ic (fun x y => y ≤ x) 91 21), (21, mz_lda 0 22), (22, mz_lda 0 23), (23, mz_gf 7 0 26), (26, mz_ldi 1 27), (27, mz_ci 2 3 (C_Gr_lesserCell w h) 30), (30, mz_ci 2 7 (C_Tc_placeIn w h) 33), (33, mz_sti 2 34), (34, mz_lda 0 35), (35, mz_lda 0 36), (36, mz_gf 7 0 39), (39, mz_ldi 1 40), (40, mz_ci 2 3 (C_Gr_greaterCell w h) 43), (43, mz_ci 2 7 (C_Tc_placeIn w h) 46), (46, mz_sti 3 47), (47, mz_lda 0 48), (48, mz_ldi 2 49), (49, mz_ldi 2 50), (50, mz_push (.long 1) 51), (51, mz_cvo 4 7 (C_Tc_addTo w h) 54), (54, mz_lda 0 55), (55, mz_ldi 3 56), (56, mz_ldi 3 57), (57, mz_push (.long 1) 58), (58, mz_cvo 4 7 (C_Tc_addTo w h) 61), (61, mz_lda 0 62), (62, mz_ldi 2 63), (63, mz_ldi 3 64), (64, mz_lda 0 65), (65, mz_gf 7 6 68), (68, mz_push (.long 1) 69), (69, mz_bl (fun x y => x - y) 70), (70, mz_cvo 4 7 (C_Tc_addTo w h) 73), (73, mz_lda 0 74), (74, mz_ldi 3 75), (75, mz_ldi 2 76), (76, mz_lda 0 77), (77, mz_gf 7 6 80), (80, mz_push (.long 1) 81), (81, mz_bl (fun x y => x - y) 82), (82, mz_cvo 4 7 (C_Tc_addTo w h) 85), (85, mz_inc 1 (1) 88), (88, mz_go 10), (91, mz_rv)]
theorem zq_E_le {w h : Nat} (g : mz_geo w h) : zq_E w h ≤ 5328 := Nat.le_trans (Nat.mul_le_mul (mz_geo_n g) (by have := g.2.1; omega : 3 * w + 1 ≤ 37)) (by decide)
theorem zq_slot_t {w h : Nat} {X : mz_X} {r c : Int32} (e : zq_sB w h X r c = true) : zq_slot w h X r c = zq_sl X r c := by
  unfold zq_slot
  rw [e]
theorem zq_slot_f {w h : Nat} {X : mz_X} {r c : Int32} (e : zq_sB w h X r c = false) : zq_slot w h X r c = -1 := by
  unfold zq_slot
  rw [e]
theorem zq_slot_in {w h : Nat} {X : mz_X} {r c : Int32} (g : mz_geo w h) (e : ¬ zq_slot w h X r c = -1) : vp_in (zq_slot w h X r c) (zq_E w h) := by
  have hE := zq_E_le g
  cases hb : zq_sB w h X r c with
  | false => exact absurd (zq_slot_f hb) e
  | true =>
    rw [zq_slot_t hb]
    simp only [zq_sB, Bool.and_eq_true, Bool.not_eq_true', decide_eq_false_iff_not] at hb
    exact mz_in hb.1.2 hb.2 (by omega)
theorem zq_e_t {w h : Nat} {X : mz_X} {r c : Int32} (e : zq_slot w h X r c = -1) : zq_e w h X r c = 0 := by
  unfold zq_e
  rw [show decide (zq_slot w h X r c = -1) = true from decide_eq_true e]
theorem zq_e_f {w h : Nat} {X : mz_X} {r c : Int32} (e : ¬ zq_slot w h X r c = -1) : zq_e w h X r c = X.2 22 (zq_slot w h X r c).toNatClampNeg := by
  unfold zq_e
  rw [show decide (zq_slot w h X r c = -1) = false from decide_eq_false e]
theorem zq_add_t {w h : Nat} {X : mz_X} {r c : Int32} {v : Int64} (e : zq_slot w h X r c = -1) : zq_add w h X r c v = X := by
  unfold zq_add
  rw [show decide (zq_slot w h X r c = -1) = true from decide_eq_true e]
theorem zq_add_f {w h : Nat} {X : mz_X} {r c : Int32} {v : Int64} (e : ¬ zq_slot w h X r c = -1) : zq_add w h X r c v = (X.1, mz_up X.2 22 (zq_slot w h X r c).toNatClampNeg (X.2 22 (zq_slot w h X r c).toNatClampNeg + v)) := by
  unfold zq_add
  rw [show decide (zq_slot w h X r c = -1) = false from decide_eq_false e]
theorem zq_add_1 {w h : Nat} (X : mz_X) (r c : Int32) (v : Int64) : (zq_add w h X r c v).1 = X.1 := by
  by_cases e : zq_slot w h X r c = -1
  · rw [zq_add_t e]
  · rw [zq_add_f e]
theorem zq_add_2 {w h p i : Nat} (hp : p ≠ 22) (X : mz_X) (r c : Int32) (v : Int64) : (zq_add w h X r c v).2 p i = X.2 p i := by
  by_cases e : zq_slot w h X r c = -1
  · rw [zq_add_t e]
  · rw [zq_add_f e]
    show mz_up X.2 22 _ _ p i = X.2 p i
    rw [mz_up_off hp]
theorem zq_nm_s (w h : Nat) (X : mz_X) (k : Nat) : (mz_up (zq_nm w h X k).1 21 k (nI (mz_cnt (fun c => zg_free w h X (nI c)) k)), (zq_nm w h X k).2) = zq_nm w h X (k + 1) := by
  refine Prod.ext ?_ rfl
  funext a b
  simp only [mz_up, zq_nm]
  by_cases ha : a = 21
  · subst ha
    by_cases hb : b = k
    · subst hb
      simp
    · have : b < k ↔ b < k + 1 := by omega
      simp [hb, this]
  · simp [ha]
theorem zq_tm_t {X : mz_X} {a b : Int64} (e : 2 ≤ X.2 20 6) : zq_tm X a b = a * b - a * b / X.2 20 6 * X.2 20 6 := by
  unfold zq_tm
  rw [show decide (2 ≤ X.2 20 6) = true from decide_eq_true e]
theorem zq_tm_f {X : mz_X} {a b : Int64} (e : ¬ 2 ≤ X.2 20 6) : zq_tm X a b = 0 := by
  unfold zq_tm
  rw [show decide (2 ≤ X.2 20 6) = false from decide_eq_false e]
theorem zq_fS_1 {w h : Nat} (X : mz_X) (d : Nat) : (zq_fS w h X d).1 = X.1 := by
  unfold zq_fS zq_f2 zq_f1
  rw [zq_add_1, zq_add_1, zq_add_1, zq_add_1]
theorem zq_f_1 {w h : Nat} (X : mz_X) : ∀ k, (zq_f w h X k).1 = X.1
  | 0 => rfl
  | k + 1 => (zq_fS_1 _ _).trans (zq_f_1 X k)
theorem len_Tc_lastRow (w h : Nat) (lay : List mz_E) (as : List Value) (X : mz_X) (Q : Int32 → mz_X → Prop) (hC : C_Tc_lastRow w h lay as X Q) : (mz_l0 as).length ≤ 2 := by
  unfold C_Tc_lastRow at hC
  split at hC
  · exact Nat.le_of_ble_eq_true rfl
  · exact hC.elim
theorem ok_Tc_lastRow (w h : Nat) (lay : List mz_E) (as : List Value) (X : mz_X) (Q : Int32 → mz_X → Prop) (hC : C_Tc_lastRow w h lay as X Q) (K : mz_K) (hK : mz_Cl (I_Tc_lastRow w h) (mz_qi lay Q) K) : K 0 (mz_ent 2 as) [] (lay, X) := by
  unfold C_Tc_lastRow at hC
  split at hC
  · next s =>
    obtain ⟨rfl, g, hq⟩ := hC
    iterate 8 refine hK _ _ _ _ ?_
    refine hK _ _ _ _ (And.intro (by decide) ?_)
    exact hK _ _ _ _ (And.intro rfl (hq))
  · exact hC.elim
theorem len_Tc_lastColumn (w h : Nat) (lay : List mz_E) (as : List Value) (X : mz_X) (Q : Int32 → mz_X → Prop) (hC : C_Tc_lastColumn w h lay as X Q) : (mz_l0 as).length ≤ 2 := by
  unfold C_Tc_lastColumn at hC
  split at hC
  · exact Nat.le_of_ble_eq_true rfl
  · exact hC.elim
theorem ok_Tc_lastColumn (w h : Nat) (lay : List mz_E) (as : List Value) (X : mz_X) (Q : Int32 → mz_X → Prop) (hC : C_Tc_lastColumn w h lay as X Q) (K : mz_K) (hK : mz_Cl (I_Tc_lastColumn w h) (mz_qi lay Q) K) : K 0 (mz_ent 2 as) [] (lay, X) := by
  unfold C_Tc_lastColumn at hC
  split at hC
  · next s =>
    obtain ⟨rfl, g, hq⟩ := hC
    iterate 10 refine hK _ _ _ _ ?_
    refine hK _ _ _ _ (And.intro (by decide) ?_)
    exact hK _ _ _ _ (And.intro rfl (hq))
  · exact hC.elim
theorem len_Tc_slotOf (w h : Nat) (lay : List mz_E) (as : List Value) (X : mz_X) (Q : Int32 → mz_X → Prop) (hC : C_Tc_slotOf w h lay as X Q) : (mz_l0 as).length ≤ 6 := by
  unfold C_Tc_slotOf at hC
  split at hC
  · exact Nat.le_of_ble_eq_true rfl
  · exact hC.elim
theorem ok_Tc_slotOf (w h : Nat) (lay : List mz_E) (as : List Value) (X : mz_X) (Q : Int32 → mz_X → Prop) (hC : C_Tc_slotOf w h lay as X Q) (K : mz_K) (hK : mz_Cl (I_Tc_slotOf w h) (mz_qi lay Q) K) : K 0 (mz_ent 6 as) [] (lay, X) := by
  unfold C_Tc_slotOf at hC
  split at hC
  · next r c =>
    obtain ⟨rfl, g, hq⟩ := hC
    have e4 : ∀ (b1 b2 : Bool), b1 = zq_in X r c → b2 = zq_he X r c → K 58 [some (.ref 20), some (.int r), some (.int c), some (.int (mz_b b1)), none, none] [.int (mz_b b2)] (mz_lay w h, X) := by
      intro b1 b2 h1 h2
      have hF : zq_sB w h X r c = false → ∀ L5 : Option Value, K 106 [some (.ref 20), some (.int r), some (.int c), some (.int (mz_b b1)), some (.int (mz_b b2)), L5] [] (mz_lay w h, X) := by
        intro e L5
        rw [zq_slot_f e] at hq
        refine hK _ _ _ _ ?_
        exact hK _ _ _ _ (And.intro rfl (hq))
      iterate 14 refine hK _ _ _ _ ?_
      refine hK _ _ _ _ (And.intro (fun c1 => ?_) (fun c1 => ?_))
      · exact hF (by simp only [zq_sB, ← h1, mz_b0 c1]; rfl) _
      · refine hK _ _ _ _ ?_
        refine hK _ _ _ _ (And.intro (fun c2 => ?_) (fun c2 => ?_))
        · exact hF (by simp only [zq_sB, ← h2, mz_b0 c2]; simp) _
        · refine hK _ _ _ _ ?_
          refine hK _ _ _ _ (And.intro (fun c3 => ?_) (fun c3 => ?_))
          · exact hF (by simp only [zq_sB]; rw [show decide (zq_sl X r c < 0) = true from decide_eq_true c3]; simp) _
          · iterate 4 refine hK _ _ _ _ ?_
            refine hK _ _ _ _ (And.intro (fun c4 => ?_) (fun c4 => ?_))
            · exact hF (by simp only [zq_sB]; rw [show decide (nI (zq_E w h) ≤ zq_sl X r c) = true from decide_eq_true c4]; simp) _
            · have e : zq_sB w h X r c = true := by
                simp only [zq_sB, Bool.and_eq_true, Bool.not_eq_true', decide_eq_false_iff_not]
                exact ⟨⟨⟨h1.symm.trans (mz_b1 c1), h2.symm.trans (mz_b1 c2)⟩, c3⟩, c4⟩
              rw [zq_slot_t e] at hq
              iterate 2 refine hK _ _ _ _ ?_
              exact hK _ _ _ _ (And.intro rfl (hq))
    have e3 : ∀ (b1 : Bool), b1 = zq_in X r c → K 29 (mz_ent 6 [.ref 20, .int r, .int c]) [.int (mz_b b1)] (mz_lay w h, X) := by
      intro b1 h1
      have hT : zq_he X r c = false → K 57 [some (.ref 20), some (.int r), some (.int c), some (.int (mz_b b1)), none, none] [] (mz_lay w h, X) := by
        intro e
        refine hK _ _ _ _ ?_
        exact e4 b1 false h1 e.symm
      iterate 7 refine hK _ _ _ _ ?_
      refine hK _ _ _ _ (And.intro (fun c1 => ?_) (fun c1 => ?_))
      · dsimp only at c1
        exact hT (by simp only [zq_he]; rw [show decide (c - r < -(X.1 20 1)) = true from decide_eq_true c1]; rfl)
      · dsimp only at c1
        iterate 7 refine hK _ _ _ _ ?_
        refine hK _ _ _ _ (And.intro (fun c2 => ?_) (fun c2 => ?_))
        · dsimp only at c2
          exact hT (by simp only [zq_he]; rw [show decide (2 * X.1 20 1 < c - r) = true from decide_eq_true c2]; simp)
        · dsimp only at c2
          iterate 2 refine hK _ _ _ _ ?_
          exact e4 b1 true h1 (by simp only [zq_he]; rw [show decide (c - r < -(X.1 20 1)) = false from decide_eq_false c1, show decide (2 * X.1 20 1 < c - r) = false from decide_eq_false c2]; rfl)
    have h28 : zq_in X r c = false → K 28 (mz_ent 6 [.ref 20, .int r, .int c]) [] (mz_lay w h, X) := by
      intro e
      refine hK _ _ _ _ ?_
      exact e3 false e.symm
    refine hK _ _ _ _ ?_
    refine hK _ _ _ _ (And.intro (fun c1 => ?_) (fun c1 => ?_))
    · exact h28 (by simp [zq_in, c1])
    · iterate 3 refine hK _ _ _ _ ?_
      refine hK _ _ _ _ (And.intro (fun c2 => ?_) (fun c2 => ?_))
      · dsimp only at c2
        exact h28 (by simp [zq_in, c2])
      · dsimp only at c2
        refine hK _ _ _ _ ?_
        refine hK _ _ _ _ (And.intro (fun c3 => ?_) (fun c3 => ?_))
        · exact h28 (by simp [zq_in, c3])
        · iterate 3 refine hK _ _ _ _ ?_
          refine hK _ _ _ _ (And.intro (fun c4 => ?_) (fun c4 => ?_))
          · dsimp only at c4
            exact h28 (by simp [zq_in, c4])
          · dsimp only at c4
            iterate 2 refine hK _ _ _ _ ?_
            exact e3 true (by simp [zq_in, c1, c2, c3, c4])
  · exact hC.elim
theorem len_Tc_entry (w h : Nat) (lay : List mz_E) (as : List Value) (X : mz_X) (Q : Int64 → mz_X → Prop) (hC : C_Tc_entry w h lay as X Q) : (mz_l0 as).length ≤ 4 := by
  unfold C_Tc_entry at hC
  split at hC
  · exact Nat.le_of_ble_eq_true rfl
  · exact hC.elim
theorem ok_Tc_entry (w h : Nat) (lay : List mz_E) (as : List Value) (X : mz_X) (Q : Int64 → mz_X → Prop) (hC : C_Tc_entry w h lay as X Q) (K : mz_K) (hK : mz_Cl (I_Tc_entry w h) (mz_ql lay Q) K) : K 0 (mz_ent 4 as) [] (lay, X) := by
  unfold C_Tc_entry at hC
  split at hC
  · next r c =>
    obtain ⟨rfl, g, hq⟩ := hC
    iterate 3 refine hK _ _ _ _ ?_
    refine hK _ _ _ _ (And.intro (rfl) (And.intro (g) ?_))
    iterate 3 refine hK _ _ _ _ ?_
    refine hK _ _ _ _ (And.intro (fun c1 => ?_) (fun c1 => ?_))
    · rw [zq_e_t c1] at hq
      iterate 2 refine hK _ _ _ _ ?_
      exact hK _ _ _ _ (And.intro rfl (hq))
    · rw [zq_e_f c1] at hq
      iterate 3 refine hK _ _ _ _ ?_
      refine hK _ _ _ _ (And.intro (zq_slot_in g c1) ?_)
      exact hK _ _ _ _ (And.intro rfl (hq))
  · exact hC.elim
theorem len_Tc_addTo (w h : Nat) (lay : List mz_E) (as : List Value) (X : mz_X) (Q : mz_X → Prop) (hC : C_Tc_addTo w h lay as X Q) : (mz_l0 as).length ≤ 6 := by
  unfold C_Tc_addTo at hC
  split at hC
  · exact Nat.le_of_ble_eq_true rfl
  · exact hC.elim
theorem ok_Tc_addTo (w h : Nat) (lay : List mz_E) (as : List Value) (X : mz_X) (Q : mz_X → Prop) (hC : C_Tc_addTo w h lay as X Q) (K : mz_K) (hK : mz_Cl (I_Tc_addTo w h) (mz_qv lay Q) K) : K 0 (mz_ent 6 as) [] (lay, X) := by
  unfold C_Tc_addTo at hC
  split at hC
  · next r c v =>
    obtain ⟨rfl, g, hq⟩ := hC
    iterate 3 refine hK _ _ _ _ ?_
    refine hK _ _ _ _ (And.intro (rfl) (And.intro (g) ?_))
    iterate 3 refine hK _ _ _ _ ?_
    refine hK _ _ _ _ (And.intro (fun c1 => ?_) (fun c1 => ?_))
    · rw [zq_add_t c1] at hq
      exact hK _ _ _ _ (And.intro rfl (hq))
    · rw [zq_add_f c1] at hq
      iterate 4 refine hK _ _ _ _ ?_
      refine hK _ _ _ _ (And.intro (zq_slot_in g c1) ?_)
      iterate 2 refine hK _ _ _ _ ?_
      refine hK _ _ _ _ (And.intro (zq_slot_in g c1) ?_)
      exact hK _ _ _ _ (And.intro rfl (hq))
  · exact hC.elim
theorem len_Tc_placeIn (w h : Nat) (lay : List mz_E) (as : List Value) (X : mz_X) (Q : Int32 → mz_X → Prop) (hC : C_Tc_placeIn w h lay as X Q) : (mz_l0 as).length ≤ 2 := by
  unfold C_Tc_placeIn at hC
  split at hC
  · exact Nat.le_of_ble_eq_true rfl
  · exact hC.elim
theorem ok_Tc_placeIn (w h : Nat) (lay : List mz_E) (as : List Value) (X : mz_X) (Q : Int32 → mz_X → Prop) (hC : C_Tc_placeIn w h lay as X Q) (K : mz_K) (hK : mz_Cl (I_Tc_placeIn w h) (mz_qi lay Q) K) : K 0 (mz_ent 2 as) [] (lay, X) := by
  unfold C_Tc_placeIn at hC
  split at hC
  · next c =>
    obtain ⟨rfl, g, hq⟩ := hC
    have hn := mz_geo_n g
    iterate 3 refine hK _ _ _ _ ?_
    refine hK _ _ _ _ (And.intro (rfl) (And.intro (g) ?_))
    refine hK _ _ _ _ (And.intro (fun c1 => ?_) (fun c1 => ?_))
    · have e2 : zq_pl w h X c = -1 := by
        unfold zq_pl
        rw [mz_b0 c1]
      rw [e2] at hq
      refine hK _ _ _ _ ?_
      exact hK _ _ _ _ (And.intro rfl (hq))
    · have e2 : zq_pl w h X c = X.1 21 c.toNatClampNeg := by
        unfold zq_pl
        rw [mz_b1 c1]
      rw [e2] at hq
      iterate 3 refine hK _ _ _ _ ?_
      refine hK _ _ _ _ (And.intro (mz_lt_in (mz_b1 c1) (by omega)) ?_)
      refine hK _ _ _ _ ?_
      exact hK _ _ _ _ (And.intro rfl (hq))
  · exact hC.elim
theorem len_Tc_numberFreeCells (w h : Nat) (lay : List mz_E) (as : List Value) (X : mz_X) (Q : Int32 → mz_X → Prop) (hC : C_Tc_numberFreeCells w h lay as X Q) : (mz_l0 as).length ≤ 3 := by
  unfold C_Tc_numberFreeCells at hC
  split at hC
  · exact Nat.le_of_ble_eq_true rfl
  · exact hC.elim
theorem ok_Tc_numberFreeCells (w h : Nat) (lay : List mz_E) (as : List Value) (X : mz_X) (Q : Int32 → mz_X → Prop) (hC : C_Tc_numberFreeCells w h lay as X Q) (K : mz_K) (hK : mz_Cl (I_Tc_numberFreeCells w h) (mz_qi lay Q) K) : K 0 (mz_ent 3 as) [] (lay, X) := by
  unfold C_Tc_numberFreeCells at hC
  split at hC
  ·
    obtain ⟨rfl, g, hq⟩ := hC
    have hn := mz_geo_n g
    have loop : ∀ (k i : Nat), i + k = w * h → K 4 [some (.ref 20), some (.int (nI (mz_cnt (fun c => zg_free w h X (nI c)) i))), some (.int (nI i))] [] (mz_lay w h, zq_nm w h X i) := by
      intro k
      induction k with
      | zero =>
        intro i hi
        iterate 4 refine hK _ _ _ _ ?_
        refine hK _ _ _ _ (And.intro (fun c1 => ?_) (fun c1 => ?_))
        · refine hK _ _ _ _ ?_
          exact hK _ _ _ _ (And.intro rfl (by rw [show i = w * h by omega]; exact hq))
        · exact absurd (nI_le (a := w * h) (b := i) (by omega) (by omega)) c1
      | succ k ih =>
        intro i hi
        have ih1 := ih (i + 1) (by omega)
        rw [← nI_1, ← zq_nm_s] at ih1
        iterate 4 refine hK _ _ _ _ ?_
        refine hK _ _ _ _ (And.intro (fun c1 => ?_) (fun c1 => ?_))
        · exact absurd c1 (nI_ge (by omega) (by omega))
        · iterate 4 refine hK _ _ _ _ ?_
          refine hK _ _ _ _ (And.intro (vp_in_nI (by omega) (by omega)) ?_)
          rw [nI_clamp (by omega)]
          iterate 3 refine hK _ _ _ _ ?_
          refine hK _ _ _ _ (And.intro (rfl) (And.intro (g) ?_))
          refine hK _ _ _ _ (And.intro (fun c2 => ?_) (fun c2 => ?_))
          · have e : zg_free w h X (nI i) = false := mz_b0 c2
            rw [mz_cnt_f (f := fun c => zg_free w h X (nI c)) e] at ih1
            iterate 2 refine hK _ _ _ _ ?_
            exact ih1
          · have e : zg_free w h X (nI i) = true := mz_b1 c2
            rw [← mz_cnt_t (f := fun c => zg_free w h X (nI c)) e] at ih1
            iterate 3 refine hK _ _ _ _ ?_
            exact ih1
    iterate 4 refine hK _ _ _ _ ?_
    have := loop (w * h) 0 (by omega)
    rw [show zq_nm w h X 0 = X by simp [zq_nm]] at this
    exact this
  · exact hC.elim
theorem len_Tc_times (w h : Nat) (lay : List mz_E) (as : List Value) (X : mz_X) (Q : Int64 → mz_X → Prop) (hC : C_Tc_times w h lay as X Q) : (mz_l0 as).length ≤ 5 := by
  unfold C_Tc_times at hC
  split at hC
  · exact Nat.le_of_ble_eq_true rfl
  · exact hC.elim
theorem ok_Tc_times (w h : Nat) (lay : List mz_E) (as : List Value) (X : mz_X) (Q : Int64 → mz_X → Prop) (hC : C_Tc_times w h lay as X Q) (K : mz_K) (hK : mz_Cl (I_Tc_times w h) (mz_ql lay Q) K) : K 0 (mz_ent 5 as) [] (lay, X) := by
  unfold C_Tc_times at hC
  split at hC
  · next a b =>
    obtain ⟨rfl, g, hq⟩ := hC
    iterate 4 refine hK _ _ _ _ ?_
    refine hK _ _ _ _ (And.intro (fun c1 => ?_) (fun c1 => ?_))
    · dsimp only at c1
      rw [lg_cmp_ge] at c1
      rw [zq_tm_t c1] at hq
      iterate 5 refine hK _ _ _ _ ?_
      refine hK _ _ _ _ (And.intro (fun e => ?_) ?_)
      · rw [e] at c1
        exact absurd c1 (by decide)
      · exact hK _ _ _ _ (And.intro rfl (hq))
    · dsimp only at c1
      rw [lg_cmp_ge] at c1
      rw [zq_tm_f c1] at hq
      iterate 2 refine hK _ _ _ _ ?_
      exact hK _ _ _ _ (And.intro rfl (hq))
  · exact hC.elim
theorem len_Tc_fillIn (w h : Nat) (lay : List mz_E) (as : List Value) (X : mz_X) (Q : mz_X → Prop) (hC : C_Tc_fillIn w h lay as X Q) : (mz_l0 as).length ≤ 4 := by
  unfold C_Tc_fillIn at hC
  split at hC
  · exact Nat.le_of_ble_eq_true rfl
  · exact hC.elim
theorem ok_Tc_fillIn (w h : Nat) (lay : List mz_E) (as : List Value) (X : mz_X) (Q : mz_X → Prop) (hC : C_Tc_fillIn w h lay as X Q) (K : mz_K) (hK : mz_Cl (I_Tc_fillIn w h) (mz_qv lay Q) K) : K 0 (mz_ent 4 as) [] (lay, X) := by
  unfold C_Tc_fillIn at hC
  split at hC
  ·
    obtain ⟨rfl, g, D, hD, hq⟩ := hC
    have hd := mz_geo_d g
    have hDd := hD.1
    have hE := zq_E_le g
    have loop : ∀ (k i : Nat), i + k = D → ∀ L2 L3 : Option Value, K 10 [some (.ref 20), some (.int (nI i)), L2, L3] [] (mz_lay w h, zq_f w h X i) := by
      intro k
      induction k with
      | zero =>
        intro i hi L2 L3
        have h7 : (zq_f w h X i).1 1 7 = nI D := by rw [zq_f_1, hD.2]
        iterate 3 refine hK _ _ _ _ ?_
        refine hK _ _ _ _ (And.intro (rfl) (And.intro (g) ?_))
        refine hK _ _ _ _ (And.intro (fun c1 => ?_) (fun c1 => ?_))
        · exact hK _ _ _ _ (And.intro rfl (by rw [show i = D by omega]; exact hq))
        · dsimp only at c1
          rw [h7] at c1
          exact absurd (nI_le (a := D) (b := i) (by omega) (by omega)) c1
      | succ k ih =>
        intro i hi L2 L3
        have h7 : (zq_f w h X i).1 1 7 = nI D := by rw [zq_f_1, hD.2]
        have ih1 := ih (i + 1) (by omega)
        rw [show zq_f w h X (i + 1) = zq_fS w h (zq_f w h X i) i from rfl, ← nI_1] at ih1
        generalize zq_f w h X i = Y at ih1 h7 ⊢
        iterate 3 refine hK _ _ _ _ ?_
        refine hK _ _ _ _ (And.intro (rfl) (And.intro (g) ?_))
        refine hK _ _ _ _ (And.intro (fun c1 => ?_) (fun c1 => ?_))
        · dsimp only at c1
          rw [h7] at c1
          exact absurd c1 (nI_ge (by omega) (by omega))
        · iterate 4 refine hK _ _ _ _ ?_
          refine hK _ _ _ _ (And.intro (rfl) (And.intro (g) ?_))
          refine hK _ _ _ _ (And.intro (rfl) (And.intro (g) ?_))
          iterate 5 refine hK _ _ _ _ ?_
          refine hK _ _ _ _ (And.intro (rfl) (And.intro (g) ?_))
          refine hK _ _ _ _ (And.intro (rfl) (And.intro (g) ?_))
          refine hK _ _ _ _ ?_
          show K 47 [some (.ref 20), some (.int (nI i)), some (.int (zq_fa w h Y i)), some (.int (zq_fb w h Y i))] [] (mz_lay w h, Y)
          simp only [zq_fS, zq_f2, zq_f1] at ih1
          generalize zq_fa w h Y i = a9 at ih1 ⊢
          generalize zq_fb w h Y i = b9 at ih1 ⊢
          iterate 4 refine hK _ _ _ _ ?_
          refine hK _ _ _ _ (And.intro (rfl) (And.intro (g) ?_))
          show K 54 [some (.ref 20), some (.int (nI i)), some (.int a9), some (.int b9)] [] (mz_lay w h, zq_add w h Y a9 a9 1)
          generalize zq_add w h Y a9 a9 1 = Y1 at ih1 ⊢
          iterate 4 refine hK _ _ _ _ ?_
          refine hK _ _ _ _ (And.intro (rfl) (And.intro (g) ?_))
          show K 61 [some (.ref 20), some (.int (nI i)), some (.int a9), some (.int b9)] [] (mz_lay w h, zq_add w h Y1 b9 b9 1)
          generalize zq_add w h Y1 b9 b9 1 = Y2 at ih1 ⊢
          iterate 7 refine hK _ _ _ _ ?_
          refine hK _ _ _ _ (And.intro (rfl) (And.intro (g) ?_))
          show K 73 [some (.ref 20), some (.int (nI i)), some (.int a9), some (.int b9)] [] (mz_lay w h, zq_add w h Y2 a9 b9 (Y2.2 20 6 - 1))
          generalize zq_add w h Y2 a9 b9 (Y2.2 20 6 - 1) = Y3 at ih1 ⊢
          iterate 7 refine hK _ _ _ _ ?_
          refine hK _ _ _ _ (And.intro (rfl) (And.intro (g) ?_))
          iterate 2 refine hK _ _ _ _ ?_
          exact ih1 _ _
    iterate 3 refine hK _ _ _ _ ?_
    refine hK _ _ _ _ (Exists.intro 13 (Exists.intro (zq_E w h) (And.intro rfl (And.intro (by omega) ?_))))
    iterate 2 refine hK _ _ _ _ ?_
    exact loop D 0 (by omega) none none
  · exact hC.elim
set_option maxRecDepth 20000 in
theorem snd_Tc_lastRow (w h : Nat) (l : Launch) (p : Program) (e : Env) (s : State) (m : MethodId) (args : Array Value) (below : List Frame) (meth : Method) (c : Code) (D : va_G) (ad0 : Nat → Nat) (cA0 : Nat → ClassId) (A : Nat → Prop) (lay : List mz_E) (Q : Int32 → mz_X → Prop) (F : mz_F p s m args meth c prog_9_method_11_code 2 y_Tc_lastRow.cls (some .int) w_Tc_lastRow) (hA : ∀ q, s.heap.size ≤ q → A q) : mz_All (mz_V p l e (mz_rm 1 21) s m args below meth c 2 lay.length (mz_sz lay) D mz_cls (mz_G0 ad0 cA0) A (MQ below (va_Qi Q (mz_B D mz_cls ad0 cA0 lay A) A) args s 0 0 A)) (mz_qi lay Q) (I_Tc_lastRow w h) := by
  obtain ⟨hx, hb, hml, hown, hts, hr, hlk⟩ := F
  unfold I_Tc_lastRow
  refine mz_All.cons (sd_aload_n hx hb (mz_dg d_Tc_lastRow 0 0 (.aload_n 0) 1 rfl) rfl) ?_
  refine mz_All.cons (sd_get (k := 5) hx hb hts (mz_inC in_Tc) hown (T := T_Tc) (N := 7) rfl (by decide) (hts (.fieldLink "MazeForms$TreeCount" 50 "MazeForms$TreeCount" "size" "I") (List.mem_cons_of_mem _ wm_290)) (fun _ h => h) (mz_dg d_Tc_lastRow 1 1 (.getfield 50) 3 rfl)) ?_
  refine mz_All.cons (sd_iconst hx hb (mz_dg d_Tc_lastRow 2 4 (.iconst (1)) 1 rfl) (by decide)) ?_
  refine mz_All.cons (sd_isub hx hb (mz_dg d_Tc_lastRow 3 5 (.isub) 1 rfl)) ?_
  refine mz_All.cons (sd_iload_n hx hb (mz_dg d_Tc_lastRow 4 6 (.iload_n 1) 1 rfl) rfl) ?_
  refine mz_All.cons (sd_aload_n hx hb (mz_dg d_Tc_lastRow 5 7 (.aload_n 0) 1 rfl) rfl) ?_
  refine mz_All.cons (sd_get (k := 1) hx hb hts (mz_inC in_Tc) hown (T := T_Tc) (N := 7) rfl (by decide) (hts (.fieldLink "MazeForms$TreeCount" 21 "MazeForms$TreeCount" "band" "I") (List.mem_cons_of_mem _ wm_286)) (fun _ h => h) (mz_dg d_Tc_lastRow 6 8 (.getfield 21) 3 rfl)) ?_
  refine mz_All.cons (sd_iadd hx hb (mz_dg d_Tc_lastRow 7 11 (.iadd) 1 rfl)) ?_
  refine mz_All.cons (sd_mmin hx hb hml hown (hts _ (List.mem_cons_of_mem _ wm_678)) (hts _ (List.mem_cons_of_mem _ wm_96)) (hts _ (List.mem_cons_of_mem _ wm_68)) (hts _ (List.mem_cons_of_mem _ wm_97)) (by decide) (by decide) (mz_dg d_Tc_lastRow 8 12 (.invokestatic 116) 3 rfl)) ?_
  refine mz_All.cons (sd_ri hx hb hr hlk (mz_dg d_Tc_lastRow 9 15 (.ireturn) 1 rfl)) ?_
  exact trivial
theorem met_Tc_lastRow (w h : Nat) (l : Launch) : mz_MI l y_Tc_lastRow w_Tc_lastRow 1 21 mz_cls (C_Tc_lastRow w h) := mz_MI_of (I_Tc_lastRow w h) (by decide) rfl (len_Tc_lastRow w h) (ok_Tc_lastRow w h) (snd_Tc_lastRow w h l)
set_option maxRecDepth 20000 in
theorem snd_Tc_lastColumn (w h : Nat) (l : Launch) (p : Program) (e : Env) (s : State) (m : MethodId) (args : Array Value) (below : List Frame) (meth : Method) (c : Code) (D : va_G) (ad0 : Nat → Nat) (cA0 : Nat → ClassId) (A : Nat → Prop) (lay : List mz_E) (Q : Int32 → mz_X → Prop) (F : mz_F p s m args meth c prog_9_method_12_code 2 y_Tc_lastColumn.cls (some .int) w_Tc_lastColumn) (hA : ∀ q, s.heap.size ≤ q → A q) : mz_All (mz_V p l e (mz_rm 1 21) s m args below meth c 2 lay.length (mz_sz lay) D mz_cls (mz_G0 ad0 cA0) A (MQ below (va_Qi Q (mz_B D mz_cls ad0 cA0 lay A) A) args s 0 0 A)) (mz_qi lay Q) (I_Tc_lastColumn w h) := by
  obtain ⟨hx, hb, hml, hown, hts, hr, hlk⟩ := F
  unfold I_Tc_lastColumn
  refine mz_All.cons (sd_aload_n hx hb (mz_dg d_Tc_lastColumn 0 0 (.aload_n 0) 1 rfl) rfl) ?_
  refine mz_All.cons (sd_get (k := 5) hx hb hts (mz_inC in_Tc) hown (T := T_Tc) (N := 7) rfl (by decide) (hts (.fieldLink "MazeForms$TreeCount" 50 "MazeForms$TreeCount" "size" "I") (List.mem_cons_of_mem _ wm_290)) (fun _ h => h) (mz_dg d_Tc_lastColumn 1 1 (.getfield 50) 3 rfl)) ?_
  refine mz_All.cons (sd_iconst hx hb (mz_dg d_Tc_lastColumn 2 4 (.iconst (1)) 1 rfl) (by decide)) ?_
  refine mz_All.cons (sd_isub hx hb (mz_dg d_Tc_lastColumn 3 5 (.isub) 1 rfl)) ?_
  refine mz_All.cons (sd_iload_n hx hb (mz_dg d_Tc_lastColumn 4 6 (.iload_n 1) 1 rfl) rfl) ?_
  refine mz_All.cons (sd_iconst hx hb (mz_dg d_Tc_lastColumn 5 7 (.iconst (2)) 1 rfl) (by decide)) ?_
  refine mz_All.cons (sd_aload_n hx hb (mz_dg d_Tc_lastColumn 6 8 (.aload_n 0) 1 rfl) rfl) ?_
  refine mz_All.cons (sd_get (k := 1) hx hb hts (mz_inC in_Tc) hown (T := T_Tc) (N := 7) rfl (by decide) (hts (.fieldLink "MazeForms$TreeCount" 21 "MazeForms$TreeCount" "band" "I") (List.mem_cons_of_mem _ wm_286)) (fun _ h => h) (mz_dg d_Tc_lastColumn 7 9 (.getfield 21) 3 rfl)) ?_
  refine mz_All.cons (sd_imul hx hb (mz_dg d_Tc_lastColumn 8 12 (.imul) 1 rfl)) ?_
  refine mz_All.cons (sd_iadd hx hb (mz_dg d_Tc_lastColumn 9 13 (.iadd) 1 rfl)) ?_
  refine mz_All.cons (sd_mmin hx hb hml hown (hts _ (List.mem_cons_of_mem _ wm_678)) (hts _ (List.mem_cons_of_mem _ wm_96)) (hts _ (List.mem_cons_of_mem _ wm_68)) (hts _ (List.mem_cons_of_mem _ wm_97)) (by decide) (by decide) (mz_dg d_Tc_lastColumn 10 14 (.invokestatic 116) 3 rfl)) ?_
  refine mz_All.cons (sd_ri hx hb hr hlk (mz_dg d_Tc_lastColumn 11 17 (.ireturn) 1 rfl)) ?_
  exact trivial
theorem met_Tc_lastColumn (w h : Nat) (l : Launch) : mz_MI l y_Tc_lastColumn w_Tc_lastColumn 1 21 mz_cls (C_Tc_lastColumn w h) := mz_MI_of (I_Tc_lastColumn w h) (by decide) rfl (len_Tc_lastColumn w h) (ok_Tc_lastColumn w h) (snd_Tc_lastColumn w h l)
set_option maxRecDepth 20000 in
theorem snd_Tc_slotOf (w h : Nat) (l : Launch) (p : Program) (e : Env) (s : State) (m : MethodId) (args : Array Value) (below : List Frame) (meth : Method) (c : Code) (D : va_G) (ad0 : Nat → Nat) (cA0 : Nat → ClassId) (A : Nat → Prop) (lay : List mz_E) (Q : Int32 → mz_X → Prop) (F : mz_F p s m args meth c prog_9_method_7_code 6 y_Tc_slotOf.cls (some .int) w_Tc_slotOf) (hA : ∀ q, s.heap.size ≤ q → A q) : mz_All (mz_V p l e (mz_rm 0 0) s m args below meth c 6 lay.length (mz_sz lay) D mz_cls (mz_G0 ad0 cA0) A (MQ below (va_Qi Q (mz_B D mz_cls ad0 cA0 lay A) A) args s 0 0 A)) (mz_qi lay Q) (I_Tc_slotOf w h) := by
  obtain ⟨hx, hb, hml, hown, hts, hr, hlk⟩ := F
  unfold I_Tc_slotOf
  refine mz_All.cons (sd_iload_n hx hb (mz_dg d_Tc_slotOf 0 0 (.iload_n 1) 1 rfl) rfl) ?_
  refine mz_All.cons (sd_if_lt hx hb (mz_dg d_Tc_slotOf 1 1 (.ifCond .lt (27)) 3 rfl) (by decide)) ?_
  refine mz_All.cons (sd_iload_n hx hb (mz_dg d_Tc_slotOf 2 4 (.iload_n 1) 1 rfl) rfl) ?_
  refine mz_All.cons (sd_aload_n hx hb (mz_dg d_Tc_slotOf 3 5 (.aload_n 0) 1 rfl) rfl) ?_
  refine mz_All.cons (sd_get (k := 5) hx hb hts (mz_inC in_Tc) hown (T := T_Tc) (N := 7) rfl (by decide) (hts (.fieldLink "MazeForms$TreeCount" 50 "MazeForms$TreeCount" "size" "I") (List.mem_cons_of_mem _ wm_290)) (fun _ h => h) (mz_dg d_Tc_slotOf 4 6 (.getfield 50) 3 rfl)) ?_
  refine mz_All.cons (sd_icmp_ge hx hb (mz_dg d_Tc_slotOf 5 9 (.if_icmp .ge (19)) 3 rfl) (by decide)) ?_
  refine mz_All.cons (sd_iload_n hx hb (mz_dg d_Tc_slotOf 6 12 (.iload_n 2) 1 rfl) rfl) ?_
  refine mz_All.cons (sd_if_lt hx hb (mz_dg d_Tc_slotOf 7 13 (.ifCond .lt (15)) 3 rfl) (by decide)) ?_
  refine mz_All.cons (sd_iload_n hx hb (mz_dg d_Tc_slotOf 8 16 (.iload_n 2) 1 rfl) rfl) ?_
  refine mz_All.cons (sd_aload_n hx hb (mz_dg d_Tc_slotOf 9 17 (.aload_n 0) 1 rfl) rfl) ?_
  refine mz_All.cons (sd_get (k := 5) hx hb hts (mz_inC in_Tc) hown (T := T_Tc) (N := 7) rfl (by decide) (hts (.fieldLink "MazeForms$TreeCount" 50 "MazeForms$TreeCount" "size" "I") (List.mem_cons_of_mem _ wm_290)) (fun _ h => h) (mz_dg d_Tc_slotOf 10 18 (.getfield 50) 3 rfl)) ?_
  refine mz_All.cons (sd_icmp_ge hx hb (mz_dg d_Tc_slotOf 11 21 (.if_icmp .ge (7)) 3 rfl) (by decide)) ?_
  refine mz_All.cons (sd_iconst hx hb (mz_dg d_Tc_slotOf 12 24 (.iconst (1)) 1 rfl) (by decide)) ?_
  refine mz_All.cons (sd_goto hx hb (mz_dg d_Tc_slotOf 13 25 (.goto (4)) 3 rfl) (by decide)) ?_
  refine mz_All.cons (sd_iconst hx hb (mz_dg d_Tc_slotOf 14 28 (.iconst (0)) 1 rfl) (by decide)) ?_
  refine mz_All.cons (sd_istore_n hx hb (mz_dg d_Tc_slotOf 15 29 (.istore_n 3) 1 rfl) rfl (by decide)) ?_
  refine mz_All.cons (sd_iload_n hx hb (mz_dg d_Tc_slotOf 16 30 (.iload_n 2) 1 rfl) rfl) ?_
  refine mz_All.cons (sd_iload_n hx hb (mz_dg d_Tc_slotOf 17 31 (.iload_n 1) 1 rfl) rfl) ?_
  refine mz_All.cons (sd_isub hx hb (mz_dg d_Tc_slotOf 18 32 (.isub) 1 rfl)) ?_
  refine mz_All.cons (sd_aload_n hx hb (mz_dg d_Tc_slotOf 19 33 (.aload_n 0) 1 rfl) rfl) ?_
  refine mz_All.cons (sd_get (k := 1) hx hb hts (mz_inC in_Tc) hown (T := T_Tc) (N := 7) rfl (by decide) (hts (.fieldLink "MazeForms$TreeCount" 21 "MazeForms$TreeCount" "band" "I") (List.mem_cons_of_mem _ wm_286)) (fun _ h => h) (mz_dg d_Tc_slotOf 20 34 (.getfield 21) 3 rfl)) ?_
  refine mz_All.cons (sd_ineg hx hb (mz_dg d_Tc_slotOf 21 37 (.ineg) 1 rfl)) ?_
  refine mz_All.cons (sd_icmp_lt hx hb (mz_dg d_Tc_slotOf 22 38 (.if_icmp .lt (19)) 3 rfl) (by decide)) ?_
  refine mz_All.cons (sd_iload_n hx hb (mz_dg d_Tc_slotOf 23 41 (.iload_n 2) 1 rfl) rfl) ?_
  refine mz_All.cons (sd_iload_n hx hb (mz_dg d_Tc_slotOf 24 42 (.iload_n 1) 1 rfl) rfl) ?_
  refine mz_All.cons (sd_isub hx hb (mz_dg d_Tc_slotOf 25 43 (.isub) 1 rfl)) ?_
  refine mz_All.cons (sd_iconst hx hb (mz_dg d_Tc_slotOf 26 44 (.iconst (2)) 1 rfl) (by decide)) ?_
  refine mz_All.cons (sd_aload_n hx hb (mz_dg d_Tc_slotOf 27 45 (.aload_n 0) 1 rfl) rfl) ?_
  refine mz_All.cons (sd_get (k := 1) hx hb hts (mz_inC in_Tc) hown (T := T_Tc) (N := 7) rfl (by decide) (hts (.fieldLink "MazeForms$TreeCount" 21 "MazeForms$TreeCount" "band" "I") (List.mem_cons_of_mem _ wm_286)) (fun _ h => h) (mz_dg d_Tc_slotOf 28 46 (.getfield 21) 3 rfl)) ?_
  refine mz_All.cons (sd_imul hx hb (mz_dg d_Tc_slotOf 29 49 (.imul) 1 rfl)) ?_
  refine mz_All.cons (sd_icmp_gt hx hb (mz_dg d_Tc_slotOf 30 50 (.if_icmp .gt (7)) 3 rfl) (by decide)) ?_
  refine mz_All.cons (sd_iconst hx hb (mz_dg d_Tc_slotOf 31 53 (.iconst (1)) 1 rfl) (by decide)) ?_
  refine mz_All.cons (sd_goto hx hb (mz_dg d_Tc_slotOf 32 54 (.goto (4)) 3 rfl) (by decide)) ?_
  refine mz_All.cons (sd_iconst hx hb (mz_dg d_Tc_slotOf 33 57 (.iconst (0)) 1 rfl) (by decide)) ?_
  refine mz_All.cons (sd_istore hx hb (mz_dg d_Tc_slotOf 34 58 (.istore 4) 2 rfl) (by decide)) ?_
  refine mz_All.cons (sd_iload_n hx hb (mz_dg d_Tc_slotOf 35 60 (.iload_n 1) 1 rfl) rfl) ?_
  refine mz_All.cons (sd_aload_n hx hb (mz_dg d_Tc_slotOf 36 61 (.aload_n 0) 1 rfl) rfl) ?_
  refine mz_All.cons (sd_get (k := 2) hx hb hts (mz_inC in_Tc) hown (T := T_Tc) (N := 7) rfl (by decide) (hts (.fieldLink "MazeForms$TreeCount" 25 "MazeForms$TreeCount" "stride" "I") (List.mem_cons_of_mem _ wm_287)) (fun _ h => h) (mz_dg d_Tc_slotOf 37 62 (.getfield 25) 3 rfl)) ?_
  refine mz_All.cons (sd_imul hx hb (mz_dg d_Tc_slotOf 38 65 (.imul) 1 rfl)) ?_
  refine mz_All.cons (sd_iload_n hx hb (mz_dg d_Tc_slotOf 39 66 (.iload_n 2) 1 rfl) rfl) ?_
  refine mz_All.cons (sd_iadd hx hb (mz_dg d_Tc_slotOf 40 67 (.iadd) 1 rfl)) ?_
  refine mz_All.cons (sd_iload_n hx hb (mz_dg d_Tc_slotOf 41 68 (.iload_n 1) 1 rfl) rfl) ?_
  refine mz_All.cons (sd_isub hx hb (mz_dg d_Tc_slotOf 42 69 (.isub) 1 rfl)) ?_
  refine mz_All.cons (sd_aload_n hx hb (mz_dg d_Tc_slotOf 43 70 (.aload_n 0) 1 rfl) rfl) ?_
  refine mz_All.cons (sd_get (k := 1) hx hb hts (mz_inC in_Tc) hown (T := T_Tc) (N := 7) rfl (by decide) (hts (.fieldLink "MazeForms$TreeCount" 21 "MazeForms$TreeCount" "band" "I") (List.mem_cons_of_mem _ wm_286)) (fun _ h => h) (mz_dg d_Tc_slotOf 44 71 (.getfield 21) 3 rfl)) ?_
  refine mz_All.cons (sd_iadd hx hb (mz_dg d_Tc_slotOf 45 74 (.iadd) 1 rfl)) ?_
  refine mz_All.cons (sd_istore hx hb (mz_dg d_Tc_slotOf 46 75 (.istore 5) 2 rfl) (by decide)) ?_
  refine mz_All.cons (sd_iload_n hx hb (mz_dg d_Tc_slotOf 47 77 (.iload_n 3) 1 rfl) rfl) ?_
  refine mz_All.cons (sd_if_eq hx hb (mz_dg d_Tc_slotOf 48 78 (.ifCond .eq (28)) 3 rfl) (by decide)) ?_
  refine mz_All.cons (sd_iload hx hb (mz_dg d_Tc_slotOf 49 81 (.iload 4) 2 rfl)) ?_
  refine mz_All.cons (sd_if_eq hx hb (mz_dg d_Tc_slotOf 50 83 (.ifCond .eq (23)) 3 rfl) (by decide)) ?_
  refine mz_All.cons (sd_iload hx hb (mz_dg d_Tc_slotOf 51 86 (.iload 5) 2 rfl)) ?_
  refine mz_All.cons (sd_if_lt hx hb (mz_dg d_Tc_slotOf 52 88 (.ifCond .lt (18)) 3 rfl) (by decide)) ?_
  refine mz_All.cons (sd_iload hx hb (mz_dg d_Tc_slotOf 53 91 (.iload 5) 2 rfl)) ?_
  refine mz_All.cons (sd_aload_n hx hb (mz_dg d_Tc_slotOf 54 93 (.aload_n 0) 1 rfl) rfl) ?_
  refine mz_All.cons (sd_get (k := 4) hx hb hts (mz_inC in_Tc) hown (T := T_Tc) (N := 7) rfl (by decide) (hts (.fieldLink "MazeForms$TreeCount" 35 "MazeForms$TreeCount" "entries" "[J") (List.mem_cons_of_mem _ wm_289)) (fun _ h => h) (mz_dg d_Tc_slotOf 55 94 (.getfield 35) 3 rfl)) ?_
  refine mz_All.cons (sd_alen hx hb (mz_dg d_Tc_slotOf 56 97 (.arraylength) 1 rfl)) ?_
  refine mz_All.cons (sd_icmp_ge hx hb (mz_dg d_Tc_slotOf 57 98 (.if_icmp .ge (8)) 3 rfl) (by decide)) ?_
  refine mz_All.cons (sd_iload hx hb (mz_dg d_Tc_slotOf 58 101 (.iload 5) 2 rfl)) ?_
  refine mz_All.cons (sd_goto hx hb (mz_dg d_Tc_slotOf 59 103 (.goto (4)) 3 rfl) (by decide)) ?_
  refine mz_All.cons (sd_iconst hx hb (mz_dg d_Tc_slotOf 60 106 (.iconst (-1)) 1 rfl) (by decide)) ?_
  refine mz_All.cons (sd_ri hx hb hr hlk (mz_dg d_Tc_slotOf 61 107 (.ireturn) 1 rfl)) ?_
  exact trivial
theorem met_Tc_slotOf (w h : Nat) (l : Launch) : mz_MI l y_Tc_slotOf w_Tc_slotOf 0 0 mz_cls (C_Tc_slotOf w h) := mz_MI_of (I_Tc_slotOf w h) (by decide) rfl (len_Tc_slotOf w h) (ok_Tc_slotOf w h) (snd_Tc_slotOf w h l)
set_option maxRecDepth 20000 in
theorem snd_Tc_entry (w h : Nat) (l : Launch) (p : Program) (e : Env) (s : State) (m : MethodId) (args : Array Value) (below : List Frame) (meth : Method) (c : Code) (D : va_G) (ad0 : Nat → Nat) (cA0 : Nat → ClassId) (A : Nat → Prop) (lay : List mz_E) (Q : Int64 → mz_X → Prop) (F : mz_F p s m args meth c prog_9_method_8_code 4 y_Tc_entry.cls (some .long) w_Tc_entry) (hA : ∀ q, s.heap.size ≤ q → A q) : mz_All (mz_V p l e (mz_rm 1 25) s m args below meth c 4 lay.length (mz_sz lay) D mz_cls (mz_G0 ad0 cA0) A (MQ below (va_Ql Q (mz_B D mz_cls ad0 cA0 lay A) A) args s 0 0 A)) (mz_ql lay Q) (I_Tc_entry w h) := by
  obtain ⟨hx, hb, hml, hown, hts, hr, hlk⟩ := F
  unfold I_Tc_entry
  refine mz_All.cons (sd_aload_n hx hb (mz_dg d_Tc_entry 0 0 (.aload_n 0) 1 rfl) rfl) ?_
  refine mz_All.cons (sd_iload_n hx hb (mz_dg d_Tc_entry 1 1 (.iload_n 1) 1 rfl) rfl) ?_
  refine mz_All.cons (sd_iload_n hx hb (mz_dg d_Tc_entry 2 2 (.iload_n 2) 1 rfl) rfl) ?_
  refine mz_All.cons (sd_calli (T := T_Tc) ⟨hx, hb, hml, hown, hts⟩ (met_Tc_slotOf w h l) (cwV 2 hts (mz_gV wm_662 wm_664 wm_28 wm_76 wm_665) rfl rfl rfl (by decide) ⟨by decide, by decide⟩) rfl hA rfl (mz_dg d_Tc_entry 3 3 (.invokevirtual 90) 3 rfl)) ?_
  refine mz_All.cons (sd_istore_n hx hb (mz_dg d_Tc_entry 4 6 (.istore_n 3) 1 rfl) rfl (by decide)) ?_
  refine mz_All.cons (sd_iload_n hx hb (mz_dg d_Tc_entry 5 7 (.iload_n 3) 1 rfl) rfl) ?_
  refine mz_All.cons (sd_iconst hx hb (mz_dg d_Tc_entry 6 8 (.iconst (-1)) 1 rfl) (by decide)) ?_
  refine mz_All.cons (sd_icmp_ne hx hb (mz_dg d_Tc_entry 7 9 (.if_icmp .ne (7)) 3 rfl) (by decide)) ?_
  refine mz_All.cons (sd_lconst hx hb (mz_dg d_Tc_entry 8 12 (.lconst 0) 1 rfl) (by decide)) ?_
  refine mz_All.cons (sd_goto hx hb (mz_dg d_Tc_entry 9 13 (.goto (9)) 3 rfl) (by decide)) ?_
  refine mz_All.cons (sd_aload_n hx hb (mz_dg d_Tc_entry 10 16 (.aload_n 0) 1 rfl) rfl) ?_
  refine mz_All.cons (sd_get (k := 4) hx hb hts (mz_inC in_Tc) hown (T := T_Tc) (N := 7) rfl (by decide) (hts (.fieldLink "MazeForms$TreeCount" 35 "MazeForms$TreeCount" "entries" "[J") (List.mem_cons_of_mem _ wm_289)) (fun _ h => h) (mz_dg d_Tc_entry 11 17 (.getfield 35) 3 rfl)) ?_
  refine mz_All.cons (sd_iload_n hx hb (mz_dg d_Tc_entry 12 20 (.iload_n 3) 1 rfl) rfl) ?_
  refine mz_All.cons (sd_lald hx hb (mz_dg d_Tc_entry 13 21 (.laload) 1 rfl)) ?_
  refine mz_All.cons (sd_rl hx hb hr hlk (mz_dg d_Tc_entry 14 22 (.lreturn) 1 rfl)) ?_
  exact trivial
theorem met_Tc_entry (w h : Nat) (l : Launch) : mz_ML l y_Tc_entry w_Tc_entry 1 25 mz_cls (C_Tc_entry w h) := mz_ML_of (I_Tc_entry w h) (by decide) rfl (len_Tc_entry w h) (ok_Tc_entry w h) (snd_Tc_entry w h l)
set_option maxRecDepth 20000 in
theorem snd_Tc_addTo (w h : Nat) (l : Launch) (p : Program) (e : Env) (s : State) (m : MethodId) (args : Array Value) (below : List Frame) (meth : Method) (c : Code) (D : va_G) (ad0 : Nat → Nat) (cA0 : Nat → ClassId) (A : Nat → Prop) (lay : List mz_E) (Q : mz_X → Prop) (F : mz_F p s m args meth c prog_9_method_6_code 6 y_Tc_addTo.cls none w_Tc_addTo) (hA : ∀ q, s.heap.size ≤ q → A q) : mz_All (mz_V p l e (mz_rm 1 25) s m args below meth c 6 lay.length (mz_sz lay) D mz_cls (mz_G0 ad0 cA0) A (MQ below (va_Qv Q (mz_B D mz_cls ad0 cA0 lay A) A) args s 0 0 A)) (mz_qv lay Q) (I_Tc_addTo w h) := by
  obtain ⟨hx, hb, hml, hown, hts, hr, hlk⟩ := F
  unfold I_Tc_addTo
  refine mz_All.cons (sd_aload_n hx hb (mz_dg d_Tc_addTo 0 0 (.aload_n 0) 1 rfl) rfl) ?_
  refine mz_All.cons (sd_iload_n hx hb (mz_dg d_Tc_addTo 1 1 (.iload_n 1) 1 rfl) rfl) ?_
  refine mz_All.cons (sd_iload_n hx hb (mz_dg d_Tc_addTo 2 2 (.iload_n 2) 1 rfl) rfl) ?_
  refine mz_All.cons (sd_calli (T := T_Tc) ⟨hx, hb, hml, hown, hts⟩ (met_Tc_slotOf w h l) (cwV 2 hts (mz_gV wm_662 wm_664 wm_28 wm_76 wm_665) rfl rfl rfl (by decide) ⟨by decide, by decide⟩) rfl hA rfl (mz_dg d_Tc_addTo 3 3 (.invokevirtual 90) 3 rfl)) ?_
  refine mz_All.cons (sd_istore hx hb (mz_dg d_Tc_addTo 4 6 (.istore 5) 2 rfl) (by decide)) ?_
  refine mz_All.cons (sd_iload hx hb (mz_dg d_Tc_addTo 5 8 (.iload 5) 2 rfl)) ?_
  refine mz_All.cons (sd_iconst hx hb (mz_dg d_Tc_addTo 6 10 (.iconst (-1)) 1 rfl) (by decide)) ?_
  refine mz_All.cons (sd_icmp_eq hx hb (mz_dg d_Tc_addTo 7 11 (.if_icmp .eq (14)) 3 rfl) (by decide)) ?_
  refine mz_All.cons (sd_aload_n hx hb (mz_dg d_Tc_addTo 8 14 (.aload_n 0) 1 rfl) rfl) ?_
  refine mz_All.cons (sd_get (k := 4) hx hb hts (mz_inC in_Tc) hown (T := T_Tc) (N := 7) rfl (by decide) (hts (.fieldLink "MazeForms$TreeCount" 35 "MazeForms$TreeCount" "entries" "[J") (List.mem_cons_of_mem _ wm_289)) (fun _ h => h) (mz_dg d_Tc_addTo 9 15 (.getfield 35) 3 rfl)) ?_
  refine mz_All.cons (sd_iload hx hb (mz_dg d_Tc_addTo 10 18 (.iload 5) 2 rfl)) ?_
  refine mz_All.cons (sd_dup2 hx hb (mz_dg d_Tc_addTo 11 20 (.dup2) 1 rfl)) ?_
  refine mz_All.cons (sd_lald hx hb (mz_dg d_Tc_addTo 12 21 (.laload) 1 rfl)) ?_
  refine mz_All.cons (sd_lload_n hx hb (mz_dg d_Tc_addTo 13 22 (.lload_n 3) 1 rfl) rfl) ?_
  refine mz_All.cons (sd_ladd hx hb (mz_dg d_Tc_addTo 14 23 (.ladd) 1 rfl)) ?_
  refine mz_All.cons (sd_last hx hb (mz_dg d_Tc_addTo 15 24 (.lastore) 1 rfl)) ?_
  refine mz_All.cons (sd_rv hx hb hr hlk (mz_dg d_Tc_addTo 16 25 (.return_) 1 rfl)) ?_
  exact trivial
theorem met_Tc_addTo (w h : Nat) (l : Launch) : mz_MV l y_Tc_addTo w_Tc_addTo 1 25 mz_cls (C_Tc_addTo w h) := mz_MV_of (I_Tc_addTo w h) (by decide) rfl (len_Tc_addTo w h) (ok_Tc_addTo w h) (snd_Tc_addTo w h l)
set_option maxRecDepth 20000 in
theorem snd_Tc_placeIn (w h : Nat) (l : Launch) (p : Program) (e : Env) (s : State) (m : MethodId) (args : Array Value) (below : List Frame) (meth : Method) (c : Code) (D : va_G) (ad0 : Nat → Nat) (cA0 : Nat → ClassId) (A : Nat → Prop) (lay : List mz_E) (Q : Int32 → mz_X → Prop) (F : mz_F p s m args meth c prog_9_method_5_code 2 y_Tc_placeIn.cls (some .int) w_Tc_placeIn) (hA : ∀ q, s.heap.size ≤ q → A q) : mz_All (mz_V p l e (mz_rm 1 21) s m args below meth c 2 lay.length (mz_sz lay) D mz_cls (mz_G0 ad0 cA0) A (MQ below (va_Qi Q (mz_B D mz_cls ad0 cA0 lay A) A) args s 0 0 A)) (mz_qi lay Q) (I_Tc_placeIn w h) := by
  obtain ⟨hx, hb, hml, hown, hts, hr, hlk⟩ := F
  unfold I_Tc_placeIn
  refine mz_All.cons (sd_aload_n hx hb (mz_dg d_Tc_placeIn 0 0 (.aload_n 0) 1 rfl) rfl) ?_
  refine mz_All.cons (sd_get (k := 0) hx hb hts (mz_inC in_Tc) hown (T := T_Tc) (N := 7) rfl (by decide) (hts (.fieldLink "MazeForms$TreeCount" 9 "MazeForms$TreeCount" "grid" "LMazeForms$Grid;") (List.mem_cons_of_mem _ wm_285)) (fun _ h => h) (mz_dg d_Tc_placeIn 1 1 (.getfield 9) 3 rfl)) ?_
  refine mz_All.cons (sd_iload_n hx hb (mz_dg d_Tc_placeIn 2 4 (.iload_n 1) 1 rfl) rfl) ?_
  refine mz_All.cons (sd_calli (T := T_Gr) ⟨hx, hb, hml, hown, hts⟩ (met_Gr_isCell w h l) (cwV 1 hts (mz_gV wm_656 wm_121 wm_122 wm_67 wm_123) rfl rfl rfl (by decide) ⟨by decide, by decide⟩) rfl hA rfl (mz_dg d_Tc_placeIn 3 5 (.invokevirtual 87) 3 rfl)) ?_
  refine mz_All.cons (sd_if_eq hx hb (mz_dg d_Tc_placeIn 4 8 (.ifCond .eq (12)) 3 rfl) (by decide)) ?_
  refine mz_All.cons (sd_aload_n hx hb (mz_dg d_Tc_placeIn 5 11 (.aload_n 0) 1 rfl) rfl) ?_
  refine mz_All.cons (sd_get (k := 3) hx hb hts (mz_inC in_Tc) hown (T := T_Tc) (N := 7) rfl (by decide) (hts (.fieldLink "MazeForms$TreeCount" 31 "MazeForms$TreeCount" "placeOf" "[I") (List.mem_cons_of_mem _ wm_288)) (fun _ h => h) (mz_dg d_Tc_placeIn 6 12 (.getfield 31) 3 rfl)) ?_
  refine mz_All.cons (sd_iload_n hx hb (mz_dg d_Tc_placeIn 7 15 (.iload_n 1) 1 rfl) rfl) ?_
  refine mz_All.cons (sd_iald hx hb (mz_dg d_Tc_placeIn 8 16 (.iaload) 1 rfl)) ?_
  refine mz_All.cons (sd_goto hx hb (mz_dg d_Tc_placeIn 9 17 (.goto (4)) 3 rfl) (by decide)) ?_
  refine mz_All.cons (sd_iconst hx hb (mz_dg d_Tc_placeIn 10 20 (.iconst (-1)) 1 rfl) (by decide)) ?_
  refine mz_All.cons (sd_ri hx hb hr hlk (mz_dg d_Tc_placeIn 11 21 (.ireturn) 1 rfl)) ?_
  exact trivial
theorem met_Tc_placeIn (w h : Nat) (l : Launch) : mz_MI l y_Tc_placeIn w_Tc_placeIn 1 21 mz_cls (C_Tc_placeIn w h) := mz_MI_of (I_Tc_placeIn w h) (by decide) rfl (len_Tc_placeIn w h) (ok_Tc_placeIn w h) (snd_Tc_placeIn w h l)
set_option maxRecDepth 20000 in
theorem snd_Tc_numberFreeCells (w h : Nat) (l : Launch) (p : Program) (e : Env) (s : State) (m : MethodId) (args : Array Value) (below : List Frame) (meth : Method) (c : Code) (D : va_G) (ad0 : Nat → Nat) (cA0 : Nat → ClassId) (A : Nat → Prop) (lay : List mz_E) (Q : Int32 → mz_X → Prop) (F : mz_F p s m args meth c prog_9_method_3_code 3 y_Tc_numberFreeCells.cls (some .int) w_Tc_numberFreeCells) (hA : ∀ q, s.heap.size ≤ q → A q) : mz_All (mz_V p l e (mz_rm 2 42) s m args below meth c 3 lay.length (mz_sz lay) D mz_cls (mz_G0 ad0 cA0) A (MQ below (va_Qi Q (mz_B D mz_cls ad0 cA0 lay A) A) args s 0 0 A)) (mz_qi lay Q) (I_Tc_numberFreeCells w h) := by
  obtain ⟨hx, hb, hml, hown, hts, hr, hlk⟩ := F
  unfold I_Tc_numberFreeCells
  refine mz_All.cons (sd_iconst hx hb (mz_dg d_Tc_numberFreeCells 0 0 (.iconst (0)) 1 rfl) (by decide)) ?_
  refine mz_All.cons (sd_istore_n hx hb (mz_dg d_Tc_numberFreeCells 1 1 (.istore_n 1) 1 rfl) rfl (by decide)) ?_
  refine mz_All.cons (sd_iconst hx hb (mz_dg d_Tc_numberFreeCells 2 2 (.iconst (0)) 1 rfl) (by decide)) ?_
  refine mz_All.cons (sd_istore_n hx hb (mz_dg d_Tc_numberFreeCells 3 3 (.istore_n 2) 1 rfl) rfl (by decide)) ?_
  refine mz_All.cons (sd_iload_n hx hb (mz_dg d_Tc_numberFreeCells 4 4 (.iload_n 2) 1 rfl) rfl) ?_
  refine mz_All.cons (sd_aload_n hx hb (mz_dg d_Tc_numberFreeCells 5 5 (.aload_n 0) 1 rfl) rfl) ?_
  refine mz_All.cons (sd_get (k := 3) hx hb hts (mz_inC in_Tc) hown (T := T_Tc) (N := 7) rfl (by decide) (hts (.fieldLink "MazeForms$TreeCount" 31 "MazeForms$TreeCount" "placeOf" "[I") (List.mem_cons_of_mem _ wm_288)) (fun _ h => h) (mz_dg d_Tc_numberFreeCells 6 6 (.getfield 31) 3 rfl)) ?_
  refine mz_All.cons (sd_alen hx hb (mz_dg d_Tc_numberFreeCells 7 9 (.arraylength) 1 rfl)) ?_
  refine mz_All.cons (sd_icmp_ge hx hb (mz_dg d_Tc_numberFreeCells 8 10 (.if_icmp .ge (30)) 3 rfl) (by decide)) ?_
  refine mz_All.cons (sd_aload_n hx hb (mz_dg d_Tc_numberFreeCells 9 13 (.aload_n 0) 1 rfl) rfl) ?_
  refine mz_All.cons (sd_get (k := 3) hx hb hts (mz_inC in_Tc) hown (T := T_Tc) (N := 7) rfl (by decide) (hts (.fieldLink "MazeForms$TreeCount" 31 "MazeForms$TreeCount" "placeOf" "[I") (List.mem_cons_of_mem _ wm_288)) (fun _ h => h) (mz_dg d_Tc_numberFreeCells 10 14 (.getfield 31) 3 rfl)) ?_
  refine mz_All.cons (sd_iload_n hx hb (mz_dg d_Tc_numberFreeCells 11 17 (.iload_n 2) 1 rfl) rfl) ?_
  refine mz_All.cons (sd_iload_n hx hb (mz_dg d_Tc_numberFreeCells 12 18 (.iload_n 1) 1 rfl) rfl) ?_
  refine mz_All.cons (sd_iast hx hb (mz_dg d_Tc_numberFreeCells 13 19 (.iastore) 1 rfl)) ?_
  refine mz_All.cons (sd_aload_n hx hb (mz_dg d_Tc_numberFreeCells 14 20 (.aload_n 0) 1 rfl) rfl) ?_
  refine mz_All.cons (sd_get (k := 0) hx hb hts (mz_inC in_Tc) hown (T := T_Tc) (N := 7) rfl (by decide) (hts (.fieldLink "MazeForms$TreeCount" 9 "MazeForms$TreeCount" "grid" "LMazeForms$Grid;") (List.mem_cons_of_mem _ wm_285)) (fun _ h => h) (mz_dg d_Tc_numberFreeCells 15 21 (.getfield 9) 3 rfl)) ?_
  refine mz_All.cons (sd_iload_n hx hb (mz_dg d_Tc_numberFreeCells 16 24 (.iload_n 2) 1 rfl) rfl) ?_
  refine mz_All.cons (sd_calli (T := T_Gr) ⟨hx, hb, hml, hown, hts⟩ (met_Gr_isFree w h l) (cwV 1 hts (mz_gV wm_642 wm_117 wm_118 wm_67 wm_119) rfl rfl rfl (by decide) ⟨by decide, by decide⟩) rfl hA rfl (mz_dg d_Tc_numberFreeCells 17 25 (.invokevirtual 60) 3 rfl)) ?_
  refine mz_All.cons (sd_if_eq hx hb (mz_dg d_Tc_numberFreeCells 18 28 (.ifCond .eq (6)) 3 rfl) (by decide)) ?_
  refine mz_All.cons (sd_iinc hx hb (mz_dg d_Tc_numberFreeCells 19 31 (.iinc 1 (1)) 3 rfl) (by decide) (by decide)) ?_
  refine mz_All.cons (sd_iinc hx hb (mz_dg d_Tc_numberFreeCells 20 34 (.iinc 2 (1)) 3 rfl) (by decide) (by decide)) ?_
  refine mz_All.cons (sd_goto hx hb (mz_dg d_Tc_numberFreeCells 21 37 (.goto (-33)) 3 rfl) (by decide)) ?_
  refine mz_All.cons (sd_iload_n hx hb (mz_dg d_Tc_numberFreeCells 22 40 (.iload_n 1) 1 rfl) rfl) ?_
  refine mz_All.cons (sd_ri hx hb hr hlk (mz_dg d_Tc_numberFreeCells 23 41 (.ireturn) 1 rfl)) ?_
  exact trivial
theorem met_Tc_numberFreeCells (w h : Nat) (l : Launch) : mz_MI l y_Tc_numberFreeCells w_Tc_numberFreeCells 2 42 mz_cls (C_Tc_numberFreeCells w h) := mz_MI_of (I_Tc_numberFreeCells w h) (by decide) rfl (len_Tc_numberFreeCells w h) (ok_Tc_numberFreeCells w h) (snd_Tc_numberFreeCells w h l)
set_option maxRecDepth 20000 in
theorem snd_Tc_times (w h : Nat) (l : Launch) (p : Program) (e : Env) (s : State) (m : MethodId) (args : Array Value) (below : List Frame) (meth : Method) (c : Code) (D : va_G) (ad0 : Nat → Nat) (cA0 : Nat → ClassId) (A : Nat → Prop) (lay : List mz_E) (Q : Int64 → mz_X → Prop) (F : mz_F p s m args meth c prog_9_method_16_code 5 y_Tc_times.cls (some .long) w_Tc_times) (hA : ∀ q, s.heap.size ≤ q → A q) : mz_All (mz_V p l e (mz_rm 0 0) s m args below meth c 5 lay.length (mz_sz lay) D mz_cls (mz_G0 ad0 cA0) A (MQ below (va_Ql Q (mz_B D mz_cls ad0 cA0 lay A) A) args s 0 0 A)) (mz_ql lay Q) (I_Tc_times w h) := by
  obtain ⟨hx, hb, hml, hown, hts, hr, hlk⟩ := F
  unfold I_Tc_times
  refine mz_All.cons (sd_aload_n hx hb (mz_dg d_Tc_times 0 0 (.aload_n 0) 1 rfl) rfl) ?_
  refine mz_All.cons (sd_get (k := 6) hx hb hts (mz_inC in_Tc) hown (T := T_Tc) (N := 7) rfl (by decide) (hts (.fieldLink "MazeForms$TreeCount" 43 "MazeForms$TreeCount" "prime" "J") (List.mem_cons_of_mem _ wm_291)) (fun _ h => h) (mz_dg d_Tc_times 1 1 (.getfield 43) 3 rfl)) ?_
  refine mz_All.cons (sd_ldc2 hx hb hown (hts _ (List.mem_cons_of_mem _ wm_636)) (mz_dg d_Tc_times 2 4 (.ldc2_w 39) 3 rfl)) ?_
  refine mz_All.cons (sd_lcmp hx hb (mz_dg d_Tc_times 3 7 (.lcmp) 1 rfl)) ?_
  refine mz_All.cons (sd_if_ge hx hb (mz_dg d_Tc_times 4 8 (.ifCond .ge (7)) 3 rfl) (by decide)) ?_
  refine mz_All.cons (sd_lconst hx hb (mz_dg d_Tc_times 5 11 (.lconst 0) 1 rfl) (by decide)) ?_
  refine mz_All.cons (sd_goto hx hb (mz_dg d_Tc_times 6 12 (.goto (11)) 3 rfl) (by decide)) ?_
  refine mz_All.cons (sd_lload_n hx hb (mz_dg d_Tc_times 7 15 (.lload_n 1) 1 rfl) rfl) ?_
  refine mz_All.cons (sd_lload_n hx hb (mz_dg d_Tc_times 8 16 (.lload_n 3) 1 rfl) rfl) ?_
  refine mz_All.cons (sd_lmul hx hb (mz_dg d_Tc_times 9 17 (.lmul) 1 rfl)) ?_
  refine mz_All.cons (sd_aload_n hx hb (mz_dg d_Tc_times 10 18 (.aload_n 0) 1 rfl) rfl) ?_
  refine mz_All.cons (sd_get (k := 6) hx hb hts (mz_inC in_Tc) hown (T := T_Tc) (N := 7) rfl (by decide) (hts (.fieldLink "MazeForms$TreeCount" 43 "MazeForms$TreeCount" "prime" "J") (List.mem_cons_of_mem _ wm_291)) (fun _ h => h) (mz_dg d_Tc_times 11 19 (.getfield 43) 3 rfl)) ?_
  refine mz_All.cons (sd_lrem hx hb (mz_dg d_Tc_times 12 22 (.lrem) 1 rfl)) ?_
  refine mz_All.cons (sd_rl hx hb hr hlk (mz_dg d_Tc_times 13 23 (.lreturn) 1 rfl)) ?_
  exact trivial
theorem met_Tc_times (w h : Nat) (l : Launch) : mz_ML l y_Tc_times w_Tc_times 0 0 mz_cls (C_Tc_times w h) := mz_ML_of (I_Tc_times w h) (by decide) rfl (len_Tc_times w h) (ok_Tc_times w h) (snd_Tc_times w h l)
set_option maxRecDepth 20000 in
theorem snd_Tc_fillIn (w h : Nat) (l : Launch) (p : Program) (e : Env) (s : State) (m : MethodId) (args : Array Value) (below : List Frame) (meth : Method) (c : Code) (D : va_G) (ad0 : Nat → Nat) (cA0 : Nat → ClassId) (A : Nat → Prop) (lay : List mz_E) (Q : mz_X → Prop) (F : mz_F p s m args meth c prog_9_method_4_code 4 y_Tc_fillIn.cls none w_Tc_fillIn) (hA : ∀ q, s.heap.size ≤ q → A q) : mz_All (mz_V p l e (mz_rm 2 50) s m args below meth c 4 lay.length (mz_sz lay) D mz_cls (mz_G0 ad0 cA0) A (MQ below (va_Qv Q (mz_B D mz_cls ad0 cA0 lay A) A) args s 0 0 A)) (mz_qv lay Q) (I_Tc_fillIn w h) := by
  obtain ⟨hx, hb, hml, hown, hts, hr, hlk⟩ := F
  unfold I_Tc_fillIn
  refine mz_All.cons (sd_aload_n hx hb (mz_dg d_Tc_fillIn 0 0 (.aload_n 0) 1 rfl) rfl) ?_
  refine mz_All.cons (sd_get (k := 4) hx hb hts (mz_inC in_Tc) hown (T := T_Tc) (N := 7) rfl (by decide) (hts (.fieldLink "MazeForms$TreeCount" 35 "MazeForms$TreeCount" "entries" "[J") (List.mem_cons_of_mem _ wm_289)) (fun _ h => h) (mz_dg d_Tc_fillIn 1 1 (.getfield 35) 3 rfl)) ?_
  refine mz_All.cons (sd_lconst hx hb (mz_dg d_Tc_fillIn 2 4 (.lconst 0) 1 rfl) (by decide)) ?_
  refine mz_All.cons (sd_scallv ⟨hx, hb, hml, hown, hts⟩ (met_Ja_fillJ w h l) (va_cwS 2 hts (mz_gSo wm_647 wm_648 wm_69 wm_649) rfl rfl rfl (by decide) ⟨by decide, by decide⟩) hA rfl (mz_dg d_Tc_fillIn 3 5 (.invokestatic 64) 3 rfl)) ?_
  refine mz_All.cons (sd_iconst hx hb (mz_dg d_Tc_fillIn 4 8 (.iconst (0)) 1 rfl) (by decide)) ?_
  refine mz_All.cons (sd_istore_n hx hb (mz_dg d_Tc_fillIn 5 9 (.istore_n 1) 1 rfl) rfl (by decide)) ?_
  refine mz_All.cons (sd_iload_n hx hb (mz_dg d_Tc_fillIn 6 10 (.iload_n 1) 1 rfl) rfl) ?_
  refine mz_All.cons (sd_aload_n hx hb (mz_dg d_Tc_fillIn 7 11 (.aload_n 0) 1 rfl) rfl) ?_
  refine mz_All.cons (sd_get (k := 0) hx hb hts (mz_inC in_Tc) hown (T := T_Tc) (N := 7) rfl (by decide) (hts (.fieldLink "MazeForms$TreeCount" 9 "MazeForms$TreeCount" "grid" "LMazeForms$Grid;") (List.mem_cons_of_mem _ wm_285)) (fun _ h => h) (mz_dg d_Tc_fillIn 8 12 (.getfield 9) 3 rfl)) ?_
  refine mz_All.cons (sd_calli (T := T_Gr) ⟨hx, hb, hml, hown, hts⟩ (met_Gr_doorCount w h l) (cwV 0 hts (mz_gV wm_650 wm_426 wm_427 wm_67 wm_428) rfl rfl rfl (by decide) ⟨by decide, by decide⟩) rfl hA rfl (mz_dg d_Tc_fillIn 9 15 (.invokevirtual 70) 3 rfl)) ?_
  refine mz_All.cons (sd_icmp_ge hx hb (mz_dg d_Tc_fillIn 10 18 (.if_icmp .ge (73)) 3 rfl) (by decide)) ?_
  refine mz_All.cons (sd_aload_n hx hb (mz_dg d_Tc_fillIn 11 21 (.aload_n 0) 1 rfl) rfl) ?_
  refine mz_All.cons (sd_aload_n hx hb (mz_dg d_Tc_fillIn 12 22 (.aload_n 0) 1 rfl) rfl) ?_
  refine mz_All.cons (sd_get (k := 0) hx hb hts (mz_inC in_Tc) hown (T := T_Tc) (N := 7) rfl (by decide) (hts (.fieldLink "MazeForms$TreeCount" 9 "MazeForms$TreeCount" "grid" "LMazeForms$Grid;") (List.mem_cons_of_mem _ wm_285)) (fun _ h => h) (mz_dg d_Tc_fillIn 13 23 (.getfield 9) 3 rfl)) ?_
  refine mz_All.cons (sd_iload_n hx hb (mz_dg d_Tc_fillIn 14 26 (.iload_n 1) 1 rfl) rfl) ?_
  refine mz_All.cons (sd_calli (T := T_Gr) ⟨hx, hb, hml, hown, hts⟩ (met_Gr_lesserCell w h l) (cwV 1 hts (mz_gV wm_651 wm_451 wm_452 wm_67 wm_453) rfl rfl rfl (by decide) ⟨by decide, by decide⟩) rfl hA rfl (mz_dg d_Tc_fillIn 15 27 (.invokevirtual 73) 3 rfl)) ?_
  refine mz_All.cons (sd_calli (T := T_Tc) ⟨hx, hb, hml, hown, hts⟩ (met_Tc_placeIn w h l) (cwV 1 hts (mz_gV wm_652 wm_654 wm_26 wm_76 wm_655) rfl rfl rfl (by decide) ⟨by decide, by decide⟩) rfl hA rfl (mz_dg d_Tc_fillIn 16 30 (.invokevirtual 77) 3 rfl)) ?_
  refine mz_All.cons (sd_istore_n hx hb (mz_dg d_Tc_fillIn 17 33 (.istore_n 2) 1 rfl) rfl (by decide)) ?_
  refine mz_All.cons (sd_aload_n hx hb (mz_dg d_Tc_fillIn 18 34 (.aload_n 0) 1 rfl) rfl) ?_
  refine mz_All.cons (sd_aload_n hx hb (mz_dg d_Tc_fillIn 19 35 (.aload_n 0) 1 rfl) rfl) ?_
  refine mz_All.cons (sd_get (k := 0) hx hb hts (mz_inC in_Tc) hown (T := T_Tc) (N := 7) rfl (by decide) (hts (.fieldLink "MazeForms$TreeCount" 9 "MazeForms$TreeCount" "grid" "LMazeForms$Grid;") (List.mem_cons_of_mem _ wm_285)) (fun _ h => h) (mz_dg d_Tc_fillIn 20 36 (.getfield 9) 3 rfl)) ?_
  refine mz_All.cons (sd_iload_n hx hb (mz_dg d_Tc_fillIn 21 39 (.iload_n 1) 1 rfl) rfl) ?_
  refine mz_All.cons (sd_calli (T := T_Gr) ⟨hx, hb, hml, hown, hts⟩ (met_Gr_greaterCell w h l) (cwV 1 hts (mz_gV wm_657 wm_460 wm_461 wm_67 wm_462) rfl rfl rfl (by decide) ⟨by decide, by decide⟩) rfl hA rfl (mz_dg d_Tc_fillIn 22 40 (.invokevirtual 80) 3 rfl)) ?_
  refine mz_All.cons (sd_calli (T := T_Tc) ⟨hx, hb, hml, hown, hts⟩ (met_Tc_placeIn w h l) (cwV 1 hts (mz_gV wm_652 wm_654 wm_26 wm_76 wm_655) rfl rfl rfl (by decide) ⟨by decide, by decide⟩) rfl hA rfl (mz_dg d_Tc_fillIn 23 43 (.invokevirtual 77) 3 rfl)) ?_
  refine mz_All.cons (sd_istore_n hx hb (mz_dg d_Tc_fillIn 24 46 (.istore_n 3) 1 rfl) rfl (by decide)) ?_
  refine mz_All.cons (sd_aload_n hx hb (mz_dg d_Tc_fillIn 25 47 (.aload_n 0) 1 rfl) rfl) ?_
  refine mz_All.cons (sd_iload_n hx hb (mz_dg d_Tc_fillIn 26 48 (.iload_n 2) 1 rfl) rfl) ?_
  refine mz_All.cons (sd_iload_n hx hb (mz_dg d_Tc_fillIn 27 49 (.iload_n 2) 1 rfl) rfl) ?_
  refine mz_All.cons (sd_lconst hx hb (mz_dg d_Tc_fillIn 28 50 (.lconst 1) 1 rfl) (by decide)) ?_
  refine mz_All.cons (sd_callv (T := T_Tc) ⟨hx, hb, hml, hown, hts⟩ (met_Tc_addTo w h l) (cwV 3 hts (mz_gV wm_658 wm_660 wm_27 wm_76 wm_661) rfl rfl rfl (by decide) ⟨by decide, by decide⟩) rfl hA rfl (mz_dg d_Tc_fillIn 29 51 (.invokevirtual 83) 3 rfl)) ?_
  refine mz_All.cons (sd_aload_n hx hb (mz_dg d_Tc_fillIn 30 54 (.aload_n 0) 1 rfl) rfl) ?_
  refine mz_All.cons (sd_iload_n hx hb (mz_dg d_Tc_fillIn 31 55 (.iload_n 3) 1 rfl) rfl) ?_
  refine mz_All.cons (sd_iload_n hx hb (mz_dg d_Tc_fillIn 32 56 (.iload_n 3) 1 rfl) rfl) ?_
  refine mz_All.cons (sd_lconst hx hb (mz_dg d_Tc_fillIn 33 57 (.lconst 1) 1 rfl) (by decide)) ?_
  refine mz_All.cons (sd_callv (T := T_Tc) ⟨hx, hb, hml, hown, hts⟩ (met_Tc_addTo w h l) (cwV 3 hts (mz_gV wm_658 wm_660 wm_27 wm_76 wm_661) rfl rfl rfl (by decide) ⟨by decide, by decide⟩) rfl hA rfl (mz_dg d_Tc_fillIn 34 58 (.invokevirtual 83) 3 rfl)) ?_
  refine mz_All.cons (sd_aload_n hx hb (mz_dg d_Tc_fillIn 35 61 (.aload_n 0) 1 rfl) rfl) ?_
  refine mz_All.cons (sd_iload_n hx hb (mz_dg d_Tc_fillIn 36 62 (.iload_n 2) 1 rfl) rfl) ?_
  refine mz_All.cons (sd_iload_n hx hb (mz_dg d_Tc_fillIn 37 63 (.iload_n 3) 1 rfl) rfl) ?_
  refine mz_All.cons (sd_aload_n hx hb (mz_dg d_Tc_fillIn 38 64 (.aload_n 0) 1 rfl) rfl) ?_
  refine mz_All.cons (sd_get (k := 6) hx hb hts (mz_inC in_Tc) hown (T := T_Tc) (N := 7) rfl (by decide) (hts (.fieldLink "MazeForms$TreeCount" 43 "MazeForms$TreeCount" "prime" "J") (List.mem_cons_of_mem _ wm_291)) (fun _ h => h) (mz_dg d_Tc_fillIn 39 65 (.getfield 43) 3 rfl)) ?_
  refine mz_All.cons (sd_lconst hx hb (mz_dg d_Tc_fillIn 40 68 (.lconst 1) 1 rfl) (by decide)) ?_
  refine mz_All.cons (sd_lsub hx hb (mz_dg d_Tc_fillIn 41 69 (.lsub) 1 rfl)) ?_
  refine mz_All.cons (sd_callv (T := T_Tc) ⟨hx, hb, hml, hown, hts⟩ (met_Tc_addTo w h l) (cwV 3 hts (mz_gV wm_658 wm_660 wm_27 wm_76 wm_661) rfl rfl rfl (by decide) ⟨by decide, by decide⟩) rfl hA rfl (mz_dg d_Tc_fillIn 42 70 (.invokevirtual 83) 3 rfl)) ?_
  refine mz_All.cons (sd_aload_n hx hb (mz_dg d_Tc_fillIn 43 73 (.aload_n 0) 1 rfl) rfl) ?_
  refine mz_All.cons (sd_iload_n hx hb (mz_dg d_Tc_fillIn 44 74 (.iload_n 3) 1 rfl) rfl) ?_
  refine mz_All.cons (sd_iload_n hx hb (mz_dg d_Tc_fillIn 45 75 (.iload_n 2) 1 rfl) rfl) ?_
  refine mz_All.cons (sd_aload_n hx hb (mz_dg d_Tc_fillIn 46 76 (.aload_n 0) 1 rfl) rfl) ?_
  refine mz_All.cons (sd_get (k := 6) hx hb hts (mz_inC in_Tc) hown (T := T_Tc) (N := 7) rfl (by decide) (hts (.fieldLink "MazeForms$TreeCount" 43 "MazeForms$TreeCount" "prime" "J") (List.mem_cons_of_mem _ wm_291)) (fun _ h => h) (mz_dg d_Tc_fillIn 47 77 (.getfield 43) 3 rfl)) ?_
  refine mz_All.cons (sd_lconst hx hb (mz_dg d_Tc_fillIn 48 80 (.lconst 1) 1 rfl) (by decide)) ?_
  refine mz_All.cons (sd_lsub hx hb (mz_dg d_Tc_fillIn 49 81 (.lsub) 1 rfl)) ?_
  refine mz_All.cons (sd_callv (T := T_Tc) ⟨hx, hb, hml, hown, hts⟩ (met_Tc_addTo w h l) (cwV 3 hts (mz_gV wm_658 wm_660 wm_27 wm_76 wm_661) rfl rfl rfl (by decide) ⟨by decide, by decide⟩) rfl hA rfl (mz_dg d_Tc_fillIn 50 82 (.invokevirtual 83) 3 rfl)) ?_
  refine mz_All.cons (sd_iinc hx hb (mz_dg d_Tc_fillIn 51 85 (.iinc 1 (1)) 3 rfl) (by decide) (by decide)) ?_
  refine mz_All.cons (sd_goto hx hb (mz_dg d_Tc_fillIn 52 88 (.goto (-78)) 3 rfl) (by decide)) ?_
  refine mz_All.cons (sd_rv hx hb hr hlk (mz_dg d_Tc_fillIn 53 91 (.return_) 1 rfl)) ?_
  exact trivial
theorem met_Tc_fillIn (w h : Nat) (l : Launch) : mz_MV l y_Tc_fillIn w_Tc_fillIn 2 50 mz_cls (C_Tc_fillIn w h) := mz_MV_of (I_Tc_fillIn w h) (by decide) rfl (len_Tc_fillIn w h) (ok_Tc_fillIn w h) (snd_Tc_fillIn w h l)
