/-- Trail (place 18: length is its field 3, edition its field 4), its cells (place 19) -/
def zt_f (X : mz_X) : Bool := !decide (X.1 18 3 = -1) && decide (X.1 18 4 = X.1 1 8)
def zt_nN (w h : Nat) (X : mz_X) (c : Int32) (s : Nat) : Int32 := zg_oth w h X (zg_on w h X c (nI s)) c
def zt_nB (w h : Nat) (X : mz_X) (c : Int32) (s : Nat) : Bool := zg_open w h X (zg_on w h X c (nI s)) && decide (zf_to w h X (zt_nN w h X c s) = zf_to w h X c - 1)
def zt_nr (w h : Nat) (X : mz_X) (c : Int32) (i k : Nat) : Int32 := match k with
  | 0 => -1
  | j + 1 => match zt_nB w h X c i with
    | true => zt_nN w h X c i
    | false => zt_nr w h X c (i + 1) j
def zt_near (w h : Nat) (X : mz_X) (c : Int32) : Int32 := zt_nr w h X c 0 4
def zt_pS (X : mz_X) (c : Int32) (i : Nat) : mz_X := (mz_up X.1 19 i c, X.2)
def zt_p (w h : Nat) (X : mz_X) (c st : Int32) (i k : Nat) : mz_X := match k with
  | 0 => X
  | j + 1 => match decide (nI i ≤ st) with
    | true => zt_p w h (zt_pS X c i) (zt_near w h (zt_pS X c i) c) st (i + 1) j
    | false => X
def zt_0 (X : mz_X) : mz_X := (mz_up X.1 18 3 (-1), X.2)
def zt_e (X : mz_X) (st : Int32) : mz_X := (mz_up (mz_up X.1 18 3 st) 18 4 (X.1 1 8), X.2)
def zt_fB (w h : Nat) (X : mz_X) (a b : Int32) : Bool := zg_free w h (zt_0 X) a && zg_free w h (zt_0 X) b
def zt_1 (w h : Nat) (X : mz_X) (b : Int32) : mz_X := zf_spr w h (zt_0 X) b 0
def zt_fS (w h : Nat) (X : mz_X) (a b : Int32) : Int32 := zf_to w h (zt_1 w h X b) a
def zt_fi (w h : Nat) (X : mz_X) (a b : Int32) : Int32 × mz_X := match zt_fB w h X a b with
  | true => match decide (zt_fS w h X a b = -1) with
    | true => (-1, zt_1 w h X b)
    | false => (zt_fS w h X a b, zt_e (zt_p w h (zt_1 w h X b) a (zt_fS w h X a b) 0 (w * h)) (zt_fS w h X a b))
  | false => (-1, zt_0 X)
def zt_at (w h : Nat) (X : mz_X) (k : Int32) : Int32 := if (zt_f X && !decide (k < 0) && !decide (X.1 18 3 < k) && !decide (nI (w * h) ≤ k)) = true then X.1 19 k.toNatClampNeg else -1
def zt_g1 (w h : Nat) (X : mz_X) (j : Nat) : Int64 := (nI (mz_cnt (fun s => zg_open w h X (zg_on w h X (zt_at w h X (nI j)) (nI s))) 4) - (if nI j = 0 then 1 else 2)).toInt64 * (nI j + 1).toInt64
def zt_g (w h : Nat) (X : mz_X) (k : Nat) : Int64 := match k with
  | 0 => 0
  | j + 1 => zt_g w h X j + zt_g1 w h X j
def C_Tr_isFound (w h : Nat) : mz_CI := fun lay as X Q => match as with
  | [.ref 18] => lay = mz_lay w h ∧ mz_geo w h ∧ Q (mz_b (zt_f X)) X
  | _ => False
def C_Tr_nearerCell (w h : Nat) : mz_CI := fun lay as X Q => match as with
  | [.ref 18, .int c] => lay = mz_lay w h ∧ mz_geo w h ∧ Q (zt_near w h X c) X
  | _ => False
def C_Tr_find (w h : Nat) : mz_CI := fun lay as X Q => match as with
  | [.ref 18, .int a, .int b] => lay = mz_lay w h ∧ mz_geo w h ∧ Q (zt_fi w h X a b).1 (zt_fi w h X a b).2
  | _ => False
def C_Tr_cellAtStep (w h : Nat) : mz_CI := fun lay as X Q => match as with
  | [.ref 18, .int k] => lay = mz_lay w h ∧ mz_geo w h ∧ Q (zt_at w h X k) X
  | _ => False
def C_Tr_toll (w h : Nat) : mz_CL := fun lay as X Q => match as with
  | [.ref 18] => lay = mz_lay w h ∧ mz_geo w h ∧ (zt_f X = false → Q (-1) X) ∧ (zt_f X = true → ∃ q : Nat, q < 2 ^ 31 ∧ X.1 18 3 = nI q ∧ Q (zt_g w h X q) X)
  | _ => False
def y_Tr_isFound : MethodName := ⟨"MazeForms$Trail", "isFound", "()Z"⟩
abbrev w_Tr_isFound : List Cond := .code y_Tr_isFound prog_8_method_5_code 1 (some .boolean) :: mz_tb
def dl_Tr_isFound : List (Nat × ClassFile.Instr × Nat) := [(0, .aload_n 0, 1), (1, .getfield 29, 3), (4, .iconst (-1), 1), (5, .if_icmp .eq (21), 3), (8, .aload_n 0, 1), (9, .getfield 53, 3), (12, .aload_n 0, 1), (13, .getfield 9, 3), (16, .invokevirtual 50, 3), (19, .if_icmp .ne (7), 3), (22, .iconst (1), 1), (23, .goto (4), 3), (26, .iconst (0), 1), (27, .ireturn, 1)]
theorem d_Tr_isFound : mz_dec prog_8_method_5_code dl_Tr_isFound = true := by decide +kernel
def y_Tr_nearerCell : MethodName := ⟨"MazeForms$Trail", "nearerCell", "(I)I"⟩
abbrev w_Tr_nearerCell : List Cond := .code y_Tr_nearerCell prog_8_method_6_code 5 (some .int) :: mz_tb
def dl_Tr_nearerCell : List (Nat × ClassFile.Instr × Nat) := [(0, .iconst (0), 1), (1, .istore_n 2, 1), (2, .iload_n 2, 1), (3, .iconst (4), 1), (4, .if_icmp .ge (66), 3), (7, .aload_n 0, 1), (8, .getfield 9, 3), (11, .iload_n 1, 1), (12, .iload_n 2, 1), (13, .invokevirtual 67, 3), (16, .istore_n 3, 1), (17, .aload_n 0, 1), (18, .getfield 9, 3), (21, .iload_n 3, 1), (22, .iload_n 1, 1), (23, .invokevirtual 71, 3), (26, .istore 4, 2), (28, .aload_n 0, 1), (29, .getfield 9, 3), (32, .iload_n 3, 1), (33, .invokevirtual 74, 3), (36, .ifCond .eq (28), 3), (39, .aload_n 0, 1), (40, .getfield 15, 3), (43, .iload 4, 2), (45, .invokevirtual 43, 3), (48, .aload_n 0, 1), (49, .getfield 15, 3), (52, .iload_n 1, 1), (53, .invokevirtual 43, 3), (56, .iconst (1), 1), (57, .isub, 1), (58, .if_icmp .ne (6), 3), (61, .iload 4, 2), (63, .ireturn, 1), (64, .iinc 2 (1), 3), (67, .goto (-65), 3), (70, .iconst (-1), 1), (71, .ireturn, 1)]
theorem d_Tr_nearerCell : mz_dec prog_8_method_6_code dl_Tr_nearerCell = true := by decide +kernel
def y_Tr_cellAtStep : MethodName := ⟨"MazeForms$Trail", "cellAtStep", "(I)I"⟩
abbrev w_Tr_cellAtStep : List Cond := .code y_Tr_cellAtStep prog_8_method_3_code 3 (some .int) :: mz_tb
def dl_Tr_cellAtStep : List (Nat × ClassFile.Instr × Nat) := [(0, .aload_n 0, 1), (1, .invokevirtual 55, 3), (4, .ifCond .eq (28), 3), (7, .iload_n 1, 1), (8, .ifCond .lt (24), 3), (11, .iload_n 1, 1), (12, .aload_n 0, 1), (13, .getfield 29, 3), (16, .if_icmp .gt (16), 3), (19, .iload_n 1, 1), (20, .aload_n 0, 1), (21, .getfield 25, 3), (24, .arraylength, 1), (25, .if_icmp .ge (7), 3), (28, .iconst (1), 1), (29, .goto (4), 3), (32, .iconst (0), 1), (33, .istore_n 2, 1), (34, .iload_n 2, 1), (35, .ifCond .eq (12), 3), (38, .aload_n 0, 1), (39, .getfield 25, 3), (42, .iload_n 1, 1), (43, .iaload, 1), (44, .goto (4), 3), (47, .iconst (-1), 1), (48, .ireturn, 1)]
theorem d_Tr_cellAtStep : mz_dec prog_8_method_3_code dl_Tr_cellAtStep = true := by decide +kernel
def y_Tr_find : MethodName := ⟨"MazeForms$Trail", "find", "(II)I"⟩
abbrev w_Tr_find : List Cond := .code y_Tr_find prog_8_method_2_code 6 (some .int) :: mz_tb
def dl_Tr_find : List (Nat × ClassFile.Instr × Nat) := [(0, .aload_n 0, 1), (1, .iconst (-1), 1), (2, .putfield 29, 3), (5, .aload_n 0, 1), (6, .getfield 9, 3), (9, .iload_n 1, 1), (10, .invokevirtual 33, 3), (13, .ifCond .eq (14), 3), (16, .aload_n 0, 1), (17, .getfield 9, 3), (20, .iload_n 2, 1), (21, .invokevirtual 33, 3), (24, .ifCond .ne (5), 3), (27, .iconst (-1), 1), (28, .ireturn, 1), (29, .aload_n 0, 1), (30, .getfield 15, 3), (33, .iload_n 2, 1), (34, .iconst (0), 1), (35, .invokevirtual 37, 3), (38, .aload_n 0, 1), (39, .getfield 15, 3), (42, .iload_n 1, 1), (43, .invokevirtual 43, 3), (46, .istore_n 3, 1), (47, .iload_n 3, 1), (48, .iconst (-1), 1), (49, .if_icmp .ne (5), 3), (52, .iconst (-1), 1), (53, .ireturn, 1), (54, .iload_n 1, 1), (55, .istore 4, 2), (57, .iconst (0), 1), (58, .istore 5, 2), (60, .iload 5, 2), (62, .iload_n 3, 1), (63, .if_icmp .gt (36), 3), (66, .iload 5, 2), (68, .aload_n 0, 1), (69, .getfield 25, 3), (72, .arraylength, 1), (73, .if_icmp .ge (26), 3), (76, .aload_n 0, 1), (77, .getfield 25, 3), (80, .iload 5, 2), (82, .iload 4, 2), (84, .iastore, 1), (85, .aload_n 0, 1), (86, .iload 4, 2), (88, .invokevirtual 47, 3), (91, .istore 4, 2), (93, .iinc 5 (1), 3), (96, .goto (-36), 3), (99, .aload_n 0, 1), (100, .iload_n 3, 1), (101, .putfield 29, 3), (104, .aload_n 0, 1), (105, .aload_n 0, 1), (106, .getfield 9, 3), (109, .invokevirtual 50, 3), (112, .putfield 53, 3), (115, .iload_n 3, 1), (116, .ireturn, 1)]
theorem d_Tr_find : mz_dec prog_8_method_2_code dl_Tr_find = true := by decide +kernel
def y_Tr_toll : MethodName := ⟨"MazeForms$Trail", "toll", "()J"⟩
abbrev w_Tr_toll : List Cond := .code y_Tr_toll prog_8_method_4_code 7 (some .long) :: mz_tb
def dl_Tr_toll : List (Nat × ClassFile.Instr × Nat) := [(0, .aload_n 0, 1), (1, .invokevirtual 55, 3), (4, .ifCond .ne (7), 3), (7, .ldc2_w 59, 3), (10, .lreturn, 1), (11, .lconst 0, 1), (12, .lstore_n 1, 1), (13, .iconst (0), 1), (14, .istore_n 3, 1), (15, .iload_n 3, 1), (16, .aload_n 0, 1), (17, .getfield 29, 3), (20, .if_icmp .ge (48), 3), (23, .iload_n 3, 1), (24, .ifCond .ne (7), 3), (27, .iconst (1), 1), (28, .goto (4), 3), (31, .iconst (2), 1), (32, .istore 4, 2), (34, .aload_n 0, 1), (35, .getfield 9, 3), (38, .aload_n 0, 1), (39, .iload_n 3, 1), (40, .invokevirtual 61, 3), (43, .invokevirtual 64, 3), (46, .iload 4, 2), (48, .isub, 1), (49, .i2l, 1), (50, .lstore 5, 2), (52, .lload_n 1, 1), (53, .lload 5, 2), (55, .iload_n 3, 1), (56, .iconst (1), 1), (57, .iadd, 1), (58, .i2l, 1), (59, .lmul, 1), (60, .ladd, 1), (61, .lstore_n 1, 1), (62, .iinc 3 (1), 3), (65, .goto (-50), 3), (68, .lload_n 1, 1), (69, .lreturn, 1)]
theorem d_Tr_toll : mz_dec prog_8_method_4_code dl_Tr_toll = true := by decide +kernel
def I_Tr_isFound (w h : Nat) : List (Nat × mz_Op) := [(0, mz_lda 0 1), (1, mz_gf 6 3 4), (4, mz_push (.int (-1)) 5), (5, mz_ic (fun x y => x = y) 26 8), (8, mz_lda 0 9), (9, mz_gf 6 4 12), (12, mz_lda 0 13), (13, mz_gf 6 0 16), (16, mz_ci 1 3 (C_Gr_edition w h) 19), (19, mz_ic (fun x y => x = y) 22 26), (22, mz_push (.int (1)) 23), (23, mz_go 27), (26, mz_push (.int (0)) 27), (27, mz_rz)]
def I_Tr_nearerCell (w h : Nat) : List (Nat × mz_Op) := [(0, mz_push (.int (0)) 1), (1, mz_sti 2 2), (2, mz_ldi 2 3), (3, mz_push (.int (4)) 4), (4, mz_ic (fun x y => y ≤ x) 70 7), (7, mz_lda 0 8), (8, mz_gf 6 0 11), (11, mz_ldi 1 12), (12, mz_ldi 2 13), (13, mz_ci 3 3 (C_Gr_doorOn w h) 16), (16, mz_sti 3 17), (17, mz_lda 0 18), (18, mz_gf 6 0 21), (21, mz_ldi 3 22), (22, mz_ldi 1 23), (23, mz_ci 3 3 (C_Gr_otherCell w h) 26), (26, mz_sti 4 28), (28, mz_lda 0 29), (29, mz_gf 6 0 32), (32, mz_ldi 3 33), (33, mz_ci 2 3 (C_Gr_isOpen w h) 36), (36, mz_if (fun x => x = 0) 64 39), (39, mz_lda 0 40), (40, mz_gf 6 1 43), (43, mz_ldi 4 45), (45, mz_ci 2 2 (C_Fl_stepsTo w h) 48), (48, mz_lda 0 49), (49, mz_gf 6 1 52), (52, mz_ldi 1 53), (53, mz_ci 2 2 (C_Fl_stepsTo w h) 56), (56, mz_push (.int (1)) 57), (57, mz_bi (fun x y => x - y) 58), (58, mz_ic (fun x y => x = y) 61 64), (61, mz_ldi 4 63), (63, mz_ri), (64, mz_inc 2 (1) 67), (67, mz_go 2), (70, mz_push (.int (-1)) 71), (71, mz_ri)]
def I_Tr_cellAtStep (w h : Nat) : List (Nat × mz_Op) := [(0, mz_lda 0 1), (1, mz_ci 1 6 (C_Tr_isFound w h) 4), (4, mz_if (fun x => x = 0) 32 7), (7, mz_ldi 1 8), (8, mz_if (fun x => x < 0) 32 11), (11, mz_ldi 1 12), (12, mz_lda 0 13), (13, mz_gf 6 3 16), (16, mz_ic (fun x y => y < x) 32 19), (19, mz_ldi 1 20), (20, mz_lda 0 21), (21, mz_gf 6 2 24), (24, mz_al 25), (25, mz_ic (fun x y => y ≤ x) 32 28), (28, mz_push (.int (1)) 29), (29, mz_go 33), (32, mz_push (.int (0)) 33), (33, mz_sti 2 34), (34, mz_ldi 2 35), (35, mz_if (fun x => x = 0) 47 38), (38, mz_lda 0 39), (39, mz_gf 6 2 42), (42, mz_ldi 1 43), (43, mz_iald 0 44), (44, mz_go 48), (47, mz_push (.int (-1)) 48), (48, mz_ri)]
def I_Tr_find (w h : Nat) : List (Nat × mz_Op) := [(0, mz_lda 0 1), (1, mz_push (.int (-1)) 2), (2, mz_pfi 6 3 5), (5, mz_lda 0 6), (6, mz_gf 6 0 9), (9, mz_ldi 1 10), (10, mz_ci 2 3 (C_Gr_isFree w h) 13), (13, mz_if (fun x => x = 0) 27 16), (16, mz_lda 0 17), (17, mz_gf 6 0 20), (20, mz_ldi 2 21), (21, mz_ci 2 3 (C_Gr_isFree w h) 24), (24, mz_if (fun x => x = 0) 27 29), (27, mz_push (.int (-1)) 28), (28, mz_ri), (29, mz_lda 0 30), (30, mz_gf 6 1 33), (33, mz_ldi 2 34), (34, mz_push (.int (0)) 35), (35, mz_cvo 3 2 (C_Fl_spread w h) 38), (38, mz_lda 0 39), (39, mz_gf 6 1 42), (42, mz_ldi 1 43), (43, mz_ci 2 2 (C_Fl_stepsTo w h) 46), (46, mz_sti 3 47), (47, mz_ldi 3 48), (48, mz_push (.int (-1)) 49), (49, mz_ic (fun x y => x = y) 52 54), (52, mz_push (.int (-1)) 53), (53, mz_ri), (54, mz_ldi 1 55), (55, mz_sti 4 57), (57, mz_push (.int (0)) 58), (58, mz_sti 5 60), (60, mz_ldi 5 62), (62, mz_ldi 3 63), (63, mz_ic (fun x y => y < x) 99 66), (66, mz_ldi 5 68), (68, mz_lda 0 69), (69, mz_gf 6 2 72), (72, mz_al 73), (73, mz_ic (fun x y => y ≤ x) 99 76), (76, mz_lda 0 77), (77, mz_gf 6 2 80), (80, mz_ldi 5 82), (82, mz_ldi 4 84), (84, mz_iast 0 85), (85, mz_lda 0 86), (86, mz_ldi 4 88), (88, mz_ci 2 6 (C_Tr_nearerCell w h) 91), (91, mz_sti 4 93), (93, mz_inc 5 (1) 96), (96, mz_go 60), (99, mz_lda 0 100), (100, mz_ldi 3 101), (101, mz_pfi 6 3 104), (104, mz_lda 0 105), (105, mz_lda 0 106), (106, mz_gf 6 0 109), (109, mz_ci 1 3 (C_Gr_edition w h) 112), (112, mz_pfi 6 4 115), (115, mz_ldi 3 116), (116, mz_ri)]
def I_Tr_toll (w h : Nat) : List (Nat × mz_Op) := [(0, mz_lda 0 1), (1, mz_ci 1 6 (C_Tr_isFound w h) 4), (4, mz_if (fun x => x = 0) 7 11), (7, mz_push (.long (-1)) 10), (10, mz_rl), (11, mz_push (.long 0) 12), (12, mz_stl 1 13), (13, mz_push (.int (0)) 14), (14, mz_sti 3 15), (15, mz_ldi 3 16), (16, mz_lda 0 17), (17, mz_gf 6 3 20), (20, mz_ic (fun x y => y ≤ x) 68 23), (23, mz_ldi 3 24), (24, mz_if (fun x => x = 0) 27 31), (27, mz_push (.int (1)) 28), (28, mz_go 32), (31, mz_push (.int (2)) 32), (32, mz_sti 4 34), (34, mz_lda 0 35), (35, mz_gf 6 0 38), (38, mz_lda 0 39), (39, mz_ldi 3 40), (40, mz_ci 2 6 (C_Tr_cellAtStep w h) 43), (43, mz_ci 2 3 (C_Gr_openSides w h) 46), (46, mz_ldi 4 48), (48, mz_bi (fun x y => x - y) 49), (49, mz_i2l 50), (50, mz_stl 5 52), (52, mz_ldl 1 53), (53, mz_ldl 5 55), (55, mz_ldi 3 56), (56, mz_push (.int (1)) 57), (57, mz_bi (fun x y => x + y) 58), (58, mz_i2l 59), (59, mz_bl (fun x y => x * y) 60), (60, mz_bl (fun x y => x + y) 61), (61, mz_stl 1 62), (62, mz_inc 3 (1) 65), (65, mz_go 15), (68, mz_ldl 1 69), (69, mz_rl)]
theorem zt_nr_t {w h i k : Nat} {X : mz_X} {c : Int32} (e : zt_nB w h X c i = true) : zt_nr w h X c i (k + 1) = zt_nN w h X c i := by
  show (match zt_nB w h X c i with | true => zt_nN w h X c i | false => zt_nr w h X c (i + 1) k) = _
  rw [e]
theorem zt_nr_f {w h i k : Nat} {X : mz_X} {c : Int32} (e : zt_nB w h X c i = false) : zt_nr w h X c i (k + 1) = zt_nr w h X c (i + 1) k := by
  show (match zt_nB w h X c i with | true => zt_nN w h X c i | false => zt_nr w h X c (i + 1) k) = _
  rw [e]
theorem zt_p_t {w h i k : Nat} {X : mz_X} {c st : Int32} (e : nI i ≤ st) : zt_p w h X c st i (k + 1) = zt_p w h (zt_pS X c i) (zt_near w h (zt_pS X c i) c) st (i + 1) k := by
  show (match decide (nI i ≤ st) with | true => zt_p w h (zt_pS X c i) (zt_near w h (zt_pS X c i) c) st (i + 1) k | false => X) = _
  rw [show decide (nI i ≤ st) = true from decide_eq_true e]
theorem zt_p_f {w h i k : Nat} {X : mz_X} {c st : Int32} (e : ¬ nI i ≤ st) : zt_p w h X c st i (k + 1) = X := by
  show (match decide (nI i ≤ st) with | true => zt_p w h (zt_pS X c i) (zt_near w h (zt_pS X c i) c) st (i + 1) k | false => X) = _
  rw [show decide (nI i ≤ st) = false from decide_eq_false e]
theorem zt_fi_f {w h : Nat} {X : mz_X} {a b : Int32} (e : zt_fB w h X a b = false) : zt_fi w h X a b = (-1, zt_0 X) := by
  unfold zt_fi
  rw [e]
theorem zt_fi_tt {w h : Nat} {X : mz_X} {a b : Int32} (e : zt_fB w h X a b = true) (e2 : zt_fS w h X a b = -1) : zt_fi w h X a b = (-1, zt_1 w h X b) := by
  unfold zt_fi
  rw [e, show decide (zt_fS w h X a b = -1) = true from decide_eq_true e2]
theorem zt_fi_tf {w h : Nat} {X : mz_X} {a b : Int32} (e : zt_fB w h X a b = true) (e2 : ¬ zt_fS w h X a b = -1) : zt_fi w h X a b = (zt_fS w h X a b, zt_e (zt_p w h (zt_1 w h X b) a (zt_fS w h X a b) 0 (w * h)) (zt_fS w h X a b)) := by
  unfold zt_fi
  rw [e, show decide (zt_fS w h X a b = -1) = false from decide_eq_false e2]
theorem len_Tr_isFound (w h : Nat) (lay : List mz_E) (as : List Value) (X : mz_X) (Q : Int32 → mz_X → Prop) (hC : C_Tr_isFound w h lay as X Q) : (mz_l0 as).length ≤ 1 := by
  unfold C_Tr_isFound at hC
  split at hC
  · exact Nat.le_of_ble_eq_true rfl
  · exact hC.elim
theorem ok_Tr_isFound (w h : Nat) (lay : List mz_E) (as : List Value) (X : mz_X) (Q : Int32 → mz_X → Prop) (hC : C_Tr_isFound w h lay as X Q) (K : mz_K) (hK : mz_Cl (I_Tr_isFound w h) (mz_qi lay Q) K) : K 0 (mz_ent 1 as) [] (lay, X) := by
  unfold C_Tr_isFound at hC
  split at hC
  ·
    obtain ⟨rfl, g, hq⟩ := hC
    iterate 3 refine hK _ _ _ _ ?_
    refine hK _ _ _ _ (And.intro (fun c1 => ?_) (fun c1 => ?_))
    · dsimp only at c1
      refine hK _ _ _ _ ?_
      exact hK _ _ _ _ (And.intro (Or.inl rfl) (And.intro rfl (by simpa [zt_f, c1, mz_b] using hq)))
    · dsimp only at c1
      iterate 4 refine hK _ _ _ _ ?_
      refine hK _ _ _ _ (And.intro (rfl) (And.intro (g) ?_))
      refine hK _ _ _ _ (And.intro (fun c2 => ?_) (fun c2 => ?_))
      · dsimp only at c2
        iterate 2 refine hK _ _ _ _ ?_
        exact hK _ _ _ _ (And.intro (Or.inr rfl) (And.intro rfl (by simpa [zt_f, c1, c2, mz_b] using hq)))
      · dsimp only at c2
        refine hK _ _ _ _ ?_
        exact hK _ _ _ _ (And.intro (Or.inl rfl) (And.intro rfl (by simpa [zt_f, c2, mz_b] using hq)))
  · exact hC.elim
theorem len_Tr_nearerCell (w h : Nat) (lay : List mz_E) (as : List Value) (X : mz_X) (Q : Int32 → mz_X → Prop) (hC : C_Tr_nearerCell w h lay as X Q) : (mz_l0 as).length ≤ 5 := by
  unfold C_Tr_nearerCell at hC
  split at hC
  · exact Nat.le_of_ble_eq_true rfl
  · exact hC.elim
theorem ok_Tr_nearerCell (w h : Nat) (lay : List mz_E) (as : List Value) (X : mz_X) (Q : Int32 → mz_X → Prop) (hC : C_Tr_nearerCell w h lay as X Q) (K : mz_K) (hK : mz_Cl (I_Tr_nearerCell w h) (mz_qi lay Q) K) : K 0 (mz_ent 5 as) [] (lay, X) := by
  unfold C_Tr_nearerCell at hC
  split at hC
  · next c =>
    obtain ⟨rfl, g, hq⟩ := hC
    have loop : ∀ (k i : Nat), i + k = 4 → zt_near w h X c = zt_nr w h X c i k → ∀ L3 L4 : Option Value, K 2 [some (.ref 18), some (.int c), some (.int (nI i)), L3, L4] [] (mz_lay w h, X) := by
      intro k
      induction k with
      | zero =>
        intro i hi he L3 L4
        iterate 2 refine hK _ _ _ _ ?_
        refine hK _ _ _ _ (And.intro (fun c1 => ?_) (fun c1 => ?_))
        · rw [he] at hq
          refine hK _ _ _ _ ?_
          exact hK _ _ _ _ (And.intro rfl (hq))
        · exact absurd (nI_le (a := 4) (b := i) (by omega) (by omega)) c1
      | succ k ih =>
        intro i hi he L3 L4
        have hf : zt_nB w h X c i = false → ∀ L3 L4 : Option Value, K 64 [some (.ref 18), some (.int c), some (.int (nI i)), L3, L4] [] (mz_lay w h, X) := by
          intro e L3 L4
          rw [zt_nr_f e] at he
          iterate 2 refine hK _ _ _ _ ?_
          have := ih (i + 1) (by omega) he L3 L4
          rw [← nI_1] at this
          exact this
        iterate 2 refine hK _ _ _ _ ?_
        refine hK _ _ _ _ (And.intro (fun c1 => ?_) (fun c1 => ?_))
        · exact absurd c1 (nI_ge (a := i) (b := 4) (by omega) (by omega))
        · iterate 4 refine hK _ _ _ _ ?_
          refine hK _ _ _ _ (And.intro (rfl) (And.intro (g) ?_))
          iterate 5 refine hK _ _ _ _ ?_
          refine hK _ _ _ _ (And.intro (rfl) (And.intro (g) ?_))
          iterate 4 refine hK _ _ _ _ ?_
          refine hK _ _ _ _ (And.intro (rfl) (And.intro (g) ?_))
          refine hK _ _ _ _ (And.intro (fun c2 => ?_) (fun c2 => ?_))
          · exact hf (by simp only [zt_nB]; rw [show zg_open w h X (zg_on w h X c (nI i)) = false from mz_b0 c2]; rfl) _ _
          · iterate 3 refine hK _ _ _ _ ?_
            refine hK _ _ _ _ (And.intro (rfl) (And.intro (g) ?_))
            iterate 3 refine hK _ _ _ _ ?_
            refine hK _ _ _ _ (And.intro (rfl) (And.intro (g) ?_))
            iterate 2 refine hK _ _ _ _ ?_
            refine hK _ _ _ _ (And.intro (fun c3 => ?_) (fun c3 => ?_))
            · have e : zt_nB w h X c i = true := by
                simp only [zt_nB, Bool.and_eq_true, decide_eq_true_eq]
                exact ⟨mz_b1 c2, c3⟩
              rw [zt_nr_t e] at he
              rw [he] at hq
              refine hK _ _ _ _ ?_
              exact hK _ _ _ _ (And.intro rfl (hq))
            · exact hf (by simp only [zt_nB, Bool.and_eq_false_iff, decide_eq_false_iff_not]; exact Or.inr c3) _ _
    iterate 2 refine hK _ _ _ _ ?_
    exact loop 4 0 (by omega) rfl none none
  · exact hC.elim
theorem len_Tr_cellAtStep (w h : Nat) (lay : List mz_E) (as : List Value) (X : mz_X) (Q : Int32 → mz_X → Prop) (hC : C_Tr_cellAtStep w h lay as X Q) : (mz_l0 as).length ≤ 3 := by
  unfold C_Tr_cellAtStep at hC
  split at hC
  · exact Nat.le_of_ble_eq_true rfl
  · exact hC.elim
theorem ok_Tr_cellAtStep (w h : Nat) (lay : List mz_E) (as : List Value) (X : mz_X) (Q : Int32 → mz_X → Prop) (hC : C_Tr_cellAtStep w h lay as X Q) (K : mz_K) (hK : mz_Cl (I_Tr_cellAtStep w h) (mz_qi lay Q) K) : K 0 (mz_ent 3 as) [] (lay, X) := by
  unfold C_Tr_cellAtStep at hC
  split at hC
  · next k =>
    obtain ⟨rfl, g, hq⟩ := hC
    have hn := mz_geo_n g
    have h32 : zt_at w h X k = -1 → K 32 (mz_ent 3 [.ref 18, .int k]) [] (mz_lay w h, X) := by
      intro e
      rw [e] at hq
      iterate 3 refine hK _ _ _ _ ?_
      refine hK _ _ _ _ (And.intro (fun c9 => ?_) (fun c9 => ?_))
      · refine hK _ _ _ _ ?_
        exact hK _ _ _ _ (And.intro rfl (hq))
      · exact absurd rfl c9
    refine hK _ _ _ _ ?_
    refine hK _ _ _ _ (And.intro (rfl) (And.intro (g) ?_))
    refine hK _ _ _ _ (And.intro (fun c1 => ?_) (fun c1 => ?_))
    · exact h32 (by simp [zt_at, mz_b0 c1])
    · refine hK _ _ _ _ ?_
      refine hK _ _ _ _ (And.intro (fun c2 => ?_) (fun c2 => ?_))
      · exact h32 (by simp [zt_at, c2])
      · iterate 3 refine hK _ _ _ _ ?_
        refine hK _ _ _ _ (And.intro (fun c3 => ?_) (fun c3 => ?_))
        · dsimp only at c3
          exact h32 (by simp [zt_at, c3])
        · dsimp only at c3
          iterate 4 refine hK _ _ _ _ ?_
          refine hK _ _ _ _ (And.intro (fun c4 => ?_) (fun c4 => ?_))
          · exact h32 (by simp [zt_at, c4])
          · iterate 4 refine hK _ _ _ _ ?_
            refine hK _ _ _ _ (And.intro (fun c5 => ?_) (fun c5 => ?_))
            · exact absurd c5 (by decide)
            · iterate 3 refine hK _ _ _ _ ?_
              refine hK _ _ _ _ (And.intro (mz_in c2 c4 (by omega)) ?_)
              refine hK _ _ _ _ ?_
              exact hK _ _ _ _ (And.intro rfl (by simpa [zt_at, mz_b1 c1, c2, c3, c4] using hq))
  · exact hC.elim
theorem len_Tr_find (w h : Nat) (lay : List mz_E) (as : List Value) (X : mz_X) (Q : Int32 → mz_X → Prop) (hC : C_Tr_find w h lay as X Q) : (mz_l0 as).length ≤ 6 := by
  unfold C_Tr_find at hC
  split at hC
  · exact Nat.le_of_ble_eq_true rfl
  · exact hC.elim
theorem ok_Tr_find (w h : Nat) (lay : List mz_E) (as : List Value) (X : mz_X) (Q : Int32 → mz_X → Prop) (hC : C_Tr_find w h lay as X Q) (K : mz_K) (hK : mz_Cl (I_Tr_find w h) (mz_qi lay Q) K) : K 0 (mz_ent 6 as) [] (lay, X) := by
  unfold C_Tr_find at hC
  split at hC
  · next a b =>
    obtain ⟨rfl, g, hq⟩ := hC
    have hn := mz_geo_n g
    have h27 : zt_fB w h X a b = false → K 27 (mz_ent 6 [.ref 18, .int a, .int b]) [] (mz_lay w h, zt_0 X) := by
      intro e
      rw [zt_fi_f e] at hq
      refine hK _ _ _ _ ?_
      exact hK _ _ _ _ (And.intro rfl (hq))
    iterate 5 refine hK _ _ _ _ ?_
    show mz_at (I_Tr_find w h) 6 (mz_qi (mz_lay w h) Q) K (mz_ent 6 [.ref 18, .int a, .int b]) [.ref 18] (mz_lay w h, zt_0 X)
    refine hK _ _ _ _ ?_
    refine hK _ _ _ _ (And.intro (rfl) (And.intro (g) ?_))
    refine hK _ _ _ _ (And.intro (fun c1 => ?_) (fun c1 => ?_))
    · exact h27 (by simp only [zt_fB]; rw [show zg_free w h (zt_0 X) a = false from mz_b0 c1]; rfl)
    · iterate 3 refine hK _ _ _ _ ?_
      refine hK _ _ _ _ (And.intro (rfl) (And.intro (g) ?_))
      refine hK _ _ _ _ (And.intro (fun c2 => ?_) (fun c2 => ?_))
      · exact h27 (by simp only [zt_fB]; rw [show zg_free w h (zt_0 X) b = false from mz_b0 c2]; simp)
      · have e : zt_fB w h X a b = true := by
          simp only [zt_fB, Bool.and_eq_true]
          exact ⟨mz_b1 c1, mz_b1 c2⟩
        have l2 : ∀ (k i : Nat) (Y : mz_X) (x st : Int32), i + k = w * h → Q st (zt_e (zt_p w h Y x st i k) st) → K 60 [some (.ref 18), some (.int a), some (.int b), some (.int st), some (.int x), some (.int (nI i))] [] (mz_lay w h, Y) := by
          have hend : ∀ (Y : mz_X) (x st i : Int32), Q st (zt_e Y st) → K 99 [some (.ref 18), some (.int a), some (.int b), some (.int st), some (.int x), some (.int i)] [] (mz_lay w h, Y) := by
            intro Y x st i hQ
            iterate 6 refine hK _ _ _ _ ?_
            refine hK _ _ _ _ (And.intro (rfl) (And.intro (g) ?_))
            iterate 2 refine hK _ _ _ _ ?_
            exact hK _ _ _ _ (And.intro rfl (hQ))
          intro k
          induction k with
          | zero =>
            intro i Y x st hi hQ
            iterate 2 refine hK _ _ _ _ ?_
            refine hK _ _ _ _ (And.intro (fun c4 => ?_) (fun c4 => ?_))
            · exact hend _ _ _ _ hQ
            · iterate 4 refine hK _ _ _ _ ?_
              refine hK _ _ _ _ (And.intro (fun c5 => ?_) (fun c5 => ?_))
              · exact hend _ _ _ _ hQ
              · exact absurd (nI_le (a := w * h) (b := i) (by omega) (by omega)) c5
          | succ k ih =>
            intro i Y x st hi hQ
            iterate 2 refine hK _ _ _ _ ?_
            refine hK _ _ _ _ (And.intro (fun c4 => ?_) (fun c4 => ?_))
            · dsimp only at c4
              rw [zt_p_f (Int32.not_le.mpr c4)] at hQ
              exact hend _ _ _ _ hQ
            · dsimp only at c4
              rw [zt_p_t (Int32.not_lt.mp c4)] at hQ
              iterate 4 refine hK _ _ _ _ ?_
              refine hK _ _ _ _ (And.intro (fun c5 => ?_) (fun c5 => ?_))
              · exact absurd c5 (nI_ge (by omega) (by omega))
              · iterate 4 refine hK _ _ _ _ ?_
                refine hK _ _ _ _ (And.intro (vp_in_nI (by omega) (by omega)) ?_)
                rw [nI_clamp (by omega)]
                iterate 2 refine hK _ _ _ _ ?_
                refine hK _ _ _ _ (And.intro (rfl) (And.intro (g) ?_))
                iterate 3 refine hK _ _ _ _ ?_
                have := ih (i + 1) _ _ st (by omega) hQ
                rw [← nI_1] at this
                exact this
        iterate 4 refine hK _ _ _ _ ?_
        refine hK _ _ _ _ (And.intro (rfl) (And.intro (g) ?_))
        iterate 3 refine hK _ _ _ _ ?_
        refine hK _ _ _ _ (And.intro (rfl) (And.intro (g) ?_))
        iterate 3 refine hK _ _ _ _ ?_
        show mz_at (I_Tr_find w h) 48 (mz_qi (mz_lay w h) Q) K [some (.ref 18), some (.int a), some (.int b), some (.int (zt_fS w h X a b)), none, none] [.int (zt_fS w h X a b)] (mz_lay w h, zt_1 w h X b)
        by_cases c3 : zt_fS w h X a b = -1
        · rw [zt_fi_tt e c3] at hq
          refine hK _ _ _ _ (And.intro (fun c3 => ?_) (fun c9 => absurd c3 c9))
          refine hK _ _ _ _ ?_
          exact hK _ _ _ _ (And.intro rfl (hq))
        · rw [zt_fi_tf e c3] at hq
          generalize zt_fS w h X a b = st at hq c3 ⊢
          refine hK _ _ _ _ (And.intro (fun c9 => absurd c9 c3) (fun _ => ?_))
          iterate 4 refine hK _ _ _ _ ?_
          exact l2 (w * h) 0 _ _ _ (by omega) hq
  · exact hC.elim
theorem len_Tr_toll (w h : Nat) (lay : List mz_E) (as : List Value) (X : mz_X) (Q : Int64 → mz_X → Prop) (hC : C_Tr_toll w h lay as X Q) : (mz_l0 as).length ≤ 7 := by
  unfold C_Tr_toll at hC
  split at hC
  · exact Nat.le_of_ble_eq_true rfl
  · exact hC.elim
theorem ok_Tr_toll (w h : Nat) (lay : List mz_E) (as : List Value) (X : mz_X) (Q : Int64 → mz_X → Prop) (hC : C_Tr_toll w h lay as X Q) (K : mz_K) (hK : mz_Cl (I_Tr_toll w h) (mz_ql lay Q) K) : K 0 (mz_ent 7 as) [] (lay, X) := by
  unfold C_Tr_toll at hC
  split at hC
  ·
    obtain ⟨rfl, g, hq1, hq2⟩ := hC
    refine hK _ _ _ _ ?_
    refine hK _ _ _ _ (And.intro (rfl) (And.intro (g) ?_))
    refine hK _ _ _ _ (And.intro (fun c1 => ?_) (fun c1 => ?_))
    · refine hK _ _ _ _ ?_
      exact hK _ _ _ _ (And.intro rfl (hq1 (mz_b0 c1)))
    · obtain ⟨q, hq0, hq3, hq⟩ := hq2 (mz_b1 c1)
      have loop : ∀ (k i : Nat), i + k = q → ∀ L4 L5 : Option Value, K 15 [some (.ref 18), some (.long (zt_g w h X i)), none, some (.int (nI i)), L4, L5, none] [] (mz_lay w h, X) := by
        intro k
        induction k with
        | zero =>
          intro i hi L4 L5
          iterate 3 refine hK _ _ _ _ ?_
          refine hK _ _ _ _ (And.intro (fun c2 => ?_) (fun c2 => ?_))
          · refine hK _ _ _ _ ?_
            exact hK _ _ _ _ (And.intro rfl (by rw [show i = q by omega]; exact hq))
          · dsimp only at c2
            rw [hq3] at c2
            exact absurd (nI_le (a := q) (b := i) (by omega) (by omega)) c2
        | succ k ih =>
          intro i hi L4 L5
          have hend : ∀ (v : Int32) (L4 : Option Value), v = (if nI i = 0 then 1 else 2) → K 32 [some (.ref 18), some (.long (zt_g w h X i)), none, some (.int (nI i)), L4, L5, none] [.int v] (mz_lay w h, X) := by
            intro v L4 hv
            iterate 5 refine hK _ _ _ _ ?_
            refine hK _ _ _ _ (And.intro (rfl) (And.intro (g) ?_))
            refine hK _ _ _ _ (And.intro (rfl) (And.intro (g) ?_))
            iterate 15 refine hK _ _ _ _ ?_
            have := ih (i + 1) (by omega) (some (.int v)) (some (.long ((nI (mz_cnt (fun s => zg_open w h X (zg_on w h X (zt_at w h X (nI i)) (nI s))) 4) - v).toInt64)))
            rw [← nI_1, show zt_g w h X (i + 1) = zt_g w h X i + zt_g1 w h X i from rfl, zt_g1, ← hv] at this
            exact this
          iterate 3 refine hK _ _ _ _ ?_
          refine hK _ _ _ _ (And.intro (fun c2 => ?_) (fun c2 => ?_))
          · dsimp only at c2
            rw [hq3] at c2
            exact absurd c2 (nI_ge (by omega) (by omega))
          · refine hK _ _ _ _ ?_
            refine hK _ _ _ _ (And.intro (fun c3 => ?_) (fun c3 => ?_))
            · iterate 2 refine hK _ _ _ _ ?_
              exact hend 1 L4 (by rw [if_pos c3])
            · refine hK _ _ _ _ ?_
              exact hend 2 L4 (by rw [if_neg c3])
      iterate 4 refine hK _ _ _ _ ?_
      exact loop q 0 (by omega) none none
  · exact hC.elim
set_option maxRecDepth 20000 in
theorem snd_Tr_isFound (w h : Nat) (l : Launch) (p : Program) (e : Env) (s : State) (m : MethodId) (args : Array Value) (below : List Frame) (meth : Method) (c : Code) (D : va_G) (ad0 : Nat → Nat) (cA0 : Nat → ClassId) (A : Nat → Prop) (lay : List mz_E) (Q : Int32 → mz_X → Prop) (F : mz_F p s m args meth c prog_8_method_5_code 1 y_Tr_isFound.cls (some .boolean) w_Tr_isFound) (hA : ∀ q, s.heap.size ≤ q → A q) : mz_All (mz_V p l e (mz_rm 1 20) s m args below meth c 1 lay.length (mz_sz lay) D mz_cls (mz_G0 ad0 cA0) A (MQ below (va_Qi Q (mz_B D mz_cls ad0 cA0 lay A) A) args s 0 0 A)) (mz_qi lay Q) (I_Tr_isFound w h) := by
  obtain ⟨hx, hb, hml, hown, hts, hr, hlk⟩ := F
  unfold I_Tr_isFound
  refine mz_All.cons (sd_aload_n hx hb (mz_dg d_Tr_isFound 0 0 (.aload_n 0) 1 rfl) rfl) ?_
  refine mz_All.cons (sd_get (k := 3) hx hb hts (mz_inC in_Tr) hown (T := T_Tr) (N := 5) rfl (by decide) (hts (.fieldLink "MazeForms$Trail" 29 "MazeForms$Trail" "length" "I") (List.mem_cons_of_mem _ wm_261)) (fun _ h => h) (mz_dg d_Tr_isFound 1 1 (.getfield 29) 3 rfl)) ?_
  refine mz_All.cons (sd_iconst hx hb (mz_dg d_Tr_isFound 2 4 (.iconst (-1)) 1 rfl) (by decide)) ?_
  refine mz_All.cons (sd_icmp_eq hx hb (mz_dg d_Tr_isFound 3 5 (.if_icmp .eq (21)) 3 rfl) (by decide)) ?_
  refine mz_All.cons (sd_aload_n hx hb (mz_dg d_Tr_isFound 4 8 (.aload_n 0) 1 rfl) rfl) ?_
  refine mz_All.cons (sd_get (k := 4) hx hb hts (mz_inC in_Tr) hown (T := T_Tr) (N := 5) rfl (by decide) (hts (.fieldLink "MazeForms$Trail" 53 "MazeForms$Trail" "edition" "I") (List.mem_cons_of_mem _ wm_262)) (fun _ h => h) (mz_dg d_Tr_isFound 5 9 (.getfield 53) 3 rfl)) ?_
  refine mz_All.cons (sd_aload_n hx hb (mz_dg d_Tr_isFound 6 12 (.aload_n 0) 1 rfl) rfl) ?_
  refine mz_All.cons (sd_get (k := 0) hx hb hts (mz_inC in_Tr) hown (T := T_Tr) (N := 5) rfl (by decide) (hts (.fieldLink "MazeForms$Trail" 9 "MazeForms$Trail" "grid" "LMazeForms$Grid;") (List.mem_cons_of_mem _ wm_258)) (fun _ h => h) (mz_dg d_Tr_isFound 7 13 (.getfield 9) 3 rfl)) ?_
  refine mz_All.cons (sd_calli (T := T_Gr) ⟨hx, hb, hml, hown, hts⟩ (met_Gr_edition w h l) (cwV 0 hts (mz_gV wm_562 wm_563 wm_564 wm_67 wm_565) rfl rfl rfl (by decide) ⟨by decide, by decide⟩) rfl hA rfl (mz_dg d_Tr_isFound 8 16 (.invokevirtual 50) 3 rfl)) ?_
  refine mz_All.cons (sd_icmp_ne hx hb (mz_dg d_Tr_isFound 9 19 (.if_icmp .ne (7)) 3 rfl) (by decide)) ?_
  refine mz_All.cons (sd_iconst hx hb (mz_dg d_Tr_isFound 10 22 (.iconst (1)) 1 rfl) (by decide)) ?_
  refine mz_All.cons (sd_goto hx hb (mz_dg d_Tr_isFound 11 23 (.goto (4)) 3 rfl) (by decide)) ?_
  refine mz_All.cons (sd_iconst hx hb (mz_dg d_Tr_isFound 12 26 (.iconst (0)) 1 rfl) (by decide)) ?_
  refine mz_All.cons (sd_rz hx hb hr hlk (mz_dg d_Tr_isFound 13 27 (.ireturn) 1 rfl)) ?_
  exact trivial
theorem met_Tr_isFound (w h : Nat) (l : Launch) : mz_MI l y_Tr_isFound w_Tr_isFound 1 20 mz_cls (C_Tr_isFound w h) := mz_MI_of (I_Tr_isFound w h) (by decide) rfl (len_Tr_isFound w h) (ok_Tr_isFound w h) (snd_Tr_isFound w h l)
set_option maxRecDepth 20000 in
theorem snd_Tr_nearerCell (w h : Nat) (l : Launch) (p : Program) (e : Env) (s : State) (m : MethodId) (args : Array Value) (below : List Frame) (meth : Method) (c : Code) (D : va_G) (ad0 : Nat → Nat) (cA0 : Nat → ClassId) (A : Nat → Prop) (lay : List mz_E) (Q : Int32 → mz_X → Prop) (F : mz_F p s m args meth c prog_8_method_6_code 5 y_Tr_nearerCell.cls (some .int) w_Tr_nearerCell) (hA : ∀ q, s.heap.size ≤ q → A q) : mz_All (mz_V p l e (mz_rm 2 44) s m args below meth c 5 lay.length (mz_sz lay) D mz_cls (mz_G0 ad0 cA0) A (MQ below (va_Qi Q (mz_B D mz_cls ad0 cA0 lay A) A) args s 0 0 A)) (mz_qi lay Q) (I_Tr_nearerCell w h) := by
  obtain ⟨hx, hb, hml, hown, hts, hr, hlk⟩ := F
  unfold I_Tr_nearerCell
  refine mz_All.cons (sd_iconst hx hb (mz_dg d_Tr_nearerCell 0 0 (.iconst (0)) 1 rfl) (by decide)) ?_
  refine mz_All.cons (sd_istore_n hx hb (mz_dg d_Tr_nearerCell 1 1 (.istore_n 2) 1 rfl) rfl (by decide)) ?_
  refine mz_All.cons (sd_iload_n hx hb (mz_dg d_Tr_nearerCell 2 2 (.iload_n 2) 1 rfl) rfl) ?_
  refine mz_All.cons (sd_iconst hx hb (mz_dg d_Tr_nearerCell 3 3 (.iconst (4)) 1 rfl) (by decide)) ?_
  refine mz_All.cons (sd_icmp_ge hx hb (mz_dg d_Tr_nearerCell 4 4 (.if_icmp .ge (66)) 3 rfl) (by decide)) ?_
  refine mz_All.cons (sd_aload_n hx hb (mz_dg d_Tr_nearerCell 5 7 (.aload_n 0) 1 rfl) rfl) ?_
  refine mz_All.cons (sd_get (k := 0) hx hb hts (mz_inC in_Tr) hown (T := T_Tr) (N := 5) rfl (by decide) (hts (.fieldLink "MazeForms$Trail" 9 "MazeForms$Trail" "grid" "LMazeForms$Grid;") (List.mem_cons_of_mem _ wm_258)) (fun _ h => h) (mz_dg d_Tr_nearerCell 6 8 (.getfield 9) 3 rfl)) ?_
  refine mz_All.cons (sd_iload_n hx hb (mz_dg d_Tr_nearerCell 7 11 (.iload_n 1) 1 rfl) rfl) ?_
  refine mz_All.cons (sd_iload_n hx hb (mz_dg d_Tr_nearerCell 8 12 (.iload_n 2) 1 rfl) rfl) ?_
  refine mz_All.cons (sd_calli (T := T_Gr) ⟨hx, hb, hml, hown, hts⟩ (met_Gr_doorOn w h l) (cwV 2 hts (mz_gV wm_559 wm_372 wm_373 wm_67 wm_374) rfl rfl rfl (by decide) ⟨by decide, by decide⟩) rfl hA rfl (mz_dg d_Tr_nearerCell 9 13 (.invokevirtual 67) 3 rfl)) ?_
  refine mz_All.cons (sd_istore_n hx hb (mz_dg d_Tr_nearerCell 10 16 (.istore_n 3) 1 rfl) rfl (by decide)) ?_
  refine mz_All.cons (sd_aload_n hx hb (mz_dg d_Tr_nearerCell 11 17 (.aload_n 0) 1 rfl) rfl) ?_
  refine mz_All.cons (sd_get (k := 0) hx hb hts (mz_inC in_Tr) hown (T := T_Tr) (N := 5) rfl (by decide) (hts (.fieldLink "MazeForms$Trail" 9 "MazeForms$Trail" "grid" "LMazeForms$Grid;") (List.mem_cons_of_mem _ wm_258)) (fun _ h => h) (mz_dg d_Tr_nearerCell 12 18 (.getfield 9) 3 rfl)) ?_
  refine mz_All.cons (sd_iload_n hx hb (mz_dg d_Tr_nearerCell 13 21 (.iload_n 3) 1 rfl) rfl) ?_
  refine mz_All.cons (sd_iload_n hx hb (mz_dg d_Tr_nearerCell 14 22 (.iload_n 1) 1 rfl) rfl) ?_
  refine mz_All.cons (sd_calli (T := T_Gr) ⟨hx, hb, hml, hown, hts⟩ (met_Gr_otherCell w h l) (cwV 2 hts (mz_gV wm_560 wm_376 wm_377 wm_67 wm_378) rfl rfl rfl (by decide) ⟨by decide, by decide⟩) rfl hA rfl (mz_dg d_Tr_nearerCell 15 23 (.invokevirtual 71) 3 rfl)) ?_
  refine mz_All.cons (sd_istore hx hb (mz_dg d_Tr_nearerCell 16 26 (.istore 4) 2 rfl) (by decide)) ?_
  refine mz_All.cons (sd_aload_n hx hb (mz_dg d_Tr_nearerCell 17 28 (.aload_n 0) 1 rfl) rfl) ?_
  refine mz_All.cons (sd_get (k := 0) hx hb hts (mz_inC in_Tr) hown (T := T_Tr) (N := 5) rfl (by decide) (hts (.fieldLink "MazeForms$Trail" 9 "MazeForms$Trail" "grid" "LMazeForms$Grid;") (List.mem_cons_of_mem _ wm_258)) (fun _ h => h) (mz_dg d_Tr_nearerCell 18 29 (.getfield 9) 3 rfl)) ?_
  refine mz_All.cons (sd_iload_n hx hb (mz_dg d_Tr_nearerCell 19 32 (.iload_n 3) 1 rfl) rfl) ?_
  refine mz_All.cons (sd_calli (T := T_Gr) ⟨hx, hb, hml, hown, hts⟩ (met_Gr_isOpen w h l) (cwV 1 hts (mz_gV wm_561 wm_497 wm_498 wm_67 wm_499) rfl rfl rfl (by decide) ⟨by decide, by decide⟩) rfl hA rfl (mz_dg d_Tr_nearerCell 20 33 (.invokevirtual 74) 3 rfl)) ?_
  refine mz_All.cons (sd_if_eq hx hb (mz_dg d_Tr_nearerCell 21 36 (.ifCond .eq (28)) 3 rfl) (by decide)) ?_
  refine mz_All.cons (sd_aload_n hx hb (mz_dg d_Tr_nearerCell 22 39 (.aload_n 0) 1 rfl) rfl) ?_
  refine mz_All.cons (sd_get (k := 1) hx hb hts (mz_inC in_Tr) hown (T := T_Tr) (N := 5) rfl (by decide) (hts (.fieldLink "MazeForms$Trail" 15 "MazeForms$Trail" "flood" "LMazeForms$Flood;") (List.mem_cons_of_mem _ wm_259)) (fun _ h => h) (mz_dg d_Tr_nearerCell 23 40 (.getfield 15) 3 rfl)) ?_
  refine mz_All.cons (sd_iload hx hb (mz_dg d_Tr_nearerCell 24 43 (.iload 4) 2 rfl)) ?_
  refine mz_All.cons (sd_calli (T := T_Fl) ⟨hx, hb, hml, hown, hts⟩ (met_Fl_stepsTo w h l) (cwV 1 hts (mz_gV wm_554 wm_492 wm_493 wm_71 wm_494) rfl rfl rfl (by decide) ⟨by decide, by decide⟩) rfl hA rfl (mz_dg d_Tr_nearerCell 25 45 (.invokevirtual 43) 3 rfl)) ?_
  refine mz_All.cons (sd_aload_n hx hb (mz_dg d_Tr_nearerCell 26 48 (.aload_n 0) 1 rfl) rfl) ?_
  refine mz_All.cons (sd_get (k := 1) hx hb hts (mz_inC in_Tr) hown (T := T_Tr) (N := 5) rfl (by decide) (hts (.fieldLink "MazeForms$Trail" 15 "MazeForms$Trail" "flood" "LMazeForms$Flood;") (List.mem_cons_of_mem _ wm_259)) (fun _ h => h) (mz_dg d_Tr_nearerCell 27 49 (.getfield 15) 3 rfl)) ?_
  refine mz_All.cons (sd_iload_n hx hb (mz_dg d_Tr_nearerCell 28 52 (.iload_n 1) 1 rfl) rfl) ?_
  refine mz_All.cons (sd_calli (T := T_Fl) ⟨hx, hb, hml, hown, hts⟩ (met_Fl_stepsTo w h l) (cwV 1 hts (mz_gV wm_554 wm_492 wm_493 wm_71 wm_494) rfl rfl rfl (by decide) ⟨by decide, by decide⟩) rfl hA rfl (mz_dg d_Tr_nearerCell 29 53 (.invokevirtual 43) 3 rfl)) ?_
  refine mz_All.cons (sd_iconst hx hb (mz_dg d_Tr_nearerCell 30 56 (.iconst (1)) 1 rfl) (by decide)) ?_
  refine mz_All.cons (sd_isub hx hb (mz_dg d_Tr_nearerCell 31 57 (.isub) 1 rfl)) ?_
  refine mz_All.cons (sd_icmp_ne hx hb (mz_dg d_Tr_nearerCell 32 58 (.if_icmp .ne (6)) 3 rfl) (by decide)) ?_
  refine mz_All.cons (sd_iload hx hb (mz_dg d_Tr_nearerCell 33 61 (.iload 4) 2 rfl)) ?_
  refine mz_All.cons (sd_ri hx hb hr hlk (mz_dg d_Tr_nearerCell 34 63 (.ireturn) 1 rfl)) ?_
  refine mz_All.cons (sd_iinc hx hb (mz_dg d_Tr_nearerCell 35 64 (.iinc 2 (1)) 3 rfl) (by decide) (by decide)) ?_
  refine mz_All.cons (sd_goto hx hb (mz_dg d_Tr_nearerCell 36 67 (.goto (-65)) 3 rfl) (by decide)) ?_
  refine mz_All.cons (sd_iconst hx hb (mz_dg d_Tr_nearerCell 37 70 (.iconst (-1)) 1 rfl) (by decide)) ?_
  refine mz_All.cons (sd_ri hx hb hr hlk (mz_dg d_Tr_nearerCell 38 71 (.ireturn) 1 rfl)) ?_
  exact trivial
theorem met_Tr_nearerCell (w h : Nat) (l : Launch) : mz_MI l y_Tr_nearerCell w_Tr_nearerCell 2 44 mz_cls (C_Tr_nearerCell w h) := mz_MI_of (I_Tr_nearerCell w h) (by decide) rfl (len_Tr_nearerCell w h) (ok_Tr_nearerCell w h) (snd_Tr_nearerCell w h l)
set_option maxRecDepth 20000 in
theorem snd_Tr_cellAtStep (w h : Nat) (l : Launch) (p : Program) (e : Env) (s : State) (m : MethodId) (args : Array Value) (below : List Frame) (meth : Method) (c : Code) (D : va_G) (ad0 : Nat → Nat) (cA0 : Nat → ClassId) (A : Nat → Prop) (lay : List mz_E) (Q : Int32 → mz_X → Prop) (F : mz_F p s m args meth c prog_8_method_3_code 3 y_Tr_cellAtStep.cls (some .int) w_Tr_cellAtStep) (hA : ∀ q, s.heap.size ≤ q → A q) : mz_All (mz_V p l e (mz_rm 2 40) s m args below meth c 3 lay.length (mz_sz lay) D mz_cls (mz_G0 ad0 cA0) A (MQ below (va_Qi Q (mz_B D mz_cls ad0 cA0 lay A) A) args s 0 0 A)) (mz_qi lay Q) (I_Tr_cellAtStep w h) := by
  obtain ⟨hx, hb, hml, hown, hts, hr, hlk⟩ := F
  unfold I_Tr_cellAtStep
  refine mz_All.cons (sd_aload_n hx hb (mz_dg d_Tr_cellAtStep 0 0 (.aload_n 0) 1 rfl) rfl) ?_
  refine mz_All.cons (sd_calli (T := T_Tr) ⟨hx, hb, hml, hown, hts⟩ (met_Tr_isFound w h l) (cwV 0 hts (mz_gV wm_574 wm_576 wm_23 wm_75 wm_577) rfl rfl rfl (by decide) ⟨by decide, by decide⟩) rfl hA rfl (mz_dg d_Tr_cellAtStep 1 1 (.invokevirtual 55) 3 rfl)) ?_
  refine mz_All.cons (sd_if_eq hx hb (mz_dg d_Tr_cellAtStep 2 4 (.ifCond .eq (28)) 3 rfl) (by decide)) ?_
  refine mz_All.cons (sd_iload_n hx hb (mz_dg d_Tr_cellAtStep 3 7 (.iload_n 1) 1 rfl) rfl) ?_
  refine mz_All.cons (sd_if_lt hx hb (mz_dg d_Tr_cellAtStep 4 8 (.ifCond .lt (24)) 3 rfl) (by decide)) ?_
  refine mz_All.cons (sd_iload_n hx hb (mz_dg d_Tr_cellAtStep 5 11 (.iload_n 1) 1 rfl) rfl) ?_
  refine mz_All.cons (sd_aload_n hx hb (mz_dg d_Tr_cellAtStep 6 12 (.aload_n 0) 1 rfl) rfl) ?_
  refine mz_All.cons (sd_get (k := 3) hx hb hts (mz_inC in_Tr) hown (T := T_Tr) (N := 5) rfl (by decide) (hts (.fieldLink "MazeForms$Trail" 29 "MazeForms$Trail" "length" "I") (List.mem_cons_of_mem _ wm_261)) (fun _ h => h) (mz_dg d_Tr_cellAtStep 7 13 (.getfield 29) 3 rfl)) ?_
  refine mz_All.cons (sd_icmp_gt hx hb (mz_dg d_Tr_cellAtStep 8 16 (.if_icmp .gt (16)) 3 rfl) (by decide)) ?_
  refine mz_All.cons (sd_iload_n hx hb (mz_dg d_Tr_cellAtStep 9 19 (.iload_n 1) 1 rfl) rfl) ?_
  refine mz_All.cons (sd_aload_n hx hb (mz_dg d_Tr_cellAtStep 10 20 (.aload_n 0) 1 rfl) rfl) ?_
  refine mz_All.cons (sd_get (k := 2) hx hb hts (mz_inC in_Tr) hown (T := T_Tr) (N := 5) rfl (by decide) (hts (.fieldLink "MazeForms$Trail" 25 "MazeForms$Trail" "cells" "[I") (List.mem_cons_of_mem _ wm_260)) (fun _ h => h) (mz_dg d_Tr_cellAtStep 11 21 (.getfield 25) 3 rfl)) ?_
  refine mz_All.cons (sd_alen hx hb (mz_dg d_Tr_cellAtStep 12 24 (.arraylength) 1 rfl)) ?_
  refine mz_All.cons (sd_icmp_ge hx hb (mz_dg d_Tr_cellAtStep 13 25 (.if_icmp .ge (7)) 3 rfl) (by decide)) ?_
  refine mz_All.cons (sd_iconst hx hb (mz_dg d_Tr_cellAtStep 14 28 (.iconst (1)) 1 rfl) (by decide)) ?_
  refine mz_All.cons (sd_goto hx hb (mz_dg d_Tr_cellAtStep 15 29 (.goto (4)) 3 rfl) (by decide)) ?_
  refine mz_All.cons (sd_iconst hx hb (mz_dg d_Tr_cellAtStep 16 32 (.iconst (0)) 1 rfl) (by decide)) ?_
  refine mz_All.cons (sd_istore_n hx hb (mz_dg d_Tr_cellAtStep 17 33 (.istore_n 2) 1 rfl) rfl (by decide)) ?_
  refine mz_All.cons (sd_iload_n hx hb (mz_dg d_Tr_cellAtStep 18 34 (.iload_n 2) 1 rfl) rfl) ?_
  refine mz_All.cons (sd_if_eq hx hb (mz_dg d_Tr_cellAtStep 19 35 (.ifCond .eq (12)) 3 rfl) (by decide)) ?_
  refine mz_All.cons (sd_aload_n hx hb (mz_dg d_Tr_cellAtStep 20 38 (.aload_n 0) 1 rfl) rfl) ?_
  refine mz_All.cons (sd_get (k := 2) hx hb hts (mz_inC in_Tr) hown (T := T_Tr) (N := 5) rfl (by decide) (hts (.fieldLink "MazeForms$Trail" 25 "MazeForms$Trail" "cells" "[I") (List.mem_cons_of_mem _ wm_260)) (fun _ h => h) (mz_dg d_Tr_cellAtStep 21 39 (.getfield 25) 3 rfl)) ?_
  refine mz_All.cons (sd_iload_n hx hb (mz_dg d_Tr_cellAtStep 22 42 (.iload_n 1) 1 rfl) rfl) ?_
  refine mz_All.cons (sd_iald hx hb (mz_dg d_Tr_cellAtStep 23 43 (.iaload) 1 rfl)) ?_
  refine mz_All.cons (sd_goto hx hb (mz_dg d_Tr_cellAtStep 24 44 (.goto (4)) 3 rfl) (by decide)) ?_
  refine mz_All.cons (sd_iconst hx hb (mz_dg d_Tr_cellAtStep 25 47 (.iconst (-1)) 1 rfl) (by decide)) ?_
  refine mz_All.cons (sd_ri hx hb hr hlk (mz_dg d_Tr_cellAtStep 26 48 (.ireturn) 1 rfl)) ?_
  exact trivial
theorem met_Tr_cellAtStep (w h : Nat) (l : Launch) : mz_MI l y_Tr_cellAtStep w_Tr_cellAtStep 2 40 mz_cls (C_Tr_cellAtStep w h) := mz_MI_of (I_Tr_cellAtStep w h) (by decide) rfl (len_Tr_cellAtStep w h) (ok_Tr_cellAtStep w h) (snd_Tr_cellAtStep w h l)
set_option maxRecDepth 20000 in
theorem snd_Tr_find (w h : Nat) (l : Launch) (p : Program) (e : Env) (s : State) (m : MethodId) (args : Array Value) (below : List Frame) (meth : Method) (c : Code) (D : va_G) (ad0 : Nat → Nat) (cA0 : Nat → ClassId) (A : Nat → Prop) (lay : List mz_E) (Q : Int32 → mz_X → Prop) (F : mz_F p s m args meth c prog_8_method_2_code 6 y_Tr_find.cls (some .int) w_Tr_find) (hA : ∀ q, s.heap.size ≤ q → A q) : mz_All (mz_V p l e (mz_rm 4 92) s m args below meth c 6 lay.length (mz_sz lay) D mz_cls (mz_G0 ad0 cA0) A (MQ below (va_Qi Q (mz_B D mz_cls ad0 cA0 lay A) A) args s 0 0 A)) (mz_qi lay Q) (I_Tr_find w h) := by
  obtain ⟨hx, hb, hml, hown, hts, hr, hlk⟩ := F
  unfold I_Tr_find
  refine mz_All.cons (sd_aload_n hx hb (mz_dg d_Tr_find 0 0 (.aload_n 0) 1 rfl) rfl) ?_
  refine mz_All.cons (sd_iconst hx hb (mz_dg d_Tr_find 1 1 (.iconst (-1)) 1 rfl) (by decide)) ?_
  refine mz_All.cons (sd_puti (k := 3) hx hb hts (mz_inC in_Tr) ty_Tr ty_Tr_ok nm_Tr hown (T := T_Tr) (N := 5) rfl (by decide) (hts (.fieldLink "MazeForms$Trail" 29 "MazeForms$Trail" "length" "I") (List.mem_cons_of_mem _ wm_261)) (fun _ h => h) rfl rfl (mz_dg d_Tr_find 2 2 (.putfield 29) 3 rfl)) ?_
  refine mz_All.cons (sd_aload_n hx hb (mz_dg d_Tr_find 3 5 (.aload_n 0) 1 rfl) rfl) ?_
  refine mz_All.cons (sd_get (k := 0) hx hb hts (mz_inC in_Tr) hown (T := T_Tr) (N := 5) rfl (by decide) (hts (.fieldLink "MazeForms$Trail" 9 "MazeForms$Trail" "grid" "LMazeForms$Grid;") (List.mem_cons_of_mem _ wm_258)) (fun _ h => h) (mz_dg d_Tr_find 4 6 (.getfield 9) 3 rfl)) ?_
  refine mz_All.cons (sd_iload_n hx hb (mz_dg d_Tr_find 5 9 (.iload_n 1) 1 rfl) rfl) ?_
  refine mz_All.cons (sd_calli (T := T_Gr) ⟨hx, hb, hml, hown, hts⟩ (met_Gr_isFree w h l) (cwV 1 hts (mz_gV wm_552 wm_117 wm_118 wm_67 wm_119) rfl rfl rfl (by decide) ⟨by decide, by decide⟩) rfl hA rfl (mz_dg d_Tr_find 6 10 (.invokevirtual 33) 3 rfl)) ?_
  refine mz_All.cons (sd_if_eq hx hb (mz_dg d_Tr_find 7 13 (.ifCond .eq (14)) 3 rfl) (by decide)) ?_
  refine mz_All.cons (sd_aload_n hx hb (mz_dg d_Tr_find 8 16 (.aload_n 0) 1 rfl) rfl) ?_
  refine mz_All.cons (sd_get (k := 0) hx hb hts (mz_inC in_Tr) hown (T := T_Tr) (N := 5) rfl (by decide) (hts (.fieldLink "MazeForms$Trail" 9 "MazeForms$Trail" "grid" "LMazeForms$Grid;") (List.mem_cons_of_mem _ wm_258)) (fun _ h => h) (mz_dg d_Tr_find 9 17 (.getfield 9) 3 rfl)) ?_
  refine mz_All.cons (sd_iload_n hx hb (mz_dg d_Tr_find 10 20 (.iload_n 2) 1 rfl) rfl) ?_
  refine mz_All.cons (sd_calli (T := T_Gr) ⟨hx, hb, hml, hown, hts⟩ (met_Gr_isFree w h l) (cwV 1 hts (mz_gV wm_552 wm_117 wm_118 wm_67 wm_119) rfl rfl rfl (by decide) ⟨by decide, by decide⟩) rfl hA rfl (mz_dg d_Tr_find 11 21 (.invokevirtual 33) 3 rfl)) ?_
  refine mz_All.cons (sd_if_ne hx hb (mz_dg d_Tr_find 12 24 (.ifCond .ne (5)) 3 rfl) (by decide)) ?_
  refine mz_All.cons (sd_iconst hx hb (mz_dg d_Tr_find 13 27 (.iconst (-1)) 1 rfl) (by decide)) ?_
  refine mz_All.cons (sd_ri hx hb hr hlk (mz_dg d_Tr_find 14 28 (.ireturn) 1 rfl)) ?_
  refine mz_All.cons (sd_aload_n hx hb (mz_dg d_Tr_find 15 29 (.aload_n 0) 1 rfl) rfl) ?_
  refine mz_All.cons (sd_get (k := 1) hx hb hts (mz_inC in_Tr) hown (T := T_Tr) (N := 5) rfl (by decide) (hts (.fieldLink "MazeForms$Trail" 15 "MazeForms$Trail" "flood" "LMazeForms$Flood;") (List.mem_cons_of_mem _ wm_259)) (fun _ h => h) (mz_dg d_Tr_find 16 30 (.getfield 15) 3 rfl)) ?_
  refine mz_All.cons (sd_iload_n hx hb (mz_dg d_Tr_find 17 33 (.iload_n 2) 1 rfl) rfl) ?_
  refine mz_All.cons (sd_iconst hx hb (mz_dg d_Tr_find 18 34 (.iconst (0)) 1 rfl) (by decide)) ?_
  refine mz_All.cons (sd_callv (T := T_Fl) ⟨hx, hb, hml, hown, hts⟩ (met_Fl_spread w h l) (cwV 2 hts (mz_gV wm_553 wm_478 wm_479 wm_71 wm_480) rfl rfl rfl (by decide) ⟨by decide, by decide⟩) rfl hA rfl (mz_dg d_Tr_find 19 35 (.invokevirtual 37) 3 rfl)) ?_
  refine mz_All.cons (sd_aload_n hx hb (mz_dg d_Tr_find 20 38 (.aload_n 0) 1 rfl) rfl) ?_
  refine mz_All.cons (sd_get (k := 1) hx hb hts (mz_inC in_Tr) hown (T := T_Tr) (N := 5) rfl (by decide) (hts (.fieldLink "MazeForms$Trail" 15 "MazeForms$Trail" "flood" "LMazeForms$Flood;") (List.mem_cons_of_mem _ wm_259)) (fun _ h => h) (mz_dg d_Tr_find 21 39 (.getfield 15) 3 rfl)) ?_
  refine mz_All.cons (sd_iload_n hx hb (mz_dg d_Tr_find 22 42 (.iload_n 1) 1 rfl) rfl) ?_
  refine mz_All.cons (sd_calli (T := T_Fl) ⟨hx, hb, hml, hown, hts⟩ (met_Fl_stepsTo w h l) (cwV 1 hts (mz_gV wm_554 wm_492 wm_493 wm_71 wm_494) rfl rfl rfl (by decide) ⟨by decide, by decide⟩) rfl hA rfl (mz_dg d_Tr_find 23 43 (.invokevirtual 43) 3 rfl)) ?_
  refine mz_All.cons (sd_istore_n hx hb (mz_dg d_Tr_find 24 46 (.istore_n 3) 1 rfl) rfl (by decide)) ?_
  refine mz_All.cons (sd_iload_n hx hb (mz_dg d_Tr_find 25 47 (.iload_n 3) 1 rfl) rfl) ?_
  refine mz_All.cons (sd_iconst hx hb (mz_dg d_Tr_find 26 48 (.iconst (-1)) 1 rfl) (by decide)) ?_
  refine mz_All.cons (sd_icmp_ne hx hb (mz_dg d_Tr_find 27 49 (.if_icmp .ne (5)) 3 rfl) (by decide)) ?_
  refine mz_All.cons (sd_iconst hx hb (mz_dg d_Tr_find 28 52 (.iconst (-1)) 1 rfl) (by decide)) ?_
  refine mz_All.cons (sd_ri hx hb hr hlk (mz_dg d_Tr_find 29 53 (.ireturn) 1 rfl)) ?_
  refine mz_All.cons (sd_iload_n hx hb (mz_dg d_Tr_find 30 54 (.iload_n 1) 1 rfl) rfl) ?_
  refine mz_All.cons (sd_istore hx hb (mz_dg d_Tr_find 31 55 (.istore 4) 2 rfl) (by decide)) ?_
  refine mz_All.cons (sd_iconst hx hb (mz_dg d_Tr_find 32 57 (.iconst (0)) 1 rfl) (by decide)) ?_
  refine mz_All.cons (sd_istore hx hb (mz_dg d_Tr_find 33 58 (.istore 5) 2 rfl) (by decide)) ?_
  refine mz_All.cons (sd_iload hx hb (mz_dg d_Tr_find 34 60 (.iload 5) 2 rfl)) ?_
  refine mz_All.cons (sd_iload_n hx hb (mz_dg d_Tr_find 35 62 (.iload_n 3) 1 rfl) rfl) ?_
  refine mz_All.cons (sd_icmp_gt hx hb (mz_dg d_Tr_find 36 63 (.if_icmp .gt (36)) 3 rfl) (by decide)) ?_
  refine mz_All.cons (sd_iload hx hb (mz_dg d_Tr_find 37 66 (.iload 5) 2 rfl)) ?_
  refine mz_All.cons (sd_aload_n hx hb (mz_dg d_Tr_find 38 68 (.aload_n 0) 1 rfl) rfl) ?_
  refine mz_All.cons (sd_get (k := 2) hx hb hts (mz_inC in_Tr) hown (T := T_Tr) (N := 5) rfl (by decide) (hts (.fieldLink "MazeForms$Trail" 25 "MazeForms$Trail" "cells" "[I") (List.mem_cons_of_mem _ wm_260)) (fun _ h => h) (mz_dg d_Tr_find 39 69 (.getfield 25) 3 rfl)) ?_
  refine mz_All.cons (sd_alen hx hb (mz_dg d_Tr_find 40 72 (.arraylength) 1 rfl)) ?_
  refine mz_All.cons (sd_icmp_ge hx hb (mz_dg d_Tr_find 41 73 (.if_icmp .ge (26)) 3 rfl) (by decide)) ?_
  refine mz_All.cons (sd_aload_n hx hb (mz_dg d_Tr_find 42 76 (.aload_n 0) 1 rfl) rfl) ?_
  refine mz_All.cons (sd_get (k := 2) hx hb hts (mz_inC in_Tr) hown (T := T_Tr) (N := 5) rfl (by decide) (hts (.fieldLink "MazeForms$Trail" 25 "MazeForms$Trail" "cells" "[I") (List.mem_cons_of_mem _ wm_260)) (fun _ h => h) (mz_dg d_Tr_find 43 77 (.getfield 25) 3 rfl)) ?_
  refine mz_All.cons (sd_iload hx hb (mz_dg d_Tr_find 44 80 (.iload 5) 2 rfl)) ?_
  refine mz_All.cons (sd_iload hx hb (mz_dg d_Tr_find 45 82 (.iload 4) 2 rfl)) ?_
  refine mz_All.cons (sd_iast hx hb (mz_dg d_Tr_find 46 84 (.iastore) 1 rfl)) ?_
  refine mz_All.cons (sd_aload_n hx hb (mz_dg d_Tr_find 47 85 (.aload_n 0) 1 rfl) rfl) ?_
  refine mz_All.cons (sd_iload hx hb (mz_dg d_Tr_find 48 86 (.iload 4) 2 rfl)) ?_
  refine mz_All.cons (sd_calli (T := T_Tr) ⟨hx, hb, hml, hown, hts⟩ (met_Tr_nearerCell w h l) (cwV 1 hts (mz_gV wm_555 wm_557 wm_22 wm_75 wm_558) rfl rfl rfl (by decide) ⟨by decide, by decide⟩) rfl hA rfl (mz_dg d_Tr_find 49 88 (.invokevirtual 47) 3 rfl)) ?_
  refine mz_All.cons (sd_istore hx hb (mz_dg d_Tr_find 50 91 (.istore 4) 2 rfl) (by decide)) ?_
  refine mz_All.cons (sd_iinc hx hb (mz_dg d_Tr_find 51 93 (.iinc 5 (1)) 3 rfl) (by decide) (by decide)) ?_
  refine mz_All.cons (sd_goto hx hb (mz_dg d_Tr_find 52 96 (.goto (-36)) 3 rfl) (by decide)) ?_
  refine mz_All.cons (sd_aload_n hx hb (mz_dg d_Tr_find 53 99 (.aload_n 0) 1 rfl) rfl) ?_
  refine mz_All.cons (sd_iload_n hx hb (mz_dg d_Tr_find 54 100 (.iload_n 3) 1 rfl) rfl) ?_
  refine mz_All.cons (sd_puti (k := 3) hx hb hts (mz_inC in_Tr) ty_Tr ty_Tr_ok nm_Tr hown (T := T_Tr) (N := 5) rfl (by decide) (hts (.fieldLink "MazeForms$Trail" 29 "MazeForms$Trail" "length" "I") (List.mem_cons_of_mem _ wm_261)) (fun _ h => h) rfl rfl (mz_dg d_Tr_find 55 101 (.putfield 29) 3 rfl)) ?_
  refine mz_All.cons (sd_aload_n hx hb (mz_dg d_Tr_find 56 104 (.aload_n 0) 1 rfl) rfl) ?_
  refine mz_All.cons (sd_aload_n hx hb (mz_dg d_Tr_find 57 105 (.aload_n 0) 1 rfl) rfl) ?_
  refine mz_All.cons (sd_get (k := 0) hx hb hts (mz_inC in_Tr) hown (T := T_Tr) (N := 5) rfl (by decide) (hts (.fieldLink "MazeForms$Trail" 9 "MazeForms$Trail" "grid" "LMazeForms$Grid;") (List.mem_cons_of_mem _ wm_258)) (fun _ h => h) (mz_dg d_Tr_find 58 106 (.getfield 9) 3 rfl)) ?_
  refine mz_All.cons (sd_calli (T := T_Gr) ⟨hx, hb, hml, hown, hts⟩ (met_Gr_edition w h l) (cwV 0 hts (mz_gV wm_562 wm_563 wm_564 wm_67 wm_565) rfl rfl rfl (by decide) ⟨by decide, by decide⟩) rfl hA rfl (mz_dg d_Tr_find 59 109 (.invokevirtual 50) 3 rfl)) ?_
  refine mz_All.cons (sd_puti (k := 4) hx hb hts (mz_inC in_Tr) ty_Tr ty_Tr_ok nm_Tr hown (T := T_Tr) (N := 5) rfl (by decide) (hts (.fieldLink "MazeForms$Trail" 53 "MazeForms$Trail" "edition" "I") (List.mem_cons_of_mem _ wm_262)) (fun _ h => h) rfl rfl (mz_dg d_Tr_find 60 112 (.putfield 53) 3 rfl)) ?_
  refine mz_All.cons (sd_iload_n hx hb (mz_dg d_Tr_find 61 115 (.iload_n 3) 1 rfl) rfl) ?_
  refine mz_All.cons (sd_ri hx hb hr hlk (mz_dg d_Tr_find 62 116 (.ireturn) 1 rfl)) ?_
  exact trivial
theorem met_Tr_find (w h : Nat) (l : Launch) : mz_MI l y_Tr_find w_Tr_find 4 92 mz_cls (C_Tr_find w h) := mz_MI_of (I_Tr_find w h) (by decide) rfl (len_Tr_find w h) (ok_Tr_find w h) (snd_Tr_find w h l)
set_option maxRecDepth 20000 in
theorem snd_Tr_toll (w h : Nat) (l : Launch) (p : Program) (e : Env) (s : State) (m : MethodId) (args : Array Value) (below : List Frame) (meth : Method) (c : Code) (D : va_G) (ad0 : Nat → Nat) (cA0 : Nat → ClassId) (A : Nat → Prop) (lay : List mz_E) (Q : Int64 → mz_X → Prop) (F : mz_F p s m args meth c prog_8_method_4_code 7 y_Tr_toll.cls (some .long) w_Tr_toll) (hA : ∀ q, s.heap.size ≤ q → A q) : mz_All (mz_V p l e (mz_rm 3 67) s m args below meth c 7 lay.length (mz_sz lay) D mz_cls (mz_G0 ad0 cA0) A (MQ below (va_Ql Q (mz_B D mz_cls ad0 cA0 lay A) A) args s 0 0 A)) (mz_ql lay Q) (I_Tr_toll w h) := by
  obtain ⟨hx, hb, hml, hown, hts, hr, hlk⟩ := F
  unfold I_Tr_toll
  refine mz_All.cons (sd_aload_n hx hb (mz_dg d_Tr_toll 0 0 (.aload_n 0) 1 rfl) rfl) ?_
  refine mz_All.cons (sd_calli (T := T_Tr) ⟨hx, hb, hml, hown, hts⟩ (met_Tr_isFound w h l) (cwV 0 hts (mz_gV wm_574 wm_576 wm_23 wm_75 wm_577) rfl rfl rfl (by decide) ⟨by decide, by decide⟩) rfl hA rfl (mz_dg d_Tr_toll 1 1 (.invokevirtual 55) 3 rfl)) ?_
  refine mz_All.cons (sd_if_ne hx hb (mz_dg d_Tr_toll 2 4 (.ifCond .ne (7)) 3 rfl) (by decide)) ?_
  refine mz_All.cons (sd_ldc2 hx hb hown (hts _ (List.mem_cons_of_mem _ wm_622)) (mz_dg d_Tr_toll 3 7 (.ldc2_w 59) 3 rfl)) ?_
  refine mz_All.cons (sd_rl hx hb hr hlk (mz_dg d_Tr_toll 4 10 (.lreturn) 1 rfl)) ?_
  refine mz_All.cons (sd_lconst hx hb (mz_dg d_Tr_toll 5 11 (.lconst 0) 1 rfl) (by decide)) ?_
  refine mz_All.cons (sd_lstore_n hx hb (mz_dg d_Tr_toll 6 12 (.lstore_n 1) 1 rfl) rfl (by decide)) ?_
  refine mz_All.cons (sd_iconst hx hb (mz_dg d_Tr_toll 7 13 (.iconst (0)) 1 rfl) (by decide)) ?_
  refine mz_All.cons (sd_istore_n hx hb (mz_dg d_Tr_toll 8 14 (.istore_n 3) 1 rfl) rfl (by decide)) ?_
  refine mz_All.cons (sd_iload_n hx hb (mz_dg d_Tr_toll 9 15 (.iload_n 3) 1 rfl) rfl) ?_
  refine mz_All.cons (sd_aload_n hx hb (mz_dg d_Tr_toll 10 16 (.aload_n 0) 1 rfl) rfl) ?_
  refine mz_All.cons (sd_get (k := 3) hx hb hts (mz_inC in_Tr) hown (T := T_Tr) (N := 5) rfl (by decide) (hts (.fieldLink "MazeForms$Trail" 29 "MazeForms$Trail" "length" "I") (List.mem_cons_of_mem _ wm_261)) (fun _ h => h) (mz_dg d_Tr_toll 11 17 (.getfield 29) 3 rfl)) ?_
  refine mz_All.cons (sd_icmp_ge hx hb (mz_dg d_Tr_toll 12 20 (.if_icmp .ge (48)) 3 rfl) (by decide)) ?_
  refine mz_All.cons (sd_iload_n hx hb (mz_dg d_Tr_toll 13 23 (.iload_n 3) 1 rfl) rfl) ?_
  refine mz_All.cons (sd_if_ne hx hb (mz_dg d_Tr_toll 14 24 (.ifCond .ne (7)) 3 rfl) (by decide)) ?_
  refine mz_All.cons (sd_iconst hx hb (mz_dg d_Tr_toll 15 27 (.iconst (1)) 1 rfl) (by decide)) ?_
  refine mz_All.cons (sd_goto hx hb (mz_dg d_Tr_toll 16 28 (.goto (4)) 3 rfl) (by decide)) ?_
  refine mz_All.cons (sd_iconst hx hb (mz_dg d_Tr_toll 17 31 (.iconst (2)) 1 rfl) (by decide)) ?_
  refine mz_All.cons (sd_istore hx hb (mz_dg d_Tr_toll 18 32 (.istore 4) 2 rfl) (by decide)) ?_
  refine mz_All.cons (sd_aload_n hx hb (mz_dg d_Tr_toll 19 34 (.aload_n 0) 1 rfl) rfl) ?_
  refine mz_All.cons (sd_get (k := 0) hx hb hts (mz_inC in_Tr) hown (T := T_Tr) (N := 5) rfl (by decide) (hts (.fieldLink "MazeForms$Trail" 9 "MazeForms$Trail" "grid" "LMazeForms$Grid;") (List.mem_cons_of_mem _ wm_258)) (fun _ h => h) (mz_dg d_Tr_toll 20 35 (.getfield 9) 3 rfl)) ?_
  refine mz_All.cons (sd_aload_n hx hb (mz_dg d_Tr_toll 21 38 (.aload_n 0) 1 rfl) rfl) ?_
  refine mz_All.cons (sd_iload_n hx hb (mz_dg d_Tr_toll 22 39 (.iload_n 3) 1 rfl) rfl) ?_
  refine mz_All.cons (sd_calli (T := T_Tr) ⟨hx, hb, hml, hown, hts⟩ (met_Tr_cellAtStep w h l) (cwV 1 hts (mz_gV wm_623 wm_571 wm_572 wm_75 wm_573) rfl rfl rfl (by decide) ⟨by decide, by decide⟩) rfl hA rfl (mz_dg d_Tr_toll 23 40 (.invokevirtual 61) 3 rfl)) ?_
  refine mz_All.cons (sd_calli (T := T_Gr) ⟨hx, hb, hml, hown, hts⟩ (met_Gr_openSides w h l) (cwV 1 hts (mz_gV wm_624 wm_585 wm_586 wm_67 wm_587) rfl rfl rfl (by decide) ⟨by decide, by decide⟩) rfl hA rfl (mz_dg d_Tr_toll 24 43 (.invokevirtual 64) 3 rfl)) ?_
  refine mz_All.cons (sd_iload hx hb (mz_dg d_Tr_toll 25 46 (.iload 4) 2 rfl)) ?_
  refine mz_All.cons (sd_isub hx hb (mz_dg d_Tr_toll 26 48 (.isub) 1 rfl)) ?_
  refine mz_All.cons (sd_i2l hx hb (mz_dg d_Tr_toll 27 49 (.i2l) 1 rfl)) ?_
  refine mz_All.cons (sd_lstore hx hb (mz_dg d_Tr_toll 28 50 (.lstore 5) 2 rfl) (by decide)) ?_
  refine mz_All.cons (sd_lload_n hx hb (mz_dg d_Tr_toll 29 52 (.lload_n 1) 1 rfl) rfl) ?_
  refine mz_All.cons (sd_lload hx hb (mz_dg d_Tr_toll 30 53 (.lload 5) 2 rfl)) ?_
  refine mz_All.cons (sd_iload_n hx hb (mz_dg d_Tr_toll 31 55 (.iload_n 3) 1 rfl) rfl) ?_
  refine mz_All.cons (sd_iconst hx hb (mz_dg d_Tr_toll 32 56 (.iconst (1)) 1 rfl) (by decide)) ?_
  refine mz_All.cons (sd_iadd hx hb (mz_dg d_Tr_toll 33 57 (.iadd) 1 rfl)) ?_
  refine mz_All.cons (sd_i2l hx hb (mz_dg d_Tr_toll 34 58 (.i2l) 1 rfl)) ?_
  refine mz_All.cons (sd_lmul hx hb (mz_dg d_Tr_toll 35 59 (.lmul) 1 rfl)) ?_
  refine mz_All.cons (sd_ladd hx hb (mz_dg d_Tr_toll 36 60 (.ladd) 1 rfl)) ?_
  refine mz_All.cons (sd_lstore_n hx hb (mz_dg d_Tr_toll 37 61 (.lstore_n 1) 1 rfl) rfl (by decide)) ?_
  refine mz_All.cons (sd_iinc hx hb (mz_dg d_Tr_toll 38 62 (.iinc 3 (1)) 3 rfl) (by decide) (by decide)) ?_
  refine mz_All.cons (sd_goto hx hb (mz_dg d_Tr_toll 39 65 (.goto (-50)) 3 rfl) (by decide)) ?_
  refine mz_All.cons (sd_lload_n hx hb (mz_dg d_Tr_toll 40 68 (.lload_n 1) 1 rfl) rfl) ?_
  refine mz_All.cons (sd_rl hx hb hr hlk (mz_dg d_Tr_toll 41 69 (.lreturn) 1 rfl)) ?_
  exact trivial
theorem met_Tr_toll (w h : Nat) (l : Launch) : mz_ML l y_Tr_toll w_Tr_toll 3 67 mz_cls (C_Tr_toll w h) := mz_ML_of (I_Tr_toll w h) (by decide) rfl (len_Tr_toll w h) (ok_Tr_toll w h) (snd_Tr_toll w h l)
