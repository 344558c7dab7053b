def zo_cB (w h : Nat) (x y : Int32) : Bool := !decide (x < 0) && !decide (nI w ≤ x) && !decide (y < 0) && !decide (nI h ≤ y)
def zo_mkB (w h : Nat) (X : mz_X) (x y v : Int32) : Bool := zo_cB w h x y && !decide (X.1 24 (nI w * y + x).toNatClampNeg = v)
def zo_mkX (w h : Nat) (X : mz_X) (x y v : Int32) : mz_X := zo_num w h (mz_up X.1 24 (nI w * y + x).toNatClampNeg v, X.2)
def zo_at (X : mz_X) (k : Int32) : Int32 := if (!decide (X.1 23 15 < 0) && !decide (k < 0) && !decide (X.1 23 15 < k)) = true then X.1 33 k.toNatClampNeg else -1
def zo_oaB (X : mz_X) (c : Int32) (i : Nat) : Bool := !decide (X.1 27 i = 0) && (decide (X.1 25 i = c) || decide (X.1 26 i = c))
def zo_oa (X : mz_X) (c : Int32) (D : Nat) : Nat := mz_cnt (zo_oaB X c) D
def zo_enB (X : mz_X) (D : Nat) (n : Int32) (c : Nat) : Bool := decide (X.1 24 c = 0) && decide (nI (zo_oa X (nI c) D) = n)
def zo_opB (w h D : Nat) (X : mz_X) (x y s : Int32) : Bool := zo_cB w h x y && !decide (s < 0) && decide (s ≤ 3) && !decide (zo_da w h D X (nI w * y + x).toNatClampNeg s.toNatClampNeg < 0) && !decide (X.1 27 (zo_da w h D X (nI w * y + x).toNatClampNeg s.toNatClampNeg).toNatClampNeg = 0)
def C_Mo_mask (w h : Nat) : mz_CI := fun lay as X Q => match as with
  | [.ref 23, .int x, .int y, .int v] => lay = mz_lay w h ∧ mz_geo w h ∧ zo_dim w h X ∧ (v = 0 ∨ v = 1) ∧ Q (mz_b (zo_mkB w h (zo_t X) x y v)) (match zo_mkB w h (zo_t X) x y v with
    | true => zo_mkX w h (zo_t X) x y v
    | false => zo_t X)
  | _ => False
def C_Mo_at (w h : Nat) : mz_CI := fun lay as X Q => match as with
  | [.ref 23, .int k] => lay = mz_lay w h ∧ mz_geo w h ∧ (∃ q : Nat, q ≤ 143 ∧ X.1 23 15 = nI q ∨ X.1 23 15 = -1) ∧ Q (zo_at (zo_t X) k) (zo_t X)
  | _ => False
def C_Mo_openAt (w h : Nat) : mz_CI := fun lay as X Q => match as with
  | [.ref 23, .int c] => lay = mz_lay w h ∧ mz_geo w h ∧ ∃ D : Nat, X.1 23 5 = nI D ∧ D ≤ 288 ∧ Q (nI (zo_oa X c D)) X
  | _ => False
def C_Mo_ends (w h : Nat) : mz_CI := fun lay as X Q => match as with
  | [.ref 23, .int n] => lay = mz_lay w h ∧ mz_geo w h ∧ ∃ D : Nat, zo_dim w h X ∧ X.1 23 5 = nI D ∧ D ≤ 288 ∧ Q (nI (mz_cnt (zo_enB (zo_t X) D n) (w * h))) (zo_t X)
  | _ => False
def C_Mo_open (w h : Nat) : mz_CI := fun lay as X Q => match as with
  | [.ref 23, .int x, .int y, .int s] => lay = mz_lay w h ∧ mz_geo w h ∧ ∃ D : Nat, zo_dim w h X ∧ X.1 23 5 = nI D ∧ D ≤ 288 ∧ Q (mz_b (zo_opB w h D (zo_t X) x y s)) (zo_t X)
  | _ => False
def y_Mo_beside : MethodName := ⟨"MazeFormsModel", "beside", "(II)I"⟩
abbrev w_Mo_beside : List Cond := .code y_Mo_beside prog_11_method_9_code 3 (some .int) :: mz_tb
def dl_Mo_beside : List (Nat × ClassFile.Instr × Nat) := [(0, .iload_n 2, 1), (1, .tableswitch (81) (0) (2) #[27, 34, 57], 27), (28, .iload_n 1, 1), (29, .aload_n 0, 1), (30, .getfield 52, 3), (33, .isub, 1), (34, .ireturn, 1), (35, .iload_n 1, 1), (36, .aload_n 0, 1), (37, .getfield 52, 3), (40, .irem, 1), (41, .aload_n 0, 1), (42, .getfield 52, 3), (45, .iconst (1), 1), (46, .isub, 1), (47, .if_icmp .ge (9), 3), (50, .iload_n 1, 1), (51, .iconst (1), 1), (52, .iadd, 1), (53, .goto (4), 3), (56, .iconst (-1), 1), (57, .ireturn, 1), (58, .iload_n 1, 1), (59, .aload_n 0, 1), (60, .getfield 52, 3), (63, .iadd, 1), (64, .aload_n 0, 1), (65, .invokevirtual 68, 3), (68, .if_icmp .ge (12), 3), (71, .iload_n 1, 1), (72, .aload_n 0, 1), (73, .getfield 52, 3), (76, .iadd, 1), (77, .goto (4), 3), (80, .iconst (-1), 1), (81, .ireturn, 1), (82, .iload_n 1, 1), (83, .aload_n 0, 1), (84, .getfield 52, 3), (87, .irem, 1), (88, .ifCond .le (9), 3), (91, .iload_n 1, 1), (92, .iconst (1), 1), (93, .isub, 1), (94, .goto (4), 3), (97, .iconst (-1), 1), (98, .ireturn, 1)]
theorem d_Mo_beside : mz_dec prog_11_method_9_code dl_Mo_beside = true := by decide +kernel
def y_Mo_doorAt : MethodName := ⟨"MazeFormsModel", "doorAt", "(II)I"⟩
abbrev w_Mo_doorAt : List Cond := .code y_Mo_doorAt prog_11_method_11_code 4 (some .int) :: mz_tb
def dl_Mo_doorAt : List (Nat × ClassFile.Instr × Nat) := [(0, .aload_n 0, 1), (1, .iload_n 1, 1), (2, .iload_n 2, 1), (3, .invokevirtual 83, 3), (6, .istore_n 3, 1), (7, .aload_n 0, 1), (8, .iload_n 1, 1), (9, .invokevirtual 87, 3), (12, .ifCond .eq (20), 3), (15, .aload_n 0, 1), (16, .iload_n 3, 1), (17, .invokevirtual 87, 3), (20, .ifCond .eq (12), 3), (23, .aload_n 0, 1), (24, .iload_n 1, 1), (25, .iload_n 3, 1), (26, .invokevirtual 91, 3), (29, .goto (4), 3), (32, .iconst (-1), 1), (33, .ireturn, 1)]
theorem d_Mo_doorAt : mz_dec prog_11_method_11_code dl_Mo_doorAt = true := by decide +kernel
def y_Mo_mask : MethodName := ⟨"MazeFormsModel", "mask", "(IIZ)Z"⟩
abbrev w_Mo_mask : List Cond := .code y_Mo_mask prog_11_method_7_code 4 (some .boolean) :: mz_tb
def dl_Mo_mask : List (Nat × ClassFile.Instr × Nat) := [(0, .aload_n 0, 1), (1, .iconst (0), 1), (2, .putfield 65, 3), (5, .iload_n 1, 1), (6, .ifCond .lt (40), 3), (9, .iload_n 1, 1), (10, .aload_n 0, 1), (11, .getfield 52, 3), (14, .if_icmp .ge (32), 3), (17, .iload_n 2, 1), (18, .ifCond .lt (28), 3), (21, .iload_n 2, 1), (22, .aload_n 0, 1), (23, .getfield 55, 3), (26, .if_icmp .ge (20), 3), (29, .aload_n 0, 1), (30, .getfield 7, 3), (33, .aload_n 0, 1), (34, .getfield 52, 3), (37, .iload_n 2, 1), (38, .imul, 1), (39, .iload_n 1, 1), (40, .iadd, 1), (41, .baload, 1), (42, .iload_n 3, 1), (43, .if_icmp .ne (5), 3), (46, .iconst (0), 1), (47, .ireturn, 1), (48, .aload_n 0, 1), (49, .getfield 7, 3), (52, .aload_n 0, 1), (53, .getfield 52, 3), (56, .iload_n 2, 1), (57, .imul, 1), (58, .iload_n 1, 1), (59, .iadd, 1), (60, .iload_n 3, 1), (61, .bastore, 1), (62, .aload_n 0, 1), (63, .invokevirtual 62, 3), (66, .iconst (1), 1), (67, .ireturn, 1)]
theorem d_Mo_mask : mz_dec prog_11_method_7_code dl_Mo_mask = true := by decide +kernel
def y_Mo_at : MethodName := ⟨"MazeFormsModel", "at", "(I)I"⟩
abbrev w_Mo_at : List Cond := .code y_Mo_at prog_11_method_30_code 2 (some .int) :: mz_tb
def dl_Mo_at : List (Nat × ClassFile.Instr × Nat) := [(0, .aload_n 0, 1), (1, .iconst (0), 1), (2, .putfield 65, 3), (5, .aload_n 0, 1), (6, .getfield 38, 3), (9, .ifCond .lt (24), 3), (12, .iload_n 1, 1), (13, .ifCond .lt (20), 3), (16, .iload_n 1, 1), (17, .aload_n 0, 1), (18, .getfield 38, 3), (21, .if_icmp .gt (12), 3), (24, .aload_n 0, 1), (25, .getfield 42, 3), (28, .iload_n 1, 1), (29, .iaload, 1), (30, .goto (4), 3), (33, .iconst (-1), 1), (34, .ireturn, 1)]
theorem d_Mo_at : mz_dec prog_11_method_30_code dl_Mo_at = true := by decide +kernel
def y_Mo_openAt : MethodName := ⟨"MazeFormsModel", "openAt", "(I)I"⟩
abbrev w_Mo_openAt : List Cond := .code y_Mo_openAt prog_11_method_31_code 4 (some .int) :: mz_tb
def dl_Mo_openAt : List (Nat × ClassFile.Instr × Nat) := [(0, .iconst (0), 1), (1, .istore_n 2, 1), (2, .iconst (0), 1), (3, .istore_n 3, 1), (4, .iload_n 3, 1), (5, .aload_n 0, 1), (6, .getfield 72, 3), (9, .if_icmp .ge (46), 3), (12, .iload_n 2, 1), (13, .aload_n 0, 1), (14, .getfield 20, 3), (17, .iload_n 3, 1), (18, .baload, 1), (19, .ifCond .eq (27), 3), (22, .aload_n 0, 1), (23, .getfield 13, 3), (26, .iload_n 3, 1), (27, .iaload, 1), (28, .iload_n 1, 1), (29, .if_icmp .eq (13), 3), (32, .aload_n 0, 1), (33, .getfield 17, 3), (36, .iload_n 3, 1), (37, .iaload, 1), (38, .iload_n 1, 1), (39, .if_icmp .ne (7), 3), (42, .iconst (1), 1), (43, .goto (4), 3), (46, .iconst (0), 1), (47, .iadd, 1), (48, .istore_n 2, 1), (49, .iinc 3 (1), 3), (52, .goto (-48), 3), (55, .iload_n 2, 1), (56, .ireturn, 1)]
theorem d_Mo_openAt : mz_dec prog_11_method_31_code dl_Mo_openAt = true := by decide +kernel
def y_Mo_open : MethodName := ⟨"MazeFormsModel", "open", "(III)Z"⟩
abbrev w_Mo_open : List Cond := .code y_Mo_open prog_11_method_24_code 5 (some .boolean) :: mz_tb
def dl_Mo_open : List (Nat × ClassFile.Instr × Nat) := [(0, .aload_n 0, 1), (1, .iconst (0), 1), (2, .putfield 65, 3), (5, .iload_n 1, 1), (6, .ifCond .lt (32), 3), (9, .iload_n 1, 1), (10, .aload_n 0, 1), (11, .getfield 52, 3), (14, .if_icmp .ge (24), 3), (17, .iload_n 2, 1), (18, .ifCond .lt (20), 3), (21, .iload_n 2, 1), (22, .aload_n 0, 1), (23, .getfield 55, 3), (26, .if_icmp .ge (12), 3), (29, .iload_n 3, 1), (30, .ifCond .lt (8), 3), (33, .iload_n 3, 1), (34, .iconst (3), 1), (35, .if_icmp .le (5), 3), (38, .iconst (0), 1), (39, .ireturn, 1), (40, .aload_n 0, 1), (41, .aload_n 0, 1), (42, .getfield 52, 3), (45, .iload_n 2, 1), (46, .imul, 1), (47, .iload_n 1, 1), (48, .iadd, 1), (49, .iload_n 3, 1), (50, .invokevirtual 100, 3), (53, .istore 4, 2), (55, .iload 4, 2), (57, .ifCond .lt (17), 3), (60, .aload_n 0, 1), (61, .getfield 20, 3), (64, .iload 4, 2), (66, .baload, 1), (67, .ifCond .eq (7), 3), (70, .iconst (1), 1), (71, .goto (4), 3), (74, .iconst (0), 1), (75, .ireturn, 1)]
theorem d_Mo_open : mz_dec prog_11_method_24_code dl_Mo_open = true := by decide +kernel
def I_Mo_beside (w h : Nat) : List (Nat × mz_Op) := [(0, mz_ldi 2 1), (1, mz_tsw (0) [28, 35, 58] 82), (28, mz_ldi 1 29), (29, mz_lda 0 30), (30, mz_gf 9 1 33), (33, mz_bi (fun x y => x - y) 34), (34, mz_ri), (35, mz_ldi 1 36), (36, mz_lda 0 37), (37, mz_gf 9 1 40), (40, mz_bid (fun x y => x - x / y * y) 41), (41, mz_lda 0 42), (42, mz_gf 9 1 45), (45, mz_push (.int (1)) 46), (46, mz_bi (fun x y => x - y) 47), (47, mz_ic (fun x y => y ≤ x) 56 50), (50, mz_ldi 1 51), (51, mz_push (.int (1)) 52), (52, mz_bi (fun x y => x + y) 53), (53, mz_go 57), (56, mz_push (.int (-1)) 57), (57, mz_ri), (58, mz_ldi 1 59), (59, mz_lda 0 60), (60, mz_gf 9 1 63), (63, mz_bi (fun x y => x + y) 64), (64, mz_lda 0 65), (65, mz_ci 1 9 (C_Mo_cells w h) 68), (68, mz_ic (fun x y => y ≤ x) 80 71), (71, mz_ldi 1 72), (72, mz_lda 0 73), (73, mz_gf 9 1 76), (76, mz_bi (fun x y => x + y) 77), (77, mz_go 81), (80, mz_push (.int (-1)) 81), (81, mz_ri), (82, mz_ldi 1 83), (83, mz_lda 0 84), (84, mz_gf 9 1 87), (87, mz_bid (fun x y => x - x / y * y) 88), (88, mz_if (fun x => x ≤ 0) 97 91), (91, mz_ldi 1 92), (92, mz_push (.int (1)) 93), (93, mz_bi (fun x y => x - y) 94), (94, mz_go 98), (97, mz_push (.int (-1)) 98), (98, mz_ri)]
def I_Mo_doorAt (w h : Nat) : List (Nat × mz_Op) := [(0, mz_lda 0 1), (1, mz_ldi 1 2), (2, mz_ldi 2 3), (3, mz_ci 3 9 (C_Mo_beside w h) 6), (6, mz_sti 3 7), (7, mz_lda 0 8), (8, mz_ldi 1 9), (9, mz_ci 2 9 (C_Mo_isCell w h) 12), (12, mz_if (fun x => x = 0) 32 15), (15, mz_lda 0 16), (16, mz_ldi 3 17), (17, mz_ci 2 9 (C_Mo_isCell w h) 20), (20, mz_if (fun x => x = 0) 32 23), (23, mz_lda 0 24), (24, mz_ldi 1 25), (25, mz_ldi 3 26), (26, mz_ci 3 9 (C_Mo_doorOf w h) 29), (29, mz_go 33), (32, mz_push (.int (-1)) 33), (33, mz_ri)]
def I_Mo_mask (w h : Nat) : List (Nat × mz_Op) := [(0, mz_lda 0 1), (1, mz_push (.int (0)) 2), (2, mz_pfi 9 0 5), (5, mz_ldi 1 6), (6, mz_if (fun x => x < 0) 46 9), (9, mz_ldi 1 10), (10, mz_lda 0 11), (11, mz_gf 9 1 14), (14, mz_ic (fun x y => y ≤ x) 46 17), (17, mz_ldi 2 18), (18, mz_if (fun x => x < 0) 46 21), (21, mz_ldi 2 22), (22, mz_lda 0 23), (23, mz_gf 9 2 26), (26, mz_ic (fun x y => y ≤ x) 46 29), (29, mz_lda 0 30), (30, mz_gf 9 4 33), (33, mz_lda 0 34), (34, mz_gf 9 1 37), (37, mz_ldi 2 38), (38, mz_bi (fun x y => x * y) 39), (39, mz_ldi 1 40), (40, mz_bi (fun x y => x + y) 41), (41, mz_iald 1 42), (42, mz_ldi 3 43), (43, mz_ic (fun x y => x = y) 46 48), (46, mz_push (.int (0)) 47), (47, mz_rz), (48, mz_lda 0 49), (49, mz_gf 9 4 52), (52, mz_lda 0 53), (53, mz_gf 9 1 56), (56, mz_ldi 2 57), (57, mz_bi (fun x y => x * y) 58), (58, mz_ldi 1 59), (59, mz_bi (fun x y => x + y) 60), (60, mz_ldi 3 61), (61, mz_iast 1 62), (62, mz_lda 0 63), (63, mz_cvo 1 9 (C_Mo_number w h) 66), (66, mz_push (.int (1)) 67), (67, mz_rz)]
def I_Mo_at (w h : Nat) : List (Nat × mz_Op) := [(0, mz_lda 0 1), (1, mz_push (.int (0)) 2), (2, mz_pfi 9 0 5), (5, mz_lda 0 6), (6, mz_gf 9 15 9), (9, mz_if (fun x => x < 0) 33 12), (12, mz_ldi 1 13), (13, mz_if (fun x => x < 0) 33 16), (16, mz_ldi 1 17), (17, mz_lda 0 18), (18, mz_gf 9 15 21), (21, mz_ic (fun x y => y < x) 33 24), (24, mz_lda 0 25), (25, mz_gf 9 16 28), (28, mz_ldi 1 29), (29, mz_iald 0 30), (30, mz_go 34), (33, mz_push (.int (-1)) 34), (34, mz_ri)]
def I_Mo_openAt (w h : Nat) : List (Nat × mz_Op) := [(0, mz_push (.int (0)) 1), (1, mz_sti 2 2), (2, mz_push (.int (0)) 3), (3, mz_sti 3 4), (4, mz_ldi 3 5), (5, mz_lda 0 6), (6, mz_gf 9 5 9), (9, mz_ic (fun x y => y ≤ x) 55 12), (12, mz_ldi 2 13), (13, mz_lda 0 14), (14, mz_gf 9 8 17), (17, mz_ldi 3 18), (18, mz_iald 1 19), (19, mz_if (fun x => x = 0) 46 22), (22, mz_lda 0 23), (23, mz_gf 9 6 26), (26, mz_ldi 3 27), (27, mz_iald 0 28), (28, mz_ldi 1 29), (29, mz_ic (fun x y => x = y) 42 32), (32, mz_lda 0 33), (33, mz_gf 9 7 36), (36, mz_ldi 3 37), (37, mz_iald 0 38), (38, mz_ldi 1 39), (39, mz_ic (fun x y => x = y) 42 46), (42, mz_push (.int (1)) 43), (43, mz_go 47), (46, mz_push (.int (0)) 47), (47, mz_bi (fun x y => x + y) 48), (48, mz_sti 2 49), (49, mz_inc 3 (1) 52), (52, mz_go 4), (55, mz_ldi 2 56), (56, mz_ri)]
def I_Mo_open (w h : Nat) : List (Nat × mz_Op) := [(0, mz_lda 0 1), (1, mz_push (.int (0)) 2), (2, mz_pfi 9 0 5), (5, mz_ldi 1 6), (6, mz_if (fun x => x < 0) 38 9), (9, mz_ldi 1 10), (10, mz_lda 0 11), (11, mz_gf 9 1 14), (14, mz_ic (fun x y => y ≤ x) 38 17), (17, mz_ldi 2 18), (18, mz_if (fun x => x < 0) 38 21), (21, mz_ldi 2 22), (22, mz_lda 0 23), (23, mz_gf 9 2 26), (26, mz_ic (fun x y => y ≤ x) 38 29), (29, mz_ldi 3 30), (30, mz_if (fun x => x < 0) 38 33), (33, mz_ldi 3 34), (34, mz_push (.int (3)) 35), (35, mz_ic (fun x y => x ≤ y) 40 38), (38, mz_push (.int (0)) 39), (39, mz_rz), (40, mz_lda 0 41), (41, mz_lda 0 42), (42, mz_gf 9 1 45), (45, mz_ldi 2 46), (46, mz_bi (fun x y => x * y) 47), (47, mz_ldi 1 48), (48, mz_bi (fun x y => x + y) 49), (49, mz_ldi 3 50), (50, mz_ci 3 9 (C_Mo_doorAt w h) 53), (53, mz_sti 4 55), (55, mz_ldi 4 57), (57, mz_if (fun x => x < 0) 74 60), (60, mz_lda 0 61), (61, mz_gf 9 8 64), (64, mz_ldi 4 66), (66, mz_iald 1 67), (67, mz_if (fun x => x = 0) 74 70), (70, mz_push (.int (1)) 71), (71, mz_go 75), (74, mz_push (.int (0)) 75), (75, mz_rz)]
theorem zo_xy {w h : Nat} {x y : Int32} (g : mz_geo w h) (h1 : ¬ x < 0) (h2 : ¬ nI w ≤ x) (h3 : ¬ y < 0) (h4 : ¬ nI h ≤ y) : ∃ k : Nat, k < w * h ∧ nI w * y + x = nI k := by
  have hw : w ≤ 12 := g.2.1
  have hh : h ≤ 12 := g.2.2.2
  obtain ⟨a, ha, rfl⟩ := vp_in_of (mz_in h1 h2 (by omega)) (by omega)
  obtain ⟨b, hb, rfl⟩ := vp_in_of (mz_in h3 h4 (by omega)) (by omega)
  refine ⟨w * b + a, ?_, by rw [pk_mul, nI_add]⟩
  have : w * (b + 1) ≤ w * h := Nat.mul_le_mul_left w hb
  rw [Nat.mul_add, Nat.mul_one] at this
  omega
theorem zo_df_b {X : mz_X} {a b : Int32} : ∀ (k i : Nat), i + k ≤ 288 → zo_df X a b i k = -1 ∨ ∃ d : Nat, d < i + k ∧ zo_df X a b i k = nI d
  | 0, i, _ => Or.inl rfl
  | k + 1, i, h => by
    by_cases e : zo_dB X a b i = true
    · exact Or.inr ⟨i, by omega, if_pos e⟩
    · rw [show zo_df X a b i (k + 1) = zo_df X a b (i + 1) k from if_neg e]
      rcases zo_df_b k (i + 1) (by omega) with q | ⟨d, hd, q⟩
      · exact Or.inl q
      · exact Or.inr ⟨d, by omega, q⟩
theorem zo_da_b {w h D : Nat} {X : mz_X} {k s : Nat} (hD : D ≤ 288) : zo_da w h D X k s = -1 ∨ ∃ d : Nat, d < D ∧ zo_da w h D X k s = nI d := by
  unfold zo_da
  split
  · rcases zo_df_b (X := X) (a := nI k) (b := zo_bes w h k s) D 0 (by omega) with q | ⟨d, hd, q⟩
    · exact Or.inl q
    · exact Or.inr ⟨d, by omega, q⟩
  · exact Or.inl rfl
theorem len_Mo_beside (w h : Nat) (lay : List mz_E) (as : List Value) (X : mz_X) (Q : Int32 → mz_X → Prop) (hC : C_Mo_beside w h lay as X Q) : (mz_l0 as).length ≤ 3 := by
  unfold C_Mo_beside at hC
  split at hC
  · exact Nat.le_of_ble_eq_true rfl
  · exact hC.elim
theorem ok_Mo_beside (w h : Nat) (lay : List mz_E) (as : List Value) (X : mz_X) (Q : Int32 → mz_X → Prop) (hC : C_Mo_beside w h lay as X Q) (K : mz_K) (hK : mz_Cl (I_Mo_beside w h) (mz_qi lay Q) K) : K 0 (mz_ent 3 as) [] (lay, X) := by
  unfold C_Mo_beside at hC
  split at hC
  · next c t =>
    obtain ⟨rfl, g, k, s, hX, hk, hs, rfl, rfl, hq⟩ := hC
    have hn := mz_geo_n g
    have hgw : w ≤ 12 := g.2.1
    have hgw1 : 1 ≤ w := g.1
    have hne := zo_wne g
    have hm := Nat.mod_lt k (show 0 < w by omega)
    have hsI : (nI s).toInt = (s : Int) := nI_toInt (by omega)
    refine hK _ _ _ _ ?_
    refine hK _ _ _ _ (And.intro (fun k9 t9 ht hk => ?_) (fun hk => ?_))
    · match k9, ht with
      | 0, ht =>
        cases ht
        have es : s = 0 := by omega
        subst es
        iterate 4 refine hK _ _ _ _ ?_
        exact hK _ _ _ _ (And.intro rfl (by dsimp only; rw [hX.1]; exact hq))
      | 1, ht =>
        cases ht
        have es : s = 1 := by omega
        subst es
        iterate 3 refine hK _ _ _ _ ?_
        refine hK _ _ _ _ (And.intro (by dsimp only; rw [hX.1]; exact hne) ?_)
        iterate 4 refine hK _ _ _ _ ?_
        refine hK _ _ _ _ (And.intro (fun c1 => ?_) (fun c1 => ?_))
        · dsimp only at c1
          rw [hX.1, pk_rem (by omega) (by omega) (by omega), zn_pred (by omega), nI_leI (by omega) (by omega)] at c1
          rw [show zo_bes w h k 1 = -1 by unfold zo_bes; rw [if_neg (by decide), if_pos rfl, if_neg (by omega)]] at hq
          refine hK _ _ _ _ ?_
          exact hK _ _ _ _ (And.intro rfl (hq))
        · dsimp only at c1
          rw [hX.1, pk_rem (by omega) (by omega) (by omega), zn_pred (by omega), nI_leI (by omega) (by omega)] at c1
          rw [show zo_bes w h k 1 = nI k + 1 by unfold zo_bes; rw [if_neg (by decide), if_pos rfl, if_pos (by omega), nI_1]] at hq
          iterate 4 refine hK _ _ _ _ ?_
          exact hK _ _ _ _ (And.intro rfl (hq))
      | 2, ht =>
        cases ht
        have es : s = 2 := by omega
        subst es
        iterate 5 refine hK _ _ _ _ ?_
        refine hK _ _ _ _ (And.intro (rfl) (And.intro (g) (And.intro (hX) ?_)))
        refine hK _ _ _ _ (And.intro (fun c1 => ?_) (fun c1 => ?_))
        · dsimp only at c1
          rw [hX.1, nI_add, nI_leI (by omega) (by omega)] at c1
          rw [show zo_bes w h k 2 = -1 by unfold zo_bes; rw [if_neg (by decide), if_neg (by decide), if_pos rfl, if_neg (by omega)]] at hq
          refine hK _ _ _ _ ?_
          exact hK _ _ _ _ (And.intro rfl (hq))
        · dsimp only at c1
          rw [hX.1, nI_add, nI_leI (by omega) (by omega)] at c1
          rw [show zo_bes w h k 2 = nI k + nI w by unfold zo_bes; rw [if_neg (by decide), if_neg (by decide), if_pos rfl, if_pos (by omega), nI_add]] at hq
          iterate 5 refine hK _ _ _ _ ?_
          exact hK _ _ _ _ (And.intro rfl (by dsimp only; rw [hX.1]; exact hq))
      | k9 + 3, ht => simp at ht
    · have es : s = 3 := by
        have q0 := hk 0 (by decide)
        have q1 := hk 1 (by decide)
        have q2 := hk 2 (by decide)
        omega
      subst es
      iterate 3 refine hK _ _ _ _ ?_
      refine hK _ _ _ _ (And.intro (by dsimp only; rw [hX.1]; exact hne) ?_)
      refine hK _ _ _ _ (And.intro (fun c1 => ?_) (fun c1 => ?_))
      · dsimp only at c1
        rw [hX.1, pk_rem (by omega) (by omega) (by omega), show (0 : Int32) = nI 0 from rfl, nI_leI (by omega) (by omega)] at c1
        rw [show zo_bes w h k 3 = -1 by unfold zo_bes; rw [if_neg (by decide), if_neg (by decide), if_neg (by decide), if_neg (by omega)]] at hq
        refine hK _ _ _ _ ?_
        exact hK _ _ _ _ (And.intro rfl (hq))
      · dsimp only at c1
        rw [hX.1, pk_rem (by omega) (by omega) (by omega), show (0 : Int32) = nI 0 from rfl, nI_leI (by omega) (by omega)] at c1
        have hk1 : 0 < k := by
          rcases Nat.eq_zero_or_pos k with q | q
          · subst q
            simp at c1
          · exact q
        rw [show zo_bes w h k 3 = nI k - 1 by unfold zo_bes; rw [if_neg (by decide), if_neg (by decide), if_neg (by decide), if_pos (by omega), zn_pred hk1]] at hq
        iterate 4 refine hK _ _ _ _ ?_
        exact hK _ _ _ _ (And.intro rfl (hq))
  · exact hC.elim
theorem len_Mo_doorAt (w h : Nat) (lay : List mz_E) (as : List Value) (X : mz_X) (Q : Int32 → mz_X → Prop) (hC : C_Mo_doorAt w h lay as X Q) : (mz_l0 as).length ≤ 4 := by
  unfold C_Mo_doorAt at hC
  split at hC
  · exact Nat.le_of_ble_eq_true rfl
  · exact hC.elim
theorem ok_Mo_doorAt (w h : Nat) (lay : List mz_E) (as : List Value) (X : mz_X) (Q : Int32 → mz_X → Prop) (hC : C_Mo_doorAt w h lay as X Q) (K : mz_K) (hK : mz_Cl (I_Mo_doorAt w h) (mz_qi lay Q) K) : K 0 (mz_ent 4 as) [] (lay, X) := by
  unfold C_Mo_doorAt at hC
  split at hC
  · next c t =>
    obtain ⟨rfl, g, D, k, s, hX, hD, hD2, hk, hs, rfl, rfl, hq⟩ := hC
    have h32 : (zo_c w h X (nI k) && zo_c w h X (zo_bes w h k s)) = false → K 32 [some (.ref 23), some (.int (nI k)), some (.int (nI s)), some (.int (zo_bes w h k s))] [] (mz_lay w h, X) := by
      intro e
      rw [show zo_da w h D X k s = -1 from if_neg (by rw [e]; decide)] at hq
      refine hK _ _ _ _ ?_
      exact hK _ _ _ _ (And.intro rfl (hq))
    iterate 3 refine hK _ _ _ _ ?_
    refine hK _ _ _ _ (And.intro (rfl) (And.intro (g) (Exists.intro (k) (Exists.intro (s) (And.intro (hX) (And.intro (hk) (And.intro (hs) (And.intro (rfl) (And.intro (rfl) ?_)))))))))
    iterate 3 refine hK _ _ _ _ ?_
    refine hK _ _ _ _ (And.intro (rfl) (And.intro (g) (And.intro (hX) ?_)))
    refine hK _ _ _ _ (And.intro (fun c1 => ?_) (fun c1 => ?_))
    · exact h32 (by rw [mz_b0 c1]; rfl)
    · iterate 2 refine hK _ _ _ _ ?_
      refine hK _ _ _ _ (And.intro (rfl) (And.intro (g) (And.intro (hX) ?_)))
      refine hK _ _ _ _ (And.intro (fun c2 => ?_) (fun c2 => ?_))
      · exact h32 (by rw [mz_b0 c2]; simp)
      · rw [show zo_da w h D X k s = zo_df X (nI k) (zo_bes w h k s) 0 D from if_pos (by rw [mz_b1 c1, mz_b1 c2]; rfl)] at hq
        iterate 3 refine hK _ _ _ _ ?_
        refine hK _ _ _ _ (And.intro (rfl) (And.intro (g) (Exists.intro (D) (And.intro (hD) (And.intro (hD2) ?_)))))
        refine hK _ _ _ _ ?_
        exact hK _ _ _ _ (And.intro rfl (hq))
  · exact hC.elim
theorem len_Mo_mask (w h : Nat) (lay : List mz_E) (as : List Value) (X : mz_X) (Q : Int32 → mz_X → Prop) (hC : C_Mo_mask w h lay as X Q) : (mz_l0 as).length ≤ 4 := by
  unfold C_Mo_mask at hC
  split at hC
  · exact Nat.le_of_ble_eq_true rfl
  · exact hC.elim
theorem ok_Mo_mask (w h : Nat) (lay : List mz_E) (as : List Value) (X : mz_X) (Q : Int32 → mz_X → Prop) (hC : C_Mo_mask w h lay as X Q) (K : mz_K) (hK : mz_Cl (I_Mo_mask w h) (mz_qi lay Q) K) : K 0 (mz_ent 4 as) [] (lay, X) := by
  unfold C_Mo_mask at hC
  split at hC
  · next x y v =>
    obtain ⟨rfl, g, hX, hv, hq⟩ := hC
    have hn := mz_geo_n g
    have h46 : zo_mkB w h (zo_t X) x y v = false → K 46 (mz_ent 4 [.ref 23, .int x, .int y, .int v]) [] (mz_lay w h, zo_t X) := by
      intro e
      rw [e] at hq
      refine hK _ _ _ _ ?_
      exact hK _ _ _ _ (And.intro (Or.inl rfl) (And.intro rfl (hq)))
    iterate 3 refine hK _ _ _ _ ?_
    show K 5 (mz_ent 4 [.ref 23, .int x, .int y, .int v]) [] (mz_lay w h, zo_t X)
    have hY : zo_dim w h (zo_t X) := hX
    generalize zo_t X = Y at hq h46 hY ⊢
    refine hK _ _ _ _ ?_
    refine hK _ _ _ _ (And.intro (fun c1 => ?_) (fun c1 => ?_))
    · exact h46 (by simp [zo_mkB, zo_cB, c1])
    · iterate 3 refine hK _ _ _ _ ?_
      refine hK _ _ _ _ (And.intro (fun c2 => ?_) (fun c2 => ?_))
      · dsimp only at c2
        rw [hY.1] at c2
        exact h46 (by simp [zo_mkB, zo_cB, c2])
      · dsimp only at c2
        rw [hY.1] at c2
        refine hK _ _ _ _ ?_
        refine hK _ _ _ _ (And.intro (fun c3 => ?_) (fun c3 => ?_))
        · exact h46 (by simp [zo_mkB, zo_cB, c3])
        · iterate 3 refine hK _ _ _ _ ?_
          refine hK _ _ _ _ (And.intro (fun c4 => ?_) (fun c4 => ?_))
          · dsimp only at c4
            rw [hY.2] at c4
            exact h46 (by simp [zo_mkB, zo_cB, c4])
          · dsimp only at c4
            rw [hY.2] at c4
            obtain ⟨k, hk, ek⟩ := zo_xy g c1 c2 c3 c4
            have hin : vp_in (Y.1 23 1 * y + x) 144 := by
              rw [hY.1, ek]
              exact vp_in_nI (by omega) (by omega)
            iterate 8 refine hK _ _ _ _ ?_
            refine hK _ _ _ _ (And.intro (hin) ?_)
            refine hK _ _ _ _ ?_
            refine hK _ _ _ _ (And.intro (fun c5 => ?_) (fun c5 => ?_))
            · dsimp only at c5
              rw [hY.1] at c5
              exact h46 (by simp [zo_mkB, c5])
            · dsimp only at c5
              rw [hY.1] at c5
              rw [show zo_mkB w h Y x y v = true by simp [zo_mkB, zo_cB, c1, c2, c3, c4, c5]] at hq
              iterate 9 refine hK _ _ _ _ ?_
              refine hK _ _ _ _ (And.intro (hin) ?_)
              rw [mz_narb hv]
              refine hK _ _ _ _ ?_
              refine hK _ _ _ _ (And.intro (rfl) (And.intro (g) (And.intro (hY) ?_)))
              refine hK _ _ _ _ ?_
              exact hK _ _ _ _ (And.intro (Or.inr rfl) (And.intro rfl (by unfold zo_mkX at hq; rw [← hY.1] at hq; exact hq)))
  · exact hC.elim
theorem len_Mo_at (w h : Nat) (lay : List mz_E) (as : List Value) (X : mz_X) (Q : Int32 → mz_X → Prop) (hC : C_Mo_at w h lay as X Q) : (mz_l0 as).length ≤ 2 := by
  unfold C_Mo_at at hC
  split at hC
  · exact Nat.le_of_ble_eq_true rfl
  · exact hC.elim
theorem ok_Mo_at (w h : Nat) (lay : List mz_E) (as : List Value) (X : mz_X) (Q : Int32 → mz_X → Prop) (hC : C_Mo_at w h lay as X Q) (K : mz_K) (hK : mz_Cl (I_Mo_at w h) (mz_qi lay Q) K) : K 0 (mz_ent 2 as) [] (lay, X) := by
  unfold C_Mo_at at hC
  split at hC
  · next k =>
    obtain ⟨rfl, g, hl, hq⟩ := hC
    have h33 : zo_at (zo_t X) k = -1 → K 33 (mz_ent 2 [.ref 23, .int k]) [] (mz_lay w h, zo_t X) := by
      intro e
      rw [e] at hq
      refine hK _ _ _ _ ?_
      exact hK _ _ _ _ (And.intro rfl (hq))
    iterate 3 refine hK _ _ _ _ ?_
    show K 5 (mz_ent 2 [.ref 23, .int k]) [] (mz_lay w h, zo_t X)
    have hl2 : ∃ q : Nat, q ≤ 143 ∧ (zo_t X).1 23 15 = nI q ∨ (zo_t X).1 23 15 = -1 := hl
    generalize zo_t X = Y at hq h33 hl2 ⊢
    iterate 2 refine hK _ _ _ _ ?_
    refine hK _ _ _ _ (And.intro (fun c1 => ?_) (fun c1 => ?_))
    · dsimp only at c1
      exact h33 (by simp [zo_at, c1])
    · dsimp only at c1
      refine hK _ _ _ _ ?_
      refine hK _ _ _ _ (And.intro (fun c2 => ?_) (fun c2 => ?_))
      · exact h33 (by simp [zo_at, c2])
      · iterate 3 refine hK _ _ _ _ ?_
        refine hK _ _ _ _ (And.intro (fun c3 => ?_) (fun c3 => ?_))
        · dsimp only at c3
          exact h33 (by simp [zo_at, c3])
        · dsimp only at c3
          obtain ⟨q, hl3⟩ := hl2
          have hin : vp_in k 144 := by
            rcases hl3 with ⟨hq1, hq2⟩ | hq2
            · rw [hq2, Int32.lt_iff_toInt_lt, nI_toInt (by omega)] at c3
              dsimp only at c2
              rw [Int32.lt_iff_toInt_lt, Int32.toInt_zero] at c2
              exact vp_in_iff.mpr (by omega)
            · rw [hq2] at c1
              exact absurd (by decide) c1
          iterate 3 refine hK _ _ _ _ ?_
          refine hK _ _ _ _ (And.intro (hin) ?_)
          refine hK _ _ _ _ ?_
          exact hK _ _ _ _ (And.intro rfl (by simpa [zo_at, c1, c2, c3] using hq))
  · exact hC.elim
theorem len_Mo_openAt (w h : Nat) (lay : List mz_E) (as : List Value) (X : mz_X) (Q : Int32 → mz_X → Prop) (hC : C_Mo_openAt w h lay as X Q) : (mz_l0 as).length ≤ 4 := by
  unfold C_Mo_openAt at hC
  split at hC
  · exact Nat.le_of_ble_eq_true rfl
  · exact hC.elim
theorem ok_Mo_openAt (w h : Nat) (lay : List mz_E) (as : List Value) (X : mz_X) (Q : Int32 → mz_X → Prop) (hC : C_Mo_openAt w h lay as X Q) (K : mz_K) (hK : mz_Cl (I_Mo_openAt w h) (mz_qi lay Q) K) : K 0 (mz_ent 4 as) [] (lay, X) := by
  unfold C_Mo_openAt at hC
  split at hC
  · next c =>
    obtain ⟨rfl, g, D, hD, hD2, hq⟩ := hC
    have loop : ∀ (k i : Nat), i + k = D → K 4 [some (.ref 23), some (.int c), some (.int (nI (zo_oa X c i))), some (.int (nI i))] [] (mz_lay w h, X) := by
      intro k
      induction k with
      | zero =>
        intro i hi
        iterate 3 refine hK _ _ _ _ ?_
        refine hK _ _ _ _ (And.intro (fun c1 => ?_) (fun c1 => ?_))
        · refine hK _ _ _ _ ?_
          exact hK _ _ _ _ (And.intro rfl (by rw [show i = D by omega]; exact hq))
        · dsimp only at c1
          rw [hD] at c1
          exact absurd (nI_le (a := D) (b := i) (by omega) (by omega)) c1
      | succ k ih =>
        intro i hi
        have hin : vp_in (nI i) 288 := vp_in_nI (by omega) (by omega)
        have hcl : (nI i).toNatClampNeg = i := nI_clamp (by omega)
        have ih1 := ih (i + 1) (by omega)
        rw [← nI_1] at ih1
        have h42 : zo_oaB X c i = true → K 42 [some (.ref 23), some (.int c), some (.int (nI (zo_oa X c i))), some (.int (nI i))] [.int (nI (zo_oa X c i))] (mz_lay w h, X) := by
          intro e
          rw [show nI (zo_oa X c (i + 1)) = nI (zo_oa X c i) + 1 from (mz_cnt_t (f := zo_oaB X c) e).symm] at ih1
          iterate 6 refine hK _ _ _ _ ?_
          exact ih1
        have h46 : zo_oaB X c i = false → K 46 [some (.ref 23), some (.int c), some (.int (nI (zo_oa X c i))), some (.int (nI i))] [.int (nI (zo_oa X c i))] (mz_lay w h, X) := by
          intro e
          rw [show zo_oa X c (i + 1) = zo_oa X c i from mz_cnt_f e] at ih1
          have ez : nI (zo_oa X c i) + 0 = nI (zo_oa X c i) := by simp
          generalize nI (zo_oa X c i) = m9 at ih1 ez ⊢
          iterate 5 refine hK _ _ _ _ ?_
          rw [← ez] at ih1
          simp only [ez] at ih1
          show K 4 [some (.ref 23), some (.int c), some (.int (m9 + 0)), some (.int (nI i + 1))] [] (mz_lay w h, X)
          rw [ez]
          exact ih1
        iterate 3 refine hK _ _ _ _ ?_
        refine hK _ _ _ _ (And.intro (fun c1 => ?_) (fun c1 => ?_))
        · dsimp only at c1
          rw [hD] at c1
          exact absurd c1 (nI_ge (by omega) (by omega))
        · iterate 4 refine hK _ _ _ _ ?_
          refine hK _ _ _ _ (And.intro (hin) ?_)
          refine hK _ _ _ _ (And.intro (fun c2 => ?_) (fun c2 => ?_))
          · dsimp only at c2
            rw [hcl] at c2
            exact h46 (by simp [zo_oaB, c2])
          · dsimp only at c2
            rw [hcl] at c2
            iterate 3 refine hK _ _ _ _ ?_
            refine hK _ _ _ _ (And.intro (hin) ?_)
            refine hK _ _ _ _ ?_
            refine hK _ _ _ _ (And.intro (fun c3 => ?_) (fun c3 => ?_))
            · dsimp only at c3
              rw [hcl] at c3
              exact h42 (by simp [zo_oaB, c2, c3])
            · dsimp only at c3
              rw [hcl] at c3
              iterate 3 refine hK _ _ _ _ ?_
              refine hK _ _ _ _ (And.intro (hin) ?_)
              refine hK _ _ _ _ ?_
              refine hK _ _ _ _ (And.intro (fun c4 => ?_) (fun c4 => ?_))
              · dsimp only at c4
                rw [hcl] at c4
                exact h42 (by simp [zo_oaB, c2, c4])
              · dsimp only at c4
                rw [hcl] at c4
                exact h46 (by simp [zo_oaB, c3, c4])
    iterate 4 refine hK _ _ _ _ ?_
    exact loop D 0 (by omega)
  · exact hC.elim
theorem len_Mo_open (w h : Nat) (lay : List mz_E) (as : List Value) (X : mz_X) (Q : Int32 → mz_X → Prop) (hC : C_Mo_open w h lay as X Q) : (mz_l0 as).length ≤ 5 := by
  unfold C_Mo_open at hC
  split at hC
  · exact Nat.le_of_ble_eq_true rfl
  · exact hC.elim
theorem ok_Mo_open (w h : Nat) (lay : List mz_E) (as : List Value) (X : mz_X) (Q : Int32 → mz_X → Prop) (hC : C_Mo_open w h lay as X Q) (K : mz_K) (hK : mz_Cl (I_Mo_open w h) (mz_qi lay Q) K) : K 0 (mz_ent 5 as) [] (lay, X) := by
  unfold C_Mo_open at hC
  split at hC
  · next x y s =>
    obtain ⟨rfl, g, D, hX, hD, hD2, hq⟩ := hC
    have h38 : zo_opB w h D (zo_t X) x y s = false → K 38 (mz_ent 5 [.ref 23, .int x, .int y, .int s]) [] (mz_lay w h, zo_t X) := by
      intro e
      rw [e] at hq
      refine hK _ _ _ _ ?_
      exact hK _ _ _ _ (And.intro (Or.inl rfl) (And.intro rfl (hq)))
    iterate 3 refine hK _ _ _ _ ?_
    show K 5 (mz_ent 5 [.ref 23, .int x, .int y, .int s]) [] (mz_lay w h, zo_t X)
    have hY : zo_dim w h (zo_t X) := hX
    have hD1 : (zo_t X).1 23 5 = nI D := hD
    generalize zo_t X = Y at hq h38 hY hD1 ⊢
    refine hK _ _ _ _ ?_
    refine hK _ _ _ _ (And.intro (fun c1 => ?_) (fun c1 => ?_))
    · exact h38 (by simp [zo_opB, zo_cB, c1])
    · iterate 3 refine hK _ _ _ _ ?_
      refine hK _ _ _ _ (And.intro (fun c2 => ?_) (fun c2 => ?_))
      · dsimp only at c2
        rw [hY.1] at c2
        exact h38 (by simp [zo_opB, zo_cB, c2])
      · dsimp only at c2
        rw [hY.1] at c2
        refine hK _ _ _ _ ?_
        refine hK _ _ _ _ (And.intro (fun c3 => ?_) (fun c3 => ?_))
        · exact h38 (by simp [zo_opB, zo_cB, c3])
        · iterate 3 refine hK _ _ _ _ ?_
          refine hK _ _ _ _ (And.intro (fun c4 => ?_) (fun c4 => ?_))
          · dsimp only at c4
            rw [hY.2] at c4
            exact h38 (by simp [zo_opB, zo_cB, c4])
          · dsimp only at c4
            rw [hY.2] at c4
            refine hK _ _ _ _ ?_
            refine hK _ _ _ _ (And.intro (fun c5 => ?_) (fun c5 => ?_))
            · exact h38 (by simp [zo_opB, c5])
            · iterate 2 refine hK _ _ _ _ ?_
              refine hK _ _ _ _ (And.intro (fun c6 => ?_) (fun c6 => ?_))
              · dsimp only at c6
                obtain ⟨k, hk, ek⟩ := zo_xy g c1 c2 c3 c4
                have hn := mz_geo_n g
                have h4 : ¬ nI 4 ≤ s := by
                  have e3 : (3 : Int32).toInt = 3 := by decide
                  have e4 : (nI 4).toInt = 4 := by decide
                  rw [Int32.le_iff_toInt_le] at c6 ⊢
                  omega
                obtain ⟨s9, hs9, rfl⟩ := vp_in_of (mz_in c5 h4 (by decide)) (by decide)
                iterate 8 refine hK _ _ _ _ ?_
                refine hK _ _ _ _ (And.intro (rfl) (And.intro (g) (Exists.intro (D) (Exists.intro (k) (Exists.intro (s9) (And.intro (hY) (And.intro (hD1) (And.intro (hD2) (And.intro (hk) (And.intro (hs9) (And.intro (by dsimp only; rw [hY.1]; exact ek) (And.intro (rfl) ?_))))))))))))
                have e9 : zo_opB w h D Y x y (nI s9) = (!decide (zo_da w h D Y k s9 < 0) && !decide (Y.1 27 (zo_da w h D Y k s9).toNatClampNeg = 0)) := by
                  simp only [zo_opB, zo_cB]
                  rw [ek, nI_clamp (by omega), nI_clamp (by omega), show decide (x < 0) = false from decide_eq_false c1, show decide (nI w ≤ x) = false from decide_eq_false c2, show decide (y < 0) = false from decide_eq_false c3, show decide (nI h ≤ y) = false from decide_eq_false c4, show decide (nI s9 < 0) = false from decide_eq_false c5, show decide (nI s9 ≤ 3) = true from decide_eq_true c6]
                  rfl
                have hdb := zo_da_b (w := w) (h := h) (X := Y) (k := k) (s := s9) hD2
                rw [e9] at hq
                generalize zo_da w h D Y k s9 = dd at hq hdb ⊢
                iterate 2 refine hK _ _ _ _ ?_
                refine hK _ _ _ _ (And.intro (fun c7 => ?_) (fun c7 => ?_))
                · refine hK _ _ _ _ ?_
                  exact hK _ _ _ _ (And.intro (Or.inl rfl) (And.intro rfl (by simpa [c7, mz_b] using hq)))
                · have hin : vp_in dd 288 := by
                    rcases hdb with q | ⟨d, hd, q⟩
                    · rw [q] at c7
                      exact absurd (by decide) c7
                    · rw [q]
                      exact vp_in_nI (by omega) (by omega)
                  iterate 3 refine hK _ _ _ _ ?_
                  refine hK _ _ _ _ (And.intro (hin) ?_)
                  refine hK _ _ _ _ (And.intro (fun c8 => ?_) (fun c8 => ?_))
                  · dsimp only at c8
                    refine hK _ _ _ _ ?_
                    exact hK _ _ _ _ (And.intro (Or.inl rfl) (And.intro rfl (by simpa [c7, c8, mz_b] using hq)))
                  · dsimp only at c8
                    iterate 2 refine hK _ _ _ _ ?_
                    exact hK _ _ _ _ (And.intro (Or.inr rfl) (And.intro rfl (by simpa [c7, c8, mz_b] using hq)))
              · dsimp only at c6
                exact h38 (by simp [zo_opB, c6])
  · exact hC.elim
set_option maxRecDepth 20000 in
theorem snd_Mo_beside (w h : Nat) (l : Launch) (p : Program) (e : Env) (s : State) (m : MethodId) (args : Array Value) (below : List Frame) (meth : Method) (c : Code) (D : va_G) (ad0 : Nat → Nat) (cA0 : Nat → ClassId) (A : Nat → Prop) (lay : List mz_E) (Q : Int32 → mz_X → Prop) (F : mz_F p s m args meth c prog_11_method_9_code 3 y_Mo_beside.cls (some .int) w_Mo_beside) (hA : ∀ q, s.heap.size ≤ q → A q) : mz_All (mz_V p l e (mz_rm 1 20) s m args below meth c 3 lay.length (mz_sz lay) D mz_cls (mz_G0 ad0 cA0) A (MQ below (va_Qi Q (mz_B D mz_cls ad0 cA0 lay A) A) args s 0 0 A)) (mz_qi lay Q) (I_Mo_beside w h) := by
  obtain ⟨hx, hb, hml, hown, hts, hr, hlk⟩ := F
  unfold I_Mo_beside
  refine mz_All.cons (sd_iload_n hx hb (mz_dg d_Mo_beside 0 0 (.iload_n 2) 1 rfl) rfl) ?_
  refine mz_All.cons (sd_tsw hx hb (mz_dg d_Mo_beside 1 1 (.tableswitch (81) (0) (2) #[27, 34, 57]) 27 rfl) (by decide) (by decide) (by decide)) ?_
  refine mz_All.cons (sd_iload_n hx hb (mz_dg d_Mo_beside 2 28 (.iload_n 1) 1 rfl) rfl) ?_
  refine mz_All.cons (sd_aload_n hx hb (mz_dg d_Mo_beside 3 29 (.aload_n 0) 1 rfl) rfl) ?_
  refine mz_All.cons (sd_get (k := 1) hx hb hts (mz_inC in_Mo) hown (T := T_Mo) (N := 19) rfl (by decide) (hts (.fieldLink "MazeFormsModel" 52 "MazeFormsModel" "width" "I") (List.mem_cons_of_mem _ wm_729)) (fun _ h => h) (mz_dg d_Mo_beside 4 30 (.getfield 52) 3 rfl)) ?_
  refine mz_All.cons (sd_isub hx hb (mz_dg d_Mo_beside 5 33 (.isub) 1 rfl)) ?_
  refine mz_All.cons (sd_ri hx hb hr hlk (mz_dg d_Mo_beside 6 34 (.ireturn) 1 rfl)) ?_
  refine mz_All.cons (sd_iload_n hx hb (mz_dg d_Mo_beside 7 35 (.iload_n 1) 1 rfl) rfl) ?_
  refine mz_All.cons (sd_aload_n hx hb (mz_dg d_Mo_beside 8 36 (.aload_n 0) 1 rfl) rfl) ?_
  refine mz_All.cons (sd_get (k := 1) hx hb hts (mz_inC in_Mo) hown (T := T_Mo) (N := 19) rfl (by decide) (hts (.fieldLink "MazeFormsModel" 52 "MazeFormsModel" "width" "I") (List.mem_cons_of_mem _ wm_729)) (fun _ h => h) (mz_dg d_Mo_beside 9 37 (.getfield 52) 3 rfl)) ?_
  refine mz_All.cons (sd_irem hx hb (mz_dg d_Mo_beside 10 40 (.irem) 1 rfl)) ?_
  refine mz_All.cons (sd_aload_n hx hb (mz_dg d_Mo_beside 11 41 (.aload_n 0) 1 rfl) rfl) ?_
  refine mz_All.cons (sd_get (k := 1) hx hb hts (mz_inC in_Mo) hown (T := T_Mo) (N := 19) rfl (by decide) (hts (.fieldLink "MazeFormsModel" 52 "MazeFormsModel" "width" "I") (List.mem_cons_of_mem _ wm_729)) (fun _ h => h) (mz_dg d_Mo_beside 12 42 (.getfield 52) 3 rfl)) ?_
  refine mz_All.cons (sd_iconst hx hb (mz_dg d_Mo_beside 13 45 (.iconst (1)) 1 rfl) (by decide)) ?_
  refine mz_All.cons (sd_isub hx hb (mz_dg d_Mo_beside 14 46 (.isub) 1 rfl)) ?_
  refine mz_All.cons (sd_icmp_ge hx hb (mz_dg d_Mo_beside 15 47 (.if_icmp .ge (9)) 3 rfl) (by decide)) ?_
  refine mz_All.cons (sd_iload_n hx hb (mz_dg d_Mo_beside 16 50 (.iload_n 1) 1 rfl) rfl) ?_
  refine mz_All.cons (sd_iconst hx hb (mz_dg d_Mo_beside 17 51 (.iconst (1)) 1 rfl) (by decide)) ?_
  refine mz_All.cons (sd_iadd hx hb (mz_dg d_Mo_beside 18 52 (.iadd) 1 rfl)) ?_
  refine mz_All.cons (sd_goto hx hb (mz_dg d_Mo_beside 19 53 (.goto (4)) 3 rfl) (by decide)) ?_
  refine mz_All.cons (sd_iconst hx hb (mz_dg d_Mo_beside 20 56 (.iconst (-1)) 1 rfl) (by decide)) ?_
  refine mz_All.cons (sd_ri hx hb hr hlk (mz_dg d_Mo_beside 21 57 (.ireturn) 1 rfl)) ?_
  refine mz_All.cons (sd_iload_n hx hb (mz_dg d_Mo_beside 22 58 (.iload_n 1) 1 rfl) rfl) ?_
  refine mz_All.cons (sd_aload_n hx hb (mz_dg d_Mo_beside 23 59 (.aload_n 0) 1 rfl) rfl) ?_
  refine mz_All.cons (sd_get (k := 1) hx hb hts (mz_inC in_Mo) hown (T := T_Mo) (N := 19) rfl (by decide) (hts (.fieldLink "MazeFormsModel" 52 "MazeFormsModel" "width" "I") (List.mem_cons_of_mem _ wm_729)) (fun _ h => h) (mz_dg d_Mo_beside 24 60 (.getfield 52) 3 rfl)) ?_
  refine mz_All.cons (sd_iadd hx hb (mz_dg d_Mo_beside 25 63 (.iadd) 1 rfl)) ?_
  refine mz_All.cons (sd_aload_n hx hb (mz_dg d_Mo_beside 26 64 (.aload_n 0) 1 rfl) rfl) ?_
  refine mz_All.cons (sd_calli (T := T_Mo) ⟨hx, hb, hml, hown, hts⟩ (met_Mo_cells w h l) (cwV 0 hts (mz_gV wm_720 wm_722 wm_40 wm_77 wm_723) rfl rfl rfl (by decide) ⟨by decide, by decide⟩) rfl hA rfl (mz_dg d_Mo_beside 27 65 (.invokevirtual 68) 3 rfl)) ?_
  refine mz_All.cons (sd_icmp_ge hx hb (mz_dg d_Mo_beside 28 68 (.if_icmp .ge (12)) 3 rfl) (by decide)) ?_
  refine mz_All.cons (sd_iload_n hx hb (mz_dg d_Mo_beside 29 71 (.iload_n 1) 1 rfl) rfl) ?_
  refine mz_All.cons (sd_aload_n hx hb (mz_dg d_Mo_beside 30 72 (.aload_n 0) 1 rfl) rfl) ?_
  refine mz_All.cons (sd_get (k := 1) hx hb hts (mz_inC in_Mo) hown (T := T_Mo) (N := 19) rfl (by decide) (hts (.fieldLink "MazeFormsModel" 52 "MazeFormsModel" "width" "I") (List.mem_cons_of_mem _ wm_729)) (fun _ h => h) (mz_dg d_Mo_beside 31 73 (.getfield 52) 3 rfl)) ?_
  refine mz_All.cons (sd_iadd hx hb (mz_dg d_Mo_beside 32 76 (.iadd) 1 rfl)) ?_
  refine mz_All.cons (sd_goto hx hb (mz_dg d_Mo_beside 33 77 (.goto (4)) 3 rfl) (by decide)) ?_
  refine mz_All.cons (sd_iconst hx hb (mz_dg d_Mo_beside 34 80 (.iconst (-1)) 1 rfl) (by decide)) ?_
  refine mz_All.cons (sd_ri hx hb hr hlk (mz_dg d_Mo_beside 35 81 (.ireturn) 1 rfl)) ?_
  refine mz_All.cons (sd_iload_n hx hb (mz_dg d_Mo_beside 36 82 (.iload_n 1) 1 rfl) rfl) ?_
  refine mz_All.cons (sd_aload_n hx hb (mz_dg d_Mo_beside 37 83 (.aload_n 0) 1 rfl) rfl) ?_
  refine mz_All.cons (sd_get (k := 1) hx hb hts (mz_inC in_Mo) hown (T := T_Mo) (N := 19) rfl (by decide) (hts (.fieldLink "MazeFormsModel" 52 "MazeFormsModel" "width" "I") (List.mem_cons_of_mem _ wm_729)) (fun _ h => h) (mz_dg d_Mo_beside 38 84 (.getfield 52) 3 rfl)) ?_
  refine mz_All.cons (sd_irem hx hb (mz_dg d_Mo_beside 39 87 (.irem) 1 rfl)) ?_
  refine mz_All.cons (sd_if_le hx hb (mz_dg d_Mo_beside 40 88 (.ifCond .le (9)) 3 rfl) (by decide)) ?_
  refine mz_All.cons (sd_iload_n hx hb (mz_dg d_Mo_beside 41 91 (.iload_n 1) 1 rfl) rfl) ?_
  refine mz_All.cons (sd_iconst hx hb (mz_dg d_Mo_beside 42 92 (.iconst (1)) 1 rfl) (by decide)) ?_
  refine mz_All.cons (sd_isub hx hb (mz_dg d_Mo_beside 43 93 (.isub) 1 rfl)) ?_
  refine mz_All.cons (sd_goto hx hb (mz_dg d_Mo_beside 44 94 (.goto (4)) 3 rfl) (by decide)) ?_
  refine mz_All.cons (sd_iconst hx hb (mz_dg d_Mo_beside 45 97 (.iconst (-1)) 1 rfl) (by decide)) ?_
  refine mz_All.cons (sd_ri hx hb hr hlk (mz_dg d_Mo_beside 46 98 (.ireturn) 1 rfl)) ?_
  exact trivial
theorem met_Mo_beside (w h : Nat) (l : Launch) : mz_MI l y_Mo_beside w_Mo_beside 1 20 mz_cls (C_Mo_beside w h) := mz_MI_of (I_Mo_beside w h) (by decide) rfl (len_Mo_beside w h) (ok_Mo_beside w h) (snd_Mo_beside w h l)
set_option maxRecDepth 20000 in
theorem snd_Mo_doorAt (w h : Nat) (l : Launch) (p : Program) (e : Env) (s : State) (m : MethodId) (args : Array Value) (below : List Frame) (meth : Method) (c : Code) (D : va_G) (ad0 : Nat → Nat) (cA0 : Nat → ClassId) (A : Nat → Prop) (lay : List mz_E) (Q : Int32 → mz_X → Prop) (F : mz_F p s m args meth c prog_11_method_11_code 4 y_Mo_doorAt.cls (some .int) w_Mo_doorAt) (hA : ∀ q, s.heap.size ≤ q → A q) : mz_All (mz_V p l e (mz_rm 2 42) s m args below meth c 4 lay.length (mz_sz lay) D mz_cls (mz_G0 ad0 cA0) A (MQ below (va_Qi Q (mz_B D mz_cls ad0 cA0 lay A) A) args s 0 0 A)) (mz_qi lay Q) (I_Mo_doorAt w h) := by
  obtain ⟨hx, hb, hml, hown, hts, hr, hlk⟩ := F
  unfold I_Mo_doorAt
  refine mz_All.cons (sd_aload_n hx hb (mz_dg d_Mo_doorAt 0 0 (.aload_n 0) 1 rfl) rfl) ?_
  refine mz_All.cons (sd_iload_n hx hb (mz_dg d_Mo_doorAt 1 1 (.iload_n 1) 1 rfl) rfl) ?_
  refine mz_All.cons (sd_iload_n hx hb (mz_dg d_Mo_doorAt 2 2 (.iload_n 2) 1 rfl) rfl) ?_
  refine mz_All.cons (sd_calli (T := T_Mo) ⟨hx, hb, hml, hown, hts⟩ (met_Mo_beside w h l) (cwV 2 hts (mz_gV wm_810 wm_812 wm_46 wm_77 wm_813) rfl rfl rfl (by decide) ⟨by decide, by decide⟩) rfl hA rfl (mz_dg d_Mo_doorAt 3 3 (.invokevirtual 83) 3 rfl)) ?_
  refine mz_All.cons (sd_istore_n hx hb (mz_dg d_Mo_doorAt 4 6 (.istore_n 3) 1 rfl) rfl (by decide)) ?_
  refine mz_All.cons (sd_aload_n hx hb (mz_dg d_Mo_doorAt 5 7 (.aload_n 0) 1 rfl) rfl) ?_
  refine mz_All.cons (sd_iload_n hx hb (mz_dg d_Mo_doorAt 6 8 (.iload_n 1) 1 rfl) rfl) ?_
  refine mz_All.cons (sd_calli (T := T_Mo) ⟨hx, hb, hml, hown, hts⟩ (met_Mo_isCell w h l) (cwV 1 hts (mz_gV wm_814 wm_816 wm_47 wm_77 wm_817) rfl rfl rfl (by decide) ⟨by decide, by decide⟩) rfl hA rfl (mz_dg d_Mo_doorAt 7 9 (.invokevirtual 87) 3 rfl)) ?_
  refine mz_All.cons (sd_if_eq hx hb (mz_dg d_Mo_doorAt 8 12 (.ifCond .eq (20)) 3 rfl) (by decide)) ?_
  refine mz_All.cons (sd_aload_n hx hb (mz_dg d_Mo_doorAt 9 15 (.aload_n 0) 1 rfl) rfl) ?_
  refine mz_All.cons (sd_iload_n hx hb (mz_dg d_Mo_doorAt 10 16 (.iload_n 3) 1 rfl) rfl) ?_
  refine mz_All.cons (sd_calli (T := T_Mo) ⟨hx, hb, hml, hown, hts⟩ (met_Mo_isCell w h l) (cwV 1 hts (mz_gV wm_814 wm_816 wm_47 wm_77 wm_817) rfl rfl rfl (by decide) ⟨by decide, by decide⟩) rfl hA rfl (mz_dg d_Mo_doorAt 11 17 (.invokevirtual 87) 3 rfl)) ?_
  refine mz_All.cons (sd_if_eq hx hb (mz_dg d_Mo_doorAt 12 20 (.ifCond .eq (12)) 3 rfl) (by decide)) ?_
  refine mz_All.cons (sd_aload_n hx hb (mz_dg d_Mo_doorAt 13 23 (.aload_n 0) 1 rfl) rfl) ?_
  refine mz_All.cons (sd_iload_n hx hb (mz_dg d_Mo_doorAt 14 24 (.iload_n 1) 1 rfl) rfl) ?_
  refine mz_All.cons (sd_iload_n hx hb (mz_dg d_Mo_doorAt 15 25 (.iload_n 3) 1 rfl) rfl) ?_
  refine mz_All.cons (sd_calli (T := T_Mo) ⟨hx, hb, hml, hown, hts⟩ (met_Mo_doorOf w h l) (cwV 2 hts (mz_gV wm_818 wm_820 wm_48 wm_77 wm_821) rfl rfl rfl (by decide) ⟨by decide, by decide⟩) rfl hA rfl (mz_dg d_Mo_doorAt 16 26 (.invokevirtual 91) 3 rfl)) ?_
  refine mz_All.cons (sd_goto hx hb (mz_dg d_Mo_doorAt 17 29 (.goto (4)) 3 rfl) (by decide)) ?_
  refine mz_All.cons (sd_iconst hx hb (mz_dg d_Mo_doorAt 18 32 (.iconst (-1)) 1 rfl) (by decide)) ?_
  refine mz_All.cons (sd_ri hx hb hr hlk (mz_dg d_Mo_doorAt 19 33 (.ireturn) 1 rfl)) ?_
  exact trivial
theorem met_Mo_doorAt (w h : Nat) (l : Launch) : mz_MI l y_Mo_doorAt w_Mo_doorAt 2 42 mz_cls (C_Mo_doorAt w h) := mz_MI_of (I_Mo_doorAt w h) (by decide) rfl (len_Mo_doorAt w h) (ok_Mo_doorAt w h) (snd_Mo_doorAt w h l)
set_option maxRecDepth 20000 in
theorem snd_Mo_mask (w h : Nat) (l : Launch) (p : Program) (e : Env) (s : State) (m : MethodId) (args : Array Value) (below : List Frame) (meth : Method) (c : Code) (D : va_G) (ad0 : Nat → Nat) (cA0 : Nat → ClassId) (A : Nat → Prop) (lay : List mz_E) (Q : Int32 → mz_X → Prop) (F : mz_F p s m args meth c prog_11_method_7_code 4 y_Mo_mask.cls (some .boolean) w_Mo_mask) (hA : ∀ q, s.heap.size ≤ q → A q) : mz_All (mz_V p l e (mz_rm 2 43) s m args below meth c 4 lay.length (mz_sz lay) D mz_cls (mz_G0 ad0 cA0) A (MQ below (va_Qi Q (mz_B D mz_cls ad0 cA0 lay A) A) args s 0 0 A)) (mz_qi lay Q) (I_Mo_mask w h) := by
  obtain ⟨hx, hb, hml, hown, hts, hr, hlk⟩ := F
  unfold I_Mo_mask
  refine mz_All.cons (sd_aload_n hx hb (mz_dg d_Mo_mask 0 0 (.aload_n 0) 1 rfl) rfl) ?_
  refine mz_All.cons (sd_iconst hx hb (mz_dg d_Mo_mask 1 1 (.iconst (0)) 1 rfl) (by decide)) ?_
  refine mz_All.cons (sd_puti (k := 0) hx hb hts (mz_inC in_Mo) ty_Mo ty_Mo_ok nm_Mo hown (T := T_Mo) (N := 19) rfl (by decide) (hts (.fieldLink "MazeFormsModel" 65 "MazeFormsModel" "thrown" "I") (List.mem_cons_of_mem _ wm_728)) (fun _ h => h) rfl rfl (mz_dg d_Mo_mask 2 2 (.putfield 65) 3 rfl)) ?_
  refine mz_All.cons (sd_iload_n hx hb (mz_dg d_Mo_mask 3 5 (.iload_n 1) 1 rfl) rfl) ?_
  refine mz_All.cons (sd_if_lt hx hb (mz_dg d_Mo_mask 4 6 (.ifCond .lt (40)) 3 rfl) (by decide)) ?_
  refine mz_All.cons (sd_iload_n hx hb (mz_dg d_Mo_mask 5 9 (.iload_n 1) 1 rfl) rfl) ?_
  refine mz_All.cons (sd_aload_n hx hb (mz_dg d_Mo_mask 6 10 (.aload_n 0) 1 rfl) rfl) ?_
  refine mz_All.cons (sd_get (k := 1) hx hb hts (mz_inC in_Mo) hown (T := T_Mo) (N := 19) rfl (by decide) (hts (.fieldLink "MazeFormsModel" 52 "MazeFormsModel" "width" "I") (List.mem_cons_of_mem _ wm_729)) (fun _ h => h) (mz_dg d_Mo_mask 7 11 (.getfield 52) 3 rfl)) ?_
  refine mz_All.cons (sd_icmp_ge hx hb (mz_dg d_Mo_mask 8 14 (.if_icmp .ge (32)) 3 rfl) (by decide)) ?_
  refine mz_All.cons (sd_iload_n hx hb (mz_dg d_Mo_mask 9 17 (.iload_n 2) 1 rfl) rfl) ?_
  refine mz_All.cons (sd_if_lt hx hb (mz_dg d_Mo_mask 10 18 (.ifCond .lt (28)) 3 rfl) (by decide)) ?_
  refine mz_All.cons (sd_iload_n hx hb (mz_dg d_Mo_mask 11 21 (.iload_n 2) 1 rfl) rfl) ?_
  refine mz_All.cons (sd_aload_n hx hb (mz_dg d_Mo_mask 12 22 (.aload_n 0) 1 rfl) rfl) ?_
  refine mz_All.cons (sd_get (k := 2) hx hb hts (mz_inC in_Mo) hown (T := T_Mo) (N := 19) rfl (by decide) (hts (.fieldLink "MazeFormsModel" 55 "MazeFormsModel" "height" "I") (List.mem_cons_of_mem _ wm_730)) (fun _ h => h) (mz_dg d_Mo_mask 13 23 (.getfield 55) 3 rfl)) ?_
  refine mz_All.cons (sd_icmp_ge hx hb (mz_dg d_Mo_mask 14 26 (.if_icmp .ge (20)) 3 rfl) (by decide)) ?_
  refine mz_All.cons (sd_aload_n hx hb (mz_dg d_Mo_mask 15 29 (.aload_n 0) 1 rfl) rfl) ?_
  refine mz_All.cons (sd_get (k := 4) hx hb hts (mz_inC in_Mo) hown (T := T_Mo) (N := 19) rfl (by decide) (hts (.fieldLink "MazeFormsModel" 7 "MazeFormsModel" "masked" "[Z") (List.mem_cons_of_mem _ wm_732)) (fun _ h => h) (mz_dg d_Mo_mask 16 30 (.getfield 7) 3 rfl)) ?_
  refine mz_All.cons (sd_aload_n hx hb (mz_dg d_Mo_mask 17 33 (.aload_n 0) 1 rfl) rfl) ?_
  refine mz_All.cons (sd_get (k := 1) hx hb hts (mz_inC in_Mo) hown (T := T_Mo) (N := 19) rfl (by decide) (hts (.fieldLink "MazeFormsModel" 52 "MazeFormsModel" "width" "I") (List.mem_cons_of_mem _ wm_729)) (fun _ h => h) (mz_dg d_Mo_mask 18 34 (.getfield 52) 3 rfl)) ?_
  refine mz_All.cons (sd_iload_n hx hb (mz_dg d_Mo_mask 19 37 (.iload_n 2) 1 rfl) rfl) ?_
  refine mz_All.cons (sd_imul hx hb (mz_dg d_Mo_mask 20 38 (.imul) 1 rfl)) ?_
  refine mz_All.cons (sd_iload_n hx hb (mz_dg d_Mo_mask 21 39 (.iload_n 1) 1 rfl) rfl) ?_
  refine mz_All.cons (sd_iadd hx hb (mz_dg d_Mo_mask 22 40 (.iadd) 1 rfl)) ?_
  refine mz_All.cons (sd_zald hx hb (mz_dg d_Mo_mask 23 41 (.baload) 1 rfl)) ?_
  refine mz_All.cons (sd_iload_n hx hb (mz_dg d_Mo_mask 24 42 (.iload_n 3) 1 rfl) rfl) ?_
  refine mz_All.cons (sd_icmp_ne hx hb (mz_dg d_Mo_mask 25 43 (.if_icmp .ne (5)) 3 rfl) (by decide)) ?_
  refine mz_All.cons (sd_iconst hx hb (mz_dg d_Mo_mask 26 46 (.iconst (0)) 1 rfl) (by decide)) ?_
  refine mz_All.cons (sd_rz hx hb hr hlk (mz_dg d_Mo_mask 27 47 (.ireturn) 1 rfl)) ?_
  refine mz_All.cons (sd_aload_n hx hb (mz_dg d_Mo_mask 28 48 (.aload_n 0) 1 rfl) rfl) ?_
  refine mz_All.cons (sd_get (k := 4) hx hb hts (mz_inC in_Mo) hown (T := T_Mo) (N := 19) rfl (by decide) (hts (.fieldLink "MazeFormsModel" 7 "MazeFormsModel" "masked" "[Z") (List.mem_cons_of_mem _ wm_732)) (fun _ h => h) (mz_dg d_Mo_mask 29 49 (.getfield 7) 3 rfl)) ?_
  refine mz_All.cons (sd_aload_n hx hb (mz_dg d_Mo_mask 30 52 (.aload_n 0) 1 rfl) rfl) ?_
  refine mz_All.cons (sd_get (k := 1) hx hb hts (mz_inC in_Mo) hown (T := T_Mo) (N := 19) rfl (by decide) (hts (.fieldLink "MazeFormsModel" 52 "MazeFormsModel" "width" "I") (List.mem_cons_of_mem _ wm_729)) (fun _ h => h) (mz_dg d_Mo_mask 31 53 (.getfield 52) 3 rfl)) ?_
  refine mz_All.cons (sd_iload_n hx hb (mz_dg d_Mo_mask 32 56 (.iload_n 2) 1 rfl) rfl) ?_
  refine mz_All.cons (sd_imul hx hb (mz_dg d_Mo_mask 33 57 (.imul) 1 rfl)) ?_
  refine mz_All.cons (sd_iload_n hx hb (mz_dg d_Mo_mask 34 58 (.iload_n 1) 1 rfl) rfl) ?_
  refine mz_All.cons (sd_iadd hx hb (mz_dg d_Mo_mask 35 59 (.iadd) 1 rfl)) ?_
  refine mz_All.cons (sd_iload_n hx hb (mz_dg d_Mo_mask 36 60 (.iload_n 3) 1 rfl) rfl) ?_
  refine mz_All.cons (sd_zast hx hb (mz_dg d_Mo_mask 37 61 (.bastore) 1 rfl)) ?_
  refine mz_All.cons (sd_aload_n hx hb (mz_dg d_Mo_mask 38 62 (.aload_n 0) 1 rfl) rfl) ?_
  refine mz_All.cons (sd_callv (T := T_Mo) ⟨hx, hb, hml, hown, hts⟩ (met_Mo_number w h l) (cwV 0 hts (mz_gV wm_716 wm_718 wm_39 wm_77 wm_719) rfl rfl rfl (by decide) ⟨by decide, by decide⟩) rfl hA rfl (mz_dg d_Mo_mask 39 63 (.invokevirtual 62) 3 rfl)) ?_
  refine mz_All.cons (sd_iconst hx hb (mz_dg d_Mo_mask 40 66 (.iconst (1)) 1 rfl) (by decide)) ?_
  refine mz_All.cons (sd_rz hx hb hr hlk (mz_dg d_Mo_mask 41 67 (.ireturn) 1 rfl)) ?_
  exact trivial
theorem met_Mo_mask (w h : Nat) (l : Launch) : mz_MI l y_Mo_mask w_Mo_mask 2 43 mz_cls (C_Mo_mask w h) := mz_MI_of (I_Mo_mask w h) (by decide) rfl (len_Mo_mask w h) (ok_Mo_mask w h) (snd_Mo_mask w h l)
set_option maxRecDepth 20000 in
theorem snd_Mo_at (w h : Nat) (l : Launch) (p : Program) (e : Env) (s : State) (m : MethodId) (args : Array Value) (below : List Frame) (meth : Method) (c : Code) (D : va_G) (ad0 : Nat → Nat) (cA0 : Nat → ClassId) (A : Nat → Prop) (lay : List mz_E) (Q : Int32 → mz_X → Prop) (F : mz_F p s m args meth c prog_11_method_30_code 2 y_Mo_at.cls (some .int) w_Mo_at) (hA : ∀ q, s.heap.size ≤ q → A q) : mz_All (mz_V p l e (mz_rm 0 0) s m args below meth c 2 lay.length (mz_sz lay) D mz_cls (mz_G0 ad0 cA0) A (MQ below (va_Qi Q (mz_B D mz_cls ad0 cA0 lay A) A) args s 0 0 A)) (mz_qi lay Q) (I_Mo_at w h) := by
  obtain ⟨hx, hb, hml, hown, hts, hr, hlk⟩ := F
  unfold I_Mo_at
  refine mz_All.cons (sd_aload_n hx hb (mz_dg d_Mo_at 0 0 (.aload_n 0) 1 rfl) rfl) ?_
  refine mz_All.cons (sd_iconst hx hb (mz_dg d_Mo_at 1 1 (.iconst (0)) 1 rfl) (by decide)) ?_
  refine mz_All.cons (sd_puti (k := 0) hx hb hts (mz_inC in_Mo) ty_Mo ty_Mo_ok nm_Mo hown (T := T_Mo) (N := 19) rfl (by decide) (hts (.fieldLink "MazeFormsModel" 65 "MazeFormsModel" "thrown" "I") (List.mem_cons_of_mem _ wm_728)) (fun _ h => h) rfl rfl (mz_dg d_Mo_at 2 2 (.putfield 65) 3 rfl)) ?_
  refine mz_All.cons (sd_aload_n hx hb (mz_dg d_Mo_at 3 5 (.aload_n 0) 1 rfl) rfl) ?_
  refine mz_All.cons (sd_get (k := 15) hx hb hts (mz_inC in_Mo) hown (T := T_Mo) (N := 19) rfl (by decide) (hts (.fieldLink "MazeFormsModel" 38 "MazeFormsModel" "length" "I") (List.mem_cons_of_mem _ wm_743)) (fun _ h => h) (mz_dg d_Mo_at 4 6 (.getfield 38) 3 rfl)) ?_
  refine mz_All.cons (sd_if_lt hx hb (mz_dg d_Mo_at 5 9 (.ifCond .lt (24)) 3 rfl) (by decide)) ?_
  refine mz_All.cons (sd_iload_n hx hb (mz_dg d_Mo_at 6 12 (.iload_n 1) 1 rfl) rfl) ?_
  refine mz_All.cons (sd_if_lt hx hb (mz_dg d_Mo_at 7 13 (.ifCond .lt (20)) 3 rfl) (by decide)) ?_
  refine mz_All.cons (sd_iload_n hx hb (mz_dg d_Mo_at 8 16 (.iload_n 1) 1 rfl) rfl) ?_
  refine mz_All.cons (sd_aload_n hx hb (mz_dg d_Mo_at 9 17 (.aload_n 0) 1 rfl) rfl) ?_
  refine mz_All.cons (sd_get (k := 15) hx hb hts (mz_inC in_Mo) hown (T := T_Mo) (N := 19) rfl (by decide) (hts (.fieldLink "MazeFormsModel" 38 "MazeFormsModel" "length" "I") (List.mem_cons_of_mem _ wm_743)) (fun _ h => h) (mz_dg d_Mo_at 10 18 (.getfield 38) 3 rfl)) ?_
  refine mz_All.cons (sd_icmp_gt hx hb (mz_dg d_Mo_at 11 21 (.if_icmp .gt (12)) 3 rfl) (by decide)) ?_
  refine mz_All.cons (sd_aload_n hx hb (mz_dg d_Mo_at 12 24 (.aload_n 0) 1 rfl) rfl) ?_
  refine mz_All.cons (sd_get (k := 16) hx hb hts (mz_inC in_Mo) hown (T := T_Mo) (N := 19) rfl (by decide) (hts (.fieldLink "MazeFormsModel" 42 "MazeFormsModel" "path" "[I") (List.mem_cons_of_mem _ wm_744)) (fun _ h => h) (mz_dg d_Mo_at 13 25 (.getfield 42) 3 rfl)) ?_
  refine mz_All.cons (sd_iload_n hx hb (mz_dg d_Mo_at 14 28 (.iload_n 1) 1 rfl) rfl) ?_
  refine mz_All.cons (sd_iald hx hb (mz_dg d_Mo_at 15 29 (.iaload) 1 rfl)) ?_
  refine mz_All.cons (sd_goto hx hb (mz_dg d_Mo_at 16 30 (.goto (4)) 3 rfl) (by decide)) ?_
  refine mz_All.cons (sd_iconst hx hb (mz_dg d_Mo_at 17 33 (.iconst (-1)) 1 rfl) (by decide)) ?_
  refine mz_All.cons (sd_ri hx hb hr hlk (mz_dg d_Mo_at 18 34 (.ireturn) 1 rfl)) ?_
  exact trivial
theorem met_Mo_at (w h : Nat) (l : Launch) : mz_MI l y_Mo_at w_Mo_at 0 0 mz_cls (C_Mo_at w h) := mz_MI_of (I_Mo_at w h) (by decide) rfl (len_Mo_at w h) (ok_Mo_at w h) (snd_Mo_at w h l)
set_option maxRecDepth 20000 in
theorem snd_Mo_openAt (w h : Nat) (l : Launch) (p : Program) (e : Env) (s : State) (m : MethodId) (args : Array Value) (below : List Frame) (meth : Method) (c : Code) (D : va_G) (ad0 : Nat → Nat) (cA0 : Nat → ClassId) (A : Nat → Prop) (lay : List mz_E) (Q : Int32 → mz_X → Prop) (F : mz_F p s m args meth c prog_11_method_31_code 4 y_Mo_openAt.cls (some .int) w_Mo_openAt) (hA : ∀ q, s.heap.size ≤ q → A q) : mz_All (mz_V p l e (mz_rm 0 0) s m args below meth c 4 lay.length (mz_sz lay) D mz_cls (mz_G0 ad0 cA0) A (MQ below (va_Qi Q (mz_B D mz_cls ad0 cA0 lay A) A) args s 0 0 A)) (mz_qi lay Q) (I_Mo_openAt w h) := by
  obtain ⟨hx, hb, hml, hown, hts, hr, hlk⟩ := F
  unfold I_Mo_openAt
  refine mz_All.cons (sd_iconst hx hb (mz_dg d_Mo_openAt 0 0 (.iconst (0)) 1 rfl) (by decide)) ?_
  refine mz_All.cons (sd_istore_n hx hb (mz_dg d_Mo_openAt 1 1 (.istore_n 2) 1 rfl) rfl (by decide)) ?_
  refine mz_All.cons (sd_iconst hx hb (mz_dg d_Mo_openAt 2 2 (.iconst (0)) 1 rfl) (by decide)) ?_
  refine mz_All.cons (sd_istore_n hx hb (mz_dg d_Mo_openAt 3 3 (.istore_n 3) 1 rfl) rfl (by decide)) ?_
  refine mz_All.cons (sd_iload_n hx hb (mz_dg d_Mo_openAt 4 4 (.iload_n 3) 1 rfl) rfl) ?_
  refine mz_All.cons (sd_aload_n hx hb (mz_dg d_Mo_openAt 5 5 (.aload_n 0) 1 rfl) rfl) ?_
  refine mz_All.cons (sd_get (k := 5) hx hb hts (mz_inC in_Mo) hown (T := T_Mo) (N := 19) rfl (by decide) (hts (.fieldLink "MazeFormsModel" 72 "MazeFormsModel" "doors" "I") (List.mem_cons_of_mem _ wm_733)) (fun _ h => h) (mz_dg d_Mo_openAt 6 6 (.getfield 72) 3 rfl)) ?_
  refine mz_All.cons (sd_icmp_ge hx hb (mz_dg d_Mo_openAt 7 9 (.if_icmp .ge (46)) 3 rfl) (by decide)) ?_
  refine mz_All.cons (sd_iload_n hx hb (mz_dg d_Mo_openAt 8 12 (.iload_n 2) 1 rfl) rfl) ?_
  refine mz_All.cons (sd_aload_n hx hb (mz_dg d_Mo_openAt 9 13 (.aload_n 0) 1 rfl) rfl) ?_
  refine mz_All.cons (sd_get (k := 8) hx hb hts (mz_inC in_Mo) hown (T := T_Mo) (N := 19) rfl (by decide) (hts (.fieldLink "MazeFormsModel" 20 "MazeFormsModel" "isOpen" "[Z") (List.mem_cons_of_mem _ wm_736)) (fun _ h => h) (mz_dg d_Mo_openAt 10 14 (.getfield 20) 3 rfl)) ?_
  refine mz_All.cons (sd_iload_n hx hb (mz_dg d_Mo_openAt 11 17 (.iload_n 3) 1 rfl) rfl) ?_
  refine mz_All.cons (sd_zald hx hb (mz_dg d_Mo_openAt 12 18 (.baload) 1 rfl)) ?_
  refine mz_All.cons (sd_if_eq hx hb (mz_dg d_Mo_openAt 13 19 (.ifCond .eq (27)) 3 rfl) (by decide)) ?_
  refine mz_All.cons (sd_aload_n hx hb (mz_dg d_Mo_openAt 14 22 (.aload_n 0) 1 rfl) rfl) ?_
  refine mz_All.cons (sd_get (k := 6) hx hb hts (mz_inC in_Mo) hown (T := T_Mo) (N := 19) rfl (by decide) (hts (.fieldLink "MazeFormsModel" 13 "MazeFormsModel" "first" "[I") (List.mem_cons_of_mem _ wm_734)) (fun _ h => h) (mz_dg d_Mo_openAt 15 23 (.getfield 13) 3 rfl)) ?_
  refine mz_All.cons (sd_iload_n hx hb (mz_dg d_Mo_openAt 16 26 (.iload_n 3) 1 rfl) rfl) ?_
  refine mz_All.cons (sd_iald hx hb (mz_dg d_Mo_openAt 17 27 (.iaload) 1 rfl)) ?_
  refine mz_All.cons (sd_iload_n hx hb (mz_dg d_Mo_openAt 18 28 (.iload_n 1) 1 rfl) rfl) ?_
  refine mz_All.cons (sd_icmp_eq hx hb (mz_dg d_Mo_openAt 19 29 (.if_icmp .eq (13)) 3 rfl) (by decide)) ?_
  refine mz_All.cons (sd_aload_n hx hb (mz_dg d_Mo_openAt 20 32 (.aload_n 0) 1 rfl) rfl) ?_
  refine mz_All.cons (sd_get (k := 7) hx hb hts (mz_inC in_Mo) hown (T := T_Mo) (N := 19) rfl (by decide) (hts (.fieldLink "MazeFormsModel" 17 "MazeFormsModel" "second" "[I") (List.mem_cons_of_mem _ wm_735)) (fun _ h => h) (mz_dg d_Mo_openAt 21 33 (.getfield 17) 3 rfl)) ?_
  refine mz_All.cons (sd_iload_n hx hb (mz_dg d_Mo_openAt 22 36 (.iload_n 3) 1 rfl) rfl) ?_
  refine mz_All.cons (sd_iald hx hb (mz_dg d_Mo_openAt 23 37 (.iaload) 1 rfl)) ?_
  refine mz_All.cons (sd_iload_n hx hb (mz_dg d_Mo_openAt 24 38 (.iload_n 1) 1 rfl) rfl) ?_
  refine mz_All.cons (sd_icmp_ne hx hb (mz_dg d_Mo_openAt 25 39 (.if_icmp .ne (7)) 3 rfl) (by decide)) ?_
  refine mz_All.cons (sd_iconst hx hb (mz_dg d_Mo_openAt 26 42 (.iconst (1)) 1 rfl) (by decide)) ?_
  refine mz_All.cons (sd_goto hx hb (mz_dg d_Mo_openAt 27 43 (.goto (4)) 3 rfl) (by decide)) ?_
  refine mz_All.cons (sd_iconst hx hb (mz_dg d_Mo_openAt 28 46 (.iconst (0)) 1 rfl) (by decide)) ?_
  refine mz_All.cons (sd_iadd hx hb (mz_dg d_Mo_openAt 29 47 (.iadd) 1 rfl)) ?_
  refine mz_All.cons (sd_istore_n hx hb (mz_dg d_Mo_openAt 30 48 (.istore_n 2) 1 rfl) rfl (by decide)) ?_
  refine mz_All.cons (sd_iinc hx hb (mz_dg d_Mo_openAt 31 49 (.iinc 3 (1)) 3 rfl) (by decide) (by decide)) ?_
  refine mz_All.cons (sd_goto hx hb (mz_dg d_Mo_openAt 32 52 (.goto (-48)) 3 rfl) (by decide)) ?_
  refine mz_All.cons (sd_iload_n hx hb (mz_dg d_Mo_openAt 33 55 (.iload_n 2) 1 rfl) rfl) ?_
  refine mz_All.cons (sd_ri hx hb hr hlk (mz_dg d_Mo_openAt 34 56 (.ireturn) 1 rfl)) ?_
  exact trivial
theorem met_Mo_openAt (w h : Nat) (l : Launch) : mz_MI l y_Mo_openAt w_Mo_openAt 0 0 mz_cls (C_Mo_openAt w h) := mz_MI_of (I_Mo_openAt w h) (by decide) rfl (len_Mo_openAt w h) (ok_Mo_openAt w h) (snd_Mo_openAt w h l)
set_option maxRecDepth 20000 in
theorem snd_Mo_open (w h : Nat) (l : Launch) (p : Program) (e : Env) (s : State) (m : MethodId) (args : Array Value) (below : List Frame) (meth : Method) (c : Code) (D : va_G) (ad0 : Nat → Nat) (cA0 : Nat → ClassId) (A : Nat → Prop) (lay : List mz_E) (Q : Int32 → mz_X → Prop) (F : mz_F p s m args meth c prog_11_method_24_code 5 y_Mo_open.cls (some .boolean) w_Mo_open) (hA : ∀ q, s.heap.size ≤ q → A q) : mz_All (mz_V p l e (mz_rm 3 65) s m args below meth c 5 lay.length (mz_sz lay) D mz_cls (mz_G0 ad0 cA0) A (MQ below (va_Qi Q (mz_B D mz_cls ad0 cA0 lay A) A) args s 0 0 A)) (mz_qi lay Q) (I_Mo_open w h) := by
  obtain ⟨hx, hb, hml, hown, hts, hr, hlk⟩ := F
  unfold I_Mo_open
  refine mz_All.cons (sd_aload_n hx hb (mz_dg d_Mo_open 0 0 (.aload_n 0) 1 rfl) rfl) ?_
  refine mz_All.cons (sd_iconst hx hb (mz_dg d_Mo_open 1 1 (.iconst (0)) 1 rfl) (by decide)) ?_
  refine mz_All.cons (sd_puti (k := 0) hx hb hts (mz_inC in_Mo) ty_Mo ty_Mo_ok nm_Mo hown (T := T_Mo) (N := 19) rfl (by decide) (hts (.fieldLink "MazeFormsModel" 65 "MazeFormsModel" "thrown" "I") (List.mem_cons_of_mem _ wm_728)) (fun _ h => h) rfl rfl (mz_dg d_Mo_open 2 2 (.putfield 65) 3 rfl)) ?_
  refine mz_All.cons (sd_iload_n hx hb (mz_dg d_Mo_open 3 5 (.iload_n 1) 1 rfl) rfl) ?_
  refine mz_All.cons (sd_if_lt hx hb (mz_dg d_Mo_open 4 6 (.ifCond .lt (32)) 3 rfl) (by decide)) ?_
  refine mz_All.cons (sd_iload_n hx hb (mz_dg d_Mo_open 5 9 (.iload_n 1) 1 rfl) rfl) ?_
  refine mz_All.cons (sd_aload_n hx hb (mz_dg d_Mo_open 6 10 (.aload_n 0) 1 rfl) rfl) ?_
  refine mz_All.cons (sd_get (k := 1) hx hb hts (mz_inC in_Mo) hown (T := T_Mo) (N := 19) rfl (by decide) (hts (.fieldLink "MazeFormsModel" 52 "MazeFormsModel" "width" "I") (List.mem_cons_of_mem _ wm_729)) (fun _ h => h) (mz_dg d_Mo_open 7 11 (.getfield 52) 3 rfl)) ?_
  refine mz_All.cons (sd_icmp_ge hx hb (mz_dg d_Mo_open 8 14 (.if_icmp .ge (24)) 3 rfl) (by decide)) ?_
  refine mz_All.cons (sd_iload_n hx hb (mz_dg d_Mo_open 9 17 (.iload_n 2) 1 rfl) rfl) ?_
  refine mz_All.cons (sd_if_lt hx hb (mz_dg d_Mo_open 10 18 (.ifCond .lt (20)) 3 rfl) (by decide)) ?_
  refine mz_All.cons (sd_iload_n hx hb (mz_dg d_Mo_open 11 21 (.iload_n 2) 1 rfl) rfl) ?_
  refine mz_All.cons (sd_aload_n hx hb (mz_dg d_Mo_open 12 22 (.aload_n 0) 1 rfl) rfl) ?_
  refine mz_All.cons (sd_get (k := 2) hx hb hts (mz_inC in_Mo) hown (T := T_Mo) (N := 19) rfl (by decide) (hts (.fieldLink "MazeFormsModel" 55 "MazeFormsModel" "height" "I") (List.mem_cons_of_mem _ wm_730)) (fun _ h => h) (mz_dg d_Mo_open 13 23 (.getfield 55) 3 rfl)) ?_
  refine mz_All.cons (sd_icmp_ge hx hb (mz_dg d_Mo_open 14 26 (.if_icmp .ge (12)) 3 rfl) (by decide)) ?_
  refine mz_All.cons (sd_iload_n hx hb (mz_dg d_Mo_open 15 29 (.iload_n 3) 1 rfl) rfl) ?_
  refine mz_All.cons (sd_if_lt hx hb (mz_dg d_Mo_open 16 30 (.ifCond .lt (8)) 3 rfl) (by decide)) ?_
  refine mz_All.cons (sd_iload_n hx hb (mz_dg d_Mo_open 17 33 (.iload_n 3) 1 rfl) rfl) ?_
  refine mz_All.cons (sd_iconst hx hb (mz_dg d_Mo_open 18 34 (.iconst (3)) 1 rfl) (by decide)) ?_
  refine mz_All.cons (sd_icmp_le hx hb (mz_dg d_Mo_open 19 35 (.if_icmp .le (5)) 3 rfl) (by decide)) ?_
  refine mz_All.cons (sd_iconst hx hb (mz_dg d_Mo_open 20 38 (.iconst (0)) 1 rfl) (by decide)) ?_
  refine mz_All.cons (sd_rz hx hb hr hlk (mz_dg d_Mo_open 21 39 (.ireturn) 1 rfl)) ?_
  refine mz_All.cons (sd_aload_n hx hb (mz_dg d_Mo_open 22 40 (.aload_n 0) 1 rfl) rfl) ?_
  refine mz_All.cons (sd_aload_n hx hb (mz_dg d_Mo_open 23 41 (.aload_n 0) 1 rfl) rfl) ?_
  refine mz_All.cons (sd_get (k := 1) hx hb hts (mz_inC in_Mo) hown (T := T_Mo) (N := 19) rfl (by decide) (hts (.fieldLink "MazeFormsModel" 52 "MazeFormsModel" "width" "I") (List.mem_cons_of_mem _ wm_729)) (fun _ h => h) (mz_dg d_Mo_open 24 42 (.getfield 52) 3 rfl)) ?_
  refine mz_All.cons (sd_iload_n hx hb (mz_dg d_Mo_open 25 45 (.iload_n 2) 1 rfl) rfl) ?_
  refine mz_All.cons (sd_imul hx hb (mz_dg d_Mo_open 26 46 (.imul) 1 rfl)) ?_
  refine mz_All.cons (sd_iload_n hx hb (mz_dg d_Mo_open 27 47 (.iload_n 1) 1 rfl) rfl) ?_
  refine mz_All.cons (sd_iadd hx hb (mz_dg d_Mo_open 28 48 (.iadd) 1 rfl)) ?_
  refine mz_All.cons (sd_iload_n hx hb (mz_dg d_Mo_open 29 49 (.iload_n 3) 1 rfl) rfl) ?_
  refine mz_All.cons (sd_calli (T := T_Mo) ⟨hx, hb, hml, hown, hts⟩ (met_Mo_doorAt w h l) (cwV 2 hts (mz_gV wm_806 wm_808 wm_45 wm_77 wm_809) rfl rfl rfl (by decide) ⟨by decide, by decide⟩) rfl hA rfl (mz_dg d_Mo_open 30 50 (.invokevirtual 100) 3 rfl)) ?_
  refine mz_All.cons (sd_istore hx hb (mz_dg d_Mo_open 31 53 (.istore 4) 2 rfl) (by decide)) ?_
  refine mz_All.cons (sd_iload hx hb (mz_dg d_Mo_open 32 55 (.iload 4) 2 rfl)) ?_
  refine mz_All.cons (sd_if_lt hx hb (mz_dg d_Mo_open 33 57 (.ifCond .lt (17)) 3 rfl) (by decide)) ?_
  refine mz_All.cons (sd_aload_n hx hb (mz_dg d_Mo_open 34 60 (.aload_n 0) 1 rfl) rfl) ?_
  refine mz_All.cons (sd_get (k := 8) hx hb hts (mz_inC in_Mo) hown (T := T_Mo) (N := 19) rfl (by decide) (hts (.fieldLink "MazeFormsModel" 20 "MazeFormsModel" "isOpen" "[Z") (List.mem_cons_of_mem _ wm_736)) (fun _ h => h) (mz_dg d_Mo_open 35 61 (.getfield 20) 3 rfl)) ?_
  refine mz_All.cons (sd_iload hx hb (mz_dg d_Mo_open 36 64 (.iload 4) 2 rfl)) ?_
  refine mz_All.cons (sd_zald hx hb (mz_dg d_Mo_open 37 66 (.baload) 1 rfl)) ?_
  refine mz_All.cons (sd_if_eq hx hb (mz_dg d_Mo_open 38 67 (.ifCond .eq (7)) 3 rfl) (by decide)) ?_
  refine mz_All.cons (sd_iconst hx hb (mz_dg d_Mo_open 39 70 (.iconst (1)) 1 rfl) (by decide)) ?_
  refine mz_All.cons (sd_goto hx hb (mz_dg d_Mo_open 40 71 (.goto (4)) 3 rfl) (by decide)) ?_
  refine mz_All.cons (sd_iconst hx hb (mz_dg d_Mo_open 41 74 (.iconst (0)) 1 rfl) (by decide)) ?_
  refine mz_All.cons (sd_rz hx hb hr hlk (mz_dg d_Mo_open 42 75 (.ireturn) 1 rfl)) ?_
  exact trivial
theorem met_Mo_open (w h : Nat) (l : Launch) : mz_MI l y_Mo_open w_Mo_open 3 65 mz_cls (C_Mo_open w h) := mz_MI_of (I_Mo_open w h) (by decide) rfl (len_Mo_open w h) (ok_Mo_open w h) (snd_Mo_open w h l)
