/-! the reference (place 23: thrown 0, width 1, height 2, chance 3, doors 5, many 13, length 15), masked 24, first 25, second 26, isOpen 27, in 28, kept 29, came 30, colours 31, choice 32, path 33, far 34, square 35 -/
def zo_dim (w h : Nat) (X : mz_X) : Prop := X.1 23 1 = nI w ∧ X.1 23 2 = nI h
def zo_ok (w h D : Nat) (X : mz_X) : Prop := zo_dim w h X ∧ X.1 23 5 = nI D ∧ D ≤ 288 ∧ ∀ i, i < D → ∃ a b : Nat, a < w * h ∧ b < w * h ∧ X.1 25 i = nI a ∧ X.1 26 i = nI b
def zo_c (w h : Nat) (X : mz_X) (x : Int32) : Bool := mz_lt x (w * h) && decide (X.1 24 x.toNatClampNeg = 0)
def zo_bes (w h k s : Nat) : Int32 := if s = 0 then nI k - nI w else if s = 1 then (if k % w < w - 1 then nI (k + 1) else -1) else if s = 2 then (if k + w < w * h then nI (k + w) else -1) else (if 0 < k % w then nI (k - 1) else -1)
def zo_dB (X : mz_X) (a b : Int32) (i : Nat) : Bool := (decide (X.1 25 i = a) && decide (X.1 26 i = b)) || (decide (X.1 25 i = b) && decide (X.1 26 i = a))
def zo_df (X : mz_X) (a b : Int32) (i k : Nat) : Int32 := match k with
  | 0 => -1
  | j + 1 => if zo_dB X a b i = true then nI i else zo_df X a b (i + 1) j
def zo_da (w h D : Nat) (X : mz_X) (k s : Nat) : Int32 := if (zo_c w h X (nI k) && zo_c w h X (zo_bes w h k s)) = true then zo_df X (nI k) (zo_bes w h k s) 0 D else -1
def zo_acr (X : mz_X) (i : Nat) (c : Int32) : Int32 := if X.1 25 i = c then X.1 26 i else X.1 25 i
def zo_fst (X : mz_X) (i k : Nat) : Int32 := match k with
  | 0 => -1
  | j + 1 => if X.1 24 i = 0 then nI i else zo_fst X (i + 1) j
def zo_non (X : mz_X) : mz_X := (mz_up (mz_fil X.1 28 144 0) 23 13 0, X.2)
def zo_adX (X : mz_X) (D : Nat) (a b : Int32) : mz_X := (mz_up (mz_up (mz_up (mz_up X.1 25 D a) 26 D b) 27 D 0) 23 5 (nI D + 1), X.2)
def zo_ad (X : mz_X) (D : Nat) (a b : Nat) : mz_X := if X.1 24 a = 0 ∧ X.1 24 b = 0 then zo_adX X D (nI a) (nI b) else X
def zo_blX (X : mz_X) : mz_X := (X.1, mz_up X.2 23 3 (X.2 23 3 * 6364136223846793005 + 1442695040888963407))
def zo_blV (X : mz_X) (n : Int32) : Int32 := zc_v (X.2 23 3 * 6364136223846793005 + 1442695040888963407) n
def C_Mo_cells (w h : Nat) : mz_CI := fun lay as X Q => match as with
  | [.ref 23] => lay = mz_lay w h ∧ mz_geo w h ∧ zo_dim w h X ∧ Q (nI (w * h)) X
  | _ => False
def C_Mo_isCell (w h : Nat) : mz_CI := fun lay as X Q => match as with
  | [.ref 23, .int x] => lay = mz_lay w h ∧ mz_geo w h ∧ zo_dim w h X ∧ Q (mz_b (zo_c w h X x)) X
  | _ => False
def C_Mo_beside (w h : Nat) : mz_CI := fun lay as X Q => match as with
  | [.ref 23, .int c, .int t] => lay = mz_lay w h ∧ mz_geo w h ∧ ∃ k s : Nat, zo_dim w h X ∧ k < w * h ∧ s < 4 ∧ c = nI k ∧ t = nI s ∧ Q (zo_bes w h k s) X
  | _ => False
def C_Mo_doorOf (w h : Nat) : mz_CI := fun lay as X Q => match as with
  | [.ref 23, .int a, .int b] => lay = mz_lay w h ∧ mz_geo w h ∧ ∃ D : Nat, X.1 23 5 = nI D ∧ D ≤ 288 ∧ Q (zo_df X a b 0 D) X
  | _ => False
def C_Mo_doorAt (w h : Nat) : mz_CI := fun lay as X Q => match as with
  | [.ref 23, .int c, .int t] => lay = mz_lay w h ∧ mz_geo w h ∧ ∃ D k s : Nat, zo_dim w h X ∧ X.1 23 5 = nI D ∧ D ≤ 288 ∧ k < w * h ∧ s < 4 ∧ c = nI k ∧ t = nI s ∧ Q (zo_da w h D X k s) X
  | _ => False
def C_Mo_across (w h : Nat) : mz_CI := fun lay as X Q => match as with
  | [.ref 23, .int d, .int c] => lay = mz_lay w h ∧ mz_geo w h ∧ ∃ i : Nat, i < 288 ∧ d = nI i ∧ Q (zo_acr X i c) X
  | _ => False
def C_Mo_firstCell (w h : Nat) : mz_CI := fun lay as X Q => match as with
  | [.ref 23] => lay = mz_lay w h ∧ mz_geo w h ∧ zo_dim w h X ∧ Q (zo_fst X 0 (w * h)) X
  | _ => False
def C_Mo_none (w h : Nat) : mz_CV := fun lay as X Q => match as with
  | [.ref 23] => lay = mz_lay w h ∧ mz_geo w h ∧ Q (zo_non X)
  | _ => False
def C_Mo_below (w h : Nat) : mz_CI := fun lay as X Q => match as with
  | [.ref 23, .int n] => lay = mz_lay w h ∧ mz_geo w h ∧ ¬ n = 0 ∧ Q (zo_blV X n) (zo_blX X)
  | _ => False
def C_Mo_addDoor (w h : Nat) : mz_CV := fun lay as X Q => match as with
  | [.ref 23, .int a, .int b] => lay = mz_lay w h ∧ mz_geo w h ∧ ∃ D i j : Nat, X.1 23 5 = nI D ∧ D < 288 ∧ i < 144 ∧ j < 144 ∧ a = nI i ∧ b = nI j ∧ Q (zo_ad X D i j)
  | _ => False
def y_Mo_cells : MethodName := ⟨"MazeFormsModel", "cells", "()I"⟩
abbrev w_Mo_cells : List Cond := .code y_Mo_cells prog_11_method_3_code 1 (some .int) :: mz_tb
def dl_Mo_cells : List (Nat × ClassFile.Instr × Nat) := [(0, .aload_n 0, 1), (1, .getfield 52, 3), (4, .aload_n 0, 1), (5, .getfield 55, 3), (8, .imul, 1), (9, .ireturn, 1)]
theorem d_Mo_cells : mz_dec prog_11_method_3_code dl_Mo_cells = true := by decide +kernel
def y_Mo_isCell : MethodName := ⟨"MazeFormsModel", "isCell", "(I)Z"⟩
abbrev w_Mo_isCell : List Cond := .code y_Mo_isCell prog_11_method_4_code 2 (some .boolean) :: mz_tb
def dl_Mo_isCell : List (Nat × ClassFile.Instr × Nat) := [(0, .iload_n 1, 1), (1, .ifCond .lt (24), 3), (4, .iload_n 1, 1), (5, .aload_n 0, 1), (6, .invokevirtual 68, 3), (9, .if_icmp .ge (16), 3), (12, .aload_n 0, 1), (13, .getfield 7, 3), (16, .iload_n 1, 1), (17, .baload, 1), (18, .ifCond .ne (7), 3), (21, .iconst (1), 1), (22, .goto (4), 3), (25, .iconst (0), 1), (26, .ireturn, 1)]
theorem d_Mo_isCell : mz_dec prog_11_method_4_code dl_Mo_isCell = true := by decide +kernel
def y_Mo_across : MethodName := ⟨"MazeFormsModel", "across", "(II)I"⟩
abbrev w_Mo_across : List Cond := .code y_Mo_across prog_11_method_12_code 3 (some .int) :: mz_tb
def dl_Mo_across : List (Nat × ClassFile.Instr × Nat) := [(0, .aload_n 0, 1), (1, .getfield 13, 3), (4, .iload_n 1, 1), (5, .iaload, 1), (6, .iload_n 2, 1), (7, .if_icmp .ne (12), 3), (10, .aload_n 0, 1), (11, .getfield 17, 3), (14, .iload_n 1, 1), (15, .iaload, 1), (16, .goto (9), 3), (19, .aload_n 0, 1), (20, .getfield 13, 3), (23, .iload_n 1, 1), (24, .iaload, 1), (25, .ireturn, 1)]
theorem d_Mo_across : mz_dec prog_11_method_12_code dl_Mo_across = true := by decide +kernel
def y_Mo_firstCell : MethodName := ⟨"MazeFormsModel", "firstCell", "()I"⟩
abbrev w_Mo_firstCell : List Cond := .code y_Mo_firstCell prog_11_method_13_code 2 (some .int) :: mz_tb
def dl_Mo_firstCell : List (Nat × ClassFile.Instr × Nat) := [(0, .iconst (0), 1), (1, .istore_n 1, 1), (2, .iload_n 1, 1), (3, .aload_n 0, 1), (4, .invokevirtual 68, 3), (7, .if_icmp .ge (20), 3), (10, .aload_n 0, 1), (11, .getfield 7, 3), (14, .iload_n 1, 1), (15, .baload, 1), (16, .ifCond .ne (5), 3), (19, .iload_n 1, 1), (20, .ireturn, 1), (21, .iinc 1 (1), 3), (24, .goto (-22), 3), (27, .iconst (-1), 1), (28, .ireturn, 1)]
theorem d_Mo_firstCell : mz_dec prog_11_method_13_code dl_Mo_firstCell = true := by decide +kernel
def y_Mo_none : MethodName := ⟨"MazeFormsModel", "none", "()V"⟩
abbrev w_Mo_none : List Cond := .code y_Mo_none prog_11_method_14_code 2 none :: mz_tb
def dl_Mo_none : List (Nat × ClassFile.Instr × Nat) := [(0, .iconst (0), 1), (1, .istore_n 1, 1), (2, .iload_n 1, 1), (3, .sipush (144), 3), (6, .if_icmp .ge (16), 3), (9, .aload_n 0, 1), (10, .getfield 23, 3), (13, .iload_n 1, 1), (14, .iconst (0), 1), (15, .bastore, 1), (16, .iinc 1 (1), 3), (19, .goto (-17), 3), (22, .aload_n 0, 1), (23, .iconst (0), 1), (24, .putfield 94, 3), (27, .return_, 1)]
theorem d_Mo_none : mz_dec prog_11_method_14_code dl_Mo_none = true := by decide +kernel
def y_Mo_below : MethodName := ⟨"MazeFormsModel", "below", "(I)I"⟩
abbrev w_Mo_below : List Cond := .code y_Mo_below prog_11_method_8_code 2 (some .int) :: mz_tb
def dl_Mo_below : List (Nat × ClassFile.Instr × Nat) := [(0, .aload_n 0, 1), (1, .aload_n 0, 1), (2, .getfield 58, 3), (5, .ldc2_w 79, 3), (8, .lmul, 1), (9, .ldc2_w 81, 3), (12, .ladd, 1), (13, .putfield 58, 3), (16, .aload_n 0, 1), (17, .getfield 58, 3), (20, .bipush (33), 2), (22, .lushr, 1), (23, .iload_n 1, 1), (24, .i2l, 1), (25, .lrem, 1), (26, .l2i, 1), (27, .ireturn, 1)]
theorem d_Mo_below : mz_dec prog_11_method_8_code dl_Mo_below = true := by decide +kernel
def y_Mo_doorOf : MethodName := ⟨"MazeFormsModel", "doorOf", "(II)I"⟩
abbrev w_Mo_doorOf : List Cond := .code y_Mo_doorOf prog_11_method_10_code 4 (some .int) :: mz_tb
def dl_Mo_doorOf : List (Nat × ClassFile.Instr × Nat) := [(0, .iconst (0), 1), (1, .istore_n 3, 1), (2, .iload_n 3, 1), (3, .aload_n 0, 1), (4, .getfield 72, 3), (7, .if_icmp .ge (51), 3), (10, .aload_n 0, 1), (11, .getfield 13, 3), (14, .iload_n 3, 1), (15, .iaload, 1), (16, .iload_n 1, 1), (17, .if_icmp .ne (13), 3), (20, .aload_n 0, 1), (21, .getfield 17, 3), (24, .iload_n 3, 1), (25, .iaload, 1), (26, .iload_n 2, 1), (27, .if_icmp .eq (23), 3), (30, .aload_n 0, 1), (31, .getfield 13, 3), (34, .iload_n 3, 1), (35, .iaload, 1), (36, .iload_n 2, 1), (37, .if_icmp .ne (15), 3), (40, .aload_n 0, 1), (41, .getfield 17, 3), (44, .iload_n 3, 1), (45, .iaload, 1), (46, .iload_n 1, 1), (47, .if_icmp .ne (5), 3), (50, .iload_n 3, 1), (51, .ireturn, 1), (52, .iinc 3 (1), 3), (55, .goto (-53), 3), (58, .iconst (-1), 1), (59, .ireturn, 1)]
theorem d_Mo_doorOf : mz_dec prog_11_method_10_code dl_Mo_doorOf = true := by decide +kernel
def y_Mo_addDoor : MethodName := ⟨"MazeFormsModel", "addDoor", "(II)V"⟩
abbrev w_Mo_addDoor : List Cond := .code y_Mo_addDoor prog_11_method_6_code 3 none :: mz_tb
def dl_Mo_addDoor : List (Nat × ClassFile.Instr × Nat) := [(0, .aload_n 0, 1), (1, .getfield 7, 3), (4, .iload_n 1, 1), (5, .baload, 1), (6, .ifCond .ne (12), 3), (9, .aload_n 0, 1), (10, .getfield 7, 3), (13, .iload_n 2, 1), (14, .baload, 1), (15, .ifCond .eq (4), 3), (18, .return_, 1), (19, .aload_n 0, 1), (20, .getfield 13, 3), (23, .aload_n 0, 1), (24, .getfield 72, 3), (27, .iload_n 1, 1), (28, .iastore, 1), (29, .aload_n 0, 1), (30, .getfield 17, 3), (33, .aload_n 0, 1), (34, .getfield 72, 3), (37, .iload_n 2, 1), (38, .iastore, 1), (39, .aload_n 0, 1), (40, .getfield 20, 3), (43, .aload_n 0, 1), (44, .getfield 72, 3), (47, .iconst (0), 1), (48, .bastore, 1), (49, .aload_n 0, 1), (50, .dup, 1), (51, .getfield 72, 3), (54, .iconst (1), 1), (55, .iadd, 1), (56, .putfield 72, 3), (59, .return_, 1)]
theorem d_Mo_addDoor : mz_dec prog_11_method_6_code dl_Mo_addDoor = true := by decide +kernel
def I_Mo_cells (w h : Nat) : List (Nat × mz_Op) := [(0, mz_lda 0 1), (1, mz_gf 9 1 4), (4, mz_lda 0 5), (5, mz_gf 9 2 8), (8, mz_bi (fun x y => x * y) 9), (9, mz_ri)]
def I_Mo_isCell (w h : Nat) : List (Nat × mz_Op) := [(0, mz_ldi 1 1), (1, mz_if (fun x => x < 0) 25 4), (4, mz_ldi 1 5), (5, mz_lda 0 6), (6, mz_ci 1 9 (C_Mo_cells w h) 9), (9, mz_ic (fun x y => y ≤ x) 25 12), (12, mz_lda 0 13), (13, mz_gf 9 4 16), (16, mz_ldi 1 17), (17, mz_iald 1 18), (18, mz_if (fun x => x = 0) 21 25), (21, mz_push (.int (1)) 22), (22, mz_go 26), (25, mz_push (.int (0)) 26), (26, mz_rz)]
def I_Mo_across (w h : Nat) : List (Nat × mz_Op) := [(0, mz_lda 0 1), (1, mz_gf 9 6 4), (4, mz_ldi 1 5), (5, mz_iald 0 6), (6, mz_ldi 2 7), (7, mz_ic (fun x y => x = y) 10 19), (10, mz_lda 0 11), (11, mz_gf 9 7 14), (14, mz_ldi 1 15), (15, mz_iald 0 16), (16, mz_go 25), (19, mz_lda 0 20), (20, mz_gf 9 6 23), (23, mz_ldi 1 24), (24, mz_iald 0 25), (25, mz_ri)]
def I_Mo_firstCell (w h : Nat) : List (Nat × mz_Op) := [(0, mz_push (.int (0)) 1), (1, mz_sti 1 2), (2, mz_ldi 1 3), (3, mz_lda 0 4), (4, mz_ci 1 9 (C_Mo_cells w h) 7), (7, mz_ic (fun x y => y ≤ x) 27 10), (10, mz_lda 0 11), (11, mz_gf 9 4 14), (14, mz_ldi 1 15), (15, mz_iald 1 16), (16, mz_if (fun x => x = 0) 19 21), (19, mz_ldi 1 20), (20, mz_ri), (21, mz_inc 1 (1) 24), (24, mz_go 2), (27, mz_push (.int (-1)) 28), (28, mz_ri)]
def I_Mo_none (w h : Nat) : List (Nat × mz_Op) := [(0, mz_push (.int (0)) 1), (1, mz_sti 1 2), (2, mz_ldi 1 3), (3, mz_push (.int (144)) 6), (6, mz_ic (fun x y => y ≤ x) 22 9), (9, mz_lda 0 10), (10, mz_gf 9 9 13), (13, mz_ldi 1 14), (14, mz_push (.int (0)) 15), (15, mz_iast 1 16), (16, mz_inc 1 (1) 19), (19, mz_go 2), (22, mz_lda 0 23), (23, mz_push (.int (0)) 24), (24, mz_pfi 9 13 27), (27, mz_rv)]
def I_Mo_below (w h : Nat) : List (Nat × mz_Op) := [(0, mz_lda 0 1), (1, mz_lda 0 2), (2, mz_gf 9 3 5), (5, mz_push (.long (6364136223846793005)) 8), (8, mz_bl (fun x y => x * y) 9), (9, mz_push (.long (1442695040888963407)) 12), (12, mz_bl (fun x y => x + y) 13), (13, mz_pfl 9 3 16), (16, mz_lda 0 17), (17, mz_gf 9 3 20), (20, mz_push (.int (33)) 22), (22, mz_sh (fun x y => (x.toUInt64 >>> (y.toInt64.toUInt64 &&& Int64.toUInt64 63)).toInt64) 23), (23, mz_ldi 1 24), (24, mz_i2l 25), (25, mz_bld (fun x y => x - x / y * y) 26), (26, mz_l2i 27), (27, mz_ri)]
def I_Mo_doorOf (w h : Nat) : List (Nat × mz_Op) := [(0, mz_push (.int (0)) 1), (1, mz_sti 3 2), (2, mz_ldi 3 3), (3, mz_lda 0 4), (4, mz_gf 9 5 7), (7, mz_ic (fun x y => y ≤ x) 58 10), (10, mz_lda 0 11), (11, mz_gf 9 6 14), (14, mz_ldi 3 15), (15, mz_iald 0 16), (16, mz_ldi 1 17), (17, mz_ic (fun x y => x = y) 20 30), (20, mz_lda 0 21), (21, mz_gf 9 7 24), (24, mz_ldi 3 25), (25, mz_iald 0 26), (26, mz_ldi 2 27), (27, mz_ic (fun x y => x = y) 50 30), (30, mz_lda 0 31), (31, mz_gf 9 6 34), (34, mz_ldi 3 35), (35, mz_iald 0 36), (36, mz_ldi 2 37), (37, mz_ic (fun x y => x = y) 40 52), (40, mz_lda 0 41), (41, mz_gf 9 7 44), (44, mz_ldi 3 45), (45, mz_iald 0 46), (46, mz_ldi 1 47), (47, mz_ic (fun x y => x = y) 50 52), (50, mz_ldi 3 51), (51, mz_ri), (52, mz_inc 3 (1) 55), (55, mz_go 2), (58, mz_push (.int (-1)) 59), (59, mz_ri)]
def I_Mo_addDoor (w h : Nat) : List (Nat × mz_Op) := [(0, mz_lda 0 1), (1, mz_gf 9 4 4), (4, mz_ldi 1 5), (5, mz_iald 1 6), (6, mz_if (fun x => x = 0) 9 18), (9, mz_lda 0 10), (10, mz_gf 9 4 13), (13, mz_ldi 2 14), (14, mz_iald 1 15), (15, mz_if (fun x => x = 0) 19 18), (18, mz_rv), (19, mz_lda 0 20), (20, mz_gf 9 6 23), (23, mz_lda 0 24), (24, mz_gf 9 5 27), (27, mz_ldi 1 28), (28, mz_iast 0 29), (29, mz_lda 0 30), (30, mz_gf 9 7 33), (33, mz_lda 0 34), (34, mz_gf 9 5 37), (37, mz_ldi 2 38), (38, mz_iast 0 39), (39, mz_lda 0 40), (40, mz_gf 9 8 43), (43, mz_lda 0 44), (44, mz_gf 9 5 47), (47, mz_push (.int (0)) 48), (48, mz_iast 1 49), (49, mz_lda 0 50), (50, mz_dup 51), (51, mz_gf 9 5 54), (54, mz_push (.int (1)) 55), (55, mz_bi (fun x y => x + y) 56), (56, mz_pfi 9 5 59), (59, mz_rv)]
theorem zo_rem {a d : Nat} (ha : a < 2 ^ 31) (h0 : 0 < d) (hd : d < 2 ^ 31) : nI a - nI a / nI d * nI d = nI (a % d) := pk_rem ha h0 hd
theorem mz_in_mono {x : Int32} {n m : Nat} (h : vp_in x n) (hn : n ≤ m) : vp_in x m := by
  rw [vp_in_iff] at h ⊢
  omega
theorem zo_wne {w h : Nat} (g : mz_geo w h) : ¬ nI w = 0 := nI_ne0 (by have := g.1; omega) (by have := g.2.1; omega)
theorem len_Mo_cells (w h : Nat) (lay : List mz_E) (as : List Value) (X : mz_X) (Q : Int32 → mz_X → Prop) (hC : C_Mo_cells w h lay as X Q) : (mz_l0 as).length ≤ 1 := by
  unfold C_Mo_cells at hC
  split at hC
  · exact Nat.le_of_ble_eq_true rfl
  · exact hC.elim
theorem ok_Mo_cells (w h : Nat) (lay : List mz_E) (as : List Value) (X : mz_X) (Q : Int32 → mz_X → Prop) (hC : C_Mo_cells w h lay as X Q) (K : mz_K) (hK : mz_Cl (I_Mo_cells w h) (mz_qi lay Q) K) : K 0 (mz_ent 1 as) [] (lay, X) := by
  unfold C_Mo_cells at hC
  split at hC
  ·
    obtain ⟨rfl, g, hX, hq⟩ := hC
    iterate 5 refine hK _ _ _ _ ?_
    exact hK _ _ _ _ (And.intro rfl (by dsimp only; rw [hX.1, hX.2, pk_mul]; exact hq))
  · exact hC.elim
theorem len_Mo_isCell (w h : Nat) (lay : List mz_E) (as : List Value) (X : mz_X) (Q : Int32 → mz_X → Prop) (hC : C_Mo_isCell w h lay as X Q) : (mz_l0 as).length ≤ 2 := by
  unfold C_Mo_isCell at hC
  split at hC
  · exact Nat.le_of_ble_eq_true rfl
  · exact hC.elim
theorem ok_Mo_isCell (w h : Nat) (lay : List mz_E) (as : List Value) (X : mz_X) (Q : Int32 → mz_X → Prop) (hC : C_Mo_isCell w h lay as X Q) (K : mz_K) (hK : mz_Cl (I_Mo_isCell w h) (mz_qi lay Q) K) : K 0 (mz_ent 2 as) [] (lay, X) := by
  unfold C_Mo_isCell at hC
  split at hC
  · next x =>
    obtain ⟨rfl, g, hX, hq⟩ := hC
    have hn := mz_geo_n g
    refine hK _ _ _ _ ?_
    refine hK _ _ _ _ (And.intro (fun c1 => ?_) (fun c1 => ?_))
    · refine hK _ _ _ _ ?_
      exact hK _ _ _ _ (And.intro (Or.inl rfl) (And.intro rfl (by simpa [zo_c, mz_lt, c1, mz_b] using hq)))
    · iterate 2 refine hK _ _ _ _ ?_
      refine hK _ _ _ _ (And.intro (rfl) (And.intro (g) (And.intro (hX) ?_)))
      refine hK _ _ _ _ (And.intro (fun c2 => ?_) (fun c2 => ?_))
      · refine hK _ _ _ _ ?_
        exact hK _ _ _ _ (And.intro (Or.inl rfl) (And.intro rfl (by simpa [zo_c, mz_lt, c2, mz_b] using hq)))
      · iterate 3 refine hK _ _ _ _ ?_
        refine hK _ _ _ _ (And.intro (mz_in_mono (mz_in c1 c2 (by omega)) hn) ?_)
        refine hK _ _ _ _ (And.intro (fun c3 => ?_) (fun c3 => ?_))
        · dsimp only at c3
          iterate 2 refine hK _ _ _ _ ?_
          exact hK _ _ _ _ (And.intro (Or.inr rfl) (And.intro rfl (by simpa [zo_c, mz_lt, c1, c2, c3, mz_b] using hq)))
        · dsimp only at c3
          refine hK _ _ _ _ ?_
          exact hK _ _ _ _ (And.intro (Or.inl rfl) (And.intro rfl (by simpa [zo_c, c3, mz_b] using hq)))
  · exact hC.elim
theorem len_Mo_across (w h : Nat) (lay : List mz_E) (as : List Value) (X : mz_X) (Q : Int32 → mz_X → Prop) (hC : C_Mo_across w h lay as X Q) : (mz_l0 as).length ≤ 3 := by
  unfold C_Mo_across at hC
  split at hC
  · exact Nat.le_of_ble_eq_true rfl
  · exact hC.elim
theorem ok_Mo_across (w h : Nat) (lay : List mz_E) (as : List Value) (X : mz_X) (Q : Int32 → mz_X → Prop) (hC : C_Mo_across w h lay as X Q) (K : mz_K) (hK : mz_Cl (I_Mo_across w h) (mz_qi lay Q) K) : K 0 (mz_ent 3 as) [] (lay, X) := by
  unfold C_Mo_across at hC
  split at hC
  · next d c =>
    obtain ⟨rfl, g, i, hi, rfl, hq⟩ := hC
    have hin : vp_in (nI i) 288 := vp_in_nI hi (by omega)
    have hcl : (nI i).toNatClampNeg = i := nI_clamp (by omega)
    iterate 3 refine hK _ _ _ _ ?_
    refine hK _ _ _ _ (And.intro (hin) ?_)
    refine hK _ _ _ _ ?_
    refine hK _ _ _ _ (And.intro (fun c1 => ?_) (fun c1 => ?_))
    · dsimp only at c1
      rw [hcl] at c1
      iterate 3 refine hK _ _ _ _ ?_
      refine hK _ _ _ _ (And.intro (hin) ?_)
      refine hK _ _ _ _ ?_
      exact hK _ _ _ _ (And.intro rfl (by rw [hcl]; simpa [zo_acr, c1] using hq))
    · dsimp only at c1
      rw [hcl] at c1
      iterate 3 refine hK _ _ _ _ ?_
      refine hK _ _ _ _ (And.intro (hin) ?_)
      exact hK _ _ _ _ (And.intro rfl (by rw [hcl]; simpa [zo_acr, c1] using hq))
  · exact hC.elim
theorem len_Mo_firstCell (w h : Nat) (lay : List mz_E) (as : List Value) (X : mz_X) (Q : Int32 → mz_X → Prop) (hC : C_Mo_firstCell w h lay as X Q) : (mz_l0 as).length ≤ 2 := by
  unfold C_Mo_firstCell at hC
  split at hC
  · exact Nat.le_of_ble_eq_true rfl
  · exact hC.elim
theorem ok_Mo_firstCell (w h : Nat) (lay : List mz_E) (as : List Value) (X : mz_X) (Q : Int32 → mz_X → Prop) (hC : C_Mo_firstCell w h lay as X Q) (K : mz_K) (hK : mz_Cl (I_Mo_firstCell w h) (mz_qi lay Q) K) : K 0 (mz_ent 2 as) [] (lay, X) := by
  unfold C_Mo_firstCell at hC
  split at hC
  ·
    obtain ⟨rfl, g, hX, hq⟩ := hC
    have hn := mz_geo_n g
    have loop : ∀ (k i : Nat), i + k = w * h → zo_fst X 0 (w * h) = zo_fst X i k → K 2 [some (.ref 23), some (.int (nI i))] [] (mz_lay w h, X) := by
      intro k
      induction k with
      | zero =>
        intro i hi he
        iterate 2 refine hK _ _ _ _ ?_
        refine hK _ _ _ _ (And.intro (rfl) (And.intro (g) (And.intro (hX) ?_)))
        refine hK _ _ _ _ (And.intro (fun c1 => ?_) (fun c1 => ?_))
        · rw [he] at hq
          refine hK _ _ _ _ ?_
          exact hK _ _ _ _ (And.intro rfl (hq))
        · exact absurd (nI_le (a := w * h) (b := i) (by omega) (by omega)) c1
      | succ k ih =>
        intro i hi he
        iterate 2 refine hK _ _ _ _ ?_
        refine hK _ _ _ _ (And.intro (rfl) (And.intro (g) (And.intro (hX) ?_)))
        refine hK _ _ _ _ (And.intro (fun c1 => ?_) (fun c1 => ?_))
        · exact absurd c1 (nI_ge (by omega) (by omega))
        · iterate 3 refine hK _ _ _ _ ?_
          refine hK _ _ _ _ (And.intro (vp_in_nI (by omega) (by omega)) ?_)
          refine hK _ _ _ _ (And.intro (fun c2 => ?_) (fun c2 => ?_))
          · dsimp only at c2
            rw [nI_clamp (by omega)] at c2
            rw [show zo_fst X i (k + 1) = nI i from if_pos c2] at he
            rw [he] at hq
            refine hK _ _ _ _ ?_
            exact hK _ _ _ _ (And.intro rfl (hq))
          · dsimp only at c2
            rw [nI_clamp (by omega)] at c2
            rw [show zo_fst X i (k + 1) = zo_fst X (i + 1) k from if_neg c2] at he
            have := ih (i + 1) (by omega) he
            rw [← nI_1] at this
            iterate 2 refine hK _ _ _ _ ?_
            exact this
    iterate 2 refine hK _ _ _ _ ?_
    exact loop (w * h) 0 (by omega) rfl
  · exact hC.elim
theorem len_Mo_none (w h : Nat) (lay : List mz_E) (as : List Value) (X : mz_X) (Q : mz_X → Prop) (hC : C_Mo_none w h lay as X Q) : (mz_l0 as).length ≤ 2 := by
  unfold C_Mo_none at hC
  split at hC
  · exact Nat.le_of_ble_eq_true rfl
  · exact hC.elim
theorem ok_Mo_none (w h : Nat) (lay : List mz_E) (as : List Value) (X : mz_X) (Q : mz_X → Prop) (hC : C_Mo_none w h lay as X Q) (K : mz_K) (hK : mz_Cl (I_Mo_none w h) (mz_qv lay Q) K) : K 0 (mz_ent 2 as) [] (lay, X) := by
  unfold C_Mo_none at hC
  split at hC
  ·
    obtain ⟨rfl, g, hq⟩ := hC
    have loop : ∀ (k i : Nat), i + k = 144 → K 2 [some (.ref 23), some (.int (nI i))] [] (mz_lay w h, mz_fil X.1 28 i 0, X.2) := by
      intro k
      induction k with
      | zero =>
        intro i hi
        iterate 2 refine hK _ _ _ _ ?_
        refine hK _ _ _ _ (And.intro (fun c1 => ?_) (fun c1 => ?_))
        · iterate 3 refine hK _ _ _ _ ?_
          exact hK _ _ _ _ (And.intro rfl (by rw [show i = 144 by omega]; exact hq))
        · exact absurd (nI_le (a := 144) (b := i) (by omega) (by omega)) c1
      | succ k ih =>
        intro i hi
        iterate 2 refine hK _ _ _ _ ?_
        refine hK _ _ _ _ (And.intro (fun c1 => ?_) (fun c1 => ?_))
        · exact absurd c1 (nI_ge (a := i) (b := 144) (by omega) (by omega))
        · iterate 4 refine hK _ _ _ _ ?_
          refine hK _ _ _ _ (And.intro (vp_in_nI (by omega) (by omega)) ?_)
          have := ih (i + 1) (by omega)
          rw [← mz_fil_s, ← nI_1] at this
          rw [nI_clamp (by omega)]
          iterate 2 refine hK _ _ _ _ ?_
          exact this
    iterate 2 refine hK _ _ _ _ ?_
    have := loop 144 0 (by omega)
    rw [mz_fil_0] at this
    exact this
  · exact hC.elim
theorem len_Mo_below (w h : Nat) (lay : List mz_E) (as : List Value) (X : mz_X) (Q : Int32 → mz_X → Prop) (hC : C_Mo_below w h lay as X Q) : (mz_l0 as).length ≤ 2 := by
  unfold C_Mo_below at hC
  split at hC
  · exact Nat.le_of_ble_eq_true rfl
  · exact hC.elim
theorem ok_Mo_below (w h : Nat) (lay : List mz_E) (as : List Value) (X : mz_X) (Q : Int32 → mz_X → Prop) (hC : C_Mo_below w h lay as X Q) (K : mz_K) (hK : mz_Cl (I_Mo_below w h) (mz_qi lay Q) K) : K 0 (mz_ent 2 as) [] (lay, X) := by
  unfold C_Mo_below at hC
  split at hC
  · next n =>
    obtain ⟨rfl, g, hn, hq⟩ := hC
    iterate 14 refine hK _ _ _ _ ?_
    refine hK _ _ _ _ (And.intro (fun e => hn (by have h2 : n.toInt64.toInt = n.toInt := Int32.toInt_toInt64 n; rw [e] at h2; exact Int32.toInt_inj.mp (h2.symm.trans (by decide)))) ?_)
    refine hK _ _ _ _ ?_
    exact hK _ _ _ _ (And.intro rfl (hq))
  · exact hC.elim
theorem len_Mo_doorOf (w h : Nat) (lay : List mz_E) (as : List Value) (X : mz_X) (Q : Int32 → mz_X → Prop) (hC : C_Mo_doorOf w h lay as X Q) : (mz_l0 as).length ≤ 4 := by
  unfold C_Mo_doorOf at hC
  split at hC
  · exact Nat.le_of_ble_eq_true rfl
  · exact hC.elim
theorem ok_Mo_doorOf (w h : Nat) (lay : List mz_E) (as : List Value) (X : mz_X) (Q : Int32 → mz_X → Prop) (hC : C_Mo_doorOf w h lay as X Q) (K : mz_K) (hK : mz_Cl (I_Mo_doorOf w h) (mz_qi lay Q) K) : K 0 (mz_ent 4 as) [] (lay, X) := by
  unfold C_Mo_doorOf at hC
  split at hC
  · next a b =>
    obtain ⟨rfl, g, D, hD, hD2, hq⟩ := hC
    have loop : ∀ (k i : Nat), i + k = D → zo_df X a b 0 D = zo_df X a b i k → K 2 [some (.ref 23), some (.int a), some (.int b), some (.int (nI i))] [] (mz_lay w h, X) := by
      intro k
      induction k with
      | zero =>
        intro i hi he
        iterate 3 refine hK _ _ _ _ ?_
        refine hK _ _ _ _ (And.intro (fun c1 => ?_) (fun c1 => ?_))
        · rw [he] at hq
          refine hK _ _ _ _ ?_
          exact hK _ _ _ _ (And.intro rfl (hq))
        · dsimp only at c1
          rw [hD] at c1
          exact absurd (nI_le (a := D) (b := i) (by omega) (by omega)) c1
      | succ k ih =>
        intro i hi he
        have hin : vp_in (nI i) 288 := vp_in_nI (by omega) (by omega)
        have hcl : (nI i).toNatClampNeg = i := nI_clamp (by omega)
        have h50 : zo_dB X a b i = true → K 50 [some (.ref 23), some (.int a), some (.int b), some (.int (nI i))] [] (mz_lay w h, X) := by
          intro e
          rw [show zo_df X a b i (k + 1) = nI i from if_pos e] at he
          rw [he] at hq
          refine hK _ _ _ _ ?_
          exact hK _ _ _ _ (And.intro rfl (hq))
        have h52 : zo_dB X a b i = false → K 52 [some (.ref 23), some (.int a), some (.int b), some (.int (nI i))] [] (mz_lay w h, X) := by
          intro e
          rw [show zo_df X a b i (k + 1) = zo_df X a b (i + 1) k from if_neg (by rw [e]; decide)] at he
          have := ih (i + 1) (by omega) he
          rw [← nI_1] at this
          iterate 2 refine hK _ _ _ _ ?_
          exact this
        have h30 : (decide (X.1 25 i = a) && decide (X.1 26 i = b)) = false → K 30 [some (.ref 23), some (.int a), some (.int b), some (.int (nI i))] [] (mz_lay w h, X) := by
          intro e
          iterate 3 refine hK _ _ _ _ ?_
          refine hK _ _ _ _ (And.intro (hin) ?_)
          refine hK _ _ _ _ ?_
          refine hK _ _ _ _ (And.intro (fun c2 => ?_) (fun c2 => ?_))
          · dsimp only at c2
            rw [hcl] at c2
            iterate 3 refine hK _ _ _ _ ?_
            refine hK _ _ _ _ (And.intro (hin) ?_)
            refine hK _ _ _ _ ?_
            refine hK _ _ _ _ (And.intro (fun c3 => ?_) (fun c3 => ?_))
            · dsimp only at c3
              rw [hcl] at c3
              exact h50 (by simp [zo_dB, c2, c3])
            · dsimp only at c3
              rw [hcl] at c3
              exact h52 (by simp only [zo_dB, e]; simp [c3])
          · dsimp only at c2
            rw [hcl] at c2
            exact h52 (by simp only [zo_dB, e]; simp [c2])
        iterate 3 refine hK _ _ _ _ ?_
        refine hK _ _ _ _ (And.intro (fun c1 => ?_) (fun c1 => ?_))
        · dsimp only at c1
          rw [hD] at c1
          exact absurd c1 (nI_ge (by omega) (by omega))
        · iterate 3 refine hK _ _ _ _ ?_
          refine hK _ _ _ _ (And.intro (hin) ?_)
          refine hK _ _ _ _ ?_
          refine hK _ _ _ _ (And.intro (fun c2 => ?_) (fun c2 => ?_))
          · dsimp only at c2
            rw [hcl] at c2
            iterate 3 refine hK _ _ _ _ ?_
            refine hK _ _ _ _ (And.intro (hin) ?_)
            refine hK _ _ _ _ ?_
            refine hK _ _ _ _ (And.intro (fun c3 => ?_) (fun c3 => ?_))
            · dsimp only at c3
              rw [hcl] at c3
              exact h50 (by simp [zo_dB, c2, c3])
            · dsimp only at c3
              rw [hcl] at c3
              exact h30 (by simp [c3])
          · dsimp only at c2
            rw [hcl] at c2
            exact h30 (by simp [c2])
    iterate 2 refine hK _ _ _ _ ?_
    exact loop D 0 (by omega) rfl
  · exact hC.elim
theorem len_Mo_addDoor (w h : Nat) (lay : List mz_E) (as : List Value) (X : mz_X) (Q : mz_X → Prop) (hC : C_Mo_addDoor w h lay as X Q) : (mz_l0 as).length ≤ 3 := by
  unfold C_Mo_addDoor at hC
  split at hC
  · exact Nat.le_of_ble_eq_true rfl
  · exact hC.elim
theorem ok_Mo_addDoor (w h : Nat) (lay : List mz_E) (as : List Value) (X : mz_X) (Q : mz_X → Prop) (hC : C_Mo_addDoor w h lay as X Q) (K : mz_K) (hK : mz_Cl (I_Mo_addDoor w h) (mz_qv lay Q) K) : K 0 (mz_ent 3 as) [] (lay, X) := by
  unfold C_Mo_addDoor at hC
  split at hC
  · next a b =>
    obtain ⟨rfl, g, D, i, j, hD, hD2, hi, hj, rfl, rfl, hq⟩ := hC
    have hDi : vp_in (X.1 23 5) 288 := by rw [hD]; exact vp_in_nI hD2 (by omega)
    have hDc : (X.1 23 5).toNatClampNeg = D := by rw [hD]; exact nI_clamp (by omega)
    have ci : (nI i).toNatClampNeg = i := nI_clamp (by omega)
    have cj : (nI j).toNatClampNeg = j := nI_clamp (by omega)
    iterate 3 refine hK _ _ _ _ ?_
    refine hK _ _ _ _ (And.intro (vp_in_nI hi (by omega)) ?_)
    refine hK _ _ _ _ (And.intro (fun c1 => ?_) (fun c1 => ?_))
    · dsimp only at c1
      rw [ci] at c1
      iterate 3 refine hK _ _ _ _ ?_
      refine hK _ _ _ _ (And.intro (vp_in_nI hj (by omega)) ?_)
      refine hK _ _ _ _ (And.intro (fun c2 => ?_) (fun c2 => ?_))
      · dsimp only at c2
        rw [cj] at c2
        rw [show zo_ad X D i j = zo_adX X D (nI i) (nI j) from if_pos ⟨c1, c2⟩] at hq
        unfold zo_adX at hq
        rw [← hD] at hq
        rw [← hDc] at hq
        iterate 5 refine hK _ _ _ _ ?_
        refine hK _ _ _ _ (And.intro (hDi) ?_)
        iterate 5 refine hK _ _ _ _ ?_
        refine hK _ _ _ _ (And.intro (hDi) ?_)
        iterate 5 refine hK _ _ _ _ ?_
        refine hK _ _ _ _ (And.intro (hDi) ?_)
        iterate 6 refine hK _ _ _ _ ?_
        exact hK _ _ _ _ (And.intro rfl (hq))
      · dsimp only at c2
        rw [cj] at c2
        rw [show zo_ad X D i j = X from if_neg (fun q => c2 q.2)] at hq
        exact hK _ _ _ _ (And.intro rfl (hq))
    · dsimp only at c1
      rw [ci] at c1
      rw [show zo_ad X D i j = X from if_neg (fun q => c1 q.1)] at hq
      exact hK _ _ _ _ (And.intro rfl (hq))
  · exact hC.elim
set_option maxRecDepth 20000 in
theorem snd_Mo_cells (w h : Nat) (l : Launch) (p : Program) (e : Env) (s : State) (m : MethodId) (args : Array Value) (below : List Frame) (meth : Method) (c : Code) (D : va_G) (ad0 : Nat → Nat) (cA0 : Nat → ClassId) (A : Nat → Prop) (lay : List mz_E) (Q : Int32 → mz_X → Prop) (F : mz_F p s m args meth c prog_11_method_3_code 1 y_Mo_cells.cls (some .int) w_Mo_cells) (hA : ∀ q, s.heap.size ≤ q → A q) : mz_All (mz_V p l e (mz_rm 0 0) s m args below meth c 1 lay.length (mz_sz lay) D mz_cls (mz_G0 ad0 cA0) A (MQ below (va_Qi Q (mz_B D mz_cls ad0 cA0 lay A) A) args s 0 0 A)) (mz_qi lay Q) (I_Mo_cells w h) := by
  obtain ⟨hx, hb, hml, hown, hts, hr, hlk⟩ := F
  unfold I_Mo_cells
  refine mz_All.cons (sd_aload_n hx hb (mz_dg d_Mo_cells 0 0 (.aload_n 0) 1 rfl) rfl) ?_
  refine mz_All.cons (sd_get (k := 1) hx hb hts (mz_inC in_Mo) hown (T := T_Mo) (N := 19) rfl (by decide) (hts (.fieldLink "MazeFormsModel" 52 "MazeFormsModel" "width" "I") (List.mem_cons_of_mem _ wm_729)) (fun _ h => h) (mz_dg d_Mo_cells 1 1 (.getfield 52) 3 rfl)) ?_
  refine mz_All.cons (sd_aload_n hx hb (mz_dg d_Mo_cells 2 4 (.aload_n 0) 1 rfl) rfl) ?_
  refine mz_All.cons (sd_get (k := 2) hx hb hts (mz_inC in_Mo) hown (T := T_Mo) (N := 19) rfl (by decide) (hts (.fieldLink "MazeFormsModel" 55 "MazeFormsModel" "height" "I") (List.mem_cons_of_mem _ wm_730)) (fun _ h => h) (mz_dg d_Mo_cells 3 5 (.getfield 55) 3 rfl)) ?_
  refine mz_All.cons (sd_imul hx hb (mz_dg d_Mo_cells 4 8 (.imul) 1 rfl)) ?_
  refine mz_All.cons (sd_ri hx hb hr hlk (mz_dg d_Mo_cells 5 9 (.ireturn) 1 rfl)) ?_
  exact trivial
theorem met_Mo_cells (w h : Nat) (l : Launch) : mz_MI l y_Mo_cells w_Mo_cells 0 0 mz_cls (C_Mo_cells w h) := mz_MI_of (I_Mo_cells w h) (by decide) rfl (len_Mo_cells w h) (ok_Mo_cells w h) (snd_Mo_cells w h l)
set_option maxRecDepth 20000 in
theorem snd_Mo_isCell (w h : Nat) (l : Launch) (p : Program) (e : Env) (s : State) (m : MethodId) (args : Array Value) (below : List Frame) (meth : Method) (c : Code) (D : va_G) (ad0 : Nat → Nat) (cA0 : Nat → ClassId) (A : Nat → Prop) (lay : List mz_E) (Q : Int32 → mz_X → Prop) (F : mz_F p s m args meth c prog_11_method_4_code 2 y_Mo_isCell.cls (some .boolean) w_Mo_isCell) (hA : ∀ q, s.heap.size ≤ q → A q) : mz_All (mz_V p l e (mz_rm 1 20) s m args below meth c 2 lay.length (mz_sz lay) D mz_cls (mz_G0 ad0 cA0) A (MQ below (va_Qi Q (mz_B D mz_cls ad0 cA0 lay A) A) args s 0 0 A)) (mz_qi lay Q) (I_Mo_isCell w h) := by
  obtain ⟨hx, hb, hml, hown, hts, hr, hlk⟩ := F
  unfold I_Mo_isCell
  refine mz_All.cons (sd_iload_n hx hb (mz_dg d_Mo_isCell 0 0 (.iload_n 1) 1 rfl) rfl) ?_
  refine mz_All.cons (sd_if_lt hx hb (mz_dg d_Mo_isCell 1 1 (.ifCond .lt (24)) 3 rfl) (by decide)) ?_
  refine mz_All.cons (sd_iload_n hx hb (mz_dg d_Mo_isCell 2 4 (.iload_n 1) 1 rfl) rfl) ?_
  refine mz_All.cons (sd_aload_n hx hb (mz_dg d_Mo_isCell 3 5 (.aload_n 0) 1 rfl) rfl) ?_
  refine mz_All.cons (sd_calli (T := T_Mo) ⟨hx, hb, hml, hown, hts⟩ (met_Mo_cells w h l) (cwV 0 hts (mz_gV wm_720 wm_722 wm_40 wm_77 wm_723) rfl rfl rfl (by decide) ⟨by decide, by decide⟩) rfl hA rfl (mz_dg d_Mo_isCell 4 6 (.invokevirtual 68) 3 rfl)) ?_
  refine mz_All.cons (sd_icmp_ge hx hb (mz_dg d_Mo_isCell 5 9 (.if_icmp .ge (16)) 3 rfl) (by decide)) ?_
  refine mz_All.cons (sd_aload_n hx hb (mz_dg d_Mo_isCell 6 12 (.aload_n 0) 1 rfl) rfl) ?_
  refine mz_All.cons (sd_get (k := 4) hx hb hts (mz_inC in_Mo) hown (T := T_Mo) (N := 19) rfl (by decide) (hts (.fieldLink "MazeFormsModel" 7 "MazeFormsModel" "masked" "[Z") (List.mem_cons_of_mem _ wm_732)) (fun _ h => h) (mz_dg d_Mo_isCell 7 13 (.getfield 7) 3 rfl)) ?_
  refine mz_All.cons (sd_iload_n hx hb (mz_dg d_Mo_isCell 8 16 (.iload_n 1) 1 rfl) rfl) ?_
  refine mz_All.cons (sd_zald hx hb (mz_dg d_Mo_isCell 9 17 (.baload) 1 rfl)) ?_
  refine mz_All.cons (sd_if_ne hx hb (mz_dg d_Mo_isCell 10 18 (.ifCond .ne (7)) 3 rfl) (by decide)) ?_
  refine mz_All.cons (sd_iconst hx hb (mz_dg d_Mo_isCell 11 21 (.iconst (1)) 1 rfl) (by decide)) ?_
  refine mz_All.cons (sd_goto hx hb (mz_dg d_Mo_isCell 12 22 (.goto (4)) 3 rfl) (by decide)) ?_
  refine mz_All.cons (sd_iconst hx hb (mz_dg d_Mo_isCell 13 25 (.iconst (0)) 1 rfl) (by decide)) ?_
  refine mz_All.cons (sd_rz hx hb hr hlk (mz_dg d_Mo_isCell 14 26 (.ireturn) 1 rfl)) ?_
  exact trivial
theorem met_Mo_isCell (w h : Nat) (l : Launch) : mz_MI l y_Mo_isCell w_Mo_isCell 1 20 mz_cls (C_Mo_isCell w h) := mz_MI_of (I_Mo_isCell w h) (by decide) rfl (len_Mo_isCell w h) (ok_Mo_isCell w h) (snd_Mo_isCell w h l)
set_option maxRecDepth 20000 in
theorem snd_Mo_across (w h : Nat) (l : Launch) (p : Program) (e : Env) (s : State) (m : MethodId) (args : Array Value) (below : List Frame) (meth : Method) (c : Code) (D : va_G) (ad0 : Nat → Nat) (cA0 : Nat → ClassId) (A : Nat → Prop) (lay : List mz_E) (Q : Int32 → mz_X → Prop) (F : mz_F p s m args meth c prog_11_method_12_code 3 y_Mo_across.cls (some .int) w_Mo_across) (hA : ∀ q, s.heap.size ≤ q → A q) : mz_All (mz_V p l e (mz_rm 0 0) s m args below meth c 3 lay.length (mz_sz lay) D mz_cls (mz_G0 ad0 cA0) A (MQ below (va_Qi Q (mz_B D mz_cls ad0 cA0 lay A) A) args s 0 0 A)) (mz_qi lay Q) (I_Mo_across w h) := by
  obtain ⟨hx, hb, hml, hown, hts, hr, hlk⟩ := F
  unfold I_Mo_across
  refine mz_All.cons (sd_aload_n hx hb (mz_dg d_Mo_across 0 0 (.aload_n 0) 1 rfl) rfl) ?_
  refine mz_All.cons (sd_get (k := 6) hx hb hts (mz_inC in_Mo) hown (T := T_Mo) (N := 19) rfl (by decide) (hts (.fieldLink "MazeFormsModel" 13 "MazeFormsModel" "first" "[I") (List.mem_cons_of_mem _ wm_734)) (fun _ h => h) (mz_dg d_Mo_across 1 1 (.getfield 13) 3 rfl)) ?_
  refine mz_All.cons (sd_iload_n hx hb (mz_dg d_Mo_across 2 4 (.iload_n 1) 1 rfl) rfl) ?_
  refine mz_All.cons (sd_iald hx hb (mz_dg d_Mo_across 3 5 (.iaload) 1 rfl)) ?_
  refine mz_All.cons (sd_iload_n hx hb (mz_dg d_Mo_across 4 6 (.iload_n 2) 1 rfl) rfl) ?_
  refine mz_All.cons (sd_icmp_ne hx hb (mz_dg d_Mo_across 5 7 (.if_icmp .ne (12)) 3 rfl) (by decide)) ?_
  refine mz_All.cons (sd_aload_n hx hb (mz_dg d_Mo_across 6 10 (.aload_n 0) 1 rfl) rfl) ?_
  refine mz_All.cons (sd_get (k := 7) hx hb hts (mz_inC in_Mo) hown (T := T_Mo) (N := 19) rfl (by decide) (hts (.fieldLink "MazeFormsModel" 17 "MazeFormsModel" "second" "[I") (List.mem_cons_of_mem _ wm_735)) (fun _ h => h) (mz_dg d_Mo_across 7 11 (.getfield 17) 3 rfl)) ?_
  refine mz_All.cons (sd_iload_n hx hb (mz_dg d_Mo_across 8 14 (.iload_n 1) 1 rfl) rfl) ?_
  refine mz_All.cons (sd_iald hx hb (mz_dg d_Mo_across 9 15 (.iaload) 1 rfl)) ?_
  refine mz_All.cons (sd_goto hx hb (mz_dg d_Mo_across 10 16 (.goto (9)) 3 rfl) (by decide)) ?_
  refine mz_All.cons (sd_aload_n hx hb (mz_dg d_Mo_across 11 19 (.aload_n 0) 1 rfl) rfl) ?_
  refine mz_All.cons (sd_get (k := 6) hx hb hts (mz_inC in_Mo) hown (T := T_Mo) (N := 19) rfl (by decide) (hts (.fieldLink "MazeFormsModel" 13 "MazeFormsModel" "first" "[I") (List.mem_cons_of_mem _ wm_734)) (fun _ h => h) (mz_dg d_Mo_across 12 20 (.getfield 13) 3 rfl)) ?_
  refine mz_All.cons (sd_iload_n hx hb (mz_dg d_Mo_across 13 23 (.iload_n 1) 1 rfl) rfl) ?_
  refine mz_All.cons (sd_iald hx hb (mz_dg d_Mo_across 14 24 (.iaload) 1 rfl)) ?_
  refine mz_All.cons (sd_ri hx hb hr hlk (mz_dg d_Mo_across 15 25 (.ireturn) 1 rfl)) ?_
  exact trivial
theorem met_Mo_across (w h : Nat) (l : Launch) : mz_MI l y_Mo_across w_Mo_across 0 0 mz_cls (C_Mo_across w h) := mz_MI_of (I_Mo_across w h) (by decide) rfl (len_Mo_across w h) (ok_Mo_across w h) (snd_Mo_across w h l)
set_option maxRecDepth 20000 in
theorem snd_Mo_firstCell (w h : Nat) (l : Launch) (p : Program) (e : Env) (s : State) (m : MethodId) (args : Array Value) (below : List Frame) (meth : Method) (c : Code) (D : va_G) (ad0 : Nat → Nat) (cA0 : Nat → ClassId) (A : Nat → Prop) (lay : List mz_E) (Q : Int32 → mz_X → Prop) (F : mz_F p s m args meth c prog_11_method_13_code 2 y_Mo_firstCell.cls (some .int) w_Mo_firstCell) (hA : ∀ q, s.heap.size ≤ q → A q) : mz_All (mz_V p l e (mz_rm 1 20) s m args below meth c 2 lay.length (mz_sz lay) D mz_cls (mz_G0 ad0 cA0) A (MQ below (va_Qi Q (mz_B D mz_cls ad0 cA0 lay A) A) args s 0 0 A)) (mz_qi lay Q) (I_Mo_firstCell w h) := by
  obtain ⟨hx, hb, hml, hown, hts, hr, hlk⟩ := F
  unfold I_Mo_firstCell
  refine mz_All.cons (sd_iconst hx hb (mz_dg d_Mo_firstCell 0 0 (.iconst (0)) 1 rfl) (by decide)) ?_
  refine mz_All.cons (sd_istore_n hx hb (mz_dg d_Mo_firstCell 1 1 (.istore_n 1) 1 rfl) rfl (by decide)) ?_
  refine mz_All.cons (sd_iload_n hx hb (mz_dg d_Mo_firstCell 2 2 (.iload_n 1) 1 rfl) rfl) ?_
  refine mz_All.cons (sd_aload_n hx hb (mz_dg d_Mo_firstCell 3 3 (.aload_n 0) 1 rfl) rfl) ?_
  refine mz_All.cons (sd_calli (T := T_Mo) ⟨hx, hb, hml, hown, hts⟩ (met_Mo_cells w h l) (cwV 0 hts (mz_gV wm_720 wm_722 wm_40 wm_77 wm_723) rfl rfl rfl (by decide) ⟨by decide, by decide⟩) rfl hA rfl (mz_dg d_Mo_firstCell 4 4 (.invokevirtual 68) 3 rfl)) ?_
  refine mz_All.cons (sd_icmp_ge hx hb (mz_dg d_Mo_firstCell 5 7 (.if_icmp .ge (20)) 3 rfl) (by decide)) ?_
  refine mz_All.cons (sd_aload_n hx hb (mz_dg d_Mo_firstCell 6 10 (.aload_n 0) 1 rfl) rfl) ?_
  refine mz_All.cons (sd_get (k := 4) hx hb hts (mz_inC in_Mo) hown (T := T_Mo) (N := 19) rfl (by decide) (hts (.fieldLink "MazeFormsModel" 7 "MazeFormsModel" "masked" "[Z") (List.mem_cons_of_mem _ wm_732)) (fun _ h => h) (mz_dg d_Mo_firstCell 7 11 (.getfield 7) 3 rfl)) ?_
  refine mz_All.cons (sd_iload_n hx hb (mz_dg d_Mo_firstCell 8 14 (.iload_n 1) 1 rfl) rfl) ?_
  refine mz_All.cons (sd_zald hx hb (mz_dg d_Mo_firstCell 9 15 (.baload) 1 rfl)) ?_
  refine mz_All.cons (sd_if_ne hx hb (mz_dg d_Mo_firstCell 10 16 (.ifCond .ne (5)) 3 rfl) (by decide)) ?_
  refine mz_All.cons (sd_iload_n hx hb (mz_dg d_Mo_firstCell 11 19 (.iload_n 1) 1 rfl) rfl) ?_
  refine mz_All.cons (sd_ri hx hb hr hlk (mz_dg d_Mo_firstCell 12 20 (.ireturn) 1 rfl)) ?_
  refine mz_All.cons (sd_iinc hx hb (mz_dg d_Mo_firstCell 13 21 (.iinc 1 (1)) 3 rfl) (by decide) (by decide)) ?_
  refine mz_All.cons (sd_goto hx hb (mz_dg d_Mo_firstCell 14 24 (.goto (-22)) 3 rfl) (by decide)) ?_
  refine mz_All.cons (sd_iconst hx hb (mz_dg d_Mo_firstCell 15 27 (.iconst (-1)) 1 rfl) (by decide)) ?_
  refine mz_All.cons (sd_ri hx hb hr hlk (mz_dg d_Mo_firstCell 16 28 (.ireturn) 1 rfl)) ?_
  exact trivial
theorem met_Mo_firstCell (w h : Nat) (l : Launch) : mz_MI l y_Mo_firstCell w_Mo_firstCell 1 20 mz_cls (C_Mo_firstCell w h) := mz_MI_of (I_Mo_firstCell w h) (by decide) rfl (len_Mo_firstCell w h) (ok_Mo_firstCell w h) (snd_Mo_firstCell w h l)
set_option maxRecDepth 20000 in
theorem snd_Mo_none (w h : Nat) (l : Launch) (p : Program) (e : Env) (s : State) (m : MethodId) (args : Array Value) (below : List Frame) (meth : Method) (c : Code) (D : va_G) (ad0 : Nat → Nat) (cA0 : Nat → ClassId) (A : Nat → Prop) (lay : List mz_E) (Q : mz_X → Prop) (F : mz_F p s m args meth c prog_11_method_14_code 2 y_Mo_none.cls none w_Mo_none) (hA : ∀ q, s.heap.size ≤ q → A q) : mz_All (mz_V p l e (mz_rm 0 0) s m args below meth c 2 lay.length (mz_sz lay) D mz_cls (mz_G0 ad0 cA0) A (MQ below (va_Qv Q (mz_B D mz_cls ad0 cA0 lay A) A) args s 0 0 A)) (mz_qv lay Q) (I_Mo_none w h) := by
  obtain ⟨hx, hb, hml, hown, hts, hr, hlk⟩ := F
  unfold I_Mo_none
  refine mz_All.cons (sd_iconst hx hb (mz_dg d_Mo_none 0 0 (.iconst (0)) 1 rfl) (by decide)) ?_
  refine mz_All.cons (sd_istore_n hx hb (mz_dg d_Mo_none 1 1 (.istore_n 1) 1 rfl) rfl (by decide)) ?_
  refine mz_All.cons (sd_iload_n hx hb (mz_dg d_Mo_none 2 2 (.iload_n 1) 1 rfl) rfl) ?_
  refine mz_All.cons (sd_sipush hx hb (mz_dg d_Mo_none 3 3 (.sipush (144)) 3 rfl) (by decide)) ?_
  refine mz_All.cons (sd_icmp_ge hx hb (mz_dg d_Mo_none 4 6 (.if_icmp .ge (16)) 3 rfl) (by decide)) ?_
  refine mz_All.cons (sd_aload_n hx hb (mz_dg d_Mo_none 5 9 (.aload_n 0) 1 rfl) rfl) ?_
  refine mz_All.cons (sd_get (k := 9) hx hb hts (mz_inC in_Mo) hown (T := T_Mo) (N := 19) rfl (by decide) (hts (.fieldLink "MazeFormsModel" 23 "MazeFormsModel" "in" "[Z") (List.mem_cons_of_mem _ wm_737)) (fun _ h => h) (mz_dg d_Mo_none 6 10 (.getfield 23) 3 rfl)) ?_
  refine mz_All.cons (sd_iload_n hx hb (mz_dg d_Mo_none 7 13 (.iload_n 1) 1 rfl) rfl) ?_
  refine mz_All.cons (sd_iconst hx hb (mz_dg d_Mo_none 8 14 (.iconst (0)) 1 rfl) (by decide)) ?_
  refine mz_All.cons (sd_zast hx hb (mz_dg d_Mo_none 9 15 (.bastore) 1 rfl)) ?_
  refine mz_All.cons (sd_iinc hx hb (mz_dg d_Mo_none 10 16 (.iinc 1 (1)) 3 rfl) (by decide) (by decide)) ?_
  refine mz_All.cons (sd_goto hx hb (mz_dg d_Mo_none 11 19 (.goto (-17)) 3 rfl) (by decide)) ?_
  refine mz_All.cons (sd_aload_n hx hb (mz_dg d_Mo_none 12 22 (.aload_n 0) 1 rfl) rfl) ?_
  refine mz_All.cons (sd_iconst hx hb (mz_dg d_Mo_none 13 23 (.iconst (0)) 1 rfl) (by decide)) ?_
  refine mz_All.cons (sd_puti (k := 13) hx hb hts (mz_inC in_Mo) ty_Mo ty_Mo_ok nm_Mo hown (T := T_Mo) (N := 19) rfl (by decide) (hts (.fieldLink "MazeFormsModel" 94 "MazeFormsModel" "many" "I") (List.mem_cons_of_mem _ wm_741)) (fun _ h => h) rfl rfl (mz_dg d_Mo_none 14 24 (.putfield 94) 3 rfl)) ?_
  refine mz_All.cons (sd_rv hx hb hr hlk (mz_dg d_Mo_none 15 27 (.return_) 1 rfl)) ?_
  exact trivial
theorem met_Mo_none (w h : Nat) (l : Launch) : mz_MV l y_Mo_none w_Mo_none 0 0 mz_cls (C_Mo_none w h) := mz_MV_of (I_Mo_none w h) (by decide) rfl (len_Mo_none w h) (ok_Mo_none w h) (snd_Mo_none w h l)
set_option maxRecDepth 20000 in
theorem snd_Mo_below (w h : Nat) (l : Launch) (p : Program) (e : Env) (s : State) (m : MethodId) (args : Array Value) (below : List Frame) (meth : Method) (c : Code) (D : va_G) (ad0 : Nat → Nat) (cA0 : Nat → ClassId) (A : Nat → Prop) (lay : List mz_E) (Q : Int32 → mz_X → Prop) (F : mz_F p s m args meth c prog_11_method_8_code 2 y_Mo_below.cls (some .int) w_Mo_below) (hA : ∀ q, s.heap.size ≤ q → A q) : mz_All (mz_V p l e (mz_rm 0 0) s m args below meth c 2 lay.length (mz_sz lay) D mz_cls (mz_G0 ad0 cA0) A (MQ below (va_Qi Q (mz_B D mz_cls ad0 cA0 lay A) A) args s 0 0 A)) (mz_qi lay Q) (I_Mo_below w h) := by
  obtain ⟨hx, hb, hml, hown, hts, hr, hlk⟩ := F
  unfold I_Mo_below
  refine mz_All.cons (sd_aload_n hx hb (mz_dg d_Mo_below 0 0 (.aload_n 0) 1 rfl) rfl) ?_
  refine mz_All.cons (sd_aload_n hx hb (mz_dg d_Mo_below 1 1 (.aload_n 0) 1 rfl) rfl) ?_
  refine mz_All.cons (sd_get (k := 3) hx hb hts (mz_inC in_Mo) hown (T := T_Mo) (N := 19) rfl (by decide) (hts (.fieldLink "MazeFormsModel" 58 "MazeFormsModel" "chance" "J") (List.mem_cons_of_mem _ wm_731)) (fun _ h => h) (mz_dg d_Mo_below 2 2 (.getfield 58) 3 rfl)) ?_
  refine mz_All.cons (sd_ldc2 hx hb hown (hts _ (List.mem_cons_of_mem _ wm_830)) (mz_dg d_Mo_below 3 5 (.ldc2_w 79) 3 rfl)) ?_
  refine mz_All.cons (sd_lmul hx hb (mz_dg d_Mo_below 4 8 (.lmul) 1 rfl)) ?_
  refine mz_All.cons (sd_ldc2 hx hb hown (hts _ (List.mem_cons_of_mem _ wm_831)) (mz_dg d_Mo_below 5 9 (.ldc2_w 81) 3 rfl)) ?_
  refine mz_All.cons (sd_ladd hx hb (mz_dg d_Mo_below 6 12 (.ladd) 1 rfl)) ?_
  refine mz_All.cons (sd_putl (k := 3) hx hb hts (mz_inC in_Mo) ty_Mo ty_Mo_ok nm_Mo hown (T := T_Mo) (N := 19) rfl (by decide) (hts (.fieldLink "MazeFormsModel" 58 "MazeFormsModel" "chance" "J") (List.mem_cons_of_mem _ wm_731)) (fun _ h => h) rfl rfl (mz_dg d_Mo_below 7 13 (.putfield 58) 3 rfl)) ?_
  refine mz_All.cons (sd_aload_n hx hb (mz_dg d_Mo_below 8 16 (.aload_n 0) 1 rfl) rfl) ?_
  refine mz_All.cons (sd_get (k := 3) hx hb hts (mz_inC in_Mo) hown (T := T_Mo) (N := 19) rfl (by decide) (hts (.fieldLink "MazeFormsModel" 58 "MazeFormsModel" "chance" "J") (List.mem_cons_of_mem _ wm_731)) (fun _ h => h) (mz_dg d_Mo_below 9 17 (.getfield 58) 3 rfl)) ?_
  refine mz_All.cons (sd_bipush hx hb (mz_dg d_Mo_below 10 20 (.bipush (33)) 2 rfl) (by decide)) ?_
  refine mz_All.cons (sd_lushr hx hb (mz_dg d_Mo_below 11 22 (.lushr) 1 rfl)) ?_
  refine mz_All.cons (sd_iload_n hx hb (mz_dg d_Mo_below 12 23 (.iload_n 1) 1 rfl) rfl) ?_
  refine mz_All.cons (sd_i2l hx hb (mz_dg d_Mo_below 13 24 (.i2l) 1 rfl)) ?_
  refine mz_All.cons (sd_lrem hx hb (mz_dg d_Mo_below 14 25 (.lrem) 1 rfl)) ?_
  refine mz_All.cons (sd_l2i hx hb (mz_dg d_Mo_below 15 26 (.l2i) 1 rfl)) ?_
  refine mz_All.cons (sd_ri hx hb hr hlk (mz_dg d_Mo_below 16 27 (.ireturn) 1 rfl)) ?_
  exact trivial
theorem met_Mo_below (w h : Nat) (l : Launch) : mz_MI l y_Mo_below w_Mo_below 0 0 mz_cls (C_Mo_below w h) := mz_MI_of (I_Mo_below w h) (by decide) rfl (len_Mo_below w h) (ok_Mo_below w h) (snd_Mo_below w h l)
set_option maxRecDepth 20000 in
theorem snd_Mo_doorOf (w h : Nat) (l : Launch) (p : Program) (e : Env) (s : State) (m : MethodId) (args : Array Value) (below : List Frame) (meth : Method) (c : Code) (D : va_G) (ad0 : Nat → Nat) (cA0 : Nat → ClassId) (A : Nat → Prop) (lay : List mz_E) (Q : Int32 → mz_X → Prop) (F : mz_F p s m args meth c prog_11_method_10_code 4 y_Mo_doorOf.cls (some .int) w_Mo_doorOf) (hA : ∀ q, s.heap.size ≤ q → A q) : mz_All (mz_V p l e (mz_rm 0 0) s m args below meth c 4 lay.length (mz_sz lay) D mz_cls (mz_G0 ad0 cA0) A (MQ below (va_Qi Q (mz_B D mz_cls ad0 cA0 lay A) A) args s 0 0 A)) (mz_qi lay Q) (I_Mo_doorOf w h) := by
  obtain ⟨hx, hb, hml, hown, hts, hr, hlk⟩ := F
  unfold I_Mo_doorOf
  refine mz_All.cons (sd_iconst hx hb (mz_dg d_Mo_doorOf 0 0 (.iconst (0)) 1 rfl) (by decide)) ?_
  refine mz_All.cons (sd_istore_n hx hb (mz_dg d_Mo_doorOf 1 1 (.istore_n 3) 1 rfl) rfl (by decide)) ?_
  refine mz_All.cons (sd_iload_n hx hb (mz_dg d_Mo_doorOf 2 2 (.iload_n 3) 1 rfl) rfl) ?_
  refine mz_All.cons (sd_aload_n hx hb (mz_dg d_Mo_doorOf 3 3 (.aload_n 0) 1 rfl) rfl) ?_
  refine mz_All.cons (sd_get (k := 5) hx hb hts (mz_inC in_Mo) hown (T := T_Mo) (N := 19) rfl (by decide) (hts (.fieldLink "MazeFormsModel" 72 "MazeFormsModel" "doors" "I") (List.mem_cons_of_mem _ wm_733)) (fun _ h => h) (mz_dg d_Mo_doorOf 4 4 (.getfield 72) 3 rfl)) ?_
  refine mz_All.cons (sd_icmp_ge hx hb (mz_dg d_Mo_doorOf 5 7 (.if_icmp .ge (51)) 3 rfl) (by decide)) ?_
  refine mz_All.cons (sd_aload_n hx hb (mz_dg d_Mo_doorOf 6 10 (.aload_n 0) 1 rfl) rfl) ?_
  refine mz_All.cons (sd_get (k := 6) hx hb hts (mz_inC in_Mo) hown (T := T_Mo) (N := 19) rfl (by decide) (hts (.fieldLink "MazeFormsModel" 13 "MazeFormsModel" "first" "[I") (List.mem_cons_of_mem _ wm_734)) (fun _ h => h) (mz_dg d_Mo_doorOf 7 11 (.getfield 13) 3 rfl)) ?_
  refine mz_All.cons (sd_iload_n hx hb (mz_dg d_Mo_doorOf 8 14 (.iload_n 3) 1 rfl) rfl) ?_
  refine mz_All.cons (sd_iald hx hb (mz_dg d_Mo_doorOf 9 15 (.iaload) 1 rfl)) ?_
  refine mz_All.cons (sd_iload_n hx hb (mz_dg d_Mo_doorOf 10 16 (.iload_n 1) 1 rfl) rfl) ?_
  refine mz_All.cons (sd_icmp_ne hx hb (mz_dg d_Mo_doorOf 11 17 (.if_icmp .ne (13)) 3 rfl) (by decide)) ?_
  refine mz_All.cons (sd_aload_n hx hb (mz_dg d_Mo_doorOf 12 20 (.aload_n 0) 1 rfl) rfl) ?_
  refine mz_All.cons (sd_get (k := 7) hx hb hts (mz_inC in_Mo) hown (T := T_Mo) (N := 19) rfl (by decide) (hts (.fieldLink "MazeFormsModel" 17 "MazeFormsModel" "second" "[I") (List.mem_cons_of_mem _ wm_735)) (fun _ h => h) (mz_dg d_Mo_doorOf 13 21 (.getfield 17) 3 rfl)) ?_
  refine mz_All.cons (sd_iload_n hx hb (mz_dg d_Mo_doorOf 14 24 (.iload_n 3) 1 rfl) rfl) ?_
  refine mz_All.cons (sd_iald hx hb (mz_dg d_Mo_doorOf 15 25 (.iaload) 1 rfl)) ?_
  refine mz_All.cons (sd_iload_n hx hb (mz_dg d_Mo_doorOf 16 26 (.iload_n 2) 1 rfl) rfl) ?_
  refine mz_All.cons (sd_icmp_eq hx hb (mz_dg d_Mo_doorOf 17 27 (.if_icmp .eq (23)) 3 rfl) (by decide)) ?_
  refine mz_All.cons (sd_aload_n hx hb (mz_dg d_Mo_doorOf 18 30 (.aload_n 0) 1 rfl) rfl) ?_
  refine mz_All.cons (sd_get (k := 6) hx hb hts (mz_inC in_Mo) hown (T := T_Mo) (N := 19) rfl (by decide) (hts (.fieldLink "MazeFormsModel" 13 "MazeFormsModel" "first" "[I") (List.mem_cons_of_mem _ wm_734)) (fun _ h => h) (mz_dg d_Mo_doorOf 19 31 (.getfield 13) 3 rfl)) ?_
  refine mz_All.cons (sd_iload_n hx hb (mz_dg d_Mo_doorOf 20 34 (.iload_n 3) 1 rfl) rfl) ?_
  refine mz_All.cons (sd_iald hx hb (mz_dg d_Mo_doorOf 21 35 (.iaload) 1 rfl)) ?_
  refine mz_All.cons (sd_iload_n hx hb (mz_dg d_Mo_doorOf 22 36 (.iload_n 2) 1 rfl) rfl) ?_
  refine mz_All.cons (sd_icmp_ne hx hb (mz_dg d_Mo_doorOf 23 37 (.if_icmp .ne (15)) 3 rfl) (by decide)) ?_
  refine mz_All.cons (sd_aload_n hx hb (mz_dg d_Mo_doorOf 24 40 (.aload_n 0) 1 rfl) rfl) ?_
  refine mz_All.cons (sd_get (k := 7) hx hb hts (mz_inC in_Mo) hown (T := T_Mo) (N := 19) rfl (by decide) (hts (.fieldLink "MazeFormsModel" 17 "MazeFormsModel" "second" "[I") (List.mem_cons_of_mem _ wm_735)) (fun _ h => h) (mz_dg d_Mo_doorOf 25 41 (.getfield 17) 3 rfl)) ?_
  refine mz_All.cons (sd_iload_n hx hb (mz_dg d_Mo_doorOf 26 44 (.iload_n 3) 1 rfl) rfl) ?_
  refine mz_All.cons (sd_iald hx hb (mz_dg d_Mo_doorOf 27 45 (.iaload) 1 rfl)) ?_
  refine mz_All.cons (sd_iload_n hx hb (mz_dg d_Mo_doorOf 28 46 (.iload_n 1) 1 rfl) rfl) ?_
  refine mz_All.cons (sd_icmp_ne hx hb (mz_dg d_Mo_doorOf 29 47 (.if_icmp .ne (5)) 3 rfl) (by decide)) ?_
  refine mz_All.cons (sd_iload_n hx hb (mz_dg d_Mo_doorOf 30 50 (.iload_n 3) 1 rfl) rfl) ?_
  refine mz_All.cons (sd_ri hx hb hr hlk (mz_dg d_Mo_doorOf 31 51 (.ireturn) 1 rfl)) ?_
  refine mz_All.cons (sd_iinc hx hb (mz_dg d_Mo_doorOf 32 52 (.iinc 3 (1)) 3 rfl) (by decide) (by decide)) ?_
  refine mz_All.cons (sd_goto hx hb (mz_dg d_Mo_doorOf 33 55 (.goto (-53)) 3 rfl) (by decide)) ?_
  refine mz_All.cons (sd_iconst hx hb (mz_dg d_Mo_doorOf 34 58 (.iconst (-1)) 1 rfl) (by decide)) ?_
  refine mz_All.cons (sd_ri hx hb hr hlk (mz_dg d_Mo_doorOf 35 59 (.ireturn) 1 rfl)) ?_
  exact trivial
theorem met_Mo_doorOf (w h : Nat) (l : Launch) : mz_MI l y_Mo_doorOf w_Mo_doorOf 0 0 mz_cls (C_Mo_doorOf w h) := mz_MI_of (I_Mo_doorOf w h) (by decide) rfl (len_Mo_doorOf w h) (ok_Mo_doorOf w h) (snd_Mo_doorOf w h l)
set_option maxRecDepth 20000 in
theorem snd_Mo_addDoor (w h : Nat) (l : Launch) (p : Program) (e : Env) (s : State) (m : MethodId) (args : Array Value) (below : List Frame) (meth : Method) (c : Code) (D : va_G) (ad0 : Nat → Nat) (cA0 : Nat → ClassId) (A : Nat → Prop) (lay : List mz_E) (Q : mz_X → Prop) (F : mz_F p s m args meth c prog_11_method_6_code 3 y_Mo_addDoor.cls none w_Mo_addDoor) (hA : ∀ q, s.heap.size ≤ q → A q) : mz_All (mz_V p l e (mz_rm 0 0) s m args below meth c 3 lay.length (mz_sz lay) D mz_cls (mz_G0 ad0 cA0) A (MQ below (va_Qv Q (mz_B D mz_cls ad0 cA0 lay A) A) args s 0 0 A)) (mz_qv lay Q) (I_Mo_addDoor w h) := by
  obtain ⟨hx, hb, hml, hown, hts, hr, hlk⟩ := F
  unfold I_Mo_addDoor
  refine mz_All.cons (sd_aload_n hx hb (mz_dg d_Mo_addDoor 0 0 (.aload_n 0) 1 rfl) rfl) ?_
  refine mz_All.cons (sd_get (k := 4) hx hb hts (mz_inC in_Mo) hown (T := T_Mo) (N := 19) rfl (by decide) (hts (.fieldLink "MazeFormsModel" 7 "MazeFormsModel" "masked" "[Z") (List.mem_cons_of_mem _ wm_732)) (fun _ h => h) (mz_dg d_Mo_addDoor 1 1 (.getfield 7) 3 rfl)) ?_
  refine mz_All.cons (sd_iload_n hx hb (mz_dg d_Mo_addDoor 2 4 (.iload_n 1) 1 rfl) rfl) ?_
  refine mz_All.cons (sd_zald hx hb (mz_dg d_Mo_addDoor 3 5 (.baload) 1 rfl)) ?_
  refine mz_All.cons (sd_if_ne hx hb (mz_dg d_Mo_addDoor 4 6 (.ifCond .ne (12)) 3 rfl) (by decide)) ?_
  refine mz_All.cons (sd_aload_n hx hb (mz_dg d_Mo_addDoor 5 9 (.aload_n 0) 1 rfl) rfl) ?_
  refine mz_All.cons (sd_get (k := 4) hx hb hts (mz_inC in_Mo) hown (T := T_Mo) (N := 19) rfl (by decide) (hts (.fieldLink "MazeFormsModel" 7 "MazeFormsModel" "masked" "[Z") (List.mem_cons_of_mem _ wm_732)) (fun _ h => h) (mz_dg d_Mo_addDoor 6 10 (.getfield 7) 3 rfl)) ?_
  refine mz_All.cons (sd_iload_n hx hb (mz_dg d_Mo_addDoor 7 13 (.iload_n 2) 1 rfl) rfl) ?_
  refine mz_All.cons (sd_zald hx hb (mz_dg d_Mo_addDoor 8 14 (.baload) 1 rfl)) ?_
  refine mz_All.cons (sd_if_eq hx hb (mz_dg d_Mo_addDoor 9 15 (.ifCond .eq (4)) 3 rfl) (by decide)) ?_
  refine mz_All.cons (sd_rv hx hb hr hlk (mz_dg d_Mo_addDoor 10 18 (.return_) 1 rfl)) ?_
  refine mz_All.cons (sd_aload_n hx hb (mz_dg d_Mo_addDoor 11 19 (.aload_n 0) 1 rfl) rfl) ?_
  refine mz_All.cons (sd_get (k := 6) hx hb hts (mz_inC in_Mo) hown (T := T_Mo) (N := 19) rfl (by decide) (hts (.fieldLink "MazeFormsModel" 13 "MazeFormsModel" "first" "[I") (List.mem_cons_of_mem _ wm_734)) (fun _ h => h) (mz_dg d_Mo_addDoor 12 20 (.getfield 13) 3 rfl)) ?_
  refine mz_All.cons (sd_aload_n hx hb (mz_dg d_Mo_addDoor 13 23 (.aload_n 0) 1 rfl) rfl) ?_
  refine mz_All.cons (sd_get (k := 5) hx hb hts (mz_inC in_Mo) hown (T := T_Mo) (N := 19) rfl (by decide) (hts (.fieldLink "MazeFormsModel" 72 "MazeFormsModel" "doors" "I") (List.mem_cons_of_mem _ wm_733)) (fun _ h => h) (mz_dg d_Mo_addDoor 14 24 (.getfield 72) 3 rfl)) ?_
  refine mz_All.cons (sd_iload_n hx hb (mz_dg d_Mo_addDoor 15 27 (.iload_n 1) 1 rfl) rfl) ?_
  refine mz_All.cons (sd_iast hx hb (mz_dg d_Mo_addDoor 16 28 (.iastore) 1 rfl)) ?_
  refine mz_All.cons (sd_aload_n hx hb (mz_dg d_Mo_addDoor 17 29 (.aload_n 0) 1 rfl) rfl) ?_
  refine mz_All.cons (sd_get (k := 7) hx hb hts (mz_inC in_Mo) hown (T := T_Mo) (N := 19) rfl (by decide) (hts (.fieldLink "MazeFormsModel" 17 "MazeFormsModel" "second" "[I") (List.mem_cons_of_mem _ wm_735)) (fun _ h => h) (mz_dg d_Mo_addDoor 18 30 (.getfield 17) 3 rfl)) ?_
  refine mz_All.cons (sd_aload_n hx hb (mz_dg d_Mo_addDoor 19 33 (.aload_n 0) 1 rfl) rfl) ?_
  refine mz_All.cons (sd_get (k := 5) hx hb hts (mz_inC in_Mo) hown (T := T_Mo) (N := 19) rfl (by decide) (hts (.fieldLink "MazeFormsModel" 72 "MazeFormsModel" "doors" "I") (List.mem_cons_of_mem _ wm_733)) (fun _ h => h) (mz_dg d_Mo_addDoor 20 34 (.getfield 72) 3 rfl)) ?_
  refine mz_All.cons (sd_iload_n hx hb (mz_dg d_Mo_addDoor 21 37 (.iload_n 2) 1 rfl) rfl) ?_
  refine mz_All.cons (sd_iast hx hb (mz_dg d_Mo_addDoor 22 38 (.iastore) 1 rfl)) ?_
  refine mz_All.cons (sd_aload_n hx hb (mz_dg d_Mo_addDoor 23 39 (.aload_n 0) 1 rfl) rfl) ?_
  refine mz_All.cons (sd_get (k := 8) hx hb hts (mz_inC in_Mo) hown (T := T_Mo) (N := 19) rfl (by decide) (hts (.fieldLink "MazeFormsModel" 20 "MazeFormsModel" "isOpen" "[Z") (List.mem_cons_of_mem _ wm_736)) (fun _ h => h) (mz_dg d_Mo_addDoor 24 40 (.getfield 20) 3 rfl)) ?_
  refine mz_All.cons (sd_aload_n hx hb (mz_dg d_Mo_addDoor 25 43 (.aload_n 0) 1 rfl) rfl) ?_
  refine mz_All.cons (sd_get (k := 5) hx hb hts (mz_inC in_Mo) hown (T := T_Mo) (N := 19) rfl (by decide) (hts (.fieldLink "MazeFormsModel" 72 "MazeFormsModel" "doors" "I") (List.mem_cons_of_mem _ wm_733)) (fun _ h => h) (mz_dg d_Mo_addDoor 26 44 (.getfield 72) 3 rfl)) ?_
  refine mz_All.cons (sd_iconst hx hb (mz_dg d_Mo_addDoor 27 47 (.iconst (0)) 1 rfl) (by decide)) ?_
  refine mz_All.cons (sd_zast hx hb (mz_dg d_Mo_addDoor 28 48 (.bastore) 1 rfl)) ?_
  refine mz_All.cons (sd_aload_n hx hb (mz_dg d_Mo_addDoor 29 49 (.aload_n 0) 1 rfl) rfl) ?_
  refine mz_All.cons (sd_dup hx hb (mz_dg d_Mo_addDoor 30 50 (.dup) 1 rfl)) ?_
  refine mz_All.cons (sd_get (k := 5) hx hb hts (mz_inC in_Mo) hown (T := T_Mo) (N := 19) rfl (by decide) (hts (.fieldLink "MazeFormsModel" 72 "MazeFormsModel" "doors" "I") (List.mem_cons_of_mem _ wm_733)) (fun _ h => h) (mz_dg d_Mo_addDoor 31 51 (.getfield 72) 3 rfl)) ?_
  refine mz_All.cons (sd_iconst hx hb (mz_dg d_Mo_addDoor 32 54 (.iconst (1)) 1 rfl) (by decide)) ?_
  refine mz_All.cons (sd_iadd hx hb (mz_dg d_Mo_addDoor 33 55 (.iadd) 1 rfl)) ?_
  refine mz_All.cons (sd_puti (k := 5) hx hb hts (mz_inC in_Mo) ty_Mo ty_Mo_ok nm_Mo hown (T := T_Mo) (N := 19) rfl (by decide) (hts (.fieldLink "MazeFormsModel" 72 "MazeFormsModel" "doors" "I") (List.mem_cons_of_mem _ wm_733)) (fun _ h => h) rfl rfl (mz_dg d_Mo_addDoor 34 56 (.putfield 72) 3 rfl)) ?_
  refine mz_All.cons (sd_rv hx hb hr hlk (mz_dg d_Mo_addDoor 35 59 (.return_) 1 rfl)) ?_
  exact trivial
theorem met_Mo_addDoor (w h : Nat) (l : Launch) : mz_MV l y_Mo_addDoor w_Mo_addDoor 0 0 mz_cls (C_Mo_addDoor w h) := mz_MV_of (I_Mo_addDoor w h) (by decide) rfl (len_Mo_addDoor w h) (ok_Mo_addDoor w h) (snd_Mo_addDoor w h l)
