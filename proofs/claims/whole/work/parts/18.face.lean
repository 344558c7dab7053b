/-- the class's face, all but trees -/
def zx_lB (n : Int32) : Bool := !decide (n < 0) && decide (n ≤ 200)
def zx_endB (w h : Nat) (X : mz_X) (n : Int32) (c : Nat) : Bool := zg_free w h X (nI c) && decide (nI (mz_cnt (fun s => zg_open w h X (zg_on w h X (nI c) (nI s))) 4) = n)
def zx_opn (w h D : Nat) (X : mz_X) : Nat := mz_cnt (fun i => zg_open w h X (nI i)) D
def zx_fre (w h : Nat) (X : mz_X) : Nat := mz_cnt (zg_fre X) (w * h)
def zx_trB (w h D : Nat) (X : mz_X) : Bool := decide (nI (zj_all w h X D).2 = nI (zx_opn w h D (zj_all w h X D).1)) && decide (nI (zx_fre w h (zj_all w h X D).1) - nI (zj_all w h X D).2 ≤ 1)
def C_Mf_mask (w h : Nat) : mz_CI := fun lay as X Q => match as with
  | [.ref 0, .int x, .int y, .int v] => lay = mz_lay w h ∧ mz_geo w h ∧ X.1 1 0 = nI w ∧ X.1 1 1 = nI h ∧ (v = 0 ∨ v = 1) ∧ Q (mz_b (zg_maskB w h X (zg_at X x y) v)) (match zg_maskB w h X (zg_at X x y) v with
    | true => zg_maskX w h X (zg_at X x y) v
    | false => X)
  | _ => False
def C_Mf_make (w h : Nat) : mz_CI := fun lay as X Q => match as with
  | [.ref 0, .int way] => lay = mz_lay w h ∧ mz_geo w h ∧ ∃ D N : Nat, zm_D w h D X ∧ N = 1000000 ∧ Q (zm_bV w h D N X way) (zm_bX w h D N X way)
  | _ => False
def C_Mf_doors (w h : Nat) : mz_CI := fun lay as X Q => match as with
  | [.ref 0] => lay = mz_lay w h ∧ mz_geo w h ∧ Q (X.1 1 7) X
  | _ => False
def C_Mf_open (w h : Nat) : mz_CI := fun lay as X Q => match as with
  | [.ref 0, .int x, .int y, .int s] => lay = mz_lay w h ∧ mz_geo w h ∧ Q (mz_b (zg_open w h X (zg_on w h X (zg_at X x y) s))) X
  | _ => False
def C_Mf_set (w h : Nat) : mz_CI := fun lay as X Q => match as with
  | [.ref 0, .int d, .int v] => lay = mz_lay w h ∧ mz_geo w h ∧ (v = 0 ∨ v = 1) ∧ Q (mz_b (zg_setB w h X d v)) (match zg_setB w h X d v with
    | true => zg_setX X d v
    | false => X)
  | _ => False
def C_Mf_loops (w h : Nat) : mz_CI := fun lay as X Q => match as with
  | [.ref 0, .int n] => lay = mz_lay w h ∧ mz_geo w h ∧ (zx_lB n = false → Q (-1) X) ∧ (zx_lB n = true → ∃ D k : Nat, zm_D w h D X ∧ k < 2 ^ 31 ∧ n = nI k ∧ Q ((zm_lo w h D (zm_o0 X) k).1 12 6) (zm_lo w h D (zm_o0 X) k))
  | _ => False
def C_Mf_path (w h : Nat) : mz_CI := fun lay as X Q => match as with
  | [.ref 0, .int a, .int b] => lay = mz_lay w h ∧ mz_geo w h ∧ Q (zt_fi w h X a b).1 (zt_fi w h X a b).2
  | _ => False
def C_Mf_at (w h : Nat) : mz_CI := fun lay as X Q => match as with
  | [.ref 0, .int k] => lay = mz_lay w h ∧ mz_geo w h ∧ Q (zt_at w h X k) X
  | _ => False
def C_Mf_ends (w h : Nat) : mz_CI := fun lay as X Q => match as with
  | [.ref 0, .int n] => lay = mz_lay w h ∧ mz_geo w h ∧ Q (nI (mz_cnt (zx_endB w h X n) (w * h))) X
  | _ => False
def C_Mf_parts (w h : Nat) : mz_CI := fun lay as X Q => match as with
  | [.ref 0] => lay = mz_lay w h ∧ mz_geo w h ∧ ∃ D : Nat, zm_D w h D X ∧ Q (nI (zx_fre w h X) - nI (zj_all w h X D).2) (zj_all w h X D).1
  | _ => False
def C_Mf_isTree (w h : Nat) : mz_CI := fun lay as X Q => match as with
  | [.ref 0] => lay = mz_lay w h ∧ mz_geo w h ∧ ∃ D : Nat, zm_D w h D X ∧ Q (mz_b (zx_trB w h D X)) (zj_all w h X D).1
  | _ => False
def C_Mf_grade (w h : Nat) : mz_CL := fun lay as X Q => match as with
  | [.ref 0] => lay = mz_lay w h ∧ mz_geo w h ∧ (zt_f X = false → Q (-1) X) ∧ (zt_f X = true → ∃ q : Nat, q < 2 ^ 31 ∧ X.1 18 3 = nI q ∧ Q (zt_g w h X q) X)
  | _ => False
def y_Mf_mask : MethodName := ⟨"MazeForms", "mask", "(IIZ)Z"⟩
abbrev w_Mf_mask : List Cond := .code y_Mf_mask prog_1_method_2_code 4 (some .boolean) :: mz_tb
def dl_Mf_mask : List (Nat × ClassFile.Instr × Nat) := [(0, .aload_n 0, 1), (1, .getfield 12, 3), (4, .aload_n 0, 1), (5, .getfield 12, 3), (8, .iload_n 1, 1), (9, .iload_n 2, 1), (10, .invokevirtual 60, 3), (13, .iload_n 3, 1), (14, .invokevirtual 64, 3), (17, .ireturn, 1)]
theorem d_Mf_mask : mz_dec prog_1_method_2_code dl_Mf_mask = true := by decide +kernel
def y_Mf_make : MethodName := ⟨"MazeForms", "make", "(I)I"⟩
abbrev w_Mf_make : List Cond := .code y_Mf_make prog_1_method_3_code 2 (some .int) :: mz_tb
def dl_Mf_make : List (Nat × ClassFile.Instr × Nat) := [(0, .aload_n 0, 1), (1, .getfield 40, 3), (4, .iload_n 1, 1), (5, .invokevirtual 68, 3), (8, .ireturn, 1)]
theorem d_Mf_make : mz_dec prog_1_method_3_code dl_Mf_make = true := by decide +kernel
def y_Mf_doors : MethodName := ⟨"MazeForms", "doors", "()I"⟩
abbrev w_Mf_doors : List Cond := .code y_Mf_doors prog_1_method_4_code 1 (some .int) :: mz_tb
def dl_Mf_doors : List (Nat × ClassFile.Instr × Nat) := [(0, .aload_n 0, 1), (1, .getfield 12, 3), (4, .invokevirtual 72, 3), (7, .ireturn, 1)]
theorem d_Mf_doors : mz_dec prog_1_method_4_code dl_Mf_doors = true := by decide +kernel
def y_Mf_open : MethodName := ⟨"MazeForms", "open", "(III)Z"⟩
abbrev w_Mf_open : List Cond := .code y_Mf_open prog_1_method_5_code 4 (some .boolean) :: mz_tb
def dl_Mf_open : List (Nat × ClassFile.Instr × Nat) := [(0, .aload_n 0, 1), (1, .getfield 12, 3), (4, .aload_n 0, 1), (5, .getfield 12, 3), (8, .aload_n 0, 1), (9, .getfield 12, 3), (12, .iload_n 1, 1), (13, .iload_n 2, 1), (14, .invokevirtual 60, 3), (17, .iload_n 3, 1), (18, .invokevirtual 76, 3), (21, .invokevirtual 79, 3), (24, .ireturn, 1)]
theorem d_Mf_open : mz_dec prog_1_method_5_code dl_Mf_open = true := by decide +kernel
def y_Mf_set : MethodName := ⟨"MazeForms", "set", "(IZ)Z"⟩
abbrev w_Mf_set : List Cond := .code y_Mf_set prog_1_method_6_code 3 (some .boolean) :: mz_tb
def dl_Mf_set : List (Nat × ClassFile.Instr × Nat) := [(0, .aload_n 0, 1), (1, .getfield 12, 3), (4, .iload_n 1, 1), (5, .iload_n 2, 1), (6, .invokevirtual 83, 3), (9, .ireturn, 1)]
theorem d_Mf_set : mz_dec prog_1_method_6_code dl_Mf_set = true := by decide +kernel
def y_Mf_loops : MethodName := ⟨"MazeForms", "loops", "(I)I"⟩
abbrev w_Mf_loops : List Cond := .code y_Mf_loops prog_1_method_7_code 2 (some .int) :: mz_tb
def dl_Mf_loops : List (Nat × ClassFile.Instr × Nat) := [(0, .iload_n 1, 1), (1, .ifCond .lt (10), 3), (4, .iload_n 1, 1), (5, .sipush (200), 3), (8, .if_icmp .le (5), 3), (11, .iconst (-1), 1), (12, .ireturn, 1), (13, .aload_n 0, 1), (14, .getfield 40, 3), (17, .iload_n 1, 1), (18, .invokevirtual 86, 3), (21, .ireturn, 1)]
theorem d_Mf_loops : mz_dec prog_1_method_7_code dl_Mf_loops = true := by decide +kernel
def y_Mf_path : MethodName := ⟨"MazeForms", "path", "(II)I"⟩
abbrev w_Mf_path : List Cond := .code y_Mf_path prog_1_method_8_code 3 (some .int) :: mz_tb
def dl_Mf_path : List (Nat × ClassFile.Instr × Nat) := [(0, .aload_n 0, 1), (1, .getfield 49, 3), (4, .iload_n 1, 1), (5, .iload_n 2, 1), (6, .invokevirtual 89, 3), (9, .ireturn, 1)]
theorem d_Mf_path : mz_dec prog_1_method_8_code dl_Mf_path = true := by decide +kernel
def y_Mf_at : MethodName := ⟨"MazeForms", "at", "(I)I"⟩
abbrev w_Mf_at : List Cond := .code y_Mf_at prog_1_method_9_code 2 (some .int) :: mz_tb
def dl_Mf_at : List (Nat × ClassFile.Instr × Nat) := [(0, .aload_n 0, 1), (1, .getfield 49, 3), (4, .iload_n 1, 1), (5, .invokevirtual 92, 3), (8, .ireturn, 1)]
theorem d_Mf_at : mz_dec prog_1_method_9_code dl_Mf_at = true := by decide +kernel
def y_Mf_ends : MethodName := ⟨"MazeForms", "ends", "(I)I"⟩
abbrev w_Mf_ends : List Cond := .code y_Mf_ends prog_1_method_10_code 4 (some .int) :: mz_tb
def dl_Mf_ends : List (Nat × ClassFile.Instr × Nat) := [(0, .iconst (0), 1), (1, .istore_n 2, 1), (2, .iconst (0), 1), (3, .istore_n 3, 1), (4, .iload_n 3, 1), (5, .aload_n 0, 1), (6, .getfield 12, 3), (9, .invokevirtual 95, 3), (12, .if_icmp .ge (35), 3), (15, .aload_n 0, 1), (16, .getfield 12, 3), (19, .iload_n 3, 1), (20, .invokevirtual 98, 3), (23, .ifCond .eq (18), 3), (26, .aload_n 0, 1), (27, .getfield 12, 3), (30, .iload_n 3, 1), (31, .invokevirtual 101, 3), (34, .iload_n 1, 1), (35, .if_icmp .ne (6), 3), (38, .iinc 2 (1), 3), (41, .iinc 3 (1), 3), (44, .goto (-40), 3), (47, .iload_n 2, 1), (48, .ireturn, 1)]
theorem d_Mf_ends : mz_dec prog_1_method_10_code dl_Mf_ends = true := by decide +kernel
def y_Mf_parts : MethodName := ⟨"MazeForms", "parts", "()I"⟩
abbrev w_Mf_parts : List Cond := .code y_Mf_parts prog_1_method_11_code 1 (some .int) :: mz_tb
def dl_Mf_parts : List (Nat × ClassFile.Instr × Nat) := [(0, .aload_n 0, 1), (1, .getfield 12, 3), (4, .invokevirtual 104, 3), (7, .aload_n 0, 1), (8, .getfield 23, 3), (11, .invokevirtual 107, 3), (14, .isub, 1), (15, .ireturn, 1)]
theorem d_Mf_parts : mz_dec prog_1_method_11_code dl_Mf_parts = true := by decide +kernel
def y_Mf_isTree : MethodName := ⟨"MazeForms", "isTree", "()Z"⟩
abbrev w_Mf_isTree : List Cond := .code y_Mf_isTree prog_1_method_12_code 3 (some .boolean) :: mz_tb
def dl_Mf_isTree : List (Nat × ClassFile.Instr × Nat) := [(0, .aload_n 0, 1), (1, .getfield 23, 3), (4, .invokevirtual 107, 3), (7, .istore_n 1, 1), (8, .iload_n 1, 1), (9, .aload_n 0, 1), (10, .getfield 12, 3), (13, .invokevirtual 110, 3), (16, .if_icmp .ne (7), 3), (19, .iconst (1), 1), (20, .goto (4), 3), (23, .iconst (0), 1), (24, .istore_n 2, 1), (25, .iload_n 2, 1), (26, .ifCond .eq (20), 3), (29, .aload_n 0, 1), (30, .getfield 12, 3), (33, .invokevirtual 104, 3), (36, .iload_n 1, 1), (37, .isub, 1), (38, .iconst (1), 1), (39, .if_icmp .gt (7), 3), (42, .iconst (1), 1), (43, .goto (4), 3), (46, .iconst (0), 1), (47, .ireturn, 1)]
theorem d_Mf_isTree : mz_dec prog_1_method_12_code dl_Mf_isTree = true := by decide +kernel
def y_Mf_grade : MethodName := ⟨"MazeForms", "grade", "()J"⟩
abbrev w_Mf_grade : List Cond := .code y_Mf_grade prog_1_method_13_code 1 (some .long) :: mz_tb
def dl_Mf_grade : List (Nat × ClassFile.Instr × Nat) := [(0, .aload_n 0, 1), (1, .getfield 49, 3), (4, .invokevirtual 113, 3), (7, .lreturn, 1)]
theorem d_Mf_grade : mz_dec prog_1_method_13_code dl_Mf_grade = true := by decide +kernel
def I_Mf_mask (w h : Nat) : List (Nat × mz_Op) := [(0, mz_lda 0 1), (1, mz_gf 8 0 4), (4, mz_lda 0 5), (5, mz_gf 8 0 8), (8, mz_ldi 1 9), (9, mz_ldi 2 10), (10, mz_ci 3 3 (C_Gr_cellAt w h) 13), (13, mz_ldi 3 14), (14, mz_ci 3 3 (C_Gr_setMask w h) 17), (17, mz_rz)]
def I_Mf_make (w h : Nat) : List (Nat × mz_Op) := [(0, mz_lda 0 1), (1, mz_gf 8 2 4), (4, mz_ldi 1 5), (5, mz_ci 2 5 (C_Mk_build w h) 8), (8, mz_ri)]
def I_Mf_doors (w h : Nat) : List (Nat × mz_Op) := [(0, mz_lda 0 1), (1, mz_gf 8 0 4), (4, mz_ci 1 3 (C_Gr_doorCount w h) 7), (7, mz_ri)]
def I_Mf_open (w h : Nat) : List (Nat × mz_Op) := [(0, mz_lda 0 1), (1, mz_gf 8 0 4), (4, mz_lda 0 5), (5, mz_gf 8 0 8), (8, mz_lda 0 9), (9, mz_gf 8 0 12), (12, mz_ldi 1 13), (13, mz_ldi 2 14), (14, mz_ci 3 3 (C_Gr_cellAt w h) 17), (17, mz_ldi 3 18), (18, mz_ci 3 3 (C_Gr_doorOn w h) 21), (21, mz_ci 2 3 (C_Gr_isOpen w h) 24), (24, mz_rz)]
def I_Mf_set (w h : Nat) : List (Nat × mz_Op) := [(0, mz_lda 0 1), (1, mz_gf 8 0 4), (4, mz_ldi 1 5), (5, mz_ldi 2 6), (6, mz_ci 3 3 (C_Gr_setDoor w h) 9), (9, mz_rz)]
def I_Mf_loops (w h : Nat) : List (Nat × mz_Op) := [(0, mz_ldi 1 1), (1, mz_if (fun x => x < 0) 11 4), (4, mz_ldi 1 5), (5, mz_push (.int (200)) 8), (8, mz_ic (fun x y => x ≤ y) 13 11), (11, mz_push (.int (-1)) 12), (12, mz_ri), (13, mz_lda 0 14), (14, mz_gf 8 2 17), (17, mz_ldi 1 18), (18, mz_ci 2 5 (C_Mk_openMore w h) 21), (21, mz_ri)]
def I_Mf_path (w h : Nat) : List (Nat × mz_Op) := [(0, mz_lda 0 1), (1, mz_gf 8 3 4), (4, mz_ldi 1 5), (5, mz_ldi 2 6), (6, mz_ci 3 6 (C_Tr_find w h) 9), (9, mz_ri)]
def I_Mf_at (w h : Nat) : List (Nat × mz_Op) := [(0, mz_lda 0 1), (1, mz_gf 8 3 4), (4, mz_ldi 1 5), (5, mz_ci 2 6 (C_Tr_cellAtStep w h) 8), (8, mz_ri)]
def I_Mf_ends (w h : Nat) : List (Nat × mz_Op) := [(0, mz_push (.int (0)) 1), (1, mz_sti 2 2), (2, mz_push (.int (0)) 3), (3, mz_sti 3 4), (4, mz_ldi 3 5), (5, mz_lda 0 6), (6, mz_gf 8 0 9), (9, mz_ci 1 3 (C_Gr_cellCount w h) 12), (12, mz_ic (fun x y => y ≤ x) 47 15), (15, mz_lda 0 16), (16, mz_gf 8 0 19), (19, mz_ldi 3 20), (20, mz_ci 2 3 (C_Gr_isFree w h) 23), (23, mz_if (fun x => x = 0) 41 26), (26, mz_lda 0 27), (27, mz_gf 8 0 30), (30, mz_ldi 3 31), (31, mz_ci 2 3 (C_Gr_openSides w h) 34), (34, mz_ldi 1 35), (35, mz_ic (fun x y => x = y) 38 41), (38, mz_inc 2 (1) 41), (41, mz_inc 3 (1) 44), (44, mz_go 4), (47, mz_ldi 2 48), (48, mz_ri)]
def I_Mf_parts (w h : Nat) : List (Nat × mz_Op) := [(0, mz_lda 0 1), (1, mz_gf 8 0 4), (4, mz_ci 1 3 (C_Gr_freeCells w h) 7), (7, mz_lda 0 8), (8, mz_gf 8 1 11), (11, mz_ci 1 4 (C_Jo_joinOpenDoors w h) 14), (14, mz_bi (fun x y => x - y) 15), (15, mz_ri)]
def I_Mf_isTree (w h : Nat) : List (Nat × mz_Op) := [(0, mz_lda 0 1), (1, mz_gf 8 1 4), (4, mz_ci 1 4 (C_Jo_joinOpenDoors w h) 7), (7, mz_sti 1 8), (8, mz_ldi 1 9), (9, mz_lda 0 10), (10, mz_gf 8 0 13), (13, mz_ci 1 3 (C_Gr_openDoors w h) 16), (16, mz_ic (fun x y => x = y) 19 23), (19, mz_push (.int (1)) 20), (20, mz_go 24), (23, mz_push (.int (0)) 24), (24, mz_sti 2 25), (25, mz_ldi 2 26), (26, mz_if (fun x => x = 0) 46 29), (29, mz_lda 0 30), (30, mz_gf 8 0 33), (33, mz_ci 1 3 (C_Gr_freeCells w h) 36), (36, mz_ldi 1 37), (37, mz_bi (fun x y => x - y) 38), (38, mz_push (.int (1)) 39), (39, mz_ic (fun x y => y < x) 46 42), (42, mz_push (.int (1)) 43), (43, mz_go 47), (46, mz_push (.int (0)) 47), (47, mz_rz)]
def I_Mf_grade (w h : Nat) : List (Nat × mz_Op) := [(0, mz_lda 0 1), (1, mz_gf 8 3 4), (4, mz_cl 1 6 (C_Tr_toll w h) 7), (7, mz_rl)]
theorem len_Mf_mask (w h : Nat) (lay : List mz_E) (as : List Value) (X : mz_X) (Q : Int32 → mz_X → Prop) (hC : C_Mf_mask w h lay as X Q) : (mz_l0 as).length ≤ 4 := by
  unfold C_Mf_mask at hC
  split at hC
  · exact Nat.le_of_ble_eq_true rfl
  · exact hC.elim
theorem ok_Mf_mask (w h : Nat) (lay : List mz_E) (as : List Value) (X : mz_X) (Q : Int32 → mz_X → Prop) (hC : C_Mf_mask w h lay as X Q) (K : mz_K) (hK : mz_Cl (I_Mf_mask w h) (mz_qi lay Q) K) : K 0 (mz_ent 4 as) [] (lay, X) := by
  unfold C_Mf_mask at hC
  split at hC
  · next x y v =>
    obtain ⟨rfl, g, h0, h1, hv, hq⟩ := hC
    iterate 6 refine hK _ _ _ _ ?_
    refine hK _ _ _ _ (And.intro (rfl) (And.intro (g) ?_))
    refine hK _ _ _ _ ?_
    refine hK _ _ _ _ (And.intro (rfl) (And.intro (g) (And.intro (h0) (And.intro (h1) (And.intro (hv) ?_)))))
    exact hK _ _ _ _ (And.intro (mz_b_01 _) (And.intro rfl hq))
  · exact hC.elim
theorem len_Mf_make (w h : Nat) (lay : List mz_E) (as : List Value) (X : mz_X) (Q : Int32 → mz_X → Prop) (hC : C_Mf_make w h lay as X Q) : (mz_l0 as).length ≤ 2 := by
  unfold C_Mf_make at hC
  split at hC
  · exact Nat.le_of_ble_eq_true rfl
  · exact hC.elim
theorem ok_Mf_make (w h : Nat) (lay : List mz_E) (as : List Value) (X : mz_X) (Q : Int32 → mz_X → Prop) (hC : C_Mf_make w h lay as X Q) (K : mz_K) (hK : mz_Cl (I_Mf_make w h) (mz_qi lay Q) K) : K 0 (mz_ent 2 as) [] (lay, X) := by
  unfold C_Mf_make at hC
  split at hC
  · next way =>
    obtain ⟨rfl, g, D, N, hD, hN, hq⟩ := hC
    iterate 3 refine hK _ _ _ _ ?_
    refine hK _ _ _ _ (And.intro rfl (And.intro g (Exists.intro D (Exists.intro N (And.intro hD (And.intro hN ?_))))))
    exact hK _ _ _ _ (And.intro rfl (hq))
  · exact hC.elim
theorem len_Mf_doors (w h : Nat) (lay : List mz_E) (as : List Value) (X : mz_X) (Q : Int32 → mz_X → Prop) (hC : C_Mf_doors w h lay as X Q) : (mz_l0 as).length ≤ 1 := by
  unfold C_Mf_doors at hC
  split at hC
  · exact Nat.le_of_ble_eq_true rfl
  · exact hC.elim
theorem ok_Mf_doors (w h : Nat) (lay : List mz_E) (as : List Value) (X : mz_X) (Q : Int32 → mz_X → Prop) (hC : C_Mf_doors w h lay as X Q) (K : mz_K) (hK : mz_Cl (I_Mf_doors w h) (mz_qi lay Q) K) : K 0 (mz_ent 1 as) [] (lay, X) := by
  unfold C_Mf_doors at hC
  split at hC
  ·
    obtain ⟨rfl, g, hq⟩ := hC
    iterate 2 refine hK _ _ _ _ ?_
    refine hK _ _ _ _ (And.intro (rfl) (And.intro (g) ?_))
    exact hK _ _ _ _ (And.intro rfl (hq))
  · exact hC.elim
theorem len_Mf_open (w h : Nat) (lay : List mz_E) (as : List Value) (X : mz_X) (Q : Int32 → mz_X → Prop) (hC : C_Mf_open w h lay as X Q) : (mz_l0 as).length ≤ 4 := by
  unfold C_Mf_open at hC
  split at hC
  · exact Nat.le_of_ble_eq_true rfl
  · exact hC.elim
theorem ok_Mf_open (w h : Nat) (lay : List mz_E) (as : List Value) (X : mz_X) (Q : Int32 → mz_X → Prop) (hC : C_Mf_open w h lay as X Q) (K : mz_K) (hK : mz_Cl (I_Mf_open w h) (mz_qi lay Q) K) : K 0 (mz_ent 4 as) [] (lay, X) := by
  unfold C_Mf_open at hC
  split at hC
  · next x y s =>
    obtain ⟨rfl, g, hq⟩ := hC
    iterate 8 refine hK _ _ _ _ ?_
    refine hK _ _ _ _ (And.intro (rfl) (And.intro (g) ?_))
    refine hK _ _ _ _ ?_
    refine hK _ _ _ _ (And.intro (rfl) (And.intro (g) ?_))
    refine hK _ _ _ _ (And.intro (rfl) (And.intro (g) ?_))
    exact hK _ _ _ _ (And.intro (mz_b_01 _) (And.intro rfl hq))
  · exact hC.elim
theorem len_Mf_set (w h : Nat) (lay : List mz_E) (as : List Value) (X : mz_X) (Q : Int32 → mz_X → Prop) (hC : C_Mf_set w h lay as X Q) : (mz_l0 as).length ≤ 3 := by
  unfold C_Mf_set at hC
  split at hC
  · exact Nat.le_of_ble_eq_true rfl
  · exact hC.elim
theorem ok_Mf_set (w h : Nat) (lay : List mz_E) (as : List Value) (X : mz_X) (Q : Int32 → mz_X → Prop) (hC : C_Mf_set w h lay as X Q) (K : mz_K) (hK : mz_Cl (I_Mf_set w h) (mz_qi lay Q) K) : K 0 (mz_ent 3 as) [] (lay, X) := by
  unfold C_Mf_set at hC
  split at hC
  · next d v =>
    obtain ⟨rfl, g, hv, hq⟩ := hC
    iterate 4 refine hK _ _ _ _ ?_
    refine hK _ _ _ _ (And.intro (rfl) (And.intro (g) (And.intro (hv) ?_)))
    exact hK _ _ _ _ (And.intro (mz_b_01 _) (And.intro rfl hq))
  · exact hC.elim
theorem len_Mf_loops (w h : Nat) (lay : List mz_E) (as : List Value) (X : mz_X) (Q : Int32 → mz_X → Prop) (hC : C_Mf_loops w h lay as X Q) : (mz_l0 as).length ≤ 2 := by
  unfold C_Mf_loops at hC
  split at hC
  · exact Nat.le_of_ble_eq_true rfl
  · exact hC.elim
theorem ok_Mf_loops (w h : Nat) (lay : List mz_E) (as : List Value) (X : mz_X) (Q : Int32 → mz_X → Prop) (hC : C_Mf_loops w h lay as X Q) (K : mz_K) (hK : mz_Cl (I_Mf_loops w h) (mz_qi lay Q) K) : K 0 (mz_ent 2 as) [] (lay, X) := by
  unfold C_Mf_loops at hC
  split at hC
  · next n =>
    obtain ⟨rfl, g, hq1, hq2⟩ := hC
    refine hK _ _ _ _ ?_
    refine hK _ _ _ _ (And.intro (fun c1 => ?_) (fun c1 => ?_))
    · refine hK _ _ _ _ ?_
      exact hK _ _ _ _ (And.intro rfl (hq1 (by simp [zx_lB, c1])))
    · iterate 2 refine hK _ _ _ _ ?_
      refine hK _ _ _ _ (And.intro (fun c2 => ?_) (fun c2 => ?_))
      · dsimp only at c2
        obtain ⟨D, k, hD, hk, hn, hq⟩ := hq2 (by simp [zx_lB, c1, c2])
        iterate 3 refine hK _ _ _ _ ?_
        refine hK _ _ _ _ (And.intro rfl (And.intro g (Exists.intro D (Exists.intro k (And.intro hD (And.intro hk (And.intro hn ?_)))))))
        exact hK _ _ _ _ (And.intro rfl (hq))
      · dsimp only at c2
        refine hK _ _ _ _ ?_
        exact hK _ _ _ _ (And.intro rfl (hq1 (by simp [zx_lB, c2])))
  · exact hC.elim
theorem len_Mf_path (w h : Nat) (lay : List mz_E) (as : List Value) (X : mz_X) (Q : Int32 → mz_X → Prop) (hC : C_Mf_path w h lay as X Q) : (mz_l0 as).length ≤ 3 := by
  unfold C_Mf_path at hC
  split at hC
  · exact Nat.le_of_ble_eq_true rfl
  · exact hC.elim
theorem ok_Mf_path (w h : Nat) (lay : List mz_E) (as : List Value) (X : mz_X) (Q : Int32 → mz_X → Prop) (hC : C_Mf_path w h lay as X Q) (K : mz_K) (hK : mz_Cl (I_Mf_path w h) (mz_qi lay Q) K) : K 0 (mz_ent 3 as) [] (lay, X) := by
  unfold C_Mf_path at hC
  split at hC
  · next a b =>
    obtain ⟨rfl, g, hq⟩ := hC
    iterate 4 refine hK _ _ _ _ ?_
    refine hK _ _ _ _ (And.intro (rfl) (And.intro (g) ?_))
    exact hK _ _ _ _ (And.intro rfl (hq))
  · exact hC.elim
theorem len_Mf_at (w h : Nat) (lay : List mz_E) (as : List Value) (X : mz_X) (Q : Int32 → mz_X → Prop) (hC : C_Mf_at w h lay as X Q) : (mz_l0 as).length ≤ 2 := by
  unfold C_Mf_at at hC
  split at hC
  · exact Nat.le_of_ble_eq_true rfl
  · exact hC.elim
theorem ok_Mf_at (w h : Nat) (lay : List mz_E) (as : List Value) (X : mz_X) (Q : Int32 → mz_X → Prop) (hC : C_Mf_at w h lay as X Q) (K : mz_K) (hK : mz_Cl (I_Mf_at w h) (mz_qi lay Q) K) : K 0 (mz_ent 2 as) [] (lay, X) := by
  unfold C_Mf_at at hC
  split at hC
  · next k =>
    obtain ⟨rfl, g, hq⟩ := hC
    iterate 3 refine hK _ _ _ _ ?_
    refine hK _ _ _ _ (And.intro (rfl) (And.intro (g) ?_))
    exact hK _ _ _ _ (And.intro rfl (hq))
  · exact hC.elim
theorem len_Mf_ends (w h : Nat) (lay : List mz_E) (as : List Value) (X : mz_X) (Q : Int32 → mz_X → Prop) (hC : C_Mf_ends w h lay as X Q) : (mz_l0 as).length ≤ 4 := by
  unfold C_Mf_ends at hC
  split at hC
  · exact Nat.le_of_ble_eq_true rfl
  · exact hC.elim
theorem ok_Mf_ends (w h : Nat) (lay : List mz_E) (as : List Value) (X : mz_X) (Q : Int32 → mz_X → Prop) (hC : C_Mf_ends w h lay as X Q) (K : mz_K) (hK : mz_Cl (I_Mf_ends w h) (mz_qi lay Q) K) : K 0 (mz_ent 4 as) [] (lay, X) := by
  unfold C_Mf_ends at hC
  split at hC
  · next n =>
    obtain ⟨rfl, g, hq⟩ := hC
    have hn := mz_geo_n g
    have loop : ∀ (k i : Nat), i + k = w * h → K 4 [some (.ref 0), some (.int n), some (.int (nI (mz_cnt (zx_endB w h X n) i))), some (.int (nI i))] [] (mz_lay w h, X) := by
      intro k
      induction k with
      | zero =>
        intro i hi
        iterate 3 refine hK _ _ _ _ ?_
        refine hK _ _ _ _ (And.intro (rfl) (And.intro (g) ?_))
        refine hK _ _ _ _ (And.intro (fun c1 => ?_) (fun c1 => ?_))
        · refine hK _ _ _ _ ?_
          exact hK _ _ _ _ (And.intro rfl (by rw [show i = w * h by omega]; exact hq))
        · exact absurd (nI_le (a := w * h) (b := i) (by omega) (by omega)) c1
      | succ k ih =>
        intro i hi
        have ih1 := ih (i + 1) (by omega)
        rw [← nI_1] at ih1
        have hf : zx_endB w h X n i = false → K 41 [some (.ref 0), some (.int n), some (.int (nI (mz_cnt (zx_endB w h X n) i))), some (.int (nI i))] [] (mz_lay w h, X) := by
          intro e
          rw [mz_cnt_f e] at ih1
          iterate 2 refine hK _ _ _ _ ?_
          exact ih1
        iterate 3 refine hK _ _ _ _ ?_
        refine hK _ _ _ _ (And.intro (rfl) (And.intro (g) ?_))
        refine hK _ _ _ _ (And.intro (fun c1 => ?_) (fun c1 => ?_))
        · exact absurd c1 (nI_ge (by omega) (by omega))
        · iterate 3 refine hK _ _ _ _ ?_
          refine hK _ _ _ _ (And.intro (rfl) (And.intro (g) ?_))
          refine hK _ _ _ _ (And.intro (fun c2 => ?_) (fun c2 => ?_))
          · exact hf (by simp only [zx_endB]; rw [show zg_free w h X (nI i) = false from mz_b0 c2]; rfl)
          · iterate 3 refine hK _ _ _ _ ?_
            refine hK _ _ _ _ (And.intro (rfl) (And.intro (g) ?_))
            refine hK _ _ _ _ ?_
            refine hK _ _ _ _ (And.intro (fun c3 => ?_) (fun c3 => ?_))
            · have e : zx_endB w h X n i = true := by
                simp only [zx_endB, Bool.and_eq_true, decide_eq_true_eq]
                exact ⟨mz_b1 c2, c3⟩
              rw [← mz_cnt_t e] at ih1
              iterate 3 refine hK _ _ _ _ ?_
              exact ih1
            · exact hf (by simp only [zx_endB, Bool.and_eq_false_iff, decide_eq_false_iff_not]; exact Or.inr c3)
    iterate 4 refine hK _ _ _ _ ?_
    exact loop (w * h) 0 (by omega)
  · exact hC.elim
theorem len_Mf_parts (w h : Nat) (lay : List mz_E) (as : List Value) (X : mz_X) (Q : Int32 → mz_X → Prop) (hC : C_Mf_parts w h lay as X Q) : (mz_l0 as).length ≤ 1 := by
  unfold C_Mf_parts at hC
  split at hC
  · exact Nat.le_of_ble_eq_true rfl
  · exact hC.elim
theorem ok_Mf_parts (w h : Nat) (lay : List mz_E) (as : List Value) (X : mz_X) (Q : Int32 → mz_X → Prop) (hC : C_Mf_parts w h lay as X Q) (K : mz_K) (hK : mz_Cl (I_Mf_parts w h) (mz_qi lay Q) K) : K 0 (mz_ent 1 as) [] (lay, X) := by
  unfold C_Mf_parts at hC
  split at hC
  ·
    obtain ⟨rfl, g, D, hD, hq⟩ := hC
    iterate 2 refine hK _ _ _ _ ?_
    refine hK _ _ _ _ (And.intro (rfl) (And.intro (g) ?_))
    iterate 2 refine hK _ _ _ _ ?_
    refine hK _ _ _ _ (And.intro rfl (And.intro g (Exists.intro D (And.intro hD.1 (And.intro hD.2 ?_)))))
    refine hK _ _ _ _ ?_
    exact hK _ _ _ _ (And.intro rfl (hq))
  · exact hC.elim
theorem len_Mf_isTree (w h : Nat) (lay : List mz_E) (as : List Value) (X : mz_X) (Q : Int32 → mz_X → Prop) (hC : C_Mf_isTree w h lay as X Q) : (mz_l0 as).length ≤ 3 := by
  unfold C_Mf_isTree at hC
  split at hC
  · exact Nat.le_of_ble_eq_true rfl
  · exact hC.elim
theorem ok_Mf_isTree (w h : Nat) (lay : List mz_E) (as : List Value) (X : mz_X) (Q : Int32 → mz_X → Prop) (hC : C_Mf_isTree w h lay as X Q) (K : mz_K) (hK : mz_Cl (I_Mf_isTree w h) (mz_qi lay Q) K) : K 0 (mz_ent 3 as) [] (lay, X) := by
  unfold C_Mf_isTree at hC
  split at hC
  ·
    obtain ⟨rfl, g, D, hD, hq⟩ := hC
    have hd := mz_geo_d g
    have hDd := hD.1
    have h7 : (zj_all w h X D).1.1 1 7 = nI D := by rw [zj_all_keep (by decide), hD.2]
    have h46 : zx_trB w h D X = false → ∀ L2 : Option Value, K 46 [some (.ref 0), some (.int (nI (zj_all w h X D).2)), L2] [] (mz_lay w h, (zj_all w h X D).1) := by
      intro e L2
      rw [e] at hq
      refine hK _ _ _ _ ?_
      exact hK _ _ _ _ (And.intro (Or.inl rfl) (And.intro rfl (hq)))
    iterate 2 refine hK _ _ _ _ ?_
    refine hK _ _ _ _ (And.intro rfl (And.intro g (Exists.intro D (And.intro hD.1 (And.intro hD.2 ?_)))))
    iterate 4 refine hK _ _ _ _ ?_
    refine hK _ _ _ _ (And.intro rfl (And.intro g (Exists.intro D (And.intro (by omega) (And.intro h7 ?_)))))
    refine hK _ _ _ _ (And.intro (fun c1 => ?_) (fun c1 => ?_))
    · iterate 4 refine hK _ _ _ _ ?_
      refine hK _ _ _ _ (And.intro (fun c2 => ?_) (fun c2 => ?_))
      · exact absurd c2 (by decide)
      · iterate 2 refine hK _ _ _ _ ?_
        refine hK _ _ _ _ (And.intro (rfl) (And.intro (g) ?_))
        iterate 3 refine hK _ _ _ _ ?_
        refine hK _ _ _ _ (And.intro (fun c3 => ?_) (fun c3 => ?_))
        · exact h46 (by simp only [zx_trB, Bool.and_eq_false_iff, decide_eq_false_iff_not]; exact Or.inr (Int32.not_le.mpr c3)) _
        · have e : zx_trB w h D X = true := by
            simp only [zx_trB, Bool.and_eq_true, decide_eq_true_eq]
            exact ⟨c1, Int32.not_lt.mp c3⟩
          rw [e] at hq
          iterate 2 refine hK _ _ _ _ ?_
          exact hK _ _ _ _ (And.intro (Or.inr rfl) (And.intro rfl (hq)))
    · iterate 3 refine hK _ _ _ _ ?_
      refine hK _ _ _ _ (And.intro (fun c2 => ?_) (fun c2 => ?_))
      · exact h46 (by simp only [zx_trB, Bool.and_eq_false_iff, decide_eq_false_iff_not]; exact Or.inl c1) _
      · exact absurd rfl c2
  · exact hC.elim
theorem len_Mf_grade (w h : Nat) (lay : List mz_E) (as : List Value) (X : mz_X) (Q : Int64 → mz_X → Prop) (hC : C_Mf_grade w h lay as X Q) : (mz_l0 as).length ≤ 1 := by
  unfold C_Mf_grade at hC
  split at hC
  · exact Nat.le_of_ble_eq_true rfl
  · exact hC.elim
theorem ok_Mf_grade (w h : Nat) (lay : List mz_E) (as : List Value) (X : mz_X) (Q : Int64 → mz_X → Prop) (hC : C_Mf_grade w h lay as X Q) (K : mz_K) (hK : mz_Cl (I_Mf_grade w h) (mz_ql lay Q) K) : K 0 (mz_ent 1 as) [] (lay, X) := by
  unfold C_Mf_grade at hC
  split at hC
  ·
    obtain ⟨rfl, g, hq1, hq2⟩ := hC
    iterate 2 refine hK _ _ _ _ ?_
    refine hK _ _ _ _ (And.intro (rfl) (And.intro (g) ?_))
    refine And.intro (fun e => ?_) (fun e => ?_)
    · exact hK _ _ _ _ (And.intro rfl (hq1 e))
    · obtain ⟨q, hq0, hq3, hq⟩ := hq2 e
      refine ⟨q, hq0, hq3, ?_⟩
      exact hK _ _ _ _ (And.intro rfl (hq))
  · exact hC.elim
set_option maxRecDepth 20000 in
theorem snd_Mf_mask (w h : Nat) (l : Launch) (p : Program) (e : Env) (s : State) (m : MethodId) (args : Array Value) (below : List Frame) (meth : Method) (c : Code) (D : va_G) (ad0 : Nat → Nat) (cA0 : Nat → ClassId) (A : Nat → Prop) (lay : List mz_E) (Q : Int32 → mz_X → Prop) (F : mz_F p s m args meth c prog_1_method_2_code 4 y_Mf_mask.cls (some .boolean) w_Mf_mask) (hA : ∀ q, s.heap.size ≤ q → A q) : mz_All (mz_V p l e (mz_rm 5 111) s m args below meth c 4 lay.length (mz_sz lay) D mz_cls (mz_G0 ad0 cA0) A (MQ below (va_Qi Q (mz_B D mz_cls ad0 cA0 lay A) A) args s 0 0 A)) (mz_qi lay Q) (I_Mf_mask w h) := by
  obtain ⟨hx, hb, hml, hown, hts, hr, hlk⟩ := F
  unfold I_Mf_mask
  refine mz_All.cons (sd_aload_n hx hb (mz_dg d_Mf_mask 0 0 (.aload_n 0) 1 rfl) rfl) ?_
  refine mz_All.cons (sd_get (k := 0) hx hb hts (mz_inC in_Mf) hown (T := T_Mf) (N := 5) rfl (by decide) (hts (.fieldLink "MazeForms" 12 "MazeForms" "grid" "LMazeForms$Grid;") (List.mem_cons_of_mem _ wm_308)) (fun _ h => h) (mz_dg d_Mf_mask 1 1 (.getfield 12) 3 rfl)) ?_
  refine mz_All.cons (sd_aload_n hx hb (mz_dg d_Mf_mask 2 4 (.aload_n 0) 1 rfl) rfl) ?_
  refine mz_All.cons (sd_get (k := 0) hx hb hts (mz_inC in_Mf) hown (T := T_Mf) (N := 5) rfl (by decide) (hts (.fieldLink "MazeForms" 12 "MazeForms" "grid" "LMazeForms$Grid;") (List.mem_cons_of_mem _ wm_308)) (fun _ h => h) (mz_dg d_Mf_mask 3 5 (.getfield 12) 3 rfl)) ?_
  refine mz_All.cons (sd_iload_n hx hb (mz_dg d_Mf_mask 4 8 (.iload_n 1) 1 rfl) rfl) ?_
  refine mz_All.cons (sd_iload_n hx hb (mz_dg d_Mf_mask 5 9 (.iload_n 2) 1 rfl) rfl) ?_
  refine mz_All.cons (sd_calli (T := T_Gr) ⟨hx, hb, hml, hown, hts⟩ (met_Gr_cellAt w h l) (cwV 2 hts (mz_gV wm_328 wm_109 wm_110 wm_67 wm_111) rfl rfl rfl (by decide) ⟨by decide, by decide⟩) rfl hA rfl (mz_dg d_Mf_mask 6 10 (.invokevirtual 60) 3 rfl)) ?_
  refine mz_All.cons (sd_iload_n hx hb (mz_dg d_Mf_mask 7 13 (.iload_n 3) 1 rfl) rfl) ?_
  refine mz_All.cons (sd_calli (T := T_Gr) ⟨hx, hb, hml, hown, hts⟩ (met_Gr_setMask w h l) (cwV 2 hts (mz_gV wm_329 wm_330 wm_331 wm_67 wm_332) rfl rfl rfl (by decide) ⟨by decide, by decide⟩) rfl hA rfl (mz_dg d_Mf_mask 8 14 (.invokevirtual 64) 3 rfl)) ?_
  refine mz_All.cons (sd_rz hx hb hr hlk (mz_dg d_Mf_mask 9 17 (.ireturn) 1 rfl)) ?_
  exact trivial
theorem met_Mf_mask (w h : Nat) (l : Launch) : mz_MI l y_Mf_mask w_Mf_mask 5 111 mz_cls (C_Mf_mask w h) := mz_MI_of (I_Mf_mask w h) (by decide) rfl (len_Mf_mask w h) (ok_Mf_mask w h) (snd_Mf_mask w h l)
set_option maxRecDepth 20000 in
theorem snd_Mf_make (w h : Nat) (l : Launch) (p : Program) (e : Env) (s : State) (m : MethodId) (args : Array Value) (below : List Frame) (meth : Method) (c : Code) (D : va_G) (ad0 : Nat → Nat) (cA0 : Nat → ClassId) (A : Nat → Prop) (lay : List mz_E) (Q : Int32 → mz_X → Prop) (F : mz_F p s m args meth c prog_1_method_3_code 2 y_Mf_make.cls (some .int) w_Mf_make) (hA : ∀ q, s.heap.size ≤ q → A q) : mz_All (mz_V p l e (mz_rm 6 135) s m args below meth c 2 lay.length (mz_sz lay) D mz_cls (mz_G0 ad0 cA0) A (MQ below (va_Qi Q (mz_B D mz_cls ad0 cA0 lay A) A) args s 0 0 A)) (mz_qi lay Q) (I_Mf_make w h) := by
  obtain ⟨hx, hb, hml, hown, hts, hr, hlk⟩ := F
  unfold I_Mf_make
  refine mz_All.cons (sd_aload_n hx hb (mz_dg d_Mf_make 0 0 (.aload_n 0) 1 rfl) rfl) ?_
  refine mz_All.cons (sd_get (k := 2) hx hb hts (mz_inC in_Mf) hown (T := T_Mf) (N := 5) rfl (by decide) (hts (.fieldLink "MazeForms" 40 "MazeForms" "maker" "LMazeForms$Maker;") (List.mem_cons_of_mem _ wm_310)) (fun _ h => h) (mz_dg d_Mf_make 1 1 (.getfield 40) 3 rfl)) ?_
  refine mz_All.cons (sd_iload_n hx hb (mz_dg d_Mf_make 2 4 (.iload_n 1) 1 rfl) rfl) ?_
  refine mz_All.cons (sd_calli (T := T_Mk) ⟨hx, hb, hml, hown, hts⟩ (met_Mk_build w h l) (cwV 1 hts (mz_gV wm_341 wm_342 wm_343 wm_72 wm_344) rfl rfl rfl (by decide) ⟨by decide, by decide⟩) rfl hA rfl (mz_dg d_Mf_make 3 5 (.invokevirtual 68) 3 rfl)) ?_
  refine mz_All.cons (sd_ri hx hb hr hlk (mz_dg d_Mf_make 4 8 (.ireturn) 1 rfl)) ?_
  exact trivial
theorem met_Mf_make (w h : Nat) (l : Launch) : mz_MI l y_Mf_make w_Mf_make 6 135 mz_cls (C_Mf_make w h) := mz_MI_of (I_Mf_make w h) (by decide) rfl (len_Mf_make w h) (ok_Mf_make w h) (snd_Mf_make w h l)
set_option maxRecDepth 20000 in
theorem snd_Mf_doors (w h : Nat) (l : Launch) (p : Program) (e : Env) (s : State) (m : MethodId) (args : Array Value) (below : List Frame) (meth : Method) (c : Code) (D : va_G) (ad0 : Nat → Nat) (cA0 : Nat → ClassId) (A : Nat → Prop) (lay : List mz_E) (Q : Int32 → mz_X → Prop) (F : mz_F p s m args meth c prog_1_method_4_code 1 y_Mf_doors.cls (some .int) w_Mf_doors) (hA : ∀ q, s.heap.size ≤ q → A q) : mz_All (mz_V p l e (mz_rm 1 20) s m args below meth c 1 lay.length (mz_sz lay) D mz_cls (mz_G0 ad0 cA0) A (MQ below (va_Qi Q (mz_B D mz_cls ad0 cA0 lay A) A) args s 0 0 A)) (mz_qi lay Q) (I_Mf_doors w h) := by
  obtain ⟨hx, hb, hml, hown, hts, hr, hlk⟩ := F
  unfold I_Mf_doors
  refine mz_All.cons (sd_aload_n hx hb (mz_dg d_Mf_doors 0 0 (.aload_n 0) 1 rfl) rfl) ?_
  refine mz_All.cons (sd_get (k := 0) hx hb hts (mz_inC in_Mf) hown (T := T_Mf) (N := 5) rfl (by decide) (hts (.fieldLink "MazeForms" 12 "MazeForms" "grid" "LMazeForms$Grid;") (List.mem_cons_of_mem _ wm_308)) (fun _ h => h) (mz_dg d_Mf_doors 1 1 (.getfield 12) 3 rfl)) ?_
  refine mz_All.cons (sd_calli (T := T_Gr) ⟨hx, hb, hml, hown, hts⟩ (met_Gr_doorCount w h l) (cwV 0 hts (mz_gV wm_523 wm_426 wm_427 wm_67 wm_428) rfl rfl rfl (by decide) ⟨by decide, by decide⟩) rfl hA rfl (mz_dg d_Mf_doors 2 4 (.invokevirtual 72) 3 rfl)) ?_
  refine mz_All.cons (sd_ri hx hb hr hlk (mz_dg d_Mf_doors 3 7 (.ireturn) 1 rfl)) ?_
  exact trivial
theorem met_Mf_doors (w h : Nat) (l : Launch) : mz_MI l y_Mf_doors w_Mf_doors 1 20 mz_cls (C_Mf_doors w h) := mz_MI_of (I_Mf_doors w h) (by decide) rfl (len_Mf_doors w h) (ok_Mf_doors w h) (snd_Mf_doors w h l)
set_option maxRecDepth 20000 in
theorem snd_Mf_open (w h : Nat) (l : Launch) (p : Program) (e : Env) (s : State) (m : MethodId) (args : Array Value) (below : List Frame) (meth : Method) (c : Code) (D : va_G) (ad0 : Nat → Nat) (cA0 : Nat → ClassId) (A : Nat → Prop) (lay : List mz_E) (Q : Int32 → mz_X → Prop) (F : mz_F p s m args meth c prog_1_method_5_code 4 y_Mf_open.cls (some .boolean) w_Mf_open) (hA : ∀ q, s.heap.size ≤ q → A q) : mz_All (mz_V p l e (mz_rm 2 44) s m args below meth c 4 lay.length (mz_sz lay) D mz_cls (mz_G0 ad0 cA0) A (MQ below (va_Qi Q (mz_B D mz_cls ad0 cA0 lay A) A) args s 0 0 A)) (mz_qi lay Q) (I_Mf_open w h) := by
  obtain ⟨hx, hb, hml, hown, hts, hr, hlk⟩ := F
  unfold I_Mf_open
  refine mz_All.cons (sd_aload_n hx hb (mz_dg d_Mf_open 0 0 (.aload_n 0) 1 rfl) rfl) ?_
  refine mz_All.cons (sd_get (k := 0) hx hb hts (mz_inC in_Mf) hown (T := T_Mf) (N := 5) rfl (by decide) (hts (.fieldLink "MazeForms" 12 "MazeForms" "grid" "LMazeForms$Grid;") (List.mem_cons_of_mem _ wm_308)) (fun _ h => h) (mz_dg d_Mf_open 1 1 (.getfield 12) 3 rfl)) ?_
  refine mz_All.cons (sd_aload_n hx hb (mz_dg d_Mf_open 2 4 (.aload_n 0) 1 rfl) rfl) ?_
  refine mz_All.cons (sd_get (k := 0) hx hb hts (mz_inC in_Mf) hown (T := T_Mf) (N := 5) rfl (by decide) (hts (.fieldLink "MazeForms" 12 "MazeForms" "grid" "LMazeForms$Grid;") (List.mem_cons_of_mem _ wm_308)) (fun _ h => h) (mz_dg d_Mf_open 3 5 (.getfield 12) 3 rfl)) ?_
  refine mz_All.cons (sd_aload_n hx hb (mz_dg d_Mf_open 4 8 (.aload_n 0) 1 rfl) rfl) ?_
  refine mz_All.cons (sd_get (k := 0) hx hb hts (mz_inC in_Mf) hown (T := T_Mf) (N := 5) rfl (by decide) (hts (.fieldLink "MazeForms" 12 "MazeForms" "grid" "LMazeForms$Grid;") (List.mem_cons_of_mem _ wm_308)) (fun _ h => h) (mz_dg d_Mf_open 5 9 (.getfield 12) 3 rfl)) ?_
  refine mz_All.cons (sd_iload_n hx hb (mz_dg d_Mf_open 6 12 (.iload_n 1) 1 rfl) rfl) ?_
  refine mz_All.cons (sd_iload_n hx hb (mz_dg d_Mf_open 7 13 (.iload_n 2) 1 rfl) rfl) ?_
  refine mz_All.cons (sd_calli (T := T_Gr) ⟨hx, hb, hml, hown, hts⟩ (met_Gr_cellAt w h l) (cwV 2 hts (mz_gV wm_328 wm_109 wm_110 wm_67 wm_111) rfl rfl rfl (by decide) ⟨by decide, by decide⟩) rfl hA rfl (mz_dg d_Mf_open 8 14 (.invokevirtual 60) 3 rfl)) ?_
  refine mz_All.cons (sd_iload_n hx hb (mz_dg d_Mf_open 9 17 (.iload_n 3) 1 rfl) rfl) ?_
  refine mz_All.cons (sd_calli (T := T_Gr) ⟨hx, hb, hml, hown, hts⟩ (met_Gr_doorOn w h l) (cwV 2 hts (mz_gV wm_528 wm_372 wm_373 wm_67 wm_374) rfl rfl rfl (by decide) ⟨by decide, by decide⟩) rfl hA rfl (mz_dg d_Mf_open 10 18 (.invokevirtual 76) 3 rfl)) ?_
  refine mz_All.cons (sd_calli (T := T_Gr) ⟨hx, hb, hml, hown, hts⟩ (met_Gr_isOpen w h l) (cwV 1 hts (mz_gV wm_529 wm_497 wm_498 wm_67 wm_499) rfl rfl rfl (by decide) ⟨by decide, by decide⟩) rfl hA rfl (mz_dg d_Mf_open 11 21 (.invokevirtual 79) 3 rfl)) ?_
  refine mz_All.cons (sd_rz hx hb hr hlk (mz_dg d_Mf_open 12 24 (.ireturn) 1 rfl)) ?_
  exact trivial
theorem met_Mf_open (w h : Nat) (l : Launch) : mz_MI l y_Mf_open w_Mf_open 2 44 mz_cls (C_Mf_open w h) := mz_MI_of (I_Mf_open w h) (by decide) rfl (len_Mf_open w h) (ok_Mf_open w h) (snd_Mf_open w h l)
set_option maxRecDepth 20000 in
theorem snd_Mf_set (w h : Nat) (l : Launch) (p : Program) (e : Env) (s : State) (m : MethodId) (args : Array Value) (below : List Frame) (meth : Method) (c : Code) (D : va_G) (ad0 : Nat → Nat) (cA0 : Nat → ClassId) (A : Nat → Prop) (lay : List mz_E) (Q : Int32 → mz_X → Prop) (F : mz_F p s m args meth c prog_1_method_6_code 3 y_Mf_set.cls (some .boolean) w_Mf_set) (hA : ∀ q, s.heap.size ≤ q → A q) : mz_All (mz_V p l e (mz_rm 2 43) s m args below meth c 3 lay.length (mz_sz lay) D mz_cls (mz_G0 ad0 cA0) A (MQ below (va_Qi Q (mz_B D mz_cls ad0 cA0 lay A) A) args s 0 0 A)) (mz_qi lay Q) (I_Mf_set w h) := by
  obtain ⟨hx, hb, hml, hown, hts, hr, hlk⟩ := F
  unfold I_Mf_set
  refine mz_All.cons (sd_aload_n hx hb (mz_dg d_Mf_set 0 0 (.aload_n 0) 1 rfl) rfl) ?_
  refine mz_All.cons (sd_get (k := 0) hx hb hts (mz_inC in_Mf) hown (T := T_Mf) (N := 5) rfl (by decide) (hts (.fieldLink "MazeForms" 12 "MazeForms" "grid" "LMazeForms$Grid;") (List.mem_cons_of_mem _ wm_308)) (fun _ h => h) (mz_dg d_Mf_set 1 1 (.getfield 12) 3 rfl)) ?_
  refine mz_All.cons (sd_iload_n hx hb (mz_dg d_Mf_set 2 4 (.iload_n 1) 1 rfl) rfl) ?_
  refine mz_All.cons (sd_iload_n hx hb (mz_dg d_Mf_set 3 5 (.iload_n 2) 1 rfl) rfl) ?_
  refine mz_All.cons (sd_calli (T := T_Gr) ⟨hx, hb, hml, hown, hts⟩ (met_Gr_setDoor w h l) (cwV 2 hts (mz_gV wm_534 wm_414 wm_415 wm_67 wm_416) rfl rfl rfl (by decide) ⟨by decide, by decide⟩) rfl hA rfl (mz_dg d_Mf_set 4 6 (.invokevirtual 83) 3 rfl)) ?_
  refine mz_All.cons (sd_rz hx hb hr hlk (mz_dg d_Mf_set 5 9 (.ireturn) 1 rfl)) ?_
  exact trivial
theorem met_Mf_set (w h : Nat) (l : Launch) : mz_MI l y_Mf_set w_Mf_set 2 43 mz_cls (C_Mf_set w h) := mz_MI_of (I_Mf_set w h) (by decide) rfl (len_Mf_set w h) (ok_Mf_set w h) (snd_Mf_set w h l)
set_option maxRecDepth 20000 in
theorem snd_Mf_loops (w h : Nat) (l : Launch) (p : Program) (e : Env) (s : State) (m : MethodId) (args : Array Value) (below : List Frame) (meth : Method) (c : Code) (D : va_G) (ad0 : Nat → Nat) (cA0 : Nat → ClassId) (A : Nat → Prop) (lay : List mz_E) (Q : Int32 → mz_X → Prop) (F : mz_F p s m args meth c prog_1_method_7_code 2 y_Mf_loops.cls (some .int) w_Mf_loops) (hA : ∀ q, s.heap.size ≤ q → A q) : mz_All (mz_V p l e (mz_rm 4 87) s m args below meth c 2 lay.length (mz_sz lay) D mz_cls (mz_G0 ad0 cA0) A (MQ below (va_Qi Q (mz_B D mz_cls ad0 cA0 lay A) A) args s 0 0 A)) (mz_qi lay Q) (I_Mf_loops w h) := by
  obtain ⟨hx, hb, hml, hown, hts, hr, hlk⟩ := F
  unfold I_Mf_loops
  refine mz_All.cons (sd_iload_n hx hb (mz_dg d_Mf_loops 0 0 (.iload_n 1) 1 rfl) rfl) ?_
  refine mz_All.cons (sd_if_lt hx hb (mz_dg d_Mf_loops 1 1 (.ifCond .lt (10)) 3 rfl) (by decide)) ?_
  refine mz_All.cons (sd_iload_n hx hb (mz_dg d_Mf_loops 2 4 (.iload_n 1) 1 rfl) rfl) ?_
  refine mz_All.cons (sd_sipush hx hb (mz_dg d_Mf_loops 3 5 (.sipush (200)) 3 rfl) (by decide)) ?_
  refine mz_All.cons (sd_icmp_le hx hb (mz_dg d_Mf_loops 4 8 (.if_icmp .le (5)) 3 rfl) (by decide)) ?_
  refine mz_All.cons (sd_iconst hx hb (mz_dg d_Mf_loops 5 11 (.iconst (-1)) 1 rfl) (by decide)) ?_
  refine mz_All.cons (sd_ri hx hb hr hlk (mz_dg d_Mf_loops 6 12 (.ireturn) 1 rfl)) ?_
  refine mz_All.cons (sd_aload_n hx hb (mz_dg d_Mf_loops 7 13 (.aload_n 0) 1 rfl) rfl) ?_
  refine mz_All.cons (sd_get (k := 2) hx hb hts (mz_inC in_Mf) hown (T := T_Mf) (N := 5) rfl (by decide) (hts (.fieldLink "MazeForms" 40 "MazeForms" "maker" "LMazeForms$Maker;") (List.mem_cons_of_mem _ wm_310)) (fun _ h => h) (mz_dg d_Mf_loops 8 14 (.getfield 40) 3 rfl)) ?_
  refine mz_All.cons (sd_iload_n hx hb (mz_dg d_Mf_loops 9 17 (.iload_n 1) 1 rfl) rfl) ?_
  refine mz_All.cons (sd_calli (T := T_Mk) ⟨hx, hb, hml, hown, hts⟩ (met_Mk_openMore w h l) (cwV 1 hts (mz_gV wm_539 wm_540 wm_541 wm_72 wm_542) rfl rfl rfl (by decide) ⟨by decide, by decide⟩) rfl hA rfl (mz_dg d_Mf_loops 10 18 (.invokevirtual 86) 3 rfl)) ?_
  refine mz_All.cons (sd_ri hx hb hr hlk (mz_dg d_Mf_loops 11 21 (.ireturn) 1 rfl)) ?_
  exact trivial
theorem met_Mf_loops (w h : Nat) (l : Launch) : mz_MI l y_Mf_loops w_Mf_loops 4 87 mz_cls (C_Mf_loops w h) := mz_MI_of (I_Mf_loops w h) (by decide) rfl (len_Mf_loops w h) (ok_Mf_loops w h) (snd_Mf_loops w h l)
set_option maxRecDepth 20000 in
theorem snd_Mf_path (w h : Nat) (l : Launch) (p : Program) (e : Env) (s : State) (m : MethodId) (args : Array Value) (below : List Frame) (meth : Method) (c : Code) (D : va_G) (ad0 : Nat → Nat) (cA0 : Nat → ClassId) (A : Nat → Prop) (lay : List mz_E) (Q : Int32 → mz_X → Prop) (F : mz_F p s m args meth c prog_1_method_8_code 3 y_Mf_path.cls (some .int) w_Mf_path) (hA : ∀ q, s.heap.size ≤ q → A q) : mz_All (mz_V p l e (mz_rm 5 117) s m args below meth c 3 lay.length (mz_sz lay) D mz_cls (mz_G0 ad0 cA0) A (MQ below (va_Qi Q (mz_B D mz_cls ad0 cA0 lay A) A) args s 0 0 A)) (mz_qi lay Q) (I_Mf_path w h) := by
  obtain ⟨hx, hb, hml, hown, hts, hr, hlk⟩ := F
  unfold I_Mf_path
  refine mz_All.cons (sd_aload_n hx hb (mz_dg d_Mf_path 0 0 (.aload_n 0) 1 rfl) rfl) ?_
  refine mz_All.cons (sd_get (k := 3) hx hb hts (mz_inC in_Mf) hown (T := T_Mf) (N := 5) rfl (by decide) (hts (.fieldLink "MazeForms" 49 "MazeForms" "trail" "LMazeForms$Trail;") (List.mem_cons_of_mem _ wm_311)) (fun _ h => h) (mz_dg d_Mf_path 1 1 (.getfield 49) 3 rfl)) ?_
  refine mz_All.cons (sd_iload_n hx hb (mz_dg d_Mf_path 2 4 (.iload_n 1) 1 rfl) rfl) ?_
  refine mz_All.cons (sd_iload_n hx hb (mz_dg d_Mf_path 3 5 (.iload_n 2) 1 rfl) rfl) ?_
  refine mz_All.cons (sd_calli (T := T_Tr) ⟨hx, hb, hml, hown, hts⟩ (met_Tr_find w h l) (cwV 2 hts (mz_gV wm_548 wm_549 wm_550 wm_75 wm_551) rfl rfl rfl (by decide) ⟨by decide, by decide⟩) rfl hA rfl (mz_dg d_Mf_path 4 6 (.invokevirtual 89) 3 rfl)) ?_
  refine mz_All.cons (sd_ri hx hb hr hlk (mz_dg d_Mf_path 5 9 (.ireturn) 1 rfl)) ?_
  exact trivial
theorem met_Mf_path (w h : Nat) (l : Launch) : mz_MI l y_Mf_path w_Mf_path 5 117 mz_cls (C_Mf_path w h) := mz_MI_of (I_Mf_path w h) (by decide) rfl (len_Mf_path w h) (ok_Mf_path w h) (snd_Mf_path w h l)
set_option maxRecDepth 20000 in
theorem snd_Mf_at (w h : Nat) (l : Launch) (p : Program) (e : Env) (s : State) (m : MethodId) (args : Array Value) (below : List Frame) (meth : Method) (c : Code) (D : va_G) (ad0 : Nat → Nat) (cA0 : Nat → ClassId) (A : Nat → Prop) (lay : List mz_E) (Q : Int32 → mz_X → Prop) (F : mz_F p s m args meth c prog_1_method_9_code 2 y_Mf_at.cls (some .int) w_Mf_at) (hA : ∀ q, s.heap.size ≤ q → A q) : mz_All (mz_V p l e (mz_rm 3 62) s m args below meth c 2 lay.length (mz_sz lay) D mz_cls (mz_G0 ad0 cA0) A (MQ below (va_Qi Q (mz_B D mz_cls ad0 cA0 lay A) A) args s 0 0 A)) (mz_qi lay Q) (I_Mf_at w h) := by
  obtain ⟨hx, hb, hml, hown, hts, hr, hlk⟩ := F
  unfold I_Mf_at
  refine mz_All.cons (sd_aload_n hx hb (mz_dg d_Mf_at 0 0 (.aload_n 0) 1 rfl) rfl) ?_
  refine mz_All.cons (sd_get (k := 3) hx hb hts (mz_inC in_Mf) hown (T := T_Mf) (N := 5) rfl (by decide) (hts (.fieldLink "MazeForms" 49 "MazeForms" "trail" "LMazeForms$Trail;") (List.mem_cons_of_mem _ wm_311)) (fun _ h => h) (mz_dg d_Mf_at 1 1 (.getfield 49) 3 rfl)) ?_
  refine mz_All.cons (sd_iload_n hx hb (mz_dg d_Mf_at 2 4 (.iload_n 1) 1 rfl) rfl) ?_
  refine mz_All.cons (sd_calli (T := T_Tr) ⟨hx, hb, hml, hown, hts⟩ (met_Tr_cellAtStep w h l) (cwV 1 hts (mz_gV wm_570 wm_571 wm_572 wm_75 wm_573) rfl rfl rfl (by decide) ⟨by decide, by decide⟩) rfl hA rfl (mz_dg d_Mf_at 3 5 (.invokevirtual 92) 3 rfl)) ?_
  refine mz_All.cons (sd_ri hx hb hr hlk (mz_dg d_Mf_at 4 8 (.ireturn) 1 rfl)) ?_
  exact trivial
theorem met_Mf_at (w h : Nat) (l : Launch) : mz_MI l y_Mf_at w_Mf_at 3 62 mz_cls (C_Mf_at w h) := mz_MI_of (I_Mf_at w h) (by decide) rfl (len_Mf_at w h) (ok_Mf_at w h) (snd_Mf_at w h l)
set_option maxRecDepth 20000 in
theorem snd_Mf_ends (w h : Nat) (l : Launch) (p : Program) (e : Env) (s : State) (m : MethodId) (args : Array Value) (below : List Frame) (meth : Method) (c : Code) (D : va_G) (ad0 : Nat → Nat) (cA0 : Nat → ClassId) (A : Nat → Prop) (lay : List mz_E) (Q : Int32 → mz_X → Prop) (F : mz_F p s m args meth c prog_1_method_10_code 4 y_Mf_ends.cls (some .int) w_Mf_ends) (hA : ∀ q, s.heap.size ≤ q → A q) : mz_All (mz_V p l e (mz_rm 3 67) s m args below meth c 4 lay.length (mz_sz lay) D mz_cls (mz_G0 ad0 cA0) A (MQ below (va_Qi Q (mz_B D mz_cls ad0 cA0 lay A) A) args s 0 0 A)) (mz_qi lay Q) (I_Mf_ends w h) := by
  obtain ⟨hx, hb, hml, hown, hts, hr, hlk⟩ := F
  unfold I_Mf_ends
  refine mz_All.cons (sd_iconst hx hb (mz_dg d_Mf_ends 0 0 (.iconst (0)) 1 rfl) (by decide)) ?_
  refine mz_All.cons (sd_istore_n hx hb (mz_dg d_Mf_ends 1 1 (.istore_n 2) 1 rfl) rfl (by decide)) ?_
  refine mz_All.cons (sd_iconst hx hb (mz_dg d_Mf_ends 2 2 (.iconst (0)) 1 rfl) (by decide)) ?_
  refine mz_All.cons (sd_istore_n hx hb (mz_dg d_Mf_ends 3 3 (.istore_n 3) 1 rfl) rfl (by decide)) ?_
  refine mz_All.cons (sd_iload_n hx hb (mz_dg d_Mf_ends 4 4 (.iload_n 3) 1 rfl) rfl) ?_
  refine mz_All.cons (sd_aload_n hx hb (mz_dg d_Mf_ends 5 5 (.aload_n 0) 1 rfl) rfl) ?_
  refine mz_All.cons (sd_get (k := 0) hx hb hts (mz_inC in_Mf) hown (T := T_Mf) (N := 5) rfl (by decide) (hts (.fieldLink "MazeForms" 12 "MazeForms" "grid" "LMazeForms$Grid;") (List.mem_cons_of_mem _ wm_308)) (fun _ h => h) (mz_dg d_Mf_ends 6 6 (.getfield 12) 3 rfl)) ?_
  refine mz_All.cons (sd_calli (T := T_Gr) ⟨hx, hb, hml, hown, hts⟩ (met_Gr_cellCount w h l) (cwV 0 hts (mz_gV wm_582 wm_161 wm_162 wm_67 wm_163) rfl rfl rfl (by decide) ⟨by decide, by decide⟩) rfl hA rfl (mz_dg d_Mf_ends 7 9 (.invokevirtual 95) 3 rfl)) ?_
  refine mz_All.cons (sd_icmp_ge hx hb (mz_dg d_Mf_ends 8 12 (.if_icmp .ge (35)) 3 rfl) (by decide)) ?_
  refine mz_All.cons (sd_aload_n hx hb (mz_dg d_Mf_ends 9 15 (.aload_n 0) 1 rfl) rfl) ?_
  refine mz_All.cons (sd_get (k := 0) hx hb hts (mz_inC in_Mf) hown (T := T_Mf) (N := 5) rfl (by decide) (hts (.fieldLink "MazeForms" 12 "MazeForms" "grid" "LMazeForms$Grid;") (List.mem_cons_of_mem _ wm_308)) (fun _ h => h) (mz_dg d_Mf_ends 10 16 (.getfield 12) 3 rfl)) ?_
  refine mz_All.cons (sd_iload_n hx hb (mz_dg d_Mf_ends 11 19 (.iload_n 3) 1 rfl) rfl) ?_
  refine mz_All.cons (sd_calli (T := T_Gr) ⟨hx, hb, hml, hown, hts⟩ (met_Gr_isFree w h l) (cwV 1 hts (mz_gV wm_583 wm_117 wm_118 wm_67 wm_119) rfl rfl rfl (by decide) ⟨by decide, by decide⟩) rfl hA rfl (mz_dg d_Mf_ends 12 20 (.invokevirtual 98) 3 rfl)) ?_
  refine mz_All.cons (sd_if_eq hx hb (mz_dg d_Mf_ends 13 23 (.ifCond .eq (18)) 3 rfl) (by decide)) ?_
  refine mz_All.cons (sd_aload_n hx hb (mz_dg d_Mf_ends 14 26 (.aload_n 0) 1 rfl) rfl) ?_
  refine mz_All.cons (sd_get (k := 0) hx hb hts (mz_inC in_Mf) hown (T := T_Mf) (N := 5) rfl (by decide) (hts (.fieldLink "MazeForms" 12 "MazeForms" "grid" "LMazeForms$Grid;") (List.mem_cons_of_mem _ wm_308)) (fun _ h => h) (mz_dg d_Mf_ends 15 27 (.getfield 12) 3 rfl)) ?_
  refine mz_All.cons (sd_iload_n hx hb (mz_dg d_Mf_ends 16 30 (.iload_n 3) 1 rfl) rfl) ?_
  refine mz_All.cons (sd_calli (T := T_Gr) ⟨hx, hb, hml, hown, hts⟩ (met_Gr_openSides w h l) (cwV 1 hts (mz_gV wm_584 wm_585 wm_586 wm_67 wm_587) rfl rfl rfl (by decide) ⟨by decide, by decide⟩) rfl hA rfl (mz_dg d_Mf_ends 17 31 (.invokevirtual 101) 3 rfl)) ?_
  refine mz_All.cons (sd_iload_n hx hb (mz_dg d_Mf_ends 18 34 (.iload_n 1) 1 rfl) rfl) ?_
  refine mz_All.cons (sd_icmp_ne hx hb (mz_dg d_Mf_ends 19 35 (.if_icmp .ne (6)) 3 rfl) (by decide)) ?_
  refine mz_All.cons (sd_iinc hx hb (mz_dg d_Mf_ends 20 38 (.iinc 2 (1)) 3 rfl) (by decide) (by decide)) ?_
  refine mz_All.cons (sd_iinc hx hb (mz_dg d_Mf_ends 21 41 (.iinc 3 (1)) 3 rfl) (by decide) (by decide)) ?_
  refine mz_All.cons (sd_goto hx hb (mz_dg d_Mf_ends 22 44 (.goto (-40)) 3 rfl) (by decide)) ?_
  refine mz_All.cons (sd_iload_n hx hb (mz_dg d_Mf_ends 23 47 (.iload_n 2) 1 rfl) rfl) ?_
  refine mz_All.cons (sd_ri hx hb hr hlk (mz_dg d_Mf_ends 24 48 (.ireturn) 1 rfl)) ?_
  exact trivial
theorem met_Mf_ends (w h : Nat) (l : Launch) : mz_MI l y_Mf_ends w_Mf_ends 3 67 mz_cls (C_Mf_ends w h) := mz_MI_of (I_Mf_ends w h) (by decide) rfl (len_Mf_ends w h) (ok_Mf_ends w h) (snd_Mf_ends w h l)
set_option maxRecDepth 20000 in
theorem snd_Mf_parts (w h : Nat) (l : Launch) (p : Program) (e : Env) (s : State) (m : MethodId) (args : Array Value) (below : List Frame) (meth : Method) (c : Code) (D : va_G) (ad0 : Nat → Nat) (cA0 : Nat → ClassId) (A : Nat → Prop) (lay : List mz_E) (Q : Int32 → mz_X → Prop) (F : mz_F p s m args meth c prog_1_method_11_code 1 y_Mf_parts.cls (some .int) w_Mf_parts) (hA : ∀ q, s.heap.size ≤ q → A q) : mz_All (mz_V p l e (mz_rm 4 89) s m args below meth c 1 lay.length (mz_sz lay) D mz_cls (mz_G0 ad0 cA0) A (MQ below (va_Qi Q (mz_B D mz_cls ad0 cA0 lay A) A) args s 0 0 A)) (mz_qi lay Q) (I_Mf_parts w h) := by
  obtain ⟨hx, hb, hml, hown, hts, hr, hlk⟩ := F
  unfold I_Mf_parts
  refine mz_All.cons (sd_aload_n hx hb (mz_dg d_Mf_parts 0 0 (.aload_n 0) 1 rfl) rfl) ?_
  refine mz_All.cons (sd_get (k := 0) hx hb hts (mz_inC in_Mf) hown (T := T_Mf) (N := 5) rfl (by decide) (hts (.fieldLink "MazeForms" 12 "MazeForms" "grid" "LMazeForms$Grid;") (List.mem_cons_of_mem _ wm_308)) (fun _ h => h) (mz_dg d_Mf_parts 1 1 (.getfield 12) 3 rfl)) ?_
  refine mz_All.cons (sd_calli (T := T_Gr) ⟨hx, hb, hml, hown, hts⟩ (met_Gr_freeCells w h l) (cwV 0 hts (mz_gV wm_594 wm_595 wm_596 wm_67 wm_597) rfl rfl rfl (by decide) ⟨by decide, by decide⟩) rfl hA rfl (mz_dg d_Mf_parts 2 4 (.invokevirtual 104) 3 rfl)) ?_
  refine mz_All.cons (sd_aload_n hx hb (mz_dg d_Mf_parts 3 7 (.aload_n 0) 1 rfl) rfl) ?_
  refine mz_All.cons (sd_get (k := 1) hx hb hts (mz_inC in_Mf) hown (T := T_Mf) (N := 5) rfl (by decide) (hts (.fieldLink "MazeForms" 23 "MazeForms" "joined" "LMazeForms$Joined;") (List.mem_cons_of_mem _ wm_309)) (fun _ h => h) (mz_dg d_Mf_parts 4 8 (.getfield 23) 3 rfl)) ?_
  refine mz_All.cons (sd_calli (T := T_Jo) ⟨hx, hb, hml, hown, hts⟩ (met_Jo_joinOpenDoors w h l) (cwV 0 hts (mz_gV wm_598 wm_599 wm_600 wm_70 wm_601) rfl rfl rfl (by decide) ⟨by decide, by decide⟩) rfl hA rfl (mz_dg d_Mf_parts 5 11 (.invokevirtual 107) 3 rfl)) ?_
  refine mz_All.cons (sd_isub hx hb (mz_dg d_Mf_parts 6 14 (.isub) 1 rfl)) ?_
  refine mz_All.cons (sd_ri hx hb hr hlk (mz_dg d_Mf_parts 7 15 (.ireturn) 1 rfl)) ?_
  exact trivial
theorem met_Mf_parts (w h : Nat) (l : Launch) : mz_MI l y_Mf_parts w_Mf_parts 4 89 mz_cls (C_Mf_parts w h) := mz_MI_of (I_Mf_parts w h) (by decide) rfl (len_Mf_parts w h) (ok_Mf_parts w h) (snd_Mf_parts w h l)
set_option maxRecDepth 20000 in
theorem snd_Mf_isTree (w h : Nat) (l : Launch) (p : Program) (e : Env) (s : State) (m : MethodId) (args : Array Value) (below : List Frame) (meth : Method) (c : Code) (D : va_G) (ad0 : Nat → Nat) (cA0 : Nat → ClassId) (A : Nat → Prop) (lay : List mz_E) (Q : Int32 → mz_X → Prop) (F : mz_F p s m args meth c prog_1_method_12_code 3 y_Mf_isTree.cls (some .boolean) w_Mf_isTree) (hA : ∀ q, s.heap.size ≤ q → A q) : mz_All (mz_V p l e (mz_rm 4 89) s m args below meth c 3 lay.length (mz_sz lay) D mz_cls (mz_G0 ad0 cA0) A (MQ below (va_Qi Q (mz_B D mz_cls ad0 cA0 lay A) A) args s 0 0 A)) (mz_qi lay Q) (I_Mf_isTree w h) := by
  obtain ⟨hx, hb, hml, hown, hts, hr, hlk⟩ := F
  unfold I_Mf_isTree
  refine mz_All.cons (sd_aload_n hx hb (mz_dg d_Mf_isTree 0 0 (.aload_n 0) 1 rfl) rfl) ?_
  refine mz_All.cons (sd_get (k := 1) hx hb hts (mz_inC in_Mf) hown (T := T_Mf) (N := 5) rfl (by decide) (hts (.fieldLink "MazeForms" 23 "MazeForms" "joined" "LMazeForms$Joined;") (List.mem_cons_of_mem _ wm_309)) (fun _ h => h) (mz_dg d_Mf_isTree 1 1 (.getfield 23) 3 rfl)) ?_
  refine mz_All.cons (sd_calli (T := T_Jo) ⟨hx, hb, hml, hown, hts⟩ (met_Jo_joinOpenDoors w h l) (cwV 0 hts (mz_gV wm_598 wm_599 wm_600 wm_70 wm_601) rfl rfl rfl (by decide) ⟨by decide, by decide⟩) rfl hA rfl (mz_dg d_Mf_isTree 2 4 (.invokevirtual 107) 3 rfl)) ?_
  refine mz_All.cons (sd_istore_n hx hb (mz_dg d_Mf_isTree 3 7 (.istore_n 1) 1 rfl) rfl (by decide)) ?_
  refine mz_All.cons (sd_iload_n hx hb (mz_dg d_Mf_isTree 4 8 (.iload_n 1) 1 rfl) rfl) ?_
  refine mz_All.cons (sd_aload_n hx hb (mz_dg d_Mf_isTree 5 9 (.aload_n 0) 1 rfl) rfl) ?_
  refine mz_All.cons (sd_get (k := 0) hx hb hts (mz_inC in_Mf) hown (T := T_Mf) (N := 5) rfl (by decide) (hts (.fieldLink "MazeForms" 12 "MazeForms" "grid" "LMazeForms$Grid;") (List.mem_cons_of_mem _ wm_308)) (fun _ h => h) (mz_dg d_Mf_isTree 6 10 (.getfield 12) 3 rfl)) ?_
  refine mz_All.cons (sd_calli (T := T_Gr) ⟨hx, hb, hml, hown, hts⟩ (met_Gr_openDoors w h l) (cwV 0 hts (mz_gV wm_610 wm_611 wm_612 wm_67 wm_613) rfl rfl rfl (by decide) ⟨by decide, by decide⟩) rfl hA rfl (mz_dg d_Mf_isTree 7 13 (.invokevirtual 110) 3 rfl)) ?_
  refine mz_All.cons (sd_icmp_ne hx hb (mz_dg d_Mf_isTree 8 16 (.if_icmp .ne (7)) 3 rfl) (by decide)) ?_
  refine mz_All.cons (sd_iconst hx hb (mz_dg d_Mf_isTree 9 19 (.iconst (1)) 1 rfl) (by decide)) ?_
  refine mz_All.cons (sd_goto hx hb (mz_dg d_Mf_isTree 10 20 (.goto (4)) 3 rfl) (by decide)) ?_
  refine mz_All.cons (sd_iconst hx hb (mz_dg d_Mf_isTree 11 23 (.iconst (0)) 1 rfl) (by decide)) ?_
  refine mz_All.cons (sd_istore_n hx hb (mz_dg d_Mf_isTree 12 24 (.istore_n 2) 1 rfl) rfl (by decide)) ?_
  refine mz_All.cons (sd_iload_n hx hb (mz_dg d_Mf_isTree 13 25 (.iload_n 2) 1 rfl) rfl) ?_
  refine mz_All.cons (sd_if_eq hx hb (mz_dg d_Mf_isTree 14 26 (.ifCond .eq (20)) 3 rfl) (by decide)) ?_
  refine mz_All.cons (sd_aload_n hx hb (mz_dg d_Mf_isTree 15 29 (.aload_n 0) 1 rfl) rfl) ?_
  refine mz_All.cons (sd_get (k := 0) hx hb hts (mz_inC in_Mf) hown (T := T_Mf) (N := 5) rfl (by decide) (hts (.fieldLink "MazeForms" 12 "MazeForms" "grid" "LMazeForms$Grid;") (List.mem_cons_of_mem _ wm_308)) (fun _ h => h) (mz_dg d_Mf_isTree 16 30 (.getfield 12) 3 rfl)) ?_
  refine mz_All.cons (sd_calli (T := T_Gr) ⟨hx, hb, hml, hown, hts⟩ (met_Gr_freeCells w h l) (cwV 0 hts (mz_gV wm_594 wm_595 wm_596 wm_67 wm_597) rfl rfl rfl (by decide) ⟨by decide, by decide⟩) rfl hA rfl (mz_dg d_Mf_isTree 17 33 (.invokevirtual 104) 3 rfl)) ?_
  refine mz_All.cons (sd_iload_n hx hb (mz_dg d_Mf_isTree 18 36 (.iload_n 1) 1 rfl) rfl) ?_
  refine mz_All.cons (sd_isub hx hb (mz_dg d_Mf_isTree 19 37 (.isub) 1 rfl)) ?_
  refine mz_All.cons (sd_iconst hx hb (mz_dg d_Mf_isTree 20 38 (.iconst (1)) 1 rfl) (by decide)) ?_
  refine mz_All.cons (sd_icmp_gt hx hb (mz_dg d_Mf_isTree 21 39 (.if_icmp .gt (7)) 3 rfl) (by decide)) ?_
  refine mz_All.cons (sd_iconst hx hb (mz_dg d_Mf_isTree 22 42 (.iconst (1)) 1 rfl) (by decide)) ?_
  refine mz_All.cons (sd_goto hx hb (mz_dg d_Mf_isTree 23 43 (.goto (4)) 3 rfl) (by decide)) ?_
  refine mz_All.cons (sd_iconst hx hb (mz_dg d_Mf_isTree 24 46 (.iconst (0)) 1 rfl) (by decide)) ?_
  refine mz_All.cons (sd_rz hx hb hr hlk (mz_dg d_Mf_isTree 25 47 (.ireturn) 1 rfl)) ?_
  exact trivial
theorem met_Mf_isTree (w h : Nat) (l : Launch) : mz_MI l y_Mf_isTree w_Mf_isTree 4 89 mz_cls (C_Mf_isTree w h) := mz_MI_of (I_Mf_isTree w h) (by decide) rfl (len_Mf_isTree w h) (ok_Mf_isTree w h) (snd_Mf_isTree w h l)
set_option maxRecDepth 20000 in
theorem snd_Mf_grade (w h : Nat) (l : Launch) (p : Program) (e : Env) (s : State) (m : MethodId) (args : Array Value) (below : List Frame) (meth : Method) (c : Code) (D : va_G) (ad0 : Nat → Nat) (cA0 : Nat → ClassId) (A : Nat → Prop) (lay : List mz_E) (Q : Int64 → mz_X → Prop) (F : mz_F p s m args meth c prog_1_method_13_code 1 y_Mf_grade.cls (some .long) w_Mf_grade) (hA : ∀ q, s.heap.size ≤ q → A q) : mz_All (mz_V p l e (mz_rm 4 93) s m args below meth c 1 lay.length (mz_sz lay) D mz_cls (mz_G0 ad0 cA0) A (MQ below (va_Ql Q (mz_B D mz_cls ad0 cA0 lay A) A) args s 0 0 A)) (mz_ql lay Q) (I_Mf_grade w h) := by
  obtain ⟨hx, hb, hml, hown, hts, hr, hlk⟩ := F
  unfold I_Mf_grade
  refine mz_All.cons (sd_aload_n hx hb (mz_dg d_Mf_grade 0 0 (.aload_n 0) 1 rfl) rfl) ?_
  refine mz_All.cons (sd_get (k := 3) hx hb hts (mz_inC in_Mf) hown (T := T_Mf) (N := 5) rfl (by decide) (hts (.fieldLink "MazeForms" 49 "MazeForms" "trail" "LMazeForms$Trail;") (List.mem_cons_of_mem _ wm_311)) (fun _ h => h) (mz_dg d_Mf_grade 1 1 (.getfield 49) 3 rfl)) ?_
  refine mz_All.cons (sd_calll (T := T_Tr) ⟨hx, hb, hml, hown, hts⟩ (met_Tr_toll w h l) (cwV 0 hts (mz_gV wm_618 wm_619 wm_620 wm_75 wm_621) rfl rfl rfl (by decide) ⟨by decide, by decide⟩) rfl hA rfl (mz_dg d_Mf_grade 2 4 (.invokevirtual 113) 3 rfl)) ?_
  refine mz_All.cons (sd_rl hx hb hr hlk (mz_dg d_Mf_grade 3 7 (.lreturn) 1 rfl)) ?_
  exact trivial
theorem met_Mf_grade (w h : Nat) (l : Launch) : mz_ML l y_Mf_grade w_Mf_grade 4 93 mz_cls (C_Mf_grade w h) := mz_ML_of (I_Mf_grade w h) (by decide) rfl (len_Mf_grade w h) (ok_Mf_grade w h) (snd_Mf_grade w h l)
