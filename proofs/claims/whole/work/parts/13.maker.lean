/-- DEEP: one step from a cell: the memory and the next cell -/
def zm_dX (w h : Nat) (X : mz_X) (c : Int32) : mz_X := zr_drX (zm_u w h X c 4)
def zm_dD (w h : Nat) (X : mz_X) (c : Int32) : Int32 := zr_drV w h (zm_u w h X c 4)
def zm_dN (w h : Nat) (X : mz_X) (c : Int32) : Int32 := zg_oth w h (zm_dX w h X c) (zm_dD w h X c) c
def zm_dS (w h : Nat) (X : mz_X) (c : Int32) : mz_X × Int32 := match decide (zm_dD w h X c = -1) with
  | true => (zm_dX w h X c, zm_tr w h (zm_dX w h X c) c)
  | false => (zm_stT w h (zm_en w h (zm_od w h (zm_dX w h X c) (zm_dD w h X c)) (zm_dN w h X c)) (zm_dN w h X c) c, zm_dN w h X c)
def zm_dp (w h : Nat) (X : mz_X) (c : Int32) (k : Nat) : mz_X := match k with
  | 0 => X
  | j + 1 => match decide (c = -1) with
    | true => X
    | false => zm_dp w h (zm_dS w h X c).1 (zm_dS w h X c).2 j
def zm_deep (w h : Nat) (X : mz_X) : mz_X := zm_dp w h (zm_beg w h X (zg_fst X (w * h) 0)) (zg_fst X (w * h) 0) (2 * (w * h))
/-- SETS: the row of all doors, shuffled; then the joins along it -/
def zm_ro (w h : Nat) (X : mz_X) (k : Nat) : mz_X := match k with
  | 0 => zr_clr X
  | j + 1 => zr_add w h (zm_ro w h X j) (nI j)
def zm_jS (w h : Nat) (X : mz_X) (i : Nat) : mz_X := match zj_joB w h X (zr_at w h X (nI i)) with
  | true => zm_od w h (zj_joX w h X (zr_at w h X (nI i))) (zr_at w h X (nI i))
  | false => zj_joX w h X (zr_at w h X (nI i))
def zm_js (w h : Nat) (X : mz_X) (k : Nat) : mz_X := match k with
  | 0 => X
  | j + 1 => zm_jS w h (zm_js w h X j) j
def zm_sets (w h D : Nat) (X : mz_X) : mz_X := zm_js w h (zj_idn (zr_shu w h (zm_ro w h X D) (D - 1)) (w * h)) D
/-- GROWN -/
def zm_gX (w h D : Nat) (X : mz_X) : mz_X := zr_drX (zm_r w h X D)
def zm_gD (w h D : Nat) (X : mz_X) : Int32 := zr_drV w h (zm_r w h X D)
def zm_gO (w h D : Nat) (X : mz_X) : mz_X := zm_od w h (zm_gX w h D X) (zm_gD w h D X)
def zm_gE (w h D : Nat) (X : mz_X) : mz_X := zm_en w h (zm_gO w h D X) (zg_les w h (zm_gO w h D X) (zm_gD w h D X))
def zm_gS (w h D : Nat) (X : mz_X) : mz_X := zm_en w h (zm_gE w h D X) (zg_gre w h (zm_gE w h D X) (zm_gD w h D X))
def zm_gr (w h D : Nat) (X : mz_X) (k : Nat) : mz_X := match k with
  | 0 => X
  | j + 1 => match decide (zm_gD w h D X = -1) with
    | true => zm_gX w h D X
    | false => zm_gr w h D (zm_gS w h D X) j
def zm_grow (w h D : Nat) (X : mz_X) : mz_X := zm_gr w h D (zm_beg w h X (zg_fst X (w * h) 0)) (w * h)
/-- WALKED: a walk of at most k steps, and the way back along the kept doors -/
def zm_wX (w h : Nat) (X : mz_X) (c : Int32) : mz_X := zr_drX (zm_a w h X c 4)
def zm_wD (w h : Nat) (X : mz_X) (c : Int32) : Int32 := zr_drV w h (zm_a w h X c 4)
def zm_wT (w h : Nat) (X : mz_X) (c : Int32) : mz_X := zm_stT w h (zm_wX w h X c) c (zm_wD w h X c)
def zm_wk (w h : Nat) (X : mz_X) (c : Int32) (k : Nat) : mz_X × Int32 := match k with
  | 0 => (X, c)
  | j + 1 => match decide (c = -1) || zm_isR w h X c with
    | true => (X, c)
    | false => zm_wk w h (zm_wT w h X c) (zg_oth w h (zm_wT w h X c) (zm_wD w h X c) c) j
def zm_jw (w h : Nat) (X : mz_X) (c : Int32) (k : Nat) : mz_X := match k with
  | 0 => X
  | j + 1 => match zm_isR w h X c with
    | true => X
    | false => zm_jw w h (zm_od w h (zm_en w h X c) (zm_tr w h X c)) (zg_oth w h (zm_od w h (zm_en w h X c) (zm_tr w h X c)) (zm_tr w h X c) c) j
/-- one cell in order; N is the longest walk -/
def zm_wB (w h : Nat) (X : mz_X) (i : Nat) : Bool := !decide (zf_to w h X (nI i) = -1) && !zm_isR w h X (nI i)
def zm_wS (w h N : Nat) (X : mz_X) (i : Nat) : mz_X := match zm_wB w h X i with
  | true => match zm_isR w h (zm_wk w h X (nI i) N).1 (zm_wk w h X (nI i) N).2 with
    | true => zm_jw w h (zm_wk w h X (nI i) N).1 (nI i) (w * h)
    | false => (zm_wk w h X (nI i) N).1
  | false => X
def zm_ws (w h N : Nat) (X : mz_X) (k : Nat) : mz_X := match k with
  | 0 => X
  | j + 1 => zm_wS w h N (zm_ws w h N X j) j
def zm_wal (w h N : Nat) (X : mz_X) : mz_X := zm_ws w h N (zf_spr w h (zm_beg w h X (zg_fst X (w * h) 0)) (zg_fst X (w * h) 0) 1) (w * h)
/-- COMBED -/
def zm_k1 (w h : Nat) (X : mz_X) (i : Nat) : mz_X := zr_add w h (zr_clr X) (zg_on w h (zr_clr X) (nI i) 0)
def zm_k2 (w h : Nat) (X : mz_X) (i : Nat) : mz_X := zr_add w h (zm_k1 w h X i) (zg_on w h (zm_k1 w h X i) (nI i) 3)
def zm_kS (w h : Nat) (X : mz_X) (i : Nat) : mz_X := zm_od w h (zr_drX (zm_k2 w h X i)) (zr_drV w h (zm_k2 w h X i))
def zm_ks (w h : Nat) (X : mz_X) (k : Nat) : mz_X := match k with
  | 0 => X
  | j + 1 => zm_kS w h (zm_ks w h X j) j
/-- LOOPS -/
def zm_lS (w h D : Nat) (X : mz_X) : mz_X := zm_od w h (zr_drX (zm_c w h X D)) (zr_drV w h (zm_c w h X D))
def zm_lo (w h D : Nat) (X : mz_X) (k : Nat) : mz_X := match k with
  | 0 => X
  | j + 1 => match decide ((zm_c w h X D).1 14 2 = 0) with
    | true => zm_c w h X D
    | false => zm_lo w h D (zm_lS w h D X) j
def zm_o0 (X : mz_X) : mz_X := (mz_up X.1 12 6 0, X.2)
/-- the number of doors stands, and fits -/
def zm_D (w h D : Nat) (X : mz_X) : Prop := D ≤ mz_dn w h ∧ X.1 1 7 = nI D
def C_Mk_goDeep (w h : Nat) : mz_CV := fun lay as X Q => match as with
  | [.ref 12] => lay = mz_lay w h ∧ mz_geo w h ∧ Q (zm_deep w h X)
  | _ => False
def C_Mk_joinSets (w h : Nat) : mz_CV := fun lay as X Q => match as with
  | [.ref 12] => lay = mz_lay w h ∧ mz_geo w h ∧ ∃ D : Nat, zm_D w h D X ∧ Q (zm_sets w h D X)
  | _ => False
def C_Mk_grow (w h : Nat) : mz_CV := fun lay as X Q => match as with
  | [.ref 12] => lay = mz_lay w h ∧ mz_geo w h ∧ ∃ D : Nat, zm_D w h D X ∧ Q (zm_grow w h D X)
  | _ => False
def C_Mk_walkToTree (w h : Nat) : mz_CI := fun lay as X Q => match as with
  | [.ref 12, .int c] => lay = mz_lay w h ∧ mz_geo w h ∧ ∃ N : Nat, N = 1000000 ∧ Q (mz_b (zm_isR w h (zm_wk w h X c N).1 (zm_wk w h X c N).2)) (zm_wk w h X c N).1
  | _ => False
def C_Mk_joinWalk (w h : Nat) : mz_CV := fun lay as X Q => match as with
  | [.ref 12, .int c] => lay = mz_lay w h ∧ mz_geo w h ∧ Q (zm_jw w h X c (w * h))
  | _ => False
def C_Mk_walkAll (w h : Nat) : mz_CV := fun lay as X Q => match as with
  | [.ref 12] => lay = mz_lay w h ∧ mz_geo w h ∧ ∃ N : Nat, N = 1000000 ∧ Q (zm_wal w h N X)
  | _ => False
def C_Mk_comb (w h : Nat) : mz_CV := fun lay as X Q => match as with
  | [.ref 12] => lay = mz_lay w h ∧ mz_geo w h ∧ Q (zm_ks w h X (w * h))
  | _ => False
def C_Mk_openMore (w h : Nat) : mz_CI := fun lay as X Q => match as with
  | [.ref 12, .int n] => lay = mz_lay w h ∧ mz_geo w h ∧ ∃ (D k : Nat), zm_D w h D X ∧ k < 2 ^ 31 ∧ n = nI k ∧ Q ((zm_lo w h D (zm_o0 X) k).1 12 6) (zm_lo w h D (zm_o0 X) k)
  | _ => False
def y_Mk_goDeep : MethodName := ⟨"MazeForms$Maker", "goDeep", "()V"⟩
abbrev w_Mk_goDeep : List Cond := .code y_Mk_goDeep prog_7_method_10_code 5 none :: mz_tb
def dl_Mk_goDeep : List (Nat × ClassFile.Instr × Nat) := [(0, .aload_n 0, 1), (1, .getfield 9, 3), (4, .invokevirtual 104, 3), (7, .istore_n 1, 1), (8, .aload_n 0, 1), (9, .iload_n 1, 1), (10, .invokevirtual 107, 3), (13, .iconst (0), 1), (14, .istore_n 2, 1), (15, .iload_n 2, 1), (16, .iconst (2), 1), (17, .aload_n 0, 1), (18, .getfield 41, 3), (21, .arraylength, 1), (22, .imul, 1), (23, .if_icmp .ge (73), 3), (26, .iload_n 1, 1), (27, .iconst (-1), 1), (28, .if_icmp .eq (68), 3), (31, .aload_n 0, 1), (32, .iload_n 1, 1), (33, .invokevirtual 110, 3), (36, .aload_n 0, 1), (37, .getfield 34, 3), (40, .invokevirtual 88, 3), (43, .istore_n 3, 1), (44, .iload_n 3, 1), (45, .iconst (-1), 1), (46, .if_icmp .ne (12), 3), (49, .aload_n 0, 1), (50, .iload_n 1, 1), (51, .invokevirtual 113, 3), (54, .istore_n 1, 1), (55, .goto (35), 3), (58, .aload_n 0, 1), (59, .getfield 9, 3), (62, .iload_n 3, 1), (63, .iload_n 1, 1), (64, .invokevirtual 117, 3), (67, .istore 4, 2), (69, .aload_n 0, 1), (70, .iload_n 3, 1), (71, .invokevirtual 91, 3), (74, .aload_n 0, 1), (75, .iload 4, 2), (77, .invokevirtual 98, 3), (80, .aload_n 0, 1), (81, .iload 4, 2), (83, .iload_n 1, 1), (84, .invokevirtual 121, 3), (87, .iload 4, 2), (89, .istore_n 1, 1), (90, .iinc 2 (1), 3), (93, .goto (-78), 3), (96, .return_, 1)]
theorem d_Mk_goDeep : mz_dec prog_7_method_10_code dl_Mk_goDeep = true := by decide +kernel
def y_Mk_grow : MethodName := ⟨"MazeForms$Maker", "grow", "()V"⟩
abbrev w_Mk_grow : List Cond := .code y_Mk_grow prog_7_method_13_code 3 none :: mz_tb
def dl_Mk_grow : List (Nat × ClassFile.Instr × Nat) := [(0, .aload_n 0, 1), (1, .aload_n 0, 1), (2, .getfield 9, 3), (5, .invokevirtual 104, 3), (8, .invokevirtual 107, 3), (11, .iconst (0), 1), (12, .istore_n 1, 1), (13, .iload_n 1, 1), (14, .aload_n 0, 1), (15, .getfield 41, 3), (18, .arraylength, 1), (19, .if_icmp .ge (56), 3), (22, .aload_n 0, 1), (23, .invokevirtual 145, 3), (26, .aload_n 0, 1), (27, .getfield 34, 3), (30, .invokevirtual 88, 3), (33, .istore_n 2, 1), (34, .iload_n 2, 1), (35, .iconst (-1), 1), (36, .if_icmp .ne (4), 3), (39, .return_, 1), (40, .aload_n 0, 1), (41, .iload_n 2, 1), (42, .invokevirtual 91, 3), (45, .aload_n 0, 1), (46, .aload_n 0, 1), (47, .getfield 9, 3), (50, .iload_n 2, 1), (51, .invokevirtual 148, 3), (54, .invokevirtual 98, 3), (57, .aload_n 0, 1), (58, .aload_n 0, 1), (59, .getfield 9, 3), (62, .iload_n 2, 1), (63, .invokevirtual 151, 3), (66, .invokevirtual 98, 3), (69, .iinc 1 (1), 3), (72, .goto (-59), 3), (75, .return_, 1)]
theorem d_Mk_grow : mz_dec prog_7_method_13_code dl_Mk_grow = true := by decide +kernel
def y_Mk_walkToTree : MethodName := ⟨"MazeForms$Maker", "walkToTree", "(I)Z"⟩
abbrev w_Mk_walkToTree : List Cond := .code y_Mk_walkToTree prog_7_method_16_code 5 (some .boolean) :: mz_tb
def dl_Mk_walkToTree : List (Nat × ClassFile.Instr × Nat) := [(0, .iload_n 1, 1), (1, .istore_n 2, 1), (2, .iconst (0), 1), (3, .istore_n 3, 1), (4, .iload_n 3, 1), (5, .ldc 169, 2), (7, .if_icmp .ge (54), 3), (10, .iload_n 2, 1), (11, .iconst (-1), 1), (12, .if_icmp .eq (49), 3), (15, .aload_n 0, 1), (16, .iload_n 2, 1), (17, .invokevirtual 128, 3), (20, .ifCond .ne (41), 3), (23, .aload_n 0, 1), (24, .iload_n 2, 1), (25, .invokevirtual 170, 3), (28, .aload_n 0, 1), (29, .getfield 34, 3), (32, .invokevirtual 88, 3), (35, .istore 4, 2), (37, .aload_n 0, 1), (38, .iload_n 2, 1), (39, .iload 4, 2), (41, .invokevirtual 121, 3), (44, .aload_n 0, 1), (45, .getfield 9, 3), (48, .iload 4, 2), (50, .iload_n 2, 1), (51, .invokevirtual 117, 3), (54, .istore_n 2, 1), (55, .iinc 3 (1), 3), (58, .goto (-54), 3), (61, .aload_n 0, 1), (62, .iload_n 2, 1), (63, .invokevirtual 128, 3), (66, .ireturn, 1)]
theorem d_Mk_walkToTree : mz_dec prog_7_method_16_code dl_Mk_walkToTree = true := by decide +kernel
def y_Mk_joinWalk : MethodName := ⟨"MazeForms$Maker", "joinWalk", "(I)V"⟩
abbrev w_Mk_joinWalk : List Cond := .code y_Mk_joinWalk prog_7_method_18_code 5 none :: mz_tb
def dl_Mk_joinWalk : List (Nat × ClassFile.Instr × Nat) := [(0, .iload_n 1, 1), (1, .istore_n 2, 1), (2, .iconst (0), 1), (3, .istore_n 3, 1), (4, .iload_n 3, 1), (5, .aload_n 0, 1), (6, .getfield 41, 3), (9, .arraylength, 1), (10, .if_icmp .ge (46), 3), (13, .aload_n 0, 1), (14, .iload_n 2, 1), (15, .invokevirtual 128, 3), (18, .ifCond .ne (38), 3), (21, .aload_n 0, 1), (22, .iload_n 2, 1), (23, .invokevirtual 113, 3), (26, .istore 4, 2), (28, .aload_n 0, 1), (29, .iload_n 2, 1), (30, .invokevirtual 98, 3), (33, .aload_n 0, 1), (34, .iload 4, 2), (36, .invokevirtual 91, 3), (39, .aload_n 0, 1), (40, .getfield 9, 3), (43, .iload 4, 2), (45, .iload_n 2, 1), (46, .invokevirtual 117, 3), (49, .istore_n 2, 1), (50, .iinc 3 (1), 3), (53, .goto (-49), 3), (56, .return_, 1)]
theorem d_Mk_joinWalk : mz_dec prog_7_method_18_code dl_Mk_joinWalk = true := by decide +kernel
def y_Mk_walkAll : MethodName := ⟨"MazeForms$Maker", "walkAll", "()V"⟩
abbrev w_Mk_walkAll : List Cond := .code y_Mk_walkAll prog_7_method_15_code 3 none :: mz_tb
def dl_Mk_walkAll : List (Nat × ClassFile.Instr × Nat) := [(0, .aload_n 0, 1), (1, .getfield 9, 3), (4, .invokevirtual 104, 3), (7, .istore_n 1, 1), (8, .aload_n 0, 1), (9, .iload_n 1, 1), (10, .invokevirtual 107, 3), (13, .aload_n 0, 1), (14, .getfield 19, 3), (17, .iload_n 1, 1), (18, .iconst (1), 1), (19, .invokevirtual 154, 3), (22, .iconst (0), 1), (23, .istore_n 2, 1), (24, .iload_n 2, 1), (25, .aload_n 0, 1), (26, .getfield 41, 3), (29, .arraylength, 1), (30, .if_icmp .ge (42), 3), (33, .aload_n 0, 1), (34, .getfield 19, 3), (37, .iload_n 2, 1), (38, .invokevirtual 160, 3), (41, .iconst (-1), 1), (42, .if_icmp .eq (24), 3), (45, .aload_n 0, 1), (46, .iload_n 2, 1), (47, .invokevirtual 128, 3), (50, .ifCond .ne (16), 3), (53, .aload_n 0, 1), (54, .iload_n 2, 1), (55, .invokevirtual 163, 3), (58, .ifCond .eq (8), 3), (61, .aload_n 0, 1), (62, .iload_n 2, 1), (63, .invokevirtual 166, 3), (66, .iinc 2 (1), 3), (69, .goto (-45), 3), (72, .return_, 1)]
theorem d_Mk_walkAll : mz_dec prog_7_method_15_code dl_Mk_walkAll = true := by decide +kernel
def y_Mk_comb : MethodName := ⟨"MazeForms$Maker", "comb", "()V"⟩
abbrev w_Mk_comb : List Cond := .code y_Mk_comb prog_7_method_19_code 2 none :: mz_tb
def dl_Mk_comb : List (Nat × ClassFile.Instr × Nat) := [(0, .iconst (0), 1), (1, .istore_n 1, 1), (2, .iload_n 1, 1), (3, .aload_n 0, 1), (4, .getfield 41, 3), (7, .arraylength, 1), (8, .if_icmp .ge (59), 3), (11, .aload_n 0, 1), (12, .getfield 34, 3), (15, .invokevirtual 71, 3), (18, .aload_n 0, 1), (19, .getfield 34, 3), (22, .aload_n 0, 1), (23, .getfield 9, 3), (26, .iload_n 1, 1), (27, .iconst (0), 1), (28, .invokevirtual 125, 3), (31, .invokevirtual 81, 3), (34, .aload_n 0, 1), (35, .getfield 34, 3), (38, .aload_n 0, 1), (39, .getfield 9, 3), (42, .iload_n 1, 1), (43, .iconst (3), 1), (44, .invokevirtual 125, 3), (47, .invokevirtual 81, 3), (50, .aload_n 0, 1), (51, .aload_n 0, 1), (52, .getfield 34, 3), (55, .invokevirtual 88, 3), (58, .invokevirtual 91, 3), (61, .iinc 1 (1), 3), (64, .goto (-62), 3), (67, .return_, 1)]
theorem d_Mk_comb : mz_dec prog_7_method_19_code dl_Mk_comb = true := by decide +kernel
def y_Mk_openMore : MethodName := ⟨"MazeForms$Maker", "openMore", "(I)I"⟩
abbrev w_Mk_openMore : List Cond := .code y_Mk_openMore prog_7_method_3_code 4 (some .int) :: mz_tb
def dl_Mk_openMore : List (Nat × ClassFile.Instr × Nat) := [(0, .aload_n 0, 1), (1, .iconst (0), 1), (2, .putfield 52, 3), (5, .iconst (0), 1), (6, .istore_n 2, 1), (7, .iload_n 2, 1), (8, .iload_n 1, 1), (9, .if_icmp .ge (80), 3), (12, .aload_n 0, 1), (13, .getfield 34, 3), (16, .invokevirtual 71, 3), (19, .iconst (0), 1), (20, .istore_n 3, 1), (21, .iload_n 3, 1), (22, .aload_n 0, 1), (23, .getfield 9, 3), (26, .invokevirtual 74, 3), (29, .if_icmp .ge (28), 3), (32, .aload_n 0, 1), (33, .getfield 9, 3), (36, .iload_n 3, 1), (37, .invokevirtual 77, 3), (40, .ifCond .ne (11), 3), (43, .aload_n 0, 1), (44, .getfield 34, 3), (47, .iload_n 3, 1), (48, .invokevirtual 81, 3), (51, .iinc 3 (1), 3), (54, .goto (-33), 3), (57, .aload_n 0, 1), (58, .getfield 34, 3), (61, .invokevirtual 85, 3), (64, .ifCond .ne (8), 3), (67, .aload_n 0, 1), (68, .getfield 52, 3), (71, .ireturn, 1), (72, .aload_n 0, 1), (73, .aload_n 0, 1), (74, .getfield 34, 3), (77, .invokevirtual 88, 3), (80, .invokevirtual 91, 3), (83, .iinc 2 (1), 3), (86, .goto (-79), 3), (89, .aload_n 0, 1), (90, .getfield 52, 3), (93, .ireturn, 1)]
theorem d_Mk_openMore : mz_dec prog_7_method_3_code dl_Mk_openMore = true := by decide +kernel
def I_Mk_goDeep (w h : Nat) : List (Nat × mz_Op) := [(0, mz_lda 0 1), (1, mz_gf 5 0 4), (4, mz_ci 1 3 (C_Gr_firstCell w h) 7), (7, mz_sti 1 8), (8, mz_lda 0 9), (9, mz_ldi 1 10), (10, mz_cvo 2 5 (C_Mk_begin w h) 13), (13, mz_push (.int (0)) 14), (14, mz_sti 2 15), (15, mz_ldi 2 16), (16, mz_push (.int (2)) 17), (17, mz_lda 0 18), (18, mz_gf 5 4 21), (21, mz_al 22), (22, mz_bi (fun x y => x * y) 23), (23, mz_ic (fun x y => y ≤ x) 96 26), (26, mz_ldi 1 27), (27, mz_push (.int (-1)) 28), (28, mz_ic (fun x y => x = y) 96 31), (31, mz_lda 0 32), (32, mz_ldi 1 33), (33, mz_cvo 2 5 (C_Mk_offerUnreached w h) 36), (36, mz_lda 0 37), (37, mz_gf 5 3 40), (40, mz_ci 1 1 (C_Dr_draw w h) 43), (43, mz_sti 3 44), (44, mz_ldi 3 45), (45, mz_push (.int (-1)) 46), (46, mz_ic (fun x y => x = y) 49 58), (49, mz_lda 0 50), (50, mz_ldi 1 51), (51, mz_ci 2 5 (C_Mk_traceOf w h) 54), (54, mz_sti 1 55), (55, mz_go 90), (58, mz_lda 0 59), (59, mz_gf 5 0 62), (62, mz_ldi 3 63), (63, mz_ldi 1 64), (64, mz_ci 3 3 (C_Gr_otherCell w h) 67), (67, mz_sti 4 69), (69, mz_lda 0 70), (70, mz_ldi 3 71), (71, mz_cvo 2 5 (C_Mk_openDoor w h) 74), (74, mz_lda 0 75), (75, mz_ldi 4 77), (77, mz_cvo 2 5 (C_Mk_enter w h) 80), (80, mz_lda 0 81), (81, mz_ldi 4 83), (83, mz_ldi 1 84), (84, mz_cvo 3 5 (C_Mk_setTrace w h) 87), (87, mz_ldi 4 89), (89, mz_sti 1 90), (90, mz_inc 2 (1) 93), (93, mz_go 15), (96, mz_rv)]
def I_Mk_grow (w h : Nat) : List (Nat × mz_Op) := [(0, mz_lda 0 1), (1, mz_lda 0 2), (2, mz_gf 5 0 5), (5, mz_ci 1 3 (C_Gr_firstCell w h) 8), (8, mz_cvo 2 5 (C_Mk_begin w h) 11), (11, mz_push (.int (0)) 12), (12, mz_sti 1 13), (13, mz_ldi 1 14), (14, mz_lda 0 15), (15, mz_gf 5 4 18), (18, mz_al 19), (19, mz_ic (fun x y => y ≤ x) 75 22), (22, mz_lda 0 23), (23, mz_cvo 1 5 (C_Mk_offerRim w h) 26), (26, mz_lda 0 27), (27, mz_gf 5 3 30), (30, mz_ci 1 1 (C_Dr_draw w h) 33), (33, mz_sti 2 34), (34, mz_ldi 2 35), (35, mz_push (.int (-1)) 36), (36, mz_ic (fun x y => x = y) 39 40), (39, mz_rv), (40, mz_lda 0 41), (41, mz_ldi 2 42), (42, mz_cvo 2 5 (C_Mk_openDoor w h) 45), (45, mz_lda 0 46), (46, mz_lda 0 47), (47, mz_gf 5 0 50), (50, mz_ldi 2 51), (51, mz_ci 2 3 (C_Gr_lesserCell w h) 54), (54, mz_cvo 2 5 (C_Mk_enter w h) 57), (57, mz_lda 0 58), (58, mz_lda 0 59), (59, mz_gf 5 0 62), (62, mz_ldi 2 63), (63, mz_ci 2 3 (C_Gr_greaterCell w h) 66), (66, mz_cvo 2 5 (C_Mk_enter w h) 69), (69, mz_inc 1 (1) 72), (72, mz_go 13), (75, mz_rv)]
def I_Mk_walkToTree (w h : Nat) : List (Nat × mz_Op) := [(0, mz_ldi 1 1), (1, mz_sti 2 2), (2, mz_push (.int (0)) 3), (3, mz_sti 3 4), (4, mz_ldi 3 5), (5, mz_push (.int (1000000)) 7), (7, mz_ic (fun x y => y ≤ x) 61 10), (10, mz_ldi 2 11), (11, mz_push (.int (-1)) 12), (12, mz_ic (fun x y => x = y) 61 15), (15, mz_lda 0 16), (16, mz_ldi 2 17), (17, mz_ci 2 5 (C_Mk_isReached w h) 20), (20, mz_if (fun x => x = 0) 23 61), (23, mz_lda 0 24), (24, mz_ldi 2 25), (25, mz_cvo 2 5 (C_Mk_offerAll w h) 28), (28, mz_lda 0 29), (29, mz_gf 5 3 32), (32, mz_ci 1 1 (C_Dr_draw w h) 35), (35, mz_sti 4 37), (37, mz_lda 0 38), (38, mz_ldi 2 39), (39, mz_ldi 4 41), (41, mz_cvo 3 5 (C_Mk_setTrace w h) 44), (44, mz_lda 0 45), (45, mz_gf 5 0 48), (48, mz_ldi 4 50), (50, mz_ldi 2 51), (51, mz_ci 3 3 (C_Gr_otherCell w h) 54), (54, mz_sti 2 55), (55, mz_inc 3 (1) 58), (58, mz_go 4), (61, mz_lda 0 62), (62, mz_ldi 2 63), (63, mz_ci 2 5 (C_Mk_isReached w h) 66), (66, mz_rz)]
def I_Mk_joinWalk (w h : Nat) : List (Nat × mz_Op) := [(0, mz_ldi 1 1), (1, mz_sti 2 2), (2, mz_push (.int (0)) 3), (3, mz_sti 3 4), (4, mz_ldi 3 5), (5, mz_lda 0 6), (6, mz_gf 5 4 9), (9, mz_al 10), (10, mz_ic (fun x y => y ≤ x) 56 13), (13, mz_lda 0 14), (14, mz_ldi 2 15), (15, mz_ci 2 5 (C_Mk_isReached w h) 18), (18, mz_if (fun x => x = 0) 21 56), (21, mz_lda 0 22), (22, mz_ldi 2 23), (23, mz_ci 2 5 (C_Mk_traceOf w h) 26), (26, mz_sti 4 28), (28, mz_lda 0 29), (29, mz_ldi 2 30), (30, mz_cvo 2 5 (C_Mk_enter w h) 33), (33, mz_lda 0 34), (34, mz_ldi 4 36), (36, mz_cvo 2 5 (C_Mk_openDoor w h) 39), (39, mz_lda 0 40), (40, mz_gf 5 0 43), (43, mz_ldi 4 45), (45, mz_ldi 2 46), (46, mz_ci 3 3 (C_Gr_otherCell w h) 49), (49, mz_sti 2 50), (50, mz_inc 3 (1) 53), (53, mz_go 4), (56, mz_rv)]
def I_Mk_walkAll (w h : Nat) : List (Nat × mz_Op) := [(0, mz_lda 0 1), (1, mz_gf 5 0 4), (4, mz_ci 1 3 (C_Gr_firstCell w h) 7), (7, mz_sti 1 8), (8, mz_lda 0 9), (9, mz_ldi 1 10), (10, mz_cvo 2 5 (C_Mk_begin w h) 13), (13, mz_lda 0 14), (14, mz_gf 5 2 17), (17, mz_ldi 1 18), (18, mz_push (.int (1)) 19), (19, mz_cvo 3 2 (C_Fl_spread w h) 22), (22, mz_push (.int (0)) 23), (23, mz_sti 2 24), (24, mz_ldi 2 25), (25, mz_lda 0 26), (26, mz_gf 5 4 29), (29, mz_al 30), (30, mz_ic (fun x y => y ≤ x) 72 33), (33, mz_lda 0 34), (34, mz_gf 5 2 37), (37, mz_ldi 2 38), (38, mz_ci 2 2 (C_Fl_stepsTo w h) 41), (41, mz_push (.int (-1)) 42), (42, mz_ic (fun x y => x = y) 66 45), (45, mz_lda 0 46), (46, mz_ldi 2 47), (47, mz_ci 2 5 (C_Mk_isReached w h) 50), (50, mz_if (fun x => x = 0) 53 66), (53, mz_lda 0 54), (54, mz_ldi 2 55), (55, mz_ci 2 5 (C_Mk_walkToTree w h) 58), (58, mz_if (fun x => x = 0) 66 61), (61, mz_lda 0 62), (62, mz_ldi 2 63), (63, mz_cvo 2 5 (C_Mk_joinWalk w h) 66), (66, mz_inc 2 (1) 69), (69, mz_go 24), (72, mz_rv)]
def I_Mk_comb (w h : Nat) : List (Nat × mz_Op) := [(0, mz_push (.int (0)) 1), (1, mz_sti 1 2), (2, mz_ldi 1 3), (3, mz_lda 0 4), (4, mz_gf 5 4 7), (7, mz_al 8), (8, mz_ic (fun x y => y ≤ x) 67 11), (11, mz_lda 0 12), (12, mz_gf 5 3 15), (15, mz_cvo 1 1 (C_Dr_clear w h) 18), (18, mz_lda 0 19), (19, mz_gf 5 3 22), (22, mz_lda 0 23), (23, mz_gf 5 0 26), (26, mz_ldi 1 27), (27, mz_push (.int (0)) 28), (28, mz_ci 3 3 (C_Gr_doorOn w h) 31), (31, mz_cvo 2 1 (C_Dr_add w h) 34), (34, mz_lda 0 35), (35, mz_gf 5 3 38), (38, mz_lda 0 39), (39, mz_gf 5 0 42), (42, mz_ldi 1 43), (43, mz_push (.int (3)) 44), (44, mz_ci 3 3 (C_Gr_doorOn w h) 47), (47, mz_cvo 2 1 (C_Dr_add w h) 50), (50, mz_lda 0 51), (51, mz_lda 0 52), (52, mz_gf 5 3 55), (55, mz_ci 1 1 (C_Dr_draw w h) 58), (58, mz_cvo 2 5 (C_Mk_openDoor w h) 61), (61, mz_inc 1 (1) 64), (64, mz_go 2), (67, mz_rv)]
def I_Mk_openMore (w h : Nat) : List (Nat × mz_Op) := [(0, mz_lda 0 1), (1, mz_push (.int (0)) 2), (2, mz_pfi 5 6 5), (5, mz_push (.int (0)) 6), (6, mz_sti 2 7), (7, mz_ldi 2 8), (8, mz_ldi 1 9), (9, mz_ic (fun x y => y ≤ x) 89 12), (12, mz_lda 0 13), (13, mz_gf 5 3 16), (16, mz_cvo 1 1 (C_Dr_clear w h) 19), (19, mz_push (.int (0)) 20), (20, mz_sti 3 21), (21, mz_ldi 3 22), (22, mz_lda 0 23), (23, mz_gf 5 0 26), (26, mz_ci 1 3 (C_Gr_doorCount w h) 29), (29, mz_ic (fun x y => y ≤ x) 57 32), (32, mz_lda 0 33), (33, mz_gf 5 0 36), (36, mz_ldi 3 37), (37, mz_ci 2 3 (C_Gr_isOpen w h) 40), (40, mz_if (fun x => x = 0) 43 51), (43, mz_lda 0 44), (44, mz_gf 5 3 47), (47, mz_ldi 3 48), (48, mz_cvo 2 1 (C_Dr_add w h) 51), (51, mz_inc 3 (1) 54), (54, mz_go 21), (57, mz_lda 0 58), (58, mz_gf 5 3 61), (61, mz_ci 1 1 (C_Dr_count w h) 64), (64, mz_if (fun x => x = 0) 67 72), (67, mz_lda 0 68), (68, mz_gf 5 6 71), (71, mz_ri), (72, mz_lda 0 73), (73, mz_lda 0 74), (74, mz_gf 5 3 77), (77, mz_ci 1 1 (C_Dr_draw w h) 80), (80, mz_cvo 2 5 (C_Mk_openDoor w h) 83), (83, mz_inc 2 (1) 86), (86, mz_go 7), (89, mz_lda 0 90), (90, mz_gf 5 6 93), (93, mz_ri)]
theorem zg_setX_keep {p i : Nat} (h6 : p ≠ 6) (h1 : p ≠ 1 ∨ i ≠ 8) (X : mz_X) (d v : Int32) : (zg_setX X d v).1 p i = X.1 p i := by
  simp only [zg_setX, mz_up]
  rcases h1 with h1 | h1
  · rw [if_neg h1, if_neg h6]
  · by_cases hp : p = 1
    · rw [if_pos hp, if_neg h1, if_neg h6]
    · rw [if_neg hp, if_neg h6]
theorem zm_od_t {w h : Nat} {X : mz_X} {d : Int32} (e : zg_setB w h X d 1 = true) : zm_od w h X d = zm_odX X d := by
  unfold zm_od
  rw [e]
theorem zm_od_f {w h : Nat} {X : mz_X} {d : Int32} (e : zg_setB w h X d 1 = false) : zm_od w h X d = X := by
  unfold zm_od
  rw [e]
theorem zm_od_7 {w h : Nat} (X : mz_X) (d : Int32) : (zm_od w h X d).1 1 7 = X.1 1 7 := by
  cases e : zg_setB w h X d 1 with
  | true =>
    rw [zm_od_t e]
    show mz_up (zg_setX X d 1).1 12 6 ((zg_setX X d 1).1 12 6 + 1) 1 7 = X.1 1 7
    rw [mz_up_off (by decide), zg_setX_keep (by decide) (Or.inr (by decide))]
  | false => rw [zm_od_f e]
theorem zm_en_7 {w h p i : Nat} (hp : p ≠ 16) (X : mz_X) (c : Int32) : (zm_en w h X c).1 p i = X.1 p i := by
  unfold zm_en
  split
  · show mz_up X.1 16 _ _ p i = X.1 p i
    rw [mz_up_off hp]
  · rfl
theorem zm_stT_7 {w h p i : Nat} (hp : p ≠ 17) (X : mz_X) (c m : Int32) : (zm_stT w h X c m).1 p i = X.1 p i := by
  unfold zm_stT
  split
  · show mz_up X.1 17 _ _ p i = X.1 p i
    rw [mz_up_off hp]
  · rfl
theorem zm_beg_7 {w h p i : Nat} (hp : p ≠ 16) (hp2 : p ≠ 17) (X : mz_X) (c : Int32) : (zm_beg w h X c).1 p i = X.1 p i := by
  unfold zm_beg
  rw [zm_en_7 hp]
  simp only [zm_b0, mz_fil]
  rw [if_neg (fun q => hp2 q.1), if_neg (fun q => hp q.1)]
theorem zr_drX_1 (X : mz_X) : (zr_drX X).1 = X.1 := by
  unfold zr_drX
  split
  · rfl
  · unfold zc_X
    split <;> rfl
theorem zm_D_of {w h D : Nat} {X Y : mz_X} (hX : zm_D w h D X) (e : Y.1 1 7 = X.1 1 7) : zm_D w h D Y := ⟨hX.1, e.trans hX.2⟩
theorem zm_dS_t {w h : Nat} {X : mz_X} {c : Int32} (e : zm_dD w h X c = -1) : zm_dS w h X c = (zm_dX w h X c, zm_tr w h (zm_dX w h X c) c) := by
  unfold zm_dS
  rw [show decide (zm_dD w h X c = -1) = true from decide_eq_true e]
theorem zm_dS_f {w h : Nat} {X : mz_X} {c : Int32} (e : ¬ zm_dD w h X c = -1) : zm_dS w h X c = (zm_stT w h (zm_en w h (zm_od w h (zm_dX w h X c) (zm_dD w h X c)) (zm_dN w h X c)) (zm_dN w h X c) c, zm_dN w h X c) := by
  unfold zm_dS
  rw [show decide (zm_dD w h X c = -1) = false from decide_eq_false e]
theorem zm_dp_t {w h k : Nat} {X : mz_X} {c : Int32} (e : c = -1) : zm_dp w h X c (k + 1) = X := by
  show (match decide (c = -1) with | true => X | false => zm_dp w h (zm_dS w h X c).1 (zm_dS w h X c).2 k) = X
  rw [show decide (c = -1) = true from decide_eq_true e]
theorem zm_dp_f {w h k : Nat} {X : mz_X} {c : Int32} (e : ¬ c = -1) : zm_dp w h X c (k + 1) = zm_dp w h (zm_dS w h X c).1 (zm_dS w h X c).2 k := by
  show (match decide (c = -1) with | true => X | false => zm_dp w h (zm_dS w h X c).1 (zm_dS w h X c).2 k) = _
  rw [show decide (c = -1) = false from decide_eq_false e]
theorem zm_gr_t {w h D k : Nat} {X : mz_X} (e : zm_gD w h D X = -1) : zm_gr w h D X (k + 1) = zm_gX w h D X := by
  show (match decide (zm_gD w h D X = -1) with | true => zm_gX w h D X | false => zm_gr w h D (zm_gS w h D X) k) = _
  rw [show decide (zm_gD w h D X = -1) = true from decide_eq_true e]
theorem zm_gr_f {w h D k : Nat} {X : mz_X} (e : ¬ zm_gD w h D X = -1) : zm_gr w h D X (k + 1) = zm_gr w h D (zm_gS w h D X) k := by
  show (match decide (zm_gD w h D X = -1) with | true => zm_gX w h D X | false => zm_gr w h D (zm_gS w h D X) k) = _
  rw [show decide (zm_gD w h D X = -1) = false from decide_eq_false e]
theorem zm_gS_7 {w h D : Nat} (X : mz_X) : (zm_gS w h D X).1 1 7 = X.1 1 7 := by
  unfold zm_gS zm_gE zm_gO zm_gX
  rw [zm_en_7 (by decide), zm_en_7 (by decide), zm_od_7, zr_drX_1, zm_r_keep (by decide) (by decide)]
theorem zm_wk_t {w h k : Nat} {X : mz_X} {c : Int32} (e : (decide (c = -1) || zm_isR w h X c) = true) : zm_wk w h X c (k + 1) = (X, c) := by
  show (match decide (c = -1) || zm_isR w h X c with | true => (X, c) | false => zm_wk w h (zm_wT w h X c) (zg_oth w h (zm_wT w h X c) (zm_wD w h X c) c) k) = _
  rw [e]
theorem zm_wk_f {w h k : Nat} {X : mz_X} {c : Int32} (e : (decide (c = -1) || zm_isR w h X c) = false) : zm_wk w h X c (k + 1) = zm_wk w h (zm_wT w h X c) (zg_oth w h (zm_wT w h X c) (zm_wD w h X c) c) k := by
  show (match decide (c = -1) || zm_isR w h X c with | true => (X, c) | false => zm_wk w h (zm_wT w h X c) (zg_oth w h (zm_wT w h X c) (zm_wD w h X c) c) k) = _
  rw [e]
theorem zm_jw_t {w h k : Nat} {X : mz_X} {c : Int32} (e : zm_isR w h X c = true) : zm_jw w h X c (k + 1) = X := by
  show (match zm_isR w h X c with | true => X | false => zm_jw w h (zm_od w h (zm_en w h X c) (zm_tr w h X c)) (zg_oth w h (zm_od w h (zm_en w h X c) (zm_tr w h X c)) (zm_tr w h X c) c) k) = _
  rw [e]
theorem zm_jw_f {w h k : Nat} {X : mz_X} {c : Int32} (e : zm_isR w h X c = false) : zm_jw w h X c (k + 1) = zm_jw w h (zm_od w h (zm_en w h X c) (zm_tr w h X c)) (zg_oth w h (zm_od w h (zm_en w h X c) (zm_tr w h X c)) (zm_tr w h X c) c) k := by
  show (match zm_isR w h X c with | true => X | false => zm_jw w h (zm_od w h (zm_en w h X c) (zm_tr w h X c)) (zg_oth w h (zm_od w h (zm_en w h X c) (zm_tr w h X c)) (zm_tr w h X c) c) k) = _
  rw [e]
theorem zm_lo_t {w h D k : Nat} {X : mz_X} (e : (zm_c w h X D).1 14 2 = 0) : zm_lo w h D X (k + 1) = zm_c w h X D := by
  show (match decide ((zm_c w h X D).1 14 2 = 0) with | true => zm_c w h X D | false => zm_lo w h D (zm_lS w h D X) k) = _
  rw [show decide ((zm_c w h X D).1 14 2 = 0) = true from decide_eq_true e]
theorem zm_lo_f {w h D k : Nat} {X : mz_X} (e : ¬ (zm_c w h X D).1 14 2 = 0) : zm_lo w h D X (k + 1) = zm_lo w h D (zm_lS w h D X) k := by
  show (match decide ((zm_c w h X D).1 14 2 = 0) with | true => zm_c w h X D | false => zm_lo w h D (zm_lS w h D X) k) = _
  rw [show decide ((zm_c w h X D).1 14 2 = 0) = false from decide_eq_false e]
theorem zm_lS_7 {w h D : Nat} (X : mz_X) : (zm_lS w h D X).1 1 7 = X.1 1 7 := by
  unfold zm_lS
  rw [zm_od_7, zr_drX_1, zm_c_keep (by decide) (by decide)]
theorem len_Mk_goDeep (w h : Nat) (lay : List mz_E) (as : List Value) (X : mz_X) (Q : mz_X → Prop) (hC : C_Mk_goDeep w h lay as X Q) : (mz_l0 as).length ≤ 5 := by
  unfold C_Mk_goDeep at hC
  split at hC
  · exact Nat.le_of_ble_eq_true rfl
  · exact hC.elim
theorem ok_Mk_goDeep (w h : Nat) (lay : List mz_E) (as : List Value) (X : mz_X) (Q : mz_X → Prop) (hC : C_Mk_goDeep w h lay as X Q) (K : mz_K) (hK : mz_Cl (I_Mk_goDeep w h) (mz_qv lay Q) K) : K 0 (mz_ent 5 as) [] (lay, X) := by
  unfold C_Mk_goDeep at hC
  split at hC
  ·
    obtain ⟨rfl, g, hq⟩ := hC
    have hn := mz_geo_n g
    have loop : ∀ (k i : Nat) (Y : mz_X) (c : Int32), i + k = 2 * (w * h) → Q (zm_dp w h Y c k) → ∀ L3 L4 : Option Value, K 15 [some (.ref 12), some (.int c), some (.int (nI i)), L3, L4] [] (mz_lay w h, Y) := by
      intro k
      induction k with
      | zero =>
        intro i Y c hi hQ L3 L4
        iterate 6 refine hK _ _ _ _ ?_
        refine hK _ _ _ _ (And.intro (fun c1 => ?_) (fun c1 => ?_))
        · exact hK _ _ _ _ (And.intro rfl (hQ))
        · dsimp only at c1
          rw [show (2 : Int32) = nI 2 from rfl, pk_mul] at c1
          exact absurd (nI_le (a := 2 * (w * h)) (b := i) (by omega) (by omega)) c1
      | succ k ih =>
        intro i Y c hi hQ L3 L4
        iterate 6 refine hK _ _ _ _ ?_
        refine hK _ _ _ _ (And.intro (fun c1 => ?_) (fun c1 => ?_))
        · dsimp only at c1
          rw [show (2 : Int32) = nI 2 from rfl, pk_mul] at c1
          exact absurd c1 (nI_ge (by omega) (by omega))
        · iterate 2 refine hK _ _ _ _ ?_
          refine hK _ _ _ _ (And.intro (fun c2 => ?_) (fun c2 => ?_))
          · rw [zm_dp_t c2] at hQ
            exact hK _ _ _ _ (And.intro rfl (hQ))
          · rw [zm_dp_f c2] at hQ
            iterate 2 refine hK _ _ _ _ ?_
            refine hK _ _ _ _ (And.intro (rfl) (And.intro (g) ?_))
            iterate 2 refine hK _ _ _ _ ?_
            refine hK _ _ _ _ (And.intro (rfl) (And.intro (g) ?_))
            iterate 3 refine hK _ _ _ _ ?_
            refine hK _ _ _ _ (And.intro (fun c3 => ?_) (fun c3 => ?_))
            · rw [zm_dS_t c3] at hQ
              simp only [zm_dX] at hQ
              generalize zm_u w h Y c 4 = U at hQ ⊢
              iterate 2 refine hK _ _ _ _ ?_
              refine hK _ _ _ _ (And.intro (rfl) (And.intro (g) ?_))
              iterate 4 refine hK _ _ _ _ ?_
              have := fun L3 L4 => ih (i + 1) _ _ (by omega) hQ L3 L4
              rw [← nI_1] at this
              exact this _ _
            · rw [zm_dS_f c3] at hQ
              simp only [zm_dN, zm_dX, zm_dD] at hQ
              generalize zm_u w h Y c 4 = U at hQ ⊢
              iterate 4 refine hK _ _ _ _ ?_
              refine hK _ _ _ _ (And.intro (rfl) (And.intro (g) ?_))
              iterate 3 refine hK _ _ _ _ ?_
              refine hK _ _ _ _ (And.intro (rfl) (And.intro (g) ?_))
              iterate 2 refine hK _ _ _ _ ?_
              refine hK _ _ _ _ (And.intro (rfl) (And.intro (g) ?_))
              iterate 3 refine hK _ _ _ _ ?_
              refine hK _ _ _ _ (And.intro (rfl) (And.intro (g) ?_))
              iterate 4 refine hK _ _ _ _ ?_
              have := fun L3 L4 => ih (i + 1) _ _ (by omega) hQ L3 L4
              rw [← nI_1] at this
              exact this _ _
    iterate 2 refine hK _ _ _ _ ?_
    refine hK _ _ _ _ (And.intro (rfl) (And.intro (g) ?_))
    iterate 3 refine hK _ _ _ _ ?_
    refine hK _ _ _ _ (And.intro (rfl) (And.intro (g) ?_))
    iterate 2 refine hK _ _ _ _ ?_
    exact loop (2 * (w * h)) 0 _ _ (by omega) hq none none
  · exact hC.elim
theorem len_Mk_grow (w h : Nat) (lay : List mz_E) (as : List Value) (X : mz_X) (Q : mz_X → Prop) (hC : C_Mk_grow w h lay as X Q) : (mz_l0 as).length ≤ 3 := by
  unfold C_Mk_grow at hC
  split at hC
  · exact Nat.le_of_ble_eq_true rfl
  · exact hC.elim
theorem ok_Mk_grow (w h : Nat) (lay : List mz_E) (as : List Value) (X : mz_X) (Q : mz_X → Prop) (hC : C_Mk_grow w h lay as X Q) (K : mz_K) (hK : mz_Cl (I_Mk_grow w h) (mz_qv lay Q) K) : K 0 (mz_ent 3 as) [] (lay, X) := by
  unfold C_Mk_grow at hC
  split at hC
  ·
    obtain ⟨rfl, g, D, hD, hq⟩ := hC
    have hn := mz_geo_n g
    have loop : ∀ (k i : Nat) (Y : mz_X), i + k = w * h → zm_D w h D Y → Q (zm_gr w h D Y k) → ∀ L2 : Option Value, K 13 [some (.ref 12), some (.int (nI i)), L2] [] (mz_lay w h, Y) := by
      intro k
      induction k with
      | zero =>
        intro i Y hi hY hQ L2
        iterate 4 refine hK _ _ _ _ ?_
        refine hK _ _ _ _ (And.intro (fun c1 => ?_) (fun c1 => ?_))
        · exact hK _ _ _ _ (And.intro rfl (hQ))
        · exact absurd (nI_le (a := w * h) (b := i) (by omega) (by omega)) c1
      | succ k ih =>
        intro i Y hi hY hQ L2
        iterate 4 refine hK _ _ _ _ ?_
        refine hK _ _ _ _ (And.intro (fun c1 => ?_) (fun c1 => ?_))
        · exact absurd c1 (nI_ge (by omega) (by omega))
        · refine hK _ _ _ _ ?_
          refine hK _ _ _ _ (And.intro rfl (And.intro g (Exists.intro D (And.intro hY.1 (And.intro hY.2 ?_)))))
          iterate 2 refine hK _ _ _ _ ?_
          refine hK _ _ _ _ (And.intro (rfl) (And.intro (g) ?_))
          iterate 3 refine hK _ _ _ _ ?_
          refine hK _ _ _ _ (And.intro (fun c2 => ?_) (fun c2 => ?_))
          · rw [zm_gr_t c2] at hQ
            exact hK _ _ _ _ (And.intro rfl (hQ))
          · rw [zm_gr_f c2] at hQ
            iterate 2 refine hK _ _ _ _ ?_
            refine hK _ _ _ _ (And.intro (rfl) (And.intro (g) ?_))
            iterate 4 refine hK _ _ _ _ ?_
            refine hK _ _ _ _ (And.intro (rfl) (And.intro (g) ?_))
            refine hK _ _ _ _ (And.intro (rfl) (And.intro (g) ?_))
            iterate 4 refine hK _ _ _ _ ?_
            refine hK _ _ _ _ (And.intro (rfl) (And.intro (g) ?_))
            refine hK _ _ _ _ (And.intro (rfl) (And.intro (g) ?_))
            iterate 2 refine hK _ _ _ _ ?_
            have := fun L2 => ih (i + 1) _ (by omega) (zm_D_of hY (zm_gS_7 Y)) hQ L2
            rw [← nI_1] at this
            exact this _
    iterate 3 refine hK _ _ _ _ ?_
    refine hK _ _ _ _ (And.intro (rfl) (And.intro (g) ?_))
    refine hK _ _ _ _ (And.intro (rfl) (And.intro (g) ?_))
    iterate 2 refine hK _ _ _ _ ?_
    exact loop (w * h) 0 _ (by omega) (zm_D_of hD (zm_beg_7 (by decide) (by decide) _ _)) hq none
  · exact hC.elim
theorem len_Mk_walkToTree (w h : Nat) (lay : List mz_E) (as : List Value) (X : mz_X) (Q : Int32 → mz_X → Prop) (hC : C_Mk_walkToTree w h lay as X Q) : (mz_l0 as).length ≤ 5 := by
  unfold C_Mk_walkToTree at hC
  split at hC
  · exact Nat.le_of_ble_eq_true rfl
  · exact hC.elim
theorem ok_Mk_walkToTree (w h : Nat) (lay : List mz_E) (as : List Value) (X : mz_X) (Q : Int32 → mz_X → Prop) (hC : C_Mk_walkToTree w h lay as X Q) (K : mz_K) (hK : mz_Cl (I_Mk_walkToTree w h) (mz_qi lay Q) K) : K 0 (mz_ent 5 as) [] (lay, X) := by
  unfold C_Mk_walkToTree at hC
  split at hC
  · next c =>
    obtain ⟨rfl, g, N, hN, hq⟩ := hC
    have loop : ∀ (k i : Nat) (Y : mz_X) (x : Int32), i + k = N → Q (mz_b (zm_isR w h (zm_wk w h Y x k).1 (zm_wk w h Y x k).2)) (zm_wk w h Y x k).1 → ∀ L4 : Option Value, K 4 [some (.ref 12), some (.int c), some (.int x), some (.int (nI i)), L4] [] (mz_lay w h, Y) := by
      have hend : ∀ (Y : mz_X) (x : Int32) (L3 L4 : Option Value), Q (mz_b (zm_isR w h Y x)) Y → K 61 [some (.ref 12), some (.int c), some (.int x), L3, L4] [] (mz_lay w h, Y) := by
        intro Y x L3 L4 hQ
        iterate 2 refine hK _ _ _ _ ?_
        refine hK _ _ _ _ (And.intro (rfl) (And.intro (g) ?_))
        exact hK _ _ _ _ (And.intro (mz_b_01 _) (And.intro rfl hQ))
      intro k
      induction k with
      | zero =>
        intro i Y x hi hQ L4
        iterate 2 refine hK _ _ _ _ ?_
        refine hK _ _ _ _ (And.intro (fun c1 => ?_) (fun c1 => ?_))
        · exact hend _ _ _ _ hQ
        · exact absurd (nI_le (a := 1000000) (b := i) (by omega) (by omega)) c1
      | succ k ih =>
        intro i Y x hi hQ L4
        iterate 2 refine hK _ _ _ _ ?_
        refine hK _ _ _ _ (And.intro (fun c1 => ?_) (fun c1 => ?_))
        · exact absurd c1 (nI_ge (a := i) (b := 1000000) (by omega) (by omega))
        · iterate 2 refine hK _ _ _ _ ?_
          refine hK _ _ _ _ (And.intro (fun c2 => ?_) (fun c2 => ?_))
          · rw [zm_wk_t (by rw [show decide (x = -1) = true from decide_eq_true c2]; rfl)] at hQ
            exact hend _ _ _ _ hQ
          · iterate 2 refine hK _ _ _ _ ?_
            refine hK _ _ _ _ (And.intro (rfl) (And.intro (g) ?_))
            refine hK _ _ _ _ (And.intro (fun c3 => ?_) (fun c3 => ?_))
            · rw [zm_wk_f (by rw [show decide (x = -1) = false from decide_eq_false c2, show zm_isR w h Y x = false from mz_b0 c3]; rfl)] at hQ
              iterate 2 refine hK _ _ _ _ ?_
              refine hK _ _ _ _ (And.intro (rfl) (And.intro (g) ?_))
              iterate 2 refine hK _ _ _ _ ?_
              refine hK _ _ _ _ (And.intro (rfl) (And.intro (g) ?_))
              iterate 4 refine hK _ _ _ _ ?_
              refine hK _ _ _ _ (And.intro (rfl) (And.intro (g) ?_))
              iterate 4 refine hK _ _ _ _ ?_
              refine hK _ _ _ _ (And.intro (rfl) (And.intro (g) ?_))
              iterate 3 refine hK _ _ _ _ ?_
              have := fun L4 => ih (i + 1) _ _ (by omega) hQ L4
              rw [← nI_1] at this
              exact this _
            · rw [zm_wk_t (by rw [show zm_isR w h Y x = true from mz_b1 c3]; simp)] at hQ
              exact hend _ _ _ _ hQ
    iterate 4 refine hK _ _ _ _ ?_
    exact loop N 0 X c (by omega) hq none
  · exact hC.elim
theorem len_Mk_joinWalk (w h : Nat) (lay : List mz_E) (as : List Value) (X : mz_X) (Q : mz_X → Prop) (hC : C_Mk_joinWalk w h lay as X Q) : (mz_l0 as).length ≤ 5 := by
  unfold C_Mk_joinWalk at hC
  split at hC
  · exact Nat.le_of_ble_eq_true rfl
  · exact hC.elim
theorem ok_Mk_joinWalk (w h : Nat) (lay : List mz_E) (as : List Value) (X : mz_X) (Q : mz_X → Prop) (hC : C_Mk_joinWalk w h lay as X Q) (K : mz_K) (hK : mz_Cl (I_Mk_joinWalk w h) (mz_qv lay Q) K) : K 0 (mz_ent 5 as) [] (lay, X) := by
  unfold C_Mk_joinWalk at hC
  split at hC
  · next c =>
    obtain ⟨rfl, g, hq⟩ := hC
    have hn := mz_geo_n g
    have loop : ∀ (k i : Nat) (Y : mz_X) (x : Int32), i + k = w * h → Q (zm_jw w h Y x k) → ∀ L4 : Option Value, K 4 [some (.ref 12), some (.int c), some (.int x), some (.int (nI i)), L4] [] (mz_lay w h, Y) := by
      intro k
      induction k with
      | zero =>
        intro i Y x hi hQ L4
        iterate 4 refine hK _ _ _ _ ?_
        refine hK _ _ _ _ (And.intro (fun c1 => ?_) (fun c1 => ?_))
        · exact hK _ _ _ _ (And.intro rfl (hQ))
        · exact absurd (nI_le (a := w * h) (b := i) (by omega) (by omega)) c1
      | succ k ih =>
        intro i Y x hi hQ L4
        iterate 4 refine hK _ _ _ _ ?_
        refine hK _ _ _ _ (And.intro (fun c1 => ?_) (fun c1 => ?_))
        · exact absurd c1 (nI_ge (by omega) (by omega))
        · iterate 2 refine hK _ _ _ _ ?_
          refine hK _ _ _ _ (And.intro (rfl) (And.intro (g) ?_))
          refine hK _ _ _ _ (And.intro (fun c2 => ?_) (fun c2 => ?_))
          · rw [zm_jw_f (mz_b0 c2)] at hQ
            iterate 2 refine hK _ _ _ _ ?_
            refine hK _ _ _ _ (And.intro (rfl) (And.intro (g) ?_))
            iterate 3 refine hK _ _ _ _ ?_
            refine hK _ _ _ _ (And.intro (rfl) (And.intro (g) ?_))
            iterate 2 refine hK _ _ _ _ ?_
            refine hK _ _ _ _ (And.intro (rfl) (And.intro (g) ?_))
            iterate 4 refine hK _ _ _ _ ?_
            refine hK _ _ _ _ (And.intro (rfl) (And.intro (g) ?_))
            iterate 3 refine hK _ _ _ _ ?_
            have := fun L4 => ih (i + 1) _ _ (by omega) hQ L4
            rw [← nI_1] at this
            exact this _
          · rw [zm_jw_t (mz_b1 c2)] at hQ
            exact hK _ _ _ _ (And.intro rfl (hQ))
    iterate 4 refine hK _ _ _ _ ?_
    exact loop (w * h) 0 X c (by omega) hq none
  · exact hC.elim
theorem len_Mk_walkAll (w h : Nat) (lay : List mz_E) (as : List Value) (X : mz_X) (Q : mz_X → Prop) (hC : C_Mk_walkAll w h lay as X Q) : (mz_l0 as).length ≤ 3 := by
  unfold C_Mk_walkAll at hC
  split at hC
  · exact Nat.le_of_ble_eq_true rfl
  · exact hC.elim
theorem ok_Mk_walkAll (w h : Nat) (lay : List mz_E) (as : List Value) (X : mz_X) (Q : mz_X → Prop) (hC : C_Mk_walkAll w h lay as X Q) (K : mz_K) (hK : mz_Cl (I_Mk_walkAll w h) (mz_qv lay Q) K) : K 0 (mz_ent 3 as) [] (lay, X) := by
  unfold C_Mk_walkAll at hC
  split at hC
  ·
    obtain ⟨rfl, g, N, hN, hq⟩ := hC
    have hn := mz_geo_n g
    have loop : ∀ (Z : mz_X), Q (zm_ws w h N Z (w * h)) → ∀ (f : Int32) (k i : Nat), i + k = w * h → K 24 [some (.ref 12), some (.int f), some (.int (nI i))] [] (mz_lay w h, zm_ws w h N Z i) := by
      intro Z hZ f k
      induction k with
      | zero =>
        intro i hi
        iterate 4 refine hK _ _ _ _ ?_
        refine hK _ _ _ _ (And.intro (fun c1 => ?_) (fun c1 => ?_))
        · exact hK _ _ _ _ (And.intro rfl (by rw [show i = w * h by omega]; exact hZ))
        · exact absurd (nI_le (a := w * h) (b := i) (by omega) (by omega)) c1
      | succ k ih =>
        intro i hi
        have ih1 := ih (i + 1) (by omega)
        rw [show zm_ws w h N Z (i + 1) = zm_wS w h N (zm_ws w h N Z i) i from rfl, ← nI_1] at ih1
        generalize zm_ws w h N Z i = Y at ih1 ⊢
        have hf : zm_wB w h Y i = false → K 66 [some (.ref 12), some (.int f), some (.int (nI i))] [] (mz_lay w h, Y) := by
          intro e
          rw [show zm_wS w h N Y i = Y by unfold zm_wS; rw [e]] at ih1
          iterate 2 refine hK _ _ _ _ ?_
          exact ih1
        iterate 4 refine hK _ _ _ _ ?_
        refine hK _ _ _ _ (And.intro (fun c1 => ?_) (fun c1 => ?_))
        · exact absurd c1 (nI_ge (by omega) (by omega))
        · iterate 3 refine hK _ _ _ _ ?_
          refine hK _ _ _ _ (And.intro (rfl) (And.intro (g) ?_))
          refine hK _ _ _ _ ?_
          refine hK _ _ _ _ (And.intro (fun c2 => ?_) (fun c2 => ?_))
          · exact hf (by simp only [zm_wB]; rw [show zf_to w h Y (nI i) = -1 from c2]; rfl)
          · iterate 2 refine hK _ _ _ _ ?_
            refine hK _ _ _ _ (And.intro (rfl) (And.intro (g) ?_))
            refine hK _ _ _ _ (And.intro (fun c3 => ?_) (fun c3 => ?_))
            · have e : zm_wB w h Y i = true := by
                simp only [zm_wB]
                rw [show zm_isR w h Y (nI i) = false from mz_b0 c3, show decide (zf_to w h Y (nI i) = -1) = false from decide_eq_false c2]
                rfl
              iterate 2 refine hK _ _ _ _ ?_
              refine hK _ _ _ _ (And.intro rfl (And.intro g (Exists.intro N (And.intro hN ?_))))
              refine hK _ _ _ _ (And.intro (fun c4 => ?_) (fun c4 => ?_))
              · rw [show zm_wS w h N Y i = (zm_wk w h Y (nI i) N).1 by unfold zm_wS; rw [e, show zm_isR w h (zm_wk w h Y (nI i) N).1 (zm_wk w h Y (nI i) N).2 = false from mz_b0 c4]] at ih1
                iterate 2 refine hK _ _ _ _ ?_
                exact ih1
              · rw [show zm_wS w h N Y i = zm_jw w h (zm_wk w h Y (nI i) N).1 (nI i) (w * h) by unfold zm_wS; rw [e, show zm_isR w h (zm_wk w h Y (nI i) N).1 (zm_wk w h Y (nI i) N).2 = true from mz_b1 c4]] at ih1
                iterate 2 refine hK _ _ _ _ ?_
                refine hK _ _ _ _ (And.intro (rfl) (And.intro (g) ?_))
                iterate 2 refine hK _ _ _ _ ?_
                exact ih1
            · exact hf (by simp only [zm_wB]; rw [show zm_isR w h Y (nI i) = true from mz_b1 c3]; simp)
    iterate 2 refine hK _ _ _ _ ?_
    refine hK _ _ _ _ (And.intro (rfl) (And.intro (g) ?_))
    iterate 3 refine hK _ _ _ _ ?_
    refine hK _ _ _ _ (And.intro (rfl) (And.intro (g) ?_))
    iterate 4 refine hK _ _ _ _ ?_
    refine hK _ _ _ _ (And.intro (rfl) (And.intro (g) ?_))
    iterate 2 refine hK _ _ _ _ ?_
    exact loop _ hq _ (w * h) 0 (by omega)
  · exact hC.elim
theorem len_Mk_comb (w h : Nat) (lay : List mz_E) (as : List Value) (X : mz_X) (Q : mz_X → Prop) (hC : C_Mk_comb w h lay as X Q) : (mz_l0 as).length ≤ 2 := by
  unfold C_Mk_comb at hC
  split at hC
  · exact Nat.le_of_ble_eq_true rfl
  · exact hC.elim
theorem ok_Mk_comb (w h : Nat) (lay : List mz_E) (as : List Value) (X : mz_X) (Q : mz_X → Prop) (hC : C_Mk_comb w h lay as X Q) (K : mz_K) (hK : mz_Cl (I_Mk_comb w h) (mz_qv lay Q) K) : K 0 (mz_ent 2 as) [] (lay, X) := by
  unfold C_Mk_comb at hC
  split at hC
  ·
    obtain ⟨rfl, g, hq⟩ := hC
    have hn := mz_geo_n g
    have loop : ∀ (k i : Nat), i + k = w * h → K 2 [some (.ref 12), some (.int (nI i))] [] (mz_lay w h, zm_ks w h X i) := by
      intro k
      induction k with
      | zero =>
        intro i hi
        iterate 4 refine hK _ _ _ _ ?_
        refine hK _ _ _ _ (And.intro (fun c1 => ?_) (fun c1 => ?_))
        · exact hK _ _ _ _ (And.intro rfl (by rw [show i = w * h by omega]; exact hq))
        · exact absurd (nI_le (a := w * h) (b := i) (by omega) (by omega)) c1
      | succ k ih =>
        intro i hi
        have ih1 := ih (i + 1) (by omega)
        rw [show zm_ks w h X (i + 1) = zm_kS w h (zm_ks w h X i) i from rfl, ← nI_1] at ih1
        generalize zm_ks w h X i = Y at ih1 ⊢
        iterate 4 refine hK _ _ _ _ ?_
        refine hK _ _ _ _ (And.intro (fun c1 => ?_) (fun c1 => ?_))
        · exact absurd c1 (nI_ge (by omega) (by omega))
        · iterate 2 refine hK _ _ _ _ ?_
          refine hK _ _ _ _ (And.intro (rfl) (And.intro (g) ?_))
          iterate 6 refine hK _ _ _ _ ?_
          refine hK _ _ _ _ (And.intro (rfl) (And.intro (g) ?_))
          refine hK _ _ _ _ (And.intro (rfl) (And.intro (g) ?_))
          iterate 6 refine hK _ _ _ _ ?_
          refine hK _ _ _ _ (And.intro (rfl) (And.intro (g) ?_))
          refine hK _ _ _ _ (And.intro (rfl) (And.intro (g) ?_))
          iterate 3 refine hK _ _ _ _ ?_
          refine hK _ _ _ _ (And.intro (rfl) (And.intro (g) ?_))
          refine hK _ _ _ _ (And.intro (rfl) (And.intro (g) ?_))
          iterate 2 refine hK _ _ _ _ ?_
          exact ih1
    iterate 2 refine hK _ _ _ _ ?_
    exact loop (w * h) 0 (by omega)
  · exact hC.elim
theorem len_Mk_openMore (w h : Nat) (lay : List mz_E) (as : List Value) (X : mz_X) (Q : Int32 → mz_X → Prop) (hC : C_Mk_openMore w h lay as X Q) : (mz_l0 as).length ≤ 4 := by
  unfold C_Mk_openMore at hC
  split at hC
  · exact Nat.le_of_ble_eq_true rfl
  · exact hC.elim
theorem ok_Mk_openMore (w h : Nat) (lay : List mz_E) (as : List Value) (X : mz_X) (Q : Int32 → mz_X → Prop) (hC : C_Mk_openMore w h lay as X Q) (K : mz_K) (hK : mz_Cl (I_Mk_openMore w h) (mz_qi lay Q) K) : K 0 (mz_ent 4 as) [] (lay, X) := by
  unfold C_Mk_openMore at hC
  split at hC
  · next n =>
    obtain ⟨rfl, g, D, m, hD, hm, rfl, hq⟩ := hC
    have hd := mz_geo_d g
    have loop : ∀ (k i : Nat) (Y : mz_X), i + k = m → zm_D w h D Y → Q ((zm_lo w h D Y k).1 12 6) (zm_lo w h D Y k) → ∀ L3 : Option Value, K 7 [some (.ref 12), some (.int (nI m)), some (.int (nI i)), L3] [] (mz_lay w h, Y) := by
      intro k
      induction k with
      | zero =>
        intro i Y hi hY hQ L3
        iterate 2 refine hK _ _ _ _ ?_
        refine hK _ _ _ _ (And.intro (fun c1 => ?_) (fun c1 => ?_))
        · iterate 2 refine hK _ _ _ _ ?_
          exact hK _ _ _ _ (And.intro rfl (hQ))
        · exact absurd (nI_le (a := m) (b := i) (by omega) (by omega)) c1
      | succ k ih =>
        intro i Y hi hY hQ L3
        have inner : ∀ (kk j : Nat), j + kk = D → K 21 [some (.ref 12), some (.int (nI m)), some (.int (nI i)), some (.int (nI j))] [] (mz_lay w h, zm_c w h Y j) := by
          intro kk
          induction kk with
          | zero =>
            intro j hj
            have h7 : (zm_c w h Y j).1 1 7 = nI D := by rw [zm_c_keep (by decide) (by decide), hY.2]
            have ej : j = D := by omega
            subst ej
            iterate 3 refine hK _ _ _ _ ?_
            refine hK _ _ _ _ (And.intro (rfl) (And.intro (g) ?_))
            refine hK _ _ _ _ (And.intro (fun c2 => ?_) (fun c2 => ?_))
            · iterate 2 refine hK _ _ _ _ ?_
              refine hK _ _ _ _ (And.intro (rfl) (And.intro (g) ?_))
              refine hK _ _ _ _ (And.intro (fun c3 => ?_) (fun c3 => ?_))
              · rw [zm_lo_t c3] at hQ
                iterate 2 refine hK _ _ _ _ ?_
                exact hK _ _ _ _ (And.intro rfl (hQ))
              · rw [zm_lo_f c3] at hQ
                iterate 3 refine hK _ _ _ _ ?_
                refine hK _ _ _ _ (And.intro (rfl) (And.intro (g) ?_))
                refine hK _ _ _ _ (And.intro (rfl) (And.intro (g) ?_))
                iterate 2 refine hK _ _ _ _ ?_
                have := fun L3 => ih (i + 1) _ (by omega) (zm_D_of hY (zm_lS_7 Y)) hQ L3
                rw [← nI_1] at this
                exact this _
            · dsimp only at c2
              rw [h7] at c2
              exact absurd (nI_le (Nat.le_refl _) (by have := hY.1; omega)) c2
          | succ kk ihh =>
            intro j hj
            have h7 : (zm_c w h Y j).1 1 7 = nI D := by rw [zm_c_keep (by decide) (by decide), hY.2]
            have hDd := hY.1
            have ih1 := ihh (j + 1) (by omega)
            rw [show zm_c w h Y (j + 1) = zm_cS w h (zm_c w h Y j) j from rfl, ← nI_1] at ih1
            generalize zm_c w h Y j = Z at ih1 h7 ⊢
            iterate 3 refine hK _ _ _ _ ?_
            refine hK _ _ _ _ (And.intro (rfl) (And.intro (g) ?_))
            refine hK _ _ _ _ (And.intro (fun c2 => ?_) (fun c2 => ?_))
            · dsimp only at c2
              rw [h7] at c2
              exact absurd c2 (nI_ge (by omega) (by omega))
            · iterate 3 refine hK _ _ _ _ ?_
              refine hK _ _ _ _ (And.intro (rfl) (And.intro (g) ?_))
              refine hK _ _ _ _ (And.intro (fun c3 => ?_) (fun c3 => ?_))
              · rw [show zm_cS w h Z j = zr_add w h Z (nI j) by unfold zm_cS; rw [show zg_open w h Z (nI j) = false from mz_b0 c3]] at ih1
                iterate 3 refine hK _ _ _ _ ?_
                refine hK _ _ _ _ (And.intro (rfl) (And.intro (g) ?_))
                iterate 2 refine hK _ _ _ _ ?_
                exact ih1
              · rw [show zm_cS w h Z j = Z by unfold zm_cS; rw [show zg_open w h Z (nI j) = true from mz_b1 c3]] at ih1
                iterate 2 refine hK _ _ _ _ ?_
                exact ih1
        iterate 2 refine hK _ _ _ _ ?_
        refine hK _ _ _ _ (And.intro (fun c1 => ?_) (fun c1 => ?_))
        · exact absurd c1 (nI_ge (by omega) (by omega))
        · iterate 2 refine hK _ _ _ _ ?_
          refine hK _ _ _ _ (And.intro (rfl) (And.intro (g) ?_))
          iterate 2 refine hK _ _ _ _ ?_
          exact inner D 0 (by omega)
    iterate 5 refine hK _ _ _ _ ?_
    exact loop m 0 _ (by omega) (zm_D_of hD (by show mz_up X.1 12 6 0 1 7 = X.1 1 7; rw [mz_up_off (by decide)])) hq none
  · exact hC.elim
set_option maxRecDepth 20000 in
theorem snd_Mk_goDeep (w h : Nat) (l : Launch) (p : Program) (e : Env) (s : State) (m : MethodId) (args : Array Value) (below : List Frame) (meth : Method) (c : Code) (D : va_G) (ad0 : Nat → Nat) (cA0 : Nat → ClassId) (A : Nat → Prop) (lay : List mz_E) (Q : mz_X → Prop) (F : mz_F p s m args meth c prog_7_method_10_code 5 y_Mk_goDeep.cls none w_Mk_goDeep) (hA : ∀ q, s.heap.size ≤ q → A q) : mz_All (mz_V p l e (mz_rm 3 67) s m args below meth c 5 lay.length (mz_sz lay) D mz_cls (mz_G0 ad0 cA0) A (MQ below (va_Qv Q (mz_B D mz_cls ad0 cA0 lay A) A) args s 0 0 A)) (mz_qv lay Q) (I_Mk_goDeep w h) := by
  obtain ⟨hx, hb, hml, hown, hts, hr, hlk⟩ := F
  unfold I_Mk_goDeep
  refine mz_All.cons (sd_aload_n hx hb (mz_dg d_Mk_goDeep 0 0 (.aload_n 0) 1 rfl) rfl) ?_
  refine mz_All.cons (sd_get (k := 0) hx hb hts (mz_inC in_Mk) hown (T := T_Mk) (N := 7) rfl (by decide) (hts (.fieldLink "MazeForms$Maker" 9 "MazeForms$Maker" "grid" "LMazeForms$Grid;") (List.mem_cons_of_mem _ wm_229)) (fun _ h => h) (mz_dg d_Mk_goDeep 1 1 (.getfield 9) 3 rfl)) ?_
  refine mz_All.cons (sd_calli (T := T_Gr) ⟨hx, hb, hml, hown, hts⟩ (met_Gr_firstCell w h l) (cwV 0 hts (mz_gV wm_350 wm_351 wm_352 wm_67 wm_353) rfl rfl rfl (by decide) ⟨by decide, by decide⟩) rfl hA rfl (mz_dg d_Mk_goDeep 2 4 (.invokevirtual 104) 3 rfl)) ?_
  refine mz_All.cons (sd_istore_n hx hb (mz_dg d_Mk_goDeep 3 7 (.istore_n 1) 1 rfl) rfl (by decide)) ?_
  refine mz_All.cons (sd_aload_n hx hb (mz_dg d_Mk_goDeep 4 8 (.aload_n 0) 1 rfl) rfl) ?_
  refine mz_All.cons (sd_iload_n hx hb (mz_dg d_Mk_goDeep 5 9 (.iload_n 1) 1 rfl) rfl) ?_
  refine mz_All.cons (sd_callv (T := T_Mk) ⟨hx, hb, hml, hown, hts⟩ (met_Mk_begin w h l) (cwV 1 hts (mz_gV wm_354 wm_356 wm_3 wm_72 wm_357) rfl rfl rfl (by decide) ⟨by decide, by decide⟩) rfl hA rfl (mz_dg d_Mk_goDeep 6 10 (.invokevirtual 107) 3 rfl)) ?_
  refine mz_All.cons (sd_iconst hx hb (mz_dg d_Mk_goDeep 7 13 (.iconst (0)) 1 rfl) (by decide)) ?_
  refine mz_All.cons (sd_istore_n hx hb (mz_dg d_Mk_goDeep 8 14 (.istore_n 2) 1 rfl) rfl (by decide)) ?_
  refine mz_All.cons (sd_iload_n hx hb (mz_dg d_Mk_goDeep 9 15 (.iload_n 2) 1 rfl) rfl) ?_
  refine mz_All.cons (sd_iconst hx hb (mz_dg d_Mk_goDeep 10 16 (.iconst (2)) 1 rfl) (by decide)) ?_
  refine mz_All.cons (sd_aload_n hx hb (mz_dg d_Mk_goDeep 11 17 (.aload_n 0) 1 rfl) rfl) ?_
  refine mz_All.cons (sd_get (k := 4) hx hb hts (mz_inC in_Mk) hown (T := T_Mk) (N := 7) rfl (by decide) (hts (.fieldLink "MazeForms$Maker" 41 "MazeForms$Maker" "reached" "[Z") (List.mem_cons_of_mem _ wm_233)) (fun _ h => h) (mz_dg d_Mk_goDeep 12 18 (.getfield 41) 3 rfl)) ?_
  refine mz_All.cons (sd_alen hx hb (mz_dg d_Mk_goDeep 13 21 (.arraylength) 1 rfl)) ?_
  refine mz_All.cons (sd_imul hx hb (mz_dg d_Mk_goDeep 14 22 (.imul) 1 rfl)) ?_
  refine mz_All.cons (sd_icmp_ge hx hb (mz_dg d_Mk_goDeep 15 23 (.if_icmp .ge (73)) 3 rfl) (by decide)) ?_
  refine mz_All.cons (sd_iload_n hx hb (mz_dg d_Mk_goDeep 16 26 (.iload_n 1) 1 rfl) rfl) ?_
  refine mz_All.cons (sd_iconst hx hb (mz_dg d_Mk_goDeep 17 27 (.iconst (-1)) 1 rfl) (by decide)) ?_
  refine mz_All.cons (sd_icmp_eq hx hb (mz_dg d_Mk_goDeep 18 28 (.if_icmp .eq (68)) 3 rfl) (by decide)) ?_
  refine mz_All.cons (sd_aload_n hx hb (mz_dg d_Mk_goDeep 19 31 (.aload_n 0) 1 rfl) rfl) ?_
  refine mz_All.cons (sd_iload_n hx hb (mz_dg d_Mk_goDeep 20 32 (.iload_n 1) 1 rfl) rfl) ?_
  refine mz_All.cons (sd_callv (T := T_Mk) ⟨hx, hb, hml, hown, hts⟩ (met_Mk_offerUnreached w h l) (cwV 1 hts (mz_gV wm_363 wm_365 wm_5 wm_72 wm_366) rfl rfl rfl (by decide) ⟨by decide, by decide⟩) rfl hA rfl (mz_dg d_Mk_goDeep 21 33 (.invokevirtual 110) 3 rfl)) ?_
  refine mz_All.cons (sd_aload_n hx hb (mz_dg d_Mk_goDeep 22 36 (.aload_n 0) 1 rfl) rfl) ?_
  refine mz_All.cons (sd_get (k := 3) hx hb hts (mz_inC in_Mk) hown (T := T_Mk) (N := 7) rfl (by decide) (hts (.fieldLink "MazeForms$Maker" 34 "MazeForms$Maker" "choice" "LMazeForms$DoorRow;") (List.mem_cons_of_mem _ wm_232)) (fun _ h => h) (mz_dg d_Mk_goDeep 23 37 (.getfield 34) 3 rfl)) ?_
  refine mz_All.cons (sd_calli (T := T_Dr) ⟨hx, hb, hml, hown, hts⟩ (met_Dr_draw w h l) (cwV 0 hts (mz_gV wm_391 wm_392 wm_393 wm_74 wm_394) rfl rfl rfl (by decide) ⟨by decide, by decide⟩) rfl hA rfl (mz_dg d_Mk_goDeep 24 40 (.invokevirtual 88) 3 rfl)) ?_
  refine mz_All.cons (sd_istore_n hx hb (mz_dg d_Mk_goDeep 25 43 (.istore_n 3) 1 rfl) rfl (by decide)) ?_
  refine mz_All.cons (sd_iload_n hx hb (mz_dg d_Mk_goDeep 26 44 (.iload_n 3) 1 rfl) rfl) ?_
  refine mz_All.cons (sd_iconst hx hb (mz_dg d_Mk_goDeep 27 45 (.iconst (-1)) 1 rfl) (by decide)) ?_
  refine mz_All.cons (sd_icmp_ne hx hb (mz_dg d_Mk_goDeep 28 46 (.if_icmp .ne (12)) 3 rfl) (by decide)) ?_
  refine mz_All.cons (sd_aload_n hx hb (mz_dg d_Mk_goDeep 29 49 (.aload_n 0) 1 rfl) rfl) ?_
  refine mz_All.cons (sd_iload_n hx hb (mz_dg d_Mk_goDeep 30 50 (.iload_n 1) 1 rfl) rfl) ?_
  refine mz_All.cons (sd_calli (T := T_Mk) ⟨hx, hb, hml, hown, hts⟩ (met_Mk_traceOf w h l) (cwV 1 hts (mz_gV wm_405 wm_407 wm_7 wm_72 wm_408) rfl rfl rfl (by decide) ⟨by decide, by decide⟩) rfl hA rfl (mz_dg d_Mk_goDeep 31 51 (.invokevirtual 113) 3 rfl)) ?_
  refine mz_All.cons (sd_istore_n hx hb (mz_dg d_Mk_goDeep 32 54 (.istore_n 1) 1 rfl) rfl (by decide)) ?_
  refine mz_All.cons (sd_goto hx hb (mz_dg d_Mk_goDeep 33 55 (.goto (35)) 3 rfl) (by decide)) ?_
  refine mz_All.cons (sd_aload_n hx hb (mz_dg d_Mk_goDeep 34 58 (.aload_n 0) 1 rfl) rfl) ?_
  refine mz_All.cons (sd_get (k := 0) hx hb hts (mz_inC in_Mk) hown (T := T_Mk) (N := 7) rfl (by decide) (hts (.fieldLink "MazeForms$Maker" 9 "MazeForms$Maker" "grid" "LMazeForms$Grid;") (List.mem_cons_of_mem _ wm_229)) (fun _ h => h) (mz_dg d_Mk_goDeep 35 59 (.getfield 9) 3 rfl)) ?_
  refine mz_All.cons (sd_iload_n hx hb (mz_dg d_Mk_goDeep 36 62 (.iload_n 3) 1 rfl) rfl) ?_
  refine mz_All.cons (sd_iload_n hx hb (mz_dg d_Mk_goDeep 37 63 (.iload_n 1) 1 rfl) rfl) ?_
  refine mz_All.cons (sd_calli (T := T_Gr) ⟨hx, hb, hml, hown, hts⟩ (met_Gr_otherCell w h l) (cwV 2 hts (mz_gV wm_375 wm_376 wm_377 wm_67 wm_378) rfl rfl rfl (by decide) ⟨by decide, by decide⟩) rfl hA rfl (mz_dg d_Mk_goDeep 38 64 (.invokevirtual 117) 3 rfl)) ?_
  refine mz_All.cons (sd_istore hx hb (mz_dg d_Mk_goDeep 39 67 (.istore 4) 2 rfl) (by decide)) ?_
  refine mz_All.cons (sd_aload_n hx hb (mz_dg d_Mk_goDeep 40 69 (.aload_n 0) 1 rfl) rfl) ?_
  refine mz_All.cons (sd_iload_n hx hb (mz_dg d_Mk_goDeep 41 70 (.iload_n 3) 1 rfl) rfl) ?_
  refine mz_All.cons (sd_callv (T := T_Mk) ⟨hx, hb, hml, hown, hts⟩ (met_Mk_openDoor w h l) (cwV 1 hts (mz_gV wm_409 wm_411 wm_8 wm_72 wm_412) rfl rfl rfl (by decide) ⟨by decide, by decide⟩) rfl hA rfl (mz_dg d_Mk_goDeep 42 71 (.invokevirtual 91) 3 rfl)) ?_
  refine mz_All.cons (sd_aload_n hx hb (mz_dg d_Mk_goDeep 43 74 (.aload_n 0) 1 rfl) rfl) ?_
  refine mz_All.cons (sd_iload hx hb (mz_dg d_Mk_goDeep 44 75 (.iload 4) 2 rfl)) ?_
  refine mz_All.cons (sd_callv (T := T_Mk) ⟨hx, hb, hml, hown, hts⟩ (met_Mk_enter w h l) (cwV 1 hts (mz_gV wm_358 wm_360 wm_4 wm_72 wm_361) rfl rfl rfl (by decide) ⟨by decide, by decide⟩) rfl hA rfl (mz_dg d_Mk_goDeep 45 77 (.invokevirtual 98) 3 rfl)) ?_
  refine mz_All.cons (sd_aload_n hx hb (mz_dg d_Mk_goDeep 46 80 (.aload_n 0) 1 rfl) rfl) ?_
  refine mz_All.cons (sd_iload hx hb (mz_dg d_Mk_goDeep 47 81 (.iload 4) 2 rfl)) ?_
  refine mz_All.cons (sd_iload_n hx hb (mz_dg d_Mk_goDeep 48 83 (.iload_n 1) 1 rfl) rfl) ?_
  refine mz_All.cons (sd_callv (T := T_Mk) ⟨hx, hb, hml, hown, hts⟩ (met_Mk_setTrace w h l) (cwV 2 hts (mz_gV wm_417 wm_419 wm_9 wm_72 wm_420) rfl rfl rfl (by decide) ⟨by decide, by decide⟩) rfl hA rfl (mz_dg d_Mk_goDeep 49 84 (.invokevirtual 121) 3 rfl)) ?_
  refine mz_All.cons (sd_iload hx hb (mz_dg d_Mk_goDeep 50 87 (.iload 4) 2 rfl)) ?_
  refine mz_All.cons (sd_istore_n hx hb (mz_dg d_Mk_goDeep 51 89 (.istore_n 1) 1 rfl) rfl (by decide)) ?_
  refine mz_All.cons (sd_iinc hx hb (mz_dg d_Mk_goDeep 52 90 (.iinc 2 (1)) 3 rfl) (by decide) (by decide)) ?_
  refine mz_All.cons (sd_goto hx hb (mz_dg d_Mk_goDeep 53 93 (.goto (-78)) 3 rfl) (by decide)) ?_
  refine mz_All.cons (sd_rv hx hb hr hlk (mz_dg d_Mk_goDeep 54 96 (.return_) 1 rfl)) ?_
  exact trivial
theorem met_Mk_goDeep (w h : Nat) (l : Launch) : mz_MV l y_Mk_goDeep w_Mk_goDeep 3 67 mz_cls (C_Mk_goDeep w h) := mz_MV_of (I_Mk_goDeep w h) (by decide) rfl (len_Mk_goDeep w h) (ok_Mk_goDeep w h) (snd_Mk_goDeep w h l)
set_option maxRecDepth 20000 in
theorem snd_Mk_grow (w h : Nat) (l : Launch) (p : Program) (e : Env) (s : State) (m : MethodId) (args : Array Value) (below : List Frame) (meth : Method) (c : Code) (D : va_G) (ad0 : Nat → Nat) (cA0 : Nat → ClassId) (A : Nat → Prop) (lay : List mz_E) (Q : mz_X → Prop) (F : mz_F p s m args meth c prog_7_method_13_code 3 y_Mk_grow.cls none w_Mk_grow) (hA : ∀ q, s.heap.size ≤ q → A q) : mz_All (mz_V p l e (mz_rm 3 64) s m args below meth c 3 lay.length (mz_sz lay) D mz_cls (mz_G0 ad0 cA0) A (MQ below (va_Qv Q (mz_B D mz_cls ad0 cA0 lay A) A) args s 0 0 A)) (mz_qv lay Q) (I_Mk_grow w h) := by
  obtain ⟨hx, hb, hml, hown, hts, hr, hlk⟩ := F
  unfold I_Mk_grow
  refine mz_All.cons (sd_aload_n hx hb (mz_dg d_Mk_grow 0 0 (.aload_n 0) 1 rfl) rfl) ?_
  refine mz_All.cons (sd_aload_n hx hb (mz_dg d_Mk_grow 1 1 (.aload_n 0) 1 rfl) rfl) ?_
  refine mz_All.cons (sd_get (k := 0) hx hb hts (mz_inC in_Mk) hown (T := T_Mk) (N := 7) rfl (by decide) (hts (.fieldLink "MazeForms$Maker" 9 "MazeForms$Maker" "grid" "LMazeForms$Grid;") (List.mem_cons_of_mem _ wm_229)) (fun _ h => h) (mz_dg d_Mk_grow 2 2 (.getfield 9) 3 rfl)) ?_
  refine mz_All.cons (sd_calli (T := T_Gr) ⟨hx, hb, hml, hown, hts⟩ (met_Gr_firstCell w h l) (cwV 0 hts (mz_gV wm_350 wm_351 wm_352 wm_67 wm_353) rfl rfl rfl (by decide) ⟨by decide, by decide⟩) rfl hA rfl (mz_dg d_Mk_grow 3 5 (.invokevirtual 104) 3 rfl)) ?_
  refine mz_All.cons (sd_callv (T := T_Mk) ⟨hx, hb, hml, hown, hts⟩ (met_Mk_begin w h l) (cwV 1 hts (mz_gV wm_354 wm_356 wm_3 wm_72 wm_357) rfl rfl rfl (by decide) ⟨by decide, by decide⟩) rfl hA rfl (mz_dg d_Mk_grow 4 8 (.invokevirtual 107) 3 rfl)) ?_
  refine mz_All.cons (sd_iconst hx hb (mz_dg d_Mk_grow 5 11 (.iconst (0)) 1 rfl) (by decide)) ?_
  refine mz_All.cons (sd_istore_n hx hb (mz_dg d_Mk_grow 6 12 (.istore_n 1) 1 rfl) rfl (by decide)) ?_
  refine mz_All.cons (sd_iload_n hx hb (mz_dg d_Mk_grow 7 13 (.iload_n 1) 1 rfl) rfl) ?_
  refine mz_All.cons (sd_aload_n hx hb (mz_dg d_Mk_grow 8 14 (.aload_n 0) 1 rfl) rfl) ?_
  refine mz_All.cons (sd_get (k := 4) hx hb hts (mz_inC in_Mk) hown (T := T_Mk) (N := 7) rfl (by decide) (hts (.fieldLink "MazeForms$Maker" 41 "MazeForms$Maker" "reached" "[Z") (List.mem_cons_of_mem _ wm_233)) (fun _ h => h) (mz_dg d_Mk_grow 9 15 (.getfield 41) 3 rfl)) ?_
  refine mz_All.cons (sd_alen hx hb (mz_dg d_Mk_grow 10 18 (.arraylength) 1 rfl)) ?_
  refine mz_All.cons (sd_icmp_ge hx hb (mz_dg d_Mk_grow 11 19 (.if_icmp .ge (56)) 3 rfl) (by decide)) ?_
  refine mz_All.cons (sd_aload_n hx hb (mz_dg d_Mk_grow 12 22 (.aload_n 0) 1 rfl) rfl) ?_
  refine mz_All.cons (sd_callv (T := T_Mk) ⟨hx, hb, hml, hown, hts⟩ (met_Mk_offerRim w h l) (cwV 0 hts (mz_gV wm_467 wm_469 wm_14 wm_72 wm_470) rfl rfl rfl (by decide) ⟨by decide, by decide⟩) rfl hA rfl (mz_dg d_Mk_grow 13 23 (.invokevirtual 145) 3 rfl)) ?_
  refine mz_All.cons (sd_aload_n hx hb (mz_dg d_Mk_grow 14 26 (.aload_n 0) 1 rfl) rfl) ?_
  refine mz_All.cons (sd_get (k := 3) hx hb hts (mz_inC in_Mk) hown (T := T_Mk) (N := 7) rfl (by decide) (hts (.fieldLink "MazeForms$Maker" 34 "MazeForms$Maker" "choice" "LMazeForms$DoorRow;") (List.mem_cons_of_mem _ wm_232)) (fun _ h => h) (mz_dg d_Mk_grow 15 27 (.getfield 34) 3 rfl)) ?_
  refine mz_All.cons (sd_calli (T := T_Dr) ⟨hx, hb, hml, hown, hts⟩ (met_Dr_draw w h l) (cwV 0 hts (mz_gV wm_391 wm_392 wm_393 wm_74 wm_394) rfl rfl rfl (by decide) ⟨by decide, by decide⟩) rfl hA rfl (mz_dg d_Mk_grow 16 30 (.invokevirtual 88) 3 rfl)) ?_
  refine mz_All.cons (sd_istore_n hx hb (mz_dg d_Mk_grow 17 33 (.istore_n 2) 1 rfl) rfl (by decide)) ?_
  refine mz_All.cons (sd_iload_n hx hb (mz_dg d_Mk_grow 18 34 (.iload_n 2) 1 rfl) rfl) ?_
  refine mz_All.cons (sd_iconst hx hb (mz_dg d_Mk_grow 19 35 (.iconst (-1)) 1 rfl) (by decide)) ?_
  refine mz_All.cons (sd_icmp_ne hx hb (mz_dg d_Mk_grow 20 36 (.if_icmp .ne (4)) 3 rfl) (by decide)) ?_
  refine mz_All.cons (sd_rv hx hb hr hlk (mz_dg d_Mk_grow 21 39 (.return_) 1 rfl)) ?_
  refine mz_All.cons (sd_aload_n hx hb (mz_dg d_Mk_grow 22 40 (.aload_n 0) 1 rfl) rfl) ?_
  refine mz_All.cons (sd_iload_n hx hb (mz_dg d_Mk_grow 23 41 (.iload_n 2) 1 rfl) rfl) ?_
  refine mz_All.cons (sd_callv (T := T_Mk) ⟨hx, hb, hml, hown, hts⟩ (met_Mk_openDoor w h l) (cwV 1 hts (mz_gV wm_409 wm_411 wm_8 wm_72 wm_412) rfl rfl rfl (by decide) ⟨by decide, by decide⟩) rfl hA rfl (mz_dg d_Mk_grow 24 42 (.invokevirtual 91) 3 rfl)) ?_
  refine mz_All.cons (sd_aload_n hx hb (mz_dg d_Mk_grow 25 45 (.aload_n 0) 1 rfl) rfl) ?_
  refine mz_All.cons (sd_aload_n hx hb (mz_dg d_Mk_grow 26 46 (.aload_n 0) 1 rfl) rfl) ?_
  refine mz_All.cons (sd_get (k := 0) hx hb hts (mz_inC in_Mk) hown (T := T_Mk) (N := 7) rfl (by decide) (hts (.fieldLink "MazeForms$Maker" 9 "MazeForms$Maker" "grid" "LMazeForms$Grid;") (List.mem_cons_of_mem _ wm_229)) (fun _ h => h) (mz_dg d_Mk_grow 27 47 (.getfield 9) 3 rfl)) ?_
  refine mz_All.cons (sd_iload_n hx hb (mz_dg d_Mk_grow 28 50 (.iload_n 2) 1 rfl) rfl) ?_
  refine mz_All.cons (sd_calli (T := T_Gr) ⟨hx, hb, hml, hown, hts⟩ (met_Gr_lesserCell w h l) (cwV 1 hts (mz_gV wm_471 wm_451 wm_452 wm_67 wm_453) rfl rfl rfl (by decide) ⟨by decide, by decide⟩) rfl hA rfl (mz_dg d_Mk_grow 29 51 (.invokevirtual 148) 3 rfl)) ?_
  refine mz_All.cons (sd_callv (T := T_Mk) ⟨hx, hb, hml, hown, hts⟩ (met_Mk_enter w h l) (cwV 1 hts (mz_gV wm_358 wm_360 wm_4 wm_72 wm_361) rfl rfl rfl (by decide) ⟨by decide, by decide⟩) rfl hA rfl (mz_dg d_Mk_grow 30 54 (.invokevirtual 98) 3 rfl)) ?_
  refine mz_All.cons (sd_aload_n hx hb (mz_dg d_Mk_grow 31 57 (.aload_n 0) 1 rfl) rfl) ?_
  refine mz_All.cons (sd_aload_n hx hb (mz_dg d_Mk_grow 32 58 (.aload_n 0) 1 rfl) rfl) ?_
  refine mz_All.cons (sd_get (k := 0) hx hb hts (mz_inC in_Mk) hown (T := T_Mk) (N := 7) rfl (by decide) (hts (.fieldLink "MazeForms$Maker" 9 "MazeForms$Maker" "grid" "LMazeForms$Grid;") (List.mem_cons_of_mem _ wm_229)) (fun _ h => h) (mz_dg d_Mk_grow 33 59 (.getfield 9) 3 rfl)) ?_
  refine mz_All.cons (sd_iload_n hx hb (mz_dg d_Mk_grow 34 62 (.iload_n 2) 1 rfl) rfl) ?_
  refine mz_All.cons (sd_calli (T := T_Gr) ⟨hx, hb, hml, hown, hts⟩ (met_Gr_greaterCell w h l) (cwV 1 hts (mz_gV wm_472 wm_460 wm_461 wm_67 wm_462) rfl rfl rfl (by decide) ⟨by decide, by decide⟩) rfl hA rfl (mz_dg d_Mk_grow 35 63 (.invokevirtual 151) 3 rfl)) ?_
  refine mz_All.cons (sd_callv (T := T_Mk) ⟨hx, hb, hml, hown, hts⟩ (met_Mk_enter w h l) (cwV 1 hts (mz_gV wm_358 wm_360 wm_4 wm_72 wm_361) rfl rfl rfl (by decide) ⟨by decide, by decide⟩) rfl hA rfl (mz_dg d_Mk_grow 36 66 (.invokevirtual 98) 3 rfl)) ?_
  refine mz_All.cons (sd_iinc hx hb (mz_dg d_Mk_grow 37 69 (.iinc 1 (1)) 3 rfl) (by decide) (by decide)) ?_
  refine mz_All.cons (sd_goto hx hb (mz_dg d_Mk_grow 38 72 (.goto (-59)) 3 rfl) (by decide)) ?_
  refine mz_All.cons (sd_rv hx hb hr hlk (mz_dg d_Mk_grow 39 75 (.return_) 1 rfl)) ?_
  exact trivial
theorem met_Mk_grow (w h : Nat) (l : Launch) : mz_MV l y_Mk_grow w_Mk_grow 3 64 mz_cls (C_Mk_grow w h) := mz_MV_of (I_Mk_grow w h) (by decide) rfl (len_Mk_grow w h) (ok_Mk_grow w h) (snd_Mk_grow w h l)
set_option maxRecDepth 20000 in
theorem snd_Mk_walkToTree (w h : Nat) (l : Launch) (p : Program) (e : Env) (s : State) (m : MethodId) (args : Array Value) (below : List Frame) (meth : Method) (c : Code) (D : va_G) (ad0 : Nat → Nat) (cA0 : Nat → ClassId) (A : Nat → Prop) (lay : List mz_E) (Q : Int32 → mz_X → Prop) (F : mz_F p s m args meth c prog_7_method_16_code 5 y_Mk_walkToTree.cls (some .boolean) w_Mk_walkToTree) (hA : ∀ q, s.heap.size ≤ q → A q) : mz_All (mz_V p l e (mz_rm 3 66) s m args below meth c 5 lay.length (mz_sz lay) D mz_cls (mz_G0 ad0 cA0) A (MQ below (va_Qi Q (mz_B D mz_cls ad0 cA0 lay A) A) args s 0 0 A)) (mz_qi lay Q) (I_Mk_walkToTree w h) := by
  obtain ⟨hx, hb, hml, hown, hts, hr, hlk⟩ := F
  unfold I_Mk_walkToTree
  refine mz_All.cons (sd_iload_n hx hb (mz_dg d_Mk_walkToTree 0 0 (.iload_n 1) 1 rfl) rfl) ?_
  refine mz_All.cons (sd_istore_n hx hb (mz_dg d_Mk_walkToTree 1 1 (.istore_n 2) 1 rfl) rfl (by decide)) ?_
  refine mz_All.cons (sd_iconst hx hb (mz_dg d_Mk_walkToTree 2 2 (.iconst (0)) 1 rfl) (by decide)) ?_
  refine mz_All.cons (sd_istore_n hx hb (mz_dg d_Mk_walkToTree 3 3 (.istore_n 3) 1 rfl) rfl (by decide)) ?_
  refine mz_All.cons (sd_iload_n hx hb (mz_dg d_Mk_walkToTree 4 4 (.iload_n 3) 1 rfl) rfl) ?_
  refine mz_All.cons (sd_ldc hx hb hown (hts _ (List.mem_cons_of_mem _ wm_506)) (mz_dg d_Mk_walkToTree 5 5 (.ldc 169) 2 rfl)) ?_
  refine mz_All.cons (sd_icmp_ge hx hb (mz_dg d_Mk_walkToTree 6 7 (.if_icmp .ge (54)) 3 rfl) (by decide)) ?_
  refine mz_All.cons (sd_iload_n hx hb (mz_dg d_Mk_walkToTree 7 10 (.iload_n 2) 1 rfl) rfl) ?_
  refine mz_All.cons (sd_iconst hx hb (mz_dg d_Mk_walkToTree 8 11 (.iconst (-1)) 1 rfl) (by decide)) ?_
  refine mz_All.cons (sd_icmp_eq hx hb (mz_dg d_Mk_walkToTree 9 12 (.if_icmp .eq (49)) 3 rfl) (by decide)) ?_
  refine mz_All.cons (sd_aload_n hx hb (mz_dg d_Mk_walkToTree 10 15 (.aload_n 0) 1 rfl) rfl) ?_
  refine mz_All.cons (sd_iload_n hx hb (mz_dg d_Mk_walkToTree 11 16 (.iload_n 2) 1 rfl) rfl) ?_
  refine mz_All.cons (sd_calli (T := T_Mk) ⟨hx, hb, hml, hown, hts⟩ (met_Mk_isReached w h l) (cwV 1 hts (mz_gV wm_383 wm_385 wm_6 wm_72 wm_386) rfl rfl rfl (by decide) ⟨by decide, by decide⟩) rfl hA rfl (mz_dg d_Mk_walkToTree 12 17 (.invokevirtual 128) 3 rfl)) ?_
  refine mz_All.cons (sd_if_ne hx hb (mz_dg d_Mk_walkToTree 13 20 (.ifCond .ne (41)) 3 rfl) (by decide)) ?_
  refine mz_All.cons (sd_aload_n hx hb (mz_dg d_Mk_walkToTree 14 23 (.aload_n 0) 1 rfl) rfl) ?_
  refine mz_All.cons (sd_iload_n hx hb (mz_dg d_Mk_walkToTree 15 24 (.iload_n 2) 1 rfl) rfl) ?_
  refine mz_All.cons (sd_callv (T := T_Mk) ⟨hx, hb, hml, hown, hts⟩ (met_Mk_offerAll w h l) (cwV 1 hts (mz_gV wm_507 wm_509 wm_19 wm_72 wm_510) rfl rfl rfl (by decide) ⟨by decide, by decide⟩) rfl hA rfl (mz_dg d_Mk_walkToTree 16 25 (.invokevirtual 170) 3 rfl)) ?_
  refine mz_All.cons (sd_aload_n hx hb (mz_dg d_Mk_walkToTree 17 28 (.aload_n 0) 1 rfl) rfl) ?_
  refine mz_All.cons (sd_get (k := 3) hx hb hts (mz_inC in_Mk) hown (T := T_Mk) (N := 7) rfl (by decide) (hts (.fieldLink "MazeForms$Maker" 34 "MazeForms$Maker" "choice" "LMazeForms$DoorRow;") (List.mem_cons_of_mem _ wm_232)) (fun _ h => h) (mz_dg d_Mk_walkToTree 18 29 (.getfield 34) 3 rfl)) ?_
  refine mz_All.cons (sd_calli (T := T_Dr) ⟨hx, hb, hml, hown, hts⟩ (met_Dr_draw w h l) (cwV 0 hts (mz_gV wm_391 wm_392 wm_393 wm_74 wm_394) rfl rfl rfl (by decide) ⟨by decide, by decide⟩) rfl hA rfl (mz_dg d_Mk_walkToTree 19 32 (.invokevirtual 88) 3 rfl)) ?_
  refine mz_All.cons (sd_istore hx hb (mz_dg d_Mk_walkToTree 20 35 (.istore 4) 2 rfl) (by decide)) ?_
  refine mz_All.cons (sd_aload_n hx hb (mz_dg d_Mk_walkToTree 21 37 (.aload_n 0) 1 rfl) rfl) ?_
  refine mz_All.cons (sd_iload_n hx hb (mz_dg d_Mk_walkToTree 22 38 (.iload_n 2) 1 rfl) rfl) ?_
  refine mz_All.cons (sd_iload hx hb (mz_dg d_Mk_walkToTree 23 39 (.iload 4) 2 rfl)) ?_
  refine mz_All.cons (sd_callv (T := T_Mk) ⟨hx, hb, hml, hown, hts⟩ (met_Mk_setTrace w h l) (cwV 2 hts (mz_gV wm_417 wm_419 wm_9 wm_72 wm_420) rfl rfl rfl (by decide) ⟨by decide, by decide⟩) rfl hA rfl (mz_dg d_Mk_walkToTree 24 41 (.invokevirtual 121) 3 rfl)) ?_
  refine mz_All.cons (sd_aload_n hx hb (mz_dg d_Mk_walkToTree 25 44 (.aload_n 0) 1 rfl) rfl) ?_
  refine mz_All.cons (sd_get (k := 0) hx hb hts (mz_inC in_Mk) hown (T := T_Mk) (N := 7) rfl (by decide) (hts (.fieldLink "MazeForms$Maker" 9 "MazeForms$Maker" "grid" "LMazeForms$Grid;") (List.mem_cons_of_mem _ wm_229)) (fun _ h => h) (mz_dg d_Mk_walkToTree 26 45 (.getfield 9) 3 rfl)) ?_
  refine mz_All.cons (sd_iload hx hb (mz_dg d_Mk_walkToTree 27 48 (.iload 4) 2 rfl)) ?_
  refine mz_All.cons (sd_iload_n hx hb (mz_dg d_Mk_walkToTree 28 50 (.iload_n 2) 1 rfl) rfl) ?_
  refine mz_All.cons (sd_calli (T := T_Gr) ⟨hx, hb, hml, hown, hts⟩ (met_Gr_otherCell w h l) (cwV 2 hts (mz_gV wm_375 wm_376 wm_377 wm_67 wm_378) rfl rfl rfl (by decide) ⟨by decide, by decide⟩) rfl hA rfl (mz_dg d_Mk_walkToTree 29 51 (.invokevirtual 117) 3 rfl)) ?_
  refine mz_All.cons (sd_istore_n hx hb (mz_dg d_Mk_walkToTree 30 54 (.istore_n 2) 1 rfl) rfl (by decide)) ?_
  refine mz_All.cons (sd_iinc hx hb (mz_dg d_Mk_walkToTree 31 55 (.iinc 3 (1)) 3 rfl) (by decide) (by decide)) ?_
  refine mz_All.cons (sd_goto hx hb (mz_dg d_Mk_walkToTree 32 58 (.goto (-54)) 3 rfl) (by decide)) ?_
  refine mz_All.cons (sd_aload_n hx hb (mz_dg d_Mk_walkToTree 33 61 (.aload_n 0) 1 rfl) rfl) ?_
  refine mz_All.cons (sd_iload_n hx hb (mz_dg d_Mk_walkToTree 34 62 (.iload_n 2) 1 rfl) rfl) ?_
  refine mz_All.cons (sd_calli (T := T_Mk) ⟨hx, hb, hml, hown, hts⟩ (met_Mk_isReached w h l) (cwV 1 hts (mz_gV wm_383 wm_385 wm_6 wm_72 wm_386) rfl rfl rfl (by decide) ⟨by decide, by decide⟩) rfl hA rfl (mz_dg d_Mk_walkToTree 35 63 (.invokevirtual 128) 3 rfl)) ?_
  refine mz_All.cons (sd_rz hx hb hr hlk (mz_dg d_Mk_walkToTree 36 66 (.ireturn) 1 rfl)) ?_
  exact trivial
theorem met_Mk_walkToTree (w h : Nat) (l : Launch) : mz_MI l y_Mk_walkToTree w_Mk_walkToTree 3 66 mz_cls (C_Mk_walkToTree w h) := mz_MI_of (I_Mk_walkToTree w h) (by decide) rfl (len_Mk_walkToTree w h) (ok_Mk_walkToTree w h) (snd_Mk_walkToTree w h l)
set_option maxRecDepth 20000 in
theorem snd_Mk_joinWalk (w h : Nat) (l : Launch) (p : Program) (e : Env) (s : State) (m : MethodId) (args : Array Value) (below : List Frame) (meth : Method) (c : Code) (D : va_G) (ad0 : Nat → Nat) (cA0 : Nat → ClassId) (A : Nat → Prop) (lay : List mz_E) (Q : mz_X → Prop) (F : mz_F p s m args meth c prog_7_method_18_code 5 y_Mk_joinWalk.cls none w_Mk_joinWalk) (hA : ∀ q, s.heap.size ≤ q → A q) : mz_All (mz_V p l e (mz_rm 3 64) s m args below meth c 5 lay.length (mz_sz lay) D mz_cls (mz_G0 ad0 cA0) A (MQ below (va_Qv Q (mz_B D mz_cls ad0 cA0 lay A) A) args s 0 0 A)) (mz_qv lay Q) (I_Mk_joinWalk w h) := by
  obtain ⟨hx, hb, hml, hown, hts, hr, hlk⟩ := F
  unfold I_Mk_joinWalk
  refine mz_All.cons (sd_iload_n hx hb (mz_dg d_Mk_joinWalk 0 0 (.iload_n 1) 1 rfl) rfl) ?_
  refine mz_All.cons (sd_istore_n hx hb (mz_dg d_Mk_joinWalk 1 1 (.istore_n 2) 1 rfl) rfl (by decide)) ?_
  refine mz_All.cons (sd_iconst hx hb (mz_dg d_Mk_joinWalk 2 2 (.iconst (0)) 1 rfl) (by decide)) ?_
  refine mz_All.cons (sd_istore_n hx hb (mz_dg d_Mk_joinWalk 3 3 (.istore_n 3) 1 rfl) rfl (by decide)) ?_
  refine mz_All.cons (sd_iload_n hx hb (mz_dg d_Mk_joinWalk 4 4 (.iload_n 3) 1 rfl) rfl) ?_
  refine mz_All.cons (sd_aload_n hx hb (mz_dg d_Mk_joinWalk 5 5 (.aload_n 0) 1 rfl) rfl) ?_
  refine mz_All.cons (sd_get (k := 4) hx hb hts (mz_inC in_Mk) hown (T := T_Mk) (N := 7) rfl (by decide) (hts (.fieldLink "MazeForms$Maker" 41 "MazeForms$Maker" "reached" "[Z") (List.mem_cons_of_mem _ wm_233)) (fun _ h => h) (mz_dg d_Mk_joinWalk 6 6 (.getfield 41) 3 rfl)) ?_
  refine mz_All.cons (sd_alen hx hb (mz_dg d_Mk_joinWalk 7 9 (.arraylength) 1 rfl)) ?_
  refine mz_All.cons (sd_icmp_ge hx hb (mz_dg d_Mk_joinWalk 8 10 (.if_icmp .ge (46)) 3 rfl) (by decide)) ?_
  refine mz_All.cons (sd_aload_n hx hb (mz_dg d_Mk_joinWalk 9 13 (.aload_n 0) 1 rfl) rfl) ?_
  refine mz_All.cons (sd_iload_n hx hb (mz_dg d_Mk_joinWalk 10 14 (.iload_n 2) 1 rfl) rfl) ?_
  refine mz_All.cons (sd_calli (T := T_Mk) ⟨hx, hb, hml, hown, hts⟩ (met_Mk_isReached w h l) (cwV 1 hts (mz_gV wm_383 wm_385 wm_6 wm_72 wm_386) rfl rfl rfl (by decide) ⟨by decide, by decide⟩) rfl hA rfl (mz_dg d_Mk_joinWalk 11 15 (.invokevirtual 128) 3 rfl)) ?_
  refine mz_All.cons (sd_if_ne hx hb (mz_dg d_Mk_joinWalk 12 18 (.ifCond .ne (38)) 3 rfl) (by decide)) ?_
  refine mz_All.cons (sd_aload_n hx hb (mz_dg d_Mk_joinWalk 13 21 (.aload_n 0) 1 rfl) rfl) ?_
  refine mz_All.cons (sd_iload_n hx hb (mz_dg d_Mk_joinWalk 14 22 (.iload_n 2) 1 rfl) rfl) ?_
  refine mz_All.cons (sd_calli (T := T_Mk) ⟨hx, hb, hml, hown, hts⟩ (met_Mk_traceOf w h l) (cwV 1 hts (mz_gV wm_405 wm_407 wm_7 wm_72 wm_408) rfl rfl rfl (by decide) ⟨by decide, by decide⟩) rfl hA rfl (mz_dg d_Mk_joinWalk 15 23 (.invokevirtual 113) 3 rfl)) ?_
  refine mz_All.cons (sd_istore hx hb (mz_dg d_Mk_joinWalk 16 26 (.istore 4) 2 rfl) (by decide)) ?_
  refine mz_All.cons (sd_aload_n hx hb (mz_dg d_Mk_joinWalk 17 28 (.aload_n 0) 1 rfl) rfl) ?_
  refine mz_All.cons (sd_iload_n hx hb (mz_dg d_Mk_joinWalk 18 29 (.iload_n 2) 1 rfl) rfl) ?_
  refine mz_All.cons (sd_callv (T := T_Mk) ⟨hx, hb, hml, hown, hts⟩ (met_Mk_enter w h l) (cwV 1 hts (mz_gV wm_358 wm_360 wm_4 wm_72 wm_361) rfl rfl rfl (by decide) ⟨by decide, by decide⟩) rfl hA rfl (mz_dg d_Mk_joinWalk 19 30 (.invokevirtual 98) 3 rfl)) ?_
  refine mz_All.cons (sd_aload_n hx hb (mz_dg d_Mk_joinWalk 20 33 (.aload_n 0) 1 rfl) rfl) ?_
  refine mz_All.cons (sd_iload hx hb (mz_dg d_Mk_joinWalk 21 34 (.iload 4) 2 rfl)) ?_
  refine mz_All.cons (sd_callv (T := T_Mk) ⟨hx, hb, hml, hown, hts⟩ (met_Mk_openDoor w h l) (cwV 1 hts (mz_gV wm_409 wm_411 wm_8 wm_72 wm_412) rfl rfl rfl (by decide) ⟨by decide, by decide⟩) rfl hA rfl (mz_dg d_Mk_joinWalk 22 36 (.invokevirtual 91) 3 rfl)) ?_
  refine mz_All.cons (sd_aload_n hx hb (mz_dg d_Mk_joinWalk 23 39 (.aload_n 0) 1 rfl) rfl) ?_
  refine mz_All.cons (sd_get (k := 0) hx hb hts (mz_inC in_Mk) hown (T := T_Mk) (N := 7) rfl (by decide) (hts (.fieldLink "MazeForms$Maker" 9 "MazeForms$Maker" "grid" "LMazeForms$Grid;") (List.mem_cons_of_mem _ wm_229)) (fun _ h => h) (mz_dg d_Mk_joinWalk 24 40 (.getfield 9) 3 rfl)) ?_
  refine mz_All.cons (sd_iload hx hb (mz_dg d_Mk_joinWalk 25 43 (.iload 4) 2 rfl)) ?_
  refine mz_All.cons (sd_iload_n hx hb (mz_dg d_Mk_joinWalk 26 45 (.iload_n 2) 1 rfl) rfl) ?_
  refine mz_All.cons (sd_calli (T := T_Gr) ⟨hx, hb, hml, hown, hts⟩ (met_Gr_otherCell w h l) (cwV 2 hts (mz_gV wm_375 wm_376 wm_377 wm_67 wm_378) rfl rfl rfl (by decide) ⟨by decide, by decide⟩) rfl hA rfl (mz_dg d_Mk_joinWalk 27 46 (.invokevirtual 117) 3 rfl)) ?_
  refine mz_All.cons (sd_istore_n hx hb (mz_dg d_Mk_joinWalk 28 49 (.istore_n 2) 1 rfl) rfl (by decide)) ?_
  refine mz_All.cons (sd_iinc hx hb (mz_dg d_Mk_joinWalk 29 50 (.iinc 3 (1)) 3 rfl) (by decide) (by decide)) ?_
  refine mz_All.cons (sd_goto hx hb (mz_dg d_Mk_joinWalk 30 53 (.goto (-49)) 3 rfl) (by decide)) ?_
  refine mz_All.cons (sd_rv hx hb hr hlk (mz_dg d_Mk_joinWalk 31 56 (.return_) 1 rfl)) ?_
  exact trivial
theorem met_Mk_joinWalk (w h : Nat) (l : Launch) : mz_MV l y_Mk_joinWalk w_Mk_joinWalk 3 64 mz_cls (C_Mk_joinWalk w h) := mz_MV_of (I_Mk_joinWalk w h) (by decide) rfl (len_Mk_joinWalk w h) (ok_Mk_joinWalk w h) (snd_Mk_joinWalk w h l)
set_option maxRecDepth 20000 in
theorem snd_Mk_walkAll (w h : Nat) (l : Launch) (p : Program) (e : Env) (s : State) (m : MethodId) (args : Array Value) (below : List Frame) (meth : Method) (c : Code) (D : va_G) (ad0 : Nat → Nat) (cA0 : Nat → ClassId) (A : Nat → Prop) (lay : List mz_E) (Q : mz_X → Prop) (F : mz_F p s m args meth c prog_7_method_15_code 3 y_Mk_walkAll.cls none w_Mk_walkAll) (hA : ∀ q, s.heap.size ≤ q → A q) : mz_All (mz_V p l e (mz_rm 4 92) s m args below meth c 3 lay.length (mz_sz lay) D mz_cls (mz_G0 ad0 cA0) A (MQ below (va_Qv Q (mz_B D mz_cls ad0 cA0 lay A) A) args s 0 0 A)) (mz_qv lay Q) (I_Mk_walkAll w h) := by
  obtain ⟨hx, hb, hml, hown, hts, hr, hlk⟩ := F
  unfold I_Mk_walkAll
  refine mz_All.cons (sd_aload_n hx hb (mz_dg d_Mk_walkAll 0 0 (.aload_n 0) 1 rfl) rfl) ?_
  refine mz_All.cons (sd_get (k := 0) hx hb hts (mz_inC in_Mk) hown (T := T_Mk) (N := 7) rfl (by decide) (hts (.fieldLink "MazeForms$Maker" 9 "MazeForms$Maker" "grid" "LMazeForms$Grid;") (List.mem_cons_of_mem _ wm_229)) (fun _ h => h) (mz_dg d_Mk_walkAll 1 1 (.getfield 9) 3 rfl)) ?_
  refine mz_All.cons (sd_calli (T := T_Gr) ⟨hx, hb, hml, hown, hts⟩ (met_Gr_firstCell w h l) (cwV 0 hts (mz_gV wm_350 wm_351 wm_352 wm_67 wm_353) rfl rfl rfl (by decide) ⟨by decide, by decide⟩) rfl hA rfl (mz_dg d_Mk_walkAll 2 4 (.invokevirtual 104) 3 rfl)) ?_
  refine mz_All.cons (sd_istore_n hx hb (mz_dg d_Mk_walkAll 3 7 (.istore_n 1) 1 rfl) rfl (by decide)) ?_
  refine mz_All.cons (sd_aload_n hx hb (mz_dg d_Mk_walkAll 4 8 (.aload_n 0) 1 rfl) rfl) ?_
  refine mz_All.cons (sd_iload_n hx hb (mz_dg d_Mk_walkAll 5 9 (.iload_n 1) 1 rfl) rfl) ?_
  refine mz_All.cons (sd_callv (T := T_Mk) ⟨hx, hb, hml, hown, hts⟩ (met_Mk_begin w h l) (cwV 1 hts (mz_gV wm_354 wm_356 wm_3 wm_72 wm_357) rfl rfl rfl (by decide) ⟨by decide, by decide⟩) rfl hA rfl (mz_dg d_Mk_walkAll 6 10 (.invokevirtual 107) 3 rfl)) ?_
  refine mz_All.cons (sd_aload_n hx hb (mz_dg d_Mk_walkAll 7 13 (.aload_n 0) 1 rfl) rfl) ?_
  refine mz_All.cons (sd_get (k := 2) hx hb hts (mz_inC in_Mk) hown (T := T_Mk) (N := 7) rfl (by decide) (hts (.fieldLink "MazeForms$Maker" 19 "MazeForms$Maker" "flood" "LMazeForms$Flood;") (List.mem_cons_of_mem _ wm_231)) (fun _ h => h) (mz_dg d_Mk_walkAll 8 14 (.getfield 19) 3 rfl)) ?_
  refine mz_All.cons (sd_iload_n hx hb (mz_dg d_Mk_walkAll 9 17 (.iload_n 1) 1 rfl) rfl) ?_
  refine mz_All.cons (sd_iconst hx hb (mz_dg d_Mk_walkAll 10 18 (.iconst (1)) 1 rfl) (by decide)) ?_
  refine mz_All.cons (sd_callv (T := T_Fl) ⟨hx, hb, hml, hown, hts⟩ (met_Fl_spread w h l) (cwV 2 hts (mz_gV wm_477 wm_478 wm_479 wm_71 wm_480) rfl rfl rfl (by decide) ⟨by decide, by decide⟩) rfl hA rfl (mz_dg d_Mk_walkAll 11 19 (.invokevirtual 154) 3 rfl)) ?_
  refine mz_All.cons (sd_iconst hx hb (mz_dg d_Mk_walkAll 12 22 (.iconst (0)) 1 rfl) (by decide)) ?_
  refine mz_All.cons (sd_istore_n hx hb (mz_dg d_Mk_walkAll 13 23 (.istore_n 2) 1 rfl) rfl (by decide)) ?_
  refine mz_All.cons (sd_iload_n hx hb (mz_dg d_Mk_walkAll 14 24 (.iload_n 2) 1 rfl) rfl) ?_
  refine mz_All.cons (sd_aload_n hx hb (mz_dg d_Mk_walkAll 15 25 (.aload_n 0) 1 rfl) rfl) ?_
  refine mz_All.cons (sd_get (k := 4) hx hb hts (mz_inC in_Mk) hown (T := T_Mk) (N := 7) rfl (by decide) (hts (.fieldLink "MazeForms$Maker" 41 "MazeForms$Maker" "reached" "[Z") (List.mem_cons_of_mem _ wm_233)) (fun _ h => h) (mz_dg d_Mk_walkAll 16 26 (.getfield 41) 3 rfl)) ?_
  refine mz_All.cons (sd_alen hx hb (mz_dg d_Mk_walkAll 17 29 (.arraylength) 1 rfl)) ?_
  refine mz_All.cons (sd_icmp_ge hx hb (mz_dg d_Mk_walkAll 18 30 (.if_icmp .ge (42)) 3 rfl) (by decide)) ?_
  refine mz_All.cons (sd_aload_n hx hb (mz_dg d_Mk_walkAll 19 33 (.aload_n 0) 1 rfl) rfl) ?_
  refine mz_All.cons (sd_get (k := 2) hx hb hts (mz_inC in_Mk) hown (T := T_Mk) (N := 7) rfl (by decide) (hts (.fieldLink "MazeForms$Maker" 19 "MazeForms$Maker" "flood" "LMazeForms$Flood;") (List.mem_cons_of_mem _ wm_231)) (fun _ h => h) (mz_dg d_Mk_walkAll 20 34 (.getfield 19) 3 rfl)) ?_
  refine mz_All.cons (sd_iload_n hx hb (mz_dg d_Mk_walkAll 21 37 (.iload_n 2) 1 rfl) rfl) ?_
  refine mz_All.cons (sd_calli (T := T_Fl) ⟨hx, hb, hml, hown, hts⟩ (met_Fl_stepsTo w h l) (cwV 1 hts (mz_gV wm_501 wm_492 wm_493 wm_71 wm_494) rfl rfl rfl (by decide) ⟨by decide, by decide⟩) rfl hA rfl (mz_dg d_Mk_walkAll 22 38 (.invokevirtual 160) 3 rfl)) ?_
  refine mz_All.cons (sd_iconst hx hb (mz_dg d_Mk_walkAll 23 41 (.iconst (-1)) 1 rfl) (by decide)) ?_
  refine mz_All.cons (sd_icmp_eq hx hb (mz_dg d_Mk_walkAll 24 42 (.if_icmp .eq (24)) 3 rfl) (by decide)) ?_
  refine mz_All.cons (sd_aload_n hx hb (mz_dg d_Mk_walkAll 25 45 (.aload_n 0) 1 rfl) rfl) ?_
  refine mz_All.cons (sd_iload_n hx hb (mz_dg d_Mk_walkAll 26 46 (.iload_n 2) 1 rfl) rfl) ?_
  refine mz_All.cons (sd_calli (T := T_Mk) ⟨hx, hb, hml, hown, hts⟩ (met_Mk_isReached w h l) (cwV 1 hts (mz_gV wm_383 wm_385 wm_6 wm_72 wm_386) rfl rfl rfl (by decide) ⟨by decide, by decide⟩) rfl hA rfl (mz_dg d_Mk_walkAll 27 47 (.invokevirtual 128) 3 rfl)) ?_
  refine mz_All.cons (sd_if_ne hx hb (mz_dg d_Mk_walkAll 28 50 (.ifCond .ne (16)) 3 rfl) (by decide)) ?_
  refine mz_All.cons (sd_aload_n hx hb (mz_dg d_Mk_walkAll 29 53 (.aload_n 0) 1 rfl) rfl) ?_
  refine mz_All.cons (sd_iload_n hx hb (mz_dg d_Mk_walkAll 30 54 (.iload_n 2) 1 rfl) rfl) ?_
  refine mz_All.cons (sd_calli (T := T_Mk) ⟨hx, hb, hml, hown, hts⟩ (met_Mk_walkToTree w h l) (cwV 1 hts (mz_gV wm_502 wm_504 wm_18 wm_72 wm_505) rfl rfl rfl (by decide) ⟨by decide, by decide⟩) rfl hA rfl (mz_dg d_Mk_walkAll 31 55 (.invokevirtual 163) 3 rfl)) ?_
  refine mz_All.cons (sd_if_eq hx hb (mz_dg d_Mk_walkAll 32 58 (.ifCond .eq (8)) 3 rfl) (by decide)) ?_
  refine mz_All.cons (sd_aload_n hx hb (mz_dg d_Mk_walkAll 33 61 (.aload_n 0) 1 rfl) rfl) ?_
  refine mz_All.cons (sd_iload_n hx hb (mz_dg d_Mk_walkAll 34 62 (.iload_n 2) 1 rfl) rfl) ?_
  refine mz_All.cons (sd_callv (T := T_Mk) ⟨hx, hb, hml, hown, hts⟩ (met_Mk_joinWalk w h l) (cwV 1 hts (mz_gV wm_511 wm_513 wm_20 wm_72 wm_514) rfl rfl rfl (by decide) ⟨by decide, by decide⟩) rfl hA rfl (mz_dg d_Mk_walkAll 35 63 (.invokevirtual 166) 3 rfl)) ?_
  refine mz_All.cons (sd_iinc hx hb (mz_dg d_Mk_walkAll 36 66 (.iinc 2 (1)) 3 rfl) (by decide) (by decide)) ?_
  refine mz_All.cons (sd_goto hx hb (mz_dg d_Mk_walkAll 37 69 (.goto (-45)) 3 rfl) (by decide)) ?_
  refine mz_All.cons (sd_rv hx hb hr hlk (mz_dg d_Mk_walkAll 38 72 (.return_) 1 rfl)) ?_
  exact trivial
theorem met_Mk_walkAll (w h : Nat) (l : Launch) : mz_MV l y_Mk_walkAll w_Mk_walkAll 4 92 mz_cls (C_Mk_walkAll w h) := mz_MV_of (I_Mk_walkAll w h) (by decide) rfl (len_Mk_walkAll w h) (ok_Mk_walkAll w h) (snd_Mk_walkAll w h l)
set_option maxRecDepth 20000 in
theorem snd_Mk_comb (w h : Nat) (l : Launch) (p : Program) (e : Env) (s : State) (m : MethodId) (args : Array Value) (below : List Frame) (meth : Method) (c : Code) (D : va_G) (ad0 : Nat → Nat) (cA0 : Nat → ClassId) (A : Nat → Prop) (lay : List mz_E) (Q : mz_X → Prop) (F : mz_F p s m args meth c prog_7_method_19_code 2 y_Mk_comb.cls none w_Mk_comb) (hA : ∀ q, s.heap.size ≤ q → A q) : mz_All (mz_V p l e (mz_rm 3 64) s m args below meth c 2 lay.length (mz_sz lay) D mz_cls (mz_G0 ad0 cA0) A (MQ below (va_Qv Q (mz_B D mz_cls ad0 cA0 lay A) A) args s 0 0 A)) (mz_qv lay Q) (I_Mk_comb w h) := by
  obtain ⟨hx, hb, hml, hown, hts, hr, hlk⟩ := F
  unfold I_Mk_comb
  refine mz_All.cons (sd_iconst hx hb (mz_dg d_Mk_comb 0 0 (.iconst (0)) 1 rfl) (by decide)) ?_
  refine mz_All.cons (sd_istore_n hx hb (mz_dg d_Mk_comb 1 1 (.istore_n 1) 1 rfl) rfl (by decide)) ?_
  refine mz_All.cons (sd_iload_n hx hb (mz_dg d_Mk_comb 2 2 (.iload_n 1) 1 rfl) rfl) ?_
  refine mz_All.cons (sd_aload_n hx hb (mz_dg d_Mk_comb 3 3 (.aload_n 0) 1 rfl) rfl) ?_
  refine mz_All.cons (sd_get (k := 4) hx hb hts (mz_inC in_Mk) hown (T := T_Mk) (N := 7) rfl (by decide) (hts (.fieldLink "MazeForms$Maker" 41 "MazeForms$Maker" "reached" "[Z") (List.mem_cons_of_mem _ wm_233)) (fun _ h => h) (mz_dg d_Mk_comb 4 4 (.getfield 41) 3 rfl)) ?_
  refine mz_All.cons (sd_alen hx hb (mz_dg d_Mk_comb 5 7 (.arraylength) 1 rfl)) ?_
  refine mz_All.cons (sd_icmp_ge hx hb (mz_dg d_Mk_comb 6 8 (.if_icmp .ge (59)) 3 rfl) (by decide)) ?_
  refine mz_All.cons (sd_aload_n hx hb (mz_dg d_Mk_comb 7 11 (.aload_n 0) 1 rfl) rfl) ?_
  refine mz_All.cons (sd_get (k := 3) hx hb hts (mz_inC in_Mk) hown (T := T_Mk) (N := 7) rfl (by decide) (hts (.fieldLink "MazeForms$Maker" 34 "MazeForms$Maker" "choice" "LMazeForms$DoorRow;") (List.mem_cons_of_mem _ wm_232)) (fun _ h => h) (mz_dg d_Mk_comb 8 12 (.getfield 34) 3 rfl)) ?_
  refine mz_All.cons (sd_callv (T := T_Dr) ⟨hx, hb, hml, hown, hts⟩ (met_Dr_clear w h l) (cwV 0 hts (mz_gV wm_367 wm_368 wm_369 wm_74 wm_370) rfl rfl rfl (by decide) ⟨by decide, by decide⟩) rfl hA rfl (mz_dg d_Mk_comb 9 15 (.invokevirtual 71) 3 rfl)) ?_
  refine mz_All.cons (sd_aload_n hx hb (mz_dg d_Mk_comb 10 18 (.aload_n 0) 1 rfl) rfl) ?_
  refine mz_All.cons (sd_get (k := 3) hx hb hts (mz_inC in_Mk) hown (T := T_Mk) (N := 7) rfl (by decide) (hts (.fieldLink "MazeForms$Maker" 34 "MazeForms$Maker" "choice" "LMazeForms$DoorRow;") (List.mem_cons_of_mem _ wm_232)) (fun _ h => h) (mz_dg d_Mk_comb 11 19 (.getfield 34) 3 rfl)) ?_
  refine mz_All.cons (sd_aload_n hx hb (mz_dg d_Mk_comb 12 22 (.aload_n 0) 1 rfl) rfl) ?_
  refine mz_All.cons (sd_get (k := 0) hx hb hts (mz_inC in_Mk) hown (T := T_Mk) (N := 7) rfl (by decide) (hts (.fieldLink "MazeForms$Maker" 9 "MazeForms$Maker" "grid" "LMazeForms$Grid;") (List.mem_cons_of_mem _ wm_229)) (fun _ h => h) (mz_dg d_Mk_comb 13 23 (.getfield 9) 3 rfl)) ?_
  refine mz_All.cons (sd_iload_n hx hb (mz_dg d_Mk_comb 14 26 (.iload_n 1) 1 rfl) rfl) ?_
  refine mz_All.cons (sd_iconst hx hb (mz_dg d_Mk_comb 15 27 (.iconst (0)) 1 rfl) (by decide)) ?_
  refine mz_All.cons (sd_calli (T := T_Gr) ⟨hx, hb, hml, hown, hts⟩ (met_Gr_doorOn w h l) (cwV 2 hts (mz_gV wm_371 wm_372 wm_373 wm_67 wm_374) rfl rfl rfl (by decide) ⟨by decide, by decide⟩) rfl hA rfl (mz_dg d_Mk_comb 16 28 (.invokevirtual 125) 3 rfl)) ?_
  refine mz_All.cons (sd_callv (T := T_Dr) ⟨hx, hb, hml, hown, hts⟩ (met_Dr_add w h l) (cwV 1 hts (mz_gV wm_387 wm_388 wm_389 wm_74 wm_390) rfl rfl rfl (by decide) ⟨by decide, by decide⟩) rfl hA rfl (mz_dg d_Mk_comb 17 31 (.invokevirtual 81) 3 rfl)) ?_
  refine mz_All.cons (sd_aload_n hx hb (mz_dg d_Mk_comb 18 34 (.aload_n 0) 1 rfl) rfl) ?_
  refine mz_All.cons (sd_get (k := 3) hx hb hts (mz_inC in_Mk) hown (T := T_Mk) (N := 7) rfl (by decide) (hts (.fieldLink "MazeForms$Maker" 34 "MazeForms$Maker" "choice" "LMazeForms$DoorRow;") (List.mem_cons_of_mem _ wm_232)) (fun _ h => h) (mz_dg d_Mk_comb 19 35 (.getfield 34) 3 rfl)) ?_
  refine mz_All.cons (sd_aload_n hx hb (mz_dg d_Mk_comb 20 38 (.aload_n 0) 1 rfl) rfl) ?_
  refine mz_All.cons (sd_get (k := 0) hx hb hts (mz_inC in_Mk) hown (T := T_Mk) (N := 7) rfl (by decide) (hts (.fieldLink "MazeForms$Maker" 9 "MazeForms$Maker" "grid" "LMazeForms$Grid;") (List.mem_cons_of_mem _ wm_229)) (fun _ h => h) (mz_dg d_Mk_comb 21 39 (.getfield 9) 3 rfl)) ?_
  refine mz_All.cons (sd_iload_n hx hb (mz_dg d_Mk_comb 22 42 (.iload_n 1) 1 rfl) rfl) ?_
  refine mz_All.cons (sd_iconst hx hb (mz_dg d_Mk_comb 23 43 (.iconst (3)) 1 rfl) (by decide)) ?_
  refine mz_All.cons (sd_calli (T := T_Gr) ⟨hx, hb, hml, hown, hts⟩ (met_Gr_doorOn w h l) (cwV 2 hts (mz_gV wm_371 wm_372 wm_373 wm_67 wm_374) rfl rfl rfl (by decide) ⟨by decide, by decide⟩) rfl hA rfl (mz_dg d_Mk_comb 24 44 (.invokevirtual 125) 3 rfl)) ?_
  refine mz_All.cons (sd_callv (T := T_Dr) ⟨hx, hb, hml, hown, hts⟩ (met_Dr_add w h l) (cwV 1 hts (mz_gV wm_387 wm_388 wm_389 wm_74 wm_390) rfl rfl rfl (by decide) ⟨by decide, by decide⟩) rfl hA rfl (mz_dg d_Mk_comb 25 47 (.invokevirtual 81) 3 rfl)) ?_
  refine mz_All.cons (sd_aload_n hx hb (mz_dg d_Mk_comb 26 50 (.aload_n 0) 1 rfl) rfl) ?_
  refine mz_All.cons (sd_aload_n hx hb (mz_dg d_Mk_comb 27 51 (.aload_n 0) 1 rfl) rfl) ?_
  refine mz_All.cons (sd_get (k := 3) hx hb hts (mz_inC in_Mk) hown (T := T_Mk) (N := 7) rfl (by decide) (hts (.fieldLink "MazeForms$Maker" 34 "MazeForms$Maker" "choice" "LMazeForms$DoorRow;") (List.mem_cons_of_mem _ wm_232)) (fun _ h => h) (mz_dg d_Mk_comb 28 52 (.getfield 34) 3 rfl)) ?_
  refine mz_All.cons (sd_calli (T := T_Dr) ⟨hx, hb, hml, hown, hts⟩ (met_Dr_draw w h l) (cwV 0 hts (mz_gV wm_391 wm_392 wm_393 wm_74 wm_394) rfl rfl rfl (by decide) ⟨by decide, by decide⟩) rfl hA rfl (mz_dg d_Mk_comb 29 55 (.invokevirtual 88) 3 rfl)) ?_
  refine mz_All.cons (sd_callv (T := T_Mk) ⟨hx, hb, hml, hown, hts⟩ (met_Mk_openDoor w h l) (cwV 1 hts (mz_gV wm_409 wm_411 wm_8 wm_72 wm_412) rfl rfl rfl (by decide) ⟨by decide, by decide⟩) rfl hA rfl (mz_dg d_Mk_comb 30 58 (.invokevirtual 91) 3 rfl)) ?_
  refine mz_All.cons (sd_iinc hx hb (mz_dg d_Mk_comb 31 61 (.iinc 1 (1)) 3 rfl) (by decide) (by decide)) ?_
  refine mz_All.cons (sd_goto hx hb (mz_dg d_Mk_comb 32 64 (.goto (-62)) 3 rfl) (by decide)) ?_
  refine mz_All.cons (sd_rv hx hb hr hlk (mz_dg d_Mk_comb 33 67 (.return_) 1 rfl)) ?_
  exact trivial
theorem met_Mk_comb (w h : Nat) (l : Launch) : mz_MV l y_Mk_comb w_Mk_comb 3 64 mz_cls (C_Mk_comb w h) := mz_MV_of (I_Mk_comb w h) (by decide) rfl (len_Mk_comb w h) (ok_Mk_comb w h) (snd_Mk_comb w h l)
set_option maxRecDepth 20000 in
theorem snd_Mk_openMore (w h : Nat) (l : Launch) (p : Program) (e : Env) (s : State) (m : MethodId) (args : Array Value) (below : List Frame) (meth : Method) (c : Code) (D : va_G) (ad0 : Nat → Nat) (cA0 : Nat → ClassId) (A : Nat → Prop) (lay : List mz_E) (Q : Int32 → mz_X → Prop) (F : mz_F p s m args meth c prog_7_method_3_code 4 y_Mk_openMore.cls (some .int) w_Mk_openMore) (hA : ∀ q, s.heap.size ≤ q → A q) : mz_All (mz_V p l e (mz_rm 3 64) s m args below meth c 4 lay.length (mz_sz lay) D mz_cls (mz_G0 ad0 cA0) A (MQ below (va_Qi Q (mz_B D mz_cls ad0 cA0 lay A) A) args s 0 0 A)) (mz_qi lay Q) (I_Mk_openMore w h) := by
  obtain ⟨hx, hb, hml, hown, hts, hr, hlk⟩ := F
  unfold I_Mk_openMore
  refine mz_All.cons (sd_aload_n hx hb (mz_dg d_Mk_openMore 0 0 (.aload_n 0) 1 rfl) rfl) ?_
  refine mz_All.cons (sd_iconst hx hb (mz_dg d_Mk_openMore 1 1 (.iconst (0)) 1 rfl) (by decide)) ?_
  refine mz_All.cons (sd_puti (k := 6) hx hb hts (mz_inC in_Mk) ty_Mk ty_Mk_ok nm_Mk hown (T := T_Mk) (N := 7) rfl (by decide) (hts (.fieldLink "MazeForms$Maker" 52 "MazeForms$Maker" "opened" "I") (List.mem_cons_of_mem _ wm_235)) (fun _ h => h) rfl rfl (mz_dg d_Mk_openMore 2 2 (.putfield 52) 3 rfl)) ?_
  refine mz_All.cons (sd_iconst hx hb (mz_dg d_Mk_openMore 3 5 (.iconst (0)) 1 rfl) (by decide)) ?_
  refine mz_All.cons (sd_istore_n hx hb (mz_dg d_Mk_openMore 4 6 (.istore_n 2) 1 rfl) rfl (by decide)) ?_
  refine mz_All.cons (sd_iload_n hx hb (mz_dg d_Mk_openMore 5 7 (.iload_n 2) 1 rfl) rfl) ?_
  refine mz_All.cons (sd_iload_n hx hb (mz_dg d_Mk_openMore 6 8 (.iload_n 1) 1 rfl) rfl) ?_
  refine mz_All.cons (sd_icmp_ge hx hb (mz_dg d_Mk_openMore 7 9 (.if_icmp .ge (80)) 3 rfl) (by decide)) ?_
  refine mz_All.cons (sd_aload_n hx hb (mz_dg d_Mk_openMore 8 12 (.aload_n 0) 1 rfl) rfl) ?_
  refine mz_All.cons (sd_get (k := 3) hx hb hts (mz_inC in_Mk) hown (T := T_Mk) (N := 7) rfl (by decide) (hts (.fieldLink "MazeForms$Maker" 34 "MazeForms$Maker" "choice" "LMazeForms$DoorRow;") (List.mem_cons_of_mem _ wm_232)) (fun _ h => h) (mz_dg d_Mk_openMore 9 13 (.getfield 34) 3 rfl)) ?_
  refine mz_All.cons (sd_callv (T := T_Dr) ⟨hx, hb, hml, hown, hts⟩ (met_Dr_clear w h l) (cwV 0 hts (mz_gV wm_367 wm_368 wm_369 wm_74 wm_370) rfl rfl rfl (by decide) ⟨by decide, by decide⟩) rfl hA rfl (mz_dg d_Mk_openMore 10 16 (.invokevirtual 71) 3 rfl)) ?_
  refine mz_All.cons (sd_iconst hx hb (mz_dg d_Mk_openMore 11 19 (.iconst (0)) 1 rfl) (by decide)) ?_
  refine mz_All.cons (sd_istore_n hx hb (mz_dg d_Mk_openMore 12 20 (.istore_n 3) 1 rfl) rfl (by decide)) ?_
  refine mz_All.cons (sd_iload_n hx hb (mz_dg d_Mk_openMore 13 21 (.iload_n 3) 1 rfl) rfl) ?_
  refine mz_All.cons (sd_aload_n hx hb (mz_dg d_Mk_openMore 14 22 (.aload_n 0) 1 rfl) rfl) ?_
  refine mz_All.cons (sd_get (k := 0) hx hb hts (mz_inC in_Mk) hown (T := T_Mk) (N := 7) rfl (by decide) (hts (.fieldLink "MazeForms$Maker" 9 "MazeForms$Maker" "grid" "LMazeForms$Grid;") (List.mem_cons_of_mem _ wm_229)) (fun _ h => h) (mz_dg d_Mk_openMore 15 23 (.getfield 9) 3 rfl)) ?_
  refine mz_All.cons (sd_calli (T := T_Gr) ⟨hx, hb, hml, hown, hts⟩ (met_Gr_doorCount w h l) (cwV 0 hts (mz_gV wm_425 wm_426 wm_427 wm_67 wm_428) rfl rfl rfl (by decide) ⟨by decide, by decide⟩) rfl hA rfl (mz_dg d_Mk_openMore 16 26 (.invokevirtual 74) 3 rfl)) ?_
  refine mz_All.cons (sd_icmp_ge hx hb (mz_dg d_Mk_openMore 17 29 (.if_icmp .ge (28)) 3 rfl) (by decide)) ?_
  refine mz_All.cons (sd_aload_n hx hb (mz_dg d_Mk_openMore 18 32 (.aload_n 0) 1 rfl) rfl) ?_
  refine mz_All.cons (sd_get (k := 0) hx hb hts (mz_inC in_Mk) hown (T := T_Mk) (N := 7) rfl (by decide) (hts (.fieldLink "MazeForms$Maker" 9 "MazeForms$Maker" "grid" "LMazeForms$Grid;") (List.mem_cons_of_mem _ wm_229)) (fun _ h => h) (mz_dg d_Mk_openMore 19 33 (.getfield 9) 3 rfl)) ?_
  refine mz_All.cons (sd_iload_n hx hb (mz_dg d_Mk_openMore 20 36 (.iload_n 3) 1 rfl) rfl) ?_
  refine mz_All.cons (sd_calli (T := T_Gr) ⟨hx, hb, hml, hown, hts⟩ (met_Gr_isOpen w h l) (cwV 1 hts (mz_gV wm_543 wm_497 wm_498 wm_67 wm_499) rfl rfl rfl (by decide) ⟨by decide, by decide⟩) rfl hA rfl (mz_dg d_Mk_openMore 21 37 (.invokevirtual 77) 3 rfl)) ?_
  refine mz_All.cons (sd_if_ne hx hb (mz_dg d_Mk_openMore 22 40 (.ifCond .ne (11)) 3 rfl) (by decide)) ?_
  refine mz_All.cons (sd_aload_n hx hb (mz_dg d_Mk_openMore 23 43 (.aload_n 0) 1 rfl) rfl) ?_
  refine mz_All.cons (sd_get (k := 3) hx hb hts (mz_inC in_Mk) hown (T := T_Mk) (N := 7) rfl (by decide) (hts (.fieldLink "MazeForms$Maker" 34 "MazeForms$Maker" "choice" "LMazeForms$DoorRow;") (List.mem_cons_of_mem _ wm_232)) (fun _ h => h) (mz_dg d_Mk_openMore 24 44 (.getfield 34) 3 rfl)) ?_
  refine mz_All.cons (sd_iload_n hx hb (mz_dg d_Mk_openMore 25 47 (.iload_n 3) 1 rfl) rfl) ?_
  refine mz_All.cons (sd_callv (T := T_Dr) ⟨hx, hb, hml, hown, hts⟩ (met_Dr_add w h l) (cwV 1 hts (mz_gV wm_387 wm_388 wm_389 wm_74 wm_390) rfl rfl rfl (by decide) ⟨by decide, by decide⟩) rfl hA rfl (mz_dg d_Mk_openMore 26 48 (.invokevirtual 81) 3 rfl)) ?_
  refine mz_All.cons (sd_iinc hx hb (mz_dg d_Mk_openMore 27 51 (.iinc 3 (1)) 3 rfl) (by decide) (by decide)) ?_
  refine mz_All.cons (sd_goto hx hb (mz_dg d_Mk_openMore 28 54 (.goto (-33)) 3 rfl) (by decide)) ?_
  refine mz_All.cons (sd_aload_n hx hb (mz_dg d_Mk_openMore 29 57 (.aload_n 0) 1 rfl) rfl) ?_
  refine mz_All.cons (sd_get (k := 3) hx hb hts (mz_inC in_Mk) hown (T := T_Mk) (N := 7) rfl (by decide) (hts (.fieldLink "MazeForms$Maker" 34 "MazeForms$Maker" "choice" "LMazeForms$DoorRow;") (List.mem_cons_of_mem _ wm_232)) (fun _ h => h) (mz_dg d_Mk_openMore 30 58 (.getfield 34) 3 rfl)) ?_
  refine mz_All.cons (sd_calli (T := T_Dr) ⟨hx, hb, hml, hown, hts⟩ (met_Dr_count w h l) (cwV 0 hts (mz_gV wm_441 wm_442 wm_443 wm_74 wm_444) rfl rfl rfl (by decide) ⟨by decide, by decide⟩) rfl hA rfl (mz_dg d_Mk_openMore 31 61 (.invokevirtual 85) 3 rfl)) ?_
  refine mz_All.cons (sd_if_ne hx hb (mz_dg d_Mk_openMore 32 64 (.ifCond .ne (8)) 3 rfl) (by decide)) ?_
  refine mz_All.cons (sd_aload_n hx hb (mz_dg d_Mk_openMore 33 67 (.aload_n 0) 1 rfl) rfl) ?_
  refine mz_All.cons (sd_get (k := 6) hx hb hts (mz_inC in_Mk) hown (T := T_Mk) (N := 7) rfl (by decide) (hts (.fieldLink "MazeForms$Maker" 52 "MazeForms$Maker" "opened" "I") (List.mem_cons_of_mem _ wm_235)) (fun _ h => h) (mz_dg d_Mk_openMore 34 68 (.getfield 52) 3 rfl)) ?_
  refine mz_All.cons (sd_ri hx hb hr hlk (mz_dg d_Mk_openMore 35 71 (.ireturn) 1 rfl)) ?_
  refine mz_All.cons (sd_aload_n hx hb (mz_dg d_Mk_openMore 36 72 (.aload_n 0) 1 rfl) rfl) ?_
  refine mz_All.cons (sd_aload_n hx hb (mz_dg d_Mk_openMore 37 73 (.aload_n 0) 1 rfl) rfl) ?_
  refine mz_All.cons (sd_get (k := 3) hx hb hts (mz_inC in_Mk) hown (T := T_Mk) (N := 7) rfl (by decide) (hts (.fieldLink "MazeForms$Maker" 34 "MazeForms$Maker" "choice" "LMazeForms$DoorRow;") (List.mem_cons_of_mem _ wm_232)) (fun _ h => h) (mz_dg d_Mk_openMore 38 74 (.getfield 34) 3 rfl)) ?_
  refine mz_All.cons (sd_calli (T := T_Dr) ⟨hx, hb, hml, hown, hts⟩ (met_Dr_draw w h l) (cwV 0 hts (mz_gV wm_391 wm_392 wm_393 wm_74 wm_394) rfl rfl rfl (by decide) ⟨by decide, by decide⟩) rfl hA rfl (mz_dg d_Mk_openMore 39 77 (.invokevirtual 88) 3 rfl)) ?_
  refine mz_All.cons (sd_callv (T := T_Mk) ⟨hx, hb, hml, hown, hts⟩ (met_Mk_openDoor w h l) (cwV 1 hts (mz_gV wm_409 wm_411 wm_8 wm_72 wm_412) rfl rfl rfl (by decide) ⟨by decide, by decide⟩) rfl hA rfl (mz_dg d_Mk_openMore 40 80 (.invokevirtual 91) 3 rfl)) ?_
  refine mz_All.cons (sd_iinc hx hb (mz_dg d_Mk_openMore 41 83 (.iinc 2 (1)) 3 rfl) (by decide) (by decide)) ?_
  refine mz_All.cons (sd_goto hx hb (mz_dg d_Mk_openMore 42 86 (.goto (-79)) 3 rfl) (by decide)) ?_
  refine mz_All.cons (sd_aload_n hx hb (mz_dg d_Mk_openMore 43 89 (.aload_n 0) 1 rfl) rfl) ?_
  refine mz_All.cons (sd_get (k := 6) hx hb hts (mz_inC in_Mk) hown (T := T_Mk) (N := 7) rfl (by decide) (hts (.fieldLink "MazeForms$Maker" 52 "MazeForms$Maker" "opened" "I") (List.mem_cons_of_mem _ wm_235)) (fun _ h => h) (mz_dg d_Mk_openMore 44 90 (.getfield 52) 3 rfl)) ?_
  refine mz_All.cons (sd_ri hx hb hr hlk (mz_dg d_Mk_openMore 45 93 (.ireturn) 1 rfl)) ?_
  exact trivial
theorem met_Mk_openMore (w h : Nat) (l : Launch) : mz_MI l y_Mk_openMore w_Mk_openMore 3 64 mz_cls (C_Mk_openMore w h) := mz_MI_of (I_Mk_openMore w h) (by decide) rfl (len_Mk_openMore w h) (ok_Mk_openMore w h) (snd_Mk_openMore w h l)
