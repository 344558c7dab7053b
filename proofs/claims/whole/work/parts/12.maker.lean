/-- Maker (place 12, opened is its field 6), reached (place 16), trace (place 17) -/
def zm_odX (X : mz_X) (d : Int32) : mz_X := (mz_up (zg_setX X d 1).1 12 6 ((zg_setX X d 1).1 12 6 + 1), (zg_setX X d 1).2)
def zm_od (w h : Nat) (X : mz_X) (d : Int32) : mz_X := match zg_setB w h X d 1 with
  | true => zm_odX X d
  | false => X
def zm_en (w h : Nat) (X : mz_X) (c : Int32) : mz_X := match mz_lt c (w * h) with
  | true => (mz_up X.1 16 c.toNatClampNeg 1, X.2)
  | false => X
def zm_b0 (X : mz_X) (k : Nat) : mz_X := (mz_fil (mz_fil X.1 16 k 0) 17 k (-1), X.2)
def zm_beg (w h : Nat) (X : mz_X) (c : Int32) : mz_X := zm_en w h (zm_b0 X (w * h)) c
def zm_isR (w h : Nat) (X : mz_X) (c : Int32) : Bool := mz_lt c (w * h) && !decide (X.1 16 c.toNatClampNeg = 0)
def zm_tr (w h : Nat) (X : mz_X) (c : Int32) : Int32 := match mz_lt c (w * h) with
  | true => X.1 17 c.toNatClampNeg
  | false => -1
def zm_stT (w h : Nat) (X : mz_X) (c m : Int32) : mz_X := match mz_lt c (w * h) with
  | true => (mz_up X.1 17 c.toNatClampNeg m, X.2)
  | false => X
/-- offers -/
def zm_uB (w h : Nat) (X : mz_X) (c : Int32) (s : Nat) : Bool := !decide (zg_on w h X c (nI s) = -1) && !zm_isR w h X (zg_oth w h X (zg_on w h X c (nI s)) c)
def zm_uS (w h : Nat) (X : mz_X) (c : Int32) (s : Nat) : mz_X := match zm_uB w h X c s with
  | true => zr_add w h X (zg_on w h X c (nI s))
  | false => X
def zm_u (w h : Nat) (X : mz_X) (c : Int32) (k : Nat) : mz_X := match k with
  | 0 => zr_clr X
  | s + 1 => zm_uS w h (zm_u w h X c s) c s
def zm_a (w h : Nat) (X : mz_X) (c : Int32) (k : Nat) : mz_X := match k with
  | 0 => zr_clr X
  | s + 1 => zr_add w h (zm_a w h X c s) (zg_on w h (zm_a w h X c s) c (nI s))
def zm_rB (w h : Nat) (X : mz_X) (d : Nat) : Bool := !decide (zm_isR w h X (zg_les w h X (nI d)) = zm_isR w h X (zg_gre w h X (nI d)))
def zm_rS (w h : Nat) (X : mz_X) (d : Nat) : mz_X := match zm_rB w h X d with
  | true => zr_add w h X (nI d)
  | false => X
def zm_r (w h : Nat) (X : mz_X) (k : Nat) : mz_X := match k with
  | 0 => zr_clr X
  | s + 1 => zm_rS w h (zm_r w h X s) s
def zm_cS (w h : Nat) (X : mz_X) (d : Nat) : mz_X := match zg_open w h X (nI d) with
  | true => X
  | false => zr_add w h X (nI d)
def zm_c (w h : Nat) (X : mz_X) (k : Nat) : mz_X := match k with
  | 0 => zr_clr X
  | s + 1 => zm_cS w h (zm_c w h X s) s
def C_Mk_openDoor (w h : Nat) : mz_CV := fun lay as X Q => match as with
  | [.ref 12, .int d] => lay = mz_lay w h ∧ mz_geo w h ∧ Q (zm_od w h X d)
  | _ => False
def C_Mk_enter (w h : Nat) : mz_CV := fun lay as X Q => match as with
  | [.ref 12, .int c] => lay = mz_lay w h ∧ mz_geo w h ∧ Q (zm_en w h X c)
  | _ => False
def C_Mk_begin (w h : Nat) : mz_CV := fun lay as X Q => match as with
  | [.ref 12, .int c] => lay = mz_lay w h ∧ mz_geo w h ∧ Q (zm_beg w h X c)
  | _ => False
def C_Mk_isReached (w h : Nat) : mz_CI := fun lay as X Q => match as with
  | [.ref 12, .int c] => lay = mz_lay w h ∧ mz_geo w h ∧ Q (mz_b (zm_isR w h X c)) X
  | _ => False
def C_Mk_traceOf (w h : Nat) : mz_CI := fun lay as X Q => match as with
  | [.ref 12, .int c] => lay = mz_lay w h ∧ mz_geo w h ∧ Q (zm_tr w h X c) X
  | _ => False
def C_Mk_setTrace (w h : Nat) : mz_CV := fun lay as X Q => match as with
  | [.ref 12, .int c, .int m] => lay = mz_lay w h ∧ mz_geo w h ∧ Q (zm_stT w h X c m)
  | _ => False
def C_Mk_offerUnreached (w h : Nat) : mz_CV := fun lay as X Q => match as with
  | [.ref 12, .int c] => lay = mz_lay w h ∧ mz_geo w h ∧ Q (zm_u w h X c 4)
  | _ => False
def C_Mk_offerAll (w h : Nat) : mz_CV := fun lay as X Q => match as with
  | [.ref 12, .int c] => lay = mz_lay w h ∧ mz_geo w h ∧ Q (zm_a w h X c 4)
  | _ => False
def C_Mk_offerRim (w h : Nat) : mz_CV := fun lay as X Q => match as with
  | [.ref 12] => lay = mz_lay w h ∧ mz_geo w h ∧ ∃ D : Nat, D ≤ mz_dn w h ∧ X.1 1 7 = nI D ∧ Q (zm_r w h X D)
  | _ => False
def y_Mk_openDoor : MethodName := ⟨"MazeForms$Maker", "openDoor", "(I)V"⟩
abbrev w_Mk_openDoor : List Cond := .code y_Mk_openDoor prog_7_method_4_code 2 none :: mz_tb
def dl_Mk_openDoor : List (Nat × ClassFile.Instr × Nat) := [(0, .aload_n 0, 1), (1, .getfield 9, 3), (4, .iload_n 1, 1), (5, .iconst (1), 1), (6, .invokevirtual 94, 3), (9, .ifCond .eq (13), 3), (12, .aload_n 0, 1), (13, .dup, 1), (14, .getfield 52, 3), (17, .iconst (1), 1), (18, .iadd, 1), (19, .putfield 52, 3), (22, .return_, 1)]
theorem d_Mk_openDoor : mz_dec prog_7_method_4_code dl_Mk_openDoor = true := by decide +kernel
def y_Mk_enter : MethodName := ⟨"MazeForms$Maker", "enter", "(I)V"⟩
abbrev w_Mk_enter : List Cond := .code y_Mk_enter prog_7_method_6_code 2 none :: mz_tb
def dl_Mk_enter : List (Nat × ClassFile.Instr × Nat) := [(0, .aload_n 0, 1), (1, .getfield 9, 3), (4, .iload_n 1, 1), (5, .invokevirtual 101, 3), (8, .ifCond .eq (10), 3), (11, .aload_n 0, 1), (12, .getfield 41, 3), (15, .iload_n 1, 1), (16, .iconst (1), 1), (17, .bastore, 1), (18, .return_, 1)]
theorem d_Mk_enter : mz_dec prog_7_method_6_code dl_Mk_enter = true := by decide +kernel
def y_Mk_begin : MethodName := ⟨"MazeForms$Maker", "begin", "(I)V"⟩
abbrev w_Mk_begin : List Cond := .code y_Mk_begin prog_7_method_5_code 3 none :: mz_tb
def dl_Mk_begin : List (Nat × ClassFile.Instr × Nat) := [(0, .iconst (0), 1), (1, .istore_n 2, 1), (2, .iload_n 2, 1), (3, .aload_n 0, 1), (4, .getfield 41, 3), (7, .arraylength, 1), (8, .if_icmp .ge (23), 3), (11, .aload_n 0, 1), (12, .getfield 41, 3), (15, .iload_n 2, 1), (16, .iconst (0), 1), (17, .bastore, 1), (18, .aload_n 0, 1), (19, .getfield 45, 3), (22, .iload_n 2, 1), (23, .iconst (-1), 1), (24, .iastore, 1), (25, .iinc 2 (1), 3), (28, .goto (-26), 3), (31, .aload_n 0, 1), (32, .iload_n 1, 1), (33, .invokevirtual 98, 3), (36, .return_, 1)]
theorem d_Mk_begin : mz_dec prog_7_method_5_code dl_Mk_begin = true := by decide +kernel
def y_Mk_isReached : MethodName := ⟨"MazeForms$Maker", "isReached", "(I)Z"⟩
abbrev w_Mk_isReached : List Cond := .code y_Mk_isReached prog_7_method_7_code 2 (some .boolean) :: mz_tb
def dl_Mk_isReached : List (Nat × ClassFile.Instr × Nat) := [(0, .aload_n 0, 1), (1, .getfield 9, 3), (4, .iload_n 1, 1), (5, .invokevirtual 101, 3), (8, .ifCond .eq (16), 3), (11, .aload_n 0, 1), (12, .getfield 41, 3), (15, .iload_n 1, 1), (16, .baload, 1), (17, .ifCond .eq (7), 3), (20, .iconst (1), 1), (21, .goto (4), 3), (24, .iconst (0), 1), (25, .ireturn, 1)]
theorem d_Mk_isReached : mz_dec prog_7_method_7_code dl_Mk_isReached = true := by decide +kernel
def y_Mk_traceOf : MethodName := ⟨"MazeForms$Maker", "traceOf", "(I)I"⟩
abbrev w_Mk_traceOf : List Cond := .code y_Mk_traceOf prog_7_method_8_code 2 (some .int) :: mz_tb
def dl_Mk_traceOf : List (Nat × ClassFile.Instr × Nat) := [(0, .aload_n 0, 1), (1, .getfield 9, 3), (4, .iload_n 1, 1), (5, .invokevirtual 101, 3), (8, .ifCond .eq (12), 3), (11, .aload_n 0, 1), (12, .getfield 45, 3), (15, .iload_n 1, 1), (16, .iaload, 1), (17, .goto (4), 3), (20, .iconst (-1), 1), (21, .ireturn, 1)]
theorem d_Mk_traceOf : mz_dec prog_7_method_8_code dl_Mk_traceOf = true := by decide +kernel
def y_Mk_setTrace : MethodName := ⟨"MazeForms$Maker", "setTrace", "(II)V"⟩
abbrev w_Mk_setTrace : List Cond := .code y_Mk_setTrace prog_7_method_9_code 3 none :: mz_tb
def dl_Mk_setTrace : List (Nat × ClassFile.Instr × Nat) := [(0, .aload_n 0, 1), (1, .getfield 9, 3), (4, .iload_n 1, 1), (5, .invokevirtual 101, 3), (8, .ifCond .eq (10), 3), (11, .aload_n 0, 1), (12, .getfield 45, 3), (15, .iload_n 1, 1), (16, .iload_n 2, 1), (17, .iastore, 1), (18, .return_, 1)]
theorem d_Mk_setTrace : mz_dec prog_7_method_9_code dl_Mk_setTrace = true := by decide +kernel
def y_Mk_offerUnreached : MethodName := ⟨"MazeForms$Maker", "offerUnreached", "(I)V"⟩
abbrev w_Mk_offerUnreached : List Cond := .code y_Mk_offerUnreached prog_7_method_11_code 4 none :: mz_tb
def dl_Mk_offerUnreached : List (Nat × ClassFile.Instr × Nat) := [(0, .aload_n 0, 1), (1, .getfield 34, 3), (4, .invokevirtual 71, 3), (7, .iconst (0), 1), (8, .istore_n 2, 1), (9, .iload_n 2, 1), (10, .iconst (4), 1), (11, .if_icmp .ge (48), 3), (14, .aload_n 0, 1), (15, .getfield 9, 3), (18, .iload_n 1, 1), (19, .iload_n 2, 1), (20, .invokevirtual 125, 3), (23, .istore_n 3, 1), (24, .iload_n 3, 1), (25, .iconst (-1), 1), (26, .if_icmp .eq (27), 3), (29, .aload_n 0, 1), (30, .aload_n 0, 1), (31, .getfield 9, 3), (34, .iload_n 3, 1), (35, .iload_n 1, 1), (36, .invokevirtual 117, 3), (39, .invokevirtual 128, 3), (42, .ifCond .ne (11), 3), (45, .aload_n 0, 1), (46, .getfield 34, 3), (49, .iload_n 3, 1), (50, .invokevirtual 81, 3), (53, .iinc 2 (1), 3), (56, .goto (-47), 3), (59, .return_, 1)]
theorem d_Mk_offerUnreached : mz_dec prog_7_method_11_code dl_Mk_offerUnreached = true := by decide +kernel
def y_Mk_offerAll : MethodName := ⟨"MazeForms$Maker", "offerAll", "(I)V"⟩
abbrev w_Mk_offerAll : List Cond := .code y_Mk_offerAll prog_7_method_17_code 3 none :: mz_tb
def dl_Mk_offerAll : List (Nat × ClassFile.Instr × Nat) := [(0, .aload_n 0, 1), (1, .getfield 34, 3), (4, .invokevirtual 71, 3), (7, .iconst (0), 1), (8, .istore_n 2, 1), (9, .iload_n 2, 1), (10, .iconst (4), 1), (11, .if_icmp .ge (25), 3), (14, .aload_n 0, 1), (15, .getfield 34, 3), (18, .aload_n 0, 1), (19, .getfield 9, 3), (22, .iload_n 1, 1), (23, .iload_n 2, 1), (24, .invokevirtual 125, 3), (27, .invokevirtual 81, 3), (30, .iinc 2 (1), 3), (33, .goto (-24), 3), (36, .return_, 1)]
theorem d_Mk_offerAll : mz_dec prog_7_method_17_code dl_Mk_offerAll = true := by decide +kernel
def y_Mk_offerRim : MethodName := ⟨"MazeForms$Maker", "offerRim", "()V"⟩
abbrev w_Mk_offerRim : List Cond := .code y_Mk_offerRim prog_7_method_14_code 2 none :: mz_tb
def dl_Mk_offerRim : List (Nat × ClassFile.Instr × Nat) := [(0, .aload_n 0, 1), (1, .getfield 34, 3), (4, .invokevirtual 71, 3), (7, .iconst (0), 1), (8, .istore_n 1, 1), (9, .iload_n 1, 1), (10, .aload_n 0, 1), (11, .getfield 9, 3), (14, .invokevirtual 74, 3), (17, .if_icmp .ge (44), 3), (20, .aload_n 0, 1), (21, .aload_n 0, 1), (22, .getfield 9, 3), (25, .iload_n 1, 1), (26, .invokevirtual 148, 3), (29, .invokevirtual 128, 3), (32, .aload_n 0, 1), (33, .aload_n 0, 1), (34, .getfield 9, 3), (37, .iload_n 1, 1), (38, .invokevirtual 151, 3), (41, .invokevirtual 128, 3), (44, .if_icmp .eq (11), 3), (47, .aload_n 0, 1), (48, .getfield 34, 3), (51, .iload_n 1, 1), (52, .invokevirtual 81, 3), (55, .iinc 1 (1), 3), (58, .goto (-49), 3), (61, .return_, 1)]
theorem d_Mk_offerRim : mz_dec prog_7_method_14_code dl_Mk_offerRim = true := by decide +kernel
def I_Mk_openDoor (w h : Nat) : List (Nat × mz_Op) := [(0, mz_lda 0 1), (1, mz_gf 5 0 4), (4, mz_ldi 1 5), (5, mz_push (.int (1)) 6), (6, mz_ci 3 3 (C_Gr_setDoor w h) 9), (9, mz_if (fun x => x = 0) 22 12), (12, mz_lda 0 13), (13, mz_dup 14), (14, mz_gf 5 6 17), (17, mz_push (.int (1)) 18), (18, mz_bi (fun x y => x + y) 19), (19, mz_pfi 5 6 22), (22, mz_rv)]
def I_Mk_enter (w h : Nat) : List (Nat × mz_Op) := [(0, mz_lda 0 1), (1, mz_gf 5 0 4), (4, mz_ldi 1 5), (5, mz_ci 2 3 (C_Gr_isCell w h) 8), (8, mz_if (fun x => x = 0) 18 11), (11, mz_lda 0 12), (12, mz_gf 5 4 15), (15, mz_ldi 1 16), (16, mz_push (.int (1)) 17), (17, mz_iast 1 18), (18, mz_rv)]
def I_Mk_begin (w h : Nat) : List (Nat × mz_Op) := [(0, mz_push (.int (0)) 1), (1, mz_sti 2 2), (2, mz_ldi 2 3), (3, mz_lda 0 4), (4, mz_gf 5 4 7), (7, mz_al 8), (8, mz_ic (fun x y => y ≤ x) 31 11), (11, mz_lda 0 12), (12, mz_gf 5 4 15), (15, mz_ldi 2 16), (16, mz_push (.int (0)) 17), (17, mz_iast 1 18), (18, mz_lda 0 19), (19, mz_gf 5 5 22), (22, mz_ldi 2 23), (23, mz_push (.int (-1)) 24), (24, mz_iast 0 25), (25, mz_inc 2 (1) 28), (28, mz_go 2), (31, mz_lda 0 32), (32, mz_ldi 1 33), (33, mz_cvo 2 5 (C_Mk_enter w h) 36), (36, mz_rv)]
def I_Mk_isReached (w h : Nat) : List (Nat × mz_Op) := [(0, mz_lda 0 1), (1, mz_gf 5 0 4), (4, mz_ldi 1 5), (5, mz_ci 2 3 (C_Gr_isCell w h) 8), (8, mz_if (fun x => x = 0) 24 11), (11, mz_lda 0 12), (12, mz_gf 5 4 15), (15, mz_ldi 1 16), (16, mz_iald 1 17), (17, mz_if (fun x => x = 0) 24 20), (20, mz_push (.int (1)) 21), (21, mz_go 25), (24, mz_push (.int (0)) 25), (25, mz_rz)]
def I_Mk_traceOf (w h : Nat) : List (Nat × mz_Op) := [(0, mz_lda 0 1), (1, mz_gf 5 0 4), (4, mz_ldi 1 5), (5, mz_ci 2 3 (C_Gr_isCell w h) 8), (8, mz_if (fun x => x = 0) 20 11), (11, mz_lda 0 12), (12, mz_gf 5 5 15), (15, mz_ldi 1 16), (16, mz_iald 0 17), (17, mz_go 21), (20, mz_push (.int (-1)) 21), (21, mz_ri)]
def I_Mk_setTrace (w h : Nat) : List (Nat × mz_Op) := [(0, mz_lda 0 1), (1, mz_gf 5 0 4), (4, mz_ldi 1 5), (5, mz_ci 2 3 (C_Gr_isCell w h) 8), (8, mz_if (fun x => x = 0) 18 11), (11, mz_lda 0 12), (12, mz_gf 5 5 15), (15, mz_ldi 1 16), (16, mz_ldi 2 17), (17, mz_iast 0 18), (18, mz_rv)]
def I_Mk_offerUnreached (w h : Nat) : List (Nat × mz_Op) := [(0, mz_lda 0 1), (1, mz_gf 5 3 4), (4, mz_cvo 1 1 (C_Dr_clear w h) 7), (7, mz_push (.int (0)) 8), (8, mz_sti 2 9), (9, mz_ldi 2 10), (10, mz_push (.int (4)) 11), (11, mz_ic (fun x y => y ≤ x) 59 14), (14, mz_lda 0 15), (15, mz_gf 5 0 18), (18, mz_ldi 1 19), (19, mz_ldi 2 20), (20, mz_ci 3 3 (C_Gr_doorOn w h) 23), (23, mz_sti 3 24), (24, mz_ldi 3 25), (25, mz_push (.int (-1)) 26), (26, mz_ic (fun x y => x = y) 53 29), (29, mz_lda 0 30), (30, mz_lda 0 31), (31, mz_gf 5 0 34), (34, mz_ldi 3 35), (35, mz_ldi 1 36), (36, mz_ci 3 3 (C_Gr_otherCell w h) 39), (39, mz_ci 2 5 (C_Mk_isReached w h) 42), (42, mz_if (fun x => x = 0) 45 53), (45, mz_lda 0 46), (46, mz_gf 5 3 49), (49, mz_ldi 3 50), (50, mz_cvo 2 1 (C_Dr_add w h) 53), (53, mz_inc 2 (1) 56), (56, mz_go 9), (59, mz_rv)]
def I_Mk_offerAll (w h : Nat) : List (Nat × mz_Op) := [(0, mz_lda 0 1), (1, mz_gf 5 3 4), (4, mz_cvo 1 1 (C_Dr_clear w h) 7), (7, mz_push (.int (0)) 8), (8, mz_sti 2 9), (9, mz_ldi 2 10), (10, mz_push (.int (4)) 11), (11, mz_ic (fun x y => y ≤ x) 36 14), (14, mz_lda 0 15), (15, mz_gf 5 3 18), (18, mz_lda 0 19), (19, mz_gf 5 0 22), (22, mz_ldi 1 23), (23, mz_ldi 2 24), (24, mz_ci 3 3 (C_Gr_doorOn w h) 27), (27, mz_cvo 2 1 (C_Dr_add w h) 30), (30, mz_inc 2 (1) 33), (33, mz_go 9), (36, mz_rv)]
def I_Mk_offerRim (w h : Nat) : List (Nat × mz_Op) := [(0, mz_lda 0 1), (1, mz_gf 5 3 4), (4, mz_cvo 1 1 (C_Dr_clear w h) 7), (7, mz_push (.int (0)) 8), (8, mz_sti 1 9), (9, mz_ldi 1 10), (10, mz_lda 0 11), (11, mz_gf 5 0 14), (14, mz_ci 1 3 (C_Gr_doorCount w h) 17), (17, mz_ic (fun x y => y ≤ x) 61 20), (20, mz_lda 0 21), (21, mz_lda 0 22), (22, mz_gf 5 0 25), (25, mz_ldi 1 26), (26, mz_ci 2 3 (C_Gr_lesserCell w h) 29), (29, mz_ci 2 5 (C_Mk_isReached w h) 32), (32, mz_lda 0 33), (33, mz_lda 0 34), (34, mz_gf 5 0 37), (37, mz_ldi 1 38), (38, mz_ci 2 3 (C_Gr_greaterCell w h) 41), (41, mz_ci 2 5 (C_Mk_isReached w h) 44), (44, mz_ic (fun x y => x = y) 55 47), (47, mz_lda 0 48), (48, mz_gf 5 3 51), (51, mz_ldi 1 52), (52, mz_cvo 2 1 (C_Dr_add w h) 55), (55, mz_inc 1 (1) 58), (58, mz_go 9), (61, mz_rv)]
theorem zm_b0_0 (X : mz_X) : zm_b0 X 0 = X := by
  simp only [zm_b0, mz_fil_0]
theorem zm_b0_s (X : mz_X) (k : Nat) : mz_up (mz_up (zm_b0 X k).1 16 k 0) 17 k (-1) = (zm_b0 X (k + 1)).1 := by
  funext a b
  simp only [mz_up, zm_b0, mz_fil]
  by_cases h6 : a = 16
  · subst h6
    by_cases hb : b = k
    · subst hb
      simp
    · have : b < k ↔ b < k + 1 := by omega
      simp [hb, this]
  · by_cases h7 : a = 17
    · subst h7
      by_cases hb : b = k
      · subst hb
        simp
      · have : b < k ↔ b < k + 1 := by omega
        simp [hb, this]
    · simp [h6, h7]
theorem zr_add_keep {w h p i : Nat} (hp : p ≠ 14) (hp2 : p ≠ 15) (X : mz_X) (d : Int32) : (zr_add w h X d).1 p i = X.1 p i := by
  unfold zr_add
  split
  · simp only [mz_up, if_neg hp, if_neg hp2]
  · rfl
theorem zr_clr_keep {p i : Nat} (hp : p ≠ 14) (X : mz_X) : (zr_clr X).1 p i = X.1 p i := by
  simp only [zr_clr, mz_up, if_neg hp]
theorem zm_rS_keep {w h p i d : Nat} (hp : p ≠ 14) (hp2 : p ≠ 15) (X : mz_X) : (zm_rS w h X d).1 p i = X.1 p i := by
  unfold zm_rS
  split
  · exact zr_add_keep hp hp2 X _
  · rfl
theorem zm_r_keep {w h p i : Nat} (hp : p ≠ 14) (hp2 : p ≠ 15) (X : mz_X) : ∀ k, (zm_r w h X k).1 p i = X.1 p i
  | 0 => zr_clr_keep hp X
  | k + 1 => (zm_rS_keep hp hp2 _).trans (zm_r_keep hp hp2 X k)
theorem zm_cS_keep {w h p i d : Nat} (hp : p ≠ 14) (hp2 : p ≠ 15) (X : mz_X) : (zm_cS w h X d).1 p i = X.1 p i := by
  unfold zm_cS
  split
  · rfl
  · exact zr_add_keep hp hp2 X _
theorem zm_c_keep {w h p i : Nat} (hp : p ≠ 14) (hp2 : p ≠ 15) (X : mz_X) : ∀ k, (zm_c w h X k).1 p i = X.1 p i
  | 0 => zr_clr_keep hp X
  | k + 1 => (zm_cS_keep hp hp2 _).trans (zm_c_keep hp hp2 X k)
theorem mz_beq_b {a b : Bool} : (mz_b a = mz_b b) ↔ a = b := by cases a <;> cases b <;> simp [mz_b]
theorem len_Mk_openDoor (w h : Nat) (lay : List mz_E) (as : List Value) (X : mz_X) (Q : mz_X → Prop) (hC : C_Mk_openDoor w h lay as X Q) : (mz_l0 as).length ≤ 2 := by
  unfold C_Mk_openDoor at hC
  split at hC
  · exact Nat.le_of_ble_eq_true rfl
  · exact hC.elim
theorem ok_Mk_openDoor (w h : Nat) (lay : List mz_E) (as : List Value) (X : mz_X) (Q : mz_X → Prop) (hC : C_Mk_openDoor w h lay as X Q) (K : mz_K) (hK : mz_Cl (I_Mk_openDoor w h) (mz_qv lay Q) K) : K 0 (mz_ent 2 as) [] (lay, X) := by
  unfold C_Mk_openDoor at hC
  split at hC
  · next d =>
    obtain ⟨rfl, g, hq⟩ := hC
    iterate 4 refine hK _ _ _ _ ?_
    refine hK _ _ _ _ (And.intro (rfl) (And.intro (g) (And.intro (Or.inr rfl) ?_)))
    refine hK _ _ _ _ (And.intro (fun c1 => ?_) (fun c1 => ?_))
    · have e := mz_b0 c1
      have e2 : zm_od w h X d = X := by
        unfold zm_od
        rw [e]
      rw [e2] at hq
      rw [e]
      exact hK _ _ _ _ (And.intro rfl (hq))
    · have e := mz_b1 c1
      have e2 : zm_od w h X d = zm_odX X d := by
        unfold zm_od
        rw [e]
      rw [e2] at hq
      rw [e]
      iterate 6 refine hK _ _ _ _ ?_
      exact hK _ _ _ _ (And.intro rfl (hq))
  · exact hC.elim
theorem len_Mk_enter (w h : Nat) (lay : List mz_E) (as : List Value) (X : mz_X) (Q : mz_X → Prop) (hC : C_Mk_enter w h lay as X Q) : (mz_l0 as).length ≤ 2 := by
  unfold C_Mk_enter at hC
  split at hC
  · exact Nat.le_of_ble_eq_true rfl
  · exact hC.elim
theorem ok_Mk_enter (w h : Nat) (lay : List mz_E) (as : List Value) (X : mz_X) (Q : mz_X → Prop) (hC : C_Mk_enter w h lay as X Q) (K : mz_K) (hK : mz_Cl (I_Mk_enter w h) (mz_qv lay Q) K) : K 0 (mz_ent 2 as) [] (lay, X) := by
  unfold C_Mk_enter at hC
  split at hC
  · next c =>
    obtain ⟨rfl, g, hq⟩ := hC
    have hn := mz_geo_n g
    iterate 3 refine hK _ _ _ _ ?_
    refine hK _ _ _ _ (And.intro (rfl) (And.intro (g) ?_))
    refine hK _ _ _ _ (And.intro (fun c1 => ?_) (fun c1 => ?_))
    · have e2 : zm_en w h X c = X := by
        unfold zm_en
        rw [mz_b0 c1]
      rw [e2] at hq
      exact hK _ _ _ _ (And.intro rfl (hq))
    · have e2 : zm_en w h X c = (mz_up X.1 16 c.toNatClampNeg 1, X.2) := by
        unfold zm_en
        rw [mz_b1 c1]
      rw [e2] at hq
      iterate 4 refine hK _ _ _ _ ?_
      refine hK _ _ _ _ (And.intro (mz_lt_in (mz_b1 c1) (by omega)) ?_)
      exact hK _ _ _ _ (And.intro rfl (hq))
  · exact hC.elim
theorem len_Mk_begin (w h : Nat) (lay : List mz_E) (as : List Value) (X : mz_X) (Q : mz_X → Prop) (hC : C_Mk_begin w h lay as X Q) : (mz_l0 as).length ≤ 3 := by
  unfold C_Mk_begin at hC
  split at hC
  · exact Nat.le_of_ble_eq_true rfl
  · exact hC.elim
theorem ok_Mk_begin (w h : Nat) (lay : List mz_E) (as : List Value) (X : mz_X) (Q : mz_X → Prop) (hC : C_Mk_begin w h lay as X Q) (K : mz_K) (hK : mz_Cl (I_Mk_begin w h) (mz_qv lay Q) K) : K 0 (mz_ent 3 as) [] (lay, X) := by
  unfold C_Mk_begin at hC
  split at hC
  · next c =>
    obtain ⟨rfl, g, hq⟩ := hC
    have hn := mz_geo_n g
    have loop : ∀ (k i : Nat), i + k = w * h → K 2 [some (.ref 12), some (.int c), some (.int (nI i))] [] (mz_lay w h, zm_b0 X i) := by
      intro k
      induction k with
      | zero =>
        intro i hi
        iterate 4 refine hK _ _ _ _ ?_
        refine hK _ _ _ _ (And.intro (fun c1 => ?_) (fun c1 => ?_))
        · iterate 2 refine hK _ _ _ _ ?_
          rw [show i = w * h by omega]
          refine hK _ _ _ _ (And.intro (rfl) (And.intro (g) ?_))
          exact hK _ _ _ _ (And.intro rfl (hq))
        · exact absurd (nI_le (a := w * h) (b := i) (by omega) (by omega)) c1
      | succ k ih =>
        intro i hi
        iterate 4 refine hK _ _ _ _ ?_
        refine hK _ _ _ _ (And.intro (fun c1 => ?_) (fun c1 => ?_))
        · exact absurd c1 (nI_ge (by omega) (by omega))
        · iterate 4 refine hK _ _ _ _ ?_
          refine hK _ _ _ _ (And.intro (vp_in_nI (by omega) (by omega)) ?_)
          iterate 4 refine hK _ _ _ _ ?_
          refine hK _ _ _ _ (And.intro (vp_in_nI (by omega) (by omega)) ?_)
          iterate 2 refine hK _ _ _ _ ?_
          have := ih (i + 1) (by omega)
          rw [← nI_1] at this
          rw [nI_clamp (by omega)]
          rw [show zm_b0 X (i + 1) = (mz_up (mz_up (zm_b0 X i).1 16 i 0) 17 i (-1), X.2) from Prod.ext (zm_b0_s X i).symm rfl] at this
          exact this
    iterate 2 refine hK _ _ _ _ ?_
    have := loop (w * h) 0 (by omega)
    rw [zm_b0_0] at this
    exact this
  · exact hC.elim
theorem len_Mk_isReached (w h : Nat) (lay : List mz_E) (as : List Value) (X : mz_X) (Q : Int32 → mz_X → Prop) (hC : C_Mk_isReached w h lay as X Q) : (mz_l0 as).length ≤ 2 := by
  unfold C_Mk_isReached at hC
  split at hC
  · exact Nat.le_of_ble_eq_true rfl
  · exact hC.elim
theorem ok_Mk_isReached (w h : Nat) (lay : List mz_E) (as : List Value) (X : mz_X) (Q : Int32 → mz_X → Prop) (hC : C_Mk_isReached w h lay as X Q) (K : mz_K) (hK : mz_Cl (I_Mk_isReached w h) (mz_qi lay Q) K) : K 0 (mz_ent 2 as) [] (lay, X) := by
  unfold C_Mk_isReached at hC
  split at hC
  · next c =>
    obtain ⟨rfl, g, hq⟩ := hC
    have hn := mz_geo_n g
    iterate 3 refine hK _ _ _ _ ?_
    refine hK _ _ _ _ (And.intro (rfl) (And.intro (g) ?_))
    refine hK _ _ _ _ (And.intro (fun c1 => ?_) (fun c1 => ?_))
    · refine hK _ _ _ _ ?_
      exact hK _ _ _ _ (And.intro (Or.inl rfl) (And.intro rfl (by simpa [zm_isR, mz_b0 c1, mz_b] using hq)))
    · iterate 3 refine hK _ _ _ _ ?_
      refine hK _ _ _ _ (And.intro (mz_lt_in (mz_b1 c1) (by omega)) ?_)
      refine hK _ _ _ _ (And.intro (fun c2 => ?_) (fun c2 => ?_))
      · dsimp only at c2
        refine hK _ _ _ _ ?_
        exact hK _ _ _ _ (And.intro (Or.inl rfl) (And.intro rfl (by simpa [zm_isR, c2, mz_b] using hq)))
      · dsimp only at c2
        iterate 2 refine hK _ _ _ _ ?_
        exact hK _ _ _ _ (And.intro (Or.inr rfl) (And.intro rfl (by simpa [zm_isR, mz_b1 c1, c2, mz_b] using hq)))
  · exact hC.elim
theorem len_Mk_traceOf (w h : Nat) (lay : List mz_E) (as : List Value) (X : mz_X) (Q : Int32 → mz_X → Prop) (hC : C_Mk_traceOf w h lay as X Q) : (mz_l0 as).length ≤ 2 := by
  unfold C_Mk_traceOf at hC
  split at hC
  · exact Nat.le_of_ble_eq_true rfl
  · exact hC.elim
theorem ok_Mk_traceOf (w h : Nat) (lay : List mz_E) (as : List Value) (X : mz_X) (Q : Int32 → mz_X → Prop) (hC : C_Mk_traceOf w h lay as X Q) (K : mz_K) (hK : mz_Cl (I_Mk_traceOf w h) (mz_qi lay Q) K) : K 0 (mz_ent 2 as) [] (lay, X) := by
  unfold C_Mk_traceOf at hC
  split at hC
  · next c =>
    obtain ⟨rfl, g, hq⟩ := hC
    have hn := mz_geo_n g
    iterate 3 refine hK _ _ _ _ ?_
    refine hK _ _ _ _ (And.intro (rfl) (And.intro (g) ?_))
    refine hK _ _ _ _ (And.intro (fun c1 => ?_) (fun c1 => ?_))
    · have e2 : zm_tr w h X c = -1 := by
        unfold zm_tr
        rw [mz_b0 c1]
      rw [e2] at hq
      refine hK _ _ _ _ ?_
      exact hK _ _ _ _ (And.intro rfl (hq))
    · have e2 : zm_tr w h X c = X.1 17 c.toNatClampNeg := by
        unfold zm_tr
        rw [mz_b1 c1]
      rw [e2] at hq
      iterate 3 refine hK _ _ _ _ ?_
      refine hK _ _ _ _ (And.intro (mz_lt_in (mz_b1 c1) (by omega)) ?_)
      refine hK _ _ _ _ ?_
      exact hK _ _ _ _ (And.intro rfl (hq))
  · exact hC.elim
theorem len_Mk_setTrace (w h : Nat) (lay : List mz_E) (as : List Value) (X : mz_X) (Q : mz_X → Prop) (hC : C_Mk_setTrace w h lay as X Q) : (mz_l0 as).length ≤ 3 := by
  unfold C_Mk_setTrace at hC
  split at hC
  · exact Nat.le_of_ble_eq_true rfl
  · exact hC.elim
theorem ok_Mk_setTrace (w h : Nat) (lay : List mz_E) (as : List Value) (X : mz_X) (Q : mz_X → Prop) (hC : C_Mk_setTrace w h lay as X Q) (K : mz_K) (hK : mz_Cl (I_Mk_setTrace w h) (mz_qv lay Q) K) : K 0 (mz_ent 3 as) [] (lay, X) := by
  unfold C_Mk_setTrace at hC
  split at hC
  · next c m =>
    obtain ⟨rfl, g, hq⟩ := hC
    have hn := mz_geo_n g
    iterate 3 refine hK _ _ _ _ ?_
    refine hK _ _ _ _ (And.intro (rfl) (And.intro (g) ?_))
    refine hK _ _ _ _ (And.intro (fun c1 => ?_) (fun c1 => ?_))
    · have e2 : zm_stT w h X c m = X := by
        unfold zm_stT
        rw [mz_b0 c1]
      rw [e2] at hq
      exact hK _ _ _ _ (And.intro rfl (hq))
    · have e2 : zm_stT w h X c m = (mz_up X.1 17 c.toNatClampNeg m, X.2) := by
        unfold zm_stT
        rw [mz_b1 c1]
      rw [e2] at hq
      iterate 4 refine hK _ _ _ _ ?_
      refine hK _ _ _ _ (And.intro (mz_lt_in (mz_b1 c1) (by omega)) ?_)
      exact hK _ _ _ _ (And.intro rfl (hq))
  · exact hC.elim
theorem len_Mk_offerUnreached (w h : Nat) (lay : List mz_E) (as : List Value) (X : mz_X) (Q : mz_X → Prop) (hC : C_Mk_offerUnreached w h lay as X Q) : (mz_l0 as).length ≤ 4 := by
  unfold C_Mk_offerUnreached at hC
  split at hC
  · exact Nat.le_of_ble_eq_true rfl
  · exact hC.elim
theorem ok_Mk_offerUnreached (w h : Nat) (lay : List mz_E) (as : List Value) (X : mz_X) (Q : mz_X → Prop) (hC : C_Mk_offerUnreached w h lay as X Q) (K : mz_K) (hK : mz_Cl (I_Mk_offerUnreached w h) (mz_qv lay Q) K) : K 0 (mz_ent 4 as) [] (lay, X) := by
  unfold C_Mk_offerUnreached at hC
  split at hC
  · next c =>
    obtain ⟨rfl, g, hq⟩ := hC
    have loop : ∀ (k i : Nat), i + k = 4 → ∀ L3 : Option Value, K 9 [some (.ref 12), some (.int c), some (.int (nI i)), L3] [] (mz_lay w h, zm_u w h X c i) := by
      intro k
      induction k with
      | zero =>
        intro i hi L3
        iterate 2 refine hK _ _ _ _ ?_
        refine hK _ _ _ _ (And.intro (fun c1 => ?_) (fun c1 => ?_))
        · exact hK _ _ _ _ (And.intro rfl (by rw [show i = 4 by omega]; exact hq))
        · exact absurd (nI_le (a := 4) (b := i) (by omega) (by omega)) c1
      | succ k ih =>
        intro i hi L3
        have ih1 := ih (i + 1) (by omega)
        rw [show zm_u w h X c (i + 1) = zm_uS w h (zm_u w h X c i) c i from rfl, ← nI_1] at ih1
        generalize zm_u w h X c i = Y at ih1 ⊢
        have hf : zm_uB w h Y c i = false → zm_uS w h Y c i = Y := fun e => by
          unfold zm_uS
          rw [e]
        iterate 2 refine hK _ _ _ _ ?_
        refine hK _ _ _ _ (And.intro (fun c1 => ?_) (fun c1 => ?_))
        · exact absurd c1 (nI_ge (a := i) (b := 4) (by omega) (by omega))
        · iterate 4 refine hK _ _ _ _ ?_
          refine hK _ _ _ _ (And.intro (rfl) (And.intro (g) ?_))
          iterate 3 refine hK _ _ _ _ ?_
          refine hK _ _ _ _ (And.intro (fun c2 => ?_) (fun c2 => ?_))
          · rw [hf (by simp only [zm_uB]; rw [show zg_on w h Y c (nI i) = -1 from c2]; rfl)] at ih1
            iterate 2 refine hK _ _ _ _ ?_
            exact ih1 _
          · iterate 5 refine hK _ _ _ _ ?_
            refine hK _ _ _ _ (And.intro (rfl) (And.intro (g) ?_))
            refine hK _ _ _ _ (And.intro (rfl) (And.intro (g) ?_))
            refine hK _ _ _ _ (And.intro (fun c3 => ?_) (fun c3 => ?_))
            · have e : zm_uB w h Y c i = true := by
                simp only [zm_uB]
                rw [show zm_isR w h Y (zg_oth w h Y (zg_on w h Y c (nI i)) c) = false from mz_b0 c3, show decide (zg_on w h Y c (nI i) = -1) = false from decide_eq_false c2]
                rfl
              have e2 : zm_uS w h Y c i = zr_add w h Y (zg_on w h Y c (nI i)) := by
                unfold zm_uS
                rw [e]
              rw [e2] at ih1
              iterate 3 refine hK _ _ _ _ ?_
              refine hK _ _ _ _ (And.intro (rfl) (And.intro (g) ?_))
              iterate 2 refine hK _ _ _ _ ?_
              exact ih1 _
            · rw [hf (by simp only [zm_uB]; rw [show zm_isR w h Y (zg_oth w h Y (zg_on w h Y c (nI i)) c) = true from mz_b1 c3]; simp)] at ih1
              iterate 2 refine hK _ _ _ _ ?_
              exact ih1 _
    iterate 2 refine hK _ _ _ _ ?_
    refine hK _ _ _ _ (And.intro (rfl) (And.intro (g) ?_))
    iterate 2 refine hK _ _ _ _ ?_
    exact loop 4 0 (by omega) none
  · exact hC.elim
theorem len_Mk_offerAll (w h : Nat) (lay : List mz_E) (as : List Value) (X : mz_X) (Q : mz_X → Prop) (hC : C_Mk_offerAll w h lay as X Q) : (mz_l0 as).length ≤ 3 := by
  unfold C_Mk_offerAll at hC
  split at hC
  · exact Nat.le_of_ble_eq_true rfl
  · exact hC.elim
theorem ok_Mk_offerAll (w h : Nat) (lay : List mz_E) (as : List Value) (X : mz_X) (Q : mz_X → Prop) (hC : C_Mk_offerAll w h lay as X Q) (K : mz_K) (hK : mz_Cl (I_Mk_offerAll w h) (mz_qv lay Q) K) : K 0 (mz_ent 3 as) [] (lay, X) := by
  unfold C_Mk_offerAll at hC
  split at hC
  · next c =>
    obtain ⟨rfl, g, hq⟩ := hC
    have loop : ∀ (k i : Nat), i + k = 4 → K 9 [some (.ref 12), some (.int c), some (.int (nI i))] [] (mz_lay w h, zm_a w h X c i) := by
      intro k
      induction k with
      | zero =>
        intro i hi
        iterate 2 refine hK _ _ _ _ ?_
        refine hK _ _ _ _ (And.intro (fun c1 => ?_) (fun c1 => ?_))
        · exact hK _ _ _ _ (And.intro rfl (by rw [show i = 4 by omega]; exact hq))
        · exact absurd (nI_le (a := 4) (b := i) (by omega) (by omega)) c1
      | succ k ih =>
        intro i hi
        have ih1 := ih (i + 1) (by omega)
        rw [show zm_a w h X c (i + 1) = zr_add w h (zm_a w h X c i) (zg_on w h (zm_a w h X c i) c (nI i)) from rfl, ← nI_1] at ih1
        generalize zm_a w h X c i = Y at ih1 ⊢
        iterate 2 refine hK _ _ _ _ ?_
        refine hK _ _ _ _ (And.intro (fun c1 => ?_) (fun c1 => ?_))
        · exact absurd c1 (nI_ge (a := i) (b := 4) (by omega) (by omega))
        · iterate 6 refine hK _ _ _ _ ?_
          refine hK _ _ _ _ (And.intro (rfl) (And.intro (g) ?_))
          refine hK _ _ _ _ (And.intro (rfl) (And.intro (g) ?_))
          iterate 2 refine hK _ _ _ _ ?_
          exact ih1
    iterate 2 refine hK _ _ _ _ ?_
    refine hK _ _ _ _ (And.intro (rfl) (And.intro (g) ?_))
    iterate 2 refine hK _ _ _ _ ?_
    exact loop 4 0 (by omega)
  · exact hC.elim
theorem len_Mk_offerRim (w h : Nat) (lay : List mz_E) (as : List Value) (X : mz_X) (Q : mz_X → Prop) (hC : C_Mk_offerRim w h lay as X Q) : (mz_l0 as).length ≤ 2 := by
  unfold C_Mk_offerRim at hC
  split at hC
  · exact Nat.le_of_ble_eq_true rfl
  · exact hC.elim
theorem ok_Mk_offerRim (w h : Nat) (lay : List mz_E) (as : List Value) (X : mz_X) (Q : mz_X → Prop) (hC : C_Mk_offerRim w h lay as X Q) (K : mz_K) (hK : mz_Cl (I_Mk_offerRim w h) (mz_qv lay Q) K) : K 0 (mz_ent 2 as) [] (lay, X) := by
  unfold C_Mk_offerRim at hC
  split at hC
  ·
    obtain ⟨rfl, g, D, hD, hX, hq⟩ := hC
    have hd := mz_geo_d g
    have loop : ∀ (k i : Nat), i + k = D → K 9 [some (.ref 12), some (.int (nI i))] [] (mz_lay w h, zm_r w h X i) := by
      intro k
      induction k with
      | zero =>
        intro i hi
        have h7 : (zm_r w h X i).1 1 7 = nI D := by rw [zm_r_keep (by decide) (by decide), hX]
        iterate 3 refine hK _ _ _ _ ?_
        refine hK _ _ _ _ (And.intro (rfl) (And.intro (g) ?_))
        refine hK _ _ _ _ (And.intro (fun c1 => ?_) (fun c1 => ?_))
        · exact hK _ _ _ _ (And.intro rfl (by rw [show i = D by omega]; exact hq))
        · dsimp only at c1
          rw [h7] at c1
          exact absurd (nI_le (a := D) (b := i) (by omega) (by omega)) c1
      | succ k ih =>
        intro i hi
        have h7 : (zm_r w h X i).1 1 7 = nI D := by rw [zm_r_keep (by decide) (by decide), hX]
        have ih1 := ih (i + 1) (by omega)
        rw [show zm_r w h X (i + 1) = zm_rS w h (zm_r w h X i) i from rfl, ← nI_1] at ih1
        generalize zm_r w h X i = Y at ih1 h7 ⊢
        iterate 3 refine hK _ _ _ _ ?_
        refine hK _ _ _ _ (And.intro (rfl) (And.intro (g) ?_))
        refine hK _ _ _ _ (And.intro (fun c1 => ?_) (fun c1 => ?_))
        · dsimp only at c1
          rw [h7] at c1
          exact absurd c1 (nI_ge (by omega) (by omega))
        · iterate 4 refine hK _ _ _ _ ?_
          refine hK _ _ _ _ (And.intro (rfl) (And.intro (g) ?_))
          refine hK _ _ _ _ (And.intro (rfl) (And.intro (g) ?_))
          iterate 4 refine hK _ _ _ _ ?_
          refine hK _ _ _ _ (And.intro (rfl) (And.intro (g) ?_))
          refine hK _ _ _ _ (And.intro (rfl) (And.intro (g) ?_))
          refine hK _ _ _ _ (And.intro (fun c2 => ?_) (fun c2 => ?_))
          · have e : zm_rB w h Y i = false := by
              simp only [zm_rB]
              rw [mz_beq_b.mp c2]
              simp
            have e2 : zm_rS w h Y i = Y := by
              unfold zm_rS
              rw [e]
            rw [e2] at ih1
            iterate 2 refine hK _ _ _ _ ?_
            exact ih1
          · have e : zm_rB w h Y i = true := by
              simp only [zm_rB, Bool.not_eq_true', decide_eq_false_iff_not]
              exact fun q => c2 (mz_beq_b.mpr q)
            have e2 : zm_rS w h Y i = zr_add w h Y (nI i) := by
              unfold zm_rS
              rw [e]
            rw [e2] at ih1
            iterate 3 refine hK _ _ _ _ ?_
            refine hK _ _ _ _ (And.intro (rfl) (And.intro (g) ?_))
            iterate 2 refine hK _ _ _ _ ?_
            exact ih1
    iterate 2 refine hK _ _ _ _ ?_
    refine hK _ _ _ _ (And.intro (rfl) (And.intro (g) ?_))
    iterate 2 refine hK _ _ _ _ ?_
    exact loop D 0 (by omega)
  · exact hC.elim
set_option maxRecDepth 20000 in
theorem snd_Mk_openDoor (w h : Nat) (l : Launch) (p : Program) (e : Env) (s : State) (m : MethodId) (args : Array Value) (below : List Frame) (meth : Method) (c : Code) (D : va_G) (ad0 : Nat → Nat) (cA0 : Nat → ClassId) (A : Nat → Prop) (lay : List mz_E) (Q : mz_X → Prop) (F : mz_F p s m args meth c prog_7_method_4_code 2 y_Mk_openDoor.cls none w_Mk_openDoor) (hA : ∀ q, s.heap.size ≤ q → A q) : mz_All (mz_V p l e (mz_rm 2 43) s m args below meth c 2 lay.length (mz_sz lay) D mz_cls (mz_G0 ad0 cA0) A (MQ below (va_Qv Q (mz_B D mz_cls ad0 cA0 lay A) A) args s 0 0 A)) (mz_qv lay Q) (I_Mk_openDoor w h) := by
  obtain ⟨hx, hb, hml, hown, hts, hr, hlk⟩ := F
  unfold I_Mk_openDoor
  refine mz_All.cons (sd_aload_n hx hb (mz_dg d_Mk_openDoor 0 0 (.aload_n 0) 1 rfl) rfl) ?_
  refine mz_All.cons (sd_get (k := 0) hx hb hts (mz_inC in_Mk) hown (T := T_Mk) (N := 7) rfl (by decide) (hts (.fieldLink "MazeForms$Maker" 9 "MazeForms$Maker" "grid" "LMazeForms$Grid;") (List.mem_cons_of_mem _ wm_229)) (fun _ h => h) (mz_dg d_Mk_openDoor 1 1 (.getfield 9) 3 rfl)) ?_
  refine mz_All.cons (sd_iload_n hx hb (mz_dg d_Mk_openDoor 2 4 (.iload_n 1) 1 rfl) rfl) ?_
  refine mz_All.cons (sd_iconst hx hb (mz_dg d_Mk_openDoor 3 5 (.iconst (1)) 1 rfl) (by decide)) ?_
  refine mz_All.cons (sd_calli (T := T_Gr) ⟨hx, hb, hml, hown, hts⟩ (met_Gr_setDoor w h l) (cwV 2 hts (mz_gV wm_413 wm_414 wm_415 wm_67 wm_416) rfl rfl rfl (by decide) ⟨by decide, by decide⟩) rfl hA rfl (mz_dg d_Mk_openDoor 4 6 (.invokevirtual 94) 3 rfl)) ?_
  refine mz_All.cons (sd_if_eq hx hb (mz_dg d_Mk_openDoor 5 9 (.ifCond .eq (13)) 3 rfl) (by decide)) ?_
  refine mz_All.cons (sd_aload_n hx hb (mz_dg d_Mk_openDoor 6 12 (.aload_n 0) 1 rfl) rfl) ?_
  refine mz_All.cons (sd_dup hx hb (mz_dg d_Mk_openDoor 7 13 (.dup) 1 rfl)) ?_
  refine mz_All.cons (sd_get (k := 6) hx hb hts (mz_inC in_Mk) hown (T := T_Mk) (N := 7) rfl (by decide) (hts (.fieldLink "MazeForms$Maker" 52 "MazeForms$Maker" "opened" "I") (List.mem_cons_of_mem _ wm_235)) (fun _ h => h) (mz_dg d_Mk_openDoor 8 14 (.getfield 52) 3 rfl)) ?_
  refine mz_All.cons (sd_iconst hx hb (mz_dg d_Mk_openDoor 9 17 (.iconst (1)) 1 rfl) (by decide)) ?_
  refine mz_All.cons (sd_iadd hx hb (mz_dg d_Mk_openDoor 10 18 (.iadd) 1 rfl)) ?_
  refine mz_All.cons (sd_puti (k := 6) hx hb hts (mz_inC in_Mk) ty_Mk ty_Mk_ok nm_Mk hown (T := T_Mk) (N := 7) rfl (by decide) (hts (.fieldLink "MazeForms$Maker" 52 "MazeForms$Maker" "opened" "I") (List.mem_cons_of_mem _ wm_235)) (fun _ h => h) rfl rfl (mz_dg d_Mk_openDoor 11 19 (.putfield 52) 3 rfl)) ?_
  refine mz_All.cons (sd_rv hx hb hr hlk (mz_dg d_Mk_openDoor 12 22 (.return_) 1 rfl)) ?_
  exact trivial
theorem met_Mk_openDoor (w h : Nat) (l : Launch) : mz_MV l y_Mk_openDoor w_Mk_openDoor 2 43 mz_cls (C_Mk_openDoor w h) := mz_MV_of (I_Mk_openDoor w h) (by decide) rfl (len_Mk_openDoor w h) (ok_Mk_openDoor w h) (snd_Mk_openDoor w h l)
set_option maxRecDepth 20000 in
theorem snd_Mk_enter (w h : Nat) (l : Launch) (p : Program) (e : Env) (s : State) (m : MethodId) (args : Array Value) (below : List Frame) (meth : Method) (c : Code) (D : va_G) (ad0 : Nat → Nat) (cA0 : Nat → ClassId) (A : Nat → Prop) (lay : List mz_E) (Q : mz_X → Prop) (F : mz_F p s m args meth c prog_7_method_6_code 2 y_Mk_enter.cls none w_Mk_enter) (hA : ∀ q, s.heap.size ≤ q → A q) : mz_All (mz_V p l e (mz_rm 1 21) s m args below meth c 2 lay.length (mz_sz lay) D mz_cls (mz_G0 ad0 cA0) A (MQ below (va_Qv Q (mz_B D mz_cls ad0 cA0 lay A) A) args s 0 0 A)) (mz_qv lay Q) (I_Mk_enter w h) := by
  obtain ⟨hx, hb, hml, hown, hts, hr, hlk⟩ := F
  unfold I_Mk_enter
  refine mz_All.cons (sd_aload_n hx hb (mz_dg d_Mk_enter 0 0 (.aload_n 0) 1 rfl) rfl) ?_
  refine mz_All.cons (sd_get (k := 0) hx hb hts (mz_inC in_Mk) hown (T := T_Mk) (N := 7) rfl (by decide) (hts (.fieldLink "MazeForms$Maker" 9 "MazeForms$Maker" "grid" "LMazeForms$Grid;") (List.mem_cons_of_mem _ wm_229)) (fun _ h => h) (mz_dg d_Mk_enter 1 1 (.getfield 9) 3 rfl)) ?_
  refine mz_All.cons (sd_iload_n hx hb (mz_dg d_Mk_enter 2 4 (.iload_n 1) 1 rfl) rfl) ?_
  refine mz_All.cons (sd_calli (T := T_Gr) ⟨hx, hb, hml, hown, hts⟩ (met_Gr_isCell w h l) (cwV 1 hts (mz_gV wm_362 wm_121 wm_122 wm_67 wm_123) rfl rfl rfl (by decide) ⟨by decide, by decide⟩) rfl hA rfl (mz_dg d_Mk_enter 3 5 (.invokevirtual 101) 3 rfl)) ?_
  refine mz_All.cons (sd_if_eq hx hb (mz_dg d_Mk_enter 4 8 (.ifCond .eq (10)) 3 rfl) (by decide)) ?_
  refine mz_All.cons (sd_aload_n hx hb (mz_dg d_Mk_enter 5 11 (.aload_n 0) 1 rfl) rfl) ?_
  refine mz_All.cons (sd_get (k := 4) hx hb hts (mz_inC in_Mk) hown (T := T_Mk) (N := 7) rfl (by decide) (hts (.fieldLink "MazeForms$Maker" 41 "MazeForms$Maker" "reached" "[Z") (List.mem_cons_of_mem _ wm_233)) (fun _ h => h) (mz_dg d_Mk_enter 6 12 (.getfield 41) 3 rfl)) ?_
  refine mz_All.cons (sd_iload_n hx hb (mz_dg d_Mk_enter 7 15 (.iload_n 1) 1 rfl) rfl) ?_
  refine mz_All.cons (sd_iconst hx hb (mz_dg d_Mk_enter 8 16 (.iconst (1)) 1 rfl) (by decide)) ?_
  refine mz_All.cons (sd_zast hx hb (mz_dg d_Mk_enter 9 17 (.bastore) 1 rfl)) ?_
  refine mz_All.cons (sd_rv hx hb hr hlk (mz_dg d_Mk_enter 10 18 (.return_) 1 rfl)) ?_
  exact trivial
theorem met_Mk_enter (w h : Nat) (l : Launch) : mz_MV l y_Mk_enter w_Mk_enter 1 21 mz_cls (C_Mk_enter w h) := mz_MV_of (I_Mk_enter w h) (by decide) rfl (len_Mk_enter w h) (ok_Mk_enter w h) (snd_Mk_enter w h l)
set_option maxRecDepth 20000 in
theorem snd_Mk_begin (w h : Nat) (l : Launch) (p : Program) (e : Env) (s : State) (m : MethodId) (args : Array Value) (below : List Frame) (meth : Method) (c : Code) (D : va_G) (ad0 : Nat → Nat) (cA0 : Nat → ClassId) (A : Nat → Prop) (lay : List mz_E) (Q : mz_X → Prop) (F : mz_F p s m args meth c prog_7_method_5_code 3 y_Mk_begin.cls none w_Mk_begin) (hA : ∀ q, s.heap.size ≤ q → A q) : mz_All (mz_V p l e (mz_rm 2 42) s m args below meth c 3 lay.length (mz_sz lay) D mz_cls (mz_G0 ad0 cA0) A (MQ below (va_Qv Q (mz_B D mz_cls ad0 cA0 lay A) A) args s 0 0 A)) (mz_qv lay Q) (I_Mk_begin w h) := by
  obtain ⟨hx, hb, hml, hown, hts, hr, hlk⟩ := F
  unfold I_Mk_begin
  refine mz_All.cons (sd_iconst hx hb (mz_dg d_Mk_begin 0 0 (.iconst (0)) 1 rfl) (by decide)) ?_
  refine mz_All.cons (sd_istore_n hx hb (mz_dg d_Mk_begin 1 1 (.istore_n 2) 1 rfl) rfl (by decide)) ?_
  refine mz_All.cons (sd_iload_n hx hb (mz_dg d_Mk_begin 2 2 (.iload_n 2) 1 rfl) rfl) ?_
  refine mz_All.cons (sd_aload_n hx hb (mz_dg d_Mk_begin 3 3 (.aload_n 0) 1 rfl) rfl) ?_
  refine mz_All.cons (sd_get (k := 4) hx hb hts (mz_inC in_Mk) hown (T := T_Mk) (N := 7) rfl (by decide) (hts (.fieldLink "MazeForms$Maker" 41 "MazeForms$Maker" "reached" "[Z") (List.mem_cons_of_mem _ wm_233)) (fun _ h => h) (mz_dg d_Mk_begin 4 4 (.getfield 41) 3 rfl)) ?_
  refine mz_All.cons (sd_alen hx hb (mz_dg d_Mk_begin 5 7 (.arraylength) 1 rfl)) ?_
  refine mz_All.cons (sd_icmp_ge hx hb (mz_dg d_Mk_begin 6 8 (.if_icmp .ge (23)) 3 rfl) (by decide)) ?_
  refine mz_All.cons (sd_aload_n hx hb (mz_dg d_Mk_begin 7 11 (.aload_n 0) 1 rfl) rfl) ?_
  refine mz_All.cons (sd_get (k := 4) hx hb hts (mz_inC in_Mk) hown (T := T_Mk) (N := 7) rfl (by decide) (hts (.fieldLink "MazeForms$Maker" 41 "MazeForms$Maker" "reached" "[Z") (List.mem_cons_of_mem _ wm_233)) (fun _ h => h) (mz_dg d_Mk_begin 8 12 (.getfield 41) 3 rfl)) ?_
  refine mz_All.cons (sd_iload_n hx hb (mz_dg d_Mk_begin 9 15 (.iload_n 2) 1 rfl) rfl) ?_
  refine mz_All.cons (sd_iconst hx hb (mz_dg d_Mk_begin 10 16 (.iconst (0)) 1 rfl) (by decide)) ?_
  refine mz_All.cons (sd_zast hx hb (mz_dg d_Mk_begin 11 17 (.bastore) 1 rfl)) ?_
  refine mz_All.cons (sd_aload_n hx hb (mz_dg d_Mk_begin 12 18 (.aload_n 0) 1 rfl) rfl) ?_
  refine mz_All.cons (sd_get (k := 5) hx hb hts (mz_inC in_Mk) hown (T := T_Mk) (N := 7) rfl (by decide) (hts (.fieldLink "MazeForms$Maker" 45 "MazeForms$Maker" "trace" "[I") (List.mem_cons_of_mem _ wm_234)) (fun _ h => h) (mz_dg d_Mk_begin 13 19 (.getfield 45) 3 rfl)) ?_
  refine mz_All.cons (sd_iload_n hx hb (mz_dg d_Mk_begin 14 22 (.iload_n 2) 1 rfl) rfl) ?_
  refine mz_All.cons (sd_iconst hx hb (mz_dg d_Mk_begin 15 23 (.iconst (-1)) 1 rfl) (by decide)) ?_
  refine mz_All.cons (sd_iast hx hb (mz_dg d_Mk_begin 16 24 (.iastore) 1 rfl)) ?_
  refine mz_All.cons (sd_iinc hx hb (mz_dg d_Mk_begin 17 25 (.iinc 2 (1)) 3 rfl) (by decide) (by decide)) ?_
  refine mz_All.cons (sd_goto hx hb (mz_dg d_Mk_begin 18 28 (.goto (-26)) 3 rfl) (by decide)) ?_
  refine mz_All.cons (sd_aload_n hx hb (mz_dg d_Mk_begin 19 31 (.aload_n 0) 1 rfl) rfl) ?_
  refine mz_All.cons (sd_iload_n hx hb (mz_dg d_Mk_begin 20 32 (.iload_n 1) 1 rfl) rfl) ?_
  refine mz_All.cons (sd_callv (T := T_Mk) ⟨hx, hb, hml, hown, hts⟩ (met_Mk_enter w h l) (cwV 1 hts (mz_gV wm_358 wm_360 wm_4 wm_72 wm_361) rfl rfl rfl (by decide) ⟨by decide, by decide⟩) rfl hA rfl (mz_dg d_Mk_begin 21 33 (.invokevirtual 98) 3 rfl)) ?_
  refine mz_All.cons (sd_rv hx hb hr hlk (mz_dg d_Mk_begin 22 36 (.return_) 1 rfl)) ?_
  exact trivial
theorem met_Mk_begin (w h : Nat) (l : Launch) : mz_MV l y_Mk_begin w_Mk_begin 2 42 mz_cls (C_Mk_begin w h) := mz_MV_of (I_Mk_begin w h) (by decide) rfl (len_Mk_begin w h) (ok_Mk_begin w h) (snd_Mk_begin w h l)
set_option maxRecDepth 20000 in
theorem snd_Mk_isReached (w h : Nat) (l : Launch) (p : Program) (e : Env) (s : State) (m : MethodId) (args : Array Value) (below : List Frame) (meth : Method) (c : Code) (D : va_G) (ad0 : Nat → Nat) (cA0 : Nat → ClassId) (A : Nat → Prop) (lay : List mz_E) (Q : Int32 → mz_X → Prop) (F : mz_F p s m args meth c prog_7_method_7_code 2 y_Mk_isReached.cls (some .boolean) w_Mk_isReached) (hA : ∀ q, s.heap.size ≤ q → A q) : mz_All (mz_V p l e (mz_rm 1 21) s m args below meth c 2 lay.length (mz_sz lay) D mz_cls (mz_G0 ad0 cA0) A (MQ below (va_Qi Q (mz_B D mz_cls ad0 cA0 lay A) A) args s 0 0 A)) (mz_qi lay Q) (I_Mk_isReached w h) := by
  obtain ⟨hx, hb, hml, hown, hts, hr, hlk⟩ := F
  unfold I_Mk_isReached
  refine mz_All.cons (sd_aload_n hx hb (mz_dg d_Mk_isReached 0 0 (.aload_n 0) 1 rfl) rfl) ?_
  refine mz_All.cons (sd_get (k := 0) hx hb hts (mz_inC in_Mk) hown (T := T_Mk) (N := 7) rfl (by decide) (hts (.fieldLink "MazeForms$Maker" 9 "MazeForms$Maker" "grid" "LMazeForms$Grid;") (List.mem_cons_of_mem _ wm_229)) (fun _ h => h) (mz_dg d_Mk_isReached 1 1 (.getfield 9) 3 rfl)) ?_
  refine mz_All.cons (sd_iload_n hx hb (mz_dg d_Mk_isReached 2 4 (.iload_n 1) 1 rfl) rfl) ?_
  refine mz_All.cons (sd_calli (T := T_Gr) ⟨hx, hb, hml, hown, hts⟩ (met_Gr_isCell w h l) (cwV 1 hts (mz_gV wm_362 wm_121 wm_122 wm_67 wm_123) rfl rfl rfl (by decide) ⟨by decide, by decide⟩) rfl hA rfl (mz_dg d_Mk_isReached 3 5 (.invokevirtual 101) 3 rfl)) ?_
  refine mz_All.cons (sd_if_eq hx hb (mz_dg d_Mk_isReached 4 8 (.ifCond .eq (16)) 3 rfl) (by decide)) ?_
  refine mz_All.cons (sd_aload_n hx hb (mz_dg d_Mk_isReached 5 11 (.aload_n 0) 1 rfl) rfl) ?_
  refine mz_All.cons (sd_get (k := 4) hx hb hts (mz_inC in_Mk) hown (T := T_Mk) (N := 7) rfl (by decide) (hts (.fieldLink "MazeForms$Maker" 41 "MazeForms$Maker" "reached" "[Z") (List.mem_cons_of_mem _ wm_233)) (fun _ h => h) (mz_dg d_Mk_isReached 6 12 (.getfield 41) 3 rfl)) ?_
  refine mz_All.cons (sd_iload_n hx hb (mz_dg d_Mk_isReached 7 15 (.iload_n 1) 1 rfl) rfl) ?_
  refine mz_All.cons (sd_zald hx hb (mz_dg d_Mk_isReached 8 16 (.baload) 1 rfl)) ?_
  refine mz_All.cons (sd_if_eq hx hb (mz_dg d_Mk_isReached 9 17 (.ifCond .eq (7)) 3 rfl) (by decide)) ?_
  refine mz_All.cons (sd_iconst hx hb (mz_dg d_Mk_isReached 10 20 (.iconst (1)) 1 rfl) (by decide)) ?_
  refine mz_All.cons (sd_goto hx hb (mz_dg d_Mk_isReached 11 21 (.goto (4)) 3 rfl) (by decide)) ?_
  refine mz_All.cons (sd_iconst hx hb (mz_dg d_Mk_isReached 12 24 (.iconst (0)) 1 rfl) (by decide)) ?_
  refine mz_All.cons (sd_rz hx hb hr hlk (mz_dg d_Mk_isReached 13 25 (.ireturn) 1 rfl)) ?_
  exact trivial
theorem met_Mk_isReached (w h : Nat) (l : Launch) : mz_MI l y_Mk_isReached w_Mk_isReached 1 21 mz_cls (C_Mk_isReached w h) := mz_MI_of (I_Mk_isReached w h) (by decide) rfl (len_Mk_isReached w h) (ok_Mk_isReached w h) (snd_Mk_isReached w h l)
set_option maxRecDepth 20000 in
theorem snd_Mk_traceOf (w h : Nat) (l : Launch) (p : Program) (e : Env) (s : State) (m : MethodId) (args : Array Value) (below : List Frame) (meth : Method) (c : Code) (D : va_G) (ad0 : Nat → Nat) (cA0 : Nat → ClassId) (A : Nat → Prop) (lay : List mz_E) (Q : Int32 → mz_X → Prop) (F : mz_F p s m args meth c prog_7_method_8_code 2 y_Mk_traceOf.cls (some .int) w_Mk_traceOf) (hA : ∀ q, s.heap.size ≤ q → A q) : mz_All (mz_V p l e (mz_rm 1 21) s m args below meth c 2 lay.length (mz_sz lay) D mz_cls (mz_G0 ad0 cA0) A (MQ below (va_Qi Q (mz_B D mz_cls ad0 cA0 lay A) A) args s 0 0 A)) (mz_qi lay Q) (I_Mk_traceOf w h) := by
  obtain ⟨hx, hb, hml, hown, hts, hr, hlk⟩ := F
  unfold I_Mk_traceOf
  refine mz_All.cons (sd_aload_n hx hb (mz_dg d_Mk_traceOf 0 0 (.aload_n 0) 1 rfl) rfl) ?_
  refine mz_All.cons (sd_get (k := 0) hx hb hts (mz_inC in_Mk) hown (T := T_Mk) (N := 7) rfl (by decide) (hts (.fieldLink "MazeForms$Maker" 9 "MazeForms$Maker" "grid" "LMazeForms$Grid;") (List.mem_cons_of_mem _ wm_229)) (fun _ h => h) (mz_dg d_Mk_traceOf 1 1 (.getfield 9) 3 rfl)) ?_
  refine mz_All.cons (sd_iload_n hx hb (mz_dg d_Mk_traceOf 2 4 (.iload_n 1) 1 rfl) rfl) ?_
  refine mz_All.cons (sd_calli (T := T_Gr) ⟨hx, hb, hml, hown, hts⟩ (met_Gr_isCell w h l) (cwV 1 hts (mz_gV wm_362 wm_121 wm_122 wm_67 wm_123) rfl rfl rfl (by decide) ⟨by decide, by decide⟩) rfl hA rfl (mz_dg d_Mk_traceOf 3 5 (.invokevirtual 101) 3 rfl)) ?_
  refine mz_All.cons (sd_if_eq hx hb (mz_dg d_Mk_traceOf 4 8 (.ifCond .eq (12)) 3 rfl) (by decide)) ?_
  refine mz_All.cons (sd_aload_n hx hb (mz_dg d_Mk_traceOf 5 11 (.aload_n 0) 1 rfl) rfl) ?_
  refine mz_All.cons (sd_get (k := 5) hx hb hts (mz_inC in_Mk) hown (T := T_Mk) (N := 7) rfl (by decide) (hts (.fieldLink "MazeForms$Maker" 45 "MazeForms$Maker" "trace" "[I") (List.mem_cons_of_mem _ wm_234)) (fun _ h => h) (mz_dg d_Mk_traceOf 6 12 (.getfield 45) 3 rfl)) ?_
  refine mz_All.cons (sd_iload_n hx hb (mz_dg d_Mk_traceOf 7 15 (.iload_n 1) 1 rfl) rfl) ?_
  refine mz_All.cons (sd_iald hx hb (mz_dg d_Mk_traceOf 8 16 (.iaload) 1 rfl)) ?_
  refine mz_All.cons (sd_goto hx hb (mz_dg d_Mk_traceOf 9 17 (.goto (4)) 3 rfl) (by decide)) ?_
  refine mz_All.cons (sd_iconst hx hb (mz_dg d_Mk_traceOf 10 20 (.iconst (-1)) 1 rfl) (by decide)) ?_
  refine mz_All.cons (sd_ri hx hb hr hlk (mz_dg d_Mk_traceOf 11 21 (.ireturn) 1 rfl)) ?_
  exact trivial
theorem met_Mk_traceOf (w h : Nat) (l : Launch) : mz_MI l y_Mk_traceOf w_Mk_traceOf 1 21 mz_cls (C_Mk_traceOf w h) := mz_MI_of (I_Mk_traceOf w h) (by decide) rfl (len_Mk_traceOf w h) (ok_Mk_traceOf w h) (snd_Mk_traceOf w h l)
set_option maxRecDepth 20000 in
theorem snd_Mk_setTrace (w h : Nat) (l : Launch) (p : Program) (e : Env) (s : State) (m : MethodId) (args : Array Value) (below : List Frame) (meth : Method) (c : Code) (D : va_G) (ad0 : Nat → Nat) (cA0 : Nat → ClassId) (A : Nat → Prop) (lay : List mz_E) (Q : mz_X → Prop) (F : mz_F p s m args meth c prog_7_method_9_code 3 y_Mk_setTrace.cls none w_Mk_setTrace) (hA : ∀ q, s.heap.size ≤ q → A q) : mz_All (mz_V p l e (mz_rm 1 21) s m args below meth c 3 lay.length (mz_sz lay) D mz_cls (mz_G0 ad0 cA0) A (MQ below (va_Qv Q (mz_B D mz_cls ad0 cA0 lay A) A) args s 0 0 A)) (mz_qv lay Q) (I_Mk_setTrace w h) := by
  obtain ⟨hx, hb, hml, hown, hts, hr, hlk⟩ := F
  unfold I_Mk_setTrace
  refine mz_All.cons (sd_aload_n hx hb (mz_dg d_Mk_setTrace 0 0 (.aload_n 0) 1 rfl) rfl) ?_
  refine mz_All.cons (sd_get (k := 0) hx hb hts (mz_inC in_Mk) hown (T := T_Mk) (N := 7) rfl (by decide) (hts (.fieldLink "MazeForms$Maker" 9 "MazeForms$Maker" "grid" "LMazeForms$Grid;") (List.mem_cons_of_mem _ wm_229)) (fun _ h => h) (mz_dg d_Mk_setTrace 1 1 (.getfield 9) 3 rfl)) ?_
  refine mz_All.cons (sd_iload_n hx hb (mz_dg d_Mk_setTrace 2 4 (.iload_n 1) 1 rfl) rfl) ?_
  refine mz_All.cons (sd_calli (T := T_Gr) ⟨hx, hb, hml, hown, hts⟩ (met_Gr_isCell w h l) (cwV 1 hts (mz_gV wm_362 wm_121 wm_122 wm_67 wm_123) rfl rfl rfl (by decide) ⟨by decide, by decide⟩) rfl hA rfl (mz_dg d_Mk_setTrace 3 5 (.invokevirtual 101) 3 rfl)) ?_
  refine mz_All.cons (sd_if_eq hx hb (mz_dg d_Mk_setTrace 4 8 (.ifCond .eq (10)) 3 rfl) (by decide)) ?_
  refine mz_All.cons (sd_aload_n hx hb (mz_dg d_Mk_setTrace 5 11 (.aload_n 0) 1 rfl) rfl) ?_
  refine mz_All.cons (sd_get (k := 5) hx hb hts (mz_inC in_Mk) hown (T := T_Mk) (N := 7) rfl (by decide) (hts (.fieldLink "MazeForms$Maker" 45 "MazeForms$Maker" "trace" "[I") (List.mem_cons_of_mem _ wm_234)) (fun _ h => h) (mz_dg d_Mk_setTrace 6 12 (.getfield 45) 3 rfl)) ?_
  refine mz_All.cons (sd_iload_n hx hb (mz_dg d_Mk_setTrace 7 15 (.iload_n 1) 1 rfl) rfl) ?_
  refine mz_All.cons (sd_iload_n hx hb (mz_dg d_Mk_setTrace 8 16 (.iload_n 2) 1 rfl) rfl) ?_
  refine mz_All.cons (sd_iast hx hb (mz_dg d_Mk_setTrace 9 17 (.iastore) 1 rfl)) ?_
  refine mz_All.cons (sd_rv hx hb hr hlk (mz_dg d_Mk_setTrace 10 18 (.return_) 1 rfl)) ?_
  exact trivial
theorem met_Mk_setTrace (w h : Nat) (l : Launch) : mz_MV l y_Mk_setTrace w_Mk_setTrace 1 21 mz_cls (C_Mk_setTrace w h) := mz_MV_of (I_Mk_setTrace w h) (by decide) rfl (len_Mk_setTrace w h) (ok_Mk_setTrace w h) (snd_Mk_setTrace w h l)
set_option maxRecDepth 20000 in
theorem snd_Mk_offerUnreached (w h : Nat) (l : Launch) (p : Program) (e : Env) (s : State) (m : MethodId) (args : Array Value) (below : List Frame) (meth : Method) (c : Code) (D : va_G) (ad0 : Nat → Nat) (cA0 : Nat → ClassId) (A : Nat → Prop) (lay : List mz_E) (Q : mz_X → Prop) (F : mz_F p s m args meth c prog_7_method_11_code 4 y_Mk_offerUnreached.cls none w_Mk_offerUnreached) (hA : ∀ q, s.heap.size ≤ q → A q) : mz_All (mz_V p l e (mz_rm 2 44) s m args below meth c 4 lay.length (mz_sz lay) D mz_cls (mz_G0 ad0 cA0) A (MQ below (va_Qv Q (mz_B D mz_cls ad0 cA0 lay A) A) args s 0 0 A)) (mz_qv lay Q) (I_Mk_offerUnreached w h) := by
  obtain ⟨hx, hb, hml, hown, hts, hr, hlk⟩ := F
  unfold I_Mk_offerUnreached
  refine mz_All.cons (sd_aload_n hx hb (mz_dg d_Mk_offerUnreached 0 0 (.aload_n 0) 1 rfl) rfl) ?_
  refine mz_All.cons (sd_get (k := 3) hx hb hts (mz_inC in_Mk) hown (T := T_Mk) (N := 7) rfl (by decide) (hts (.fieldLink "MazeForms$Maker" 34 "MazeForms$Maker" "choice" "LMazeForms$DoorRow;") (List.mem_cons_of_mem _ wm_232)) (fun _ h => h) (mz_dg d_Mk_offerUnreached 1 1 (.getfield 34) 3 rfl)) ?_
  refine mz_All.cons (sd_callv (T := T_Dr) ⟨hx, hb, hml, hown, hts⟩ (met_Dr_clear w h l) (cwV 0 hts (mz_gV wm_367 wm_368 wm_369 wm_74 wm_370) rfl rfl rfl (by decide) ⟨by decide, by decide⟩) rfl hA rfl (mz_dg d_Mk_offerUnreached 2 4 (.invokevirtual 71) 3 rfl)) ?_
  refine mz_All.cons (sd_iconst hx hb (mz_dg d_Mk_offerUnreached 3 7 (.iconst (0)) 1 rfl) (by decide)) ?_
  refine mz_All.cons (sd_istore_n hx hb (mz_dg d_Mk_offerUnreached 4 8 (.istore_n 2) 1 rfl) rfl (by decide)) ?_
  refine mz_All.cons (sd_iload_n hx hb (mz_dg d_Mk_offerUnreached 5 9 (.iload_n 2) 1 rfl) rfl) ?_
  refine mz_All.cons (sd_iconst hx hb (mz_dg d_Mk_offerUnreached 6 10 (.iconst (4)) 1 rfl) (by decide)) ?_
  refine mz_All.cons (sd_icmp_ge hx hb (mz_dg d_Mk_offerUnreached 7 11 (.if_icmp .ge (48)) 3 rfl) (by decide)) ?_
  refine mz_All.cons (sd_aload_n hx hb (mz_dg d_Mk_offerUnreached 8 14 (.aload_n 0) 1 rfl) rfl) ?_
  refine mz_All.cons (sd_get (k := 0) hx hb hts (mz_inC in_Mk) hown (T := T_Mk) (N := 7) rfl (by decide) (hts (.fieldLink "MazeForms$Maker" 9 "MazeForms$Maker" "grid" "LMazeForms$Grid;") (List.mem_cons_of_mem _ wm_229)) (fun _ h => h) (mz_dg d_Mk_offerUnreached 9 15 (.getfield 9) 3 rfl)) ?_
  refine mz_All.cons (sd_iload_n hx hb (mz_dg d_Mk_offerUnreached 10 18 (.iload_n 1) 1 rfl) rfl) ?_
  refine mz_All.cons (sd_iload_n hx hb (mz_dg d_Mk_offerUnreached 11 19 (.iload_n 2) 1 rfl) rfl) ?_
  refine mz_All.cons (sd_calli (T := T_Gr) ⟨hx, hb, hml, hown, hts⟩ (met_Gr_doorOn w h l) (cwV 2 hts (mz_gV wm_371 wm_372 wm_373 wm_67 wm_374) rfl rfl rfl (by decide) ⟨by decide, by decide⟩) rfl hA rfl (mz_dg d_Mk_offerUnreached 12 20 (.invokevirtual 125) 3 rfl)) ?_
  refine mz_All.cons (sd_istore_n hx hb (mz_dg d_Mk_offerUnreached 13 23 (.istore_n 3) 1 rfl) rfl (by decide)) ?_
  refine mz_All.cons (sd_iload_n hx hb (mz_dg d_Mk_offerUnreached 14 24 (.iload_n 3) 1 rfl) rfl) ?_
  refine mz_All.cons (sd_iconst hx hb (mz_dg d_Mk_offerUnreached 15 25 (.iconst (-1)) 1 rfl) (by decide)) ?_
  refine mz_All.cons (sd_icmp_eq hx hb (mz_dg d_Mk_offerUnreached 16 26 (.if_icmp .eq (27)) 3 rfl) (by decide)) ?_
  refine mz_All.cons (sd_aload_n hx hb (mz_dg d_Mk_offerUnreached 17 29 (.aload_n 0) 1 rfl) rfl) ?_
  refine mz_All.cons (sd_aload_n hx hb (mz_dg d_Mk_offerUnreached 18 30 (.aload_n 0) 1 rfl) rfl) ?_
  refine mz_All.cons (sd_get (k := 0) hx hb hts (mz_inC in_Mk) hown (T := T_Mk) (N := 7) rfl (by decide) (hts (.fieldLink "MazeForms$Maker" 9 "MazeForms$Maker" "grid" "LMazeForms$Grid;") (List.mem_cons_of_mem _ wm_229)) (fun _ h => h) (mz_dg d_Mk_offerUnreached 19 31 (.getfield 9) 3 rfl)) ?_
  refine mz_All.cons (sd_iload_n hx hb (mz_dg d_Mk_offerUnreached 20 34 (.iload_n 3) 1 rfl) rfl) ?_
  refine mz_All.cons (sd_iload_n hx hb (mz_dg d_Mk_offerUnreached 21 35 (.iload_n 1) 1 rfl) rfl) ?_
  refine mz_All.cons (sd_calli (T := T_Gr) ⟨hx, hb, hml, hown, hts⟩ (met_Gr_otherCell w h l) (cwV 2 hts (mz_gV wm_375 wm_376 wm_377 wm_67 wm_378) rfl rfl rfl (by decide) ⟨by decide, by decide⟩) rfl hA rfl (mz_dg d_Mk_offerUnreached 22 36 (.invokevirtual 117) 3 rfl)) ?_
  refine mz_All.cons (sd_calli (T := T_Mk) ⟨hx, hb, hml, hown, hts⟩ (met_Mk_isReached w h l) (cwV 1 hts (mz_gV wm_383 wm_385 wm_6 wm_72 wm_386) rfl rfl rfl (by decide) ⟨by decide, by decide⟩) rfl hA rfl (mz_dg d_Mk_offerUnreached 23 39 (.invokevirtual 128) 3 rfl)) ?_
  refine mz_All.cons (sd_if_ne hx hb (mz_dg d_Mk_offerUnreached 24 42 (.ifCond .ne (11)) 3 rfl) (by decide)) ?_
  refine mz_All.cons (sd_aload_n hx hb (mz_dg d_Mk_offerUnreached 25 45 (.aload_n 0) 1 rfl) rfl) ?_
  refine mz_All.cons (sd_get (k := 3) hx hb hts (mz_inC in_Mk) hown (T := T_Mk) (N := 7) rfl (by decide) (hts (.fieldLink "MazeForms$Maker" 34 "MazeForms$Maker" "choice" "LMazeForms$DoorRow;") (List.mem_cons_of_mem _ wm_232)) (fun _ h => h) (mz_dg d_Mk_offerUnreached 26 46 (.getfield 34) 3 rfl)) ?_
  refine mz_All.cons (sd_iload_n hx hb (mz_dg d_Mk_offerUnreached 27 49 (.iload_n 3) 1 rfl) rfl) ?_
  refine mz_All.cons (sd_callv (T := T_Dr) ⟨hx, hb, hml, hown, hts⟩ (met_Dr_add w h l) (cwV 1 hts (mz_gV wm_387 wm_388 wm_389 wm_74 wm_390) rfl rfl rfl (by decide) ⟨by decide, by decide⟩) rfl hA rfl (mz_dg d_Mk_offerUnreached 28 50 (.invokevirtual 81) 3 rfl)) ?_
  refine mz_All.cons (sd_iinc hx hb (mz_dg d_Mk_offerUnreached 29 53 (.iinc 2 (1)) 3 rfl) (by decide) (by decide)) ?_
  refine mz_All.cons (sd_goto hx hb (mz_dg d_Mk_offerUnreached 30 56 (.goto (-47)) 3 rfl) (by decide)) ?_
  refine mz_All.cons (sd_rv hx hb hr hlk (mz_dg d_Mk_offerUnreached 31 59 (.return_) 1 rfl)) ?_
  exact trivial
theorem met_Mk_offerUnreached (w h : Nat) (l : Launch) : mz_MV l y_Mk_offerUnreached w_Mk_offerUnreached 2 44 mz_cls (C_Mk_offerUnreached w h) := mz_MV_of (I_Mk_offerUnreached w h) (by decide) rfl (len_Mk_offerUnreached w h) (ok_Mk_offerUnreached w h) (snd_Mk_offerUnreached w h l)
set_option maxRecDepth 20000 in
theorem snd_Mk_offerAll (w h : Nat) (l : Launch) (p : Program) (e : Env) (s : State) (m : MethodId) (args : Array Value) (below : List Frame) (meth : Method) (c : Code) (D : va_G) (ad0 : Nat → Nat) (cA0 : Nat → ClassId) (A : Nat → Prop) (lay : List mz_E) (Q : mz_X → Prop) (F : mz_F p s m args meth c prog_7_method_17_code 3 y_Mk_offerAll.cls none w_Mk_offerAll) (hA : ∀ q, s.heap.size ≤ q → A q) : mz_All (mz_V p l e (mz_rm 2 44) s m args below meth c 3 lay.length (mz_sz lay) D mz_cls (mz_G0 ad0 cA0) A (MQ below (va_Qv Q (mz_B D mz_cls ad0 cA0 lay A) A) args s 0 0 A)) (mz_qv lay Q) (I_Mk_offerAll w h) := by
  obtain ⟨hx, hb, hml, hown, hts, hr, hlk⟩ := F
  unfold I_Mk_offerAll
  refine mz_All.cons (sd_aload_n hx hb (mz_dg d_Mk_offerAll 0 0 (.aload_n 0) 1 rfl) rfl) ?_
  refine mz_All.cons (sd_get (k := 3) hx hb hts (mz_inC in_Mk) hown (T := T_Mk) (N := 7) rfl (by decide) (hts (.fieldLink "MazeForms$Maker" 34 "MazeForms$Maker" "choice" "LMazeForms$DoorRow;") (List.mem_cons_of_mem _ wm_232)) (fun _ h => h) (mz_dg d_Mk_offerAll 1 1 (.getfield 34) 3 rfl)) ?_
  refine mz_All.cons (sd_callv (T := T_Dr) ⟨hx, hb, hml, hown, hts⟩ (met_Dr_clear w h l) (cwV 0 hts (mz_gV wm_367 wm_368 wm_369 wm_74 wm_370) rfl rfl rfl (by decide) ⟨by decide, by decide⟩) rfl hA rfl (mz_dg d_Mk_offerAll 2 4 (.invokevirtual 71) 3 rfl)) ?_
  refine mz_All.cons (sd_iconst hx hb (mz_dg d_Mk_offerAll 3 7 (.iconst (0)) 1 rfl) (by decide)) ?_
  refine mz_All.cons (sd_istore_n hx hb (mz_dg d_Mk_offerAll 4 8 (.istore_n 2) 1 rfl) rfl (by decide)) ?_
  refine mz_All.cons (sd_iload_n hx hb (mz_dg d_Mk_offerAll 5 9 (.iload_n 2) 1 rfl) rfl) ?_
  refine mz_All.cons (sd_iconst hx hb (mz_dg d_Mk_offerAll 6 10 (.iconst (4)) 1 rfl) (by decide)) ?_
  refine mz_All.cons (sd_icmp_ge hx hb (mz_dg d_Mk_offerAll 7 11 (.if_icmp .ge (25)) 3 rfl) (by decide)) ?_
  refine mz_All.cons (sd_aload_n hx hb (mz_dg d_Mk_offerAll 8 14 (.aload_n 0) 1 rfl) rfl) ?_
  refine mz_All.cons (sd_get (k := 3) hx hb hts (mz_inC in_Mk) hown (T := T_Mk) (N := 7) rfl (by decide) (hts (.fieldLink "MazeForms$Maker" 34 "MazeForms$Maker" "choice" "LMazeForms$DoorRow;") (List.mem_cons_of_mem _ wm_232)) (fun _ h => h) (mz_dg d_Mk_offerAll 9 15 (.getfield 34) 3 rfl)) ?_
  refine mz_All.cons (sd_aload_n hx hb (mz_dg d_Mk_offerAll 10 18 (.aload_n 0) 1 rfl) rfl) ?_
  refine mz_All.cons (sd_get (k := 0) hx hb hts (mz_inC in_Mk) hown (T := T_Mk) (N := 7) rfl (by decide) (hts (.fieldLink "MazeForms$Maker" 9 "MazeForms$Maker" "grid" "LMazeForms$Grid;") (List.mem_cons_of_mem _ wm_229)) (fun _ h => h) (mz_dg d_Mk_offerAll 11 19 (.getfield 9) 3 rfl)) ?_
  refine mz_All.cons (sd_iload_n hx hb (mz_dg d_Mk_offerAll 12 22 (.iload_n 1) 1 rfl) rfl) ?_
  refine mz_All.cons (sd_iload_n hx hb (mz_dg d_Mk_offerAll 13 23 (.iload_n 2) 1 rfl) rfl) ?_
  refine mz_All.cons (sd_calli (T := T_Gr) ⟨hx, hb, hml, hown, hts⟩ (met_Gr_doorOn w h l) (cwV 2 hts (mz_gV wm_371 wm_372 wm_373 wm_67 wm_374) rfl rfl rfl (by decide) ⟨by decide, by decide⟩) rfl hA rfl (mz_dg d_Mk_offerAll 14 24 (.invokevirtual 125) 3 rfl)) ?_
  refine mz_All.cons (sd_callv (T := T_Dr) ⟨hx, hb, hml, hown, hts⟩ (met_Dr_add w h l) (cwV 1 hts (mz_gV wm_387 wm_388 wm_389 wm_74 wm_390) rfl rfl rfl (by decide) ⟨by decide, by decide⟩) rfl hA rfl (mz_dg d_Mk_offerAll 15 27 (.invokevirtual 81) 3 rfl)) ?_
  refine mz_All.cons (sd_iinc hx hb (mz_dg d_Mk_offerAll 16 30 (.iinc 2 (1)) 3 rfl) (by decide) (by decide)) ?_
  refine mz_All.cons (sd_goto hx hb (mz_dg d_Mk_offerAll 17 33 (.goto (-24)) 3 rfl) (by decide)) ?_
  refine mz_All.cons (sd_rv hx hb hr hlk (mz_dg d_Mk_offerAll 18 36 (.return_) 1 rfl)) ?_
  exact trivial
theorem met_Mk_offerAll (w h : Nat) (l : Launch) : mz_MV l y_Mk_offerAll w_Mk_offerAll 2 44 mz_cls (C_Mk_offerAll w h) := mz_MV_of (I_Mk_offerAll w h) (by decide) rfl (len_Mk_offerAll w h) (ok_Mk_offerAll w h) (snd_Mk_offerAll w h l)
set_option maxRecDepth 20000 in
theorem snd_Mk_offerRim (w h : Nat) (l : Launch) (p : Program) (e : Env) (s : State) (m : MethodId) (args : Array Value) (below : List Frame) (meth : Method) (c : Code) (D : va_G) (ad0 : Nat → Nat) (cA0 : Nat → ClassId) (A : Nat → Prop) (lay : List mz_E) (Q : mz_X → Prop) (F : mz_F p s m args meth c prog_7_method_14_code 2 y_Mk_offerRim.cls none w_Mk_offerRim) (hA : ∀ q, s.heap.size ≤ q → A q) : mz_All (mz_V p l e (mz_rm 2 42) s m args below meth c 2 lay.length (mz_sz lay) D mz_cls (mz_G0 ad0 cA0) A (MQ below (va_Qv Q (mz_B D mz_cls ad0 cA0 lay A) A) args s 0 0 A)) (mz_qv lay Q) (I_Mk_offerRim w h) := by
  obtain ⟨hx, hb, hml, hown, hts, hr, hlk⟩ := F
  unfold I_Mk_offerRim
  refine mz_All.cons (sd_aload_n hx hb (mz_dg d_Mk_offerRim 0 0 (.aload_n 0) 1 rfl) rfl) ?_
  refine mz_All.cons (sd_get (k := 3) hx hb hts (mz_inC in_Mk) hown (T := T_Mk) (N := 7) rfl (by decide) (hts (.fieldLink "MazeForms$Maker" 34 "MazeForms$Maker" "choice" "LMazeForms$DoorRow;") (List.mem_cons_of_mem _ wm_232)) (fun _ h => h) (mz_dg d_Mk_offerRim 1 1 (.getfield 34) 3 rfl)) ?_
  refine mz_All.cons (sd_callv (T := T_Dr) ⟨hx, hb, hml, hown, hts⟩ (met_Dr_clear w h l) (cwV 0 hts (mz_gV wm_367 wm_368 wm_369 wm_74 wm_370) rfl rfl rfl (by decide) ⟨by decide, by decide⟩) rfl hA rfl (mz_dg d_Mk_offerRim 2 4 (.invokevirtual 71) 3 rfl)) ?_
  refine mz_All.cons (sd_iconst hx hb (mz_dg d_Mk_offerRim 3 7 (.iconst (0)) 1 rfl) (by decide)) ?_
  refine mz_All.cons (sd_istore_n hx hb (mz_dg d_Mk_offerRim 4 8 (.istore_n 1) 1 rfl) rfl (by decide)) ?_
  refine mz_All.cons (sd_iload_n hx hb (mz_dg d_Mk_offerRim 5 9 (.iload_n 1) 1 rfl) rfl) ?_
  refine mz_All.cons (sd_aload_n hx hb (mz_dg d_Mk_offerRim 6 10 (.aload_n 0) 1 rfl) rfl) ?_
  refine mz_All.cons (sd_get (k := 0) hx hb hts (mz_inC in_Mk) hown (T := T_Mk) (N := 7) rfl (by decide) (hts (.fieldLink "MazeForms$Maker" 9 "MazeForms$Maker" "grid" "LMazeForms$Grid;") (List.mem_cons_of_mem _ wm_229)) (fun _ h => h) (mz_dg d_Mk_offerRim 7 11 (.getfield 9) 3 rfl)) ?_
  refine mz_All.cons (sd_calli (T := T_Gr) ⟨hx, hb, hml, hown, hts⟩ (met_Gr_doorCount w h l) (cwV 0 hts (mz_gV wm_425 wm_426 wm_427 wm_67 wm_428) rfl rfl rfl (by decide) ⟨by decide, by decide⟩) rfl hA rfl (mz_dg d_Mk_offerRim 8 14 (.invokevirtual 74) 3 rfl)) ?_
  refine mz_All.cons (sd_icmp_ge hx hb (mz_dg d_Mk_offerRim 9 17 (.if_icmp .ge (44)) 3 rfl) (by decide)) ?_
  refine mz_All.cons (sd_aload_n hx hb (mz_dg d_Mk_offerRim 10 20 (.aload_n 0) 1 rfl) rfl) ?_
  refine mz_All.cons (sd_aload_n hx hb (mz_dg d_Mk_offerRim 11 21 (.aload_n 0) 1 rfl) rfl) ?_
  refine mz_All.cons (sd_get (k := 0) hx hb hts (mz_inC in_Mk) hown (T := T_Mk) (N := 7) rfl (by decide) (hts (.fieldLink "MazeForms$Maker" 9 "MazeForms$Maker" "grid" "LMazeForms$Grid;") (List.mem_cons_of_mem _ wm_229)) (fun _ h => h) (mz_dg d_Mk_offerRim 12 22 (.getfield 9) 3 rfl)) ?_
  refine mz_All.cons (sd_iload_n hx hb (mz_dg d_Mk_offerRim 13 25 (.iload_n 1) 1 rfl) rfl) ?_
  refine mz_All.cons (sd_calli (T := T_Gr) ⟨hx, hb, hml, hown, hts⟩ (met_Gr_lesserCell w h l) (cwV 1 hts (mz_gV wm_471 wm_451 wm_452 wm_67 wm_453) rfl rfl rfl (by decide) ⟨by decide, by decide⟩) rfl hA rfl (mz_dg d_Mk_offerRim 14 26 (.invokevirtual 148) 3 rfl)) ?_
  refine mz_All.cons (sd_calli (T := T_Mk) ⟨hx, hb, hml, hown, hts⟩ (met_Mk_isReached w h l) (cwV 1 hts (mz_gV wm_383 wm_385 wm_6 wm_72 wm_386) rfl rfl rfl (by decide) ⟨by decide, by decide⟩) rfl hA rfl (mz_dg d_Mk_offerRim 15 29 (.invokevirtual 128) 3 rfl)) ?_
  refine mz_All.cons (sd_aload_n hx hb (mz_dg d_Mk_offerRim 16 32 (.aload_n 0) 1 rfl) rfl) ?_
  refine mz_All.cons (sd_aload_n hx hb (mz_dg d_Mk_offerRim 17 33 (.aload_n 0) 1 rfl) rfl) ?_
  refine mz_All.cons (sd_get (k := 0) hx hb hts (mz_inC in_Mk) hown (T := T_Mk) (N := 7) rfl (by decide) (hts (.fieldLink "MazeForms$Maker" 9 "MazeForms$Maker" "grid" "LMazeForms$Grid;") (List.mem_cons_of_mem _ wm_229)) (fun _ h => h) (mz_dg d_Mk_offerRim 18 34 (.getfield 9) 3 rfl)) ?_
  refine mz_All.cons (sd_iload_n hx hb (mz_dg d_Mk_offerRim 19 37 (.iload_n 1) 1 rfl) rfl) ?_
  refine mz_All.cons (sd_calli (T := T_Gr) ⟨hx, hb, hml, hown, hts⟩ (met_Gr_greaterCell w h l) (cwV 1 hts (mz_gV wm_472 wm_460 wm_461 wm_67 wm_462) rfl rfl rfl (by decide) ⟨by decide, by decide⟩) rfl hA rfl (mz_dg d_Mk_offerRim 20 38 (.invokevirtual 151) 3 rfl)) ?_
  refine mz_All.cons (sd_calli (T := T_Mk) ⟨hx, hb, hml, hown, hts⟩ (met_Mk_isReached w h l) (cwV 1 hts (mz_gV wm_383 wm_385 wm_6 wm_72 wm_386) rfl rfl rfl (by decide) ⟨by decide, by decide⟩) rfl hA rfl (mz_dg d_Mk_offerRim 21 41 (.invokevirtual 128) 3 rfl)) ?_
  refine mz_All.cons (sd_icmp_eq hx hb (mz_dg d_Mk_offerRim 22 44 (.if_icmp .eq (11)) 3 rfl) (by decide)) ?_
  refine mz_All.cons (sd_aload_n hx hb (mz_dg d_Mk_offerRim 23 47 (.aload_n 0) 1 rfl) rfl) ?_
  refine mz_All.cons (sd_get (k := 3) hx hb hts (mz_inC in_Mk) hown (T := T_Mk) (N := 7) rfl (by decide) (hts (.fieldLink "MazeForms$Maker" 34 "MazeForms$Maker" "choice" "LMazeForms$DoorRow;") (List.mem_cons_of_mem _ wm_232)) (fun _ h => h) (mz_dg d_Mk_offerRim 24 48 (.getfield 34) 3 rfl)) ?_
  refine mz_All.cons (sd_iload_n hx hb (mz_dg d_Mk_offerRim 25 51 (.iload_n 1) 1 rfl) rfl) ?_
  refine mz_All.cons (sd_callv (T := T_Dr) ⟨hx, hb, hml, hown, hts⟩ (met_Dr_add w h l) (cwV 1 hts (mz_gV wm_387 wm_388 wm_389 wm_74 wm_390) rfl rfl rfl (by decide) ⟨by decide, by decide⟩) rfl hA rfl (mz_dg d_Mk_offerRim 26 52 (.invokevirtual 81) 3 rfl)) ?_
  refine mz_All.cons (sd_iinc hx hb (mz_dg d_Mk_offerRim 27 55 (.iinc 1 (1)) 3 rfl) (by decide) (by decide)) ?_
  refine mz_All.cons (sd_goto hx hb (mz_dg d_Mk_offerRim 28 58 (.goto (-49)) 3 rfl) (by decide)) ?_
  refine mz_All.cons (sd_rv hx hb hr hlk (mz_dg d_Mk_offerRim 29 61 (.return_) 1 rfl)) ?_
  exact trivial
theorem met_Mk_offerRim (w h : Nat) (l : Launch) : mz_MV l y_Mk_offerRim w_Mk_offerRim 2 42 mz_cls (C_Mk_offerRim w h) := mz_MV_of (I_Mk_offerRim w h) (by decide) rfl (len_Mk_offerRim w h) (ok_Mk_offerRim w h) (snd_Mk_offerRim w h l)
