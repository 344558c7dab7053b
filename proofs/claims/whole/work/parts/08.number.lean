def C_Ja_fillI (w h : Nat) : mz_CV := fun lay as X Q => match as with
  | [.ref q, .int v] => ∃ t n : Nat, lay[q]? = some (.inl (t, 0, n)) ∧ n < 2 ^ 31 ∧ Q (mz_fil X.1 q n v, X.2)
  | _ => False
def C_Ja_fillJ (w h : Nat) : mz_CV := fun lay as X Q => match as with
  | [.ref q, .long v] => ∃ t n : Nat, lay[q]? = some (.inl (t, 2, n)) ∧ n < 2 ^ 31 ∧ Q (X.1, mz_fil X.2 q n v)
  | _ => False
/-- what numberDoors does: at a cell, in a row, in rows -/
def zg_step1 (w h : Nat) (X : mz_X) (x y : Nat) : mz_X := zg_add w h X (zg_at X (nI x) (nI y)) 1 (zg_at X (nI x + 1) (nI y)) 3
def zg_step (w h : Nat) (X : mz_X) (x y : Nat) : mz_X := zg_add w h (zg_step1 w h X x y) (zg_at X (nI x) (nI y)) 2 (zg_at (zg_step1 w h X x y) (nI x) (nI y + 1)) 0
def zg_row (w h : Nat) (X : mz_X) (y k : Nat) : mz_X := match k with
  | 0 => X
  | j + 1 => zg_step w h (zg_row w h X y j) j y
def zg_rows (w h : Nat) (X : mz_X) (k : Nat) : mz_X := match k with
  | 0 => X
  | j + 1 => zg_row w h (zg_rows w h X j) j w
def zg_num0 (w h : Nat) (X : mz_X) : mz_X := (mz_up (mz_fil X.1 3 (4 * (w * h)) (-1)) 1 7 0, X.2)
def zg_num (w h : Nat) (X : mz_X) : mz_X := zg_rows w h (zg_num0 w h X) h
/-- the grid's edges, and a number of doors that fits -/
def zg_inv (w h : Nat) (X : mz_X) : Prop := X.1 1 0 = nI w ∧ X.1 1 1 = nI h ∧ ∃ k, k ≤ mz_dn w h ∧ X.1 1 7 = nI k
def zg_maskB (w h : Nat) (X : mz_X) (c v : Int32) : Bool := mz_lt c (w * h) && !decide (X.1 2 c.toNatClampNeg = v)
def zg_maskX (w h : Nat) (X : mz_X) (c v : Int32) : mz_X := zg_num w h (mz_up (zg_closeX w h X).1 2 c.toNatClampNeg v, (zg_closeX w h X).2)
def C_Gr_numberDoors (w h : Nat) : mz_CV := fun lay as X Q => match as with
  | [.ref 1] => lay = mz_lay w h ∧ mz_geo w h ∧ X.1 1 0 = nI w ∧ X.1 1 1 = nI h ∧ Q (zg_num w h X)
  | _ => False
def C_Gr_setMask (w h : Nat) : mz_CI := fun lay as X Q => match as with
  | [.ref 1, .int c, .int v] => lay = mz_lay w h ∧ mz_geo w h ∧ X.1 1 0 = nI w ∧ X.1 1 1 = nI h ∧ (v = 0 ∨ v = 1) ∧ Q (mz_b (zg_maskB w h X c v)) (match zg_maskB w h X c v with
    | true => zg_maskX w h X c v
    | false => X)
  | _ => False
def y_Ja_fillI : MethodName := ⟨"java/util/Arrays", "fill", "([II)V"⟩
abbrev w_Ja_fillI : List Cond := .code y_Ja_fillI prog_13_method_103_code 4 none :: mz_tb
def dl_Ja_fillI : List (Nat × ClassFile.Instr × Nat) := [(0, .iconst (0), 1), (1, .istore_n 2, 1), (2, .aload_n 0, 1), (3, .arraylength, 1), (4, .istore_n 3, 1), (5, .iload_n 2, 1), (6, .iload_n 3, 1), (7, .if_icmp .ge (13), 3), (10, .aload_n 0, 1), (11, .iload_n 2, 1), (12, .iload_n 1, 1), (13, .iastore, 1), (14, .iinc 2 (1), 3), (17, .goto (-12), 3), (20, .return_, 1)]
theorem d_Ja_fillI : mz_dec prog_13_method_103_code dl_Ja_fillI = true := by decide +kernel
def y_Ja_fillJ : MethodName := ⟨"java/util/Arrays", "fill", "([JJ)V"⟩
abbrev w_Ja_fillJ : List Cond := .code y_Ja_fillJ prog_13_method_101_code 5 none :: mz_tb
def dl_Ja_fillJ : List (Nat × ClassFile.Instr × Nat) := [(0, .iconst (0), 1), (1, .istore_n 3, 1), (2, .aload_n 0, 1), (3, .arraylength, 1), (4, .istore 4, 2), (6, .iload_n 3, 1), (7, .iload 4, 2), (9, .if_icmp .ge (13), 3), (12, .aload_n 0, 1), (13, .iload_n 3, 1), (14, .lload_n 1, 1), (15, .lastore, 1), (16, .iinc 3 (1), 3), (19, .goto (-13), 3), (22, .return_, 1)]
theorem d_Ja_fillJ : mz_dec prog_13_method_101_code dl_Ja_fillJ = true := by decide +kernel
def y_Gr_numberDoors : MethodName := ⟨"MazeForms$Grid", "numberDoors", "()V"⟩
abbrev w_Gr_numberDoors : List Cond := .code y_Gr_numberDoors prog_5_method_24_code 4 none :: mz_tb
def dl_Gr_numberDoors : List (Nat × ClassFile.Instr × Nat) := [(0, .aload_n 0, 1), (1, .getfield 26, 3), (4, .iconst (-1), 1), (5, .invokestatic 73, 3), (8, .aload_n 0, 1), (9, .iconst (0), 1), (10, .putfield 42, 3), (13, .iconst (0), 1), (14, .istore_n 1, 1), (15, .iload_n 1, 1), (16, .aload_n 0, 1), (17, .getfield 19, 3), (20, .if_icmp .ge (62), 3), (23, .iconst (0), 1), (24, .istore_n 2, 1), (25, .iload_n 2, 1), (26, .aload_n 0, 1), (27, .getfield 15, 3), (30, .if_icmp .ge (46), 3), (33, .aload_n 0, 1), (34, .iload_n 2, 1), (35, .iload_n 1, 1), (36, .invokevirtual 79, 3), (39, .istore_n 3, 1), (40, .aload_n 0, 1), (41, .iload_n 3, 1), (42, .iconst (1), 1), (43, .aload_n 0, 1), (44, .iload_n 2, 1), (45, .iconst (1), 1), (46, .iadd, 1), (47, .iload_n 1, 1), (48, .invokevirtual 79, 3), (51, .iconst (3), 1), (52, .invokevirtual 82, 3), (55, .aload_n 0, 1), (56, .iload_n 3, 1), (57, .iconst (2), 1), (58, .aload_n 0, 1), (59, .iload_n 2, 1), (60, .iload_n 1, 1), (61, .iconst (1), 1), (62, .iadd, 1), (63, .invokevirtual 79, 3), (66, .iconst (0), 1), (67, .invokevirtual 82, 3), (70, .iinc 2 (1), 3), (73, .goto (-48), 3), (76, .iinc 1 (1), 3), (79, .goto (-64), 3), (82, .return_, 1)]
theorem d_Gr_numberDoors : mz_dec prog_5_method_24_code dl_Gr_numberDoors = true := by decide +kernel
def y_Gr_setMask : MethodName := ⟨"MazeForms$Grid", "setMask", "(IZ)Z"⟩
abbrev w_Gr_setMask : List Cond := .code y_Gr_setMask prog_5_method_21_code 3 (some .boolean) :: mz_tb
def dl_Gr_setMask : List (Nat × ClassFile.Instr × Nat) := [(0, .aload_n 0, 1), (1, .iload_n 1, 1), (2, .invokevirtual 48, 3), (5, .ifCond .eq (13), 3), (8, .aload_n 0, 1), (9, .getfield 22, 3), (12, .iload_n 1, 1), (13, .baload, 1), (14, .iload_n 2, 1), (15, .if_icmp .ne (5), 3), (18, .iconst (0), 1), (19, .ireturn, 1), (20, .aload_n 0, 1), (21, .invokevirtual 62, 3), (24, .aload_n 0, 1), (25, .getfield 22, 3), (28, .iload_n 1, 1), (29, .iload_n 2, 1), (30, .bastore, 1), (31, .aload_n 0, 1), (32, .invokevirtual 39, 3), (35, .iconst (1), 1), (36, .ireturn, 1)]
theorem d_Gr_setMask : mz_dec prog_5_method_21_code dl_Gr_setMask = true := by decide +kernel
def I_Ja_fillI (w h : Nat) : List (Nat × mz_Op) := [(0, mz_push (.int (0)) 1), (1, mz_sti 2 2), (2, mz_lda 0 3), (3, mz_al 4), (4, mz_sti 3 5), (5, mz_ldi 2 6), (6, mz_ldi 3 7), (7, mz_ic (fun x y => y ≤ x) 20 10), (10, mz_lda 0 11), (11, mz_ldi 2 12), (12, mz_ldi 1 13), (13, mz_iast 0 14), (14, mz_inc 2 (1) 17), (17, mz_go 5), (20, mz_rv)]
def I_Ja_fillJ (w h : Nat) : List (Nat × mz_Op) := [(0, mz_push (.int (0)) 1), (1, mz_sti 3 2), (2, mz_lda 0 3), (3, mz_al 4), (4, mz_sti 4 6), (6, mz_ldi 3 7), (7, mz_ldi 4 9), (9, mz_ic (fun x y => y ≤ x) 22 12), (12, mz_lda 0 13), (13, mz_ldi 3 14), (14, mz_ldl 1 15), (15, mz_last 16), (16, mz_inc 3 (1) 19), (19, mz_go 6), (22, mz_rv)]
def I_Gr_numberDoors (w h : Nat) : List (Nat × mz_Op) := [(0, mz_lda 0 1), (1, mz_gf 3 3 4), (4, mz_push (.int (-1)) 5), (5, mz_svo 2 (C_Ja_fillI w h) 8), (8, mz_lda 0 9), (9, mz_push (.int (0)) 10), (10, mz_pfi 3 7 13), (13, mz_push (.int (0)) 14), (14, mz_sti 1 15), (15, mz_ldi 1 16), (16, mz_lda 0 17), (17, mz_gf 3 1 20), (20, mz_ic (fun x y => y ≤ x) 82 23), (23, mz_push (.int (0)) 24), (24, mz_sti 2 25), (25, mz_ldi 2 26), (26, mz_lda 0 27), (27, mz_gf 3 0 30), (30, mz_ic (fun x y => y ≤ x) 76 33), (33, mz_lda 0 34), (34, mz_ldi 2 35), (35, mz_ldi 1 36), (36, mz_ci 3 3 (C_Gr_cellAt w h) 39), (39, mz_sti 3 40), (40, mz_lda 0 41), (41, mz_ldi 3 42), (42, mz_push (.int (1)) 43), (43, mz_lda 0 44), (44, mz_ldi 2 45), (45, mz_push (.int (1)) 46), (46, mz_bi (fun x y => x + y) 47), (47, mz_ldi 1 48), (48, mz_ci 3 3 (C_Gr_cellAt w h) 51), (51, mz_push (.int (3)) 52), (52, mz_cvo 5 3 (C_Gr_addDoor w h) 55), (55, mz_lda 0 56), (56, mz_ldi 3 57), (57, mz_push (.int (2)) 58), (58, mz_lda 0 59), (59, mz_ldi 2 60), (60, mz_ldi 1 61), (61, mz_push (.int (1)) 62), (62, mz_bi (fun x y => x + y) 63), (63, mz_ci 3 3 (C_Gr_cellAt w h) 66), (66, mz_push (.int (0)) 67), (67, mz_cvo 5 3 (C_Gr_addDoor w h) 70), (70, mz_inc 2 (1) 73), (73, mz_go 25), (76, mz_inc 1 (1) 79), (79, mz_go 15), (82, mz_rv)]
def I_Gr_setMask (w h : Nat) : List (Nat × mz_Op) := [(0, mz_lda 0 1), (1, mz_ldi 1 2), (2, mz_ci 2 3 (C_Gr_isCell w h) 5), (5, mz_if (fun x => x = 0) 18 8), (8, mz_lda 0 9), (9, mz_gf 3 2 12), (12, mz_ldi 1 13), (13, mz_iald 1 14), (14, mz_ldi 2 15), (15, mz_ic (fun x y => x = y) 18 20), (18, mz_push (.int (0)) 19), (19, mz_rz), (20, mz_lda 0 21), (21, mz_cvo 1 3 (C_Gr_closeDoors w h) 24), (24, mz_lda 0 25), (25, mz_gf 3 2 28), (28, mz_ldi 1 29), (29, mz_ldi 2 30), (30, mz_iast 1 31), (31, mz_lda 0 32), (32, mz_cvo 1 3 (C_Gr_numberDoors w h) 35), (35, mz_push (.int (1)) 36), (36, mz_rz)]
theorem len_Ja_fillI (w h : Nat) (lay : List mz_E) (as : List Value) (X : mz_X) (Q : mz_X → Prop) (hC : C_Ja_fillI w h lay as X Q) : (mz_l0 as).length ≤ 4 := by
  unfold C_Ja_fillI at hC
  split at hC
  · exact Nat.le_of_ble_eq_true rfl
  · exact hC.elim
theorem ok_Ja_fillI (w h : Nat) (lay : List mz_E) (as : List Value) (X : mz_X) (Q : mz_X → Prop) (hC : C_Ja_fillI w h lay as X Q) (K : mz_K) (hK : mz_Cl (I_Ja_fillI w h) (mz_qv lay Q) K) : K 0 (mz_ent 4 as) [] (lay, X) := by
  unfold C_Ja_fillI at hC
  split at hC
  · next q v =>
    obtain ⟨t, n, hl, hn, hq⟩ := hC
    have loop : ∀ (k i : Nat), i + k = n → K 5 [some (.ref q), some (.int v), some (.int (nI i)), some (.int (nI n))] [] (lay, mz_fil X.1 q i v, X.2) := by
      intro k
      induction k with
      | zero =>
        intro i hi
        iterate 2 refine hK _ _ _ _ ?_
        refine hK _ _ _ _ (And.intro (fun c1 => ?_) (fun c1 => ?_))
        · exact hK _ _ _ _ (And.intro rfl (by rw [← hi] at hq; exact hq))
        · exact absurd (nI_le (a := n) (b := i) (by omega) (by omega)) c1
      | succ k ih =>
        intro i hi
        iterate 2 refine hK _ _ _ _ ?_
        refine hK _ _ _ _ (And.intro (fun c1 => ?_) (fun c1 => ?_))
        · exact absurd c1 (nI_ge (by omega) (by omega))
        · iterate 3 refine hK _ _ _ _ ?_
          refine hK _ _ _ _ (?_ : mz_iast 0 14 (mz_qv lay Q) K [some (.ref q), some (.int v), some (.int (nI i)), some (.int (nI n))] [.int v, .int (nI i), .ref q] (lay, mz_fil X.1 q i v, X.2))
          simp only [mz_iast, mz_ar, hl]
          refine ⟨vp_in_nI (by omega) (by omega), ?_⟩
          iterate 2 refine hK _ _ _ _ ?_
          have := ih (i + 1) (by omega)
          rw [← mz_fil_s, ← nI_1] at this
          rw [nI_clamp (by omega)]
          exact this
    iterate 3 refine hK _ _ _ _ ?_
    refine hK _ _ _ _ (?_ : mz_al 4 (mz_qv lay Q) K [some (.ref q), some (.int v), some (.int 0), none] [.ref q] (lay, X))
    simp only [mz_al, hl]
    refine hK _ _ _ _ ?_
    have := loop n 0 (by omega)
    rw [mz_fil_0] at this
    exact this
  · exact hC.elim
theorem len_Ja_fillJ (w h : Nat) (lay : List mz_E) (as : List Value) (X : mz_X) (Q : mz_X → Prop) (hC : C_Ja_fillJ w h lay as X Q) : (mz_l0 as).length ≤ 5 := by
  unfold C_Ja_fillJ at hC
  split at hC
  · exact Nat.le_of_ble_eq_true rfl
  · exact hC.elim
theorem ok_Ja_fillJ (w h : Nat) (lay : List mz_E) (as : List Value) (X : mz_X) (Q : mz_X → Prop) (hC : C_Ja_fillJ w h lay as X Q) (K : mz_K) (hK : mz_Cl (I_Ja_fillJ w h) (mz_qv lay Q) K) : K 0 (mz_ent 5 as) [] (lay, X) := by
  unfold C_Ja_fillJ at hC
  split at hC
  · next q v =>
    obtain ⟨t, n, hl, hn, hq⟩ := hC
    have loop : ∀ (k i : Nat), i + k = n → K 6 [some (.ref q), some (.long v), none, some (.int (nI i)), some (.int (nI n))] [] (lay, X.1, mz_fil X.2 q i v) := by
      intro k
      induction k with
      | zero =>
        intro i hi
        iterate 2 refine hK _ _ _ _ ?_
        refine hK _ _ _ _ (And.intro (fun c1 => ?_) (fun c1 => ?_))
        · exact hK _ _ _ _ (And.intro rfl (by rw [← hi] at hq; exact hq))
        · exact absurd (nI_le (a := n) (b := i) (by omega) (by omega)) c1
      | succ k ih =>
        intro i hi
        iterate 2 refine hK _ _ _ _ ?_
        refine hK _ _ _ _ (And.intro (fun c1 => ?_) (fun c1 => ?_))
        · exact absurd c1 (nI_ge (by omega) (by omega))
        · iterate 3 refine hK _ _ _ _ ?_
          refine hK _ _ _ _ (?_ : mz_last 16 (mz_qv lay Q) K [some (.ref q), some (.long v), none, some (.int (nI i)), some (.int (nI n))] [.long v, .int (nI i), .ref q] (lay, X.1, mz_fil X.2 q i v))
          simp only [mz_last, mz_ar, hl]
          refine ⟨vp_in_nI (by omega) (by omega), ?_⟩
          iterate 2 refine hK _ _ _ _ ?_
          have := ih (i + 1) (by omega)
          rw [← mz_fil_s, ← nI_1] at this
          rw [nI_clamp (by omega)]
          exact this
    iterate 3 refine hK _ _ _ _ ?_
    refine hK _ _ _ _ (?_ : mz_al 4 (mz_qv lay Q) K [some (.ref q), some (.long v), none, some (.int 0), none] [.ref q] (lay, X))
    simp only [mz_al, hl]
    refine hK _ _ _ _ ?_
    have := loop n 0 (by omega)
    rw [mz_fil_0] at this
    exact this
  · exact hC.elim
theorem zg_add_keep (w h : Nat) (X : mz_X) (c s o t : Int32) : (zg_add w h X c s o t).1 1 0 = X.1 1 0 ∧ (zg_add w h X c s o t).1 1 1 = X.1 1 1 := by
  unfold zg_add
  split <;> simp [zg_addX, mz_up]
theorem zg_add_inv {w h : Nat} {X : mz_X} (g : mz_geo w h) (hi : zg_inv w h X) (c s o t : Int32) : zg_inv w h (zg_add w h X c s o t) := by
  have hk := zg_add_keep w h X c s o t
  have hd := mz_geo_d g
  obtain ⟨h0, h1, k, hk1, hk2⟩ := hi
  refine ⟨by rw [hk.1, h0], by rw [hk.2, h1], ?_⟩
  unfold zg_add
  split
  · next hb =>
    simp only [zg_addB, Bool.and_eq_true, decide_eq_true_eq, hk2] at hb
    have hlt := (nI_ltI (by omega) (by omega)).mp hb.2
    exact ⟨k + 1, by omega, by simp [zg_addX, mz_up, hk2, nI_1]⟩
  · exact ⟨k, hk1, hk2⟩
theorem zg_inv_7 {w h : Nat} {X : mz_X} (g : mz_geo w h) (hi : zg_inv w h X) : ¬ X.1 1 7 < 0 := by
  have hd := mz_geo_d g
  obtain ⟨-, -, k, hk1, hk2⟩ := hi
  rw [hk2]
  exact nI_pos (by omega)
theorem zg_step1_inv {w h : Nat} {X : mz_X} (g : mz_geo w h) (hi : zg_inv w h X) (x y : Nat) : zg_inv w h (zg_step1 w h X x y) := zg_add_inv g hi _ _ _ _
theorem zg_step_inv {w h : Nat} {X : mz_X} (g : mz_geo w h) (hi : zg_inv w h X) (x y : Nat) : zg_inv w h (zg_step w h X x y) := zg_add_inv g (zg_step1_inv g hi x y) _ _ _ _
theorem zg_row_inv {w h : Nat} {X : mz_X} (g : mz_geo w h) (hi : zg_inv w h X) (y : Nat) : ∀ k, zg_inv w h (zg_row w h X y k)
  | 0 => hi
  | k + 1 => zg_step_inv g (zg_row_inv g hi y k) k y
theorem zg_rows_inv {w h : Nat} {X : mz_X} (g : mz_geo w h) (hi : zg_inv w h X) : ∀ k, zg_inv w h (zg_rows w h X k)
  | 0 => hi
  | k + 1 => zg_row_inv g (zg_rows_inv g hi k) k w
theorem zg_num0_inv {w h : Nat} {X : mz_X} (h0 : X.1 1 0 = nI w) (h1 : X.1 1 1 = nI h) : zg_inv w h (zg_num0 w h X) := by
  refine ⟨by simp [zg_num0, mz_up, mz_fil, h0], by simp [zg_num0, mz_up, mz_fil, h1], 0, Nat.zero_le _, by simp [zg_num0, mz_up, nI_0]⟩
theorem len_Gr_numberDoors (w h : Nat) (lay : List mz_E) (as : List Value) (X : mz_X) (Q : mz_X → Prop) (hC : C_Gr_numberDoors w h lay as X Q) : (mz_l0 as).length ≤ 4 := by
  unfold C_Gr_numberDoors at hC
  split at hC
  · exact Nat.le_of_ble_eq_true rfl
  · exact hC.elim
theorem ok_Gr_numberDoors (w h : Nat) (lay : List mz_E) (as : List Value) (X : mz_X) (Q : mz_X → Prop) (hC : C_Gr_numberDoors w h lay as X Q) (K : mz_K) (hK : mz_Cl (I_Gr_numberDoors w h) (mz_qv lay Q) K) : K 0 (mz_ent 4 as) [] (lay, X) := by
  unfold C_Gr_numberDoors at hC
  split at hC
  ·
    obtain ⟨rfl, g, h0, h1, hq⟩ := hC
    have hgw : w ≤ 12 := g.2.1
    have hgh : h ≤ 12 := g.2.2.2
    have inner : ∀ (Y : mz_X) (y : Nat), zg_inv w h Y → (∀ L3' : Option Value, K 76 [some (.ref 1), some (.int (nI y)), some (.int (nI w)), L3'] [] (mz_lay w h, zg_row w h Y y w)) → ∀ (k i : Nat), i + k = w → ∀ L3 : Option Value, K 25 [some (.ref 1), some (.int (nI y)), some (.int (nI i)), L3] [] (mz_lay w h, zg_row w h Y y i) := by
      intro Y y hY hend k
      induction k with
      | zero =>
        intro i hi L3
        have hI := zg_row_inv g hY y i
        iterate 3 refine hK _ _ _ _ ?_
        refine hK _ _ _ _ (And.intro (fun c1 => ?_) (fun c1 => ?_))
        · have e : i = w := by omega
          rw [e]
          exact hend L3
        · dsimp only at c1
          rw [hI.1] at c1
          exact absurd (nI_le (a := w) (b := i) (by omega) (by omega)) c1
      | succ k ih =>
        intro i hi L3
        have hI := zg_row_inv g hY y i
        have hI1 := zg_step1_inv g hI i y
        iterate 3 refine hK _ _ _ _ ?_
        refine hK _ _ _ _ (And.intro (fun c1 => ?_) (fun c1 => ?_))
        · dsimp only at c1
          rw [hI.1] at c1
          exact absurd c1 (nI_ge (by omega) (by omega))
        · iterate 3 refine hK _ _ _ _ ?_
          refine hK _ _ _ _ (And.intro (rfl) (And.intro (g) ?_))
          iterate 9 refine hK _ _ _ _ ?_
          refine hK _ _ _ _ (And.intro (rfl) (And.intro (g) ?_))
          refine hK _ _ _ _ ?_
          refine hK _ _ _ _ (And.intro (rfl) (And.intro (g) (And.intro (zg_inv_7 g hI) (And.intro (by decide) (And.intro (by decide) ?_)))))
          iterate 8 refine hK _ _ _ _ ?_
          refine hK _ _ _ _ (And.intro (rfl) (And.intro (g) ?_))
          refine hK _ _ _ _ ?_
          refine hK _ _ _ _ (And.intro (rfl) (And.intro (g) (And.intro (zg_inv_7 g hI1) (And.intro (by decide) (And.intro (by decide) ?_)))))
          iterate 2 refine hK _ _ _ _ ?_
          have := ih (i + 1) (by omega) (some (.int (zg_at (zg_row w h Y y i) (nI i) (nI y))))
          rw [← nI_1] at this
          exact this
    have outer : ∀ (k i : Nat), i + k = h → ∀ L2 L3 : Option Value, K 15 [some (.ref 1), some (.int (nI i)), L2, L3] [] (mz_lay w h, zg_rows w h (zg_num0 w h X) i) := by
      intro k
      induction k with
      | zero =>
        intro i hi L2 L3
        have hI := zg_rows_inv g (zg_num0_inv h0 h1) i
        iterate 3 refine hK _ _ _ _ ?_
        refine hK _ _ _ _ (And.intro (fun c1 => ?_) (fun c1 => ?_))
        · exact hK _ _ _ _ (And.intro rfl (by unfold zg_num at hq; rw [show zg_rows w h (zg_num0 w h X) i = zg_rows w h (zg_num0 w h X) h by rw [← hi]; rfl]; exact hq))
        · dsimp only at c1
          rw [hI.2.1] at c1
          exact absurd (nI_le (a := h) (b := i) (by omega) (by omega)) c1
      | succ k ih =>
        intro i hi L2 L3
        have hI := zg_rows_inv g (zg_num0_inv h0 h1) i
        iterate 3 refine hK _ _ _ _ ?_
        refine hK _ _ _ _ (And.intro (fun c1 => ?_) (fun c1 => ?_))
        · dsimp only at c1
          rw [hI.2.1] at c1
          exact absurd c1 (nI_ge (by omega) (by omega))
        · iterate 2 refine hK _ _ _ _ ?_
          refine inner _ i hI (fun L3' => ?_) w 0 (by omega) L3
          iterate 2 refine hK _ _ _ _ ?_
          have := ih (i + 1) (by omega) (some (.int (nI w))) L3'
          rw [← nI_1] at this
          exact this
    iterate 3 refine hK _ _ _ _ ?_
    refine hK _ _ _ _ (Exists.intro 1 (Exists.intro (4 * (w * h)) (And.intro rfl (And.intro (by have := mz_geo_n g; omega) ?_))))
    iterate 5 refine hK _ _ _ _ ?_
    exact outer h 0 (by omega) none none
  · exact hC.elim
theorem len_Gr_setMask (w h : Nat) (lay : List mz_E) (as : List Value) (X : mz_X) (Q : Int32 → mz_X → Prop) (hC : C_Gr_setMask w h lay as X Q) : (mz_l0 as).length ≤ 3 := by
  unfold C_Gr_setMask at hC
  split at hC
  · exact Nat.le_of_ble_eq_true rfl
  · exact hC.elim
theorem ok_Gr_setMask (w h : Nat) (lay : List mz_E) (as : List Value) (X : mz_X) (Q : Int32 → mz_X → Prop) (hC : C_Gr_setMask w h lay as X Q) (K : mz_K) (hK : mz_Cl (I_Gr_setMask w h) (mz_qi lay Q) K) : K 0 (mz_ent 3 as) [] (lay, X) := by
  unfold C_Gr_setMask at hC
  split at hC
  · next c v =>
    obtain ⟨rfl, g, h0, h1, hv, hq⟩ := hC
    have hn := mz_geo_n g
    iterate 2 refine hK _ _ _ _ ?_
    refine hK _ _ _ _ (And.intro (rfl) (And.intro (g) ?_))
    refine hK _ _ _ _ (And.intro (fun c1 => ?_) (fun c1 => ?_))
    · rw [show zg_maskB w h X c v = false by simp [zg_maskB, mz_b0 c1]] at hq
      refine hK _ _ _ _ ?_
      exact hK _ _ _ _ (And.intro (Or.inl rfl) (And.intro rfl (hq)))
    · iterate 3 refine hK _ _ _ _ ?_
      refine hK _ _ _ _ (And.intro (mz_lt_in (mz_b1 c1) (by omega)) ?_)
      refine hK _ _ _ _ ?_
      refine hK _ _ _ _ (And.intro (fun c2 => ?_) (fun c2 => ?_))
      · dsimp only at c2
        rw [show zg_maskB w h X c v = false by simp [zg_maskB, c2]] at hq
        refine hK _ _ _ _ ?_
        exact hK _ _ _ _ (And.intro (Or.inl rfl) (And.intro rfl (hq)))
      · dsimp only at c2
        rw [show zg_maskB w h X c v = true by simp [zg_maskB, mz_b1 c1, c2]] at hq
        refine hK _ _ _ _ ?_
        refine hK _ _ _ _ (And.intro (rfl) (And.intro (g) ?_))
        iterate 4 refine hK _ _ _ _ ?_
        refine hK _ _ _ _ (And.intro (mz_lt_in (mz_b1 c1) (by omega)) ?_)
        rw [mz_narb hv]
        refine hK _ _ _ _ ?_
        refine hK _ _ _ _ (And.intro (rfl) (And.intro (g) (And.intro (by simp [zg_closeX, mz_up, mz_fil, h0]) (And.intro (by simp [zg_closeX, mz_up, mz_fil, h1]) ?_))))
        refine hK _ _ _ _ ?_
        exact hK _ _ _ _ (And.intro (Or.inr rfl) (And.intro rfl (hq)))
  · exact hC.elim
set_option maxRecDepth 20000 in
theorem snd_Ja_fillI (w h : Nat) (l : Launch) (p : Program) (e : Env) (s : State) (m : MethodId) (args : Array Value) (below : List Frame) (meth : Method) (c : Code) (D : va_G) (ad0 : Nat → Nat) (cA0 : Nat → ClassId) (A : Nat → Prop) (lay : List mz_E) (Q : mz_X → Prop) (F : mz_F p s m args meth c prog_13_method_103_code 4 y_Ja_fillI.cls none w_Ja_fillI) (hA : ∀ q, s.heap.size ≤ q → A q) : mz_All (mz_V p l e (mz_rm 0 0) s m args below meth c 4 lay.length (mz_sz lay) D mz_cls (mz_G0 ad0 cA0) A (MQ below (va_Qv Q (mz_B D mz_cls ad0 cA0 lay A) A) args s 0 0 A)) (mz_qv lay Q) (I_Ja_fillI w h) := by
  obtain ⟨hx, hb, hml, hown, hts, hr, hlk⟩ := F
  unfold I_Ja_fillI
  refine mz_All.cons (sd_iconst hx hb (mz_dg d_Ja_fillI 0 0 (.iconst (0)) 1 rfl) (by decide)) ?_
  refine mz_All.cons (sd_istore_n hx hb (mz_dg d_Ja_fillI 1 1 (.istore_n 2) 1 rfl) rfl (by decide)) ?_
  refine mz_All.cons (sd_aload_n hx hb (mz_dg d_Ja_fillI 2 2 (.aload_n 0) 1 rfl) rfl) ?_
  refine mz_All.cons (sd_alen hx hb (mz_dg d_Ja_fillI 3 3 (.arraylength) 1 rfl)) ?_
  refine mz_All.cons (sd_istore_n hx hb (mz_dg d_Ja_fillI 4 4 (.istore_n 3) 1 rfl) rfl (by decide)) ?_
  refine mz_All.cons (sd_iload_n hx hb (mz_dg d_Ja_fillI 5 5 (.iload_n 2) 1 rfl) rfl) ?_
  refine mz_All.cons (sd_iload_n hx hb (mz_dg d_Ja_fillI 6 6 (.iload_n 3) 1 rfl) rfl) ?_
  refine mz_All.cons (sd_icmp_ge hx hb (mz_dg d_Ja_fillI 7 7 (.if_icmp .ge (13)) 3 rfl) (by decide)) ?_
  refine mz_All.cons (sd_aload_n hx hb (mz_dg d_Ja_fillI 8 10 (.aload_n 0) 1 rfl) rfl) ?_
  refine mz_All.cons (sd_iload_n hx hb (mz_dg d_Ja_fillI 9 11 (.iload_n 2) 1 rfl) rfl) ?_
  refine mz_All.cons (sd_iload_n hx hb (mz_dg d_Ja_fillI 10 12 (.iload_n 1) 1 rfl) rfl) ?_
  refine mz_All.cons (sd_iast hx hb (mz_dg d_Ja_fillI 11 13 (.iastore) 1 rfl)) ?_
  refine mz_All.cons (sd_iinc hx hb (mz_dg d_Ja_fillI 12 14 (.iinc 2 (1)) 3 rfl) (by decide) (by decide)) ?_
  refine mz_All.cons (sd_goto hx hb (mz_dg d_Ja_fillI 13 17 (.goto (-12)) 3 rfl) (by decide)) ?_
  refine mz_All.cons (sd_rv hx hb hr hlk (mz_dg d_Ja_fillI 14 20 (.return_) 1 rfl)) ?_
  exact trivial
theorem met_Ja_fillI (w h : Nat) (l : Launch) : mz_MV l y_Ja_fillI w_Ja_fillI 0 0 mz_cls (C_Ja_fillI w h) := mz_MV_of (I_Ja_fillI w h) (by decide) rfl (len_Ja_fillI w h) (ok_Ja_fillI w h) (snd_Ja_fillI w h l)
set_option maxRecDepth 20000 in
theorem snd_Ja_fillJ (w h : Nat) (l : Launch) (p : Program) (e : Env) (s : State) (m : MethodId) (args : Array Value) (below : List Frame) (meth : Method) (c : Code) (D : va_G) (ad0 : Nat → Nat) (cA0 : Nat → ClassId) (A : Nat → Prop) (lay : List mz_E) (Q : mz_X → Prop) (F : mz_F p s m args meth c prog_13_method_101_code 5 y_Ja_fillJ.cls none w_Ja_fillJ) (hA : ∀ q, s.heap.size ≤ q → A q) : mz_All (mz_V p l e (mz_rm 0 0) s m args below meth c 5 lay.length (mz_sz lay) D mz_cls (mz_G0 ad0 cA0) A (MQ below (va_Qv Q (mz_B D mz_cls ad0 cA0 lay A) A) args s 0 0 A)) (mz_qv lay Q) (I_Ja_fillJ w h) := by
  obtain ⟨hx, hb, hml, hown, hts, hr, hlk⟩ := F
  unfold I_Ja_fillJ
  refine mz_All.cons (sd_iconst hx hb (mz_dg d_Ja_fillJ 0 0 (.iconst (0)) 1 rfl) (by decide)) ?_
  refine mz_All.cons (sd_istore_n hx hb (mz_dg d_Ja_fillJ 1 1 (.istore_n 3) 1 rfl) rfl (by decide)) ?_
  refine mz_All.cons (sd_aload_n hx hb (mz_dg d_Ja_fillJ 2 2 (.aload_n 0) 1 rfl) rfl) ?_
  refine mz_All.cons (sd_alen hx hb (mz_dg d_Ja_fillJ 3 3 (.arraylength) 1 rfl)) ?_
  refine mz_All.cons (sd_istore hx hb (mz_dg d_Ja_fillJ 4 4 (.istore 4) 2 rfl) (by decide)) ?_
  refine mz_All.cons (sd_iload_n hx hb (mz_dg d_Ja_fillJ 5 6 (.iload_n 3) 1 rfl) rfl) ?_
  refine mz_All.cons (sd_iload hx hb (mz_dg d_Ja_fillJ 6 7 (.iload 4) 2 rfl)) ?_
  refine mz_All.cons (sd_icmp_ge hx hb (mz_dg d_Ja_fillJ 7 9 (.if_icmp .ge (13)) 3 rfl) (by decide)) ?_
  refine mz_All.cons (sd_aload_n hx hb (mz_dg d_Ja_fillJ 8 12 (.aload_n 0) 1 rfl) rfl) ?_
  refine mz_All.cons (sd_iload_n hx hb (mz_dg d_Ja_fillJ 9 13 (.iload_n 3) 1 rfl) rfl) ?_
  refine mz_All.cons (sd_lload_n hx hb (mz_dg d_Ja_fillJ 10 14 (.lload_n 1) 1 rfl) rfl) ?_
  refine mz_All.cons (sd_last hx hb (mz_dg d_Ja_fillJ 11 15 (.lastore) 1 rfl)) ?_
  refine mz_All.cons (sd_iinc hx hb (mz_dg d_Ja_fillJ 12 16 (.iinc 3 (1)) 3 rfl) (by decide) (by decide)) ?_
  refine mz_All.cons (sd_goto hx hb (mz_dg d_Ja_fillJ 13 19 (.goto (-13)) 3 rfl) (by decide)) ?_
  refine mz_All.cons (sd_rv hx hb hr hlk (mz_dg d_Ja_fillJ 14 22 (.return_) 1 rfl)) ?_
  exact trivial
theorem met_Ja_fillJ (w h : Nat) (l : Launch) : mz_MV l y_Ja_fillJ w_Ja_fillJ 0 0 mz_cls (C_Ja_fillJ w h) := mz_MV_of (I_Ja_fillJ w h) (by decide) rfl (len_Ja_fillJ w h) (ok_Ja_fillJ w h) (snd_Ja_fillJ w h l)
set_option maxRecDepth 20000 in
theorem snd_Gr_numberDoors (w h : Nat) (l : Launch) (p : Program) (e : Env) (s : State) (m : MethodId) (args : Array Value) (below : List Frame) (meth : Method) (c : Code) (D : va_G) (ad0 : Nat → Nat) (cA0 : Nat → ClassId) (A : Nat → Prop) (lay : List mz_E) (Q : mz_X → Prop) (F : mz_F p s m args meth c prog_5_method_24_code 4 y_Gr_numberDoors.cls none w_Gr_numberDoors) (hA : ∀ q, s.heap.size ≤ q → A q) : mz_All (mz_V p l e (mz_rm 3 66) s m args below meth c 4 lay.length (mz_sz lay) D mz_cls (mz_G0 ad0 cA0) A (MQ below (va_Qv Q (mz_B D mz_cls ad0 cA0 lay A) A) args s 0 0 A)) (mz_qv lay Q) (I_Gr_numberDoors w h) := by
  obtain ⟨hx, hb, hml, hown, hts, hr, hlk⟩ := F
  unfold I_Gr_numberDoors
  refine mz_All.cons (sd_aload_n hx hb (mz_dg d_Gr_numberDoors 0 0 (.aload_n 0) 1 rfl) rfl) ?_
  refine mz_All.cons (sd_get (k := 3) hx hb hts (mz_inC in_Gr) hown (T := T_Gr) (N := 9) rfl (by decide) (hts (.fieldLink "MazeForms$Grid" 26 "MazeForms$Grid" "doorOnSide" "[I") (List.mem_cons_of_mem _ wm_127)) (fun _ h => h) (mz_dg d_Gr_numberDoors 1 1 (.getfield 26) 3 rfl)) ?_
  refine mz_All.cons (sd_iconst hx hb (mz_dg d_Gr_numberDoors 2 4 (.iconst (-1)) 1 rfl) (by decide)) ?_
  refine mz_All.cons (sd_scallv ⟨hx, hb, hml, hown, hts⟩ (met_Ja_fillI w h l) (va_cwS 2 hts (mz_gSo wm_105 wm_106 wm_69 wm_107) rfl rfl rfl (by decide) ⟨by decide, by decide⟩) hA rfl (mz_dg d_Gr_numberDoors 3 5 (.invokestatic 73) 3 rfl)) ?_
  refine mz_All.cons (sd_aload_n hx hb (mz_dg d_Gr_numberDoors 4 8 (.aload_n 0) 1 rfl) rfl) ?_
  refine mz_All.cons (sd_iconst hx hb (mz_dg d_Gr_numberDoors 5 9 (.iconst (0)) 1 rfl) (by decide)) ?_
  refine mz_All.cons (sd_puti (k := 7) hx hb hts (mz_inC in_Gr) ty_Gr ty_Gr_ok nm_Gr hown (T := T_Gr) (N := 9) rfl (by decide) (hts (.fieldLink "MazeForms$Grid" 42 "MazeForms$Grid" "doorCount" "I") (List.mem_cons_of_mem _ wm_131)) (fun _ h => h) rfl rfl (mz_dg d_Gr_numberDoors 6 10 (.putfield 42) 3 rfl)) ?_
  refine mz_All.cons (sd_iconst hx hb (mz_dg d_Gr_numberDoors 7 13 (.iconst (0)) 1 rfl) (by decide)) ?_
  refine mz_All.cons (sd_istore_n hx hb (mz_dg d_Gr_numberDoors 8 14 (.istore_n 1) 1 rfl) rfl (by decide)) ?_
  refine mz_All.cons (sd_iload_n hx hb (mz_dg d_Gr_numberDoors 9 15 (.iload_n 1) 1 rfl) rfl) ?_
  refine mz_All.cons (sd_aload_n hx hb (mz_dg d_Gr_numberDoors 10 16 (.aload_n 0) 1 rfl) rfl) ?_
  refine mz_All.cons (sd_get (k := 1) hx hb hts (mz_inC in_Gr) hown (T := T_Gr) (N := 9) rfl (by decide) (hts (.fieldLink "MazeForms$Grid" 19 "MazeForms$Grid" "height" "I") (List.mem_cons_of_mem _ wm_125)) (fun _ h => h) (mz_dg d_Gr_numberDoors 11 17 (.getfield 19) 3 rfl)) ?_
  refine mz_All.cons (sd_icmp_ge hx hb (mz_dg d_Gr_numberDoors 12 20 (.if_icmp .ge (62)) 3 rfl) (by decide)) ?_
  refine mz_All.cons (sd_iconst hx hb (mz_dg d_Gr_numberDoors 13 23 (.iconst (0)) 1 rfl) (by decide)) ?_
  refine mz_All.cons (sd_istore_n hx hb (mz_dg d_Gr_numberDoors 14 24 (.istore_n 2) 1 rfl) rfl (by decide)) ?_
  refine mz_All.cons (sd_iload_n hx hb (mz_dg d_Gr_numberDoors 15 25 (.iload_n 2) 1 rfl) rfl) ?_
  refine mz_All.cons (sd_aload_n hx hb (mz_dg d_Gr_numberDoors 16 26 (.aload_n 0) 1 rfl) rfl) ?_
  refine mz_All.cons (sd_get (k := 0) hx hb hts (mz_inC in_Gr) hown (T := T_Gr) (N := 9) rfl (by decide) (hts (.fieldLink "MazeForms$Grid" 15 "MazeForms$Grid" "width" "I") (List.mem_cons_of_mem _ wm_124)) (fun _ h => h) (mz_dg d_Gr_numberDoors 17 27 (.getfield 15) 3 rfl)) ?_
  refine mz_All.cons (sd_icmp_ge hx hb (mz_dg d_Gr_numberDoors 18 30 (.if_icmp .ge (46)) 3 rfl) (by decide)) ?_
  refine mz_All.cons (sd_aload_n hx hb (mz_dg d_Gr_numberDoors 19 33 (.aload_n 0) 1 rfl) rfl) ?_
  refine mz_All.cons (sd_iload_n hx hb (mz_dg d_Gr_numberDoors 20 34 (.iload_n 2) 1 rfl) rfl) ?_
  refine mz_All.cons (sd_iload_n hx hb (mz_dg d_Gr_numberDoors 21 35 (.iload_n 1) 1 rfl) rfl) ?_
  refine mz_All.cons (sd_calli (T := T_Gr) ⟨hx, hb, hml, hown, hts⟩ (met_Gr_cellAt w h l) (cwV 2 hts (mz_gV wm_108 wm_109 wm_110 wm_67 wm_111) rfl rfl rfl (by decide) ⟨by decide, by decide⟩) rfl hA rfl (mz_dg d_Gr_numberDoors 22 36 (.invokevirtual 79) 3 rfl)) ?_
  refine mz_All.cons (sd_istore_n hx hb (mz_dg d_Gr_numberDoors 23 39 (.istore_n 3) 1 rfl) rfl (by decide)) ?_
  refine mz_All.cons (sd_aload_n hx hb (mz_dg d_Gr_numberDoors 24 40 (.aload_n 0) 1 rfl) rfl) ?_
  refine mz_All.cons (sd_iload_n hx hb (mz_dg d_Gr_numberDoors 25 41 (.iload_n 3) 1 rfl) rfl) ?_
  refine mz_All.cons (sd_iconst hx hb (mz_dg d_Gr_numberDoors 26 42 (.iconst (1)) 1 rfl) (by decide)) ?_
  refine mz_All.cons (sd_aload_n hx hb (mz_dg d_Gr_numberDoors 27 43 (.aload_n 0) 1 rfl) rfl) ?_
  refine mz_All.cons (sd_iload_n hx hb (mz_dg d_Gr_numberDoors 28 44 (.iload_n 2) 1 rfl) rfl) ?_
  refine mz_All.cons (sd_iconst hx hb (mz_dg d_Gr_numberDoors 29 45 (.iconst (1)) 1 rfl) (by decide)) ?_
  refine mz_All.cons (sd_iadd hx hb (mz_dg d_Gr_numberDoors 30 46 (.iadd) 1 rfl)) ?_
  refine mz_All.cons (sd_iload_n hx hb (mz_dg d_Gr_numberDoors 31 47 (.iload_n 1) 1 rfl) rfl) ?_
  refine mz_All.cons (sd_calli (T := T_Gr) ⟨hx, hb, hml, hown, hts⟩ (met_Gr_cellAt w h l) (cwV 2 hts (mz_gV wm_108 wm_109 wm_110 wm_67 wm_111) rfl rfl rfl (by decide) ⟨by decide, by decide⟩) rfl hA rfl (mz_dg d_Gr_numberDoors 32 48 (.invokevirtual 79) 3 rfl)) ?_
  refine mz_All.cons (sd_iconst hx hb (mz_dg d_Gr_numberDoors 33 51 (.iconst (3)) 1 rfl) (by decide)) ?_
  refine mz_All.cons (sd_callv (T := T_Gr) ⟨hx, hb, hml, hown, hts⟩ (met_Gr_addDoor w h l) (cwV 4 hts (mz_gV wm_112 wm_114 wm_1 wm_67 wm_115) rfl rfl rfl (by decide) ⟨by decide, by decide⟩) rfl hA rfl (mz_dg d_Gr_numberDoors 34 52 (.invokevirtual 82) 3 rfl)) ?_
  refine mz_All.cons (sd_aload_n hx hb (mz_dg d_Gr_numberDoors 35 55 (.aload_n 0) 1 rfl) rfl) ?_
  refine mz_All.cons (sd_iload_n hx hb (mz_dg d_Gr_numberDoors 36 56 (.iload_n 3) 1 rfl) rfl) ?_
  refine mz_All.cons (sd_iconst hx hb (mz_dg d_Gr_numberDoors 37 57 (.iconst (2)) 1 rfl) (by decide)) ?_
  refine mz_All.cons (sd_aload_n hx hb (mz_dg d_Gr_numberDoors 38 58 (.aload_n 0) 1 rfl) rfl) ?_
  refine mz_All.cons (sd_iload_n hx hb (mz_dg d_Gr_numberDoors 39 59 (.iload_n 2) 1 rfl) rfl) ?_
  refine mz_All.cons (sd_iload_n hx hb (mz_dg d_Gr_numberDoors 40 60 (.iload_n 1) 1 rfl) rfl) ?_
  refine mz_All.cons (sd_iconst hx hb (mz_dg d_Gr_numberDoors 41 61 (.iconst (1)) 1 rfl) (by decide)) ?_
  refine mz_All.cons (sd_iadd hx hb (mz_dg d_Gr_numberDoors 42 62 (.iadd) 1 rfl)) ?_
  refine mz_All.cons (sd_calli (T := T_Gr) ⟨hx, hb, hml, hown, hts⟩ (met_Gr_cellAt w h l) (cwV 2 hts (mz_gV wm_108 wm_109 wm_110 wm_67 wm_111) rfl rfl rfl (by decide) ⟨by decide, by decide⟩) rfl hA rfl (mz_dg d_Gr_numberDoors 43 63 (.invokevirtual 79) 3 rfl)) ?_
  refine mz_All.cons (sd_iconst hx hb (mz_dg d_Gr_numberDoors 44 66 (.iconst (0)) 1 rfl) (by decide)) ?_
  refine mz_All.cons (sd_callv (T := T_Gr) ⟨hx, hb, hml, hown, hts⟩ (met_Gr_addDoor w h l) (cwV 4 hts (mz_gV wm_112 wm_114 wm_1 wm_67 wm_115) rfl rfl rfl (by decide) ⟨by decide, by decide⟩) rfl hA rfl (mz_dg d_Gr_numberDoors 45 67 (.invokevirtual 82) 3 rfl)) ?_
  refine mz_All.cons (sd_iinc hx hb (mz_dg d_Gr_numberDoors 46 70 (.iinc 2 (1)) 3 rfl) (by decide) (by decide)) ?_
  refine mz_All.cons (sd_goto hx hb (mz_dg d_Gr_numberDoors 47 73 (.goto (-48)) 3 rfl) (by decide)) ?_
  refine mz_All.cons (sd_iinc hx hb (mz_dg d_Gr_numberDoors 48 76 (.iinc 1 (1)) 3 rfl) (by decide) (by decide)) ?_
  refine mz_All.cons (sd_goto hx hb (mz_dg d_Gr_numberDoors 49 79 (.goto (-64)) 3 rfl) (by decide)) ?_
  refine mz_All.cons (sd_rv hx hb hr hlk (mz_dg d_Gr_numberDoors 50 82 (.return_) 1 rfl)) ?_
  exact trivial
theorem met_Gr_numberDoors (w h : Nat) (l : Launch) : mz_MV l y_Gr_numberDoors w_Gr_numberDoors 3 66 mz_cls (C_Gr_numberDoors w h) := mz_MV_of (I_Gr_numberDoors w h) (by decide) rfl (len_Gr_numberDoors w h) (ok_Gr_numberDoors w h) (snd_Gr_numberDoors w h l)
set_option maxRecDepth 20000 in
theorem snd_Gr_setMask (w h : Nat) (l : Launch) (p : Program) (e : Env) (s : State) (m : MethodId) (args : Array Value) (below : List Frame) (meth : Method) (c : Code) (D : va_G) (ad0 : Nat → Nat) (cA0 : Nat → ClassId) (A : Nat → Prop) (lay : List mz_E) (Q : Int32 → mz_X → Prop) (F : mz_F p s m args meth c prog_5_method_21_code 3 y_Gr_setMask.cls (some .boolean) w_Gr_setMask) (hA : ∀ q, s.heap.size ≤ q → A q) : mz_All (mz_V p l e (mz_rm 4 89) s m args below meth c 3 lay.length (mz_sz lay) D mz_cls (mz_G0 ad0 cA0) A (MQ below (va_Qi Q (mz_B D mz_cls ad0 cA0 lay A) A) args s 0 0 A)) (mz_qi lay Q) (I_Gr_setMask w h) := by
  obtain ⟨hx, hb, hml, hown, hts, hr, hlk⟩ := F
  unfold I_Gr_setMask
  refine mz_All.cons (sd_aload_n hx hb (mz_dg d_Gr_setMask 0 0 (.aload_n 0) 1 rfl) rfl) ?_
  refine mz_All.cons (sd_iload_n hx hb (mz_dg d_Gr_setMask 1 1 (.iload_n 1) 1 rfl) rfl) ?_
  refine mz_All.cons (sd_calli (T := T_Gr) ⟨hx, hb, hml, hown, hts⟩ (met_Gr_isCell w h l) (cwV 1 hts (mz_gV wm_120 wm_121 wm_122 wm_67 wm_123) rfl rfl rfl (by decide) ⟨by decide, by decide⟩) rfl hA rfl (mz_dg d_Gr_setMask 2 2 (.invokevirtual 48) 3 rfl)) ?_
  refine mz_All.cons (sd_if_eq hx hb (mz_dg d_Gr_setMask 3 5 (.ifCond .eq (13)) 3 rfl) (by decide)) ?_
  refine mz_All.cons (sd_aload_n hx hb (mz_dg d_Gr_setMask 4 8 (.aload_n 0) 1 rfl) rfl) ?_
  refine mz_All.cons (sd_get (k := 2) hx hb hts (mz_inC in_Gr) hown (T := T_Gr) (N := 9) rfl (by decide) (hts (.fieldLink "MazeForms$Grid" 22 "MazeForms$Grid" "masked" "[Z") (List.mem_cons_of_mem _ wm_126)) (fun _ h => h) (mz_dg d_Gr_setMask 5 9 (.getfield 22) 3 rfl)) ?_
  refine mz_All.cons (sd_iload_n hx hb (mz_dg d_Gr_setMask 6 12 (.iload_n 1) 1 rfl) rfl) ?_
  refine mz_All.cons (sd_zald hx hb (mz_dg d_Gr_setMask 7 13 (.baload) 1 rfl)) ?_
  refine mz_All.cons (sd_iload_n hx hb (mz_dg d_Gr_setMask 8 14 (.iload_n 2) 1 rfl) rfl) ?_
  refine mz_All.cons (sd_icmp_ne hx hb (mz_dg d_Gr_setMask 9 15 (.if_icmp .ne (5)) 3 rfl) (by decide)) ?_
  refine mz_All.cons (sd_iconst hx hb (mz_dg d_Gr_setMask 10 18 (.iconst (0)) 1 rfl) (by decide)) ?_
  refine mz_All.cons (sd_rz hx hb hr hlk (mz_dg d_Gr_setMask 11 19 (.ireturn) 1 rfl)) ?_
  refine mz_All.cons (sd_aload_n hx hb (mz_dg d_Gr_setMask 12 20 (.aload_n 0) 1 rfl) rfl) ?_
  refine mz_All.cons (sd_callv (T := T_Gr) ⟨hx, hb, hml, hown, hts⟩ (met_Gr_closeDoors w h l) (cwV 0 hts (mz_gV wm_333 wm_334 wm_335 wm_67 wm_336) rfl rfl rfl (by decide) ⟨by decide, by decide⟩) rfl hA rfl (mz_dg d_Gr_setMask 13 21 (.invokevirtual 62) 3 rfl)) ?_
  refine mz_All.cons (sd_aload_n hx hb (mz_dg d_Gr_setMask 14 24 (.aload_n 0) 1 rfl) rfl) ?_
  refine mz_All.cons (sd_get (k := 2) hx hb hts (mz_inC in_Gr) hown (T := T_Gr) (N := 9) rfl (by decide) (hts (.fieldLink "MazeForms$Grid" 22 "MazeForms$Grid" "masked" "[Z") (List.mem_cons_of_mem _ wm_126)) (fun _ h => h) (mz_dg d_Gr_setMask 15 25 (.getfield 22) 3 rfl)) ?_
  refine mz_All.cons (sd_iload_n hx hb (mz_dg d_Gr_setMask 16 28 (.iload_n 1) 1 rfl) rfl) ?_
  refine mz_All.cons (sd_iload_n hx hb (mz_dg d_Gr_setMask 17 29 (.iload_n 2) 1 rfl) rfl) ?_
  refine mz_All.cons (sd_zast hx hb (mz_dg d_Gr_setMask 18 30 (.bastore) 1 rfl)) ?_
  refine mz_All.cons (sd_aload_n hx hb (mz_dg d_Gr_setMask 19 31 (.aload_n 0) 1 rfl) rfl) ?_
  refine mz_All.cons (sd_callv (T := T_Gr) ⟨hx, hb, hml, hown, hts⟩ (met_Gr_numberDoors w h l) (cwV 0 hts (mz_gV wm_101 wm_103 wm_0 wm_67 wm_104) rfl rfl rfl (by decide) ⟨by decide, by decide⟩) rfl hA rfl (mz_dg d_Gr_setMask 20 32 (.invokevirtual 39) 3 rfl)) ?_
  refine mz_All.cons (sd_iconst hx hb (mz_dg d_Gr_setMask 21 35 (.iconst (1)) 1 rfl) (by decide)) ?_
  refine mz_All.cons (sd_rz hx hb hr hlk (mz_dg d_Gr_setMask 22 36 (.ireturn) 1 rfl)) ?_
  exact trivial
theorem met_Gr_setMask (w h : Nat) (l : Launch) : mz_MI l y_Gr_setMask w_Gr_setMask 4 89 mz_cls (C_Gr_setMask w h) := mz_MI_of (I_Gr_setMask w h) (by decide) rfl (len_Gr_setMask w h) (ok_Gr_setMask w h) (snd_Gr_setMask w h l)
