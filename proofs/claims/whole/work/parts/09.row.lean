def zc_v (s : Int64) (n : Int32) : Int32 := ((s.toUInt64 >>> ((33 : Int32).toInt64.toUInt64 &&& Int64.toUInt64 63)).toInt64 - (s.toUInt64 >>> ((33 : Int32).toInt64.toUInt64 &&& Int64.toUInt64 63)).toInt64 / n.toInt64 * n.toInt64).toInt32
def zc_s (s : Int64) : Int64 := 6364136223846793005 * s + 1442695040888963407
/-- a number below n, and the chance behind it -/
def zc_X (X : mz_X) (n : Int32) : mz_X := match decide (1 ≤ n) with
  | true => (X.1, mz_up X.2 13 0 (zc_s (X.2 13 0)))
  | false => X
def zc_n (X : mz_X) (n : Int32) : Int32 := match decide (1 ≤ n) with
  | true => zc_v (zc_s (X.2 13 0)) n
  | false => 0
/-- the row of doors (places 14, 15) -/
def zr_at (w h : Nat) (X : mz_X) (i : Int32) : Int32 := if (!decide (i < 0) && !decide (X.1 14 2 ≤ i) && !decide (nI (mz_dn w h) ≤ i)) = true then X.1 15 i.toNatClampNeg else -1
def zr_addB (w h : Nat) (X : mz_X) (d : Int32) : Bool := !decide (d = -1) && !decide (X.1 14 2 < 0) && !decide (nI (mz_dn w h) ≤ X.1 14 2)
def zr_add (w h : Nat) (X : mz_X) (d : Int32) : mz_X := match zr_addB w h X d with
  | true => (mz_up (mz_up X.1 15 (X.1 14 2).toNatClampNeg d) 14 2 (X.1 14 2 + 1), X.2)
  | false => X
def zr_clr (X : mz_X) : mz_X := (mz_up X.1 14 2 0, X.2)
def zr_drX (X : mz_X) : mz_X := match decide (X.1 14 2 = 0) with
  | true => X
  | false => zc_X X (X.1 14 2)
def zr_drV (w h : Nat) (X : mz_X) : Int32 := match decide (X.1 14 2 = 0) with
  | true => -1
  | false => zr_at w h (zc_X X (X.1 14 2)) (zc_n X (X.1 14 2))
def zr_exc (w h : Nat) (X : mz_X) (i j : Int32) : mz_X := match decide (zr_at w h X i = -1) || decide (zr_at w h X j = -1) with
  | true => X
  | false => (mz_up (mz_up X.1 15 i.toNatClampNeg (zr_at w h X j)) 15 j.toNatClampNeg (zr_at w h X i), X.2)
/-- the shuffle from place k down to 1 -/
def zr_shu (w h : Nat) (X : mz_X) (k : Nat) : mz_X := match k with
  | 0 => X
  | j + 1 => zr_shu w h (zr_exc w h (zc_X X (nI (j + 1) + 1)) (nI (j + 1)) (zc_n X (nI (j + 1) + 1))) j
def C_Ch_below (w h : Nat) : mz_CI := fun lay as X Q => match as with
  | [.ref 13, .int n] => lay = mz_lay w h ∧ mz_geo w h ∧ Q (zc_n X n) (zc_X X n)
  | _ => False
def C_Dr_count (w h : Nat) : mz_CI := fun lay as X Q => match as with
  | [.ref 14] => lay = mz_lay w h ∧ mz_geo w h ∧ Q (X.1 14 2) X
  | _ => False
def C_Dr_doorAt (w h : Nat) : mz_CI := fun lay as X Q => match as with
  | [.ref 14, .int i] => lay = mz_lay w h ∧ mz_geo w h ∧ Q (zr_at w h X i) X
  | _ => False
def C_Dr_clear (w h : Nat) : mz_CV := fun lay as X Q => match as with
  | [.ref 14] => lay = mz_lay w h ∧ mz_geo w h ∧ Q (zr_clr X)
  | _ => False
def C_Dr_add (w h : Nat) : mz_CV := fun lay as X Q => match as with
  | [.ref 14, .int d] => lay = mz_lay w h ∧ mz_geo w h ∧ Q (zr_add w h X d)
  | _ => False
def C_Dr_draw (w h : Nat) : mz_CI := fun lay as X Q => match as with
  | [.ref 14] => lay = mz_lay w h ∧ mz_geo w h ∧ Q (zr_drV w h X) (zr_drX X)
  | _ => False
def C_Dr_exchange (w h : Nat) : mz_CV := fun lay as X Q => match as with
  | [.ref 14, .int i, .int j] => lay = mz_lay w h ∧ mz_geo w h ∧ Q (zr_exc w h X i j)
  | _ => False
def C_Dr_shuffle (w h : Nat) : mz_CV := fun lay as X Q => match as with
  | [.ref 14] => lay = mz_lay w h ∧ mz_geo w h ∧ ∃ k : Nat, k ≤ mz_dn w h ∧ X.1 14 2 = nI k ∧ Q (zr_shu w h X (k - 1))
  | _ => False
def y_Ch_below : MethodName := ⟨"MazeForms$Chance", "below", "(I)I"⟩
abbrev w_Ch_below : List Cond := .code y_Ch_below prog_2_method_2_code 2 (some .int) :: mz_tb
def dl_Ch_below : List (Nat × ClassFile.Instr × Nat) := [(0, .iload_n 1, 1), (1, .iconst (1), 1), (2, .if_icmp .ge (5), 3), (5, .iconst (0), 1), (6, .ireturn, 1), (7, .aload_n 0, 1), (8, .ldc2_w 13, 3), (11, .aload_n 0, 1), (12, .getfield 7, 3), (15, .lmul, 1), (16, .ldc2_w 15, 3), (19, .ladd, 1), (20, .putfield 7, 3), (23, .aload_n 0, 1), (24, .getfield 7, 3), (27, .bipush (33), 2), (29, .lushr, 1), (30, .iload_n 1, 1), (31, .i2l, 1), (32, .lrem, 1), (33, .l2i, 1), (34, .ireturn, 1)]
theorem d_Ch_below : mz_dec prog_2_method_2_code dl_Ch_below = true := by decide +kernel
def y_Dr_count : MethodName := ⟨"MazeForms$DoorRow", "count", "()I"⟩
abbrev w_Dr_count : List Cond := .code y_Dr_count prog_3_method_2_code 1 (some .int) :: mz_tb
def dl_Dr_count : List (Nat × ClassFile.Instr × Nat) := [(0, .aload_n 0, 1), (1, .getfield 25, 3), (4, .ireturn, 1)]
theorem d_Dr_count : mz_dec prog_3_method_2_code dl_Dr_count = true := by decide +kernel
def y_Dr_doorAt : MethodName := ⟨"MazeForms$DoorRow", "doorAt", "(I)I"⟩
abbrev w_Dr_doorAt : List Cond := .code y_Dr_doorAt prog_3_method_3_code 2 (some .int) :: mz_tb
def dl_Dr_doorAt : List (Nat × ClassFile.Instr × Nat) := [(0, .iload_n 1, 1), (1, .ifCond .lt (29), 3), (4, .iload_n 1, 1), (5, .aload_n 0, 1), (6, .getfield 25, 3), (9, .if_icmp .ge (21), 3), (12, .iload_n 1, 1), (13, .aload_n 0, 1), (14, .getfield 21, 3), (17, .arraylength, 1), (18, .if_icmp .ge (12), 3), (21, .aload_n 0, 1), (22, .getfield 21, 3), (25, .iload_n 1, 1), (26, .iaload, 1), (27, .goto (4), 3), (30, .iconst (-1), 1), (31, .ireturn, 1)]
theorem d_Dr_doorAt : mz_dec prog_3_method_3_code dl_Dr_doorAt = true := by decide +kernel
def y_Dr_clear : MethodName := ⟨"MazeForms$DoorRow", "clear", "()V"⟩
abbrev w_Dr_clear : List Cond := .code y_Dr_clear prog_3_method_4_code 1 none :: mz_tb
def dl_Dr_clear : List (Nat × ClassFile.Instr × Nat) := [(0, .aload_n 0, 1), (1, .iconst (0), 1), (2, .putfield 25, 3), (5, .return_, 1)]
theorem d_Dr_clear : mz_dec prog_3_method_4_code dl_Dr_clear = true := by decide +kernel
def y_Dr_add : MethodName := ⟨"MazeForms$DoorRow", "add", "(I)V"⟩
abbrev w_Dr_add : List Cond := .code y_Dr_add prog_3_method_5_code 2 none :: mz_tb
def dl_Dr_add : List (Nat × ClassFile.Instr × Nat) := [(0, .iload_n 1, 1), (1, .iconst (-1), 1), (2, .if_icmp .eq (42), 3), (5, .aload_n 0, 1), (6, .getfield 25, 3), (9, .ifCond .lt (35), 3), (12, .aload_n 0, 1), (13, .getfield 25, 3), (16, .aload_n 0, 1), (17, .getfield 21, 3), (20, .arraylength, 1), (21, .if_icmp .ge (23), 3), (24, .aload_n 0, 1), (25, .getfield 21, 3), (28, .aload_n 0, 1), (29, .getfield 25, 3), (32, .iload_n 1, 1), (33, .iastore, 1), (34, .aload_n 0, 1), (35, .dup, 1), (36, .getfield 25, 3), (39, .iconst (1), 1), (40, .iadd, 1), (41, .putfield 25, 3), (44, .return_, 1)]
theorem d_Dr_add : mz_dec prog_3_method_5_code dl_Dr_add = true := by decide +kernel
def y_Dr_draw : MethodName := ⟨"MazeForms$DoorRow", "draw", "()I"⟩
abbrev w_Dr_draw : List Cond := .code y_Dr_draw prog_3_method_6_code 1 (some .int) :: mz_tb
def dl_Dr_draw : List (Nat × ClassFile.Instr × Nat) := [(0, .aload_n 0, 1), (1, .getfield 25, 3), (4, .ifCond .ne (7), 3), (7, .iconst (-1), 1), (8, .goto (18), 3), (11, .aload_n 0, 1), (12, .aload_n 0, 1), (13, .getfield 9, 3), (16, .aload_n 0, 1), (17, .getfield 25, 3), (20, .invokevirtual 29, 3), (23, .invokevirtual 35, 3), (26, .ireturn, 1)]
theorem d_Dr_draw : mz_dec prog_3_method_6_code dl_Dr_draw = true := by decide +kernel
def y_Dr_exchange : MethodName := ⟨"MazeForms$DoorRow", "exchange", "(II)V"⟩
abbrev w_Dr_exchange : List Cond := .code y_Dr_exchange prog_3_method_8_code 5 none :: mz_tb
def dl_Dr_exchange : List (Nat × ClassFile.Instr × Nat) := [(0, .aload_n 0, 1), (1, .iload_n 1, 1), (2, .invokevirtual 35, 3), (5, .istore_n 3, 1), (6, .aload_n 0, 1), (7, .iload_n 2, 1), (8, .invokevirtual 35, 3), (11, .istore 4, 2), (13, .iload_n 3, 1), (14, .iconst (-1), 1), (15, .if_icmp .eq (24), 3), (18, .iload 4, 2), (20, .iconst (-1), 1), (21, .if_icmp .eq (18), 3), (24, .aload_n 0, 1), (25, .getfield 21, 3), (28, .iload_n 1, 1), (29, .iload 4, 2), (31, .iastore, 1), (32, .aload_n 0, 1), (33, .getfield 21, 3), (36, .iload_n 2, 1), (37, .iload_n 3, 1), (38, .iastore, 1), (39, .return_, 1)]
theorem d_Dr_exchange : mz_dec prog_3_method_8_code dl_Dr_exchange = true := by decide +kernel
def y_Dr_shuffle : MethodName := ⟨"MazeForms$DoorRow", "shuffle", "()V"⟩
abbrev w_Dr_shuffle : List Cond := .code y_Dr_shuffle prog_3_method_7_code 2 none :: mz_tb
def dl_Dr_shuffle : List (Nat × ClassFile.Instr × Nat) := [(0, .aload_n 0, 1), (1, .getfield 25, 3), (4, .iconst (1), 1), (5, .isub, 1), (6, .istore_n 1, 1), (7, .iload_n 1, 1), (8, .iconst (1), 1), (9, .if_icmp .lt (24), 3), (12, .aload_n 0, 1), (13, .iload_n 1, 1), (14, .aload_n 0, 1), (15, .getfield 9, 3), (18, .iload_n 1, 1), (19, .iconst (1), 1), (20, .iadd, 1), (21, .invokevirtual 29, 3), (24, .invokevirtual 38, 3), (27, .iinc 1 (-1), 3), (30, .goto (-23), 3), (33, .return_, 1)]
theorem d_Dr_shuffle : mz_dec prog_3_method_7_code dl_Dr_shuffle = true := by decide +kernel
def I_Ch_below (w h : Nat) : List (Nat × mz_Op) := [(0, mz_ldi 1 1), (1, mz_push (.int (1)) 2), (2, mz_ic (fun x y => y ≤ x) 7 5), (5, mz_push (.int (0)) 6), (6, mz_ri), (7, mz_lda 0 8), (8, mz_push (.long (6364136223846793005)) 11), (11, mz_lda 0 12), (12, mz_gf 0 0 15), (15, mz_bl (fun x y => x * y) 16), (16, mz_push (.long (1442695040888963407)) 19), (19, mz_bl (fun x y => x + y) 20), (20, mz_pfl 0 0 23), (23, mz_lda 0 24), (24, mz_gf 0 0 27), (27, mz_push (.int (33)) 29), (29, mz_sh (fun x y => (x.toUInt64 >>> (y.toInt64.toUInt64 &&& Int64.toUInt64 63)).toInt64) 30), (30, mz_ldi 1 31), (31, mz_i2l 32), (32, mz_bld (fun x y => x - x / y * y) 33), (33, mz_l2i 34), (34, mz_ri)]
def I_Dr_count (w h : Nat) : List (Nat × mz_Op) := [(0, mz_lda 0 1), (1, mz_gf 1 2 4), (4, mz_ri)]
def I_Dr_doorAt (w h : Nat) : List (Nat × mz_Op) := [(0, mz_ldi 1 1), (1, mz_if (fun x => x < 0) 30 4), (4, mz_ldi 1 5), (5, mz_lda 0 6), (6, mz_gf 1 2 9), (9, mz_ic (fun x y => y ≤ x) 30 12), (12, mz_ldi 1 13), (13, mz_lda 0 14), (14, mz_gf 1 1 17), (17, mz_al 18), (18, mz_ic (fun x y => y ≤ x) 30 21), (21, mz_lda 0 22), (22, mz_gf 1 1 25), (25, mz_ldi 1 26), (26, mz_iald 0 27), (27, mz_go 31), (30, mz_push (.int (-1)) 31), (31, mz_ri)]
def I_Dr_clear (w h : Nat) : List (Nat × mz_Op) := [(0, mz_lda 0 1), (1, mz_push (.int (0)) 2), (2, mz_pfi 1 2 5), (5, mz_rv)]
def I_Dr_add (w h : Nat) : List (Nat × mz_Op) := [(0, mz_ldi 1 1), (1, mz_push (.int (-1)) 2), (2, mz_ic (fun x y => x = y) 44 5), (5, mz_lda 0 6), (6, mz_gf 1 2 9), (9, mz_if (fun x => x < 0) 44 12), (12, mz_lda 0 13), (13, mz_gf 1 2 16), (16, mz_lda 0 17), (17, mz_gf 1 1 20), (20, mz_al 21), (21, mz_ic (fun x y => y ≤ x) 44 24), (24, mz_lda 0 25), (25, mz_gf 1 1 28), (28, mz_lda 0 29), (29, mz_gf 1 2 32), (32, mz_ldi 1 33), (33, mz_iast 0 34), (34, mz_lda 0 35), (35, mz_dup 36), (36, mz_gf 1 2 39), (39, mz_push (.int (1)) 40), (40, mz_bi (fun x y => x + y) 41), (41, mz_pfi 1 2 44), (44, mz_rv)]
def I_Dr_draw (w h : Nat) : List (Nat × mz_Op) := [(0, mz_lda 0 1), (1, mz_gf 1 2 4), (4, mz_if (fun x => x = 0) 7 11), (7, mz_push (.int (-1)) 8), (8, mz_go 26), (11, mz_lda 0 12), (12, mz_lda 0 13), (13, mz_gf 1 0 16), (16, mz_lda 0 17), (17, mz_gf 1 2 20), (20, mz_ci 2 0 (C_Ch_below w h) 23), (23, mz_ci 2 1 (C_Dr_doorAt w h) 26), (26, mz_ri)]
def I_Dr_exchange (w h : Nat) : List (Nat × mz_Op) := [(0, mz_lda 0 1), (1, mz_ldi 1 2), (2, mz_ci 2 1 (C_Dr_doorAt w h) 5), (5, mz_sti 3 6), (6, mz_lda 0 7), (7, mz_ldi 2 8), (8, mz_ci 2 1 (C_Dr_doorAt w h) 11), (11, mz_sti 4 13), (13, mz_ldi 3 14), (14, mz_push (.int (-1)) 15), (15, mz_ic (fun x y => x = y) 39 18), (18, mz_ldi 4 20), (20, mz_push (.int (-1)) 21), (21, mz_ic (fun x y => x = y) 39 24), (24, mz_lda 0 25), (25, mz_gf 1 1 28), (28, mz_ldi 1 29), (29, mz_ldi 4 31), (31, mz_iast 0 32), (32, mz_lda 0 33), (33, mz_gf 1 1 36), (36, mz_ldi 2 37), (37, mz_ldi 3 38), (38, mz_iast 0 39), (39, mz_rv)]
def I_Dr_shuffle (w h : Nat) : List (Nat × mz_Op) := [(0, mz_lda 0 1), (1, mz_gf 1 2 4), (4, mz_push (.int (1)) 5), (5, mz_bi (fun x y => x - y) 6), (6, mz_sti 1 7), (7, mz_ldi 1 8), (8, mz_push (.int (1)) 9), (9, mz_ic (fun x y => x < y) 33 12), (12, mz_lda 0 13), (13, mz_ldi 1 14), (14, mz_lda 0 15), (15, mz_gf 1 0 18), (18, mz_ldi 1 19), (19, mz_push (.int (1)) 20), (20, mz_bi (fun x y => x + y) 21), (21, mz_ci 2 0 (C_Ch_below w h) 24), (24, mz_cvo 3 1 (C_Dr_exchange w h) 27), (27, mz_inc 1 (-1) 30), (30, mz_go 7), (33, mz_rv)]
theorem len_Ch_below (w h : Nat) (lay : List mz_E) (as : List Value) (X : mz_X) (Q : Int32 → mz_X → Prop) (hC : C_Ch_below w h lay as X Q) : (mz_l0 as).length ≤ 2 := by
  unfold C_Ch_below at hC
  split at hC
  · exact Nat.le_of_ble_eq_true rfl
  · exact hC.elim
theorem ok_Ch_below (w h : Nat) (lay : List mz_E) (as : List Value) (X : mz_X) (Q : Int32 → mz_X → Prop) (hC : C_Ch_below w h lay as X Q) (K : mz_K) (hK : mz_Cl (I_Ch_below w h) (mz_qi lay Q) K) : K 0 (mz_ent 2 as) [] (lay, X) := by
  unfold C_Ch_below at hC
  split at hC
  · next n =>
    obtain ⟨rfl, g, hq⟩ := hC
    iterate 2 refine hK _ _ _ _ ?_
    refine hK _ _ _ _ (And.intro (fun c1 => ?_) (fun c1 => ?_))
    · dsimp only at c1
      have hc : decide (1 ≤ n) = true := by simpa using c1
      simp only [zc_n, zc_X, hc] at hq
      iterate 14 refine hK _ _ _ _ ?_
      refine hK _ _ _ _ (And.intro (fun e => ?_) ?_)
      · have h2 : n.toInt64.toInt = n.toInt := Int32.toInt_toInt64 n
        rw [Int32.le_iff_toInt_le] at c1
        have h3 : (1 : Int32).toInt = 1 := by decide
        rw [e] at h2
        have h4 : (0 : Int64).toInt = 0 := by decide
        omega
      · refine hK _ _ _ _ ?_
        exact hK _ _ _ _ (And.intro rfl (hq))
    · dsimp only at c1
      have hc : decide (1 ≤ n) = false := by simpa using c1
      simp only [zc_n, zc_X, hc] at hq
      refine hK _ _ _ _ ?_
      exact hK _ _ _ _ (And.intro rfl (hq))
  · exact hC.elim
theorem len_Dr_count (w h : Nat) (lay : List mz_E) (as : List Value) (X : mz_X) (Q : Int32 → mz_X → Prop) (hC : C_Dr_count w h lay as X Q) : (mz_l0 as).length ≤ 1 := by
  unfold C_Dr_count at hC
  split at hC
  · exact Nat.le_of_ble_eq_true rfl
  · exact hC.elim
theorem ok_Dr_count (w h : Nat) (lay : List mz_E) (as : List Value) (X : mz_X) (Q : Int32 → mz_X → Prop) (hC : C_Dr_count w h lay as X Q) (K : mz_K) (hK : mz_Cl (I_Dr_count w h) (mz_qi lay Q) K) : K 0 (mz_ent 1 as) [] (lay, X) := by
  unfold C_Dr_count at hC
  split at hC
  ·
    obtain ⟨rfl, g, hq⟩ := hC
    iterate 2 refine hK _ _ _ _ ?_
    exact hK _ _ _ _ (And.intro rfl (hq))
  · exact hC.elim
theorem len_Dr_clear (w h : Nat) (lay : List mz_E) (as : List Value) (X : mz_X) (Q : mz_X → Prop) (hC : C_Dr_clear w h lay as X Q) : (mz_l0 as).length ≤ 1 := by
  unfold C_Dr_clear at hC
  split at hC
  · exact Nat.le_of_ble_eq_true rfl
  · exact hC.elim
theorem ok_Dr_clear (w h : Nat) (lay : List mz_E) (as : List Value) (X : mz_X) (Q : mz_X → Prop) (hC : C_Dr_clear w h lay as X Q) (K : mz_K) (hK : mz_Cl (I_Dr_clear w h) (mz_qv lay Q) K) : K 0 (mz_ent 1 as) [] (lay, X) := by
  unfold C_Dr_clear at hC
  split at hC
  ·
    obtain ⟨rfl, g, hq⟩ := hC
    iterate 3 refine hK _ _ _ _ ?_
    exact hK _ _ _ _ (And.intro rfl (hq))
  · exact hC.elim
theorem len_Dr_doorAt (w h : Nat) (lay : List mz_E) (as : List Value) (X : mz_X) (Q : Int32 → mz_X → Prop) (hC : C_Dr_doorAt w h lay as X Q) : (mz_l0 as).length ≤ 2 := by
  unfold C_Dr_doorAt at hC
  split at hC
  · exact Nat.le_of_ble_eq_true rfl
  · exact hC.elim
theorem ok_Dr_doorAt (w h : Nat) (lay : List mz_E) (as : List Value) (X : mz_X) (Q : Int32 → mz_X → Prop) (hC : C_Dr_doorAt w h lay as X Q) (K : mz_K) (hK : mz_Cl (I_Dr_doorAt w h) (mz_qi lay Q) K) : K 0 (mz_ent 2 as) [] (lay, X) := by
  unfold C_Dr_doorAt at hC
  split at hC
  · next i =>
    obtain ⟨rfl, g, hq⟩ := hC
    have hd := mz_geo_d g
    have h30 : zr_at w h X i = -1 → K 30 (mz_ent 2 [.ref 14, .int i]) [] (mz_lay w h, X) := by
      intro e
      rw [e] at hq
      refine hK _ _ _ _ ?_
      exact hK _ _ _ _ (And.intro rfl (hq))
    refine hK _ _ _ _ ?_
    refine hK _ _ _ _ (And.intro (fun c1 => ?_) (fun c1 => ?_))
    · exact h30 (by simp [zr_at, c1])
    · iterate 3 refine hK _ _ _ _ ?_
      refine hK _ _ _ _ (And.intro (fun c2 => ?_) (fun c2 => ?_))
      · dsimp only at c2
        exact h30 (by simp [zr_at, c2])
      · dsimp only at c2
        iterate 4 refine hK _ _ _ _ ?_
        refine hK _ _ _ _ (And.intro (fun c3 => ?_) (fun c3 => ?_))
        · exact h30 (by simp [zr_at, c3])
        · iterate 3 refine hK _ _ _ _ ?_
          refine hK _ _ _ _ (And.intro (mz_in c1 c3 (by omega)) ?_)
          refine hK _ _ _ _ ?_
          exact hK _ _ _ _ (And.intro rfl (by simpa [zr_at, c1, c2, c3] using hq))
  · exact hC.elim
theorem len_Dr_add (w h : Nat) (lay : List mz_E) (as : List Value) (X : mz_X) (Q : mz_X → Prop) (hC : C_Dr_add w h lay as X Q) : (mz_l0 as).length ≤ 2 := by
  unfold C_Dr_add at hC
  split at hC
  · exact Nat.le_of_ble_eq_true rfl
  · exact hC.elim
theorem ok_Dr_add (w h : Nat) (lay : List mz_E) (as : List Value) (X : mz_X) (Q : mz_X → Prop) (hC : C_Dr_add w h lay as X Q) (K : mz_K) (hK : mz_Cl (I_Dr_add w h) (mz_qv lay Q) K) : K 0 (mz_ent 2 as) [] (lay, X) := by
  unfold C_Dr_add at hC
  split at hC
  · next d =>
    obtain ⟨rfl, g, hq⟩ := hC
    have hd := mz_geo_d g
    have h44 : zr_addB w h X d = false → K 44 (mz_ent 2 [.ref 14, .int d]) [] (mz_lay w h, X) := by
      intro e
      simp only [zr_add, e] at hq
      exact hK _ _ _ _ (And.intro rfl (hq))
    iterate 2 refine hK _ _ _ _ ?_
    refine hK _ _ _ _ (And.intro (fun c1 => ?_) (fun c1 => ?_))
    · exact h44 (by simp [zr_addB, c1])
    · iterate 2 refine hK _ _ _ _ ?_
      refine hK _ _ _ _ (And.intro (fun c2 => ?_) (fun c2 => ?_))
      · dsimp only at c2
        exact h44 (by simp [zr_addB, c2])
      · dsimp only at c2
        iterate 5 refine hK _ _ _ _ ?_
        refine hK _ _ _ _ (And.intro (fun c3 => ?_) (fun c3 => ?_))
        · dsimp only at c3
          exact h44 (by simp [zr_addB, c3])
        · dsimp only at c3
          have hb : zr_addB w h X d = true := by simp [zr_addB, c1, c2, c3]
          simp only [zr_add, hb] at hq
          iterate 5 refine hK _ _ _ _ ?_
          refine hK _ _ _ _ (And.intro (mz_in c2 c3 (by omega)) ?_)
          iterate 6 refine hK _ _ _ _ ?_
          exact hK _ _ _ _ (And.intro rfl (hq))
  · exact hC.elim
theorem len_Dr_draw (w h : Nat) (lay : List mz_E) (as : List Value) (X : mz_X) (Q : Int32 → mz_X → Prop) (hC : C_Dr_draw w h lay as X Q) : (mz_l0 as).length ≤ 1 := by
  unfold C_Dr_draw at hC
  split at hC
  · exact Nat.le_of_ble_eq_true rfl
  · exact hC.elim
theorem ok_Dr_draw (w h : Nat) (lay : List mz_E) (as : List Value) (X : mz_X) (Q : Int32 → mz_X → Prop) (hC : C_Dr_draw w h lay as X Q) (K : mz_K) (hK : mz_Cl (I_Dr_draw w h) (mz_qi lay Q) K) : K 0 (mz_ent 1 as) [] (lay, X) := by
  unfold C_Dr_draw at hC
  split at hC
  ·
    obtain ⟨rfl, g, hq⟩ := hC
    iterate 2 refine hK _ _ _ _ ?_
    refine hK _ _ _ _ (And.intro (fun c1 => ?_) (fun c1 => ?_))
    · dsimp only at c1
      have hc : decide (X.1 14 2 = 0) = true := by simpa using c1
      simp only [zr_drV, zr_drX, hc] at hq
      iterate 2 refine hK _ _ _ _ ?_
      exact hK _ _ _ _ (And.intro rfl (hq))
    · dsimp only at c1
      have hc : decide (X.1 14 2 = 0) = false := by simpa using c1
      simp only [zr_drV, zr_drX, hc] at hq
      iterate 5 refine hK _ _ _ _ ?_
      refine hK _ _ _ _ (And.intro (rfl) (And.intro (g) ?_))
      refine hK _ _ _ _ (And.intro (rfl) (And.intro (g) ?_))
      exact hK _ _ _ _ (And.intro rfl (hq))
  · exact hC.elim
theorem len_Dr_exchange (w h : Nat) (lay : List mz_E) (as : List Value) (X : mz_X) (Q : mz_X → Prop) (hC : C_Dr_exchange w h lay as X Q) : (mz_l0 as).length ≤ 5 := by
  unfold C_Dr_exchange at hC
  split at hC
  · exact Nat.le_of_ble_eq_true rfl
  · exact hC.elim
theorem ok_Dr_exchange (w h : Nat) (lay : List mz_E) (as : List Value) (X : mz_X) (Q : mz_X → Prop) (hC : C_Dr_exchange w h lay as X Q) (K : mz_K) (hK : mz_Cl (I_Dr_exchange w h) (mz_qv lay Q) K) : K 0 (mz_ent 5 as) [] (lay, X) := by
  unfold C_Dr_exchange at hC
  split at hC
  · next i j =>
    obtain ⟨rfl, g, hq⟩ := hC
    have hd := mz_geo_d g
    have hin : ∀ k : Int32, ¬ zr_at w h X k = -1 → vp_in k (mz_dn w h) := by
      intro k hk
      unfold zr_at at hk
      split at hk
      · next hb =>
        simp only [Bool.and_eq_true, Bool.not_eq_true', decide_eq_false_iff_not] at hb
        exact mz_in hb.1.1 hb.2 (by omega)
      · exact absurd rfl hk
    iterate 2 refine hK _ _ _ _ ?_
    refine hK _ _ _ _ (And.intro (rfl) (And.intro (g) ?_))
    iterate 3 refine hK _ _ _ _ ?_
    refine hK _ _ _ _ (And.intro (rfl) (And.intro (g) ?_))
    iterate 3 refine hK _ _ _ _ ?_
    refine hK _ _ _ _ (And.intro (fun c1 => ?_) (fun c1 => ?_))
    · rw [show zr_exc w h X i j = X by simp [zr_exc, c1]] at hq
      exact hK _ _ _ _ (And.intro rfl (hq))
    · iterate 2 refine hK _ _ _ _ ?_
      refine hK _ _ _ _ (And.intro (fun c2 => ?_) (fun c2 => ?_))
      · rw [show zr_exc w h X i j = X by simp [zr_exc, c2]] at hq
        exact hK _ _ _ _ (And.intro rfl (hq))
      · rw [show zr_exc w h X i j = (mz_up (mz_up X.1 15 i.toNatClampNeg (zr_at w h X j)) 15 j.toNatClampNeg (zr_at w h X i), X.2) by simp [zr_exc, c1, c2]] at hq
        iterate 4 refine hK _ _ _ _ ?_
        refine hK _ _ _ _ (And.intro (hin i c1) ?_)
        iterate 4 refine hK _ _ _ _ ?_
        refine hK _ _ _ _ (And.intro (hin j c2) ?_)
        exact hK _ _ _ _ (And.intro rfl (hq))
  · exact hC.elim
theorem len_Dr_shuffle (w h : Nat) (lay : List mz_E) (as : List Value) (X : mz_X) (Q : mz_X → Prop) (hC : C_Dr_shuffle w h lay as X Q) : (mz_l0 as).length ≤ 2 := by
  unfold C_Dr_shuffle at hC
  split at hC
  · exact Nat.le_of_ble_eq_true rfl
  · exact hC.elim
theorem ok_Dr_shuffle (w h : Nat) (lay : List mz_E) (as : List Value) (X : mz_X) (Q : mz_X → Prop) (hC : C_Dr_shuffle w h lay as X Q) (K : mz_K) (hK : mz_Cl (I_Dr_shuffle w h) (mz_qv lay Q) K) : K 0 (mz_ent 2 as) [] (lay, X) := by
  unfold C_Dr_shuffle at hC
  split at hC
  ·
    obtain ⟨rfl, g, k, hk, hX, hq⟩ := hC
    have hd := mz_geo_d g
    have loop : ∀ (i : Nat) (Y : mz_X), i ≤ mz_dn w h → Q (zr_shu w h Y i) → K 7 [some (.ref 14), some (.int (nI i))] [] (mz_lay w h, Y) := by
      intro i
      induction i with
      | zero =>
        intro Y hi hY
        iterate 2 refine hK _ _ _ _ ?_
        refine hK _ _ _ _ (And.intro (fun c1 => ?_) (fun c1 => ?_))
        · exact hK _ _ _ _ (And.intro rfl (hY))
        · exact absurd (by decide) c1
      | succ i ih =>
        intro Y hi hY
        iterate 2 refine hK _ _ _ _ ?_
        refine hK _ _ _ _ (And.intro (fun c1 => ?_) (fun c1 => ?_))
        · dsimp only at c1
          exact absurd ((nI_ltI (a := i + 1) (b := 1) (by omega) (by omega)).mp c1) (by omega)
        · iterate 7 refine hK _ _ _ _ ?_
          refine hK _ _ _ _ (And.intro (rfl) (And.intro (g) ?_))
          refine hK _ _ _ _ (And.intro (rfl) (And.intro (g) ?_))
          iterate 2 refine hK _ _ _ _ ?_
          have := ih (zr_exc w h (zc_X Y (nI (i + 1) + 1)) (nI (i + 1)) (zc_n Y (nI (i + 1) + 1))) (by omega) hY
          rw [← pk_m1 i] at this
          exact this
    iterate 5 refine hK _ _ _ _ ?_
    cases k with
    | zero =>
      iterate 2 refine hK _ _ _ _ ?_
      refine hK _ _ _ _ (And.intro (fun c1 => ?_) (fun c1 => ?_))
      · exact hK _ _ _ _ (And.intro rfl (hq))
      · dsimp only at c1
        rw [hX] at c1
        exact absurd (by decide) c1
    | succ k =>
      have := loop k X (by omega) hq
      rw [← nI_pred k, ← hX] at this
      exact this
  · exact hC.elim
set_option maxRecDepth 20000 in
theorem snd_Ch_below (w h : Nat) (l : Launch) (p : Program) (e : Env) (s : State) (m : MethodId) (args : Array Value) (below : List Frame) (meth : Method) (c : Code) (D : va_G) (ad0 : Nat → Nat) (cA0 : Nat → ClassId) (A : Nat → Prop) (lay : List mz_E) (Q : Int32 → mz_X → Prop) (F : mz_F p s m args meth c prog_2_method_2_code 2 y_Ch_below.cls (some .int) w_Ch_below) (hA : ∀ q, s.heap.size ≤ q → A q) : mz_All (mz_V p l e (mz_rm 0 0) s m args below meth c 2 lay.length (mz_sz lay) D mz_cls (mz_G0 ad0 cA0) A (MQ below (va_Qi Q (mz_B D mz_cls ad0 cA0 lay A) A) args s 0 0 A)) (mz_qi lay Q) (I_Ch_below w h) := by
  obtain ⟨hx, hb, hml, hown, hts, hr, hlk⟩ := F
  unfold I_Ch_below
  refine mz_All.cons (sd_iload_n hx hb (mz_dg d_Ch_below 0 0 (.iload_n 1) 1 rfl) rfl) ?_
  refine mz_All.cons (sd_iconst hx hb (mz_dg d_Ch_below 1 1 (.iconst (1)) 1 rfl) (by decide)) ?_
  refine mz_All.cons (sd_icmp_ge hx hb (mz_dg d_Ch_below 2 2 (.if_icmp .ge (5)) 3 rfl) (by decide)) ?_
  refine mz_All.cons (sd_iconst hx hb (mz_dg d_Ch_below 3 5 (.iconst (0)) 1 rfl) (by decide)) ?_
  refine mz_All.cons (sd_ri hx hb hr hlk (mz_dg d_Ch_below 4 6 (.ireturn) 1 rfl)) ?_
  refine mz_All.cons (sd_aload_n hx hb (mz_dg d_Ch_below 5 7 (.aload_n 0) 1 rfl) rfl) ?_
  refine mz_All.cons (sd_ldc2 hx hb hown (hts _ (List.mem_cons_of_mem _ wm_399)) (mz_dg d_Ch_below 6 8 (.ldc2_w 13) 3 rfl)) ?_
  refine mz_All.cons (sd_aload_n hx hb (mz_dg d_Ch_below 7 11 (.aload_n 0) 1 rfl) rfl) ?_
  refine mz_All.cons (sd_get (k := 0) hx hb hts (mz_inC in_Ch) hown (T := T_Ch) (N := 1) rfl (by decide) (hts (.fieldLink "MazeForms$Chance" 7 "MazeForms$Chance" "state" "J") (List.mem_cons_of_mem _ wm_199)) (fun _ h => h) (mz_dg d_Ch_below 8 12 (.getfield 7) 3 rfl)) ?_
  refine mz_All.cons (sd_lmul hx hb (mz_dg d_Ch_below 9 15 (.lmul) 1 rfl)) ?_
  refine mz_All.cons (sd_ldc2 hx hb hown (hts _ (List.mem_cons_of_mem _ wm_400)) (mz_dg d_Ch_below 10 16 (.ldc2_w 15) 3 rfl)) ?_
  refine mz_All.cons (sd_ladd hx hb (mz_dg d_Ch_below 11 19 (.ladd) 1 rfl)) ?_
  refine mz_All.cons (sd_putl (k := 0) hx hb hts (mz_inC in_Ch) ty_Ch ty_Ch_ok nm_Ch hown (T := T_Ch) (N := 1) rfl (by decide) (hts (.fieldLink "MazeForms$Chance" 7 "MazeForms$Chance" "state" "J") (List.mem_cons_of_mem _ wm_199)) (fun _ h => h) rfl rfl (mz_dg d_Ch_below 12 20 (.putfield 7) 3 rfl)) ?_
  refine mz_All.cons (sd_aload_n hx hb (mz_dg d_Ch_below 13 23 (.aload_n 0) 1 rfl) rfl) ?_
  refine mz_All.cons (sd_get (k := 0) hx hb hts (mz_inC in_Ch) hown (T := T_Ch) (N := 1) rfl (by decide) (hts (.fieldLink "MazeForms$Chance" 7 "MazeForms$Chance" "state" "J") (List.mem_cons_of_mem _ wm_199)) (fun _ h => h) (mz_dg d_Ch_below 14 24 (.getfield 7) 3 rfl)) ?_
  refine mz_All.cons (sd_bipush hx hb (mz_dg d_Ch_below 15 27 (.bipush (33)) 2 rfl) (by decide)) ?_
  refine mz_All.cons (sd_lushr hx hb (mz_dg d_Ch_below 16 29 (.lushr) 1 rfl)) ?_
  refine mz_All.cons (sd_iload_n hx hb (mz_dg d_Ch_below 17 30 (.iload_n 1) 1 rfl) rfl) ?_
  refine mz_All.cons (sd_i2l hx hb (mz_dg d_Ch_below 18 31 (.i2l) 1 rfl)) ?_
  refine mz_All.cons (sd_lrem hx hb (mz_dg d_Ch_below 19 32 (.lrem) 1 rfl)) ?_
  refine mz_All.cons (sd_l2i hx hb (mz_dg d_Ch_below 20 33 (.l2i) 1 rfl)) ?_
  refine mz_All.cons (sd_ri hx hb hr hlk (mz_dg d_Ch_below 21 34 (.ireturn) 1 rfl)) ?_
  exact trivial
theorem met_Ch_below (w h : Nat) (l : Launch) : mz_MI l y_Ch_below w_Ch_below 0 0 mz_cls (C_Ch_below w h) := mz_MI_of (I_Ch_below w h) (by decide) rfl (len_Ch_below w h) (ok_Ch_below w h) (snd_Ch_below w h l)
set_option maxRecDepth 20000 in
theorem snd_Dr_count (w h : Nat) (l : Launch) (p : Program) (e : Env) (s : State) (m : MethodId) (args : Array Value) (below : List Frame) (meth : Method) (c : Code) (D : va_G) (ad0 : Nat → Nat) (cA0 : Nat → ClassId) (A : Nat → Prop) (lay : List mz_E) (Q : Int32 → mz_X → Prop) (F : mz_F p s m args meth c prog_3_method_2_code 1 y_Dr_count.cls (some .int) w_Dr_count) (hA : ∀ q, s.heap.size ≤ q → A q) : mz_All (mz_V p l e (mz_rm 0 0) s m args below meth c 1 lay.length (mz_sz lay) D mz_cls (mz_G0 ad0 cA0) A (MQ below (va_Qi Q (mz_B D mz_cls ad0 cA0 lay A) A) args s 0 0 A)) (mz_qi lay Q) (I_Dr_count w h) := by
  obtain ⟨hx, hb, hml, hown, hts, hr, hlk⟩ := F
  unfold I_Dr_count
  refine mz_All.cons (sd_aload_n hx hb (mz_dg d_Dr_count 0 0 (.aload_n 0) 1 rfl) rfl) ?_
  refine mz_All.cons (sd_get (k := 2) hx hb hts (mz_inC in_Dr) hown (T := T_Dr) (N := 3) rfl (by decide) (hts (.fieldLink "MazeForms$DoorRow" 25 "MazeForms$DoorRow" "count" "I") (List.mem_cons_of_mem _ wm_220)) (fun _ h => h) (mz_dg d_Dr_count 1 1 (.getfield 25) 3 rfl)) ?_
  refine mz_All.cons (sd_ri hx hb hr hlk (mz_dg d_Dr_count 2 4 (.ireturn) 1 rfl)) ?_
  exact trivial
theorem met_Dr_count (w h : Nat) (l : Launch) : mz_MI l y_Dr_count w_Dr_count 0 0 mz_cls (C_Dr_count w h) := mz_MI_of (I_Dr_count w h) (by decide) rfl (len_Dr_count w h) (ok_Dr_count w h) (snd_Dr_count w h l)
set_option maxRecDepth 20000 in
theorem snd_Dr_doorAt (w h : Nat) (l : Launch) (p : Program) (e : Env) (s : State) (m : MethodId) (args : Array Value) (below : List Frame) (meth : Method) (c : Code) (D : va_G) (ad0 : Nat → Nat) (cA0 : Nat → ClassId) (A : Nat → Prop) (lay : List mz_E) (Q : Int32 → mz_X → Prop) (F : mz_F p s m args meth c prog_3_method_3_code 2 y_Dr_doorAt.cls (some .int) w_Dr_doorAt) (hA : ∀ q, s.heap.size ≤ q → A q) : mz_All (mz_V p l e (mz_rm 0 0) s m args below meth c 2 lay.length (mz_sz lay) D mz_cls (mz_G0 ad0 cA0) A (MQ below (va_Qi Q (mz_B D mz_cls ad0 cA0 lay A) A) args s 0 0 A)) (mz_qi lay Q) (I_Dr_doorAt w h) := by
  obtain ⟨hx, hb, hml, hown, hts, hr, hlk⟩ := F
  unfold I_Dr_doorAt
  refine mz_All.cons (sd_iload_n hx hb (mz_dg d_Dr_doorAt 0 0 (.iload_n 1) 1 rfl) rfl) ?_
  refine mz_All.cons (sd_if_lt hx hb (mz_dg d_Dr_doorAt 1 1 (.ifCond .lt (29)) 3 rfl) (by decide)) ?_
  refine mz_All.cons (sd_iload_n hx hb (mz_dg d_Dr_doorAt 2 4 (.iload_n 1) 1 rfl) rfl) ?_
  refine mz_All.cons (sd_aload_n hx hb (mz_dg d_Dr_doorAt 3 5 (.aload_n 0) 1 rfl) rfl) ?_
  refine mz_All.cons (sd_get (k := 2) hx hb hts (mz_inC in_Dr) hown (T := T_Dr) (N := 3) rfl (by decide) (hts (.fieldLink "MazeForms$DoorRow" 25 "MazeForms$DoorRow" "count" "I") (List.mem_cons_of_mem _ wm_220)) (fun _ h => h) (mz_dg d_Dr_doorAt 4 6 (.getfield 25) 3 rfl)) ?_
  refine mz_All.cons (sd_icmp_ge hx hb (mz_dg d_Dr_doorAt 5 9 (.if_icmp .ge (21)) 3 rfl) (by decide)) ?_
  refine mz_All.cons (sd_iload_n hx hb (mz_dg d_Dr_doorAt 6 12 (.iload_n 1) 1 rfl) rfl) ?_
  refine mz_All.cons (sd_aload_n hx hb (mz_dg d_Dr_doorAt 7 13 (.aload_n 0) 1 rfl) rfl) ?_
  refine mz_All.cons (sd_get (k := 1) hx hb hts (mz_inC in_Dr) hown (T := T_Dr) (N := 3) rfl (by decide) (hts (.fieldLink "MazeForms$DoorRow" 21 "MazeForms$DoorRow" "row" "[I") (List.mem_cons_of_mem _ wm_219)) (fun _ h => h) (mz_dg d_Dr_doorAt 8 14 (.getfield 21) 3 rfl)) ?_
  refine mz_All.cons (sd_alen hx hb (mz_dg d_Dr_doorAt 9 17 (.arraylength) 1 rfl)) ?_
  refine mz_All.cons (sd_icmp_ge hx hb (mz_dg d_Dr_doorAt 10 18 (.if_icmp .ge (12)) 3 rfl) (by decide)) ?_
  refine mz_All.cons (sd_aload_n hx hb (mz_dg d_Dr_doorAt 11 21 (.aload_n 0) 1 rfl) rfl) ?_
  refine mz_All.cons (sd_get (k := 1) hx hb hts (mz_inC in_Dr) hown (T := T_Dr) (N := 3) rfl (by decide) (hts (.fieldLink "MazeForms$DoorRow" 21 "MazeForms$DoorRow" "row" "[I") (List.mem_cons_of_mem _ wm_219)) (fun _ h => h) (mz_dg d_Dr_doorAt 12 22 (.getfield 21) 3 rfl)) ?_
  refine mz_All.cons (sd_iload_n hx hb (mz_dg d_Dr_doorAt 13 25 (.iload_n 1) 1 rfl) rfl) ?_
  refine mz_All.cons (sd_iald hx hb (mz_dg d_Dr_doorAt 14 26 (.iaload) 1 rfl)) ?_
  refine mz_All.cons (sd_goto hx hb (mz_dg d_Dr_doorAt 15 27 (.goto (4)) 3 rfl) (by decide)) ?_
  refine mz_All.cons (sd_iconst hx hb (mz_dg d_Dr_doorAt 16 30 (.iconst (-1)) 1 rfl) (by decide)) ?_
  refine mz_All.cons (sd_ri hx hb hr hlk (mz_dg d_Dr_doorAt 17 31 (.ireturn) 1 rfl)) ?_
  exact trivial
theorem met_Dr_doorAt (w h : Nat) (l : Launch) : mz_MI l y_Dr_doorAt w_Dr_doorAt 0 0 mz_cls (C_Dr_doorAt w h) := mz_MI_of (I_Dr_doorAt w h) (by decide) rfl (len_Dr_doorAt w h) (ok_Dr_doorAt w h) (snd_Dr_doorAt w h l)
set_option maxRecDepth 20000 in
theorem snd_Dr_clear (w h : Nat) (l : Launch) (p : Program) (e : Env) (s : State) (m : MethodId) (args : Array Value) (below : List Frame) (meth : Method) (c : Code) (D : va_G) (ad0 : Nat → Nat) (cA0 : Nat → ClassId) (A : Nat → Prop) (lay : List mz_E) (Q : mz_X → Prop) (F : mz_F p s m args meth c prog_3_method_4_code 1 y_Dr_clear.cls none w_Dr_clear) (hA : ∀ q, s.heap.size ≤ q → A q) : mz_All (mz_V p l e (mz_rm 0 0) s m args below meth c 1 lay.length (mz_sz lay) D mz_cls (mz_G0 ad0 cA0) A (MQ below (va_Qv Q (mz_B D mz_cls ad0 cA0 lay A) A) args s 0 0 A)) (mz_qv lay Q) (I_Dr_clear w h) := by
  obtain ⟨hx, hb, hml, hown, hts, hr, hlk⟩ := F
  unfold I_Dr_clear
  refine mz_All.cons (sd_aload_n hx hb (mz_dg d_Dr_clear 0 0 (.aload_n 0) 1 rfl) rfl) ?_
  refine mz_All.cons (sd_iconst hx hb (mz_dg d_Dr_clear 1 1 (.iconst (0)) 1 rfl) (by decide)) ?_
  refine mz_All.cons (sd_puti (k := 2) hx hb hts (mz_inC in_Dr) ty_Dr ty_Dr_ok nm_Dr hown (T := T_Dr) (N := 3) rfl (by decide) (hts (.fieldLink "MazeForms$DoorRow" 25 "MazeForms$DoorRow" "count" "I") (List.mem_cons_of_mem _ wm_220)) (fun _ h => h) rfl rfl (mz_dg d_Dr_clear 2 2 (.putfield 25) 3 rfl)) ?_
  refine mz_All.cons (sd_rv hx hb hr hlk (mz_dg d_Dr_clear 3 5 (.return_) 1 rfl)) ?_
  exact trivial
theorem met_Dr_clear (w h : Nat) (l : Launch) : mz_MV l y_Dr_clear w_Dr_clear 0 0 mz_cls (C_Dr_clear w h) := mz_MV_of (I_Dr_clear w h) (by decide) rfl (len_Dr_clear w h) (ok_Dr_clear w h) (snd_Dr_clear w h l)
set_option maxRecDepth 20000 in
theorem snd_Dr_add (w h : Nat) (l : Launch) (p : Program) (e : Env) (s : State) (m : MethodId) (args : Array Value) (below : List Frame) (meth : Method) (c : Code) (D : va_G) (ad0 : Nat → Nat) (cA0 : Nat → ClassId) (A : Nat → Prop) (lay : List mz_E) (Q : mz_X → Prop) (F : mz_F p s m args meth c prog_3_method_5_code 2 y_Dr_add.cls none w_Dr_add) (hA : ∀ q, s.heap.size ≤ q → A q) : mz_All (mz_V p l e (mz_rm 0 0) s m args below meth c 2 lay.length (mz_sz lay) D mz_cls (mz_G0 ad0 cA0) A (MQ below (va_Qv Q (mz_B D mz_cls ad0 cA0 lay A) A) args s 0 0 A)) (mz_qv lay Q) (I_Dr_add w h) := by
  obtain ⟨hx, hb, hml, hown, hts, hr, hlk⟩ := F
  unfold I_Dr_add
  refine mz_All.cons (sd_iload_n hx hb (mz_dg d_Dr_add 0 0 (.iload_n 1) 1 rfl) rfl) ?_
  refine mz_All.cons (sd_iconst hx hb (mz_dg d_Dr_add 1 1 (.iconst (-1)) 1 rfl) (by decide)) ?_
  refine mz_All.cons (sd_icmp_eq hx hb (mz_dg d_Dr_add 2 2 (.if_icmp .eq (42)) 3 rfl) (by decide)) ?_
  refine mz_All.cons (sd_aload_n hx hb (mz_dg d_Dr_add 3 5 (.aload_n 0) 1 rfl) rfl) ?_
  refine mz_All.cons (sd_get (k := 2) hx hb hts (mz_inC in_Dr) hown (T := T_Dr) (N := 3) rfl (by decide) (hts (.fieldLink "MazeForms$DoorRow" 25 "MazeForms$DoorRow" "count" "I") (List.mem_cons_of_mem _ wm_220)) (fun _ h => h) (mz_dg d_Dr_add 4 6 (.getfield 25) 3 rfl)) ?_
  refine mz_All.cons (sd_if_lt hx hb (mz_dg d_Dr_add 5 9 (.ifCond .lt (35)) 3 rfl) (by decide)) ?_
  refine mz_All.cons (sd_aload_n hx hb (mz_dg d_Dr_add 6 12 (.aload_n 0) 1 rfl) rfl) ?_
  refine mz_All.cons (sd_get (k := 2) hx hb hts (mz_inC in_Dr) hown (T := T_Dr) (N := 3) rfl (by decide) (hts (.fieldLink "MazeForms$DoorRow" 25 "MazeForms$DoorRow" "count" "I") (List.mem_cons_of_mem _ wm_220)) (fun _ h => h) (mz_dg d_Dr_add 7 13 (.getfield 25) 3 rfl)) ?_
  refine mz_All.cons (sd_aload_n hx hb (mz_dg d_Dr_add 8 16 (.aload_n 0) 1 rfl) rfl) ?_
  refine mz_All.cons (sd_get (k := 1) hx hb hts (mz_inC in_Dr) hown (T := T_Dr) (N := 3) rfl (by decide) (hts (.fieldLink "MazeForms$DoorRow" 21 "MazeForms$DoorRow" "row" "[I") (List.mem_cons_of_mem _ wm_219)) (fun _ h => h) (mz_dg d_Dr_add 9 17 (.getfield 21) 3 rfl)) ?_
  refine mz_All.cons (sd_alen hx hb (mz_dg d_Dr_add 10 20 (.arraylength) 1 rfl)) ?_
  refine mz_All.cons (sd_icmp_ge hx hb (mz_dg d_Dr_add 11 21 (.if_icmp .ge (23)) 3 rfl) (by decide)) ?_
  refine mz_All.cons (sd_aload_n hx hb (mz_dg d_Dr_add 12 24 (.aload_n 0) 1 rfl) rfl) ?_
  refine mz_All.cons (sd_get (k := 1) hx hb hts (mz_inC in_Dr) hown (T := T_Dr) (N := 3) rfl (by decide) (hts (.fieldLink "MazeForms$DoorRow" 21 "MazeForms$DoorRow" "row" "[I") (List.mem_cons_of_mem _ wm_219)) (fun _ h => h) (mz_dg d_Dr_add 13 25 (.getfield 21) 3 rfl)) ?_
  refine mz_All.cons (sd_aload_n hx hb (mz_dg d_Dr_add 14 28 (.aload_n 0) 1 rfl) rfl) ?_
  refine mz_All.cons (sd_get (k := 2) hx hb hts (mz_inC in_Dr) hown (T := T_Dr) (N := 3) rfl (by decide) (hts (.fieldLink "MazeForms$DoorRow" 25 "MazeForms$DoorRow" "count" "I") (List.mem_cons_of_mem _ wm_220)) (fun _ h => h) (mz_dg d_Dr_add 15 29 (.getfield 25) 3 rfl)) ?_
  refine mz_All.cons (sd_iload_n hx hb (mz_dg d_Dr_add 16 32 (.iload_n 1) 1 rfl) rfl) ?_
  refine mz_All.cons (sd_iast hx hb (mz_dg d_Dr_add 17 33 (.iastore) 1 rfl)) ?_
  refine mz_All.cons (sd_aload_n hx hb (mz_dg d_Dr_add 18 34 (.aload_n 0) 1 rfl) rfl) ?_
  refine mz_All.cons (sd_dup hx hb (mz_dg d_Dr_add 19 35 (.dup) 1 rfl)) ?_
  refine mz_All.cons (sd_get (k := 2) hx hb hts (mz_inC in_Dr) hown (T := T_Dr) (N := 3) rfl (by decide) (hts (.fieldLink "MazeForms$DoorRow" 25 "MazeForms$DoorRow" "count" "I") (List.mem_cons_of_mem _ wm_220)) (fun _ h => h) (mz_dg d_Dr_add 20 36 (.getfield 25) 3 rfl)) ?_
  refine mz_All.cons (sd_iconst hx hb (mz_dg d_Dr_add 21 39 (.iconst (1)) 1 rfl) (by decide)) ?_
  refine mz_All.cons (sd_iadd hx hb (mz_dg d_Dr_add 22 40 (.iadd) 1 rfl)) ?_
  refine mz_All.cons (sd_puti (k := 2) hx hb hts (mz_inC in_Dr) ty_Dr ty_Dr_ok nm_Dr hown (T := T_Dr) (N := 3) rfl (by decide) (hts (.fieldLink "MazeForms$DoorRow" 25 "MazeForms$DoorRow" "count" "I") (List.mem_cons_of_mem _ wm_220)) (fun _ h => h) rfl rfl (mz_dg d_Dr_add 23 41 (.putfield 25) 3 rfl)) ?_
  refine mz_All.cons (sd_rv hx hb hr hlk (mz_dg d_Dr_add 24 44 (.return_) 1 rfl)) ?_
  exact trivial
theorem met_Dr_add (w h : Nat) (l : Launch) : mz_MV l y_Dr_add w_Dr_add 0 0 mz_cls (C_Dr_add w h) := mz_MV_of (I_Dr_add w h) (by decide) rfl (len_Dr_add w h) (ok_Dr_add w h) (snd_Dr_add w h l)
set_option maxRecDepth 20000 in
theorem snd_Dr_draw (w h : Nat) (l : Launch) (p : Program) (e : Env) (s : State) (m : MethodId) (args : Array Value) (below : List Frame) (meth : Method) (c : Code) (D : va_G) (ad0 : Nat → Nat) (cA0 : Nat → ClassId) (A : Nat → Prop) (lay : List mz_E) (Q : Int32 → mz_X → Prop) (F : mz_F p s m args meth c prog_3_method_6_code 1 y_Dr_draw.cls (some .int) w_Dr_draw) (hA : ∀ q, s.heap.size ≤ q → A q) : mz_All (mz_V p l e (mz_rm 1 21) s m args below meth c 1 lay.length (mz_sz lay) D mz_cls (mz_G0 ad0 cA0) A (MQ below (va_Qi Q (mz_B D mz_cls ad0 cA0 lay A) A) args s 0 0 A)) (mz_qi lay Q) (I_Dr_draw w h) := by
  obtain ⟨hx, hb, hml, hown, hts, hr, hlk⟩ := F
  unfold I_Dr_draw
  refine mz_All.cons (sd_aload_n hx hb (mz_dg d_Dr_draw 0 0 (.aload_n 0) 1 rfl) rfl) ?_
  refine mz_All.cons (sd_get (k := 2) hx hb hts (mz_inC in_Dr) hown (T := T_Dr) (N := 3) rfl (by decide) (hts (.fieldLink "MazeForms$DoorRow" 25 "MazeForms$DoorRow" "count" "I") (List.mem_cons_of_mem _ wm_220)) (fun _ h => h) (mz_dg d_Dr_draw 1 1 (.getfield 25) 3 rfl)) ?_
  refine mz_All.cons (sd_if_ne hx hb (mz_dg d_Dr_draw 2 4 (.ifCond .ne (7)) 3 rfl) (by decide)) ?_
  refine mz_All.cons (sd_iconst hx hb (mz_dg d_Dr_draw 3 7 (.iconst (-1)) 1 rfl) (by decide)) ?_
  refine mz_All.cons (sd_goto hx hb (mz_dg d_Dr_draw 4 8 (.goto (18)) 3 rfl) (by decide)) ?_
  refine mz_All.cons (sd_aload_n hx hb (mz_dg d_Dr_draw 5 11 (.aload_n 0) 1 rfl) rfl) ?_
  refine mz_All.cons (sd_aload_n hx hb (mz_dg d_Dr_draw 6 12 (.aload_n 0) 1 rfl) rfl) ?_
  refine mz_All.cons (sd_get (k := 0) hx hb hts (mz_inC in_Dr) hown (T := T_Dr) (N := 3) rfl (by decide) (hts (.fieldLink "MazeForms$DoorRow" 9 "MazeForms$DoorRow" "chance" "LMazeForms$Chance;") (List.mem_cons_of_mem _ wm_218)) (fun _ h => h) (mz_dg d_Dr_draw 7 13 (.getfield 9) 3 rfl)) ?_
  refine mz_All.cons (sd_aload_n hx hb (mz_dg d_Dr_draw 8 16 (.aload_n 0) 1 rfl) rfl) ?_
  refine mz_All.cons (sd_get (k := 2) hx hb hts (mz_inC in_Dr) hown (T := T_Dr) (N := 3) rfl (by decide) (hts (.fieldLink "MazeForms$DoorRow" 25 "MazeForms$DoorRow" "count" "I") (List.mem_cons_of_mem _ wm_220)) (fun _ h => h) (mz_dg d_Dr_draw 9 17 (.getfield 25) 3 rfl)) ?_
  refine mz_All.cons (sd_calli (T := T_Ch) ⟨hx, hb, hml, hown, hts⟩ (met_Ch_below w h l) (cwV 1 hts (mz_gV wm_395 wm_396 wm_397 wm_73 wm_398) rfl rfl rfl (by decide) ⟨by decide, by decide⟩) rfl hA rfl (mz_dg d_Dr_draw 10 20 (.invokevirtual 29) 3 rfl)) ?_
  refine mz_All.cons (sd_calli (T := T_Dr) ⟨hx, hb, hml, hown, hts⟩ (met_Dr_doorAt w h l) (cwV 1 hts (mz_gV wm_401 wm_402 wm_403 wm_74 wm_404) rfl rfl rfl (by decide) ⟨by decide, by decide⟩) rfl hA rfl (mz_dg d_Dr_draw 11 23 (.invokevirtual 35) 3 rfl)) ?_
  refine mz_All.cons (sd_ri hx hb hr hlk (mz_dg d_Dr_draw 12 26 (.ireturn) 1 rfl)) ?_
  exact trivial
theorem met_Dr_draw (w h : Nat) (l : Launch) : mz_MI l y_Dr_draw w_Dr_draw 1 21 mz_cls (C_Dr_draw w h) := mz_MI_of (I_Dr_draw w h) (by decide) rfl (len_Dr_draw w h) (ok_Dr_draw w h) (snd_Dr_draw w h l)
set_option maxRecDepth 20000 in
theorem snd_Dr_exchange (w h : Nat) (l : Launch) (p : Program) (e : Env) (s : State) (m : MethodId) (args : Array Value) (below : List Frame) (meth : Method) (c : Code) (D : va_G) (ad0 : Nat → Nat) (cA0 : Nat → ClassId) (A : Nat → Prop) (lay : List mz_E) (Q : mz_X → Prop) (F : mz_F p s m args meth c prog_3_method_8_code 5 y_Dr_exchange.cls none w_Dr_exchange) (hA : ∀ q, s.heap.size ≤ q → A q) : mz_All (mz_V p l e (mz_rm 1 21) s m args below meth c 5 lay.length (mz_sz lay) D mz_cls (mz_G0 ad0 cA0) A (MQ below (va_Qv Q (mz_B D mz_cls ad0 cA0 lay A) A) args s 0 0 A)) (mz_qv lay Q) (I_Dr_exchange w h) := by
  obtain ⟨hx, hb, hml, hown, hts, hr, hlk⟩ := F
  unfold I_Dr_exchange
  refine mz_All.cons (sd_aload_n hx hb (mz_dg d_Dr_exchange 0 0 (.aload_n 0) 1 rfl) rfl) ?_
  refine mz_All.cons (sd_iload_n hx hb (mz_dg d_Dr_exchange 1 1 (.iload_n 1) 1 rfl) rfl) ?_
  refine mz_All.cons (sd_calli (T := T_Dr) ⟨hx, hb, hml, hown, hts⟩ (met_Dr_doorAt w h l) (cwV 1 hts (mz_gV wm_401 wm_402 wm_403 wm_74 wm_404) rfl rfl rfl (by decide) ⟨by decide, by decide⟩) rfl hA rfl (mz_dg d_Dr_exchange 2 2 (.invokevirtual 35) 3 rfl)) ?_
  refine mz_All.cons (sd_istore_n hx hb (mz_dg d_Dr_exchange 3 5 (.istore_n 3) 1 rfl) rfl (by decide)) ?_
  refine mz_All.cons (sd_aload_n hx hb (mz_dg d_Dr_exchange 4 6 (.aload_n 0) 1 rfl) rfl) ?_
  refine mz_All.cons (sd_iload_n hx hb (mz_dg d_Dr_exchange 5 7 (.iload_n 2) 1 rfl) rfl) ?_
  refine mz_All.cons (sd_calli (T := T_Dr) ⟨hx, hb, hml, hown, hts⟩ (met_Dr_doorAt w h l) (cwV 1 hts (mz_gV wm_401 wm_402 wm_403 wm_74 wm_404) rfl rfl rfl (by decide) ⟨by decide, by decide⟩) rfl hA rfl (mz_dg d_Dr_exchange 6 8 (.invokevirtual 35) 3 rfl)) ?_
  refine mz_All.cons (sd_istore hx hb (mz_dg d_Dr_exchange 7 11 (.istore 4) 2 rfl) (by decide)) ?_
  refine mz_All.cons (sd_iload_n hx hb (mz_dg d_Dr_exchange 8 13 (.iload_n 3) 1 rfl) rfl) ?_
  refine mz_All.cons (sd_iconst hx hb (mz_dg d_Dr_exchange 9 14 (.iconst (-1)) 1 rfl) (by decide)) ?_
  refine mz_All.cons (sd_icmp_eq hx hb (mz_dg d_Dr_exchange 10 15 (.if_icmp .eq (24)) 3 rfl) (by decide)) ?_
  refine mz_All.cons (sd_iload hx hb (mz_dg d_Dr_exchange 11 18 (.iload 4) 2 rfl)) ?_
  refine mz_All.cons (sd_iconst hx hb (mz_dg d_Dr_exchange 12 20 (.iconst (-1)) 1 rfl) (by decide)) ?_
  refine mz_All.cons (sd_icmp_eq hx hb (mz_dg d_Dr_exchange 13 21 (.if_icmp .eq (18)) 3 rfl) (by decide)) ?_
  refine mz_All.cons (sd_aload_n hx hb (mz_dg d_Dr_exchange 14 24 (.aload_n 0) 1 rfl) rfl) ?_
  refine mz_All.cons (sd_get (k := 1) hx hb hts (mz_inC in_Dr) hown (T := T_Dr) (N := 3) rfl (by decide) (hts (.fieldLink "MazeForms$DoorRow" 21 "MazeForms$DoorRow" "row" "[I") (List.mem_cons_of_mem _ wm_219)) (fun _ h => h) (mz_dg d_Dr_exchange 15 25 (.getfield 21) 3 rfl)) ?_
  refine mz_All.cons (sd_iload_n hx hb (mz_dg d_Dr_exchange 16 28 (.iload_n 1) 1 rfl) rfl) ?_
  refine mz_All.cons (sd_iload hx hb (mz_dg d_Dr_exchange 17 29 (.iload 4) 2 rfl)) ?_
  refine mz_All.cons (sd_iast hx hb (mz_dg d_Dr_exchange 18 31 (.iastore) 1 rfl)) ?_
  refine mz_All.cons (sd_aload_n hx hb (mz_dg d_Dr_exchange 19 32 (.aload_n 0) 1 rfl) rfl) ?_
  refine mz_All.cons (sd_get (k := 1) hx hb hts (mz_inC in_Dr) hown (T := T_Dr) (N := 3) rfl (by decide) (hts (.fieldLink "MazeForms$DoorRow" 21 "MazeForms$DoorRow" "row" "[I") (List.mem_cons_of_mem _ wm_219)) (fun _ h => h) (mz_dg d_Dr_exchange 20 33 (.getfield 21) 3 rfl)) ?_
  refine mz_All.cons (sd_iload_n hx hb (mz_dg d_Dr_exchange 21 36 (.iload_n 2) 1 rfl) rfl) ?_
  refine mz_All.cons (sd_iload_n hx hb (mz_dg d_Dr_exchange 22 37 (.iload_n 3) 1 rfl) rfl) ?_
  refine mz_All.cons (sd_iast hx hb (mz_dg d_Dr_exchange 23 38 (.iastore) 1 rfl)) ?_
  refine mz_All.cons (sd_rv hx hb hr hlk (mz_dg d_Dr_exchange 24 39 (.return_) 1 rfl)) ?_
  exact trivial
theorem met_Dr_exchange (w h : Nat) (l : Launch) : mz_MV l y_Dr_exchange w_Dr_exchange 1 21 mz_cls (C_Dr_exchange w h) := mz_MV_of (I_Dr_exchange w h) (by decide) rfl (len_Dr_exchange w h) (ok_Dr_exchange w h) (snd_Dr_exchange w h l)
set_option maxRecDepth 20000 in
theorem snd_Dr_shuffle (w h : Nat) (l : Launch) (p : Program) (e : Env) (s : State) (m : MethodId) (args : Array Value) (below : List Frame) (meth : Method) (c : Code) (D : va_G) (ad0 : Nat → Nat) (cA0 : Nat → ClassId) (A : Nat → Prop) (lay : List mz_E) (Q : mz_X → Prop) (F : mz_F p s m args meth c prog_3_method_7_code 2 y_Dr_shuffle.cls none w_Dr_shuffle) (hA : ∀ q, s.heap.size ≤ q → A q) : mz_All (mz_V p l e (mz_rm 2 45) s m args below meth c 2 lay.length (mz_sz lay) D mz_cls (mz_G0 ad0 cA0) A (MQ below (va_Qv Q (mz_B D mz_cls ad0 cA0 lay A) A) args s 0 0 A)) (mz_qv lay Q) (I_Dr_shuffle w h) := by
  obtain ⟨hx, hb, hml, hown, hts, hr, hlk⟩ := F
  unfold I_Dr_shuffle
  refine mz_All.cons (sd_aload_n hx hb (mz_dg d_Dr_shuffle 0 0 (.aload_n 0) 1 rfl) rfl) ?_
  refine mz_All.cons (sd_get (k := 2) hx hb hts (mz_inC in_Dr) hown (T := T_Dr) (N := 3) rfl (by decide) (hts (.fieldLink "MazeForms$DoorRow" 25 "MazeForms$DoorRow" "count" "I") (List.mem_cons_of_mem _ wm_220)) (fun _ h => h) (mz_dg d_Dr_shuffle 1 1 (.getfield 25) 3 rfl)) ?_
  refine mz_All.cons (sd_iconst hx hb (mz_dg d_Dr_shuffle 2 4 (.iconst (1)) 1 rfl) (by decide)) ?_
  refine mz_All.cons (sd_isub hx hb (mz_dg d_Dr_shuffle 3 5 (.isub) 1 rfl)) ?_
  refine mz_All.cons (sd_istore_n hx hb (mz_dg d_Dr_shuffle 4 6 (.istore_n 1) 1 rfl) rfl (by decide)) ?_
  refine mz_All.cons (sd_iload_n hx hb (mz_dg d_Dr_shuffle 5 7 (.iload_n 1) 1 rfl) rfl) ?_
  refine mz_All.cons (sd_iconst hx hb (mz_dg d_Dr_shuffle 6 8 (.iconst (1)) 1 rfl) (by decide)) ?_
  refine mz_All.cons (sd_icmp_lt hx hb (mz_dg d_Dr_shuffle 7 9 (.if_icmp .lt (24)) 3 rfl) (by decide)) ?_
  refine mz_All.cons (sd_aload_n hx hb (mz_dg d_Dr_shuffle 8 12 (.aload_n 0) 1 rfl) rfl) ?_
  refine mz_All.cons (sd_iload_n hx hb (mz_dg d_Dr_shuffle 9 13 (.iload_n 1) 1 rfl) rfl) ?_
  refine mz_All.cons (sd_aload_n hx hb (mz_dg d_Dr_shuffle 10 14 (.aload_n 0) 1 rfl) rfl) ?_
  refine mz_All.cons (sd_get (k := 0) hx hb hts (mz_inC in_Dr) hown (T := T_Dr) (N := 3) rfl (by decide) (hts (.fieldLink "MazeForms$DoorRow" 9 "MazeForms$DoorRow" "chance" "LMazeForms$Chance;") (List.mem_cons_of_mem _ wm_218)) (fun _ h => h) (mz_dg d_Dr_shuffle 11 15 (.getfield 9) 3 rfl)) ?_
  refine mz_All.cons (sd_iload_n hx hb (mz_dg d_Dr_shuffle 12 18 (.iload_n 1) 1 rfl) rfl) ?_
  refine mz_All.cons (sd_iconst hx hb (mz_dg d_Dr_shuffle 13 19 (.iconst (1)) 1 rfl) (by decide)) ?_
  refine mz_All.cons (sd_iadd hx hb (mz_dg d_Dr_shuffle 14 20 (.iadd) 1 rfl)) ?_
  refine mz_All.cons (sd_calli (T := T_Ch) ⟨hx, hb, hml, hown, hts⟩ (met_Ch_below w h l) (cwV 1 hts (mz_gV wm_395 wm_396 wm_397 wm_73 wm_398) rfl rfl rfl (by decide) ⟨by decide, by decide⟩) rfl hA rfl (mz_dg d_Dr_shuffle 15 21 (.invokevirtual 29) 3 rfl)) ?_
  refine mz_All.cons (sd_callv (T := T_Dr) ⟨hx, hb, hml, hown, hts⟩ (met_Dr_exchange w h l) (cwV 2 hts (mz_gV wm_433 wm_435 wm_11 wm_74 wm_436) rfl rfl rfl (by decide) ⟨by decide, by decide⟩) rfl hA rfl (mz_dg d_Dr_shuffle 16 24 (.invokevirtual 38) 3 rfl)) ?_
  refine mz_All.cons (sd_iinc hx hb (mz_dg d_Dr_shuffle 17 27 (.iinc 1 (-1)) 3 rfl) (by decide) (by decide)) ?_
  refine mz_All.cons (sd_goto hx hb (mz_dg d_Dr_shuffle 18 30 (.goto (-23)) 3 rfl) (by decide)) ?_
  refine mz_All.cons (sd_rv hx hb hr hlk (mz_dg d_Dr_shuffle 19 33 (.return_) 1 rfl)) ?_
  exact trivial
theorem met_Dr_shuffle (w h : Nat) (l : Launch) : mz_MV l y_Dr_shuffle w_Dr_shuffle 2 45 mz_cls (C_Dr_shuffle w h) := mz_MV_of (I_Dr_shuffle w h) (by decide) rfl (len_Dr_shuffle w h) (ok_Dr_shuffle w h) (snd_Dr_shuffle w h l)
