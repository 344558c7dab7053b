/-- residue: the prime is put, the size is one less than the free cells -/
def zq_r1 (w h : Nat) (X : mz_X) (v : Int64) : mz_X := zq_nm w h (X.1, mz_up X.2 20 6 v) (w * h)
def zq_rn (w h : Nat) (X : mz_X) : Nat := mz_cnt (fun c => zg_free w h X (nI c)) (w * h)
def zq_r2 (w h : Nat) (X : mz_X) (v : Int64) : mz_X := (mz_up (zq_r1 w h X v).1 20 5 (nI (zq_rn w h (X.1, mz_up X.2 20 6 v)) - 1), (zq_r1 w h X v).2)
def y_Tc_addRow : MethodName := ⟨"MazeForms$TreeCount", "addRow", "(IIJ)V"⟩
abbrev w_Tc_addRow : List Cond := .code y_Tc_addRow prog_9_method_15_code 12 none :: mz_tb
def dl_Tc_addRow : List (Nat × ClassFile.Instr × Nat) := [(0, .aload_n 0, 1), (1, .iload_n 1, 1), (2, .invokevirtual 121, 3), (5, .istore 5, 2), (7, .aload_n 0, 1), (8, .iload_n 1, 1), (9, .iload_n 1, 1), (10, .invokevirtual 90, 3), (13, .istore 6, 2), (15, .aload_n 0, 1), (16, .iload_n 2, 1), (17, .iload_n 1, 1), (18, .invokevirtual 90, 3), (21, .istore 7, 2), (23, .iload 6, 2), (25, .iconst (-1), 1), (26, .if_icmp .eq (9), 3), (29, .iload 7, 2), (31, .iconst (-1), 1), (32, .if_icmp .ne (4), 3), (35, .return_, 1), (36, .iload 5, 2), (38, .iload_n 1, 1), (39, .isub, 1), (40, .iconst (1), 1), (41, .iadd, 1), (42, .istore 8, 2), (44, .iload 6, 2), (46, .iload 8, 2), (48, .iadd, 1), (49, .aload_n 0, 1), (50, .getfield 35, 3), (53, .arraylength, 1), (54, .if_icmp .gt (16), 3), (57, .iload 7, 2), (59, .iload 8, 2), (61, .iadd, 1), (62, .aload_n 0, 1), (63, .getfield 35, 3), (66, .arraylength, 1), (67, .if_icmp .le (4), 3), (70, .return_, 1), (71, .iconst (0), 1), (72, .istore 9, 2), (74, .iload 9, 2), (76, .iload 8, 2), (78, .if_icmp .ge (69), 3), (81, .aload_n 0, 1), (82, .getfield 35, 3), (85, .iload 7, 2), (87, .iload 9, 2), (89, .iadd, 1), (90, .laload, 1), (91, .aload_n 0, 1), (92, .lload_n 3, 1), (93, .aload_n 0, 1), (94, .getfield 35, 3), (97, .iload 6, 2), (99, .iload 9, 2), (101, .iadd, 1), (102, .laload, 1), (103, .invokevirtual 105, 3), (106, .ladd, 1), (107, .lstore 10, 2), (109, .aload_n 0, 1), (110, .getfield 35, 3), (113, .iload 7, 2), (115, .iload 9, 2), (117, .iadd, 1), (118, .lload 10, 2), (120, .aload_n 0, 1), (121, .getfield 43, 3), (124, .lcmp, 1), (125, .ifCond .lt (13), 3), (128, .lload 10, 2), (130, .aload_n 0, 1), (131, .getfield 43, 3), (134, .lsub, 1), (135, .goto (5), 3), (138, .lload 10, 2), (140, .lastore, 1), (141, .iinc 9 (1), 3), (144, .goto (-70), 3), (147, .return_, 1)]
theorem d_Tc_addRow : mz_dec prog_9_method_15_code dl_Tc_addRow = true := by decide +kernel
def y_Tc_clearBelow : MethodName := ⟨"MazeForms$TreeCount", "clearBelow", "(I)V"⟩
abbrev w_Tc_clearBelow : List Cond := .code y_Tc_clearBelow prog_9_method_14_code 7 none :: mz_tb
def dl_Tc_clearBelow : List (Nat × ClassFile.Instr × Nat) := [(0, .aload_n 0, 1), (1, .aload_n 0, 1), (2, .iload_n 1, 1), (3, .iload_n 1, 1), (4, .invokevirtual 101, 3), (7, .invokevirtual 124, 3), (10, .lstore_n 2, 1), (11, .iload_n 1, 1), (12, .iconst (1), 1), (13, .iadd, 1), (14, .istore 4, 2), (16, .iload 4, 2), (18, .aload_n 0, 1), (19, .iload_n 1, 1), (20, .invokevirtual 113, 3), (23, .if_icmp .gt (44), 3), (26, .aload_n 0, 1), (27, .iload 4, 2), (29, .iload_n 1, 1), (30, .invokevirtual 101, 3), (33, .lstore 5, 2), (35, .lload 5, 2), (37, .lconst 0, 1), (38, .lcmp, 1), (39, .ifCond .eq (22), 3), (42, .aload_n 0, 1), (43, .iload_n 1, 1), (44, .iload 4, 2), (46, .aload_n 0, 1), (47, .aload_n 0, 1), (48, .getfield 43, 3), (51, .lload 5, 2), (53, .lsub, 1), (54, .lload_n 2, 1), (55, .invokevirtual 105, 3), (58, .invokevirtual 128, 3), (61, .iinc 4 (1), 3), (64, .goto (-48), 3), (67, .return_, 1)]
theorem d_Tc_clearBelow : mz_dec prog_9_method_14_code dl_Tc_clearBelow = true := by decide +kernel
def y_Tc_determinant : MethodName := ⟨"MazeForms$TreeCount", "determinant", "()J"⟩
abbrev w_Tc_determinant : List Cond := .code y_Tc_determinant prog_9_method_9_code 5 (some .long) :: mz_tb
def dl_Tc_determinant : List (Nat × ClassFile.Instr × Nat) := [(0, .lconst 1, 1), (1, .lstore_n 1, 1), (2, .iconst (0), 1), (3, .istore_n 3, 1), (4, .iload_n 3, 1), (5, .aload_n 0, 1), (6, .getfield 50, 3), (9, .if_icmp .ge (61), 3), (12, .aload_n 0, 1), (13, .iload_n 3, 1), (14, .invokevirtual 94, 3), (17, .istore 4, 2), (19, .iload 4, 2), (21, .iconst (-1), 1), (22, .if_icmp .ne (5), 3), (25, .lconst 0, 1), (26, .lreturn, 1), (27, .iload 4, 2), (29, .iload_n 3, 1), (30, .if_icmp .eq (17), 3), (33, .aload_n 0, 1), (34, .iload_n 3, 1), (35, .iload 4, 2), (37, .invokevirtual 97, 3), (40, .aload_n 0, 1), (41, .getfield 43, 3), (44, .lload_n 1, 1), (45, .lsub, 1), (46, .lstore_n 1, 1), (47, .aload_n 0, 1), (48, .lload_n 1, 1), (49, .aload_n 0, 1), (50, .iload_n 3, 1), (51, .iload_n 3, 1), (52, .invokevirtual 101, 3), (55, .invokevirtual 105, 3), (58, .lstore_n 1, 1), (59, .aload_n 0, 1), (60, .iload_n 3, 1), (61, .invokevirtual 109, 3), (64, .iinc 3 (1), 3), (67, .goto (-63), 3), (70, .lload_n 1, 1), (71, .lreturn, 1)]
theorem d_Tc_determinant : mz_dec prog_9_method_9_code dl_Tc_determinant = true := by decide +kernel
def I_Tc_addRow (w h : Nat) : List (Nat × mz_Op) := [(0, mz_lda 0 1), (1, mz_ldi 1 2), (2, mz_ci 2 7 (C_Tc_lastColumn w h) 5), (5, mz_sti 5 7), (7, mz_lda 0 8), (8, mz_ldi 1 9), (9, mz_ldi 1 10), (10, mz_ci 3 7 (C_Tc_slotOf w h) 13), (13, mz_sti 6 15), (15, mz_lda 0 16), (16, mz_ldi 2 17), (17, mz_ldi 1 18), (18, mz_ci 3 7 (C_Tc_slotOf w h) 21), (21, mz_sti 7 23), (23, mz_ldi 6 25), (25, mz_push (.int (-1)) 26), (26, mz_ic (fun x y => x = y) 35 29), (29, mz_ldi 7 31), (31, mz_push (.int (-1)) 32), (32, mz_ic (fun x y => x = y) 35 36), (35, mz_rv), (36, mz_ldi 5 38), (38, mz_ldi 1 39), (39, mz_bi (fun x y => x - y) 40), (40, mz_push (.int (1)) 41), (41, mz_bi (fun x y => x + y) 42), (42, mz_sti 8 44), (44, mz_ldi 6 46), (46, mz_ldi 8 48), (48, mz_bi (fun x y => x + y) 49), (49, mz_lda 0 50), (50, mz_gf 7 4 53), (53, mz_al 54), (54, mz_ic (fun x y => y < x) 70 57), (57, mz_ldi 7 59), (59, mz_ldi 8 61), (61, mz_bi (fun x y => x + y) 62), (62, mz_lda 0 63), (63, mz_gf 7 4 66), (66, mz_al 67), (67, mz_ic (fun x y => x ≤ y) 71 70), (70, mz_rv), (71, mz_push (.int (0)) 72), (72, mz_sti 9 74), (74, mz_ldi 9 76), (76, mz_ldi 8 78), (78, mz_ic (fun x y => y ≤ x) 147 81), (81, mz_lda 0 82), (82, mz_gf 7 4 85), (85, mz_ldi 7 87), (87, mz_ldi 9 89), (89, mz_bi (fun x y => x + y) 90), (90, mz_lald 91), (91, mz_lda 0 92), (92, mz_ldl 3 93), (93, mz_lda 0 94), (94, mz_gf 7 4 97), (97, mz_ldi 6 99), (99, mz_ldi 9 101), (101, mz_bi (fun x y => x + y) 102), (102, mz_lald 103), (103, mz_cl 3 7 (C_Tc_times w h) 106), (106, mz_bl (fun x y => x + y) 107), (107, mz_stl 10 109), (109, mz_lda 0 110), (110, mz_gf 7 4 113), (113, mz_ldi 7 115), (115, mz_ldi 9 117), (117, mz_bi (fun x y => x + y) 118), (118, mz_ldl 10 120), (120, mz_lda 0 121), (121, mz_gf 7 6 124), (124, mz_lcmp 125), (125, mz_if (fun x => x < 0) 138 128), (128, mz_ldl 10 130), (130, mz_lda 0 131), (131, mz_gf 7 6 134), (134, mz_bl (fun x y => x - y) 135), (135, mz_go 140), (138, mz_ldl 10 140), (140, mz_last 141), (141, mz_inc 9 (1) 144), (144, mz_go 74), (147, mz_rv)]
def I_Tc_clearBelow (w h : Nat) : List (Nat × mz_Op) := [(0, mz_lda 0 1), (1, mz_lda 0 2), (2, mz_ldi 1 3), (3, mz_ldi 1 4), (4, mz_cl 3 7 (C_Tc_entry w h) 7), (7, mz_cl 2 7 (C_Tc_inverse w h) 10), (10, mz_stl 2 11), (11, mz_ldi 1 12), (12, mz_push (.int (1)) 13), (13, mz_bi (fun x y => x + y) 14), (14, mz_sti 4 16), (16, mz_ldi 4 18), (18, mz_lda 0 19), (19, mz_ldi 1 20), (20, mz_ci 2 7 (C_Tc_lastRow w h) 23), (23, mz_ic (fun x y => y < x) 67 26), (26, mz_lda 0 27), (27, mz_ldi 4 29), (29, mz_ldi 1 30), (30, mz_cl 3 7 (C_Tc_entry w h) 33), (33, mz_stl 5 35), (35, mz_ldl 5 37), (37, mz_push (.long 0) 38), (38, mz_lcmp 39), (39, mz_if (fun x => x = 0) 61 42), (42, mz_lda 0 43), (43, mz_ldi 1 44), (44, mz_ldi 4 46), (46, mz_lda 0 47), (47, mz_lda 0 48), (48, mz_gf 7 6 51), (51, mz_ldl 5 53), (53, mz_bl (fun x y => x - y) 54), (54, mz_ldl 2 55), (55, mz_cl 3 7 (C_Tc_times w h) 58), (58, mz_cvo 4 7 (C_Tc_addRow w h) 61), (61, mz_inc 4 (1) 64), (64, mz_go 16), (67, mz_rv)]
def I_Tc_determinant (w h : Nat) : List (Nat × mz_Op) := [(0, mz_push (.long 1) 1), (1, mz_stl 1 2), (2, mz_push (.int (0)) 3), (3, mz_sti 3 4), (4, mz_ldi 3 5), (5, mz_lda 0 6), (6, mz_gf 7 5 9), (9, mz_ic (fun x y => y ≤ x) 70 12), (12, mz_lda 0 13), (13, mz_ldi 3 14), (14, mz_ci 2 7 (C_Tc_pivotRow w h) 17), (17, mz_sti 4 19), (19, mz_ldi 4 21), (21, mz_push (.int (-1)) 22), (22, mz_ic (fun x y => x = y) 25 27), (25, mz_push (.long 0) 26), (26, mz_rl), (27, mz_ldi 4 29), (29, mz_ldi 3 30), (30, mz_ic (fun x y => x = y) 47 33), (33, mz_lda 0 34), (34, mz_ldi 3 35), (35, mz_ldi 4 37), (37, mz_cvo 3 7 (C_Tc_exchangeRows w h) 40), (40, mz_lda 0 41), (41, mz_gf 7 6 44), (44, mz_ldl 1 45), (45, mz_bl (fun x y => x - y) 46), (46, mz_stl 1 47), (47, mz_lda 0 48), (48, mz_ldl 1 49), (49, mz_lda 0 50), (50, mz_ldi 3 51), (51, mz_ldi 3 52), (52, mz_cl 3 7 (C_Tc_entry w h) 55), (55, mz_cl 3 7 (C_Tc_times w h) 58), (58, mz_stl 1 59), (59, mz_lda 0 60), (60, mz_ldi 3 61), (61, mz_cvo 2 7 (C_Tc_clearBelow w h) 64), (64, mz_inc 3 (1) 67), (67, mz_go 4), (70, mz_ldl 1 71), (71, mz_rl)]
theorem len_Tc_addRow (w h : Nat) (lay : List mz_E) (as : List Value) (X : mz_X) (Q : mz_X → Prop) (hC : C_Tc_addRow w h lay as X Q) : (mz_l0 as).length ≤ 12 := by
  unfold C_Tc_addRow at hC
  split at hC
  · exact Nat.le_of_ble_eq_true rfl
  · exact hC.elim
theorem ok_Tc_addRow (w h : Nat) (lay : List mz_E) (as : List Value) (X : mz_X) (Q : mz_X → Prop) (hC : C_Tc_addRow w h lay as X Q) (K : mz_K) (hK : mz_Cl (I_Tc_addRow w h) (mz_qv lay Q) K) : K 0 (mz_ent 12 as) [] (lay, X) := by
  unfold C_Tc_addRow at hC
  split at hC
  · next r t f =>
    obtain ⟨rfl, g, z, p, s, hX, hs, rfl, hq⟩ := hC
    have hE := zq_E_le g
    have hb := zn_lc_b (w := w) hs
    have hz := hX.2.2.1
    have hgw : w ≤ 12 := g.2.1
    have hlc := zq_lc_n hgw hX hs
    have hwd : nI (zn_lc w z s) - nI s + 1 = nI (zn_wd w z s) := by
      unfold zn_wd
      rw [pk_sub hb.1, nI_1]
    have hwb : zn_wd w z s ≤ 144 := by
      unfold zn_wd
      omega
    iterate 2 refine hK _ _ _ _ ?_
    refine hK _ _ _ _ (And.intro (rfl) (And.intro (g) ?_))
    rw [hlc]
    iterate 4 refine hK _ _ _ _ ?_
    refine hK _ _ _ _ (And.intro (rfl) (And.intro (g) ?_))
    iterate 4 refine hK _ _ _ _ ?_
    refine hK _ _ _ _ (And.intro (rfl) (And.intro (g) ?_))
    iterate 3 refine hK _ _ _ _ ?_
    refine hK _ _ _ _ (And.intro (fun c1 => ?_) (fun c1 => ?_))
    · rw [show zq_ar w h z X s t f = X from if_pos (Or.inl c1)] at hq
      exact hK _ _ _ _ (And.intro rfl (hq))
    · iterate 2 refine hK _ _ _ _ ?_
      refine hK _ _ _ _ (And.intro (fun c2 => ?_) (fun c2 => ?_))
      · rw [show zq_ar w h z X s t f = X from if_pos (Or.inr c2)] at hq
        exact hK _ _ _ _ (And.intro rfl (hq))
      · unfold zq_ar at hq
        rw [if_neg (fun q => q.elim c1 c2)] at hq
        have hi1 := zq_slot_in g c1
        have hi2 := zq_slot_in g c2
        obtain ⟨a9, ha9, ea9⟩ := vp_in_of hi1 (by omega)
        obtain ⟨b9, hb9, eb9⟩ := vp_in_of hi2 (by omega)
        show K 36 [some (.ref 20), some (.int (nI s)), some (.int t), some (.long f), none, some (.int (nI (zn_lc w z s))), some (.int (zq_slot w h X (nI s) (nI s))), some (.int (zq_slot w h X t (nI s))), none, none, none, none] [] (mz_lay w h, X)
        rw [ea9, eb9, nI_clamp (by omega), nI_clamp (by omega)] at hq
        rw [ea9, eb9]
        iterate 6 refine hK _ _ _ _ ?_
        show K 44 [some (.ref 20), some (.int (nI s)), some (.int t), some (.long f), none, some (.int (nI (zn_lc w z s))), some (.int (nI a9)), some (.int (nI b9)), some (.int (nI (zn_lc w z s) - nI s + 1)), none, none, none] [] (mz_lay w h, X)
        rw [hwd]
        generalize zn_wd w z s = wd at hq hwb ⊢
        iterate 6 refine hK _ _ _ _ ?_
        refine hK _ _ _ _ (And.intro (fun c3 => ?_) (fun c3 => ?_))
        · change nI (zq_E w h) < nI a9 + nI wd at c3
          rw [if_pos (Or.inl c3)] at hq
          exact hK _ _ _ _ (And.intro rfl (hq))
        · change ¬ nI (zq_E w h) < nI a9 + nI wd at c3
          iterate 6 refine hK _ _ _ _ ?_
          refine hK _ _ _ _ (And.intro (fun c4 => ?_) (fun c4 => ?_))
          · change nI b9 + nI wd ≤ nI (zq_E w h) at c4
            rw [if_neg (fun q => q.elim c3 (fun q => q c4))] at hq
            rw [nI_add, nI_ltI (by omega) (by omega)] at c3
            rw [nI_add, nI_leI (by omega) (by omega)] at c4
            have loop : ∀ (k i : Nat), i + k = wd → ∀ L10 : Option Value, K 74 [some (.ref 20), some (.int (nI s)), some (.int t), some (.long f), none, some (.int (nI (zn_lc w z s))), some (.int (nI a9)), some (.int (nI b9)), some (.int (nI wd)), some (.int (nI i)), L10, none] [] (mz_lay w h, zq_a X b9 a9 f i) := by
              intro k
              induction k with
              | zero =>
                intro i hi L10
                iterate 2 refine hK _ _ _ _ ?_
                refine hK _ _ _ _ (And.intro (fun c5 => ?_) (fun c5 => ?_))
                · exact hK _ _ _ _ (And.intro rfl (by rw [show i = wd by omega]; exact hq))
                · exact absurd (nI_le (a := wd) (b := i) (by omega) (by omega)) c5
              | succ k ih =>
                intro i hi L10
                have ih1 := ih (i + 1) (by omega)
                rw [show zq_a X b9 a9 f (i + 1) = zq_aS (zq_a X b9 a9 f i) (b9 + i) (a9 + i) f from rfl, ← nI_1] at ih1
                generalize zq_a X b9 a9 f i = Y at ih1 ⊢
                iterate 2 refine hK _ _ _ _ ?_
                refine hK _ _ _ _ (And.intro (fun c5 => ?_) (fun c5 => ?_))
                · exact absurd c5 (nI_ge (by omega) (by omega))
                · have e1 : vp_in (nI b9 + nI i) (zq_E w h) := by rw [nI_add]; exact vp_in_nI (by omega) (by omega)
                  have e2 : vp_in (nI a9 + nI i) (zq_E w h) := by rw [nI_add]; exact vp_in_nI (by omega) (by omega)
                  have n1 : (nI b9 + nI i).toNatClampNeg = b9 + i := by rw [nI_add]; exact nI_clamp (by omega)
                  have n2 : (nI a9 + nI i).toNatClampNeg = a9 + i := by rw [nI_add]; exact nI_clamp (by omega)
                  iterate 5 refine hK _ _ _ _ ?_
                  refine hK _ _ _ _ (And.intro (e1) ?_)
                  iterate 7 refine hK _ _ _ _ ?_
                  refine hK _ _ _ _ (And.intro (e2) ?_)
                  refine hK _ _ _ _ (And.intro (rfl) (And.intro (g) ?_))
                  rw [n1, n2]
                  iterate 2 refine hK _ _ _ _ ?_
                  show K 109 [some (.ref 20), some (.int (nI s)), some (.int t), some (.long f), none, some (.int (nI (zn_lc w z s))), some (.int (nI a9)), some (.int (nI b9)), some (.int (nI wd)), some (.int (nI i)), some (.long (zq_sum Y (b9 + i) (a9 + i) f)), none] [] (mz_lay w h, Y)
                  have ih2 : zq_aS Y (b9 + i) (a9 + i) f = (Y.1, mz_up Y.2 22 (b9 + i) (if zq_sum Y (b9 + i) (a9 + i) f < Y.2 20 6 then zq_sum Y (b9 + i) (a9 + i) f else zq_sum Y (b9 + i) (a9 + i) f - Y.2 20 6)) := rfl
                  rw [ih2] at ih1
                  generalize zq_sum Y (b9 + i) (a9 + i) f = sm at ih1 ⊢
                  iterate 9 refine hK _ _ _ _ ?_
                  refine hK _ _ _ _ (And.intro (fun c6 => ?_) (fun c6 => ?_))
                  · dsimp only at c6
                    rw [lg_cmp_lt] at c6
                    rw [if_pos c6] at ih1
                    refine hK _ _ _ _ ?_
                    refine hK _ _ _ _ (And.intro (e1) ?_)
                    rw [n1]
                    iterate 2 refine hK _ _ _ _ ?_
                    exact ih1 _
                  · dsimp only at c6
                    rw [lg_cmp_lt] at c6
                    rw [if_neg c6] at ih1
                    iterate 5 refine hK _ _ _ _ ?_
                    refine hK _ _ _ _ (And.intro (e1) ?_)
                    rw [n1]
                    iterate 2 refine hK _ _ _ _ ?_
                    exact ih1 _
            iterate 2 refine hK _ _ _ _ ?_
            exact loop wd 0 (by omega) none
          · change ¬ nI b9 + nI wd ≤ nI (zq_E w h) at c4
            rw [if_pos (Or.inr c4)] at hq
            exact hK _ _ _ _ (And.intro rfl (hq))
  · exact hC.elim
theorem len_Tc_clearBelow (w h : Nat) (lay : List mz_E) (as : List Value) (X : mz_X) (Q : mz_X → Prop) (hC : C_Tc_clearBelow w h lay as X Q) : (mz_l0 as).length ≤ 7 := by
  unfold C_Tc_clearBelow at hC
  split at hC
  · exact Nat.le_of_ble_eq_true rfl
  · exact hC.elim
theorem ok_Tc_clearBelow (w h : Nat) (lay : List mz_E) (as : List Value) (X : mz_X) (Q : mz_X → Prop) (hC : C_Tc_clearBelow w h lay as X Q) (K : mz_K) (hK : mz_Cl (I_Tc_clearBelow w h) (mz_qv lay Q) K) : K 0 (mz_ent 7 as) [] (lay, X) := by
  unfold C_Tc_clearBelow at hC
  split at hC
  · next r =>
    obtain ⟨rfl, g, z, p, s, hX, hs, rfl, hq⟩ := hC
    have hb := zn_lr_b (w := w) hs
    have hz := hX.2.2.1
    have hgw : w ≤ 12 := g.2.1
    have loop : ∀ (iv : Int64) (k i : Nat) (Y : mz_X), i + k = zn_lr w z s + 1 → zq_ok w z p Y → Q (zq_c w h z Y s iv i k) → ∀ L5 : Option Value, K 16 [some (.ref 20), some (.int (nI s)), some (.long iv), none, some (.int (nI i)), L5, none] [] (mz_lay w h, Y) := by
      intro iv k
      induction k with
      | zero =>
        intro i Y hi hY hQ L5
        iterate 3 refine hK _ _ _ _ ?_
        refine hK _ _ _ _ (And.intro (rfl) (And.intro (g) ?_))
        refine hK _ _ _ _ (And.intro (fun c1 => ?_) (fun c1 => ?_))
        · exact hK _ _ _ _ (And.intro rfl (hQ))
        · dsimp only at c1
          rw [zq_lr_n hgw hY hs] at c1
          exact absurd ((nI_ltI (by omega) (by omega)).mpr (by omega)) c1
      | succ k ih =>
        intro i Y hi hY hQ L5
        have h1 := zq_cS_1 (w := w) (h := h) (z := z) Y s i iv
        have ih1 := ih (i + 1) (zq_cS w h z Y s i iv) (by omega) (zq_ok_of hY h1.1 h1.2) hQ
        rw [← nI_1] at ih1
        iterate 3 refine hK _ _ _ _ ?_
        refine hK _ _ _ _ (And.intro (rfl) (And.intro (g) ?_))
        refine hK _ _ _ _ (And.intro (fun c1 => ?_) (fun c1 => ?_))
        · dsimp only at c1
          rw [zq_lr_n hgw hY hs] at c1
          exact absurd ((nI_ltI (by omega) (by omega)).mp c1) (by omega)
        · iterate 3 refine hK _ _ _ _ ?_
          refine hK _ _ _ _ (And.intro (rfl) (And.intro (g) ?_))
          iterate 4 refine hK _ _ _ _ ?_
          refine hK _ _ _ _ (And.intro (fun c2 => ?_) (fun c2 => ?_))
          · dsimp only at c2
            rw [lg_cmp_eq] at c2
            rw [show zq_cS w h z Y s i iv = Y from if_pos c2] at ih1
            iterate 2 refine hK _ _ _ _ ?_
            exact ih1 _
          · dsimp only at c2
            rw [lg_cmp_eq] at c2
            rw [show zq_cS w h z Y s i iv = zq_ar w h z Y s (nI i) (zq_tm Y (Y.2 20 6 - zq_e w h Y (nI i) (nI s)) iv) from if_neg c2] at ih1
            iterate 9 refine hK _ _ _ _ ?_
            refine hK _ _ _ _ (And.intro (rfl) (And.intro (g) ?_))
            refine hK _ _ _ _ (And.intro rfl (And.intro g (Exists.intro z (Exists.intro p (Exists.intro s (And.intro hY (And.intro hs (And.intro rfl ?_))))))))
            iterate 2 refine hK _ _ _ _ ?_
            exact ih1 _
    iterate 4 refine hK _ _ _ _ ?_
    refine hK _ _ _ _ (And.intro (rfl) (And.intro (g) ?_))
    refine hK _ _ _ _ (And.intro rfl (And.intro g (Exists.intro p (And.intro hX.2.2.2.1 (And.intro hX.2.2.2.2.1 (And.intro hX.2.2.2.2.2 ?_))))))
    iterate 5 refine hK _ _ _ _ ?_
    have := loop (zq_civ w h p X s) (zn_lr w z s - s) (s + 1) X (by omega) hX hq none
    rw [← nI_1] at this
    exact this
  · exact hC.elim
theorem len_Tc_determinant (w h : Nat) (lay : List mz_E) (as : List Value) (X : mz_X) (Q : Int64 → mz_X → Prop) (hC : C_Tc_determinant w h lay as X Q) : (mz_l0 as).length ≤ 5 := by
  unfold C_Tc_determinant at hC
  split at hC
  · exact Nat.le_of_ble_eq_true rfl
  · exact hC.elim
theorem ok_Tc_determinant (w h : Nat) (lay : List mz_E) (as : List Value) (X : mz_X) (Q : Int64 → mz_X → Prop) (hC : C_Tc_determinant w h lay as X Q) (K : mz_K) (hK : mz_Cl (I_Tc_determinant w h) (mz_ql lay Q) K) : K 0 (mz_ent 5 as) [] (lay, X) := by
  unfold C_Tc_determinant at hC
  split at hC
  ·
    obtain ⟨rfl, g, hC⟩ := hC
    rcases hC with ⟨hm1, hq⟩ | ⟨z, p, hX, hq⟩
    · iterate 4 refine hK _ _ _ _ ?_
      iterate 3 refine hK _ _ _ _ ?_
      refine hK _ _ _ _ (And.intro (fun c1 => ?_) (fun c1 => ?_))
      · refine hK _ _ _ _ ?_
        exact hK _ _ _ _ (And.intro rfl (hq))
      · dsimp only at c1
        rw [hm1] at c1
        exact absurd (by decide) c1
    have hz := hX.2.2.1
    have loop : ∀ (k s : Nat) (Y : mz_X) (v : Int64), s + k = z → zq_ok w z p Y → Q (zq_d w h z p Y s v k).1 (zq_d w h z p Y s v k).2 → ∀ L4 : Option Value, K 4 [some (.ref 20), some (.long v), none, some (.int (nI s)), L4] [] (mz_lay w h, Y) := by
      intro k
      induction k with
      | zero =>
        intro s Y v hi hY hQ L4
        iterate 3 refine hK _ _ _ _ ?_
        refine hK _ _ _ _ (And.intro (fun c1 => ?_) (fun c1 => ?_))
        · refine hK _ _ _ _ ?_
          exact hK _ _ _ _ (And.intro rfl (hQ))
        · dsimp only at c1
          rw [hY.2.1] at c1
          exact absurd (nI_le (a := z) (b := s) (by omega) (by omega)) c1
      | succ k ih =>
        intro s Y v hi hY hQ L4
        have hs : s < z := by omega
        have d1 := zq_dX_1 (w := w) (h := h) (z := z) Y s
        have hY1 := zq_ok_of hY d1.1 d1.2
        have d2 := zq_cb_1 (w := w) (h := h) (z := z) (p := p) (zq_dX w h z Y s) s
        have hY2 := zq_ok_of hY1 d2.1 d2.2
        have hend : ∀ (v2 : Int64) (pv : Int32), zq_dV w h z Y s v = zq_tm (zq_dX w h z Y s) v2 (zq_e w h (zq_dX w h z Y s) (nI s) (nI s)) → ¬ zq_dp w h z Y s = -1 → K 47 [some (.ref 20), some (.long v2), none, some (.int (nI s)), some (.int pv)] [] (mz_lay w h, zq_dX w h z Y s) := by
          intro v2 pv hv hne
          rw [show zq_d w h z p Y s v (k + 1) = zq_d w h z p (zq_cb w h z p (zq_dX w h z Y s) s) (s + 1) (zq_dV w h z Y s v) k from if_neg hne, hv] at hQ
          have ih1 := ih (s + 1) _ _ (by omega) hY2 hQ
          rw [← nI_1] at ih1
          generalize zq_dX w h z Y s = Z at ih1 hY1 ⊢
          iterate 5 refine hK _ _ _ _ ?_
          refine hK _ _ _ _ (And.intro (rfl) (And.intro (g) ?_))
          refine hK _ _ _ _ (And.intro (rfl) (And.intro (g) ?_))
          iterate 3 refine hK _ _ _ _ ?_
          refine hK _ _ _ _ (And.intro rfl (And.intro g (Exists.intro z (Exists.intro p (Exists.intro s (And.intro hY1 (And.intro hs (And.intro rfl ?_))))))))
          iterate 2 refine hK _ _ _ _ ?_
          exact ih1 _
        iterate 3 refine hK _ _ _ _ ?_
        refine hK _ _ _ _ (And.intro (fun c1 => ?_) (fun c1 => ?_))
        · dsimp only at c1
          rw [hY.2.1] at c1
          exact absurd c1 (nI_ge (by omega) (by omega))
        · iterate 2 refine hK _ _ _ _ ?_
          refine hK _ _ _ _ (And.intro rfl (And.intro g (Exists.intro z (Exists.intro p (Exists.intro s (And.intro hY (And.intro hs (And.intro rfl ?_))))))))
          iterate 3 refine hK _ _ _ _ ?_
          refine hK _ _ _ _ (And.intro (fun c2 => ?_) (fun c2 => ?_))
          · rw [show zq_d w h z p Y s v (k + 1) = (0, Y) from if_pos c2] at hQ
            refine hK _ _ _ _ ?_
            exact hK _ _ _ _ (And.intro rfl (hQ))
          · iterate 2 refine hK _ _ _ _ ?_
            refine hK _ _ _ _ (And.intro (fun c3 => ?_) (fun c3 => ?_))
            · have e1 : zq_dX w h z Y s = Y := if_pos c3
              have := hend v (zq_dp w h z Y s) (by unfold zq_dV; rw [if_pos c3]) c2
              rw [e1] at this
              exact this
            · have e1 : zq_dX w h z Y s = zq_x w h Y (nI s) (zq_dp w h z Y s) s (zn_lc w z s + 1 - s) := if_neg c3
              have := hend ((zq_dX w h z Y s).2 20 6 - v) (zq_dp w h z Y s) (by unfold zq_dV; rw [if_neg c3]) c2
              rw [e1] at this
              iterate 3 refine hK _ _ _ _ ?_
              refine hK _ _ _ _ (And.intro rfl (And.intro g (Exists.intro z (Exists.intro p (Exists.intro s (And.intro hY (And.intro hs (And.intro rfl ?_))))))))
              iterate 5 refine hK _ _ _ _ ?_
              exact this
    iterate 4 refine hK _ _ _ _ ?_
    exact loop z 0 X 1 (by omega) hX hq none
  · exact hC.elim
set_option maxRecDepth 20000 in
theorem snd_Tc_addRow (w h : Nat) (l : Launch) (p : Program) (e : Env) (s : State) (m : MethodId) (args : Array Value) (below : List Frame) (meth : Method) (c : Code) (D : va_G) (ad0 : Nat → Nat) (cA0 : Nat → ClassId) (A : Nat → Prop) (lay : List mz_E) (Q : mz_X → Prop) (F : mz_F p s m args meth c prog_9_method_15_code 12 y_Tc_addRow.cls none w_Tc_addRow) (hA : ∀ q, s.heap.size ≤ q → A q) : mz_All (mz_V p l e (mz_rm 2 42) s m args below meth c 12 lay.length (mz_sz lay) D mz_cls (mz_G0 ad0 cA0) A (MQ below (va_Qv Q (mz_B D mz_cls ad0 cA0 lay A) A) args s 0 0 A)) (mz_qv lay Q) (I_Tc_addRow w h) := by
  obtain ⟨hx, hb, hml, hown, hts, hr, hlk⟩ := F
  unfold I_Tc_addRow
  refine mz_All.cons (sd_aload_n hx hb (mz_dg d_Tc_addRow 0 0 (.aload_n 0) 1 rfl) rfl) ?_
  refine mz_All.cons (sd_iload_n hx hb (mz_dg d_Tc_addRow 1 1 (.iload_n 1) 1 rfl) rfl) ?_
  refine mz_All.cons (sd_calli (T := T_Tc) ⟨hx, hb, hml, hown, hts⟩ (met_Tc_lastColumn w h l) (cwV 1 hts (mz_gV wm_687 wm_689 wm_34 wm_76 wm_690) rfl rfl rfl (by decide) ⟨by decide, by decide⟩) rfl hA rfl (mz_dg d_Tc_addRow 2 2 (.invokevirtual 121) 3 rfl)) ?_
  refine mz_All.cons (sd_istore hx hb (mz_dg d_Tc_addRow 3 5 (.istore 5) 2 rfl) (by decide)) ?_
  refine mz_All.cons (sd_aload_n hx hb (mz_dg d_Tc_addRow 4 7 (.aload_n 0) 1 rfl) rfl) ?_
  refine mz_All.cons (sd_iload_n hx hb (mz_dg d_Tc_addRow 5 8 (.iload_n 1) 1 rfl) rfl) ?_
  refine mz_All.cons (sd_iload_n hx hb (mz_dg d_Tc_addRow 6 9 (.iload_n 1) 1 rfl) rfl) ?_
  refine mz_All.cons (sd_calli (T := T_Tc) ⟨hx, hb, hml, hown, hts⟩ (met_Tc_slotOf w h l) (cwV 2 hts (mz_gV wm_662 wm_664 wm_28 wm_76 wm_665) rfl rfl rfl (by decide) ⟨by decide, by decide⟩) rfl hA rfl (mz_dg d_Tc_addRow 7 10 (.invokevirtual 90) 3 rfl)) ?_
  refine mz_All.cons (sd_istore hx hb (mz_dg d_Tc_addRow 8 13 (.istore 6) 2 rfl) (by decide)) ?_
  refine mz_All.cons (sd_aload_n hx hb (mz_dg d_Tc_addRow 9 15 (.aload_n 0) 1 rfl) rfl) ?_
  refine mz_All.cons (sd_iload_n hx hb (mz_dg d_Tc_addRow 10 16 (.iload_n 2) 1 rfl) rfl) ?_
  refine mz_All.cons (sd_iload_n hx hb (mz_dg d_Tc_addRow 11 17 (.iload_n 1) 1 rfl) rfl) ?_
  refine mz_All.cons (sd_calli (T := T_Tc) ⟨hx, hb, hml, hown, hts⟩ (met_Tc_slotOf w h l) (cwV 2 hts (mz_gV wm_662 wm_664 wm_28 wm_76 wm_665) rfl rfl rfl (by decide) ⟨by decide, by decide⟩) rfl hA rfl (mz_dg d_Tc_addRow 12 18 (.invokevirtual 90) 3 rfl)) ?_
  refine mz_All.cons (sd_istore hx hb (mz_dg d_Tc_addRow 13 21 (.istore 7) 2 rfl) (by decide)) ?_
  refine mz_All.cons (sd_iload hx hb (mz_dg d_Tc_addRow 14 23 (.iload 6) 2 rfl)) ?_
  refine mz_All.cons (sd_iconst hx hb (mz_dg d_Tc_addRow 15 25 (.iconst (-1)) 1 rfl) (by decide)) ?_
  refine mz_All.cons (sd_icmp_eq hx hb (mz_dg d_Tc_addRow 16 26 (.if_icmp .eq (9)) 3 rfl) (by decide)) ?_
  refine mz_All.cons (sd_iload hx hb (mz_dg d_Tc_addRow 17 29 (.iload 7) 2 rfl)) ?_
  refine mz_All.cons (sd_iconst hx hb (mz_dg d_Tc_addRow 18 31 (.iconst (-1)) 1 rfl) (by decide)) ?_
  refine mz_All.cons (sd_icmp_ne hx hb (mz_dg d_Tc_addRow 19 32 (.if_icmp .ne (4)) 3 rfl) (by decide)) ?_
  refine mz_All.cons (sd_rv hx hb hr hlk (mz_dg d_Tc_addRow 20 35 (.return_) 1 rfl)) ?_
  refine mz_All.cons (sd_iload hx hb (mz_dg d_Tc_addRow 21 36 (.iload 5) 2 rfl)) ?_
  refine mz_All.cons (sd_iload_n hx hb (mz_dg d_Tc_addRow 22 38 (.iload_n 1) 1 rfl) rfl) ?_
  refine mz_All.cons (sd_isub hx hb (mz_dg d_Tc_addRow 23 39 (.isub) 1 rfl)) ?_
  refine mz_All.cons (sd_iconst hx hb (mz_dg d_Tc_addRow 24 40 (.iconst (1)) 1 rfl) (by decide)) ?_
  refine mz_All.cons (sd_iadd hx hb (mz_dg d_Tc_addRow 25 41 (.iadd) 1 rfl)) ?_
  refine mz_All.cons (sd_istore hx hb (mz_dg d_Tc_addRow 26 42 (.istore 8) 2 rfl) (by decide)) ?_
  refine mz_All.cons (sd_iload hx hb (mz_dg d_Tc_addRow 27 44 (.iload 6) 2 rfl)) ?_
  refine mz_All.cons (sd_iload hx hb (mz_dg d_Tc_addRow 28 46 (.iload 8) 2 rfl)) ?_
  refine mz_All.cons (sd_iadd hx hb (mz_dg d_Tc_addRow 29 48 (.iadd) 1 rfl)) ?_
  refine mz_All.cons (sd_aload_n hx hb (mz_dg d_Tc_addRow 30 49 (.aload_n 0) 1 rfl) rfl) ?_
  refine mz_All.cons (sd_get (k := 4) hx hb hts (mz_inC in_Tc) hown (T := T_Tc) (N := 7) rfl (by decide) (hts (.fieldLink "MazeForms$TreeCount" 35 "MazeForms$TreeCount" "entries" "[J") (List.mem_cons_of_mem _ wm_289)) (fun _ h => h) (mz_dg d_Tc_addRow 31 50 (.getfield 35) 3 rfl)) ?_
  refine mz_All.cons (sd_alen hx hb (mz_dg d_Tc_addRow 32 53 (.arraylength) 1 rfl)) ?_
  refine mz_All.cons (sd_icmp_gt hx hb (mz_dg d_Tc_addRow 33 54 (.if_icmp .gt (16)) 3 rfl) (by decide)) ?_
  refine mz_All.cons (sd_iload hx hb (mz_dg d_Tc_addRow 34 57 (.iload 7) 2 rfl)) ?_
  refine mz_All.cons (sd_iload hx hb (mz_dg d_Tc_addRow 35 59 (.iload 8) 2 rfl)) ?_
  refine mz_All.cons (sd_iadd hx hb (mz_dg d_Tc_addRow 36 61 (.iadd) 1 rfl)) ?_
  refine mz_All.cons (sd_aload_n hx hb (mz_dg d_Tc_addRow 37 62 (.aload_n 0) 1 rfl) rfl) ?_
  refine mz_All.cons (sd_get (k := 4) hx hb hts (mz_inC in_Tc) hown (T := T_Tc) (N := 7) rfl (by decide) (hts (.fieldLink "MazeForms$TreeCount" 35 "MazeForms$TreeCount" "entries" "[J") (List.mem_cons_of_mem _ wm_289)) (fun _ h => h) (mz_dg d_Tc_addRow 38 63 (.getfield 35) 3 rfl)) ?_
  refine mz_All.cons (sd_alen hx hb (mz_dg d_Tc_addRow 39 66 (.arraylength) 1 rfl)) ?_
  refine mz_All.cons (sd_icmp_le hx hb (mz_dg d_Tc_addRow 40 67 (.if_icmp .le (4)) 3 rfl) (by decide)) ?_
  refine mz_All.cons (sd_rv hx hb hr hlk (mz_dg d_Tc_addRow 41 70 (.return_) 1 rfl)) ?_
  refine mz_All.cons (sd_iconst hx hb (mz_dg d_Tc_addRow 42 71 (.iconst (0)) 1 rfl) (by decide)) ?_
  refine mz_All.cons (sd_istore hx hb (mz_dg d_Tc_addRow 43 72 (.istore 9) 2 rfl) (by decide)) ?_
  refine mz_All.cons (sd_iload hx hb (mz_dg d_Tc_addRow 44 74 (.iload 9) 2 rfl)) ?_
  refine mz_All.cons (sd_iload hx hb (mz_dg d_Tc_addRow 45 76 (.iload 8) 2 rfl)) ?_
  refine mz_All.cons (sd_icmp_ge hx hb (mz_dg d_Tc_addRow 46 78 (.if_icmp .ge (69)) 3 rfl) (by decide)) ?_
  refine mz_All.cons (sd_aload_n hx hb (mz_dg d_Tc_addRow 47 81 (.aload_n 0) 1 rfl) rfl) ?_
  refine mz_All.cons (sd_get (k := 4) hx hb hts (mz_inC in_Tc) hown (T := T_Tc) (N := 7) rfl (by decide) (hts (.fieldLink "MazeForms$TreeCount" 35 "MazeForms$TreeCount" "entries" "[J") (List.mem_cons_of_mem _ wm_289)) (fun _ h => h) (mz_dg d_Tc_addRow 48 82 (.getfield 35) 3 rfl)) ?_
  refine mz_All.cons (sd_iload hx hb (mz_dg d_Tc_addRow 49 85 (.iload 7) 2 rfl)) ?_
  refine mz_All.cons (sd_iload hx hb (mz_dg d_Tc_addRow 50 87 (.iload 9) 2 rfl)) ?_
  refine mz_All.cons (sd_iadd hx hb (mz_dg d_Tc_addRow 51 89 (.iadd) 1 rfl)) ?_
  refine mz_All.cons (sd_lald hx hb (mz_dg d_Tc_addRow 52 90 (.laload) 1 rfl)) ?_
  refine mz_All.cons (sd_aload_n hx hb (mz_dg d_Tc_addRow 53 91 (.aload_n 0) 1 rfl) rfl) ?_
  refine mz_All.cons (sd_lload_n hx hb (mz_dg d_Tc_addRow 54 92 (.lload_n 3) 1 rfl) rfl) ?_
  refine mz_All.cons (sd_aload_n hx hb (mz_dg d_Tc_addRow 55 93 (.aload_n 0) 1 rfl) rfl) ?_
  refine mz_All.cons (sd_get (k := 4) hx hb hts (mz_inC in_Tc) hown (T := T_Tc) (N := 7) rfl (by decide) (hts (.fieldLink "MazeForms$TreeCount" 35 "MazeForms$TreeCount" "entries" "[J") (List.mem_cons_of_mem _ wm_289)) (fun _ h => h) (mz_dg d_Tc_addRow 56 94 (.getfield 35) 3 rfl)) ?_
  refine mz_All.cons (sd_iload hx hb (mz_dg d_Tc_addRow 57 97 (.iload 6) 2 rfl)) ?_
  refine mz_All.cons (sd_iload hx hb (mz_dg d_Tc_addRow 58 99 (.iload 9) 2 rfl)) ?_
  refine mz_All.cons (sd_iadd hx hb (mz_dg d_Tc_addRow 59 101 (.iadd) 1 rfl)) ?_
  refine mz_All.cons (sd_lald hx hb (mz_dg d_Tc_addRow 60 102 (.laload) 1 rfl)) ?_
  refine mz_All.cons (sd_calll (T := T_Tc) ⟨hx, hb, hml, hown, hts⟩ (met_Tc_times w h l) (cwV 2 hts (mz_gV wm_691 wm_693 wm_35 wm_76 wm_694) rfl rfl rfl (by decide) ⟨by decide, by decide⟩) rfl hA rfl (mz_dg d_Tc_addRow 61 103 (.invokevirtual 105) 3 rfl)) ?_
  refine mz_All.cons (sd_ladd hx hb (mz_dg d_Tc_addRow 62 106 (.ladd) 1 rfl)) ?_
  refine mz_All.cons (sd_lstore hx hb (mz_dg d_Tc_addRow 63 107 (.lstore 10) 2 rfl) (by decide)) ?_
  refine mz_All.cons (sd_aload_n hx hb (mz_dg d_Tc_addRow 64 109 (.aload_n 0) 1 rfl) rfl) ?_
  refine mz_All.cons (sd_get (k := 4) hx hb hts (mz_inC in_Tc) hown (T := T_Tc) (N := 7) rfl (by decide) (hts (.fieldLink "MazeForms$TreeCount" 35 "MazeForms$TreeCount" "entries" "[J") (List.mem_cons_of_mem _ wm_289)) (fun _ h => h) (mz_dg d_Tc_addRow 65 110 (.getfield 35) 3 rfl)) ?_
  refine mz_All.cons (sd_iload hx hb (mz_dg d_Tc_addRow 66 113 (.iload 7) 2 rfl)) ?_
  refine mz_All.cons (sd_iload hx hb (mz_dg d_Tc_addRow 67 115 (.iload 9) 2 rfl)) ?_
  refine mz_All.cons (sd_iadd hx hb (mz_dg d_Tc_addRow 68 117 (.iadd) 1 rfl)) ?_
  refine mz_All.cons (sd_lload hx hb (mz_dg d_Tc_addRow 69 118 (.lload 10) 2 rfl)) ?_
  refine mz_All.cons (sd_aload_n hx hb (mz_dg d_Tc_addRow 70 120 (.aload_n 0) 1 rfl) rfl) ?_
  refine mz_All.cons (sd_get (k := 6) hx hb hts (mz_inC in_Tc) hown (T := T_Tc) (N := 7) rfl (by decide) (hts (.fieldLink "MazeForms$TreeCount" 43 "MazeForms$TreeCount" "prime" "J") (List.mem_cons_of_mem _ wm_291)) (fun _ h => h) (mz_dg d_Tc_addRow 71 121 (.getfield 43) 3 rfl)) ?_
  refine mz_All.cons (sd_lcmp hx hb (mz_dg d_Tc_addRow 72 124 (.lcmp) 1 rfl)) ?_
  refine mz_All.cons (sd_if_lt hx hb (mz_dg d_Tc_addRow 73 125 (.ifCond .lt (13)) 3 rfl) (by decide)) ?_
  refine mz_All.cons (sd_lload hx hb (mz_dg d_Tc_addRow 74 128 (.lload 10) 2 rfl)) ?_
  refine mz_All.cons (sd_aload_n hx hb (mz_dg d_Tc_addRow 75 130 (.aload_n 0) 1 rfl) rfl) ?_
  refine mz_All.cons (sd_get (k := 6) hx hb hts (mz_inC in_Tc) hown (T := T_Tc) (N := 7) rfl (by decide) (hts (.fieldLink "MazeForms$TreeCount" 43 "MazeForms$TreeCount" "prime" "J") (List.mem_cons_of_mem _ wm_291)) (fun _ h => h) (mz_dg d_Tc_addRow 76 131 (.getfield 43) 3 rfl)) ?_
  refine mz_All.cons (sd_lsub hx hb (mz_dg d_Tc_addRow 77 134 (.lsub) 1 rfl)) ?_
  refine mz_All.cons (sd_goto hx hb (mz_dg d_Tc_addRow 78 135 (.goto (5)) 3 rfl) (by decide)) ?_
  refine mz_All.cons (sd_lload hx hb (mz_dg d_Tc_addRow 79 138 (.lload 10) 2 rfl)) ?_
  refine mz_All.cons (sd_last hx hb (mz_dg d_Tc_addRow 80 140 (.lastore) 1 rfl)) ?_
  refine mz_All.cons (sd_iinc hx hb (mz_dg d_Tc_addRow 81 141 (.iinc 9 (1)) 3 rfl) (by decide) (by decide)) ?_
  refine mz_All.cons (sd_goto hx hb (mz_dg d_Tc_addRow 82 144 (.goto (-70)) 3 rfl) (by decide)) ?_
  refine mz_All.cons (sd_rv hx hb hr hlk (mz_dg d_Tc_addRow 83 147 (.return_) 1 rfl)) ?_
  exact trivial
theorem met_Tc_addRow (w h : Nat) (l : Launch) : mz_MV l y_Tc_addRow w_Tc_addRow 2 42 mz_cls (C_Tc_addRow w h) := mz_MV_of (I_Tc_addRow w h) (by decide) rfl (len_Tc_addRow w h) (ok_Tc_addRow w h) (snd_Tc_addRow w h l)
set_option maxRecDepth 20000 in
theorem snd_Tc_clearBelow (w h : Nat) (l : Launch) (p : Program) (e : Env) (s : State) (m : MethodId) (args : Array Value) (below : List Frame) (meth : Method) (c : Code) (D : va_G) (ad0 : Nat → Nat) (cA0 : Nat → ClassId) (A : Nat → Prop) (lay : List mz_E) (Q : mz_X → Prop) (F : mz_F p s m args meth c prog_9_method_14_code 7 y_Tc_clearBelow.cls none w_Tc_clearBelow) (hA : ∀ q, s.heap.size ≤ q → A q) : mz_All (mz_V p l e (mz_rm 3 73) s m args below meth c 7 lay.length (mz_sz lay) D mz_cls (mz_G0 ad0 cA0) A (MQ below (va_Qv Q (mz_B D mz_cls ad0 cA0 lay A) A) args s 0 0 A)) (mz_qv lay Q) (I_Tc_clearBelow w h) := by
  obtain ⟨hx, hb, hml, hown, hts, hr, hlk⟩ := F
  unfold I_Tc_clearBelow
  refine mz_All.cons (sd_aload_n hx hb (mz_dg d_Tc_clearBelow 0 0 (.aload_n 0) 1 rfl) rfl) ?_
  refine mz_All.cons (sd_aload_n hx hb (mz_dg d_Tc_clearBelow 1 1 (.aload_n 0) 1 rfl) rfl) ?_
  refine mz_All.cons (sd_iload_n hx hb (mz_dg d_Tc_clearBelow 2 2 (.iload_n 1) 1 rfl) rfl) ?_
  refine mz_All.cons (sd_iload_n hx hb (mz_dg d_Tc_clearBelow 3 3 (.iload_n 1) 1 rfl) rfl) ?_
  refine mz_All.cons (sd_calll (T := T_Tc) ⟨hx, hb, hml, hown, hts⟩ (met_Tc_entry w h l) (cwV 2 hts (mz_gV wm_679 wm_681 wm_32 wm_76 wm_682) rfl rfl rfl (by decide) ⟨by decide, by decide⟩) rfl hA rfl (mz_dg d_Tc_clearBelow 4 4 (.invokevirtual 101) 3 rfl)) ?_
  refine mz_All.cons (sd_calll (T := T_Tc) ⟨hx, hb, hml, hown, hts⟩ (met_Tc_inverse w h l) (cwV 1 hts (mz_gV wm_699 wm_701 wm_37 wm_76 wm_702) rfl rfl rfl (by decide) ⟨by decide, by decide⟩) rfl hA rfl (mz_dg d_Tc_clearBelow 5 7 (.invokevirtual 124) 3 rfl)) ?_
  refine mz_All.cons (sd_lstore_n hx hb (mz_dg d_Tc_clearBelow 6 10 (.lstore_n 2) 1 rfl) rfl (by decide)) ?_
  refine mz_All.cons (sd_iload_n hx hb (mz_dg d_Tc_clearBelow 7 11 (.iload_n 1) 1 rfl) rfl) ?_
  refine mz_All.cons (sd_iconst hx hb (mz_dg d_Tc_clearBelow 8 12 (.iconst (1)) 1 rfl) (by decide)) ?_
  refine mz_All.cons (sd_iadd hx hb (mz_dg d_Tc_clearBelow 9 13 (.iadd) 1 rfl)) ?_
  refine mz_All.cons (sd_istore hx hb (mz_dg d_Tc_clearBelow 10 14 (.istore 4) 2 rfl) (by decide)) ?_
  refine mz_All.cons (sd_iload hx hb (mz_dg d_Tc_clearBelow 11 16 (.iload 4) 2 rfl)) ?_
  refine mz_All.cons (sd_aload_n hx hb (mz_dg d_Tc_clearBelow 12 18 (.aload_n 0) 1 rfl) rfl) ?_
  refine mz_All.cons (sd_iload_n hx hb (mz_dg d_Tc_clearBelow 13 19 (.iload_n 1) 1 rfl) rfl) ?_
  refine mz_All.cons (sd_calli (T := T_Tc) ⟨hx, hb, hml, hown, hts⟩ (met_Tc_lastRow w h l) (cwV 1 hts (mz_gV wm_674 wm_676 wm_31 wm_76 wm_677) rfl rfl rfl (by decide) ⟨by decide, by decide⟩) rfl hA rfl (mz_dg d_Tc_clearBelow 14 20 (.invokevirtual 113) 3 rfl)) ?_
  refine mz_All.cons (sd_icmp_gt hx hb (mz_dg d_Tc_clearBelow 15 23 (.if_icmp .gt (44)) 3 rfl) (by decide)) ?_
  refine mz_All.cons (sd_aload_n hx hb (mz_dg d_Tc_clearBelow 16 26 (.aload_n 0) 1 rfl) rfl) ?_
  refine mz_All.cons (sd_iload hx hb (mz_dg d_Tc_clearBelow 17 27 (.iload 4) 2 rfl)) ?_
  refine mz_All.cons (sd_iload_n hx hb (mz_dg d_Tc_clearBelow 18 29 (.iload_n 1) 1 rfl) rfl) ?_
  refine mz_All.cons (sd_calll (T := T_Tc) ⟨hx, hb, hml, hown, hts⟩ (met_Tc_entry w h l) (cwV 2 hts (mz_gV wm_679 wm_681 wm_32 wm_76 wm_682) rfl rfl rfl (by decide) ⟨by decide, by decide⟩) rfl hA rfl (mz_dg d_Tc_clearBelow 19 30 (.invokevirtual 101) 3 rfl)) ?_
  refine mz_All.cons (sd_lstore hx hb (mz_dg d_Tc_clearBelow 20 33 (.lstore 5) 2 rfl) (by decide)) ?_
  refine mz_All.cons (sd_lload hx hb (mz_dg d_Tc_clearBelow 21 35 (.lload 5) 2 rfl)) ?_
  refine mz_All.cons (sd_lconst hx hb (mz_dg d_Tc_clearBelow 22 37 (.lconst 0) 1 rfl) (by decide)) ?_
  refine mz_All.cons (sd_lcmp hx hb (mz_dg d_Tc_clearBelow 23 38 (.lcmp) 1 rfl)) ?_
  refine mz_All.cons (sd_if_eq hx hb (mz_dg d_Tc_clearBelow 24 39 (.ifCond .eq (22)) 3 rfl) (by decide)) ?_
  refine mz_All.cons (sd_aload_n hx hb (mz_dg d_Tc_clearBelow 25 42 (.aload_n 0) 1 rfl) rfl) ?_
  refine mz_All.cons (sd_iload_n hx hb (mz_dg d_Tc_clearBelow 26 43 (.iload_n 1) 1 rfl) rfl) ?_
  refine mz_All.cons (sd_iload hx hb (mz_dg d_Tc_clearBelow 27 44 (.iload 4) 2 rfl)) ?_
  refine mz_All.cons (sd_aload_n hx hb (mz_dg d_Tc_clearBelow 28 46 (.aload_n 0) 1 rfl) rfl) ?_
  refine mz_All.cons (sd_aload_n hx hb (mz_dg d_Tc_clearBelow 29 47 (.aload_n 0) 1 rfl) rfl) ?_
  refine mz_All.cons (sd_get (k := 6) hx hb hts (mz_inC in_Tc) hown (T := T_Tc) (N := 7) rfl (by decide) (hts (.fieldLink "MazeForms$TreeCount" 43 "MazeForms$TreeCount" "prime" "J") (List.mem_cons_of_mem _ wm_291)) (fun _ h => h) (mz_dg d_Tc_clearBelow 30 48 (.getfield 43) 3 rfl)) ?_
  refine mz_All.cons (sd_lload hx hb (mz_dg d_Tc_clearBelow 31 51 (.lload 5) 2 rfl)) ?_
  refine mz_All.cons (sd_lsub hx hb (mz_dg d_Tc_clearBelow 32 53 (.lsub) 1 rfl)) ?_
  refine mz_All.cons (sd_lload_n hx hb (mz_dg d_Tc_clearBelow 33 54 (.lload_n 2) 1 rfl) rfl) ?_
  refine mz_All.cons (sd_calll (T := T_Tc) ⟨hx, hb, hml, hown, hts⟩ (met_Tc_times w h l) (cwV 2 hts (mz_gV wm_691 wm_693 wm_35 wm_76 wm_694) rfl rfl rfl (by decide) ⟨by decide, by decide⟩) rfl hA rfl (mz_dg d_Tc_clearBelow 34 55 (.invokevirtual 105) 3 rfl)) ?_
  refine mz_All.cons (sd_callv (T := T_Tc) ⟨hx, hb, hml, hown, hts⟩ (met_Tc_addRow w h l) (cwV 3 hts (mz_gV wm_703 wm_705 wm_38 wm_76 wm_706) rfl rfl rfl (by decide) ⟨by decide, by decide⟩) rfl hA rfl (mz_dg d_Tc_clearBelow 35 58 (.invokevirtual 128) 3 rfl)) ?_
  refine mz_All.cons (sd_iinc hx hb (mz_dg d_Tc_clearBelow 36 61 (.iinc 4 (1)) 3 rfl) (by decide) (by decide)) ?_
  refine mz_All.cons (sd_goto hx hb (mz_dg d_Tc_clearBelow 37 64 (.goto (-48)) 3 rfl) (by decide)) ?_
  refine mz_All.cons (sd_rv hx hb hr hlk (mz_dg d_Tc_clearBelow 38 67 (.return_) 1 rfl)) ?_
  exact trivial
theorem met_Tc_clearBelow (w h : Nat) (l : Launch) : mz_MV l y_Tc_clearBelow w_Tc_clearBelow 3 73 mz_cls (C_Tc_clearBelow w h) := mz_MV_of (I_Tc_clearBelow w h) (by decide) rfl (len_Tc_clearBelow w h) (ok_Tc_clearBelow w h) (snd_Tc_clearBelow w h l)
set_option maxRecDepth 20000 in
theorem snd_Tc_determinant (w h : Nat) (l : Launch) (p : Program) (e : Env) (s : State) (m : MethodId) (args : Array Value) (below : List Frame) (meth : Method) (c : Code) (D : va_G) (ad0 : Nat → Nat) (cA0 : Nat → ClassId) (A : Nat → Prop) (lay : List mz_E) (Q : Int64 → mz_X → Prop) (F : mz_F p s m args meth c prog_9_method_9_code 5 y_Tc_determinant.cls (some .long) w_Tc_determinant) (hA : ∀ q, s.heap.size ≤ q → A q) : mz_All (mz_V p l e (mz_rm 4 99) s m args below meth c 5 lay.length (mz_sz lay) D mz_cls (mz_G0 ad0 cA0) A (MQ below (va_Ql Q (mz_B D mz_cls ad0 cA0 lay A) A) args s 0 0 A)) (mz_ql lay Q) (I_Tc_determinant w h) := by
  obtain ⟨hx, hb, hml, hown, hts, hr, hlk⟩ := F
  unfold I_Tc_determinant
  refine mz_All.cons (sd_lconst hx hb (mz_dg d_Tc_determinant 0 0 (.lconst 1) 1 rfl) (by decide)) ?_
  refine mz_All.cons (sd_lstore_n hx hb (mz_dg d_Tc_determinant 1 1 (.lstore_n 1) 1 rfl) rfl (by decide)) ?_
  refine mz_All.cons (sd_iconst hx hb (mz_dg d_Tc_determinant 2 2 (.iconst (0)) 1 rfl) (by decide)) ?_
  refine mz_All.cons (sd_istore_n hx hb (mz_dg d_Tc_determinant 3 3 (.istore_n 3) 1 rfl) rfl (by decide)) ?_
  refine mz_All.cons (sd_iload_n hx hb (mz_dg d_Tc_determinant 4 4 (.iload_n 3) 1 rfl) rfl) ?_
  refine mz_All.cons (sd_aload_n hx hb (mz_dg d_Tc_determinant 5 5 (.aload_n 0) 1 rfl) rfl) ?_
  refine mz_All.cons (sd_get (k := 5) hx hb hts (mz_inC in_Tc) hown (T := T_Tc) (N := 7) rfl (by decide) (hts (.fieldLink "MazeForms$TreeCount" 50 "MazeForms$TreeCount" "size" "I") (List.mem_cons_of_mem _ wm_290)) (fun _ h => h) (mz_dg d_Tc_determinant 6 6 (.getfield 50) 3 rfl)) ?_
  refine mz_All.cons (sd_icmp_ge hx hb (mz_dg d_Tc_determinant 7 9 (.if_icmp .ge (61)) 3 rfl) (by decide)) ?_
  refine mz_All.cons (sd_aload_n hx hb (mz_dg d_Tc_determinant 8 12 (.aload_n 0) 1 rfl) rfl) ?_
  refine mz_All.cons (sd_iload_n hx hb (mz_dg d_Tc_determinant 9 13 (.iload_n 3) 1 rfl) rfl) ?_
  refine mz_All.cons (sd_calli (T := T_Tc) ⟨hx, hb, hml, hown, hts⟩ (met_Tc_pivotRow w h l) (cwV 1 hts (mz_gV wm_670 wm_672 wm_30 wm_76 wm_673) rfl rfl rfl (by decide) ⟨by decide, by decide⟩) rfl hA rfl (mz_dg d_Tc_determinant 10 14 (.invokevirtual 94) 3 rfl)) ?_
  refine mz_All.cons (sd_istore hx hb (mz_dg d_Tc_determinant 11 17 (.istore 4) 2 rfl) (by decide)) ?_
  refine mz_All.cons (sd_iload hx hb (mz_dg d_Tc_determinant 12 19 (.iload 4) 2 rfl)) ?_
  refine mz_All.cons (sd_iconst hx hb (mz_dg d_Tc_determinant 13 21 (.iconst (-1)) 1 rfl) (by decide)) ?_
  refine mz_All.cons (sd_icmp_ne hx hb (mz_dg d_Tc_determinant 14 22 (.if_icmp .ne (5)) 3 rfl) (by decide)) ?_
  refine mz_All.cons (sd_lconst hx hb (mz_dg d_Tc_determinant 15 25 (.lconst 0) 1 rfl) (by decide)) ?_
  refine mz_All.cons (sd_rl hx hb hr hlk (mz_dg d_Tc_determinant 16 26 (.lreturn) 1 rfl)) ?_
  refine mz_All.cons (sd_iload hx hb (mz_dg d_Tc_determinant 17 27 (.iload 4) 2 rfl)) ?_
  refine mz_All.cons (sd_iload_n hx hb (mz_dg d_Tc_determinant 18 29 (.iload_n 3) 1 rfl) rfl) ?_
  refine mz_All.cons (sd_icmp_eq hx hb (mz_dg d_Tc_determinant 19 30 (.if_icmp .eq (17)) 3 rfl) (by decide)) ?_
  refine mz_All.cons (sd_aload_n hx hb (mz_dg d_Tc_determinant 20 33 (.aload_n 0) 1 rfl) rfl) ?_
  refine mz_All.cons (sd_iload_n hx hb (mz_dg d_Tc_determinant 21 34 (.iload_n 3) 1 rfl) rfl) ?_
  refine mz_All.cons (sd_iload hx hb (mz_dg d_Tc_determinant 22 35 (.iload 4) 2 rfl)) ?_
  refine mz_All.cons (sd_callv (T := T_Tc) ⟨hx, hb, hml, hown, hts⟩ (met_Tc_exchangeRows w h l) (cwV 2 hts (mz_gV wm_683 wm_685 wm_33 wm_76 wm_686) rfl rfl rfl (by decide) ⟨by decide, by decide⟩) rfl hA rfl (mz_dg d_Tc_determinant 23 37 (.invokevirtual 97) 3 rfl)) ?_
  refine mz_All.cons (sd_aload_n hx hb (mz_dg d_Tc_determinant 24 40 (.aload_n 0) 1 rfl) rfl) ?_
  refine mz_All.cons (sd_get (k := 6) hx hb hts (mz_inC in_Tc) hown (T := T_Tc) (N := 7) rfl (by decide) (hts (.fieldLink "MazeForms$TreeCount" 43 "MazeForms$TreeCount" "prime" "J") (List.mem_cons_of_mem _ wm_291)) (fun _ h => h) (mz_dg d_Tc_determinant 25 41 (.getfield 43) 3 rfl)) ?_
  refine mz_All.cons (sd_lload_n hx hb (mz_dg d_Tc_determinant 26 44 (.lload_n 1) 1 rfl) rfl) ?_
  refine mz_All.cons (sd_lsub hx hb (mz_dg d_Tc_determinant 27 45 (.lsub) 1 rfl)) ?_
  refine mz_All.cons (sd_lstore_n hx hb (mz_dg d_Tc_determinant 28 46 (.lstore_n 1) 1 rfl) rfl (by decide)) ?_
  refine mz_All.cons (sd_aload_n hx hb (mz_dg d_Tc_determinant 29 47 (.aload_n 0) 1 rfl) rfl) ?_
  refine mz_All.cons (sd_lload_n hx hb (mz_dg d_Tc_determinant 30 48 (.lload_n 1) 1 rfl) rfl) ?_
  refine mz_All.cons (sd_aload_n hx hb (mz_dg d_Tc_determinant 31 49 (.aload_n 0) 1 rfl) rfl) ?_
  refine mz_All.cons (sd_iload_n hx hb (mz_dg d_Tc_determinant 32 50 (.iload_n 3) 1 rfl) rfl) ?_
  refine mz_All.cons (sd_iload_n hx hb (mz_dg d_Tc_determinant 33 51 (.iload_n 3) 1 rfl) rfl) ?_
  refine mz_All.cons (sd_calll (T := T_Tc) ⟨hx, hb, hml, hown, hts⟩ (met_Tc_entry w h l) (cwV 2 hts (mz_gV wm_679 wm_681 wm_32 wm_76 wm_682) rfl rfl rfl (by decide) ⟨by decide, by decide⟩) rfl hA rfl (mz_dg d_Tc_determinant 34 52 (.invokevirtual 101) 3 rfl)) ?_
  refine mz_All.cons (sd_calll (T := T_Tc) ⟨hx, hb, hml, hown, hts⟩ (met_Tc_times w h l) (cwV 2 hts (mz_gV wm_691 wm_693 wm_35 wm_76 wm_694) rfl rfl rfl (by decide) ⟨by decide, by decide⟩) rfl hA rfl (mz_dg d_Tc_determinant 35 55 (.invokevirtual 105) 3 rfl)) ?_
  refine mz_All.cons (sd_lstore_n hx hb (mz_dg d_Tc_determinant 36 58 (.lstore_n 1) 1 rfl) rfl (by decide)) ?_
  refine mz_All.cons (sd_aload_n hx hb (mz_dg d_Tc_determinant 37 59 (.aload_n 0) 1 rfl) rfl) ?_
  refine mz_All.cons (sd_iload_n hx hb (mz_dg d_Tc_determinant 38 60 (.iload_n 3) 1 rfl) rfl) ?_
  refine mz_All.cons (sd_callv (T := T_Tc) ⟨hx, hb, hml, hown, hts⟩ (met_Tc_clearBelow w h l) (cwV 1 hts (mz_gV wm_695 wm_697 wm_36 wm_76 wm_698) rfl rfl rfl (by decide) ⟨by decide, by decide⟩) rfl hA rfl (mz_dg d_Tc_determinant 39 61 (.invokevirtual 109) 3 rfl)) ?_
  refine mz_All.cons (sd_iinc hx hb (mz_dg d_Tc_determinant 40 64 (.iinc 3 (1)) 3 rfl) (by decide) (by decide)) ?_
  refine mz_All.cons (sd_goto hx hb (mz_dg d_Tc_determinant 41 67 (.goto (-63)) 3 rfl) (by decide)) ?_
  refine mz_All.cons (sd_lload_n hx hb (mz_dg d_Tc_determinant 42 70 (.lload_n 1) 1 rfl) rfl) ?_
  refine mz_All.cons (sd_rl hx hb hr hlk (mz_dg d_Tc_determinant 43 71 (.lreturn) 1 rfl)) ?_
  exact trivial
theorem met_Tc_determinant (w h : Nat) (l : Launch) : mz_ML l y_Tc_determinant w_Tc_determinant 4 99 mz_cls (C_Tc_determinant w h) := mz_ML_of (I_Tc_determinant w h) (by decide) rfl (len_Tc_determinant w h) (ok_Tc_determinant w h) (snd_Tc_determinant w h l)
