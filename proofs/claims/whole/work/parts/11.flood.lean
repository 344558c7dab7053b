/-- Flood (place 9, queued is its field 3), its steps (place 10) and queue (place 11) -/
def zf_ok (w h : Nat) (X : mz_X) : Prop := ∃ q : Nat, q ≤ w * h ∧ X.1 9 3 = nI q
def zf_reB (w h : Nat) (X : mz_X) (c : Int32) : Bool := mz_lt c (w * h) && decide (X.1 10 c.toNatClampNeg = -1) && !decide (nI (w * h) ≤ X.1 9 3)
def zf_reX (X : mz_X) (c d : Int32) : mz_X := (mz_up (mz_up (mz_up X.1 10 c.toNatClampNeg d) 11 (X.1 9 3).toNatClampNeg c) 9 3 (X.1 9 3 + 1), X.2)
def zf_re (w h : Nat) (X : mz_X) (c d : Int32) : mz_X := match zf_reB w h X c with
  | true => zf_reX X c d
  | false => X
def zf_to (w h : Nat) (X : mz_X) (c : Int32) : Int32 := match mz_lt c (w * h) with
  | true => X.1 10 c.toNatClampNeg
  | false => -1
/-- one side, and the first k sides -/
def zf_sdB (w h : Nat) (X : mz_X) (c t : Int32) (s : Nat) : Bool := !decide (t = 0) || zg_open w h X (zg_on w h X c (nI s))
def zf_sd (w h : Nat) (X : mz_X) (c t n : Int32) (s : Nat) : mz_X := match zf_sdB w h X c t s with
  | true => zf_re w h X (zg_oth w h X (zg_on w h X c (nI s)) c) n
  | false => X
def zf_sds (w h : Nat) (X : mz_X) (c t n : Int32) (k : Nat) : mz_X := match k with
  | 0 => X
  | s + 1 => zf_sd w h (zf_sds w h X c t n s) c t n s
def zf_on (w h : Nat) (X : mz_X) (c t : Int32) : mz_X := zf_sds w h X c t (zf_to w h X c + 1) 4
/-- the flood from head i on, at most k heads -/
def zf_go (w h : Nat) (X : mz_X) (t : Int32) (i k : Nat) : mz_X := match k with
  | 0 => X
  | j + 1 => match decide (nI i < X.1 9 3) with
    | true => zf_go w h (zf_on w h X (X.1 11 i) t) t (i + 1) j
    | false => X
def zf_0 (w h : Nat) (X : mz_X) : mz_X := (mz_up (mz_fil X.1 10 (w * h) (-1)) 9 3 0, X.2)
def zf_spr (w h : Nat) (X : mz_X) (c t : Int32) : mz_X := zf_go w h (zf_re w h (zf_0 w h X) c 0) t 0 (w * h)
def C_Fl_stepsTo (w h : Nat) : mz_CI := fun lay as X Q => match as with
  | [.ref 9, .int c] => lay = mz_lay w h ∧ mz_geo w h ∧ Q (zf_to w h X c) X
  | _ => False
def C_Fl_reach (w h : Nat) : mz_CV := fun lay as X Q => match as with
  | [.ref 9, .int c, .int d] => lay = mz_lay w h ∧ mz_geo w h ∧ zf_ok w h X ∧ Q (zf_re w h X c d)
  | _ => False
def C_Fl_spreadOn (w h : Nat) : mz_CV := fun lay as X Q => match as with
  | [.ref 9, .int c, .int t] => lay = mz_lay w h ∧ mz_geo w h ∧ zf_ok w h X ∧ Q (zf_on w h X c t)
  | _ => False
def C_Fl_spread (w h : Nat) : mz_CV := fun lay as X Q => match as with
  | [.ref 9, .int c, .int t] => lay = mz_lay w h ∧ mz_geo w h ∧ Q (zf_spr w h X c t)
  | _ => False
def y_Fl_stepsTo : MethodName := ⟨"MazeForms$Flood", "stepsTo", "(I)I"⟩
abbrev w_Fl_stepsTo : List Cond := .code y_Fl_stepsTo prog_4_method_3_code 2 (some .int) :: mz_tb
def dl_Fl_stepsTo : List (Nat × ClassFile.Instr × Nat) := [(0, .aload_n 0, 1), (1, .getfield 9, 3), (4, .iload_n 1, 1), (5, .invokevirtual 46, 3), (8, .ifCond .eq (12), 3), (11, .aload_n 0, 1), (12, .getfield 21, 3), (15, .iload_n 1, 1), (16, .iaload, 1), (17, .goto (4), 3), (20, .iconst (-1), 1), (21, .ireturn, 1)]
theorem d_Fl_stepsTo : mz_dec prog_4_method_3_code dl_Fl_stepsTo = true := by decide +kernel
def y_Fl_reach : MethodName := ⟨"MazeForms$Flood", "reach", "(II)V"⟩
abbrev w_Fl_reach : List Cond := .code y_Fl_reach prog_4_method_5_code 3 none :: mz_tb
def dl_Fl_reach : List (Nat × ClassFile.Instr × Nat) := [(0, .aload_n 0, 1), (1, .getfield 9, 3), (4, .iload_n 1, 1), (5, .invokevirtual 46, 3), (8, .ifCond .eq (52), 3), (11, .aload_n 0, 1), (12, .getfield 21, 3), (15, .iload_n 1, 1), (16, .iaload, 1), (17, .iconst (-1), 1), (18, .if_icmp .ne (42), 3), (21, .aload_n 0, 1), (22, .getfield 34, 3), (25, .aload_n 0, 1), (26, .getfield 25, 3), (29, .arraylength, 1), (30, .if_icmp .ge (30), 3), (33, .aload_n 0, 1), (34, .getfield 21, 3), (37, .iload_n 1, 1), (38, .iload_n 2, 1), (39, .iastore, 1), (40, .aload_n 0, 1), (41, .getfield 25, 3), (44, .aload_n 0, 1), (45, .getfield 34, 3), (48, .iload_n 1, 1), (49, .iastore, 1), (50, .aload_n 0, 1), (51, .dup, 1), (52, .getfield 34, 3), (55, .iconst (1), 1), (56, .iadd, 1), (57, .putfield 34, 3), (60, .return_, 1)]
theorem d_Fl_reach : mz_dec prog_4_method_5_code dl_Fl_reach = true := by decide +kernel
def y_Fl_spreadOn : MethodName := ⟨"MazeForms$Flood", "spreadOn", "(IZ)V"⟩
abbrev w_Fl_spreadOn : List Cond := .code y_Fl_spreadOn prog_4_method_4_code 6 none :: mz_tb
def dl_Fl_spreadOn : List (Nat × ClassFile.Instr × Nat) := [(0, .aload_n 0, 1), (1, .iload_n 1, 1), (2, .invokevirtual 50, 3), (5, .iconst (1), 1), (6, .iadd, 1), (7, .istore_n 3, 1), (8, .iconst (0), 1), (9, .istore 4, 2), (11, .iload 4, 2), (13, .iconst (4), 1), (14, .if_icmp .ge (52), 3), (17, .aload_n 0, 1), (18, .getfield 9, 3), (21, .iload_n 1, 1), (22, .iload 4, 2), (24, .invokevirtual 54, 3), (27, .istore 5, 2), (29, .iload_n 2, 1), (30, .ifCond .ne (15), 3), (33, .aload_n 0, 1), (34, .getfield 9, 3), (37, .iload 5, 2), (39, .invokevirtual 58, 3), (42, .ifCond .eq (18), 3), (45, .aload_n 0, 1), (46, .aload_n 0, 1), (47, .getfield 9, 3), (50, .iload 5, 2), (52, .iload_n 1, 1), (53, .invokevirtual 61, 3), (56, .iload_n 3, 1), (57, .invokevirtual 38, 3), (60, .iinc 4 (1), 3), (63, .goto (-52), 3), (66, .return_, 1)]
theorem d_Fl_spreadOn : mz_dec prog_4_method_4_code dl_Fl_spreadOn = true := by decide +kernel
def y_Fl_spread : MethodName := ⟨"MazeForms$Flood", "spread", "(IZ)V"⟩
abbrev w_Fl_spread : List Cond := .code y_Fl_spread prog_4_method_2_code 4 none :: mz_tb
def dl_Fl_spread : List (Nat × ClassFile.Instr × Nat) := [(0, .aload_n 0, 1), (1, .getfield 21, 3), (4, .iconst (-1), 1), (5, .invokestatic 28, 3), (8, .aload_n 0, 1), (9, .iconst (0), 1), (10, .putfield 34, 3), (13, .aload_n 0, 1), (14, .iload_n 1, 1), (15, .iconst (0), 1), (16, .invokevirtual 38, 3), (19, .iconst (0), 1), (20, .istore_n 3, 1), (21, .iload_n 3, 1), (22, .aload_n 0, 1), (23, .getfield 34, 3), (26, .if_icmp .ge (29), 3), (29, .iload_n 3, 1), (30, .aload_n 0, 1), (31, .getfield 25, 3), (34, .arraylength, 1), (35, .if_icmp .ge (20), 3), (38, .aload_n 0, 1), (39, .aload_n 0, 1), (40, .getfield 25, 3), (43, .iload_n 3, 1), (44, .iaload, 1), (45, .iload_n 2, 1), (46, .invokevirtual 42, 3), (49, .iinc 3 (1), 3), (52, .goto (-31), 3), (55, .return_, 1)]
theorem d_Fl_spread : mz_dec prog_4_method_2_code dl_Fl_spread = true := by decide +kernel
def I_Fl_stepsTo (w h : Nat) : List (Nat × mz_Op) := [(0, mz_lda 0 1), (1, mz_gf 2 0 4), (4, mz_ldi 1 5), (5, mz_ci 2 3 (C_Gr_isCell w h) 8), (8, mz_if (fun x => x = 0) 20 11), (11, mz_lda 0 12), (12, mz_gf 2 1 15), (15, mz_ldi 1 16), (16, mz_iald 0 17), (17, mz_go 21), (20, mz_push (.int (-1)) 21), (21, mz_ri)]
def I_Fl_reach (w h : Nat) : List (Nat × mz_Op) := [(0, mz_lda 0 1), (1, mz_gf 2 0 4), (4, mz_ldi 1 5), (5, mz_ci 2 3 (C_Gr_isCell w h) 8), (8, mz_if (fun x => x = 0) 60 11), (11, mz_lda 0 12), (12, mz_gf 2 1 15), (15, mz_ldi 1 16), (16, mz_iald 0 17), (17, mz_push (.int (-1)) 18), (18, mz_ic (fun x y => x = y) 21 60), (21, mz_lda 0 22), (22, mz_gf 2 3 25), (25, mz_lda 0 26), (26, mz_gf 2 2 29), (29, mz_al 30), (30, mz_ic (fun x y => y ≤ x) 60 33), (33, mz_lda 0 34), (34, mz_gf 2 1 37), (37, mz_ldi 1 38), (38, mz_ldi 2 39), (39, mz_iast 0 40), (40, mz_lda 0 41), (41, mz_gf 2 2 44), (44, mz_lda 0 45), (45, mz_gf 2 3 48), (48, mz_ldi 1 49), (49, mz_iast 0 50), (50, mz_lda 0 51), (51, mz_dup 52), (52, mz_gf 2 3 55), (55, mz_push (.int (1)) 56), (56, mz_bi (fun x y => x + y) 57), (57, mz_pfi 2 3 60), (60, mz_rv)]
def I_Fl_spreadOn (w h : Nat) : List (Nat × mz_Op) := [(0, mz_lda 0 1), (1, mz_ldi 1 2), (2, mz_ci 2 2 (C_Fl_stepsTo w h) 5), (5, mz_push (.int (1)) 6), (6, mz_bi (fun x y => x + y) 7), (7, mz_sti 3 8), (8, mz_push (.int (0)) 9), (9, mz_sti 4 11), (11, mz_ldi 4 13), (13, mz_push (.int (4)) 14), (14, mz_ic (fun x y => y ≤ x) 66 17), (17, mz_lda 0 18), (18, mz_gf 2 0 21), (21, mz_ldi 1 22), (22, mz_ldi 4 24), (24, mz_ci 3 3 (C_Gr_doorOn w h) 27), (27, mz_sti 5 29), (29, mz_ldi 2 30), (30, mz_if (fun x => x = 0) 33 45), (33, mz_lda 0 34), (34, mz_gf 2 0 37), (37, mz_ldi 5 39), (39, mz_ci 2 3 (C_Gr_isOpen w h) 42), (42, mz_if (fun x => x = 0) 60 45), (45, mz_lda 0 46), (46, mz_lda 0 47), (47, mz_gf 2 0 50), (50, mz_ldi 5 52), (52, mz_ldi 1 53), (53, mz_ci 3 3 (C_Gr_otherCell w h) 56), (56, mz_ldi 3 57), (57, mz_cvo 3 2 (C_Fl_reach w h) 60), (60, mz_inc 4 (1) 63), (63, mz_go 11), (66, mz_rv)]
def I_Fl_spread (w h : Nat) : List (Nat × mz_Op) := [(0, mz_lda 0 1), (1, mz_gf 2 1 4), (4, mz_push (.int (-1)) 5), (5, mz_svo 2 (C_Ja_fillI w h) 8), (8, mz_lda 0 9), (9, mz_push (.int (0)) 10), (10, mz_pfi 2 3 13), (13, mz_lda 0 14), (14, mz_ldi 1 15), (15, mz_push (.int (0)) 16), (16, mz_cvo 3 2 (C_Fl_reach w h) 19), (19, mz_push (.int (0)) 20), (20, mz_sti 3 21), (21, mz_ldi 3 22), (22, mz_lda 0 23), (23, mz_gf 2 3 26), (26, mz_ic (fun x y => y ≤ x) 55 29), (29, mz_ldi 3 30), (30, mz_lda 0 31), (31, mz_gf 2 2 34), (34, mz_al 35), (35, mz_ic (fun x y => y ≤ x) 55 38), (38, mz_lda 0 39), (39, mz_lda 0 40), (40, mz_gf 2 2 43), (43, mz_ldi 3 44), (44, mz_iald 0 45), (45, mz_ldi 2 46), (46, mz_cvo 3 2 (C_Fl_spreadOn w h) 49), (49, mz_inc 3 (1) 52), (52, mz_go 21), (55, mz_rv)]
theorem zf_re_t {w h : Nat} {X : mz_X} {c d : Int32} (e : zf_reB w h X c = true) : zf_re w h X c d = zf_reX X c d := by
  unfold zf_re
  rw [e]
theorem zf_re_f {w h : Nat} {X : mz_X} {c d : Int32} (e : zf_reB w h X c = false) : zf_re w h X c d = X := by
  unfold zf_re
  rw [e]
theorem zf_sd_t {w h s : Nat} {X : mz_X} {c t n : Int32} (e : zf_sdB w h X c t s = true) : zf_sd w h X c t n s = zf_re w h X (zg_oth w h X (zg_on w h X c (nI s)) c) n := by
  unfold zf_sd
  rw [e]
theorem zf_sd_f {w h s : Nat} {X : mz_X} {c t n : Int32} (e : zf_sdB w h X c t s = false) : zf_sd w h X c t n s = X := by
  unfold zf_sd
  rw [e]
theorem zf_re_ok {w h : Nat} {X : mz_X} (g : mz_geo w h) (c d : Int32) (hX : zf_ok w h X) : zf_ok w h (zf_re w h X c d) := by
  have hn := mz_geo_n g
  cases e : zf_reB w h X c with
  | false =>
    rw [zf_re_f e]
    exact hX
  | true =>
    rw [zf_re_t e]
    obtain ⟨q, hq1, hq2⟩ := hX
    simp only [zf_reB, Bool.and_eq_true, Bool.not_eq_true', decide_eq_false_iff_not, hq2] at e
    rw [nI_leI (by omega) (by omega)] at e
    exact ⟨q + 1, by omega, by simp [zf_reX, mz_up, hq2, nI_1]⟩
theorem zf_sd_ok {w h s : Nat} {X : mz_X} (g : mz_geo w h) (c t n : Int32) (hX : zf_ok w h X) : zf_ok w h (zf_sd w h X c t n s) := by
  cases e : zf_sdB w h X c t s with
  | false =>
    rw [zf_sd_f e]
    exact hX
  | true =>
    rw [zf_sd_t e]
    exact zf_re_ok g _ _ hX
theorem zf_sds_ok {w h : Nat} {X : mz_X} (g : mz_geo w h) (c t n : Int32) (hX : zf_ok w h X) : ∀ k, zf_ok w h (zf_sds w h X c t n k)
  | 0 => hX
  | k + 1 => zf_sd_ok g c t n (zf_sds_ok g c t n hX k)
theorem zf_on_ok {w h : Nat} {X : mz_X} (g : mz_geo w h) (c t : Int32) (hX : zf_ok w h X) : zf_ok w h (zf_on w h X c t) := zf_sds_ok g c t _ hX 4
theorem len_Fl_stepsTo (w h : Nat) (lay : List mz_E) (as : List Value) (X : mz_X) (Q : Int32 → mz_X → Prop) (hC : C_Fl_stepsTo w h lay as X Q) : (mz_l0 as).length ≤ 2 := by
  unfold C_Fl_stepsTo at hC
  split at hC
  · exact Nat.le_of_ble_eq_true rfl
  · exact hC.elim
theorem ok_Fl_stepsTo (w h : Nat) (lay : List mz_E) (as : List Value) (X : mz_X) (Q : Int32 → mz_X → Prop) (hC : C_Fl_stepsTo w h lay as X Q) (K : mz_K) (hK : mz_Cl (I_Fl_stepsTo w h) (mz_qi lay Q) K) : K 0 (mz_ent 2 as) [] (lay, X) := by
  unfold C_Fl_stepsTo at hC
  split at hC
  · next c =>
    obtain ⟨rfl, g, hq⟩ := hC
    have hn := mz_geo_n g
    iterate 3 refine hK _ _ _ _ ?_
    refine hK _ _ _ _ (And.intro (rfl) (And.intro (g) ?_))
    refine hK _ _ _ _ (And.intro (fun c1 => ?_) (fun c1 => ?_))
    · have e : zf_to w h X c = -1 := by
        unfold zf_to
        rw [mz_b0 c1]
      rw [e] at hq
      refine hK _ _ _ _ ?_
      exact hK _ _ _ _ (And.intro rfl (hq))
    · have e : zf_to w h X c = X.1 10 c.toNatClampNeg := by
        unfold zf_to
        rw [mz_b1 c1]
      rw [e] at hq
      iterate 3 refine hK _ _ _ _ ?_
      refine hK _ _ _ _ (And.intro (mz_lt_in (mz_b1 c1) (by omega)) ?_)
      refine hK _ _ _ _ ?_
      exact hK _ _ _ _ (And.intro rfl (hq))
  · exact hC.elim
theorem len_Fl_reach (w h : Nat) (lay : List mz_E) (as : List Value) (X : mz_X) (Q : mz_X → Prop) (hC : C_Fl_reach w h lay as X Q) : (mz_l0 as).length ≤ 3 := by
  unfold C_Fl_reach at hC
  split at hC
  · exact Nat.le_of_ble_eq_true rfl
  · exact hC.elim
theorem ok_Fl_reach (w h : Nat) (lay : List mz_E) (as : List Value) (X : mz_X) (Q : mz_X → Prop) (hC : C_Fl_reach w h lay as X Q) (K : mz_K) (hK : mz_Cl (I_Fl_reach w h) (mz_qv lay Q) K) : K 0 (mz_ent 3 as) [] (lay, X) := by
  unfold C_Fl_reach at hC
  split at hC
  · next c d =>
    obtain ⟨rfl, g, hX, hq⟩ := hC
    have hn := mz_geo_n g
    have h60 : zf_reB w h X c = false → K 60 (mz_ent 3 [.ref 9, .int c, .int d]) [] (mz_lay w h, X) := by
      intro e
      rw [zf_re_f e] at hq
      exact hK _ _ _ _ (And.intro rfl (hq))
    iterate 3 refine hK _ _ _ _ ?_
    refine hK _ _ _ _ (And.intro (rfl) (And.intro (g) ?_))
    refine hK _ _ _ _ (And.intro (fun c1 => ?_) (fun c1 => ?_))
    · exact h60 (by simp [zf_reB, mz_b0 c1])
    · have hcin := mz_lt_in (mz_b1 c1) (show w * h < 2 ^ 31 by omega)
      iterate 3 refine hK _ _ _ _ ?_
      refine hK _ _ _ _ (And.intro (hcin) ?_)
      refine hK _ _ _ _ ?_
      refine hK _ _ _ _ (And.intro (fun c2 => ?_) (fun c2 => ?_))
      · dsimp only at c2
        iterate 5 refine hK _ _ _ _ ?_
        refine hK _ _ _ _ (And.intro (fun c3 => ?_) (fun c3 => ?_))
        · dsimp only at c3
          exact h60 (by simp [zf_reB, c3])
        · dsimp only at c3
          have hb : zf_reB w h X c = true := by simp [zf_reB, mz_b1 c1, c2, c3]
          rw [zf_re_t hb] at hq
          obtain ⟨q, hq1, hq2⟩ := hX
          have hqi : vp_in (X.1 9 3) (w * h) := by
            rw [hq2] at c3 ⊢
            rw [nI_leI (by omega) (by omega)] at c3
            exact vp_in_nI (by omega) (by omega)
          iterate 4 refine hK _ _ _ _ ?_
          refine hK _ _ _ _ (And.intro (hcin) ?_)
          iterate 5 refine hK _ _ _ _ ?_
          refine hK _ _ _ _ (And.intro (hqi) ?_)
          iterate 6 refine hK _ _ _ _ ?_
          exact hK _ _ _ _ (And.intro rfl (hq))
      · dsimp only at c2
        exact h60 (by simp [zf_reB, c2])
  · exact hC.elim
theorem len_Fl_spreadOn (w h : Nat) (lay : List mz_E) (as : List Value) (X : mz_X) (Q : mz_X → Prop) (hC : C_Fl_spreadOn w h lay as X Q) : (mz_l0 as).length ≤ 6 := by
  unfold C_Fl_spreadOn at hC
  split at hC
  · exact Nat.le_of_ble_eq_true rfl
  · exact hC.elim
theorem ok_Fl_spreadOn (w h : Nat) (lay : List mz_E) (as : List Value) (X : mz_X) (Q : mz_X → Prop) (hC : C_Fl_spreadOn w h lay as X Q) (K : mz_K) (hK : mz_Cl (I_Fl_spreadOn w h) (mz_qv lay Q) K) : K 0 (mz_ent 6 as) [] (lay, X) := by
  unfold C_Fl_spreadOn at hC
  split at hC
  · next c t =>
    obtain ⟨rfl, g, hX, hq⟩ := hC
    have loop : ∀ (k i : Nat), i + k = 4 → ∀ L5 : Option Value, K 11 [some (.ref 9), some (.int c), some (.int t), some (.int (zf_to w h X c + 1)), some (.int (nI i)), L5] [] (mz_lay w h, zf_sds w h X c t (zf_to w h X c + 1) i) := by
      intro k
      induction k with
      | zero =>
        intro i hi L5
        iterate 2 refine hK _ _ _ _ ?_
        refine hK _ _ _ _ (And.intro (fun c1 => ?_) (fun c1 => ?_))
        · exact hK _ _ _ _ (And.intro rfl (by rw [show i = 4 by omega]; exact hq))
        · exact absurd (nI_le (a := 4) (b := i) (by omega) (by omega)) c1
      | succ k ih =>
        intro i hi L5
        have hY := zf_sds_ok g c t (zf_to w h X c + 1) hX i
        have ih1 := ih (i + 1) (by omega)
        rw [show zf_sds w h X c t (zf_to w h X c + 1) (i + 1) = zf_sd w h (zf_sds w h X c t (zf_to w h X c + 1) i) c t (zf_to w h X c + 1) i from rfl] at ih1
        generalize zf_sds w h X c t (zf_to w h X c + 1) i = Y at hY ih1 ⊢
        have ht : zf_sdB w h Y c t i = true → K 45 [some (.ref 9), some (.int c), some (.int t), some (.int (zf_to w h X c + 1)), some (.int (nI i)), some (.int (zg_on w h Y c (nI i)))] [] (mz_lay w h, Y) := by
          intro e
          rw [zf_sd_t e] at ih1
          iterate 5 refine hK _ _ _ _ ?_
          refine hK _ _ _ _ (And.intro (rfl) (And.intro (g) ?_))
          refine hK _ _ _ _ ?_
          refine hK _ _ _ _ (And.intro (rfl) (And.intro (g) (And.intro (hY) ?_)))
          iterate 2 refine hK _ _ _ _ ?_
          have := ih1 (some (.int (zg_on w h Y c (nI i))))
          rw [← nI_1] at this
          exact this
        iterate 2 refine hK _ _ _ _ ?_
        refine hK _ _ _ _ (And.intro (fun c1 => ?_) (fun c1 => ?_))
        · exact absurd c1 (nI_ge (a := i) (b := 4) (by omega) (by omega))
        · iterate 4 refine hK _ _ _ _ ?_
          refine hK _ _ _ _ (And.intro (rfl) (And.intro (g) ?_))
          iterate 2 refine hK _ _ _ _ ?_
          refine hK _ _ _ _ (And.intro (fun c2 => ?_) (fun c2 => ?_))
          · iterate 3 refine hK _ _ _ _ ?_
            refine hK _ _ _ _ (And.intro (rfl) (And.intro (g) ?_))
            refine hK _ _ _ _ (And.intro (fun c3 => ?_) (fun c3 => ?_))
            · have e : zf_sdB w h Y c t i = false := by
                simp only [zf_sdB]
                rw [show t = 0 from c2, show zg_open w h Y (zg_on w h Y c (nI i)) = false from mz_b0 c3]
                rfl
              rw [zf_sd_f e] at ih1
              iterate 2 refine hK _ _ _ _ ?_
              have := ih1 (some (.int (zg_on w h Y c (nI i))))
              rw [← nI_1] at this
              exact this
            · exact ht (by
                simp only [zf_sdB]
                rw [show zg_open w h Y (zg_on w h Y c (nI i)) = true from mz_b1 c3]
                simp)
          · exact ht (by
              simp only [zf_sdB]
              rw [show decide (t = 0) = false from decide_eq_false c2]
              rfl)
    iterate 2 refine hK _ _ _ _ ?_
    refine hK _ _ _ _ (And.intro (rfl) (And.intro (g) ?_))
    iterate 5 refine hK _ _ _ _ ?_
    exact loop 4 0 (by omega) none
  · exact hC.elim
theorem len_Fl_spread (w h : Nat) (lay : List mz_E) (as : List Value) (X : mz_X) (Q : mz_X → Prop) (hC : C_Fl_spread w h lay as X Q) : (mz_l0 as).length ≤ 4 := by
  unfold C_Fl_spread at hC
  split at hC
  · exact Nat.le_of_ble_eq_true rfl
  · exact hC.elim
theorem ok_Fl_spread (w h : Nat) (lay : List mz_E) (as : List Value) (X : mz_X) (Q : mz_X → Prop) (hC : C_Fl_spread w h lay as X Q) (K : mz_K) (hK : mz_Cl (I_Fl_spread w h) (mz_qv lay Q) K) : K 0 (mz_ent 4 as) [] (lay, X) := by
  unfold C_Fl_spread at hC
  split at hC
  · next c t =>
    obtain ⟨rfl, g, hq⟩ := hC
    have hn := mz_geo_n g
    have loop : ∀ (k i : Nat) (Y : mz_X), i + k = w * h → zf_ok w h Y → Q (zf_go w h Y t i k) → K 21 [some (.ref 9), some (.int c), some (.int t), some (.int (nI i))] [] (mz_lay w h, Y) := by
      intro k
      induction k with
      | zero =>
        intro i Y hi hY hQ
        iterate 3 refine hK _ _ _ _ ?_
        refine hK _ _ _ _ (And.intro (fun c1 => ?_) (fun c1 => ?_))
        · exact hK _ _ _ _ (And.intro rfl (hQ))
        · iterate 4 refine hK _ _ _ _ ?_
          refine hK _ _ _ _ (And.intro (fun c2 => ?_) (fun c2 => ?_))
          · exact hK _ _ _ _ (And.intro rfl (hQ))
          · exact absurd (nI_le (a := w * h) (b := i) (by omega) (by omega)) c2
      | succ k ih =>
        intro i Y hi hY hQ
        iterate 3 refine hK _ _ _ _ ?_
        refine hK _ _ _ _ (And.intro (fun c1 => ?_) (fun c1 => ?_))
        · dsimp only at c1
          have e : zf_go w h Y t i (k + 1) = Y := by
            show (match decide (nI i < Y.1 9 3) with | true => zf_go w h (zf_on w h Y (Y.1 11 i) t) t (i + 1) k | false => Y) = Y
            rw [show decide (nI i < Y.1 9 3) = false from decide_eq_false (Int32.not_lt.mpr c1)]
          rw [e] at hQ
          exact hK _ _ _ _ (And.intro rfl (hQ))
        · dsimp only at c1
          have e : zf_go w h Y t i (k + 1) = zf_go w h (zf_on w h Y (Y.1 11 i) t) t (i + 1) k := by
            show (match decide (nI i < Y.1 9 3) with | true => zf_go w h (zf_on w h Y (Y.1 11 i) t) t (i + 1) k | false => Y) = _
            rw [show decide (nI i < Y.1 9 3) = true from decide_eq_true (Int32.not_le.mp c1)]
          rw [e] at hQ
          iterate 4 refine hK _ _ _ _ ?_
          refine hK _ _ _ _ (And.intro (fun c2 => ?_) (fun c2 => ?_))
          · exact absurd c2 (nI_ge (by omega) (by omega))
          · iterate 4 refine hK _ _ _ _ ?_
            refine hK _ _ _ _ (And.intro (vp_in_nI (by omega) (by omega)) ?_)
            refine hK _ _ _ _ ?_
            refine hK _ _ _ _ (And.intro (rfl) (And.intro (g) (And.intro (hY) ?_)))
            iterate 2 refine hK _ _ _ _ ?_
            have := ih (i + 1) _ (by omega) (zf_on_ok g (Y.1 11 i) t hY) hQ
            rw [← nI_1] at this
            rw [nI_clamp (by omega)]
            exact this
    have hok0 : zf_ok w h (zf_0 w h X) := ⟨0, Nat.zero_le _, by simp [zf_0, mz_up, nI_0]⟩
    iterate 3 refine hK _ _ _ _ ?_
    refine hK _ _ _ _ (Exists.intro 6 (Exists.intro (w * h) (And.intro rfl (And.intro (by omega) ?_))))
    iterate 6 refine hK _ _ _ _ ?_
    refine hK _ _ _ _ (And.intro (rfl) (And.intro (g) (And.intro (hok0) ?_)))
    iterate 2 refine hK _ _ _ _ ?_
    exact loop (w * h) 0 _ (by omega) (zf_re_ok g c 0 hok0) hq
  · exact hC.elim
set_option maxRecDepth 20000 in
theorem snd_Fl_stepsTo (w h : Nat) (l : Launch) (p : Program) (e : Env) (s : State) (m : MethodId) (args : Array Value) (below : List Frame) (meth : Method) (c : Code) (D : va_G) (ad0 : Nat → Nat) (cA0 : Nat → ClassId) (A : Nat → Prop) (lay : List mz_E) (Q : Int32 → mz_X → Prop) (F : mz_F p s m args meth c prog_4_method_3_code 2 y_Fl_stepsTo.cls (some .int) w_Fl_stepsTo) (hA : ∀ q, s.heap.size ≤ q → A q) : mz_All (mz_V p l e (mz_rm 1 21) s m args below meth c 2 lay.length (mz_sz lay) D mz_cls (mz_G0 ad0 cA0) A (MQ below (va_Qi Q (mz_B D mz_cls ad0 cA0 lay A) A) args s 0 0 A)) (mz_qi lay Q) (I_Fl_stepsTo w h) := by
  obtain ⟨hx, hb, hml, hown, hts, hr, hlk⟩ := F
  unfold I_Fl_stepsTo
  refine mz_All.cons (sd_aload_n hx hb (mz_dg d_Fl_stepsTo 0 0 (.aload_n 0) 1 rfl) rfl) ?_
  refine mz_All.cons (sd_get (k := 0) hx hb hts (mz_inC in_Fl) hown (T := T_Fl) (N := 4) rfl (by decide) (hts (.fieldLink "MazeForms$Flood" 9 "MazeForms$Flood" "grid" "LMazeForms$Grid;") (List.mem_cons_of_mem _ wm_178)) (fun _ h => h) (mz_dg d_Fl_stepsTo 1 1 (.getfield 9) 3 rfl)) ?_
  refine mz_All.cons (sd_iload_n hx hb (mz_dg d_Fl_stepsTo 2 4 (.iload_n 1) 1 rfl) rfl) ?_
  refine mz_All.cons (sd_calli (T := T_Gr) ⟨hx, hb, hml, hown, hts⟩ (met_Gr_isCell w h l) (cwV 1 hts (mz_gV wm_486 wm_121 wm_122 wm_67 wm_123) rfl rfl rfl (by decide) ⟨by decide, by decide⟩) rfl hA rfl (mz_dg d_Fl_stepsTo 3 5 (.invokevirtual 46) 3 rfl)) ?_
  refine mz_All.cons (sd_if_eq hx hb (mz_dg d_Fl_stepsTo 4 8 (.ifCond .eq (12)) 3 rfl) (by decide)) ?_
  refine mz_All.cons (sd_aload_n hx hb (mz_dg d_Fl_stepsTo 5 11 (.aload_n 0) 1 rfl) rfl) ?_
  refine mz_All.cons (sd_get (k := 1) hx hb hts (mz_inC in_Fl) hown (T := T_Fl) (N := 4) rfl (by decide) (hts (.fieldLink "MazeForms$Flood" 21 "MazeForms$Flood" "steps" "[I") (List.mem_cons_of_mem _ wm_179)) (fun _ h => h) (mz_dg d_Fl_stepsTo 6 12 (.getfield 21) 3 rfl)) ?_
  refine mz_All.cons (sd_iload_n hx hb (mz_dg d_Fl_stepsTo 7 15 (.iload_n 1) 1 rfl) rfl) ?_
  refine mz_All.cons (sd_iald hx hb (mz_dg d_Fl_stepsTo 8 16 (.iaload) 1 rfl)) ?_
  refine mz_All.cons (sd_goto hx hb (mz_dg d_Fl_stepsTo 9 17 (.goto (4)) 3 rfl) (by decide)) ?_
  refine mz_All.cons (sd_iconst hx hb (mz_dg d_Fl_stepsTo 10 20 (.iconst (-1)) 1 rfl) (by decide)) ?_
  refine mz_All.cons (sd_ri hx hb hr hlk (mz_dg d_Fl_stepsTo 11 21 (.ireturn) 1 rfl)) ?_
  exact trivial
theorem met_Fl_stepsTo (w h : Nat) (l : Launch) : mz_MI l y_Fl_stepsTo w_Fl_stepsTo 1 21 mz_cls (C_Fl_stepsTo w h) := mz_MI_of (I_Fl_stepsTo w h) (by decide) rfl (len_Fl_stepsTo w h) (ok_Fl_stepsTo w h) (snd_Fl_stepsTo w h l)
set_option maxRecDepth 20000 in
theorem snd_Fl_reach (w h : Nat) (l : Launch) (p : Program) (e : Env) (s : State) (m : MethodId) (args : Array Value) (below : List Frame) (meth : Method) (c : Code) (D : va_G) (ad0 : Nat → Nat) (cA0 : Nat → ClassId) (A : Nat → Prop) (lay : List mz_E) (Q : mz_X → Prop) (F : mz_F p s m args meth c prog_4_method_5_code 3 y_Fl_reach.cls none w_Fl_reach) (hA : ∀ q, s.heap.size ≤ q → A q) : mz_All (mz_V p l e (mz_rm 1 21) s m args below meth c 3 lay.length (mz_sz lay) D mz_cls (mz_G0 ad0 cA0) A (MQ below (va_Qv Q (mz_B D mz_cls ad0 cA0 lay A) A) args s 0 0 A)) (mz_qv lay Q) (I_Fl_reach w h) := by
  obtain ⟨hx, hb, hml, hown, hts, hr, hlk⟩ := F
  unfold I_Fl_reach
  refine mz_All.cons (sd_aload_n hx hb (mz_dg d_Fl_reach 0 0 (.aload_n 0) 1 rfl) rfl) ?_
  refine mz_All.cons (sd_get (k := 0) hx hb hts (mz_inC in_Fl) hown (T := T_Fl) (N := 4) rfl (by decide) (hts (.fieldLink "MazeForms$Flood" 9 "MazeForms$Flood" "grid" "LMazeForms$Grid;") (List.mem_cons_of_mem _ wm_178)) (fun _ h => h) (mz_dg d_Fl_reach 1 1 (.getfield 9) 3 rfl)) ?_
  refine mz_All.cons (sd_iload_n hx hb (mz_dg d_Fl_reach 2 4 (.iload_n 1) 1 rfl) rfl) ?_
  refine mz_All.cons (sd_calli (T := T_Gr) ⟨hx, hb, hml, hown, hts⟩ (met_Gr_isCell w h l) (cwV 1 hts (mz_gV wm_486 wm_121 wm_122 wm_67 wm_123) rfl rfl rfl (by decide) ⟨by decide, by decide⟩) rfl hA rfl (mz_dg d_Fl_reach 3 5 (.invokevirtual 46) 3 rfl)) ?_
  refine mz_All.cons (sd_if_eq hx hb (mz_dg d_Fl_reach 4 8 (.ifCond .eq (52)) 3 rfl) (by decide)) ?_
  refine mz_All.cons (sd_aload_n hx hb (mz_dg d_Fl_reach 5 11 (.aload_n 0) 1 rfl) rfl) ?_
  refine mz_All.cons (sd_get (k := 1) hx hb hts (mz_inC in_Fl) hown (T := T_Fl) (N := 4) rfl (by decide) (hts (.fieldLink "MazeForms$Flood" 21 "MazeForms$Flood" "steps" "[I") (List.mem_cons_of_mem _ wm_179)) (fun _ h => h) (mz_dg d_Fl_reach 6 12 (.getfield 21) 3 rfl)) ?_
  refine mz_All.cons (sd_iload_n hx hb (mz_dg d_Fl_reach 7 15 (.iload_n 1) 1 rfl) rfl) ?_
  refine mz_All.cons (sd_iald hx hb (mz_dg d_Fl_reach 8 16 (.iaload) 1 rfl)) ?_
  refine mz_All.cons (sd_iconst hx hb (mz_dg d_Fl_reach 9 17 (.iconst (-1)) 1 rfl) (by decide)) ?_
  refine mz_All.cons (sd_icmp_ne hx hb (mz_dg d_Fl_reach 10 18 (.if_icmp .ne (42)) 3 rfl) (by decide)) ?_
  refine mz_All.cons (sd_aload_n hx hb (mz_dg d_Fl_reach 11 21 (.aload_n 0) 1 rfl) rfl) ?_
  refine mz_All.cons (sd_get (k := 3) hx hb hts (mz_inC in_Fl) hown (T := T_Fl) (N := 4) rfl (by decide) (hts (.fieldLink "MazeForms$Flood" 34 "MazeForms$Flood" "queued" "I") (List.mem_cons_of_mem _ wm_181)) (fun _ h => h) (mz_dg d_Fl_reach 12 22 (.getfield 34) 3 rfl)) ?_
  refine mz_All.cons (sd_aload_n hx hb (mz_dg d_Fl_reach 13 25 (.aload_n 0) 1 rfl) rfl) ?_
  refine mz_All.cons (sd_get (k := 2) hx hb hts (mz_inC in_Fl) hown (T := T_Fl) (N := 4) rfl (by decide) (hts (.fieldLink "MazeForms$Flood" 25 "MazeForms$Flood" "queue" "[I") (List.mem_cons_of_mem _ wm_180)) (fun _ h => h) (mz_dg d_Fl_reach 14 26 (.getfield 25) 3 rfl)) ?_
  refine mz_All.cons (sd_alen hx hb (mz_dg d_Fl_reach 15 29 (.arraylength) 1 rfl)) ?_
  refine mz_All.cons (sd_icmp_ge hx hb (mz_dg d_Fl_reach 16 30 (.if_icmp .ge (30)) 3 rfl) (by decide)) ?_
  refine mz_All.cons (sd_aload_n hx hb (mz_dg d_Fl_reach 17 33 (.aload_n 0) 1 rfl) rfl) ?_
  refine mz_All.cons (sd_get (k := 1) hx hb hts (mz_inC in_Fl) hown (T := T_Fl) (N := 4) rfl (by decide) (hts (.fieldLink "MazeForms$Flood" 21 "MazeForms$Flood" "steps" "[I") (List.mem_cons_of_mem _ wm_179)) (fun _ h => h) (mz_dg d_Fl_reach 18 34 (.getfield 21) 3 rfl)) ?_
  refine mz_All.cons (sd_iload_n hx hb (mz_dg d_Fl_reach 19 37 (.iload_n 1) 1 rfl) rfl) ?_
  refine mz_All.cons (sd_iload_n hx hb (mz_dg d_Fl_reach 20 38 (.iload_n 2) 1 rfl) rfl) ?_
  refine mz_All.cons (sd_iast hx hb (mz_dg d_Fl_reach 21 39 (.iastore) 1 rfl)) ?_
  refine mz_All.cons (sd_aload_n hx hb (mz_dg d_Fl_reach 22 40 (.aload_n 0) 1 rfl) rfl) ?_
  refine mz_All.cons (sd_get (k := 2) hx hb hts (mz_inC in_Fl) hown (T := T_Fl) (N := 4) rfl (by decide) (hts (.fieldLink "MazeForms$Flood" 25 "MazeForms$Flood" "queue" "[I") (List.mem_cons_of_mem _ wm_180)) (fun _ h => h) (mz_dg d_Fl_reach 23 41 (.getfield 25) 3 rfl)) ?_
  refine mz_All.cons (sd_aload_n hx hb (mz_dg d_Fl_reach 24 44 (.aload_n 0) 1 rfl) rfl) ?_
  refine mz_All.cons (sd_get (k := 3) hx hb hts (mz_inC in_Fl) hown (T := T_Fl) (N := 4) rfl (by decide) (hts (.fieldLink "MazeForms$Flood" 34 "MazeForms$Flood" "queued" "I") (List.mem_cons_of_mem _ wm_181)) (fun _ h => h) (mz_dg d_Fl_reach 25 45 (.getfield 34) 3 rfl)) ?_
  refine mz_All.cons (sd_iload_n hx hb (mz_dg d_Fl_reach 26 48 (.iload_n 1) 1 rfl) rfl) ?_
  refine mz_All.cons (sd_iast hx hb (mz_dg d_Fl_reach 27 49 (.iastore) 1 rfl)) ?_
  refine mz_All.cons (sd_aload_n hx hb (mz_dg d_Fl_reach 28 50 (.aload_n 0) 1 rfl) rfl) ?_
  refine mz_All.cons (sd_dup hx hb (mz_dg d_Fl_reach 29 51 (.dup) 1 rfl)) ?_
  refine mz_All.cons (sd_get (k := 3) hx hb hts (mz_inC in_Fl) hown (T := T_Fl) (N := 4) rfl (by decide) (hts (.fieldLink "MazeForms$Flood" 34 "MazeForms$Flood" "queued" "I") (List.mem_cons_of_mem _ wm_181)) (fun _ h => h) (mz_dg d_Fl_reach 30 52 (.getfield 34) 3 rfl)) ?_
  refine mz_All.cons (sd_iconst hx hb (mz_dg d_Fl_reach 31 55 (.iconst (1)) 1 rfl) (by decide)) ?_
  refine mz_All.cons (sd_iadd hx hb (mz_dg d_Fl_reach 32 56 (.iadd) 1 rfl)) ?_
  refine mz_All.cons (sd_puti (k := 3) hx hb hts (mz_inC in_Fl) ty_Fl ty_Fl_ok nm_Fl hown (T := T_Fl) (N := 4) rfl (by decide) (hts (.fieldLink "MazeForms$Flood" 34 "MazeForms$Flood" "queued" "I") (List.mem_cons_of_mem _ wm_181)) (fun _ h => h) rfl rfl (mz_dg d_Fl_reach 33 57 (.putfield 34) 3 rfl)) ?_
  refine mz_All.cons (sd_rv hx hb hr hlk (mz_dg d_Fl_reach 34 60 (.return_) 1 rfl)) ?_
  exact trivial
theorem met_Fl_reach (w h : Nat) (l : Launch) : mz_MV l y_Fl_reach w_Fl_reach 1 21 mz_cls (C_Fl_reach w h) := mz_MV_of (I_Fl_reach w h) (by decide) rfl (len_Fl_reach w h) (ok_Fl_reach w h) (snd_Fl_reach w h l)
set_option maxRecDepth 20000 in
theorem snd_Fl_spreadOn (w h : Nat) (l : Launch) (p : Program) (e : Env) (s : State) (m : MethodId) (args : Array Value) (below : List Frame) (meth : Method) (c : Code) (D : va_G) (ad0 : Nat → Nat) (cA0 : Nat → ClassId) (A : Nat → Prop) (lay : List mz_E) (Q : mz_X → Prop) (F : mz_F p s m args meth c prog_4_method_4_code 6 y_Fl_spreadOn.cls none w_Fl_spreadOn) (hA : ∀ q, s.heap.size ≤ q → A q) : mz_All (mz_V p l e (mz_rm 2 44) s m args below meth c 6 lay.length (mz_sz lay) D mz_cls (mz_G0 ad0 cA0) A (MQ below (va_Qv Q (mz_B D mz_cls ad0 cA0 lay A) A) args s 0 0 A)) (mz_qv lay Q) (I_Fl_spreadOn w h) := by
  obtain ⟨hx, hb, hml, hown, hts, hr, hlk⟩ := F
  unfold I_Fl_spreadOn
  refine mz_All.cons (sd_aload_n hx hb (mz_dg d_Fl_spreadOn 0 0 (.aload_n 0) 1 rfl) rfl) ?_
  refine mz_All.cons (sd_iload_n hx hb (mz_dg d_Fl_spreadOn 1 1 (.iload_n 1) 1 rfl) rfl) ?_
  refine mz_All.cons (sd_calli (T := T_Fl) ⟨hx, hb, hml, hown, hts⟩ (met_Fl_stepsTo w h l) (cwV 1 hts (mz_gV wm_491 wm_492 wm_493 wm_71 wm_494) rfl rfl rfl (by decide) ⟨by decide, by decide⟩) rfl hA rfl (mz_dg d_Fl_spreadOn 2 2 (.invokevirtual 50) 3 rfl)) ?_
  refine mz_All.cons (sd_iconst hx hb (mz_dg d_Fl_spreadOn 3 5 (.iconst (1)) 1 rfl) (by decide)) ?_
  refine mz_All.cons (sd_iadd hx hb (mz_dg d_Fl_spreadOn 4 6 (.iadd) 1 rfl)) ?_
  refine mz_All.cons (sd_istore_n hx hb (mz_dg d_Fl_spreadOn 5 7 (.istore_n 3) 1 rfl) rfl (by decide)) ?_
  refine mz_All.cons (sd_iconst hx hb (mz_dg d_Fl_spreadOn 6 8 (.iconst (0)) 1 rfl) (by decide)) ?_
  refine mz_All.cons (sd_istore hx hb (mz_dg d_Fl_spreadOn 7 9 (.istore 4) 2 rfl) (by decide)) ?_
  refine mz_All.cons (sd_iload hx hb (mz_dg d_Fl_spreadOn 8 11 (.iload 4) 2 rfl)) ?_
  refine mz_All.cons (sd_iconst hx hb (mz_dg d_Fl_spreadOn 9 13 (.iconst (4)) 1 rfl) (by decide)) ?_
  refine mz_All.cons (sd_icmp_ge hx hb (mz_dg d_Fl_spreadOn 10 14 (.if_icmp .ge (52)) 3 rfl) (by decide)) ?_
  refine mz_All.cons (sd_aload_n hx hb (mz_dg d_Fl_spreadOn 11 17 (.aload_n 0) 1 rfl) rfl) ?_
  refine mz_All.cons (sd_get (k := 0) hx hb hts (mz_inC in_Fl) hown (T := T_Fl) (N := 4) rfl (by decide) (hts (.fieldLink "MazeForms$Flood" 9 "MazeForms$Flood" "grid" "LMazeForms$Grid;") (List.mem_cons_of_mem _ wm_178)) (fun _ h => h) (mz_dg d_Fl_spreadOn 12 18 (.getfield 9) 3 rfl)) ?_
  refine mz_All.cons (sd_iload_n hx hb (mz_dg d_Fl_spreadOn 13 21 (.iload_n 1) 1 rfl) rfl) ?_
  refine mz_All.cons (sd_iload hx hb (mz_dg d_Fl_spreadOn 14 22 (.iload 4) 2 rfl)) ?_
  refine mz_All.cons (sd_calli (T := T_Gr) ⟨hx, hb, hml, hown, hts⟩ (met_Gr_doorOn w h l) (cwV 2 hts (mz_gV wm_495 wm_372 wm_373 wm_67 wm_374) rfl rfl rfl (by decide) ⟨by decide, by decide⟩) rfl hA rfl (mz_dg d_Fl_spreadOn 15 24 (.invokevirtual 54) 3 rfl)) ?_
  refine mz_All.cons (sd_istore hx hb (mz_dg d_Fl_spreadOn 16 27 (.istore 5) 2 rfl) (by decide)) ?_
  refine mz_All.cons (sd_iload_n hx hb (mz_dg d_Fl_spreadOn 17 29 (.iload_n 2) 1 rfl) rfl) ?_
  refine mz_All.cons (sd_if_ne hx hb (mz_dg d_Fl_spreadOn 18 30 (.ifCond .ne (15)) 3 rfl) (by decide)) ?_
  refine mz_All.cons (sd_aload_n hx hb (mz_dg d_Fl_spreadOn 19 33 (.aload_n 0) 1 rfl) rfl) ?_
  refine mz_All.cons (sd_get (k := 0) hx hb hts (mz_inC in_Fl) hown (T := T_Fl) (N := 4) rfl (by decide) (hts (.fieldLink "MazeForms$Flood" 9 "MazeForms$Flood" "grid" "LMazeForms$Grid;") (List.mem_cons_of_mem _ wm_178)) (fun _ h => h) (mz_dg d_Fl_spreadOn 20 34 (.getfield 9) 3 rfl)) ?_
  refine mz_All.cons (sd_iload hx hb (mz_dg d_Fl_spreadOn 21 37 (.iload 5) 2 rfl)) ?_
  refine mz_All.cons (sd_calli (T := T_Gr) ⟨hx, hb, hml, hown, hts⟩ (met_Gr_isOpen w h l) (cwV 1 hts (mz_gV wm_496 wm_497 wm_498 wm_67 wm_499) rfl rfl rfl (by decide) ⟨by decide, by decide⟩) rfl hA rfl (mz_dg d_Fl_spreadOn 22 39 (.invokevirtual 58) 3 rfl)) ?_
  refine mz_All.cons (sd_if_eq hx hb (mz_dg d_Fl_spreadOn 23 42 (.ifCond .eq (18)) 3 rfl) (by decide)) ?_
  refine mz_All.cons (sd_aload_n hx hb (mz_dg d_Fl_spreadOn 24 45 (.aload_n 0) 1 rfl) rfl) ?_
  refine mz_All.cons (sd_aload_n hx hb (mz_dg d_Fl_spreadOn 25 46 (.aload_n 0) 1 rfl) rfl) ?_
  refine mz_All.cons (sd_get (k := 0) hx hb hts (mz_inC in_Fl) hown (T := T_Fl) (N := 4) rfl (by decide) (hts (.fieldLink "MazeForms$Flood" 9 "MazeForms$Flood" "grid" "LMazeForms$Grid;") (List.mem_cons_of_mem _ wm_178)) (fun _ h => h) (mz_dg d_Fl_spreadOn 26 47 (.getfield 9) 3 rfl)) ?_
  refine mz_All.cons (sd_iload hx hb (mz_dg d_Fl_spreadOn 27 50 (.iload 5) 2 rfl)) ?_
  refine mz_All.cons (sd_iload_n hx hb (mz_dg d_Fl_spreadOn 28 52 (.iload_n 1) 1 rfl) rfl) ?_
  refine mz_All.cons (sd_calli (T := T_Gr) ⟨hx, hb, hml, hown, hts⟩ (met_Gr_otherCell w h l) (cwV 2 hts (mz_gV wm_500 wm_376 wm_377 wm_67 wm_378) rfl rfl rfl (by decide) ⟨by decide, by decide⟩) rfl hA rfl (mz_dg d_Fl_spreadOn 29 53 (.invokevirtual 61) 3 rfl)) ?_
  refine mz_All.cons (sd_iload_n hx hb (mz_dg d_Fl_spreadOn 30 56 (.iload_n 3) 1 rfl) rfl) ?_
  refine mz_All.cons (sd_callv (T := T_Fl) ⟨hx, hb, hml, hown, hts⟩ (met_Fl_reach w h l) (cwV 2 hts (mz_gV wm_482 wm_484 wm_16 wm_71 wm_485) rfl rfl rfl (by decide) ⟨by decide, by decide⟩) rfl hA rfl (mz_dg d_Fl_spreadOn 31 57 (.invokevirtual 38) 3 rfl)) ?_
  refine mz_All.cons (sd_iinc hx hb (mz_dg d_Fl_spreadOn 32 60 (.iinc 4 (1)) 3 rfl) (by decide) (by decide)) ?_
  refine mz_All.cons (sd_goto hx hb (mz_dg d_Fl_spreadOn 33 63 (.goto (-52)) 3 rfl) (by decide)) ?_
  refine mz_All.cons (sd_rv hx hb hr hlk (mz_dg d_Fl_spreadOn 34 66 (.return_) 1 rfl)) ?_
  exact trivial
theorem met_Fl_spreadOn (w h : Nat) (l : Launch) : mz_MV l y_Fl_spreadOn w_Fl_spreadOn 2 44 mz_cls (C_Fl_spreadOn w h) := mz_MV_of (I_Fl_spreadOn w h) (by decide) rfl (len_Fl_spreadOn w h) (ok_Fl_spreadOn w h) (snd_Fl_spreadOn w h l)
set_option maxRecDepth 20000 in
theorem snd_Fl_spread (w h : Nat) (l : Launch) (p : Program) (e : Env) (s : State) (m : MethodId) (args : Array Value) (below : List Frame) (meth : Method) (c : Code) (D : va_G) (ad0 : Nat → Nat) (cA0 : Nat → ClassId) (A : Nat → Prop) (lay : List mz_E) (Q : mz_X → Prop) (F : mz_F p s m args meth c prog_4_method_2_code 4 y_Fl_spread.cls none w_Fl_spread) (hA : ∀ q, s.heap.size ≤ q → A q) : mz_All (mz_V p l e (mz_rm 3 69) s m args below meth c 4 lay.length (mz_sz lay) D mz_cls (mz_G0 ad0 cA0) A (MQ below (va_Qv Q (mz_B D mz_cls ad0 cA0 lay A) A) args s 0 0 A)) (mz_qv lay Q) (I_Fl_spread w h) := by
  obtain ⟨hx, hb, hml, hown, hts, hr, hlk⟩ := F
  unfold I_Fl_spread
  refine mz_All.cons (sd_aload_n hx hb (mz_dg d_Fl_spread 0 0 (.aload_n 0) 1 rfl) rfl) ?_
  refine mz_All.cons (sd_get (k := 1) hx hb hts (mz_inC in_Fl) hown (T := T_Fl) (N := 4) rfl (by decide) (hts (.fieldLink "MazeForms$Flood" 21 "MazeForms$Flood" "steps" "[I") (List.mem_cons_of_mem _ wm_179)) (fun _ h => h) (mz_dg d_Fl_spread 1 1 (.getfield 21) 3 rfl)) ?_
  refine mz_All.cons (sd_iconst hx hb (mz_dg d_Fl_spread 2 4 (.iconst (-1)) 1 rfl) (by decide)) ?_
  refine mz_All.cons (sd_scallv ⟨hx, hb, hml, hown, hts⟩ (met_Ja_fillI w h l) (va_cwS 2 hts (mz_gSo wm_481 wm_106 wm_69 wm_107) rfl rfl rfl (by decide) ⟨by decide, by decide⟩) hA rfl (mz_dg d_Fl_spread 3 5 (.invokestatic 28) 3 rfl)) ?_
  refine mz_All.cons (sd_aload_n hx hb (mz_dg d_Fl_spread 4 8 (.aload_n 0) 1 rfl) rfl) ?_
  refine mz_All.cons (sd_iconst hx hb (mz_dg d_Fl_spread 5 9 (.iconst (0)) 1 rfl) (by decide)) ?_
  refine mz_All.cons (sd_puti (k := 3) hx hb hts (mz_inC in_Fl) ty_Fl ty_Fl_ok nm_Fl hown (T := T_Fl) (N := 4) rfl (by decide) (hts (.fieldLink "MazeForms$Flood" 34 "MazeForms$Flood" "queued" "I") (List.mem_cons_of_mem _ wm_181)) (fun _ h => h) rfl rfl (mz_dg d_Fl_spread 6 10 (.putfield 34) 3 rfl)) ?_
  refine mz_All.cons (sd_aload_n hx hb (mz_dg d_Fl_spread 7 13 (.aload_n 0) 1 rfl) rfl) ?_
  refine mz_All.cons (sd_iload_n hx hb (mz_dg d_Fl_spread 8 14 (.iload_n 1) 1 rfl) rfl) ?_
  refine mz_All.cons (sd_iconst hx hb (mz_dg d_Fl_spread 9 15 (.iconst (0)) 1 rfl) (by decide)) ?_
  refine mz_All.cons (sd_callv (T := T_Fl) ⟨hx, hb, hml, hown, hts⟩ (met_Fl_reach w h l) (cwV 2 hts (mz_gV wm_482 wm_484 wm_16 wm_71 wm_485) rfl rfl rfl (by decide) ⟨by decide, by decide⟩) rfl hA rfl (mz_dg d_Fl_spread 10 16 (.invokevirtual 38) 3 rfl)) ?_
  refine mz_All.cons (sd_iconst hx hb (mz_dg d_Fl_spread 11 19 (.iconst (0)) 1 rfl) (by decide)) ?_
  refine mz_All.cons (sd_istore_n hx hb (mz_dg d_Fl_spread 12 20 (.istore_n 3) 1 rfl) rfl (by decide)) ?_
  refine mz_All.cons (sd_iload_n hx hb (mz_dg d_Fl_spread 13 21 (.iload_n 3) 1 rfl) rfl) ?_
  refine mz_All.cons (sd_aload_n hx hb (mz_dg d_Fl_spread 14 22 (.aload_n 0) 1 rfl) rfl) ?_
  refine mz_All.cons (sd_get (k := 3) hx hb hts (mz_inC in_Fl) hown (T := T_Fl) (N := 4) rfl (by decide) (hts (.fieldLink "MazeForms$Flood" 34 "MazeForms$Flood" "queued" "I") (List.mem_cons_of_mem _ wm_181)) (fun _ h => h) (mz_dg d_Fl_spread 15 23 (.getfield 34) 3 rfl)) ?_
  refine mz_All.cons (sd_icmp_ge hx hb (mz_dg d_Fl_spread 16 26 (.if_icmp .ge (29)) 3 rfl) (by decide)) ?_
  refine mz_All.cons (sd_iload_n hx hb (mz_dg d_Fl_spread 17 29 (.iload_n 3) 1 rfl) rfl) ?_
  refine mz_All.cons (sd_aload_n hx hb (mz_dg d_Fl_spread 18 30 (.aload_n 0) 1 rfl) rfl) ?_
  refine mz_All.cons (sd_get (k := 2) hx hb hts (mz_inC in_Fl) hown (T := T_Fl) (N := 4) rfl (by decide) (hts (.fieldLink "MazeForms$Flood" 25 "MazeForms$Flood" "queue" "[I") (List.mem_cons_of_mem _ wm_180)) (fun _ h => h) (mz_dg d_Fl_spread 19 31 (.getfield 25) 3 rfl)) ?_
  refine mz_All.cons (sd_alen hx hb (mz_dg d_Fl_spread 20 34 (.arraylength) 1 rfl)) ?_
  refine mz_All.cons (sd_icmp_ge hx hb (mz_dg d_Fl_spread 21 35 (.if_icmp .ge (20)) 3 rfl) (by decide)) ?_
  refine mz_All.cons (sd_aload_n hx hb (mz_dg d_Fl_spread 22 38 (.aload_n 0) 1 rfl) rfl) ?_
  refine mz_All.cons (sd_aload_n hx hb (mz_dg d_Fl_spread 23 39 (.aload_n 0) 1 rfl) rfl) ?_
  refine mz_All.cons (sd_get (k := 2) hx hb hts (mz_inC in_Fl) hown (T := T_Fl) (N := 4) rfl (by decide) (hts (.fieldLink "MazeForms$Flood" 25 "MazeForms$Flood" "queue" "[I") (List.mem_cons_of_mem _ wm_180)) (fun _ h => h) (mz_dg d_Fl_spread 24 40 (.getfield 25) 3 rfl)) ?_
  refine mz_All.cons (sd_iload_n hx hb (mz_dg d_Fl_spread 25 43 (.iload_n 3) 1 rfl) rfl) ?_
  refine mz_All.cons (sd_iald hx hb (mz_dg d_Fl_spread 26 44 (.iaload) 1 rfl)) ?_
  refine mz_All.cons (sd_iload_n hx hb (mz_dg d_Fl_spread 27 45 (.iload_n 2) 1 rfl) rfl) ?_
  refine mz_All.cons (sd_callv (T := T_Fl) ⟨hx, hb, hml, hown, hts⟩ (met_Fl_spreadOn w h l) (cwV 2 hts (mz_gV wm_487 wm_489 wm_17 wm_71 wm_490) rfl rfl rfl (by decide) ⟨by decide, by decide⟩) rfl hA rfl (mz_dg d_Fl_spread 28 46 (.invokevirtual 42) 3 rfl)) ?_
  refine mz_All.cons (sd_iinc hx hb (mz_dg d_Fl_spread 29 49 (.iinc 3 (1)) 3 rfl) (by decide) (by decide)) ?_
  refine mz_All.cons (sd_goto hx hb (mz_dg d_Fl_spread 30 52 (.goto (-31)) 3 rfl) (by decide)) ?_
  refine mz_All.cons (sd_rv hx hb hr hlk (mz_dg d_Fl_spread 31 55 (.return_) 1 rfl)) ?_
  exact trivial
theorem met_Fl_spread (w h : Nat) (l : Launch) : mz_MV l y_Fl_spread w_Fl_spread 3 69 mz_cls (C_Fl_spread w h) := mz_MV_of (I_Fl_spread w h) (by decide) rfl (len_Fl_spread w h) (ok_Fl_spread w h) (snd_Fl_spread w h l)
