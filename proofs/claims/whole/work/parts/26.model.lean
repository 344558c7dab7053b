def zo_ldB (w h D : Nat) (X : mz_X) (k s : Nat) : Bool := !decide (zo_da w h D X k s < 0) && !decide (X.1 27 (zo_da w h D X k s).toNatClampNeg = 0) && decide (X.1 34 (zo_acr X (zo_da w h D X k s).toNatClampNeg (nI k)).toNatClampNeg = X.1 34 k - 1)
def zo_g1 (X : mz_X) (D j : Nat) : Int64 := (nI (zo_oa X (X.1 33 j) D) - (if nI j = 0 then 1 else 2)).toInt64 * (nI j + 1).toInt64
def zo_g (X : mz_X) (D k : Nat) : Int64 := match k with
  | 0 => 0
  | j + 1 => zo_g X D j + zo_g1 X D j
def zo_addX (X : mz_X) (i : Nat) (v p : Int64) : mz_X := (X.1, mz_up X.2 35 i (X.2 35 i + v - (X.2 35 i + v) / p * p))
def C_Mo_get (w h : Nat) : mz_CL := fun lay as X Q => match as with
  | [.ref 23, .int r, .int c] => lay = mz_lay w h ∧ mz_geo w h ∧ ∃ i j : Nat, i < 144 ∧ j < 144 ∧ r = nI i ∧ c = nI j ∧ Q (X.2 35 (144 * i + j)) X
  | _ => False
def C_Mo_add (w h : Nat) : mz_CV := fun lay as X Q => match as with
  | [.ref 23, .int r, .int c, .long v, .long p] => lay = mz_lay w h ∧ mz_geo w h ∧ ∃ i j : Nat, i < 144 ∧ j < 144 ∧ r = nI i ∧ c = nI j ∧ ¬ p = 0 ∧ Q (zo_addX X (144 * i + j) v p)
  | _ => False
def C_Mo_leads (w h : Nat) : mz_CI := fun lay as X Q => match as with
  | [.ref 23, .int c, .int t] => lay = mz_lay w h ∧ mz_geo w h ∧ ∃ D k s : Nat, zo_ok w h D X ∧ k < w * h ∧ s < 4 ∧ c = nI k ∧ t = nI s ∧ Q (mz_b (zo_ldB w h D X k s)) X
  | _ => False
def C_Mo_grade (w h : Nat) : mz_CL := fun lay as X Q => match as with
  | [.ref 23] => lay = mz_lay w h ∧ mz_geo w h ∧ ∃ D : Nat, X.1 23 5 = nI D ∧ D ≤ 288 ∧ ((X.1 23 15 = -1 ∧ Q (-1) (zo_t X)) ∨ ∃ q : Nat, q ≤ 143 ∧ X.1 23 15 = nI q ∧ Q (zo_g (zo_t X) D q) (zo_t X))
  | _ => False
def y_Mo_get : MethodName := ⟨"MazeFormsModel", "get", "(II)J"⟩
abbrev w_Mo_get : List Cond := .code y_Mo_get prog_11_method_39_code 3 (some .long) :: mz_tb
def dl_Mo_get : List (Nat × ClassFile.Instr × Nat) := [(0, .aload_n 0, 1), (1, .getfield 48, 3), (4, .sipush (144), 3), (7, .iload_n 1, 1), (8, .imul, 1), (9, .iload_n 2, 1), (10, .iadd, 1), (11, .laload, 1), (12, .lreturn, 1)]
theorem d_Mo_get : mz_dec prog_11_method_39_code dl_Mo_get = true := by decide +kernel
def y_Mo_add : MethodName := ⟨"MazeFormsModel", "add", "(IIJJ)V"⟩
abbrev w_Mo_add : List Cond := .code y_Mo_add prog_11_method_40_code 7 none :: mz_tb
def dl_Mo_add : List (Nat × ClassFile.Instr × Nat) := [(0, .aload_n 0, 1), (1, .getfield 48, 3), (4, .sipush (144), 3), (7, .iload_n 1, 1), (8, .imul, 1), (9, .iload_n 2, 1), (10, .iadd, 1), (11, .aload_n 0, 1), (12, .getfield 48, 3), (15, .sipush (144), 3), (18, .iload_n 1, 1), (19, .imul, 1), (20, .iload_n 2, 1), (21, .iadd, 1), (22, .laload, 1), (23, .lload_n 3, 1), (24, .ladd, 1), (25, .lload 5, 2), (27, .lrem, 1), (28, .lastore, 1), (29, .return_, 1)]
theorem d_Mo_add : mz_dec prog_11_method_40_code dl_Mo_add = true := by decide +kernel
def y_Mo_leads : MethodName := ⟨"MazeFormsModel", "leads", "(II)Z"⟩
abbrev w_Mo_leads : List Cond := .code y_Mo_leads prog_11_method_29_code 4 (some .boolean) :: mz_tb
def dl_Mo_leads : List (Nat × ClassFile.Instr × Nat) := [(0, .aload_n 0, 1), (1, .iload_n 1, 1), (2, .iload_n 2, 1), (3, .invokevirtual 100, 3), (6, .istore_n 3, 1), (7, .iload_n 3, 1), (8, .ifCond .lt (38), 3), (11, .aload_n 0, 1), (12, .getfield 20, 3), (15, .iload_n 3, 1), (16, .baload, 1), (17, .ifCond .eq (29), 3), (20, .aload_n 0, 1), (21, .getfield 45, 3), (24, .aload_n 0, 1), (25, .iload_n 3, 1), (26, .iload_n 1, 1), (27, .invokevirtual 103, 3), (30, .iaload, 1), (31, .aload_n 0, 1), (32, .getfield 45, 3), (35, .iload_n 1, 1), (36, .iaload, 1), (37, .iconst (1), 1), (38, .isub, 1), (39, .if_icmp .ne (7), 3), (42, .iconst (1), 1), (43, .goto (4), 3), (46, .iconst (0), 1), (47, .ireturn, 1)]
theorem d_Mo_leads : mz_dec prog_11_method_29_code dl_Mo_leads = true := by decide +kernel
def y_Mo_grade : MethodName := ⟨"MazeFormsModel", "grade", "()J"⟩
abbrev w_Mo_grade : List Cond := .code y_Mo_grade prog_11_method_32_code 4 (some .long) :: mz_tb
def dl_Mo_grade : List (Nat × ClassFile.Instr × Nat) := [(0, .aload_n 0, 1), (1, .iconst (0), 1), (2, .putfield 65, 3), (5, .aload_n 0, 1), (6, .getfield 38, 3), (9, .ifCond .ge (7), 3), (12, .ldc2_w 143, 3), (15, .lreturn, 1), (16, .lconst 0, 1), (17, .lstore_n 1, 1), (18, .iconst (0), 1), (19, .istore_n 3, 1), (20, .iload_n 3, 1), (21, .aload_n 0, 1), (22, .getfield 38, 3), (25, .if_icmp .ge (38), 3), (28, .lload_n 1, 1), (29, .aload_n 0, 1), (30, .aload_n 0, 1), (31, .getfield 42, 3), (34, .iload_n 3, 1), (35, .iaload, 1), (36, .invokevirtual 145, 3), (39, .iload_n 3, 1), (40, .ifCond .ne (7), 3), (43, .iconst (1), 1), (44, .goto (4), 3), (47, .iconst (2), 1), (48, .isub, 1), (49, .i2l, 1), (50, .iload_n 3, 1), (51, .iconst (1), 1), (52, .iadd, 1), (53, .i2l, 1), (54, .lmul, 1), (55, .ladd, 1), (56, .lstore_n 1, 1), (57, .iinc 3 (1), 3), (60, .goto (-40), 3), (63, .lload_n 1, 1), (64, .lreturn, 1)]
theorem d_Mo_grade : mz_dec prog_11_method_32_code dl_Mo_grade = true := by decide +kernel
def I_Mo_get (w h : Nat) : List (Nat × mz_Op) := [(0, mz_lda 0 1), (1, mz_gf 9 18 4), (4, mz_push (.int (144)) 7), (7, mz_ldi 1 8), (8, mz_bi (fun x y => x * y) 9), (9, mz_ldi 2 10), (10, mz_bi (fun x y => x + y) 11), (11, mz_lald 12), (12, mz_rl)]
def I_Mo_add (w h : Nat) : List (Nat × mz_Op) := [(0, mz_lda 0 1), (1, mz_gf 9 18 4), (4, mz_push (.int (144)) 7), (7, mz_ldi 1 8), (8, mz_bi (fun x y => x * y) 9), (9, mz_ldi 2 10), (10, mz_bi (fun x y => x + y) 11), (11, mz_lda 0 12), (12, mz_gf 9 18 15), (15, mz_push (.int (144)) 18), (18, mz_ldi 1 19), (19, mz_bi (fun x y => x * y) 20), (20, mz_ldi 2 21), (21, mz_bi (fun x y => x + y) 22), (22, mz_lald 23), (23, mz_ldl 3 24), (24, mz_bl (fun x y => x + y) 25), (25, mz_ldl 5 27), (27, mz_bld (fun x y => x - x / y * y) 28), (28, mz_last 29), (29, mz_rv)]
def I_Mo_leads (w h : Nat) : List (Nat × mz_Op) := [(0, mz_lda 0 1), (1, mz_ldi 1 2), (2, mz_ldi 2 3), (3, mz_ci 3 9 (C_Mo_doorAt w h) 6), (6, mz_sti 3 7), (7, mz_ldi 3 8), (8, mz_if (fun x => x < 0) 46 11), (11, mz_lda 0 12), (12, mz_gf 9 8 15), (15, mz_ldi 3 16), (16, mz_iald 1 17), (17, mz_if (fun x => x = 0) 46 20), (20, mz_lda 0 21), (21, mz_gf 9 17 24), (24, mz_lda 0 25), (25, mz_ldi 3 26), (26, mz_ldi 1 27), (27, mz_ci 3 9 (C_Mo_across w h) 30), (30, mz_iald 0 31), (31, mz_lda 0 32), (32, mz_gf 9 17 35), (35, mz_ldi 1 36), (36, mz_iald 0 37), (37, mz_push (.int (1)) 38), (38, mz_bi (fun x y => x - y) 39), (39, mz_ic (fun x y => x = y) 42 46), (42, mz_push (.int (1)) 43), (43, mz_go 47), (46, mz_push (.int (0)) 47), (47, mz_rz)]
def I_Mo_grade (w h : Nat) : List (Nat × mz_Op) := [(0, mz_lda 0 1), (1, mz_push (.int (0)) 2), (2, mz_pfi 9 0 5), (5, mz_lda 0 6), (6, mz_gf 9 15 9), (9, mz_if (fun x => 0 ≤ x) 16 12), (12, mz_push (.long (-1)) 15), (15, mz_rl), (16, mz_push (.long 0) 17), (17, mz_stl 1 18), (18, mz_push (.int (0)) 19), (19, mz_sti 3 20), (20, mz_ldi 3 21), (21, mz_lda 0 22), (22, mz_gf 9 15 25), (25, mz_ic (fun x y => y ≤ x) 63 28), (28, mz_ldl 1 29), (29, mz_lda 0 30), (30, mz_lda 0 31), (31, mz_gf 9 16 34), (34, mz_ldi 3 35), (35, mz_iald 0 36), (36, mz_ci 2 9 (C_Mo_openAt w h) 39), (39, mz_ldi 3 40), (40, mz_if (fun x => x = 0) 43 47), (43, mz_push (.int (1)) 44), (44, mz_go 48), (47, mz_push (.int (2)) 48), (48, mz_bi (fun x y => x - y) 49), (49, mz_i2l 50), (50, mz_ldi 3 51), (51, mz_push (.int (1)) 52), (52, mz_bi (fun x y => x + y) 53), (53, mz_i2l 54), (54, mz_bl (fun x y => x * y) 55), (55, mz_bl (fun x y => x + y) 56), (56, mz_stl 1 57), (57, mz_inc 3 (1) 60), (60, mz_go 20), (63, mz_ldl 1 64), (64, mz_rl)]
theorem zo_acr_in {w h D i : Nat} {X : mz_X} (g : mz_geo w h) (hX : zo_ok w h D X) (hi : i < D) (c : Int32) : vp_in (zo_acr X i c) (w * h) := by
  have hn := mz_geo_n g
  obtain ⟨a, b, ha, hb, ea, eb⟩ := hX.2.2.2 i hi
  unfold zo_acr
  split
  · rw [eb]
    exact vp_in_nI hb (by omega)
  · rw [ea]
    exact vp_in_nI ha (by omega)
theorem zo_sq {i j : Nat} (hi : i < 144) (hj : j < 144) : vp_in (144 * nI i + nI j) 20736 ∧ (144 * nI i + nI j).toNatClampNeg = 144 * i + j := by
  rw [show (144 : Int32) = nI 144 from rfl, pk_mul, nI_add]
  exact ⟨vp_in_nI (by omega) (by omega), nI_clamp (by omega)⟩
theorem len_Mo_get (w h : Nat) (lay : List mz_E) (as : List Value) (X : mz_X) (Q : Int64 → mz_X → Prop) (hC : C_Mo_get w h lay as X Q) : (mz_l0 as).length ≤ 3 := by
  unfold C_Mo_get at hC
  split at hC
  · exact Nat.le_of_ble_eq_true rfl
  · exact hC.elim
theorem ok_Mo_get (w h : Nat) (lay : List mz_E) (as : List Value) (X : mz_X) (Q : Int64 → mz_X → Prop) (hC : C_Mo_get w h lay as X Q) (K : mz_K) (hK : mz_Cl (I_Mo_get w h) (mz_ql lay Q) K) : K 0 (mz_ent 3 as) [] (lay, X) := by
  unfold C_Mo_get at hC
  split at hC
  · next r c =>
    obtain ⟨rfl, g, i, j, hi, hj, rfl, rfl, hq⟩ := hC
    have hs := zo_sq hi hj
    rw [← hs.2] at hq
    iterate 7 refine hK _ _ _ _ ?_
    refine hK _ _ _ _ (And.intro (hs.1) ?_)
    exact hK _ _ _ _ (And.intro rfl (hq))
  · exact hC.elim
theorem len_Mo_add (w h : Nat) (lay : List mz_E) (as : List Value) (X : mz_X) (Q : mz_X → Prop) (hC : C_Mo_add w h lay as X Q) : (mz_l0 as).length ≤ 7 := by
  unfold C_Mo_add at hC
  split at hC
  · exact Nat.le_of_ble_eq_true rfl
  · exact hC.elim
theorem ok_Mo_add (w h : Nat) (lay : List mz_E) (as : List Value) (X : mz_X) (Q : mz_X → Prop) (hC : C_Mo_add w h lay as X Q) (K : mz_K) (hK : mz_Cl (I_Mo_add w h) (mz_qv lay Q) K) : K 0 (mz_ent 7 as) [] (lay, X) := by
  unfold C_Mo_add at hC
  split at hC
  · next r c v p =>
    obtain ⟨rfl, g, i, j, hi, hj, rfl, rfl, hp, hq⟩ := hC
    have hs := zo_sq hi hj
    rw [← hs.2] at hq
    iterate 14 refine hK _ _ _ _ ?_
    refine hK _ _ _ _ (And.intro (hs.1) ?_)
    iterate 3 refine hK _ _ _ _ ?_
    refine hK _ _ _ _ (And.intro (hp) ?_)
    refine hK _ _ _ _ (And.intro (hs.1) ?_)
    exact hK _ _ _ _ (And.intro rfl (hq))
  · exact hC.elim
theorem len_Mo_leads (w h : Nat) (lay : List mz_E) (as : List Value) (X : mz_X) (Q : Int32 → mz_X → Prop) (hC : C_Mo_leads w h lay as X Q) : (mz_l0 as).length ≤ 4 := by
  unfold C_Mo_leads at hC
  split at hC
  · exact Nat.le_of_ble_eq_true rfl
  · exact hC.elim
theorem ok_Mo_leads (w h : Nat) (lay : List mz_E) (as : List Value) (X : mz_X) (Q : Int32 → mz_X → Prop) (hC : C_Mo_leads w h lay as X Q) (K : mz_K) (hK : mz_Cl (I_Mo_leads w h) (mz_qi lay Q) K) : K 0 (mz_ent 4 as) [] (lay, X) := by
  unfold C_Mo_leads at hC
  split at hC
  · next c t =>
    obtain ⟨rfl, g, D, k, s, hX, hk, hs, rfl, rfl, hq⟩ := hC
    have hn := mz_geo_n g
    have hdb := zo_da_b (w := w) (h := h) (X := X) (k := k) (s := s) hX.2.2.1
    have hD288 := hX.2.2.1
    have h46 : zo_ldB w h D X k s = false → K 46 [some (.ref 23), some (.int (nI k)), some (.int (nI s)), some (.int (zo_da w h D X k s))] [] (mz_lay w h, X) := by
      intro e
      rw [e] at hq
      refine hK _ _ _ _ ?_
      exact hK _ _ _ _ (And.intro (Or.inl rfl) (And.intro rfl (hq)))
    iterate 3 refine hK _ _ _ _ ?_
    refine hK _ _ _ _ (And.intro (rfl) (And.intro (g) (Exists.intro (D) (Exists.intro (k) (Exists.intro (s) (And.intro (hX.1) (And.intro (hX.2.1) (And.intro (hX.2.2.1) (And.intro (hk) (And.intro (hs) (And.intro (rfl) (And.intro (rfl) ?_))))))))))))
    iterate 2 refine hK _ _ _ _ ?_
    refine hK _ _ _ _ (And.intro (fun c1 => ?_) (fun c1 => ?_))
    · exact h46 (by simp only [zo_ldB]; rw [show decide (zo_da w h D X k s < 0) = true from decide_eq_true c1]; rfl)
    · dsimp only at c1
      rcases hdb with q | ⟨d, hd, q⟩
      · rw [q] at c1
        exact absurd (by decide) c1
      · have hin : vp_in (zo_da w h D X k s) 288 := by
          rw [q]
          exact vp_in_nI (by omega) (by omega)
        iterate 3 refine hK _ _ _ _ ?_
        refine hK _ _ _ _ (And.intro (hin) ?_)
        refine hK _ _ _ _ (And.intro (fun c2 => ?_) (fun c2 => ?_))
        · dsimp only at c2
          exact h46 (by simp only [zo_ldB]; rw [show decide (X.1 27 (zo_da w h D X k s).toNatClampNeg = 0) = true from decide_eq_true c2]; simp)
        · dsimp only at c2
          have eqd : (zo_da w h D X k s).toNatClampNeg = d := by rw [q]; exact nI_clamp (by omega)
          have ldB : zo_ldB w h D X k s = decide (X.1 34 (zo_acr X d (nI k)).toNatClampNeg = X.1 34 k - 1) := by
            simp only [zo_ldB]
            rw [show decide (zo_da w h D X k s < 0) = false from decide_eq_false c1, show decide (X.1 27 (zo_da w h D X k s).toNatClampNeg = 0) = false from decide_eq_false c2, eqd]
            rfl
          iterate 5 refine hK _ _ _ _ ?_
          refine hK _ _ _ _ (And.intro (rfl) (And.intro (g) (Exists.intro (d) (And.intro (by omega) (And.intro (q) ?_)))))
          refine hK _ _ _ _ (And.intro (mz_in_mono (zo_acr_in g hX hd (nI k)) hn) ?_)
          iterate 3 refine hK _ _ _ _ ?_
          refine hK _ _ _ _ (And.intro (vp_in_nI (by omega) (by omega)) ?_)
          iterate 2 refine hK _ _ _ _ ?_
          refine hK _ _ _ _ (And.intro (fun c3 => ?_) (fun c3 => ?_))
          · dsimp only at c3
            rw [nI_clamp (by omega)] at c3
            rw [ldB, show decide (X.1 34 (zo_acr X d (nI k)).toNatClampNeg = X.1 34 k - 1) = true from decide_eq_true c3] at hq
            iterate 2 refine hK _ _ _ _ ?_
            exact hK _ _ _ _ (And.intro (Or.inr rfl) (And.intro rfl (hq)))
          · dsimp only at c3
            rw [nI_clamp (by omega)] at c3
            exact h46 (by rw [ldB]; exact decide_eq_false c3)
  · exact hC.elim
theorem len_Mo_grade (w h : Nat) (lay : List mz_E) (as : List Value) (X : mz_X) (Q : Int64 → mz_X → Prop) (hC : C_Mo_grade w h lay as X Q) : (mz_l0 as).length ≤ 4 := by
  unfold C_Mo_grade at hC
  split at hC
  · exact Nat.le_of_ble_eq_true rfl
  · exact hC.elim
theorem ok_Mo_grade (w h : Nat) (lay : List mz_E) (as : List Value) (X : mz_X) (Q : Int64 → mz_X → Prop) (hC : C_Mo_grade w h lay as X Q) (K : mz_K) (hK : mz_Cl (I_Mo_grade w h) (mz_ql lay Q) K) : K 0 (mz_ent 4 as) [] (lay, X) := by
  unfold C_Mo_grade at hC
  split at hC
  ·
    obtain ⟨rfl, g, D, hD, hD2, hq⟩ := hC
    iterate 3 refine hK _ _ _ _ ?_
    show K 5 (mz_ent 4 [.ref 23]) [] (mz_lay w h, zo_t X)
    have hD1 : (zo_t X).1 23 5 = nI D := hD
    have hl : (zo_t X).1 23 15 = X.1 23 15 := rfl
    rw [← hl] at hq
    generalize zo_t X = Y at hq hD1 ⊢
    iterate 2 refine hK _ _ _ _ ?_
    refine hK _ _ _ _ (And.intro (fun c1 => ?_) (fun c1 => ?_))
    · dsimp only at c1
      rcases hq with ⟨hm, hq⟩ | ⟨q, hq1, hq2, hq⟩
      · rw [hm] at c1
        exact absurd c1 (by decide)
      · have loop : ∀ (k i : Nat), i + k = q → K 20 [some (.ref 23), some (.long (zo_g Y D i)), none, some (.int (nI i))] [] (mz_lay w h, Y) := by
          intro k
          induction k with
          | zero =>
            intro i hi
            iterate 3 refine hK _ _ _ _ ?_
            refine hK _ _ _ _ (And.intro (fun c2 => ?_) (fun c2 => ?_))
            · refine hK _ _ _ _ ?_
              exact hK _ _ _ _ (And.intro rfl (by rw [show i = q by omega]; exact hq))
            · dsimp only at c2
              rw [hq2] at c2
              exact absurd (nI_le (a := q) (b := i) (by omega) (by omega)) c2
          | succ k ih =>
            intro i hi
            have hcl : (nI i).toNatClampNeg = i := nI_clamp (by omega)
            have ih1 := ih (i + 1) (by omega)
            rw [← nI_1, show zo_g Y D (i + 1) = zo_g Y D i + zo_g1 Y D i from rfl, zo_g1] at ih1
            have h48 : ∀ v : Int32, v = (if nI i = 0 then 1 else 2) → K 48 [some (.ref 23), some (.long (zo_g Y D i)), none, some (.int (nI i))] [.int v, .int (nI (zo_oa Y (Y.1 33 i) D)), .long (zo_g Y D i)] (mz_lay w h, Y) := by
              intro v hv
              rw [← hv] at ih1
              iterate 11 refine hK _ _ _ _ ?_
              exact ih1
            iterate 3 refine hK _ _ _ _ ?_
            refine hK _ _ _ _ (And.intro (fun c2 => ?_) (fun c2 => ?_))
            · dsimp only at c2
              rw [hq2] at c2
              exact absurd c2 (nI_ge (by omega) (by omega))
            · iterate 5 refine hK _ _ _ _ ?_
              refine hK _ _ _ _ (And.intro (vp_in_nI (by omega) (by omega)) ?_)
              rw [hcl]
              refine hK _ _ _ _ (And.intro (rfl) (And.intro (g) (Exists.intro (D) (And.intro (hD1) (And.intro (hD2) ?_)))))
              refine hK _ _ _ _ ?_
              refine hK _ _ _ _ (And.intro (fun c3 => ?_) (fun c3 => ?_))
              · iterate 2 refine hK _ _ _ _ ?_
                exact h48 1 (by rw [if_pos c3])
              · refine hK _ _ _ _ ?_
                exact h48 2 (by rw [if_neg c3])
        iterate 4 refine hK _ _ _ _ ?_
        exact loop q 0 (by omega)
    · dsimp only at c1
      rcases hq with ⟨hm, hq⟩ | ⟨q, hq1, hq2, hq⟩
      · refine hK _ _ _ _ ?_
        exact hK _ _ _ _ (And.intro rfl (hq))
      · rw [hq2] at c1
        exact absurd (nI_pos' (by omega)) c1
  · exact hC.elim
set_option maxRecDepth 20000 in
theorem snd_Mo_get (w h : Nat) (l : Launch) (p : Program) (e : Env) (s : State) (m : MethodId) (args : Array Value) (below : List Frame) (meth : Method) (c : Code) (D : va_G) (ad0 : Nat → Nat) (cA0 : Nat → ClassId) (A : Nat → Prop) (lay : List mz_E) (Q : Int64 → mz_X → Prop) (F : mz_F p s m args meth c prog_11_method_39_code 3 y_Mo_get.cls (some .long) w_Mo_get) (hA : ∀ q, s.heap.size ≤ q → A q) : mz_All (mz_V p l e (mz_rm 0 0) s m args below meth c 3 lay.length (mz_sz lay) D mz_cls (mz_G0 ad0 cA0) A (MQ below (va_Ql Q (mz_B D mz_cls ad0 cA0 lay A) A) args s 0 0 A)) (mz_ql lay Q) (I_Mo_get w h) := by
  obtain ⟨hx, hb, hml, hown, hts, hr, hlk⟩ := F
  unfold I_Mo_get
  refine mz_All.cons (sd_aload_n hx hb (mz_dg d_Mo_get 0 0 (.aload_n 0) 1 rfl) rfl) ?_
  refine mz_All.cons (sd_get (k := 18) hx hb hts (mz_inC in_Mo) hown (T := T_Mo) (N := 19) rfl (by decide) (hts (.fieldLink "MazeFormsModel" 48 "MazeFormsModel" "square" "[J") (List.mem_cons_of_mem _ wm_746)) (fun _ h => h) (mz_dg d_Mo_get 1 1 (.getfield 48) 3 rfl)) ?_
  refine mz_All.cons (sd_sipush hx hb (mz_dg d_Mo_get 2 4 (.sipush (144)) 3 rfl) (by decide)) ?_
  refine mz_All.cons (sd_iload_n hx hb (mz_dg d_Mo_get 3 7 (.iload_n 1) 1 rfl) rfl) ?_
  refine mz_All.cons (sd_imul hx hb (mz_dg d_Mo_get 4 8 (.imul) 1 rfl)) ?_
  refine mz_All.cons (sd_iload_n hx hb (mz_dg d_Mo_get 5 9 (.iload_n 2) 1 rfl) rfl) ?_
  refine mz_All.cons (sd_iadd hx hb (mz_dg d_Mo_get 6 10 (.iadd) 1 rfl)) ?_
  refine mz_All.cons (sd_lald hx hb (mz_dg d_Mo_get 7 11 (.laload) 1 rfl)) ?_
  refine mz_All.cons (sd_rl hx hb hr hlk (mz_dg d_Mo_get 8 12 (.lreturn) 1 rfl)) ?_
  exact trivial
theorem met_Mo_get (w h : Nat) (l : Launch) : mz_ML l y_Mo_get w_Mo_get 0 0 mz_cls (C_Mo_get w h) := mz_ML_of (I_Mo_get w h) (by decide) rfl (len_Mo_get w h) (ok_Mo_get w h) (snd_Mo_get w h l)
set_option maxRecDepth 20000 in
theorem snd_Mo_add (w h : Nat) (l : Launch) (p : Program) (e : Env) (s : State) (m : MethodId) (args : Array Value) (below : List Frame) (meth : Method) (c : Code) (D : va_G) (ad0 : Nat → Nat) (cA0 : Nat → ClassId) (A : Nat → Prop) (lay : List mz_E) (Q : mz_X → Prop) (F : mz_F p s m args meth c prog_11_method_40_code 7 y_Mo_add.cls none w_Mo_add) (hA : ∀ q, s.heap.size ≤ q → A q) : mz_All (mz_V p l e (mz_rm 0 0) s m args below meth c 7 lay.length (mz_sz lay) D mz_cls (mz_G0 ad0 cA0) A (MQ below (va_Qv Q (mz_B D mz_cls ad0 cA0 lay A) A) args s 0 0 A)) (mz_qv lay Q) (I_Mo_add w h) := by
  obtain ⟨hx, hb, hml, hown, hts, hr, hlk⟩ := F
  unfold I_Mo_add
  refine mz_All.cons (sd_aload_n hx hb (mz_dg d_Mo_add 0 0 (.aload_n 0) 1 rfl) rfl) ?_
  refine mz_All.cons (sd_get (k := 18) hx hb hts (mz_inC in_Mo) hown (T := T_Mo) (N := 19) rfl (by decide) (hts (.fieldLink "MazeFormsModel" 48 "MazeFormsModel" "square" "[J") (List.mem_cons_of_mem _ wm_746)) (fun _ h => h) (mz_dg d_Mo_add 1 1 (.getfield 48) 3 rfl)) ?_
  refine mz_All.cons (sd_sipush hx hb (mz_dg d_Mo_add 2 4 (.sipush (144)) 3 rfl) (by decide)) ?_
  refine mz_All.cons (sd_iload_n hx hb (mz_dg d_Mo_add 3 7 (.iload_n 1) 1 rfl) rfl) ?_
  refine mz_All.cons (sd_imul hx hb (mz_dg d_Mo_add 4 8 (.imul) 1 rfl)) ?_
  refine mz_All.cons (sd_iload_n hx hb (mz_dg d_Mo_add 5 9 (.iload_n 2) 1 rfl) rfl) ?_
  refine mz_All.cons (sd_iadd hx hb (mz_dg d_Mo_add 6 10 (.iadd) 1 rfl)) ?_
  refine mz_All.cons (sd_aload_n hx hb (mz_dg d_Mo_add 7 11 (.aload_n 0) 1 rfl) rfl) ?_
  refine mz_All.cons (sd_get (k := 18) hx hb hts (mz_inC in_Mo) hown (T := T_Mo) (N := 19) rfl (by decide) (hts (.fieldLink "MazeFormsModel" 48 "MazeFormsModel" "square" "[J") (List.mem_cons_of_mem _ wm_746)) (fun _ h => h) (mz_dg d_Mo_add 8 12 (.getfield 48) 3 rfl)) ?_
  refine mz_All.cons (sd_sipush hx hb (mz_dg d_Mo_add 9 15 (.sipush (144)) 3 rfl) (by decide)) ?_
  refine mz_All.cons (sd_iload_n hx hb (mz_dg d_Mo_add 10 18 (.iload_n 1) 1 rfl) rfl) ?_
  refine mz_All.cons (sd_imul hx hb (mz_dg d_Mo_add 11 19 (.imul) 1 rfl)) ?_
  refine mz_All.cons (sd_iload_n hx hb (mz_dg d_Mo_add 12 20 (.iload_n 2) 1 rfl) rfl) ?_
  refine mz_All.cons (sd_iadd hx hb (mz_dg d_Mo_add 13 21 (.iadd) 1 rfl)) ?_
  refine mz_All.cons (sd_lald hx hb (mz_dg d_Mo_add 14 22 (.laload) 1 rfl)) ?_
  refine mz_All.cons (sd_lload_n hx hb (mz_dg d_Mo_add 15 23 (.lload_n 3) 1 rfl) rfl) ?_
  refine mz_All.cons (sd_ladd hx hb (mz_dg d_Mo_add 16 24 (.ladd) 1 rfl)) ?_
  refine mz_All.cons (sd_lload hx hb (mz_dg d_Mo_add 17 25 (.lload 5) 2 rfl)) ?_
  refine mz_All.cons (sd_lrem hx hb (mz_dg d_Mo_add 18 27 (.lrem) 1 rfl)) ?_
  refine mz_All.cons (sd_last hx hb (mz_dg d_Mo_add 19 28 (.lastore) 1 rfl)) ?_
  refine mz_All.cons (sd_rv hx hb hr hlk (mz_dg d_Mo_add 20 29 (.return_) 1 rfl)) ?_
  exact trivial
theorem met_Mo_add (w h : Nat) (l : Launch) : mz_MV l y_Mo_add w_Mo_add 0 0 mz_cls (C_Mo_add w h) := mz_MV_of (I_Mo_add w h) (by decide) rfl (len_Mo_add w h) (ok_Mo_add w h) (snd_Mo_add w h l)
set_option maxRecDepth 20000 in
theorem snd_Mo_leads (w h : Nat) (l : Launch) (p : Program) (e : Env) (s : State) (m : MethodId) (args : Array Value) (below : List Frame) (meth : Method) (c : Code) (D : va_G) (ad0 : Nat → Nat) (cA0 : Nat → ClassId) (A : Nat → Prop) (lay : List mz_E) (Q : Int32 → mz_X → Prop) (F : mz_F p s m args meth c prog_11_method_29_code 4 y_Mo_leads.cls (some .boolean) w_Mo_leads) (hA : ∀ q, s.heap.size ≤ q → A q) : mz_All (mz_V p l e (mz_rm 3 65) s m args below meth c 4 lay.length (mz_sz lay) D mz_cls (mz_G0 ad0 cA0) A (MQ below (va_Qi Q (mz_B D mz_cls ad0 cA0 lay A) A) args s 0 0 A)) (mz_qi lay Q) (I_Mo_leads w h) := by
  obtain ⟨hx, hb, hml, hown, hts, hr, hlk⟩ := F
  unfold I_Mo_leads
  refine mz_All.cons (sd_aload_n hx hb (mz_dg d_Mo_leads 0 0 (.aload_n 0) 1 rfl) rfl) ?_
  refine mz_All.cons (sd_iload_n hx hb (mz_dg d_Mo_leads 1 1 (.iload_n 1) 1 rfl) rfl) ?_
  refine mz_All.cons (sd_iload_n hx hb (mz_dg d_Mo_leads 2 2 (.iload_n 2) 1 rfl) rfl) ?_
  refine mz_All.cons (sd_calli (T := T_Mo) ⟨hx, hb, hml, hown, hts⟩ (met_Mo_doorAt w h l) (cwV 2 hts (mz_gV wm_806 wm_808 wm_45 wm_77 wm_809) rfl rfl rfl (by decide) ⟨by decide, by decide⟩) rfl hA rfl (mz_dg d_Mo_leads 3 3 (.invokevirtual 100) 3 rfl)) ?_
  refine mz_All.cons (sd_istore_n hx hb (mz_dg d_Mo_leads 4 6 (.istore_n 3) 1 rfl) rfl (by decide)) ?_
  refine mz_All.cons (sd_iload_n hx hb (mz_dg d_Mo_leads 5 7 (.iload_n 3) 1 rfl) rfl) ?_
  refine mz_All.cons (sd_if_lt hx hb (mz_dg d_Mo_leads 6 8 (.ifCond .lt (38)) 3 rfl) (by decide)) ?_
  refine mz_All.cons (sd_aload_n hx hb (mz_dg d_Mo_leads 7 11 (.aload_n 0) 1 rfl) rfl) ?_
  refine mz_All.cons (sd_get (k := 8) hx hb hts (mz_inC in_Mo) hown (T := T_Mo) (N := 19) rfl (by decide) (hts (.fieldLink "MazeFormsModel" 20 "MazeFormsModel" "isOpen" "[Z") (List.mem_cons_of_mem _ wm_736)) (fun _ h => h) (mz_dg d_Mo_leads 8 12 (.getfield 20) 3 rfl)) ?_
  refine mz_All.cons (sd_iload_n hx hb (mz_dg d_Mo_leads 9 15 (.iload_n 3) 1 rfl) rfl) ?_
  refine mz_All.cons (sd_zald hx hb (mz_dg d_Mo_leads 10 16 (.baload) 1 rfl)) ?_
  refine mz_All.cons (sd_if_eq hx hb (mz_dg d_Mo_leads 11 17 (.ifCond .eq (29)) 3 rfl) (by decide)) ?_
  refine mz_All.cons (sd_aload_n hx hb (mz_dg d_Mo_leads 12 20 (.aload_n 0) 1 rfl) rfl) ?_
  refine mz_All.cons (sd_get (k := 17) hx hb hts (mz_inC in_Mo) hown (T := T_Mo) (N := 19) rfl (by decide) (hts (.fieldLink "MazeFormsModel" 45 "MazeFormsModel" "far" "[I") (List.mem_cons_of_mem _ wm_745)) (fun _ h => h) (mz_dg d_Mo_leads 13 21 (.getfield 45) 3 rfl)) ?_
  refine mz_All.cons (sd_aload_n hx hb (mz_dg d_Mo_leads 14 24 (.aload_n 0) 1 rfl) rfl) ?_
  refine mz_All.cons (sd_iload_n hx hb (mz_dg d_Mo_leads 15 25 (.iload_n 3) 1 rfl) rfl) ?_
  refine mz_All.cons (sd_iload_n hx hb (mz_dg d_Mo_leads 16 26 (.iload_n 1) 1 rfl) rfl) ?_
  refine mz_All.cons (sd_calli (T := T_Mo) ⟨hx, hb, hml, hown, hts⟩ (met_Mo_across w h l) (cwV 2 hts (mz_gV wm_822 wm_824 wm_49 wm_77 wm_825) rfl rfl rfl (by decide) ⟨by decide, by decide⟩) rfl hA rfl (mz_dg d_Mo_leads 17 27 (.invokevirtual 103) 3 rfl)) ?_
  refine mz_All.cons (sd_iald hx hb (mz_dg d_Mo_leads 18 30 (.iaload) 1 rfl)) ?_
  refine mz_All.cons (sd_aload_n hx hb (mz_dg d_Mo_leads 19 31 (.aload_n 0) 1 rfl) rfl) ?_
  refine mz_All.cons (sd_get (k := 17) hx hb hts (mz_inC in_Mo) hown (T := T_Mo) (N := 19) rfl (by decide) (hts (.fieldLink "MazeFormsModel" 45 "MazeFormsModel" "far" "[I") (List.mem_cons_of_mem _ wm_745)) (fun _ h => h) (mz_dg d_Mo_leads 20 32 (.getfield 45) 3 rfl)) ?_
  refine mz_All.cons (sd_iload_n hx hb (mz_dg d_Mo_leads 21 35 (.iload_n 1) 1 rfl) rfl) ?_
  refine mz_All.cons (sd_iald hx hb (mz_dg d_Mo_leads 22 36 (.iaload) 1 rfl)) ?_
  refine mz_All.cons (sd_iconst hx hb (mz_dg d_Mo_leads 23 37 (.iconst (1)) 1 rfl) (by decide)) ?_
  refine mz_All.cons (sd_isub hx hb (mz_dg d_Mo_leads 24 38 (.isub) 1 rfl)) ?_
  refine mz_All.cons (sd_icmp_ne hx hb (mz_dg d_Mo_leads 25 39 (.if_icmp .ne (7)) 3 rfl) (by decide)) ?_
  refine mz_All.cons (sd_iconst hx hb (mz_dg d_Mo_leads 26 42 (.iconst (1)) 1 rfl) (by decide)) ?_
  refine mz_All.cons (sd_goto hx hb (mz_dg d_Mo_leads 27 43 (.goto (4)) 3 rfl) (by decide)) ?_
  refine mz_All.cons (sd_iconst hx hb (mz_dg d_Mo_leads 28 46 (.iconst (0)) 1 rfl) (by decide)) ?_
  refine mz_All.cons (sd_rz hx hb hr hlk (mz_dg d_Mo_leads 29 47 (.ireturn) 1 rfl)) ?_
  exact trivial
theorem met_Mo_leads (w h : Nat) (l : Launch) : mz_MI l y_Mo_leads w_Mo_leads 3 65 mz_cls (C_Mo_leads w h) := mz_MI_of (I_Mo_leads w h) (by decide) rfl (len_Mo_leads w h) (ok_Mo_leads w h) (snd_Mo_leads w h l)
set_option maxRecDepth 20000 in
theorem snd_Mo_grade (w h : Nat) (l : Launch) (p : Program) (e : Env) (s : State) (m : MethodId) (args : Array Value) (below : List Frame) (meth : Method) (c : Code) (D : va_G) (ad0 : Nat → Nat) (cA0 : Nat → ClassId) (A : Nat → Prop) (lay : List mz_E) (Q : Int64 → mz_X → Prop) (F : mz_F p s m args meth c prog_11_method_32_code 4 y_Mo_grade.cls (some .long) w_Mo_grade) (hA : ∀ q, s.heap.size ≤ q → A q) : mz_All (mz_V p l e (mz_rm 1 23) s m args below meth c 4 lay.length (mz_sz lay) D mz_cls (mz_G0 ad0 cA0) A (MQ below (va_Ql Q (mz_B D mz_cls ad0 cA0 lay A) A) args s 0 0 A)) (mz_ql lay Q) (I_Mo_grade w h) := by
  obtain ⟨hx, hb, hml, hown, hts, hr, hlk⟩ := F
  unfold I_Mo_grade
  refine mz_All.cons (sd_aload_n hx hb (mz_dg d_Mo_grade 0 0 (.aload_n 0) 1 rfl) rfl) ?_
  refine mz_All.cons (sd_iconst hx hb (mz_dg d_Mo_grade 1 1 (.iconst (0)) 1 rfl) (by decide)) ?_
  refine mz_All.cons (sd_puti (k := 0) hx hb hts (mz_inC in_Mo) ty_Mo ty_Mo_ok nm_Mo hown (T := T_Mo) (N := 19) rfl (by decide) (hts (.fieldLink "MazeFormsModel" 65 "MazeFormsModel" "thrown" "I") (List.mem_cons_of_mem _ wm_728)) (fun _ h => h) rfl rfl (mz_dg d_Mo_grade 2 2 (.putfield 65) 3 rfl)) ?_
  refine mz_All.cons (sd_aload_n hx hb (mz_dg d_Mo_grade 3 5 (.aload_n 0) 1 rfl) rfl) ?_
  refine mz_All.cons (sd_get (k := 15) hx hb hts (mz_inC in_Mo) hown (T := T_Mo) (N := 19) rfl (by decide) (hts (.fieldLink "MazeFormsModel" 38 "MazeFormsModel" "length" "I") (List.mem_cons_of_mem _ wm_743)) (fun _ h => h) (mz_dg d_Mo_grade 4 6 (.getfield 38) 3 rfl)) ?_
  refine mz_All.cons (sd_if_ge hx hb (mz_dg d_Mo_grade 5 9 (.ifCond .ge (7)) 3 rfl) (by decide)) ?_
  refine mz_All.cons (sd_ldc2 hx hb hown (hts _ (List.mem_cons_of_mem _ wm_892)) (mz_dg d_Mo_grade 6 12 (.ldc2_w 143) 3 rfl)) ?_
  refine mz_All.cons (sd_rl hx hb hr hlk (mz_dg d_Mo_grade 7 15 (.lreturn) 1 rfl)) ?_
  refine mz_All.cons (sd_lconst hx hb (mz_dg d_Mo_grade 8 16 (.lconst 0) 1 rfl) (by decide)) ?_
  refine mz_All.cons (sd_lstore_n hx hb (mz_dg d_Mo_grade 9 17 (.lstore_n 1) 1 rfl) rfl (by decide)) ?_
  refine mz_All.cons (sd_iconst hx hb (mz_dg d_Mo_grade 10 18 (.iconst (0)) 1 rfl) (by decide)) ?_
  refine mz_All.cons (sd_istore_n hx hb (mz_dg d_Mo_grade 11 19 (.istore_n 3) 1 rfl) rfl (by decide)) ?_
  refine mz_All.cons (sd_iload_n hx hb (mz_dg d_Mo_grade 12 20 (.iload_n 3) 1 rfl) rfl) ?_
  refine mz_All.cons (sd_aload_n hx hb (mz_dg d_Mo_grade 13 21 (.aload_n 0) 1 rfl) rfl) ?_
  refine mz_All.cons (sd_get (k := 15) hx hb hts (mz_inC in_Mo) hown (T := T_Mo) (N := 19) rfl (by decide) (hts (.fieldLink "MazeFormsModel" 38 "MazeFormsModel" "length" "I") (List.mem_cons_of_mem _ wm_743)) (fun _ h => h) (mz_dg d_Mo_grade 14 22 (.getfield 38) 3 rfl)) ?_
  refine mz_All.cons (sd_icmp_ge hx hb (mz_dg d_Mo_grade 15 25 (.if_icmp .ge (38)) 3 rfl) (by decide)) ?_
  refine mz_All.cons (sd_lload_n hx hb (mz_dg d_Mo_grade 16 28 (.lload_n 1) 1 rfl) rfl) ?_
  refine mz_All.cons (sd_aload_n hx hb (mz_dg d_Mo_grade 17 29 (.aload_n 0) 1 rfl) rfl) ?_
  refine mz_All.cons (sd_aload_n hx hb (mz_dg d_Mo_grade 18 30 (.aload_n 0) 1 rfl) rfl) ?_
  refine mz_All.cons (sd_get (k := 16) hx hb hts (mz_inC in_Mo) hown (T := T_Mo) (N := 19) rfl (by decide) (hts (.fieldLink "MazeFormsModel" 42 "MazeFormsModel" "path" "[I") (List.mem_cons_of_mem _ wm_744)) (fun _ h => h) (mz_dg d_Mo_grade 19 31 (.getfield 42) 3 rfl)) ?_
  refine mz_All.cons (sd_iload_n hx hb (mz_dg d_Mo_grade 20 34 (.iload_n 3) 1 rfl) rfl) ?_
  refine mz_All.cons (sd_iald hx hb (mz_dg d_Mo_grade 21 35 (.iaload) 1 rfl)) ?_
  refine mz_All.cons (sd_calli (T := T_Mo) ⟨hx, hb, hml, hown, hts⟩ (met_Mo_openAt w h l) (cwV 1 hts (mz_gV wm_893 wm_895 wm_59 wm_77 wm_896) rfl rfl rfl (by decide) ⟨by decide, by decide⟩) rfl hA rfl (mz_dg d_Mo_grade 22 36 (.invokevirtual 145) 3 rfl)) ?_
  refine mz_All.cons (sd_iload_n hx hb (mz_dg d_Mo_grade 23 39 (.iload_n 3) 1 rfl) rfl) ?_
  refine mz_All.cons (sd_if_ne hx hb (mz_dg d_Mo_grade 24 40 (.ifCond .ne (7)) 3 rfl) (by decide)) ?_
  refine mz_All.cons (sd_iconst hx hb (mz_dg d_Mo_grade 25 43 (.iconst (1)) 1 rfl) (by decide)) ?_
  refine mz_All.cons (sd_goto hx hb (mz_dg d_Mo_grade 26 44 (.goto (4)) 3 rfl) (by decide)) ?_
  refine mz_All.cons (sd_iconst hx hb (mz_dg d_Mo_grade 27 47 (.iconst (2)) 1 rfl) (by decide)) ?_
  refine mz_All.cons (sd_isub hx hb (mz_dg d_Mo_grade 28 48 (.isub) 1 rfl)) ?_
  refine mz_All.cons (sd_i2l hx hb (mz_dg d_Mo_grade 29 49 (.i2l) 1 rfl)) ?_
  refine mz_All.cons (sd_iload_n hx hb (mz_dg d_Mo_grade 30 50 (.iload_n 3) 1 rfl) rfl) ?_
  refine mz_All.cons (sd_iconst hx hb (mz_dg d_Mo_grade 31 51 (.iconst (1)) 1 rfl) (by decide)) ?_
  refine mz_All.cons (sd_iadd hx hb (mz_dg d_Mo_grade 32 52 (.iadd) 1 rfl)) ?_
  refine mz_All.cons (sd_i2l hx hb (mz_dg d_Mo_grade 33 53 (.i2l) 1 rfl)) ?_
  refine mz_All.cons (sd_lmul hx hb (mz_dg d_Mo_grade 34 54 (.lmul) 1 rfl)) ?_
  refine mz_All.cons (sd_ladd hx hb (mz_dg d_Mo_grade 35 55 (.ladd) 1 rfl)) ?_
  refine mz_All.cons (sd_lstore_n hx hb (mz_dg d_Mo_grade 36 56 (.lstore_n 1) 1 rfl) rfl (by decide)) ?_
  refine mz_All.cons (sd_iinc hx hb (mz_dg d_Mo_grade 37 57 (.iinc 3 (1)) 3 rfl) (by decide) (by decide)) ?_
  refine mz_All.cons (sd_goto hx hb (mz_dg d_Mo_grade 38 60 (.goto (-40)) 3 rfl) (by decide)) ?_
  refine mz_All.cons (sd_lload_n hx hb (mz_dg d_Mo_grade 39 63 (.lload_n 1) 1 rfl) rfl) ?_
  refine mz_All.cons (sd_rl hx hb hr hlk (mz_dg d_Mo_grade 40 64 (.lreturn) 1 rfl)) ?_
  exact trivial
theorem met_Mo_grade (w h : Nat) (l : Launch) : mz_ML l y_Mo_grade w_Mo_grade 1 23 mz_cls (C_Mo_grade w h) := mz_ML_of (I_Mo_grade w h) (by decide) rfl (len_Mo_grade w h) (ok_Mo_grade w h) (snd_Mo_grade w h l)
