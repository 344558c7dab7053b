def zo_adY (X : mz_X) (a b : Nat) : mz_X := zo_ad X (X.1 23 5).toNatClampNeg a b
def zo_n1 (w : Nat) (X : mz_X) (c : Nat) : mz_X := if c % w < w - 1 then zo_adY X c (c + 1) else X
def zo_nS (w h : Nat) (X : mz_X) (c : Nat) : mz_X := if c / w < h - 1 then zo_adY (zo_n1 w X c) c (c + w) else zo_n1 w X c
def zo_n (w h : Nat) (X : mz_X) (k : Nat) : mz_X := match k with
  | 0 => (mz_up X.1 23 5 0, X.2)
  | j + 1 => zo_nS w h (zo_n w h X j) j
def zo_num (w h : Nat) (X : mz_X) : mz_X := (mz_up (zo_n w h X (w * h)).1 23 15 (-1), (zo_n w h X (w * h)).2)
def zo_t (X : mz_X) : mz_X := (mz_up X.1 23 0 0, X.2)
def zo_opn (X : mz_X) (D : Nat) : Nat := mz_cnt (fun i => !decide (X.1 27 i = 0)) D
def zo_thr (X : mz_X) (n : Nat) : Nat := mz_cnt (fun c => decide (X.1 24 c = 0)) n
def zo_setB (X : mz_X) (D : Nat) (d v : Int32) : Bool := mz_lt d D && !decide (X.1 27 d.toNatClampNeg = v)
def zo_setX (X : mz_X) (d v : Int32) : mz_X := (mz_up (mz_up X.1 27 d.toNatClampNeg v) 23 15 (-1), X.2)
def C_Mo_number (w h : Nat) : mz_CV := fun lay as X Q => match as with
  | [.ref 23] => lay = mz_lay w h ∧ mz_geo w h ∧ zo_dim w h X ∧ Q (zo_num w h X)
  | _ => False
def C_Mo_doors (w h : Nat) : mz_CI := fun lay as X Q => match as with
  | [.ref 23] => lay = mz_lay w h ∧ mz_geo w h ∧ Q (X.1 23 5) (zo_t X)
  | _ => False
def C_Mo_openDoors (w h : Nat) : mz_CI := fun lay as X Q => match as with
  | [.ref 23] => lay = mz_lay w h ∧ mz_geo w h ∧ ∃ D : Nat, X.1 23 5 = nI D ∧ D ≤ 288 ∧ Q (nI (zo_opn X D)) X
  | _ => False
def C_Mo_cellsThere (w h : Nat) : mz_CI := fun lay as X Q => match as with
  | [.ref 23] => lay = mz_lay w h ∧ mz_geo w h ∧ zo_dim w h X ∧ Q (nI (zo_thr X (w * h))) X
  | _ => False
def C_Mo_set (w h : Nat) : mz_CI := fun lay as X Q => match as with
  | [.ref 23, .int d, .int v] => lay = mz_lay w h ∧ mz_geo w h ∧ ∃ D : Nat, X.1 23 5 = nI D ∧ D ≤ 288 ∧ (v = 0 ∨ v = 1) ∧ Q (mz_b (zo_setB (zo_t X) D d v)) (match zo_setB (zo_t X) D d v with
    | true => zo_setX (zo_t X) d v
    | false => zo_t X)
  | _ => False
def y_Mo_number : MethodName := ⟨"MazeFormsModel", "number", "()V"⟩
abbrev w_Mo_number : List Cond := .code y_Mo_number prog_11_method_5_code 2 none :: mz_tb
def dl_Mo_number : List (Nat × ClassFile.Instr × Nat) := [(0, .aload_n 0, 1), (1, .iconst (0), 1), (2, .putfield 72, 3), (5, .iconst (0), 1), (6, .istore_n 1, 1), (7, .iload_n 1, 1), (8, .aload_n 0, 1), (9, .invokevirtual 68, 3), (12, .if_icmp .ge (58), 3), (15, .iload_n 1, 1), (16, .aload_n 0, 1), (17, .getfield 52, 3), (20, .irem, 1), (21, .aload_n 0, 1), (22, .getfield 52, 3), (25, .iconst (1), 1), (26, .isub, 1), (27, .if_icmp .ge (11), 3), (30, .aload_n 0, 1), (31, .iload_n 1, 1), (32, .iload_n 1, 1), (33, .iconst (1), 1), (34, .iadd, 1), (35, .invokevirtual 75, 3), (38, .iload_n 1, 1), (39, .aload_n 0, 1), (40, .getfield 52, 3), (43, .idiv, 1), (44, .aload_n 0, 1), (45, .getfield 55, 3), (48, .iconst (1), 1), (49, .isub, 1), (50, .if_icmp .ge (14), 3), (53, .aload_n 0, 1), (54, .iload_n 1, 1), (55, .iload_n 1, 1), (56, .aload_n 0, 1), (57, .getfield 52, 3), (60, .iadd, 1), (61, .invokevirtual 75, 3), (64, .iinc 1 (1), 3), (67, .goto (-60), 3), (70, .aload_n 0, 1), (71, .iconst (-1), 1), (72, .putfield 38, 3), (75, .return_, 1)]
theorem d_Mo_number : mz_dec prog_11_method_5_code dl_Mo_number = true := by decide +kernel
def y_Mo_doors : MethodName := ⟨"MazeFormsModel", "doors", "()I"⟩
abbrev w_Mo_doors : List Cond := .code y_Mo_doors prog_11_method_23_code 1 (some .int) :: mz_tb
def dl_Mo_doors : List (Nat × ClassFile.Instr × Nat) := [(0, .aload_n 0, 1), (1, .iconst (0), 1), (2, .putfield 65, 3), (5, .aload_n 0, 1), (6, .getfield 72, 3), (9, .ireturn, 1)]
theorem d_Mo_doors : mz_dec prog_11_method_23_code dl_Mo_doors = true := by decide +kernel
def y_Mo_openDoors : MethodName := ⟨"MazeFormsModel", "openDoors", "()I"⟩
abbrev w_Mo_openDoors : List Cond := .code y_Mo_openDoors prog_11_method_21_code 3 (some .int) :: mz_tb
def dl_Mo_openDoors : List (Nat × ClassFile.Instr × Nat) := [(0, .iconst (0), 1), (1, .istore_n 1, 1), (2, .iconst (0), 1), (3, .istore_n 2, 1), (4, .iload_n 2, 1), (5, .aload_n 0, 1), (6, .getfield 72, 3), (9, .if_icmp .ge (26), 3), (12, .iload_n 1, 1), (13, .aload_n 0, 1), (14, .getfield 20, 3), (17, .iload_n 2, 1), (18, .baload, 1), (19, .ifCond .eq (7), 3), (22, .iconst (1), 1), (23, .goto (4), 3), (26, .iconst (0), 1), (27, .iadd, 1), (28, .istore_n 1, 1), (29, .iinc 2 (1), 3), (32, .goto (-28), 3), (35, .iload_n 1, 1), (36, .ireturn, 1)]
theorem d_Mo_openDoors : mz_dec prog_11_method_21_code dl_Mo_openDoors = true := by decide +kernel
def y_Mo_cellsThere : MethodName := ⟨"MazeFormsModel", "cellsThere", "()I"⟩
abbrev w_Mo_cellsThere : List Cond := .code y_Mo_cellsThere prog_11_method_36_code 3 (some .int) :: mz_tb
def dl_Mo_cellsThere : List (Nat × ClassFile.Instr × Nat) := [(0, .iconst (0), 1), (1, .istore_n 1, 1), (2, .iconst (0), 1), (3, .istore_n 2, 1), (4, .iload_n 2, 1), (5, .aload_n 0, 1), (6, .invokevirtual 68, 3), (9, .if_icmp .ge (26), 3), (12, .iload_n 1, 1), (13, .aload_n 0, 1), (14, .getfield 7, 3), (17, .iload_n 2, 1), (18, .baload, 1), (19, .ifCond .eq (7), 3), (22, .iconst (0), 1), (23, .goto (4), 3), (26, .iconst (1), 1), (27, .iadd, 1), (28, .istore_n 1, 1), (29, .iinc 2 (1), 3), (32, .goto (-28), 3), (35, .iload_n 1, 1), (36, .ireturn, 1)]
theorem d_Mo_cellsThere : mz_dec prog_11_method_36_code dl_Mo_cellsThere = true := by decide +kernel
def y_Mo_set : MethodName := ⟨"MazeFormsModel", "set", "(IZ)Z"⟩
abbrev w_Mo_set : List Cond := .code y_Mo_set prog_11_method_25_code 3 (some .boolean) :: mz_tb
def dl_Mo_set : List (Nat × ClassFile.Instr × Nat) := [(0, .aload_n 0, 1), (1, .iconst (0), 1), (2, .putfield 65, 3), (5, .iload_n 1, 1), (6, .ifCond .lt (21), 3), (9, .iload_n 1, 1), (10, .aload_n 0, 1), (11, .getfield 72, 3), (14, .if_icmp .ge (13), 3), (17, .aload_n 0, 1), (18, .getfield 20, 3), (21, .iload_n 1, 1), (22, .baload, 1), (23, .iload_n 2, 1), (24, .if_icmp .ne (5), 3), (27, .iconst (0), 1), (28, .ireturn, 1), (29, .aload_n 0, 1), (30, .getfield 20, 3), (33, .iload_n 1, 1), (34, .iload_n 2, 1), (35, .bastore, 1), (36, .aload_n 0, 1), (37, .iconst (-1), 1), (38, .putfield 38, 3), (41, .iconst (1), 1), (42, .ireturn, 1)]
theorem d_Mo_set : mz_dec prog_11_method_25_code dl_Mo_set = true := by decide +kernel
def I_Mo_number (w h : Nat) : List (Nat × mz_Op) := [(0, mz_lda 0 1), (1, mz_push (.int (0)) 2), (2, mz_pfi 9 5 5), (5, mz_push (.int (0)) 6), (6, mz_sti 1 7), (7, mz_ldi 1 8), (8, mz_lda 0 9), (9, mz_ci 1 9 (C_Mo_cells w h) 12), (12, mz_ic (fun x y => y ≤ x) 70 15), (15, mz_ldi 1 16), (16, mz_lda 0 17), (17, mz_gf 9 1 20), (20, mz_bid (fun x y => x - x / y * y) 21), (21, mz_lda 0 22), (22, mz_gf 9 1 25), (25, mz_push (.int (1)) 26), (26, mz_bi (fun x y => x - y) 27), (27, mz_ic (fun x y => y ≤ x) 38 30), (30, mz_lda 0 31), (31, mz_ldi 1 32), (32, mz_ldi 1 33), (33, mz_push (.int (1)) 34), (34, mz_bi (fun x y => x + y) 35), (35, mz_cvo 3 9 (C_Mo_addDoor w h) 38), (38, mz_ldi 1 39), (39, mz_lda 0 40), (40, mz_gf 9 1 43), (43, mz_bid (fun x y => x / y) 44), (44, mz_lda 0 45), (45, mz_gf 9 2 48), (48, mz_push (.int (1)) 49), (49, mz_bi (fun x y => x - y) 50), (50, mz_ic (fun x y => y ≤ x) 64 53), (53, mz_lda 0 54), (54, mz_ldi 1 55), (55, mz_ldi 1 56), (56, mz_lda 0 57), (57, mz_gf 9 1 60), (60, mz_bi (fun x y => x + y) 61), (61, mz_cvo 3 9 (C_Mo_addDoor w h) 64), (64, mz_inc 1 (1) 67), (67, mz_go 7), (70, mz_lda 0 71), (71, mz_push (.int (-1)) 72), (72, mz_pfi 9 15 75), (75, mz_rv)]
def I_Mo_doors (w h : Nat) : List (Nat × mz_Op) := [(0, mz_lda 0 1), (1, mz_push (.int (0)) 2), (2, mz_pfi 9 0 5), (5, mz_lda 0 6), (6, mz_gf 9 5 9), (9, mz_ri)]
def I_Mo_openDoors (w h : Nat) : List (Nat × mz_Op) := [(0, mz_push (.int (0)) 1), (1, mz_sti 1 2), (2, mz_push (.int (0)) 3), (3, mz_sti 2 4), (4, mz_ldi 2 5), (5, mz_lda 0 6), (6, mz_gf 9 5 9), (9, mz_ic (fun x y => y ≤ x) 35 12), (12, mz_ldi 1 13), (13, mz_lda 0 14), (14, mz_gf 9 8 17), (17, mz_ldi 2 18), (18, mz_iald 1 19), (19, mz_if (fun x => x = 0) 26 22), (22, mz_push (.int (1)) 23), (23, mz_go 27), (26, mz_push (.int (0)) 27), (27, mz_bi (fun x y => x + y) 28), (28, mz_sti 1 29), (29, mz_inc 2 (1) 32), (32, mz_go 4), (35, mz_ldi 1 36), (36, mz_ri)]
def I_Mo_cellsThere (w h : Nat) : List (Nat × mz_Op) := [(0, mz_push (.int (0)) 1), (1, mz_sti 1 2), (2, mz_push (.int (0)) 3), (3, mz_sti 2 4), (4, mz_ldi 2 5), (5, mz_lda 0 6), (6, mz_ci 1 9 (C_Mo_cells w h) 9), (9, mz_ic (fun x y => y ≤ x) 35 12), (12, mz_ldi 1 13), (13, mz_lda 0 14), (14, mz_gf 9 4 17), (17, mz_ldi 2 18), (18, mz_iald 1 19), (19, mz_if (fun x => x = 0) 26 22), (22, mz_push (.int (0)) 23), (23, mz_go 27), (26, mz_push (.int (1)) 27), (27, mz_bi (fun x y => x + y) 28), (28, mz_sti 1 29), (29, mz_inc 2 (1) 32), (32, mz_go 4), (35, mz_ldi 1 36), (36, mz_ri)]
def I_Mo_set (w h : Nat) : List (Nat × mz_Op) := [(0, mz_lda 0 1), (1, mz_push (.int (0)) 2), (2, mz_pfi 9 0 5), (5, mz_ldi 1 6), (6, mz_if (fun x => x < 0) 27 9), (9, mz_ldi 1 10), (10, mz_lda 0 11), (11, mz_gf 9 5 14), (14, mz_ic (fun x y => y ≤ x) 27 17), (17, mz_lda 0 18), (18, mz_gf 9 8 21), (21, mz_ldi 1 22), (22, mz_iald 1 23), (23, mz_ldi 2 24), (24, mz_ic (fun x y => x = y) 27 29), (27, mz_push (.int (0)) 28), (28, mz_rz), (29, mz_lda 0 30), (30, mz_gf 9 8 33), (33, mz_ldi 1 34), (34, mz_ldi 2 35), (35, mz_iast 1 36), (36, mz_lda 0 37), (37, mz_push (.int (-1)) 38), (38, mz_pfi 9 15 41), (41, mz_push (.int (1)) 42), (42, mz_rz)]
theorem zo_r1 {w h c : Nat} (g : mz_geo w h) (hc : c < w * h) (hr : c % w < w - 1) : c + 1 < w * h := by
  have h1 := Nat.div_add_mod c w
  have h2 : c / w < h := Nat.div_lt_of_lt_mul hc
  have h3 : w * (c / w) + w ≤ w * h := by
    have : w * (c / w + 1) ≤ w * h := Nat.mul_le_mul_left w h2
    rw [Nat.mul_add, Nat.mul_one] at this
    exact this
  omega
theorem zo_r2 {w h c : Nat} (g : mz_geo w h) (hr : c / w < h - 1) : c + w < w * h := by
  have h1 := Nat.div_add_mod c w
  have h0 : c % w < w := Nat.mod_lt _ (by have := g.1; omega)
  have h3 : w * (c / w) + w + w ≤ w * h := by
    have h9 : c / w + 2 ≤ h := by
      generalize c / w = q at hr
      omega
    have : w * (c / w + 2) ≤ w * h := Nat.mul_le_mul_left w h9
    rw [Nat.mul_add] at this
    omega
  omega
theorem zo_ad_7 (X : mz_X) (D a b : Nat) (hD : X.1 23 5 = nI D) : ((zo_ad X D a b).1 23 5 = nI D ∨ (zo_ad X D a b).1 23 5 = nI (D + 1)) ∧ ∀ i, i ≠ 5 → (zo_ad X D a b).1 23 i = X.1 23 i := by
  unfold zo_ad
  split
  · refine ⟨Or.inr ?_, fun i hi => ?_⟩
    · show mz_up (mz_up (mz_up (mz_up X.1 25 D (nI a)) 26 D (nI b)) 27 D 0) 23 5 (nI D + 1) 23 5 = nI (D + 1)
      rw [mz_up_row]
      dsimp only
      rw [if_pos rfl, nI_1]
    · show mz_up (mz_up (mz_up (mz_up X.1 25 D (nI a)) 26 D (nI b)) 27 D 0) 23 5 (nI D + 1) 23 i = X.1 23 i
      rw [mz_up_row]
      dsimp only
      rw [if_neg hi]
      rfl
  · exact ⟨Or.inl hD, fun i hi => rfl⟩
theorem zo_adY_7 (X : mz_X) (D a b : Nat) (hD : X.1 23 5 = nI D) (h : D < 2 ^ 31) : ((zo_adY X a b).1 23 5 = nI D ∨ (zo_adY X a b).1 23 5 = nI (D + 1)) ∧ ∀ i, i ≠ 5 → (zo_adY X a b).1 23 i = X.1 23 i := by
  have e : zo_adY X a b = zo_ad X D a b := by
    unfold zo_adY
    rw [hD, nI_clamp h]
  rw [e]
  exact zo_ad_7 X D a b hD
def zo_nI (w h c : Nat) (X : mz_X) : Prop := zo_dim w h X ∧ ∃ D, D ≤ c ∧ X.1 23 5 = nI D
theorem zo_adY_n {w h c : Nat} {X : mz_X} (a b : Nat) (hX : zo_nI w h c X) (hc : c < 2 ^ 30) : zo_nI w h (c + 1) (zo_adY X a b) := by
  obtain ⟨hd, D, hD1, hD2⟩ := hX
  have h1 := zo_adY_7 X D a b hD2 (by omega)
  refine ⟨⟨by rw [h1.2 1 (by decide)]; exact hd.1, by rw [h1.2 2 (by decide)]; exact hd.2⟩, ?_⟩
  rcases h1.1 with q | q
  · exact ⟨D, by omega, q⟩
  · exact ⟨D + 1, by omega, q⟩
theorem zo_nI_up {w h c d : Nat} {X : mz_X} (hX : zo_nI w h c X) (hcd : c ≤ d) : zo_nI w h d X := by
  obtain ⟨hd, D, hD1, hD2⟩ := hX
  exact ⟨hd, D, by omega, hD2⟩
theorem zo_n1_n {w h c : Nat} {X : mz_X} (hX : zo_nI w h (2 * c) X) (hc : c < 2 ^ 20) : zo_nI w h (2 * c + 1) (zo_n1 w X c) := by
  unfold zo_n1
  split
  · exact zo_adY_n _ _ hX (by omega)
  · exact zo_nI_up hX (by omega)
theorem zo_nS_n {w h c : Nat} {X : mz_X} (hX : zo_nI w h (2 * c) X) (hc : c < 2 ^ 20) : zo_nI w h (2 * (c + 1)) (zo_nS w h X c) := by
  have h1 := zo_n1_n hX hc
  unfold zo_nS
  split
  · exact zo_nI_up (zo_adY_n _ _ h1 (by omega)) (by omega)
  · exact zo_nI_up h1 (by omega)
theorem zo_n_n {w h : Nat} {X : mz_X} (hX : zo_dim w h X) : ∀ k, k < 2 ^ 20 → zo_nI w h (2 * k) (zo_n w h X k)
  | 0, _ => ⟨hX, 0, by omega, by show mz_up X.1 23 5 0 23 5 = nI 0; rw [mz_up_row]; dsimp only; rw [if_pos rfl, nI_0]⟩
  | k + 1, hk => zo_nS_n (zo_n_n hX k (by omega)) (by omega)
theorem len_Mo_number (w h : Nat) (lay : List mz_E) (as : List Value) (X : mz_X) (Q : mz_X → Prop) (hC : C_Mo_number w h lay as X Q) : (mz_l0 as).length ≤ 2 := by
  unfold C_Mo_number at hC
  split at hC
  · exact Nat.le_of_ble_eq_true rfl
  · exact hC.elim
theorem ok_Mo_number (w h : Nat) (lay : List mz_E) (as : List Value) (X : mz_X) (Q : mz_X → Prop) (hC : C_Mo_number w h lay as X Q) (K : mz_K) (hK : mz_Cl (I_Mo_number w h) (mz_qv lay Q) K) : K 0 (mz_ent 2 as) [] (lay, X) := by
  unfold C_Mo_number at hC
  split at hC
  ·
    obtain ⟨rfl, g, hX, hq⟩ := hC
    have hn := mz_geo_n g
    have hgw : w ≤ 12 := g.2.1
    have hgw1 : 1 ≤ w := g.1
    have hgh : h ≤ 12 := g.2.2.2
    have hgh1 : 1 ≤ h := g.2.2.1
    have loop : ∀ (k i : Nat), i + k = w * h → K 7 [some (.ref 23), some (.int (nI i))] [] (mz_lay w h, zo_n w h X i) := by
      intro k
      induction k with
      | zero =>
        intro i hi
        have hI := zo_n_n hX i (by omega)
        iterate 2 refine hK _ _ _ _ ?_
        refine hK _ _ _ _ (And.intro (rfl) (And.intro (g) (And.intro (hI.1) ?_)))
        refine hK _ _ _ _ (And.intro (fun c1 => ?_) (fun c1 => ?_))
        · iterate 3 refine hK _ _ _ _ ?_
          exact hK _ _ _ _ (And.intro rfl (by unfold zo_num at hq; rw [show i = w * h by omega]; exact hq))
        · exact absurd (nI_le (a := w * h) (b := i) (by omega) (by omega)) c1
      | succ k ih =>
        intro i hi
        have hI := zo_n_n hX i (by omega)
        have ih1 := ih (i + 1) (by omega)
        rw [show zo_n w h X (i + 1) = zo_nS w h (zo_n w h X i) i from rfl, ← nI_1] at ih1
        generalize zo_n w h X i = Y at hI ih1 ⊢
        have hY1 := zo_n1_n hI (by omega)
        have h64 : ∀ Z : mz_X, Z = zo_nS w h Y i → K 64 [some (.ref 23), some (.int (nI i))] [] (mz_lay w h, Z) := by
          intro Z hZ
          subst hZ
          iterate 2 refine hK _ _ _ _ ?_
          exact ih1
        have h38 : K 38 [some (.ref 23), some (.int (nI i))] [] (mz_lay w h, zo_n1 w Y i) := by
          obtain ⟨hd, D, hD1, hD2⟩ := hY1
          have hS : zo_nS w h Y i = if i / w < h - 1 then zo_adY (zo_n1 w Y i) i (i + w) else zo_n1 w Y i := rfl
          generalize zo_n1 w Y i = Z at hd hD2 hS ⊢
          iterate 3 refine hK _ _ _ _ ?_
          refine hK _ _ _ _ (And.intro (by dsimp only; rw [hd.1]; exact zo_wne g) ?_)
          iterate 4 refine hK _ _ _ _ ?_
          refine hK _ _ _ _ (And.intro (fun c2 => ?_) (fun c2 => ?_))
          · dsimp only at c2
            rw [hd.1, hd.2, pk_div (by omega) (by omega) (by omega), zn_pred (by omega), nI_leI (by omega) (by have := Nat.div_le_self i w; omega)] at c2
            exact h64 Z (by rw [hS, if_neg (by omega)])
          · dsimp only at c2
            rw [hd.1, hd.2, pk_div (by omega) (by omega) (by omega), zn_pred (by omega), nI_leI (by omega) (by have := Nat.div_le_self i w; omega)] at c2
            have hr2 := zo_r2 g (by omega : i / w < h - 1)
            iterate 6 refine hK _ _ _ _ ?_
            refine hK _ _ _ _ (And.intro (rfl) (And.intro (g) (Exists.intro (D) (Exists.intro (i) (Exists.intro ((i + w)) (And.intro (hD2) (And.intro (by omega) (And.intro (by omega) (And.intro (by omega) (And.intro (rfl) (And.intro (by dsimp only; rw [hd.1, nI_add]) ?_)))))))))))
            exact h64 _ (by rw [hS, if_pos (by omega)]; unfold zo_adY; rw [hD2, nI_clamp (by omega)])
        obtain ⟨hd, D, hD1, hD2⟩ := hI
        iterate 2 refine hK _ _ _ _ ?_
        refine hK _ _ _ _ (And.intro (rfl) (And.intro (g) (And.intro (hd) ?_)))
        refine hK _ _ _ _ (And.intro (fun c1 => ?_) (fun c1 => ?_))
        · exact absurd c1 (nI_ge (by omega) (by omega))
        · iterate 3 refine hK _ _ _ _ ?_
          refine hK _ _ _ _ (And.intro (by dsimp only; rw [hd.1]; exact zo_wne g) ?_)
          iterate 4 refine hK _ _ _ _ ?_
          refine hK _ _ _ _ (And.intro (fun c2 => ?_) (fun c2 => ?_))
          · dsimp only at c2
            have hm := Nat.mod_lt i (show 0 < w by omega)
            rw [hd.1, pk_rem (by omega) (by omega) (by omega), zn_pred (by omega), nI_leI (by omega) (by omega)] at c2
            rw [show zo_n1 w Y i = Y from if_neg (by omega)] at h38
            exact h38
          · dsimp only at c2
            have hm := Nat.mod_lt i (show 0 < w by omega)
            rw [hd.1, pk_rem (by omega) (by omega) (by omega), zn_pred (by omega), nI_leI (by omega) (by omega)] at c2
            have hr1 := zo_r1 g (by omega) (by omega : i % w < w - 1)
            iterate 5 refine hK _ _ _ _ ?_
            refine hK _ _ _ _ (And.intro (rfl) (And.intro (g) (Exists.intro (D) (Exists.intro (i) (Exists.intro ((i + 1)) (And.intro (hD2) (And.intro (by omega) (And.intro (by omega) (And.intro (by omega) (And.intro (rfl) (And.intro (nI_1 i) ?_)))))))))))
            rw [show zo_n1 w Y i = zo_adY Y i (i + 1) from if_pos (by omega)] at h38
            unfold zo_adY at h38
            rw [hD2, nI_clamp (by omega)] at h38
            exact h38
    iterate 5 refine hK _ _ _ _ ?_
    exact loop (w * h) 0 (by omega)
  · exact hC.elim
theorem len_Mo_doors (w h : Nat) (lay : List mz_E) (as : List Value) (X : mz_X) (Q : Int32 → mz_X → Prop) (hC : C_Mo_doors w h lay as X Q) : (mz_l0 as).length ≤ 1 := by
  unfold C_Mo_doors at hC
  split at hC
  · exact Nat.le_of_ble_eq_true rfl
  · exact hC.elim
theorem ok_Mo_doors (w h : Nat) (lay : List mz_E) (as : List Value) (X : mz_X) (Q : Int32 → mz_X → Prop) (hC : C_Mo_doors w h lay as X Q) (K : mz_K) (hK : mz_Cl (I_Mo_doors w h) (mz_qi lay Q) K) : K 0 (mz_ent 1 as) [] (lay, X) := by
  unfold C_Mo_doors at hC
  split at hC
  ·
    obtain ⟨rfl, g, hq⟩ := hC
    iterate 5 refine hK _ _ _ _ ?_
    exact hK _ _ _ _ (And.intro rfl (hq))
  · exact hC.elim
theorem len_Mo_openDoors (w h : Nat) (lay : List mz_E) (as : List Value) (X : mz_X) (Q : Int32 → mz_X → Prop) (hC : C_Mo_openDoors w h lay as X Q) : (mz_l0 as).length ≤ 3 := by
  unfold C_Mo_openDoors at hC
  split at hC
  · exact Nat.le_of_ble_eq_true rfl
  · exact hC.elim
theorem ok_Mo_openDoors (w h : Nat) (lay : List mz_E) (as : List Value) (X : mz_X) (Q : Int32 → mz_X → Prop) (hC : C_Mo_openDoors w h lay as X Q) (K : mz_K) (hK : mz_Cl (I_Mo_openDoors w h) (mz_qi lay Q) K) : K 0 (mz_ent 3 as) [] (lay, X) := by
  unfold C_Mo_openDoors at hC
  split at hC
  ·
    obtain ⟨rfl, g, D, hD, hD2, hq⟩ := hC
    have loop : ∀ (k i : Nat), i + k = D → K 4 [some (.ref 23), some (.int (nI (zo_opn X i))), some (.int (nI i))] [] (mz_lay w h, X) := by
      intro k
      induction k with
      | zero =>
        intro i hi
        iterate 3 refine hK _ _ _ _ ?_
        refine hK _ _ _ _ (And.intro (fun c1 => ?_) (fun c1 => ?_))
        · refine hK _ _ _ _ ?_
          exact hK _ _ _ _ (And.intro rfl (by rw [show i = D by omega]; exact hq))
        · dsimp only at c1
          rw [hD] at c1
          exact absurd (nI_le (a := D) (b := i) (by omega) (by omega)) c1
      | succ k ih =>
        intro i hi
        have ih1 := ih (i + 1) (by omega)
        rw [← nI_1] at ih1
        iterate 3 refine hK _ _ _ _ ?_
        refine hK _ _ _ _ (And.intro (fun c1 => ?_) (fun c1 => ?_))
        · dsimp only at c1
          rw [hD] at c1
          exact absurd c1 (nI_ge (by omega) (by omega))
        · iterate 4 refine hK _ _ _ _ ?_
          refine hK _ _ _ _ (And.intro (vp_in_nI (by omega) (by omega)) ?_)
          refine hK _ _ _ _ (And.intro (fun c2 => ?_) (fun c2 => ?_))
          · dsimp only at c2
            rw [nI_clamp (by omega)] at c2
            rw [show zo_opn X (i + 1) = zo_opn X i from mz_cnt_f (by simp [c2])] at ih1
            rw [show nI (zo_opn X i) = nI (zo_opn X i) + 0 by simp] at ih1
            iterate 5 refine hK _ _ _ _ ?_
            exact ih1
          · dsimp only at c2
            rw [nI_clamp (by omega)] at c2
            rw [show nI (zo_opn X (i + 1)) = nI (zo_opn X i) + 1 from (mz_cnt_t (f := fun i => !decide (X.1 27 i = 0)) (by simp [c2])).symm] at ih1
            iterate 6 refine hK _ _ _ _ ?_
            exact ih1
    iterate 4 refine hK _ _ _ _ ?_
    exact loop D 0 (by omega)
  · exact hC.elim
theorem len_Mo_cellsThere (w h : Nat) (lay : List mz_E) (as : List Value) (X : mz_X) (Q : Int32 → mz_X → Prop) (hC : C_Mo_cellsThere w h lay as X Q) : (mz_l0 as).length ≤ 3 := by
  unfold C_Mo_cellsThere at hC
  split at hC
  · exact Nat.le_of_ble_eq_true rfl
  · exact hC.elim
theorem ok_Mo_cellsThere (w h : Nat) (lay : List mz_E) (as : List Value) (X : mz_X) (Q : Int32 → mz_X → Prop) (hC : C_Mo_cellsThere w h lay as X Q) (K : mz_K) (hK : mz_Cl (I_Mo_cellsThere w h) (mz_qi lay Q) K) : K 0 (mz_ent 3 as) [] (lay, X) := by
  unfold C_Mo_cellsThere at hC
  split at hC
  ·
    obtain ⟨rfl, g, hX, hq⟩ := hC
    have hn := mz_geo_n g
    have loop : ∀ (k i : Nat), i + k = w * h → K 4 [some (.ref 23), some (.int (nI (zo_thr X i))), some (.int (nI i))] [] (mz_lay w h, X) := by
      intro k
      induction k with
      | zero =>
        intro i hi
        iterate 2 refine hK _ _ _ _ ?_
        refine hK _ _ _ _ (And.intro (rfl) (And.intro (g) (And.intro (hX) ?_)))
        refine hK _ _ _ _ (And.intro (fun c1 => ?_) (fun c1 => ?_))
        · refine hK _ _ _ _ ?_
          exact hK _ _ _ _ (And.intro rfl (by rw [show i = w * h by omega]; exact hq))
        · exact absurd (nI_le (a := w * h) (b := i) (by omega) (by omega)) c1
      | succ k ih =>
        intro i hi
        have ih1 := ih (i + 1) (by omega)
        rw [← nI_1] at ih1
        iterate 2 refine hK _ _ _ _ ?_
        refine hK _ _ _ _ (And.intro (rfl) (And.intro (g) (And.intro (hX) ?_)))
        refine hK _ _ _ _ (And.intro (fun c1 => ?_) (fun c1 => ?_))
        · exact absurd c1 (nI_ge (by omega) (by omega))
        · iterate 4 refine hK _ _ _ _ ?_
          refine hK _ _ _ _ (And.intro (vp_in_nI (by omega) (by omega)) ?_)
          refine hK _ _ _ _ (And.intro (fun c2 => ?_) (fun c2 => ?_))
          · dsimp only at c2
            rw [nI_clamp (by omega)] at c2
            rw [show nI (zo_thr X (i + 1)) = nI (zo_thr X i) + 1 from (mz_cnt_t (f := fun c => decide (X.1 24 c = 0)) (by simp [c2])).symm] at ih1
            iterate 5 refine hK _ _ _ _ ?_
            exact ih1
          · dsimp only at c2
            rw [nI_clamp (by omega)] at c2
            rw [show zo_thr X (i + 1) = zo_thr X i from mz_cnt_f (by simp [c2])] at ih1
            rw [show nI (zo_thr X i) = nI (zo_thr X i) + 0 by simp] at ih1
            iterate 6 refine hK _ _ _ _ ?_
            exact ih1
    iterate 4 refine hK _ _ _ _ ?_
    exact loop (w * h) 0 (by omega)
  · exact hC.elim
theorem len_Mo_set (w h : Nat) (lay : List mz_E) (as : List Value) (X : mz_X) (Q : Int32 → mz_X → Prop) (hC : C_Mo_set w h lay as X Q) : (mz_l0 as).length ≤ 3 := by
  unfold C_Mo_set at hC
  split at hC
  · exact Nat.le_of_ble_eq_true rfl
  · exact hC.elim
theorem ok_Mo_set (w h : Nat) (lay : List mz_E) (as : List Value) (X : mz_X) (Q : Int32 → mz_X → Prop) (hC : C_Mo_set w h lay as X Q) (K : mz_K) (hK : mz_Cl (I_Mo_set w h) (mz_qi lay Q) K) : K 0 (mz_ent 3 as) [] (lay, X) := by
  unfold C_Mo_set at hC
  split at hC
  · next d v =>
    obtain ⟨rfl, g, D, hD, hD2, hv, hq⟩ := hC
    have h27 : zo_setB (zo_t X) D d v = false → K 27 (mz_ent 3 [.ref 23, .int d, .int v]) [] (mz_lay w h, zo_t X) := by
      intro e
      rw [e] at hq
      refine hK _ _ _ _ ?_
      exact hK _ _ _ _ (And.intro (Or.inl rfl) (And.intro rfl (hq)))
    iterate 3 refine hK _ _ _ _ ?_
    show K 5 (mz_ent 3 [.ref 23, .int d, .int v]) [] (mz_lay w h, zo_t X)
    have hD1 : (zo_t X).1 23 5 = nI D := hD
    generalize zo_t X = Y at hq h27 hD1 ⊢
    refine hK _ _ _ _ ?_
    refine hK _ _ _ _ (And.intro (fun c1 => ?_) (fun c1 => ?_))
    · exact h27 (by simp [zo_setB, mz_lt, c1])
    · iterate 3 refine hK _ _ _ _ ?_
      refine hK _ _ _ _ (And.intro (fun c2 => ?_) (fun c2 => ?_))
      · dsimp only at c2
        rw [hD1] at c2
        exact h27 (by simp [zo_setB, mz_lt, c2])
      · dsimp only at c2
        rw [hD1] at c2
        have hin : vp_in d 288 := mz_in_mono (mz_in c1 c2 (by omega)) hD2
        iterate 3 refine hK _ _ _ _ ?_
        refine hK _ _ _ _ (And.intro (hin) ?_)
        refine hK _ _ _ _ ?_
        refine hK _ _ _ _ (And.intro (fun c3 => ?_) (fun c3 => ?_))
        · dsimp only at c3
          exact h27 (by simp [zo_setB, c3])
        · dsimp only at c3
          rw [show zo_setB Y D d v = true by simp [zo_setB, mz_lt, c1, c2, c3]] at hq
          iterate 4 refine hK _ _ _ _ ?_
          refine hK _ _ _ _ (And.intro (hin) ?_)
          rw [mz_narb hv]
          iterate 4 refine hK _ _ _ _ ?_
          exact hK _ _ _ _ (And.intro (Or.inr rfl) (And.intro rfl (hq)))
  · exact hC.elim
set_option maxRecDepth 20000 in
theorem snd_Mo_number (w h : Nat) (l : Launch) (p : Program) (e : Env) (s : State) (m : MethodId) (args : Array Value) (below : List Frame) (meth : Method) (c : Code) (D : va_G) (ad0 : Nat → Nat) (cA0 : Nat → ClassId) (A : Nat → Prop) (lay : List mz_E) (Q : mz_X → Prop) (F : mz_F p s m args meth c prog_11_method_5_code 2 y_Mo_number.cls none w_Mo_number) (hA : ∀ q, s.heap.size ≤ q → A q) : mz_All (mz_V p l e (mz_rm 1 22) s m args below meth c 2 lay.length (mz_sz lay) D mz_cls (mz_G0 ad0 cA0) A (MQ below (va_Qv Q (mz_B D mz_cls ad0 cA0 lay A) A) args s 0 0 A)) (mz_qv lay Q) (I_Mo_number w h) := by
  obtain ⟨hx, hb, hml, hown, hts, hr, hlk⟩ := F
  unfold I_Mo_number
  refine mz_All.cons (sd_aload_n hx hb (mz_dg d_Mo_number 0 0 (.aload_n 0) 1 rfl) rfl) ?_
  refine mz_All.cons (sd_iconst hx hb (mz_dg d_Mo_number 1 1 (.iconst (0)) 1 rfl) (by decide)) ?_
  refine mz_All.cons (sd_puti (k := 5) hx hb hts (mz_inC in_Mo) ty_Mo ty_Mo_ok nm_Mo hown (T := T_Mo) (N := 19) rfl (by decide) (hts (.fieldLink "MazeFormsModel" 72 "MazeFormsModel" "doors" "I") (List.mem_cons_of_mem _ wm_733)) (fun _ h => h) rfl rfl (mz_dg d_Mo_number 2 2 (.putfield 72) 3 rfl)) ?_
  refine mz_All.cons (sd_iconst hx hb (mz_dg d_Mo_number 3 5 (.iconst (0)) 1 rfl) (by decide)) ?_
  refine mz_All.cons (sd_istore_n hx hb (mz_dg d_Mo_number 4 6 (.istore_n 1) 1 rfl) rfl (by decide)) ?_
  refine mz_All.cons (sd_iload_n hx hb (mz_dg d_Mo_number 5 7 (.iload_n 1) 1 rfl) rfl) ?_
  refine mz_All.cons (sd_aload_n hx hb (mz_dg d_Mo_number 6 8 (.aload_n 0) 1 rfl) rfl) ?_
  refine mz_All.cons (sd_calli (T := T_Mo) ⟨hx, hb, hml, hown, hts⟩ (met_Mo_cells w h l) (cwV 0 hts (mz_gV wm_720 wm_722 wm_40 wm_77 wm_723) rfl rfl rfl (by decide) ⟨by decide, by decide⟩) rfl hA rfl (mz_dg d_Mo_number 7 9 (.invokevirtual 68) 3 rfl)) ?_
  refine mz_All.cons (sd_icmp_ge hx hb (mz_dg d_Mo_number 8 12 (.if_icmp .ge (58)) 3 rfl) (by decide)) ?_
  refine mz_All.cons (sd_iload_n hx hb (mz_dg d_Mo_number 9 15 (.iload_n 1) 1 rfl) rfl) ?_
  refine mz_All.cons (sd_aload_n hx hb (mz_dg d_Mo_number 10 16 (.aload_n 0) 1 rfl) rfl) ?_
  refine mz_All.cons (sd_get (k := 1) hx hb hts (mz_inC in_Mo) hown (T := T_Mo) (N := 19) rfl (by decide) (hts (.fieldLink "MazeFormsModel" 52 "MazeFormsModel" "width" "I") (List.mem_cons_of_mem _ wm_729)) (fun _ h => h) (mz_dg d_Mo_number 11 17 (.getfield 52) 3 rfl)) ?_
  refine mz_All.cons (sd_irem hx hb (mz_dg d_Mo_number 12 20 (.irem) 1 rfl)) ?_
  refine mz_All.cons (sd_aload_n hx hb (mz_dg d_Mo_number 13 21 (.aload_n 0) 1 rfl) rfl) ?_
  refine mz_All.cons (sd_get (k := 1) hx hb hts (mz_inC in_Mo) hown (T := T_Mo) (N := 19) rfl (by decide) (hts (.fieldLink "MazeFormsModel" 52 "MazeFormsModel" "width" "I") (List.mem_cons_of_mem _ wm_729)) (fun _ h => h) (mz_dg d_Mo_number 14 22 (.getfield 52) 3 rfl)) ?_
  refine mz_All.cons (sd_iconst hx hb (mz_dg d_Mo_number 15 25 (.iconst (1)) 1 rfl) (by decide)) ?_
  refine mz_All.cons (sd_isub hx hb (mz_dg d_Mo_number 16 26 (.isub) 1 rfl)) ?_
  refine mz_All.cons (sd_icmp_ge hx hb (mz_dg d_Mo_number 17 27 (.if_icmp .ge (11)) 3 rfl) (by decide)) ?_
  refine mz_All.cons (sd_aload_n hx hb (mz_dg d_Mo_number 18 30 (.aload_n 0) 1 rfl) rfl) ?_
  refine mz_All.cons (sd_iload_n hx hb (mz_dg d_Mo_number 19 31 (.iload_n 1) 1 rfl) rfl) ?_
  refine mz_All.cons (sd_iload_n hx hb (mz_dg d_Mo_number 20 32 (.iload_n 1) 1 rfl) rfl) ?_
  refine mz_All.cons (sd_iconst hx hb (mz_dg d_Mo_number 21 33 (.iconst (1)) 1 rfl) (by decide)) ?_
  refine mz_All.cons (sd_iadd hx hb (mz_dg d_Mo_number 22 34 (.iadd) 1 rfl)) ?_
  refine mz_All.cons (sd_callv (T := T_Mo) ⟨hx, hb, hml, hown, hts⟩ (met_Mo_addDoor w h l) (cwV 2 hts (mz_gV wm_724 wm_726 wm_41 wm_77 wm_727) rfl rfl rfl (by decide) ⟨by decide, by decide⟩) rfl hA rfl (mz_dg d_Mo_number 23 35 (.invokevirtual 75) 3 rfl)) ?_
  refine mz_All.cons (sd_iload_n hx hb (mz_dg d_Mo_number 24 38 (.iload_n 1) 1 rfl) rfl) ?_
  refine mz_All.cons (sd_aload_n hx hb (mz_dg d_Mo_number 25 39 (.aload_n 0) 1 rfl) rfl) ?_
  refine mz_All.cons (sd_get (k := 1) hx hb hts (mz_inC in_Mo) hown (T := T_Mo) (N := 19) rfl (by decide) (hts (.fieldLink "MazeFormsModel" 52 "MazeFormsModel" "width" "I") (List.mem_cons_of_mem _ wm_729)) (fun _ h => h) (mz_dg d_Mo_number 26 40 (.getfield 52) 3 rfl)) ?_
  refine mz_All.cons (sd_idiv hx hb (mz_dg d_Mo_number 27 43 (.idiv) 1 rfl)) ?_
  refine mz_All.cons (sd_aload_n hx hb (mz_dg d_Mo_number 28 44 (.aload_n 0) 1 rfl) rfl) ?_
  refine mz_All.cons (sd_get (k := 2) hx hb hts (mz_inC in_Mo) hown (T := T_Mo) (N := 19) rfl (by decide) (hts (.fieldLink "MazeFormsModel" 55 "MazeFormsModel" "height" "I") (List.mem_cons_of_mem _ wm_730)) (fun _ h => h) (mz_dg d_Mo_number 29 45 (.getfield 55) 3 rfl)) ?_
  refine mz_All.cons (sd_iconst hx hb (mz_dg d_Mo_number 30 48 (.iconst (1)) 1 rfl) (by decide)) ?_
  refine mz_All.cons (sd_isub hx hb (mz_dg d_Mo_number 31 49 (.isub) 1 rfl)) ?_
  refine mz_All.cons (sd_icmp_ge hx hb (mz_dg d_Mo_number 32 50 (.if_icmp .ge (14)) 3 rfl) (by decide)) ?_
  refine mz_All.cons (sd_aload_n hx hb (mz_dg d_Mo_number 33 53 (.aload_n 0) 1 rfl) rfl) ?_
  refine mz_All.cons (sd_iload_n hx hb (mz_dg d_Mo_number 34 54 (.iload_n 1) 1 rfl) rfl) ?_
  refine mz_All.cons (sd_iload_n hx hb (mz_dg d_Mo_number 35 55 (.iload_n 1) 1 rfl) rfl) ?_
  refine mz_All.cons (sd_aload_n hx hb (mz_dg d_Mo_number 36 56 (.aload_n 0) 1 rfl) rfl) ?_
  refine mz_All.cons (sd_get (k := 1) hx hb hts (mz_inC in_Mo) hown (T := T_Mo) (N := 19) rfl (by decide) (hts (.fieldLink "MazeFormsModel" 52 "MazeFormsModel" "width" "I") (List.mem_cons_of_mem _ wm_729)) (fun _ h => h) (mz_dg d_Mo_number 37 57 (.getfield 52) 3 rfl)) ?_
  refine mz_All.cons (sd_iadd hx hb (mz_dg d_Mo_number 38 60 (.iadd) 1 rfl)) ?_
  refine mz_All.cons (sd_callv (T := T_Mo) ⟨hx, hb, hml, hown, hts⟩ (met_Mo_addDoor w h l) (cwV 2 hts (mz_gV wm_724 wm_726 wm_41 wm_77 wm_727) rfl rfl rfl (by decide) ⟨by decide, by decide⟩) rfl hA rfl (mz_dg d_Mo_number 39 61 (.invokevirtual 75) 3 rfl)) ?_
  refine mz_All.cons (sd_iinc hx hb (mz_dg d_Mo_number 40 64 (.iinc 1 (1)) 3 rfl) (by decide) (by decide)) ?_
  refine mz_All.cons (sd_goto hx hb (mz_dg d_Mo_number 41 67 (.goto (-60)) 3 rfl) (by decide)) ?_
  refine mz_All.cons (sd_aload_n hx hb (mz_dg d_Mo_number 42 70 (.aload_n 0) 1 rfl) rfl) ?_
  refine mz_All.cons (sd_iconst hx hb (mz_dg d_Mo_number 43 71 (.iconst (-1)) 1 rfl) (by decide)) ?_
  refine mz_All.cons (sd_puti (k := 15) hx hb hts (mz_inC in_Mo) ty_Mo ty_Mo_ok nm_Mo hown (T := T_Mo) (N := 19) rfl (by decide) (hts (.fieldLink "MazeFormsModel" 38 "MazeFormsModel" "length" "I") (List.mem_cons_of_mem _ wm_743)) (fun _ h => h) rfl rfl (mz_dg d_Mo_number 44 72 (.putfield 38) 3 rfl)) ?_
  refine mz_All.cons (sd_rv hx hb hr hlk (mz_dg d_Mo_number 45 75 (.return_) 1 rfl)) ?_
  exact trivial
theorem met_Mo_number (w h : Nat) (l : Launch) : mz_MV l y_Mo_number w_Mo_number 1 22 mz_cls (C_Mo_number w h) := mz_MV_of (I_Mo_number w h) (by decide) rfl (len_Mo_number w h) (ok_Mo_number w h) (snd_Mo_number w h l)
set_option maxRecDepth 20000 in
theorem snd_Mo_doors (w h : Nat) (l : Launch) (p : Program) (e : Env) (s : State) (m : MethodId) (args : Array Value) (below : List Frame) (meth : Method) (c : Code) (D : va_G) (ad0 : Nat → Nat) (cA0 : Nat → ClassId) (A : Nat → Prop) (lay : List mz_E) (Q : Int32 → mz_X → Prop) (F : mz_F p s m args meth c prog_11_method_23_code 1 y_Mo_doors.cls (some .int) w_Mo_doors) (hA : ∀ q, s.heap.size ≤ q → A q) : mz_All (mz_V p l e (mz_rm 0 0) s m args below meth c 1 lay.length (mz_sz lay) D mz_cls (mz_G0 ad0 cA0) A (MQ below (va_Qi Q (mz_B D mz_cls ad0 cA0 lay A) A) args s 0 0 A)) (mz_qi lay Q) (I_Mo_doors w h) := by
  obtain ⟨hx, hb, hml, hown, hts, hr, hlk⟩ := F
  unfold I_Mo_doors
  refine mz_All.cons (sd_aload_n hx hb (mz_dg d_Mo_doors 0 0 (.aload_n 0) 1 rfl) rfl) ?_
  refine mz_All.cons (sd_iconst hx hb (mz_dg d_Mo_doors 1 1 (.iconst (0)) 1 rfl) (by decide)) ?_
  refine mz_All.cons (sd_puti (k := 0) hx hb hts (mz_inC in_Mo) ty_Mo ty_Mo_ok nm_Mo hown (T := T_Mo) (N := 19) rfl (by decide) (hts (.fieldLink "MazeFormsModel" 65 "MazeFormsModel" "thrown" "I") (List.mem_cons_of_mem _ wm_728)) (fun _ h => h) rfl rfl (mz_dg d_Mo_doors 2 2 (.putfield 65) 3 rfl)) ?_
  refine mz_All.cons (sd_aload_n hx hb (mz_dg d_Mo_doors 3 5 (.aload_n 0) 1 rfl) rfl) ?_
  refine mz_All.cons (sd_get (k := 5) hx hb hts (mz_inC in_Mo) hown (T := T_Mo) (N := 19) rfl (by decide) (hts (.fieldLink "MazeFormsModel" 72 "MazeFormsModel" "doors" "I") (List.mem_cons_of_mem _ wm_733)) (fun _ h => h) (mz_dg d_Mo_doors 4 6 (.getfield 72) 3 rfl)) ?_
  refine mz_All.cons (sd_ri hx hb hr hlk (mz_dg d_Mo_doors 5 9 (.ireturn) 1 rfl)) ?_
  exact trivial
theorem met_Mo_doors (w h : Nat) (l : Launch) : mz_MI l y_Mo_doors w_Mo_doors 0 0 mz_cls (C_Mo_doors w h) := mz_MI_of (I_Mo_doors w h) (by decide) rfl (len_Mo_doors w h) (ok_Mo_doors w h) (snd_Mo_doors w h l)
set_option maxRecDepth 20000 in
theorem snd_Mo_openDoors (w h : Nat) (l : Launch) (p : Program) (e : Env) (s : State) (m : MethodId) (args : Array Value) (below : List Frame) (meth : Method) (c : Code) (D : va_G) (ad0 : Nat → Nat) (cA0 : Nat → ClassId) (A : Nat → Prop) (lay : List mz_E) (Q : Int32 → mz_X → Prop) (F : mz_F p s m args meth c prog_11_method_21_code 3 y_Mo_openDoors.cls (some .int) w_Mo_openDoors) (hA : ∀ q, s.heap.size ≤ q → A q) : mz_All (mz_V p l e (mz_rm 0 0) s m args below meth c 3 lay.length (mz_sz lay) D mz_cls (mz_G0 ad0 cA0) A (MQ below (va_Qi Q (mz_B D mz_cls ad0 cA0 lay A) A) args s 0 0 A)) (mz_qi lay Q) (I_Mo_openDoors w h) := by
  obtain ⟨hx, hb, hml, hown, hts, hr, hlk⟩ := F
  unfold I_Mo_openDoors
  refine mz_All.cons (sd_iconst hx hb (mz_dg d_Mo_openDoors 0 0 (.iconst (0)) 1 rfl) (by decide)) ?_
  refine mz_All.cons (sd_istore_n hx hb (mz_dg d_Mo_openDoors 1 1 (.istore_n 1) 1 rfl) rfl (by decide)) ?_
  refine mz_All.cons (sd_iconst hx hb (mz_dg d_Mo_openDoors 2 2 (.iconst (0)) 1 rfl) (by decide)) ?_
  refine mz_All.cons (sd_istore_n hx hb (mz_dg d_Mo_openDoors 3 3 (.istore_n 2) 1 rfl) rfl (by decide)) ?_
  refine mz_All.cons (sd_iload_n hx hb (mz_dg d_Mo_openDoors 4 4 (.iload_n 2) 1 rfl) rfl) ?_
  refine mz_All.cons (sd_aload_n hx hb (mz_dg d_Mo_openDoors 5 5 (.aload_n 0) 1 rfl) rfl) ?_
  refine mz_All.cons (sd_get (k := 5) hx hb hts (mz_inC in_Mo) hown (T := T_Mo) (N := 19) rfl (by decide) (hts (.fieldLink "MazeFormsModel" 72 "MazeFormsModel" "doors" "I") (List.mem_cons_of_mem _ wm_733)) (fun _ h => h) (mz_dg d_Mo_openDoors 6 6 (.getfield 72) 3 rfl)) ?_
  refine mz_All.cons (sd_icmp_ge hx hb (mz_dg d_Mo_openDoors 7 9 (.if_icmp .ge (26)) 3 rfl) (by decide)) ?_
  refine mz_All.cons (sd_iload_n hx hb (mz_dg d_Mo_openDoors 8 12 (.iload_n 1) 1 rfl) rfl) ?_
  refine mz_All.cons (sd_aload_n hx hb (mz_dg d_Mo_openDoors 9 13 (.aload_n 0) 1 rfl) rfl) ?_
  refine mz_All.cons (sd_get (k := 8) hx hb hts (mz_inC in_Mo) hown (T := T_Mo) (N := 19) rfl (by decide) (hts (.fieldLink "MazeFormsModel" 20 "MazeFormsModel" "isOpen" "[Z") (List.mem_cons_of_mem _ wm_736)) (fun _ h => h) (mz_dg d_Mo_openDoors 10 14 (.getfield 20) 3 rfl)) ?_
  refine mz_All.cons (sd_iload_n hx hb (mz_dg d_Mo_openDoors 11 17 (.iload_n 2) 1 rfl) rfl) ?_
  refine mz_All.cons (sd_zald hx hb (mz_dg d_Mo_openDoors 12 18 (.baload) 1 rfl)) ?_
  refine mz_All.cons (sd_if_eq hx hb (mz_dg d_Mo_openDoors 13 19 (.ifCond .eq (7)) 3 rfl) (by decide)) ?_
  refine mz_All.cons (sd_iconst hx hb (mz_dg d_Mo_openDoors 14 22 (.iconst (1)) 1 rfl) (by decide)) ?_
  refine mz_All.cons (sd_goto hx hb (mz_dg d_Mo_openDoors 15 23 (.goto (4)) 3 rfl) (by decide)) ?_
  refine mz_All.cons (sd_iconst hx hb (mz_dg d_Mo_openDoors 16 26 (.iconst (0)) 1 rfl) (by decide)) ?_
  refine mz_All.cons (sd_iadd hx hb (mz_dg d_Mo_openDoors 17 27 (.iadd) 1 rfl)) ?_
  refine mz_All.cons (sd_istore_n hx hb (mz_dg d_Mo_openDoors 18 28 (.istore_n 1) 1 rfl) rfl (by decide)) ?_
  refine mz_All.cons (sd_iinc hx hb (mz_dg d_Mo_openDoors 19 29 (.iinc 2 (1)) 3 rfl) (by decide) (by decide)) ?_
  refine mz_All.cons (sd_goto hx hb (mz_dg d_Mo_openDoors 20 32 (.goto (-28)) 3 rfl) (by decide)) ?_
  refine mz_All.cons (sd_iload_n hx hb (mz_dg d_Mo_openDoors 21 35 (.iload_n 1) 1 rfl) rfl) ?_
  refine mz_All.cons (sd_ri hx hb hr hlk (mz_dg d_Mo_openDoors 22 36 (.ireturn) 1 rfl)) ?_
  exact trivial
theorem met_Mo_openDoors (w h : Nat) (l : Launch) : mz_MI l y_Mo_openDoors w_Mo_openDoors 0 0 mz_cls (C_Mo_openDoors w h) := mz_MI_of (I_Mo_openDoors w h) (by decide) rfl (len_Mo_openDoors w h) (ok_Mo_openDoors w h) (snd_Mo_openDoors w h l)
set_option maxRecDepth 20000 in
theorem snd_Mo_cellsThere (w h : Nat) (l : Launch) (p : Program) (e : Env) (s : State) (m : MethodId) (args : Array Value) (below : List Frame) (meth : Method) (c : Code) (D : va_G) (ad0 : Nat → Nat) (cA0 : Nat → ClassId) (A : Nat → Prop) (lay : List mz_E) (Q : Int32 → mz_X → Prop) (F : mz_F p s m args meth c prog_11_method_36_code 3 y_Mo_cellsThere.cls (some .int) w_Mo_cellsThere) (hA : ∀ q, s.heap.size ≤ q → A q) : mz_All (mz_V p l e (mz_rm 1 20) s m args below meth c 3 lay.length (mz_sz lay) D mz_cls (mz_G0 ad0 cA0) A (MQ below (va_Qi Q (mz_B D mz_cls ad0 cA0 lay A) A) args s 0 0 A)) (mz_qi lay Q) (I_Mo_cellsThere w h) := by
  obtain ⟨hx, hb, hml, hown, hts, hr, hlk⟩ := F
  unfold I_Mo_cellsThere
  refine mz_All.cons (sd_iconst hx hb (mz_dg d_Mo_cellsThere 0 0 (.iconst (0)) 1 rfl) (by decide)) ?_
  refine mz_All.cons (sd_istore_n hx hb (mz_dg d_Mo_cellsThere 1 1 (.istore_n 1) 1 rfl) rfl (by decide)) ?_
  refine mz_All.cons (sd_iconst hx hb (mz_dg d_Mo_cellsThere 2 2 (.iconst (0)) 1 rfl) (by decide)) ?_
  refine mz_All.cons (sd_istore_n hx hb (mz_dg d_Mo_cellsThere 3 3 (.istore_n 2) 1 rfl) rfl (by decide)) ?_
  refine mz_All.cons (sd_iload_n hx hb (mz_dg d_Mo_cellsThere 4 4 (.iload_n 2) 1 rfl) rfl) ?_
  refine mz_All.cons (sd_aload_n hx hb (mz_dg d_Mo_cellsThere 5 5 (.aload_n 0) 1 rfl) rfl) ?_
  refine mz_All.cons (sd_calli (T := T_Mo) ⟨hx, hb, hml, hown, hts⟩ (met_Mo_cells w h l) (cwV 0 hts (mz_gV wm_720 wm_722 wm_40 wm_77 wm_723) rfl rfl rfl (by decide) ⟨by decide, by decide⟩) rfl hA rfl (mz_dg d_Mo_cellsThere 6 6 (.invokevirtual 68) 3 rfl)) ?_
  refine mz_All.cons (sd_icmp_ge hx hb (mz_dg d_Mo_cellsThere 7 9 (.if_icmp .ge (26)) 3 rfl) (by decide)) ?_
  refine mz_All.cons (sd_iload_n hx hb (mz_dg d_Mo_cellsThere 8 12 (.iload_n 1) 1 rfl) rfl) ?_
  refine mz_All.cons (sd_aload_n hx hb (mz_dg d_Mo_cellsThere 9 13 (.aload_n 0) 1 rfl) rfl) ?_
  refine mz_All.cons (sd_get (k := 4) hx hb hts (mz_inC in_Mo) hown (T := T_Mo) (N := 19) rfl (by decide) (hts (.fieldLink "MazeFormsModel" 7 "MazeFormsModel" "masked" "[Z") (List.mem_cons_of_mem _ wm_732)) (fun _ h => h) (mz_dg d_Mo_cellsThere 10 14 (.getfield 7) 3 rfl)) ?_
  refine mz_All.cons (sd_iload_n hx hb (mz_dg d_Mo_cellsThere 11 17 (.iload_n 2) 1 rfl) rfl) ?_
  refine mz_All.cons (sd_zald hx hb (mz_dg d_Mo_cellsThere 12 18 (.baload) 1 rfl)) ?_
  refine mz_All.cons (sd_if_eq hx hb (mz_dg d_Mo_cellsThere 13 19 (.ifCond .eq (7)) 3 rfl) (by decide)) ?_
  refine mz_All.cons (sd_iconst hx hb (mz_dg d_Mo_cellsThere 14 22 (.iconst (0)) 1 rfl) (by decide)) ?_
  refine mz_All.cons (sd_goto hx hb (mz_dg d_Mo_cellsThere 15 23 (.goto (4)) 3 rfl) (by decide)) ?_
  refine mz_All.cons (sd_iconst hx hb (mz_dg d_Mo_cellsThere 16 26 (.iconst (1)) 1 rfl) (by decide)) ?_
  refine mz_All.cons (sd_iadd hx hb (mz_dg d_Mo_cellsThere 17 27 (.iadd) 1 rfl)) ?_
  refine mz_All.cons (sd_istore_n hx hb (mz_dg d_Mo_cellsThere 18 28 (.istore_n 1) 1 rfl) rfl (by decide)) ?_
  refine mz_All.cons (sd_iinc hx hb (mz_dg d_Mo_cellsThere 19 29 (.iinc 2 (1)) 3 rfl) (by decide) (by decide)) ?_
  refine mz_All.cons (sd_goto hx hb (mz_dg d_Mo_cellsThere 20 32 (.goto (-28)) 3 rfl) (by decide)) ?_
  refine mz_All.cons (sd_iload_n hx hb (mz_dg d_Mo_cellsThere 21 35 (.iload_n 1) 1 rfl) rfl) ?_
  refine mz_All.cons (sd_ri hx hb hr hlk (mz_dg d_Mo_cellsThere 22 36 (.ireturn) 1 rfl)) ?_
  exact trivial
theorem met_Mo_cellsThere (w h : Nat) (l : Launch) : mz_MI l y_Mo_cellsThere w_Mo_cellsThere 1 20 mz_cls (C_Mo_cellsThere w h) := mz_MI_of (I_Mo_cellsThere w h) (by decide) rfl (len_Mo_cellsThere w h) (ok_Mo_cellsThere w h) (snd_Mo_cellsThere w h l)
set_option maxRecDepth 20000 in
theorem snd_Mo_set (w h : Nat) (l : Launch) (p : Program) (e : Env) (s : State) (m : MethodId) (args : Array Value) (below : List Frame) (meth : Method) (c : Code) (D : va_G) (ad0 : Nat → Nat) (cA0 : Nat → ClassId) (A : Nat → Prop) (lay : List mz_E) (Q : Int32 → mz_X → Prop) (F : mz_F p s m args meth c prog_11_method_25_code 3 y_Mo_set.cls (some .boolean) w_Mo_set) (hA : ∀ q, s.heap.size ≤ q → A q) : mz_All (mz_V p l e (mz_rm 0 0) s m args below meth c 3 lay.length (mz_sz lay) D mz_cls (mz_G0 ad0 cA0) A (MQ below (va_Qi Q (mz_B D mz_cls ad0 cA0 lay A) A) args s 0 0 A)) (mz_qi lay Q) (I_Mo_set w h) := by
  obtain ⟨hx, hb, hml, hown, hts, hr, hlk⟩ := F
  unfold I_Mo_set
  refine mz_All.cons (sd_aload_n hx hb (mz_dg d_Mo_set 0 0 (.aload_n 0) 1 rfl) rfl) ?_
  refine mz_All.cons (sd_iconst hx hb (mz_dg d_Mo_set 1 1 (.iconst (0)) 1 rfl) (by decide)) ?_
  refine mz_All.cons (sd_puti (k := 0) hx hb hts (mz_inC in_Mo) ty_Mo ty_Mo_ok nm_Mo hown (T := T_Mo) (N := 19) rfl (by decide) (hts (.fieldLink "MazeFormsModel" 65 "MazeFormsModel" "thrown" "I") (List.mem_cons_of_mem _ wm_728)) (fun _ h => h) rfl rfl (mz_dg d_Mo_set 2 2 (.putfield 65) 3 rfl)) ?_
  refine mz_All.cons (sd_iload_n hx hb (mz_dg d_Mo_set 3 5 (.iload_n 1) 1 rfl) rfl) ?_
  refine mz_All.cons (sd_if_lt hx hb (mz_dg d_Mo_set 4 6 (.ifCond .lt (21)) 3 rfl) (by decide)) ?_
  refine mz_All.cons (sd_iload_n hx hb (mz_dg d_Mo_set 5 9 (.iload_n 1) 1 rfl) rfl) ?_
  refine mz_All.cons (sd_aload_n hx hb (mz_dg d_Mo_set 6 10 (.aload_n 0) 1 rfl) rfl) ?_
  refine mz_All.cons (sd_get (k := 5) hx hb hts (mz_inC in_Mo) hown (T := T_Mo) (N := 19) rfl (by decide) (hts (.fieldLink "MazeFormsModel" 72 "MazeFormsModel" "doors" "I") (List.mem_cons_of_mem _ wm_733)) (fun _ h => h) (mz_dg d_Mo_set 7 11 (.getfield 72) 3 rfl)) ?_
  refine mz_All.cons (sd_icmp_ge hx hb (mz_dg d_Mo_set 8 14 (.if_icmp .ge (13)) 3 rfl) (by decide)) ?_
  refine mz_All.cons (sd_aload_n hx hb (mz_dg d_Mo_set 9 17 (.aload_n 0) 1 rfl) rfl) ?_
  refine mz_All.cons (sd_get (k := 8) hx hb hts (mz_inC in_Mo) hown (T := T_Mo) (N := 19) rfl (by decide) (hts (.fieldLink "MazeFormsModel" 20 "MazeFormsModel" "isOpen" "[Z") (List.mem_cons_of_mem _ wm_736)) (fun _ h => h) (mz_dg d_Mo_set 10 18 (.getfield 20) 3 rfl)) ?_
  refine mz_All.cons (sd_iload_n hx hb (mz_dg d_Mo_set 11 21 (.iload_n 1) 1 rfl) rfl) ?_
  refine mz_All.cons (sd_zald hx hb (mz_dg d_Mo_set 12 22 (.baload) 1 rfl)) ?_
  refine mz_All.cons (sd_iload_n hx hb (mz_dg d_Mo_set 13 23 (.iload_n 2) 1 rfl) rfl) ?_
  refine mz_All.cons (sd_icmp_ne hx hb (mz_dg d_Mo_set 14 24 (.if_icmp .ne (5)) 3 rfl) (by decide)) ?_
  refine mz_All.cons (sd_iconst hx hb (mz_dg d_Mo_set 15 27 (.iconst (0)) 1 rfl) (by decide)) ?_
  refine mz_All.cons (sd_rz hx hb hr hlk (mz_dg d_Mo_set 16 28 (.ireturn) 1 rfl)) ?_
  refine mz_All.cons (sd_aload_n hx hb (mz_dg d_Mo_set 17 29 (.aload_n 0) 1 rfl) rfl) ?_
  refine mz_All.cons (sd_get (k := 8) hx hb hts (mz_inC in_Mo) hown (T := T_Mo) (N := 19) rfl (by decide) (hts (.fieldLink "MazeFormsModel" 20 "MazeFormsModel" "isOpen" "[Z") (List.mem_cons_of_mem _ wm_736)) (fun _ h => h) (mz_dg d_Mo_set 18 30 (.getfield 20) 3 rfl)) ?_
  refine mz_All.cons (sd_iload_n hx hb (mz_dg d_Mo_set 19 33 (.iload_n 1) 1 rfl) rfl) ?_
  refine mz_All.cons (sd_iload_n hx hb (mz_dg d_Mo_set 20 34 (.iload_n 2) 1 rfl) rfl) ?_
  refine mz_All.cons (sd_zast hx hb (mz_dg d_Mo_set 21 35 (.bastore) 1 rfl)) ?_
  refine mz_All.cons (sd_aload_n hx hb (mz_dg d_Mo_set 22 36 (.aload_n 0) 1 rfl) rfl) ?_
  refine mz_All.cons (sd_iconst hx hb (mz_dg d_Mo_set 23 37 (.iconst (-1)) 1 rfl) (by decide)) ?_
  refine mz_All.cons (sd_puti (k := 15) hx hb hts (mz_inC in_Mo) ty_Mo ty_Mo_ok nm_Mo hown (T := T_Mo) (N := 19) rfl (by decide) (hts (.fieldLink "MazeFormsModel" 38 "MazeFormsModel" "length" "I") (List.mem_cons_of_mem _ wm_743)) (fun _ h => h) rfl rfl (mz_dg d_Mo_set 24 38 (.putfield 38) 3 rfl)) ?_
  refine mz_All.cons (sd_iconst hx hb (mz_dg d_Mo_set 25 41 (.iconst (1)) 1 rfl) (by decide)) ?_
  refine mz_All.cons (sd_rz hx hb hr hlk (mz_dg d_Mo_set 26 42 (.ireturn) 1 rfl)) ?_
  exact trivial
theorem met_Mo_set (w h : Nat) (l : Launch) : mz_MI l y_Mo_set w_Mo_set 0 0 mz_cls (C_Mo_set w h) := mz_MI_of (I_Mo_set w h) (by decide) rfl (len_Mo_set w h) (ok_Mo_set w h) (snd_Mo_set w h l)
