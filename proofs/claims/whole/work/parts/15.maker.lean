/-- make by a way -/
def zm_way (w h D N : Nat) (X : mz_X) (way : Int32) : mz_X :=
  if way = 0 then zm_deep w h X else if way = 1 then zm_sets w h D X else if way = 2 then zm_grow w h D X else if way = 3 then zm_wal w h N X else zm_ks w h X (w * h)
def zm_bB (way : Int32) : Bool := !decide (way < 0) && decide (way ≤ 4)
def zm_bX (w h D N : Nat) (X : mz_X) (way : Int32) : mz_X := match zm_bB way with
  | true => zm_way w h D N (zm_o0 (zg_closeX w h X)) way
  | false => X
def zm_bV (w h D N : Nat) (X : mz_X) (way : Int32) : Int32 := match zm_bB way with
  | true => (zm_bX w h D N X way).1 12 6
  | false => -1
def C_Mk_build (w h : Nat) : mz_CI := fun lay as X Q => match as with
  | [.ref 12, .int way] => lay = mz_lay w h ∧ mz_geo w h ∧ ∃ D N : Nat, zm_D w h D X ∧ N = 1000000 ∧ Q (zm_bV w h D N X way) (zm_bX w h D N X way)
  | _ => False
def y_Mk_joinSets : MethodName := ⟨"MazeForms$Maker", "joinSets", "()V"⟩
abbrev w_Mk_joinSets : List Cond := .code y_Mk_joinSets prog_7_method_12_code 3 none :: mz_tb
def dl_Mk_joinSets : List (Nat × ClassFile.Instr × Nat) := [(0, .aload_n 0, 1), (1, .getfield 34, 3), (4, .invokevirtual 71, 3), (7, .iconst (0), 1), (8, .istore_n 1, 1), (9, .iload_n 1, 1), (10, .aload_n 0, 1), (11, .getfield 9, 3), (14, .invokevirtual 74, 3), (17, .if_icmp .ge (17), 3), (20, .aload_n 0, 1), (21, .getfield 34, 3), (24, .iload_n 1, 1), (25, .invokevirtual 81, 3), (28, .iinc 1 (1), 3), (31, .goto (-22), 3), (34, .aload_n 0, 1), (35, .getfield 34, 3), (38, .invokevirtual 131, 3), (41, .aload_n 0, 1), (42, .getfield 15, 3), (45, .invokevirtual 134, 3), (48, .iconst (0), 1), (49, .istore_n 1, 1), (50, .iload_n 1, 1), (51, .aload_n 0, 1), (52, .getfield 34, 3), (55, .invokevirtual 85, 3), (58, .if_icmp .ge (34), 3), (61, .aload_n 0, 1), (62, .getfield 34, 3), (65, .iload_n 1, 1), (66, .invokevirtual 139, 3), (69, .istore_n 2, 1), (70, .aload_n 0, 1), (71, .getfield 15, 3), (74, .iload_n 2, 1), (75, .invokevirtual 142, 3), (78, .ifCond .eq (8), 3), (81, .aload_n 0, 1), (82, .iload_n 2, 1), (83, .invokevirtual 91, 3), (86, .iinc 1 (1), 3), (89, .goto (-39), 3), (92, .return_, 1)]
theorem d_Mk_joinSets : mz_dec prog_7_method_12_code dl_Mk_joinSets = true := by decide +kernel
def y_Mk_build : MethodName := ⟨"MazeForms$Maker", "build", "(I)I"⟩
abbrev w_Mk_build : List Cond := .code y_Mk_build prog_7_method_2_code 2 (some .int) :: mz_tb
def dl_Mk_build : List (Nat × ClassFile.Instr × Nat) := [(0, .iload_n 1, 1), (1, .ifCond .lt (8), 3), (4, .iload_n 1, 1), (5, .iconst (4), 1), (6, .if_icmp .le (5), 3), (9, .iconst (-1), 1), (10, .ireturn, 1), (11, .aload_n 0, 1), (12, .getfield 9, 3), (15, .invokevirtual 49, 3), (18, .aload_n 0, 1), (19, .iconst (0), 1), (20, .putfield 52, 3), (23, .iload_n 1, 1), (24, .tableswitch (60) (0) (3) #[32, 39, 46, 53], 32), (56, .aload_n 0, 1), (57, .invokevirtual 56, 3), (60, .goto (28), 3), (63, .aload_n 0, 1), (64, .invokevirtual 59, 3), (67, .goto (21), 3), (70, .aload_n 0, 1), (71, .invokevirtual 62, 3), (74, .goto (14), 3), (77, .aload_n 0, 1), (78, .invokevirtual 65, 3), (81, .goto (7), 3), (84, .aload_n 0, 1), (85, .invokevirtual 68, 3), (88, .aload_n 0, 1), (89, .getfield 52, 3), (92, .ireturn, 1)]
theorem d_Mk_build : mz_dec prog_7_method_2_code dl_Mk_build = true := by decide +kernel
def I_Mk_joinSets (w h : Nat) : List (Nat × mz_Op) := [(0, mz_lda 0 1), (1, mz_gf 5 3 4), (4, mz_cvo 1 1 (C_Dr_clear w h) 7), (7, mz_push (.int (0)) 8), (8, mz_sti 1 9), (9, mz_ldi 1 10), (10, mz_lda 0 11), (11, mz_gf 5 0 14), (14, mz_ci 1 3 (C_Gr_doorCount w h) 17), (17, mz_ic (fun x y => y ≤ x) 34 20), (20, mz_lda 0 21), (21, mz_gf 5 3 24), (24, mz_ldi 1 25), (25, mz_cvo 2 1 (C_Dr_add w h) 28), (28, mz_inc 1 (1) 31), (31, mz_go 9), (34, mz_lda 0 35), (35, mz_gf 5 3 38), (38, mz_cvo 1 1 (C_Dr_shuffle w h) 41), (41, mz_lda 0 42), (42, mz_gf 5 1 45), (45, mz_cvo 1 4 (C_Jo_reset w h) 48), (48, mz_push (.int (0)) 49), (49, mz_sti 1 50), (50, mz_ldi 1 51), (51, mz_lda 0 52), (52, mz_gf 5 3 55), (55, mz_ci 1 1 (C_Dr_count w h) 58), (58, mz_ic (fun x y => y ≤ x) 92 61), (61, mz_lda 0 62), (62, mz_gf 5 3 65), (65, mz_ldi 1 66), (66, mz_ci 2 1 (C_Dr_doorAt w h) 69), (69, mz_sti 2 70), (70, mz_lda 0 71), (71, mz_gf 5 1 74), (74, mz_ldi 2 75), (75, mz_ci 2 4 (C_Jo_joinBy w h) 78), (78, mz_if (fun x => x = 0) 86 81), (81, mz_lda 0 82), (82, mz_ldi 2 83), (83, mz_cvo 2 5 (C_Mk_openDoor w h) 86), (86, mz_inc 1 (1) 89), (89, mz_go 50), (92, mz_rv)]
def I_Mk_build (w h : Nat) : List (Nat × mz_Op) := [(0, mz_ldi 1 1), (1, mz_if (fun x => x < 0) 9 4), (4, mz_ldi 1 5), (5, mz_push (.int (4)) 6), (6, mz_ic (fun x y => x ≤ y) 11 9), (9, mz_push (.int (-1)) 10), (10, mz_ri), (11, mz_lda 0 12), (12, mz_gf 5 0 15), (15, mz_cvo 1 3 (C_Gr_closeDoors w h) 18), (18, mz_lda 0 19), (19, mz_push (.int (0)) 20), (20, mz_pfi 5 6 23), (23, mz_ldi 1 24), (24, mz_tsw (0) [56, 63, 70, 77] 84), (56, mz_lda 0 57), (57, mz_cvo 1 5 (C_Mk_goDeep w h) 60), (60, mz_go 88), (63, mz_lda 0 64), (64, mz_cvo 1 5 (C_Mk_joinSets w h) 67), (67, mz_go 88), (70, mz_lda 0 71), (71, mz_cvo 1 5 (C_Mk_grow w h) 74), (74, mz_go 88), (77, mz_lda 0 78), (78, mz_cvo 1 5 (C_Mk_walkAll w h) 81), (81, mz_go 88), (84, mz_lda 0 85), (85, mz_cvo 1 5 (C_Mk_comb w h) 88), (88, mz_lda 0 89), (89, mz_gf 5 6 92), (92, mz_ri)]
theorem zr_add_cnt {w h k : Nat} {X : mz_X} {d : Int32} (hd : ¬ d = -1) (hk : k < mz_dn w h) (g : mz_geo w h) (hX : X.1 14 2 = nI k) : (zr_add w h X d).1 14 2 = nI (k + 1) := by
  have hg := mz_geo_d g
  have e : zr_addB w h X d = true := by
    simp only [zr_addB, Bool.and_eq_true, Bool.not_eq_true', decide_eq_false_iff_not, hX]
    exact ⟨⟨hd, nI_pos (by omega)⟩, nI_ge hk (by omega)⟩
  unfold zr_add
  rw [e]
  show mz_up (mz_up X.1 15 (X.1 14 2).toNatClampNeg d) 14 2 (X.1 14 2 + 1) 14 2 = nI (k + 1)
  rw [mz_up_row]
  dsimp only
  rw [if_pos rfl, hX, nI_1]
theorem mz_nI_m1 {i : Nat} (h : i < 2 ^ 31) : ¬ nI i = -1 := by
  intro q
  have h1 := nI_toInt h
  rw [q] at h1
  have h2 : (-1 : Int32).toInt = -1 := by decide
  omega
theorem zm_ro_keep {w h p i : Nat} (hp : p ≠ 14) (hp2 : p ≠ 15) (X : mz_X) : ∀ k, (zm_ro w h X k).1 p i = X.1 p i
  | 0 => zr_clr_keep hp X
  | k + 1 => (zr_add_keep hp hp2 _ _).trans (zm_ro_keep hp hp2 X k)
theorem zm_ro_cnt {w h : Nat} (g : mz_geo w h) (X : mz_X) : ∀ k, k ≤ mz_dn w h → (zm_ro w h X k).1 14 2 = nI k
  | 0, _ => by
    show mz_up X.1 14 2 0 14 2 = nI 0
    rw [mz_up_row]
    dsimp only
    rw [if_pos rfl, nI_0]
  | k + 1, hk => zr_add_cnt (mz_nI_m1 (by have := mz_geo_d g; omega)) (by omega) g (zm_ro_cnt g X k (by omega))
theorem zc_X_1 (X : mz_X) (n : Int32) : (zc_X X n).1 = X.1 := by
  unfold zc_X
  split <;> rfl
theorem zr_exc_keep {w h p i : Nat} (hp2 : p ≠ 15) (X : mz_X) (a b : Int32) : (zr_exc w h X a b).1 p i = X.1 p i := by
  unfold zr_exc
  split
  · rfl
  · show mz_up (mz_up X.1 15 _ _) 15 _ _ p i = X.1 p i
    rw [mz_up_off hp2, mz_up_off hp2]
theorem zr_shu_keep {w h p i : Nat} (hp2 : p ≠ 15) : ∀ (k : Nat) (X : mz_X), (zr_shu w h X k).1 p i = X.1 p i
  | 0, X => rfl
  | k + 1, X => by
    show (zr_shu w h _ k).1 p i = X.1 p i
    rw [zr_shu_keep hp2 k, zr_exc_keep hp2, zc_X_1]
theorem zm_od_keep {w h p i : Nat} (h6 : p ≠ 6) (h12 : p ≠ 12) (h1 : p ≠ 1 ∨ i ≠ 8) (X : mz_X) (d : Int32) : (zm_od w h X d).1 p i = X.1 p i := by
  cases e : zg_setB w h X d 1 with
  | true =>
    rw [zm_od_t e]
    show mz_up (zg_setX X d 1).1 12 6 ((zg_setX X d 1).1 12 6 + 1) p i = X.1 p i
    rw [mz_up_off h12, zg_setX_keep h6 h1]
  | false => rw [zm_od_f e]
theorem zm_jS_t {w h i : Nat} {X : mz_X} (e : zj_joB w h X (zr_at w h X (nI i)) = true) : zm_jS w h X i = zm_od w h (zj_joX w h X (zr_at w h X (nI i))) (zr_at w h X (nI i)) := by
  unfold zm_jS
  rw [e]
theorem zm_jS_f {w h i : Nat} {X : mz_X} (e : zj_joB w h X (zr_at w h X (nI i)) = false) : zm_jS w h X i = zj_joX w h X (zr_at w h X (nI i)) := by
  unfold zm_jS
  rw [e]
theorem zm_jS_keep {w h j p i : Nat} (h6 : p ≠ 6) (h12 : p ≠ 12) (h8 : p ≠ 8) (h1 : p ≠ 1 ∨ i ≠ 8) (X : mz_X) : (zm_jS w h X j).1 p i = X.1 p i := by
  cases e : zj_joB w h X (zr_at w h X (nI j)) with
  | true => rw [zm_jS_t e, zm_od_keep h6 h12 h1, zj_jo_keep h8]
  | false => rw [zm_jS_f e, zj_jo_keep h8]
theorem zm_js_keep {w h p i : Nat} (h6 : p ≠ 6) (h12 : p ≠ 12) (h8 : p ≠ 8) (h1 : p ≠ 1 ∨ i ≠ 8) (X : mz_X) : ∀ k, (zm_js w h X k).1 p i = X.1 p i
  | 0 => rfl
  | k + 1 => (zm_jS_keep h6 h12 h8 h1 _).trans (zm_js_keep h6 h12 h8 h1 X k)
theorem zj_ok_of {w h : Nat} {X Y : mz_X} (hX : zj_ok w h X) (e : ∀ i, Y.1 8 i = X.1 8 i) : zj_ok w h Y := fun i hi => by
  rw [e i]
  exact hX i hi
theorem zm_jS_ok {w h j : Nat} (g : mz_geo w h) {X : mz_X} (hX : zj_ok w h X) : zj_ok w h (zm_jS w h X j) := by
  cases e : zj_joB w h X (zr_at w h X (nI j)) with
  | true =>
    rw [zm_jS_t e]
    exact zj_ok_of (zj_joX_ok g _ hX) (fun i => zm_od_keep (by decide) (by decide) (Or.inl (by decide)) _ _)
  | false =>
    rw [zm_jS_f e]
    exact zj_joX_ok g _ hX
theorem zm_js_ok {w h : Nat} (g : mz_geo w h) {X : mz_X} (hX : zj_ok w h X) : ∀ k, zj_ok w h (zm_js w h X k)
  | 0 => hX
  | k + 1 => zm_jS_ok g (zm_js_ok g hX k)
theorem zj_idn_keep {k p i : Nat} (hp : p ≠ 8) (X : mz_X) : (zj_idn X k).1 p i = X.1 p i := by
  simp only [zj_idn]
  rw [if_neg (fun q => hp q.1)]
theorem zg_closeX_keep {w h p i : Nat} (h6 : p ≠ 6) (h1 : p ≠ 1 ∨ i ≠ 8) (X : mz_X) : (zg_closeX w h X).1 p i = X.1 p i := by
  simp only [zg_closeX, mz_up, mz_fil]
  rcases h1 with h1 | h1
  · rw [if_neg h1, if_neg (fun q => h6 q.1)]
  · by_cases hp : p = 1
    · rw [if_pos hp, if_neg h1, if_neg (fun q => h6 q.1)]
    · rw [if_neg hp, if_neg (fun q => h6 q.1)]
theorem zm_bX_t {w h D N : Nat} {X : mz_X} {way : Int32} (e : zm_bB way = true) : zm_bX w h D N X way = zm_way w h D N (zm_o0 (zg_closeX w h X)) way := by
  unfold zm_bX
  rw [e]
theorem zm_bX_f {w h D N : Nat} {X : mz_X} {way : Int32} (e : zm_bB way = false) : zm_bX w h D N X way = X := by
  unfold zm_bX
  rw [e]
theorem zm_bV_t {w h D N : Nat} {X : mz_X} {way : Int32} (e : zm_bB way = true) : zm_bV w h D N X way = (zm_bX w h D N X way).1 12 6 := by
  unfold zm_bV
  rw [e]
theorem zm_bV_f {w h D N : Nat} {X : mz_X} {way : Int32} (e : zm_bB way = false) : zm_bV w h D N X way = -1 := by
  unfold zm_bV
  rw [e]
theorem len_Mk_joinSets (w h : Nat) (lay : List mz_E) (as : List Value) (X : mz_X) (Q : mz_X → Prop) (hC : C_Mk_joinSets w h lay as X Q) : (mz_l0 as).length ≤ 3 := by
  unfold C_Mk_joinSets at hC
  split at hC
  · exact Nat.le_of_ble_eq_true rfl
  · exact hC.elim
theorem ok_Mk_joinSets (w h : Nat) (lay : List mz_E) (as : List Value) (X : mz_X) (Q : mz_X → Prop) (hC : C_Mk_joinSets w h lay as X Q) (K : mz_K) (hK : mz_Cl (I_Mk_joinSets w h) (mz_qv lay Q) K) : K 0 (mz_ent 3 as) [] (lay, X) := by
  unfold C_Mk_joinSets at hC
  split at hC
  ·
    obtain ⟨rfl, g, D, hD, hq⟩ := hC
    have hd := mz_geo_d g
    have hDd := hD.1
    have l2 : ∀ (Z : mz_X), zj_ok w h Z → Z.1 14 2 = nI D → Q (zm_js w h Z D) → ∀ (k i : Nat), i + k = D → ∀ L2 : Option Value, K 50 [some (.ref 12), some (.int (nI i)), L2] [] (mz_lay w h, zm_js w h Z i) := by
      intro Z hZ hZ2 hZQ k
      induction k with
      | zero =>
        intro i hi L2
        have hc : (zm_js w h Z i).1 14 2 = nI D := by rw [zm_js_keep (by decide) (by decide) (by decide) (Or.inl (by decide)), hZ2]
        iterate 3 refine hK _ _ _ _ ?_
        refine hK _ _ _ _ (And.intro (rfl) (And.intro (g) ?_))
        refine hK _ _ _ _ (And.intro (fun c1 => ?_) (fun c1 => ?_))
        · exact hK _ _ _ _ (And.intro rfl (by rw [show i = D by omega]; exact hZQ))
        · dsimp only at c1
          rw [hc] at c1
          exact absurd (nI_le (a := D) (b := i) (by omega) (by omega)) c1
      | succ k ih =>
        intro i hi L2
        have hc : (zm_js w h Z i).1 14 2 = nI D := by rw [zm_js_keep (by decide) (by decide) (by decide) (Or.inl (by decide)), hZ2]
        have hok := zm_js_ok g hZ i
        have ih1 := ih (i + 1) (by omega)
        rw [show zm_js w h Z (i + 1) = zm_jS w h (zm_js w h Z i) i from rfl, ← nI_1] at ih1
        generalize zm_js w h Z i = Y at ih1 hc hok ⊢
        iterate 3 refine hK _ _ _ _ ?_
        refine hK _ _ _ _ (And.intro (rfl) (And.intro (g) ?_))
        refine hK _ _ _ _ (And.intro (fun c1 => ?_) (fun c1 => ?_))
        · dsimp only at c1
          rw [hc] at c1
          exact absurd c1 (nI_ge (by omega) (by omega))
        · iterate 3 refine hK _ _ _ _ ?_
          refine hK _ _ _ _ (And.intro (rfl) (And.intro (g) ?_))
          iterate 4 refine hK _ _ _ _ ?_
          refine hK _ _ _ _ (And.intro (rfl) (And.intro (g) (And.intro (hok) ?_)))
          refine hK _ _ _ _ (And.intro (fun c2 => ?_) (fun c2 => ?_))
          · rw [zm_jS_f (mz_b0 c2)] at ih1
            iterate 2 refine hK _ _ _ _ ?_
            exact ih1 _
          · rw [zm_jS_t (mz_b1 c2)] at ih1
            iterate 2 refine hK _ _ _ _ ?_
            refine hK _ _ _ _ (And.intro (rfl) (And.intro (g) ?_))
            iterate 2 refine hK _ _ _ _ ?_
            exact ih1 _
    have l1 : ∀ (k i : Nat), i + k = D → K 9 [some (.ref 12), some (.int (nI i)), none] [] (mz_lay w h, zm_ro w h X i) := by
      intro k
      induction k with
      | zero =>
        intro i hi
        have ei : i = D := by omega
        have h7 : (zm_ro w h X i).1 1 7 = nI D := by rw [zm_ro_keep (by decide) (by decide), hD.2]
        have hcn := zm_ro_cnt g X i (by omega)
        rw [ei] at hcn
        iterate 3 refine hK _ _ _ _ ?_
        refine hK _ _ _ _ (And.intro (rfl) (And.intro (g) ?_))
        refine hK _ _ _ _ (And.intro (fun c1 => ?_) (fun c1 => ?_))
        · iterate 2 refine hK _ _ _ _ ?_
          refine hK _ _ _ _ (And.intro rfl (And.intro g (Exists.intro D (And.intro hDd (And.intro (by rw [ei]; exact hcn) ?_)))))
          iterate 2 refine hK _ _ _ _ ?_
          refine hK _ _ _ _ (And.intro (rfl) (And.intro (g) ?_))
          iterate 2 refine hK _ _ _ _ ?_
          rw [ei]
          refine l2 _ (zj_idn_ok g _) ?_ hq D 0 (by omega) none
          rw [zj_idn_keep (by decide), zr_shu_keep (by decide)]
          exact hcn
        · dsimp only at c1
          rw [h7] at c1
          exact absurd (nI_le (a := D) (b := i) (by omega) (by omega)) c1
      | succ k ih =>
        intro i hi
        have h7 : (zm_ro w h X i).1 1 7 = nI D := by rw [zm_ro_keep (by decide) (by decide), hD.2]
        have ih1 := ih (i + 1) (by omega)
        rw [show zm_ro w h X (i + 1) = zr_add w h (zm_ro w h X i) (nI i) from rfl, ← nI_1] at ih1
        generalize zm_ro w h X i = Y at ih1 h7 ⊢
        iterate 3 refine hK _ _ _ _ ?_
        refine hK _ _ _ _ (And.intro (rfl) (And.intro (g) ?_))
        refine hK _ _ _ _ (And.intro (fun c1 => ?_) (fun c1 => ?_))
        · dsimp only at c1
          rw [h7] at c1
          exact absurd c1 (nI_ge (by omega) (by omega))
        · iterate 3 refine hK _ _ _ _ ?_
          refine hK _ _ _ _ (And.intro (rfl) (And.intro (g) ?_))
          iterate 2 refine hK _ _ _ _ ?_
          exact ih1
    iterate 2 refine hK _ _ _ _ ?_
    refine hK _ _ _ _ (And.intro (rfl) (And.intro (g) ?_))
    iterate 2 refine hK _ _ _ _ ?_
    exact l1 D 0 (by omega)
  · exact hC.elim
theorem len_Mk_build (w h : Nat) (lay : List mz_E) (as : List Value) (X : mz_X) (Q : Int32 → mz_X → Prop) (hC : C_Mk_build w h lay as X Q) : (mz_l0 as).length ≤ 2 := by
  unfold C_Mk_build at hC
  split at hC
  · exact Nat.le_of_ble_eq_true rfl
  · exact hC.elim
theorem ok_Mk_build (w h : Nat) (lay : List mz_E) (as : List Value) (X : mz_X) (Q : Int32 → mz_X → Prop) (hC : C_Mk_build w h lay as X Q) (K : mz_K) (hK : mz_Cl (I_Mk_build w h) (mz_qi lay Q) K) : K 0 (mz_ent 2 as) [] (lay, X) := by
  unfold C_Mk_build at hC
  split at hC
  · next way =>
    obtain ⟨rfl, g, D, N, hD, hN, hq⟩ := hC
    have h9 : zm_bB way = false → K 9 (mz_ent 2 [.ref 12, .int way]) [] (mz_lay w h, X) := by
      intro e
      rw [zm_bV_f e, zm_bX_f e] at hq
      refine hK _ _ _ _ ?_
      exact hK _ _ _ _ (And.intro rfl (hq))
    refine hK _ _ _ _ ?_
    refine hK _ _ _ _ (And.intro (fun c1 => ?_) (fun c1 => ?_))
    · exact h9 (by simp [zm_bB, c1])
    · iterate 2 refine hK _ _ _ _ ?_
      refine hK _ _ _ _ (And.intro (fun c2 => ?_) (fun c2 => ?_))
      · dsimp only at c2
        have e : zm_bB way = true := by simp [zm_bB, c1, c2]
        rw [zm_bV_t e, zm_bX_t e] at hq
        have hD1 : zm_D w h D (zm_o0 (zg_closeX w h X)) := by
          refine zm_D_of hD ?_
          show mz_up (zg_closeX w h X).1 12 6 0 1 7 = X.1 1 7
          rw [mz_up_off (by decide), zg_closeX_keep (by decide) (Or.inr (by decide))]
        have hend : ∀ Y : mz_X, Q (Y.1 12 6) Y → K 88 (mz_ent 2 [.ref 12, .int way]) [] (mz_lay w h, Y) := by
          intro Y hY
          iterate 2 refine hK _ _ _ _ ?_
          exact hK _ _ _ _ (And.intro rfl (hY))
        iterate 2 refine hK _ _ _ _ ?_
        refine hK _ _ _ _ (And.intro (rfl) (And.intro (g) ?_))
        iterate 4 refine hK _ _ _ _ ?_
        show K 24 (mz_ent 2 [.ref 12, .int way]) [.int way] (mz_lay w h, zm_o0 (zg_closeX w h X))
        generalize zm_o0 (zg_closeX w h X) = Z at hq hD1 ⊢
        refine hK _ _ _ _ (And.intro (fun k t ht hk => ?_) (fun hk => ?_))
        · match k, ht with
          | 0, ht =>
            cases ht
            have ew : way = 0 := Int32.toInt_inj.mp (by rw [hk]; rfl)
            rw [show zm_way w h D N Z way = zm_deep w h Z by simp only [zm_way, if_pos ew]] at hq
            refine hK _ _ _ _ ?_
            refine hK _ _ _ _ (And.intro (rfl) (And.intro (g) ?_))
            refine hK _ _ _ _ ?_
            exact hend _ hq
          | 1, ht =>
            cases ht
            have ew : way = 1 := Int32.toInt_inj.mp (by rw [hk]; rfl)
            rw [show zm_way w h D N Z way = zm_sets w h D Z by subst ew; rfl] at hq
            refine hK _ _ _ _ ?_
            refine hK _ _ _ _ (And.intro rfl (And.intro g (Exists.intro D (And.intro hD1 ?_))))
            refine hK _ _ _ _ ?_
            exact hend _ hq
          | 2, ht =>
            cases ht
            have ew : way = 2 := Int32.toInt_inj.mp (by rw [hk]; rfl)
            rw [show zm_way w h D N Z way = zm_grow w h D Z by subst ew; rfl] at hq
            refine hK _ _ _ _ ?_
            refine hK _ _ _ _ (And.intro rfl (And.intro g (Exists.intro D (And.intro hD1 ?_))))
            refine hK _ _ _ _ ?_
            exact hend _ hq
          | 3, ht =>
            cases ht
            have ew : way = 3 := Int32.toInt_inj.mp (by rw [hk]; rfl)
            rw [show zm_way w h D N Z way = zm_wal w h N Z by subst ew; rfl] at hq
            refine hK _ _ _ _ ?_
            refine hK _ _ _ _ (And.intro rfl (And.intro g (Exists.intro N (And.intro hN ?_))))
            refine hK _ _ _ _ ?_
            exact hend _ hq
          | k + 4, ht => simp at ht
        · have n0 : ¬ way = 0 := fun q => hk 0 (by decide) (by rw [q]; rfl)
          have n1 : ¬ way = 1 := fun q => hk 1 (by decide) (by rw [q]; rfl)
          have n2 : ¬ way = 2 := fun q => hk 2 (by decide) (by rw [q]; rfl)
          have n3 : ¬ way = 3 := fun q => hk 3 (by decide) (by rw [q]; rfl)
          rw [show zm_way w h D N Z way = zm_ks w h Z (w * h) by simp only [zm_way, if_neg n0, if_neg n1, if_neg n2, if_neg n3]] at hq
          refine hK _ _ _ _ ?_
          refine hK _ _ _ _ (And.intro (rfl) (And.intro (g) ?_))
          exact hend _ hq
      · dsimp only at c2
        exact h9 (by simp [zm_bB, c2])
  · exact hC.elim
set_option maxRecDepth 20000 in
theorem snd_Mk_joinSets (w h : Nat) (l : Launch) (p : Program) (e : Env) (s : State) (m : MethodId) (args : Array Value) (below : List Frame) (meth : Method) (c : Code) (D : va_G) (ad0 : Nat → Nat) (cA0 : Nat → ClassId) (A : Nat → Prop) (lay : List mz_E) (Q : mz_X → Prop) (F : mz_F p s m args meth c prog_7_method_12_code 3 y_Mk_joinSets.cls none w_Mk_joinSets) (hA : ∀ q, s.heap.size ≤ q → A q) : mz_All (mz_V p l e (mz_rm 3 67) s m args below meth c 3 lay.length (mz_sz lay) D mz_cls (mz_G0 ad0 cA0) A (MQ below (va_Qv Q (mz_B D mz_cls ad0 cA0 lay A) A) args s 0 0 A)) (mz_qv lay Q) (I_Mk_joinSets w h) := by
  obtain ⟨hx, hb, hml, hown, hts, hr, hlk⟩ := F
  unfold I_Mk_joinSets
  refine mz_All.cons (sd_aload_n hx hb (mz_dg d_Mk_joinSets 0 0 (.aload_n 0) 1 rfl) rfl) ?_
  refine mz_All.cons (sd_get (k := 3) hx hb hts (mz_inC in_Mk) hown (T := T_Mk) (N := 7) rfl (by decide) (hts (.fieldLink "MazeForms$Maker" 34 "MazeForms$Maker" "choice" "LMazeForms$DoorRow;") (List.mem_cons_of_mem _ wm_232)) (fun _ h => h) (mz_dg d_Mk_joinSets 1 1 (.getfield 34) 3 rfl)) ?_
  refine mz_All.cons (sd_callv (T := T_Dr) ⟨hx, hb, hml, hown, hts⟩ (met_Dr_clear w h l) (cwV 0 hts (mz_gV wm_367 wm_368 wm_369 wm_74 wm_370) rfl rfl rfl (by decide) ⟨by decide, by decide⟩) rfl hA rfl (mz_dg d_Mk_joinSets 2 4 (.invokevirtual 71) 3 rfl)) ?_
  refine mz_All.cons (sd_iconst hx hb (mz_dg d_Mk_joinSets 3 7 (.iconst (0)) 1 rfl) (by decide)) ?_
  refine mz_All.cons (sd_istore_n hx hb (mz_dg d_Mk_joinSets 4 8 (.istore_n 1) 1 rfl) rfl (by decide)) ?_
  refine mz_All.cons (sd_iload_n hx hb (mz_dg d_Mk_joinSets 5 9 (.iload_n 1) 1 rfl) rfl) ?_
  refine mz_All.cons (sd_aload_n hx hb (mz_dg d_Mk_joinSets 6 10 (.aload_n 0) 1 rfl) rfl) ?_
  refine mz_All.cons (sd_get (k := 0) hx hb hts (mz_inC in_Mk) hown (T := T_Mk) (N := 7) rfl (by decide) (hts (.fieldLink "MazeForms$Maker" 9 "MazeForms$Maker" "grid" "LMazeForms$Grid;") (List.mem_cons_of_mem _ wm_229)) (fun _ h => h) (mz_dg d_Mk_joinSets 7 11 (.getfield 9) 3 rfl)) ?_
  refine mz_All.cons (sd_calli (T := T_Gr) ⟨hx, hb, hml, hown, hts⟩ (met_Gr_doorCount w h l) (cwV 0 hts (mz_gV wm_425 wm_426 wm_427 wm_67 wm_428) rfl rfl rfl (by decide) ⟨by decide, by decide⟩) rfl hA rfl (mz_dg d_Mk_joinSets 8 14 (.invokevirtual 74) 3 rfl)) ?_
  refine mz_All.cons (sd_icmp_ge hx hb (mz_dg d_Mk_joinSets 9 17 (.if_icmp .ge (17)) 3 rfl) (by decide)) ?_
  refine mz_All.cons (sd_aload_n hx hb (mz_dg d_Mk_joinSets 10 20 (.aload_n 0) 1 rfl) rfl) ?_
  refine mz_All.cons (sd_get (k := 3) hx hb hts (mz_inC in_Mk) hown (T := T_Mk) (N := 7) rfl (by decide) (hts (.fieldLink "MazeForms$Maker" 34 "MazeForms$Maker" "choice" "LMazeForms$DoorRow;") (List.mem_cons_of_mem _ wm_232)) (fun _ h => h) (mz_dg d_Mk_joinSets 11 21 (.getfield 34) 3 rfl)) ?_
  refine mz_All.cons (sd_iload_n hx hb (mz_dg d_Mk_joinSets 12 24 (.iload_n 1) 1 rfl) rfl) ?_
  refine mz_All.cons (sd_callv (T := T_Dr) ⟨hx, hb, hml, hown, hts⟩ (met_Dr_add w h l) (cwV 1 hts (mz_gV wm_387 wm_388 wm_389 wm_74 wm_390) rfl rfl rfl (by decide) ⟨by decide, by decide⟩) rfl hA rfl (mz_dg d_Mk_joinSets 13 25 (.invokevirtual 81) 3 rfl)) ?_
  refine mz_All.cons (sd_iinc hx hb (mz_dg d_Mk_joinSets 14 28 (.iinc 1 (1)) 3 rfl) (by decide) (by decide)) ?_
  refine mz_All.cons (sd_goto hx hb (mz_dg d_Mk_joinSets 15 31 (.goto (-22)) 3 rfl) (by decide)) ?_
  refine mz_All.cons (sd_aload_n hx hb (mz_dg d_Mk_joinSets 16 34 (.aload_n 0) 1 rfl) rfl) ?_
  refine mz_All.cons (sd_get (k := 3) hx hb hts (mz_inC in_Mk) hown (T := T_Mk) (N := 7) rfl (by decide) (hts (.fieldLink "MazeForms$Maker" 34 "MazeForms$Maker" "choice" "LMazeForms$DoorRow;") (List.mem_cons_of_mem _ wm_232)) (fun _ h => h) (mz_dg d_Mk_joinSets 17 35 (.getfield 34) 3 rfl)) ?_
  refine mz_All.cons (sd_callv (T := T_Dr) ⟨hx, hb, hml, hown, hts⟩ (met_Dr_shuffle w h l) (cwV 0 hts (mz_gV wm_429 wm_430 wm_431 wm_74 wm_432) rfl rfl rfl (by decide) ⟨by decide, by decide⟩) rfl hA rfl (mz_dg d_Mk_joinSets 18 38 (.invokevirtual 131) 3 rfl)) ?_
  refine mz_All.cons (sd_aload_n hx hb (mz_dg d_Mk_joinSets 19 41 (.aload_n 0) 1 rfl) rfl) ?_
  refine mz_All.cons (sd_get (k := 1) hx hb hts (mz_inC in_Mk) hown (T := T_Mk) (N := 7) rfl (by decide) (hts (.fieldLink "MazeForms$Maker" 15 "MazeForms$Maker" "joined" "LMazeForms$Joined;") (List.mem_cons_of_mem _ wm_230)) (fun _ h => h) (mz_dg d_Mk_joinSets 20 42 (.getfield 15) 3 rfl)) ?_
  refine mz_All.cons (sd_callv (T := T_Jo) ⟨hx, hb, hml, hown, hts⟩ (met_Jo_reset w h l) (cwV 0 hts (mz_gV wm_437 wm_438 wm_439 wm_70 wm_440) rfl rfl rfl (by decide) ⟨by decide, by decide⟩) rfl hA rfl (mz_dg d_Mk_joinSets 21 45 (.invokevirtual 134) 3 rfl)) ?_
  refine mz_All.cons (sd_iconst hx hb (mz_dg d_Mk_joinSets 22 48 (.iconst (0)) 1 rfl) (by decide)) ?_
  refine mz_All.cons (sd_istore_n hx hb (mz_dg d_Mk_joinSets 23 49 (.istore_n 1) 1 rfl) rfl (by decide)) ?_
  refine mz_All.cons (sd_iload_n hx hb (mz_dg d_Mk_joinSets 24 50 (.iload_n 1) 1 rfl) rfl) ?_
  refine mz_All.cons (sd_aload_n hx hb (mz_dg d_Mk_joinSets 25 51 (.aload_n 0) 1 rfl) rfl) ?_
  refine mz_All.cons (sd_get (k := 3) hx hb hts (mz_inC in_Mk) hown (T := T_Mk) (N := 7) rfl (by decide) (hts (.fieldLink "MazeForms$Maker" 34 "MazeForms$Maker" "choice" "LMazeForms$DoorRow;") (List.mem_cons_of_mem _ wm_232)) (fun _ h => h) (mz_dg d_Mk_joinSets 26 52 (.getfield 34) 3 rfl)) ?_
  refine mz_All.cons (sd_calli (T := T_Dr) ⟨hx, hb, hml, hown, hts⟩ (met_Dr_count w h l) (cwV 0 hts (mz_gV wm_441 wm_442 wm_443 wm_74 wm_444) rfl rfl rfl (by decide) ⟨by decide, by decide⟩) rfl hA rfl (mz_dg d_Mk_joinSets 27 55 (.invokevirtual 85) 3 rfl)) ?_
  refine mz_All.cons (sd_icmp_ge hx hb (mz_dg d_Mk_joinSets 28 58 (.if_icmp .ge (34)) 3 rfl) (by decide)) ?_
  refine mz_All.cons (sd_aload_n hx hb (mz_dg d_Mk_joinSets 29 61 (.aload_n 0) 1 rfl) rfl) ?_
  refine mz_All.cons (sd_get (k := 3) hx hb hts (mz_inC in_Mk) hown (T := T_Mk) (N := 7) rfl (by decide) (hts (.fieldLink "MazeForms$Maker" 34 "MazeForms$Maker" "choice" "LMazeForms$DoorRow;") (List.mem_cons_of_mem _ wm_232)) (fun _ h => h) (mz_dg d_Mk_joinSets 30 62 (.getfield 34) 3 rfl)) ?_
  refine mz_All.cons (sd_iload_n hx hb (mz_dg d_Mk_joinSets 31 65 (.iload_n 1) 1 rfl) rfl) ?_
  refine mz_All.cons (sd_calli (T := T_Dr) ⟨hx, hb, hml, hown, hts⟩ (met_Dr_doorAt w h l) (cwV 1 hts (mz_gV wm_445 wm_402 wm_403 wm_74 wm_404) rfl rfl rfl (by decide) ⟨by decide, by decide⟩) rfl hA rfl (mz_dg d_Mk_joinSets 32 66 (.invokevirtual 139) 3 rfl)) ?_
  refine mz_All.cons (sd_istore_n hx hb (mz_dg d_Mk_joinSets 33 69 (.istore_n 2) 1 rfl) rfl (by decide)) ?_
  refine mz_All.cons (sd_aload_n hx hb (mz_dg d_Mk_joinSets 34 70 (.aload_n 0) 1 rfl) rfl) ?_
  refine mz_All.cons (sd_get (k := 1) hx hb hts (mz_inC in_Mk) hown (T := T_Mk) (N := 7) rfl (by decide) (hts (.fieldLink "MazeForms$Maker" 15 "MazeForms$Maker" "joined" "LMazeForms$Joined;") (List.mem_cons_of_mem _ wm_230)) (fun _ h => h) (mz_dg d_Mk_joinSets 35 71 (.getfield 15) 3 rfl)) ?_
  refine mz_All.cons (sd_iload_n hx hb (mz_dg d_Mk_joinSets 36 74 (.iload_n 2) 1 rfl) rfl) ?_
  refine mz_All.cons (sd_calli (T := T_Jo) ⟨hx, hb, hml, hown, hts⟩ (met_Jo_joinBy w h l) (cwV 1 hts (mz_gV wm_446 wm_447 wm_448 wm_70 wm_449) rfl rfl rfl (by decide) ⟨by decide, by decide⟩) rfl hA rfl (mz_dg d_Mk_joinSets 37 75 (.invokevirtual 142) 3 rfl)) ?_
  refine mz_All.cons (sd_if_eq hx hb (mz_dg d_Mk_joinSets 38 78 (.ifCond .eq (8)) 3 rfl) (by decide)) ?_
  refine mz_All.cons (sd_aload_n hx hb (mz_dg d_Mk_joinSets 39 81 (.aload_n 0) 1 rfl) rfl) ?_
  refine mz_All.cons (sd_iload_n hx hb (mz_dg d_Mk_joinSets 40 82 (.iload_n 2) 1 rfl) rfl) ?_
  refine mz_All.cons (sd_callv (T := T_Mk) ⟨hx, hb, hml, hown, hts⟩ (met_Mk_openDoor w h l) (cwV 1 hts (mz_gV wm_409 wm_411 wm_8 wm_72 wm_412) rfl rfl rfl (by decide) ⟨by decide, by decide⟩) rfl hA rfl (mz_dg d_Mk_joinSets 41 83 (.invokevirtual 91) 3 rfl)) ?_
  refine mz_All.cons (sd_iinc hx hb (mz_dg d_Mk_joinSets 42 86 (.iinc 1 (1)) 3 rfl) (by decide) (by decide)) ?_
  refine mz_All.cons (sd_goto hx hb (mz_dg d_Mk_joinSets 43 89 (.goto (-39)) 3 rfl) (by decide)) ?_
  refine mz_All.cons (sd_rv hx hb hr hlk (mz_dg d_Mk_joinSets 44 92 (.return_) 1 rfl)) ?_
  exact trivial
theorem met_Mk_joinSets (w h : Nat) (l : Launch) : mz_MV l y_Mk_joinSets w_Mk_joinSets 3 67 mz_cls (C_Mk_joinSets w h) := mz_MV_of (I_Mk_joinSets w h) (by decide) rfl (len_Mk_joinSets w h) (ok_Mk_joinSets w h) (snd_Mk_joinSets w h l)
set_option maxRecDepth 20000 in
theorem snd_Mk_build (w h : Nat) (l : Launch) (p : Program) (e : Env) (s : State) (m : MethodId) (args : Array Value) (below : List Frame) (meth : Method) (c : Code) (D : va_G) (ad0 : Nat → Nat) (cA0 : Nat → ClassId) (A : Nat → Prop) (lay : List mz_E) (Q : Int32 → mz_X → Prop) (F : mz_F p s m args meth c prog_7_method_2_code 2 y_Mk_build.cls (some .int) w_Mk_build) (hA : ∀ q, s.heap.size ≤ q → A q) : mz_All (mz_V p l e (mz_rm 5 114) s m args below meth c 2 lay.length (mz_sz lay) D mz_cls (mz_G0 ad0 cA0) A (MQ below (va_Qi Q (mz_B D mz_cls ad0 cA0 lay A) A) args s 0 0 A)) (mz_qi lay Q) (I_Mk_build w h) := by
  obtain ⟨hx, hb, hml, hown, hts, hr, hlk⟩ := F
  unfold I_Mk_build
  refine mz_All.cons (sd_iload_n hx hb (mz_dg d_Mk_build 0 0 (.iload_n 1) 1 rfl) rfl) ?_
  refine mz_All.cons (sd_if_lt hx hb (mz_dg d_Mk_build 1 1 (.ifCond .lt (8)) 3 rfl) (by decide)) ?_
  refine mz_All.cons (sd_iload_n hx hb (mz_dg d_Mk_build 2 4 (.iload_n 1) 1 rfl) rfl) ?_
  refine mz_All.cons (sd_iconst hx hb (mz_dg d_Mk_build 3 5 (.iconst (4)) 1 rfl) (by decide)) ?_
  refine mz_All.cons (sd_icmp_le hx hb (mz_dg d_Mk_build 4 6 (.if_icmp .le (5)) 3 rfl) (by decide)) ?_
  refine mz_All.cons (sd_iconst hx hb (mz_dg d_Mk_build 5 9 (.iconst (-1)) 1 rfl) (by decide)) ?_
  refine mz_All.cons (sd_ri hx hb hr hlk (mz_dg d_Mk_build 6 10 (.ireturn) 1 rfl)) ?_
  refine mz_All.cons (sd_aload_n hx hb (mz_dg d_Mk_build 7 11 (.aload_n 0) 1 rfl) rfl) ?_
  refine mz_All.cons (sd_get (k := 0) hx hb hts (mz_inC in_Mk) hown (T := T_Mk) (N := 7) rfl (by decide) (hts (.fieldLink "MazeForms$Maker" 9 "MazeForms$Maker" "grid" "LMazeForms$Grid;") (List.mem_cons_of_mem _ wm_229)) (fun _ h => h) (mz_dg d_Mk_build 8 12 (.getfield 9) 3 rfl)) ?_
  refine mz_All.cons (sd_callv (T := T_Gr) ⟨hx, hb, hml, hown, hts⟩ (met_Gr_closeDoors w h l) (cwV 0 hts (mz_gV wm_345 wm_334 wm_335 wm_67 wm_336) rfl rfl rfl (by decide) ⟨by decide, by decide⟩) rfl hA rfl (mz_dg d_Mk_build 9 15 (.invokevirtual 49) 3 rfl)) ?_
  refine mz_All.cons (sd_aload_n hx hb (mz_dg d_Mk_build 10 18 (.aload_n 0) 1 rfl) rfl) ?_
  refine mz_All.cons (sd_iconst hx hb (mz_dg d_Mk_build 11 19 (.iconst (0)) 1 rfl) (by decide)) ?_
  refine mz_All.cons (sd_puti (k := 6) hx hb hts (mz_inC in_Mk) ty_Mk ty_Mk_ok nm_Mk hown (T := T_Mk) (N := 7) rfl (by decide) (hts (.fieldLink "MazeForms$Maker" 52 "MazeForms$Maker" "opened" "I") (List.mem_cons_of_mem _ wm_235)) (fun _ h => h) rfl rfl (mz_dg d_Mk_build 12 20 (.putfield 52) 3 rfl)) ?_
  refine mz_All.cons (sd_iload_n hx hb (mz_dg d_Mk_build 13 23 (.iload_n 1) 1 rfl) rfl) ?_
  refine mz_All.cons (sd_tsw hx hb (mz_dg d_Mk_build 14 24 (.tableswitch (60) (0) (3) #[32, 39, 46, 53]) 32 rfl) (by decide) (by decide) (by decide)) ?_
  refine mz_All.cons (sd_aload_n hx hb (mz_dg d_Mk_build 15 56 (.aload_n 0) 1 rfl) rfl) ?_
  refine mz_All.cons (sd_callv (T := T_Mk) ⟨hx, hb, hml, hown, hts⟩ (met_Mk_goDeep w h l) (cwV 0 hts (mz_gV wm_346 wm_348 wm_2 wm_72 wm_349) rfl rfl rfl (by decide) ⟨by decide, by decide⟩) rfl hA rfl (mz_dg d_Mk_build 16 57 (.invokevirtual 56) 3 rfl)) ?_
  refine mz_All.cons (sd_goto hx hb (mz_dg d_Mk_build 17 60 (.goto (28)) 3 rfl) (by decide)) ?_
  refine mz_All.cons (sd_aload_n hx hb (mz_dg d_Mk_build 18 63 (.aload_n 0) 1 rfl) rfl) ?_
  refine mz_All.cons (sd_callv (T := T_Mk) ⟨hx, hb, hml, hown, hts⟩ (met_Mk_joinSets w h l) (cwV 0 hts (mz_gV wm_421 wm_423 wm_10 wm_72 wm_424) rfl rfl rfl (by decide) ⟨by decide, by decide⟩) rfl hA rfl (mz_dg d_Mk_build 19 64 (.invokevirtual 59) 3 rfl)) ?_
  refine mz_All.cons (sd_goto hx hb (mz_dg d_Mk_build 20 67 (.goto (21)) 3 rfl) (by decide)) ?_
  refine mz_All.cons (sd_aload_n hx hb (mz_dg d_Mk_build 21 70 (.aload_n 0) 1 rfl) rfl) ?_
  refine mz_All.cons (sd_callv (T := T_Mk) ⟨hx, hb, hml, hown, hts⟩ (met_Mk_grow w h l) (cwV 0 hts (mz_gV wm_463 wm_465 wm_13 wm_72 wm_466) rfl rfl rfl (by decide) ⟨by decide, by decide⟩) rfl hA rfl (mz_dg d_Mk_build 22 71 (.invokevirtual 62) 3 rfl)) ?_
  refine mz_All.cons (sd_goto hx hb (mz_dg d_Mk_build 23 74 (.goto (14)) 3 rfl) (by decide)) ?_
  refine mz_All.cons (sd_aload_n hx hb (mz_dg d_Mk_build 24 77 (.aload_n 0) 1 rfl) rfl) ?_
  refine mz_All.cons (sd_callv (T := T_Mk) ⟨hx, hb, hml, hown, hts⟩ (met_Mk_walkAll w h l) (cwV 0 hts (mz_gV wm_473 wm_475 wm_15 wm_72 wm_476) rfl rfl rfl (by decide) ⟨by decide, by decide⟩) rfl hA rfl (mz_dg d_Mk_build 25 78 (.invokevirtual 65) 3 rfl)) ?_
  refine mz_All.cons (sd_goto hx hb (mz_dg d_Mk_build 26 81 (.goto (7)) 3 rfl) (by decide)) ?_
  refine mz_All.cons (sd_aload_n hx hb (mz_dg d_Mk_build 27 84 (.aload_n 0) 1 rfl) rfl) ?_
  refine mz_All.cons (sd_callv (T := T_Mk) ⟨hx, hb, hml, hown, hts⟩ (met_Mk_comb w h l) (cwV 0 hts (mz_gV wm_515 wm_517 wm_21 wm_72 wm_518) rfl rfl rfl (by decide) ⟨by decide, by decide⟩) rfl hA rfl (mz_dg d_Mk_build 28 85 (.invokevirtual 68) 3 rfl)) ?_
  refine mz_All.cons (sd_aload_n hx hb (mz_dg d_Mk_build 29 88 (.aload_n 0) 1 rfl) rfl) ?_
  refine mz_All.cons (sd_get (k := 6) hx hb hts (mz_inC in_Mk) hown (T := T_Mk) (N := 7) rfl (by decide) (hts (.fieldLink "MazeForms$Maker" 52 "MazeForms$Maker" "opened" "I") (List.mem_cons_of_mem _ wm_235)) (fun _ h => h) (mz_dg d_Mk_build 30 89 (.getfield 52) 3 rfl)) ?_
  refine mz_All.cons (sd_ri hx hb hr hlk (mz_dg d_Mk_build 31 92 (.ireturn) 1 rfl)) ?_
  exact trivial
theorem met_Mk_build (w h : Nat) (l : Launch) : mz_MI l y_Mk_build w_Mk_build 5 114 mz_cls (C_Mk_build w h) := mz_MI_of (I_Mk_build w h) (by decide) rfl (len_Mk_build w h) (ok_Mk_build w h) (snd_Mk_build w h l)
