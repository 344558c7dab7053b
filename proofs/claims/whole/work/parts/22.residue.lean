def zq_rF (w h D : Nat) (X : mz_X) (v : Int64) : mz_X := zq_f w h (zq_r2 w h X v) D
def zq_res (w h D p : Nat) (X : mz_X) (v : Int64) : Int64 × mz_X := if zq_rn w h (X.1, mz_up X.2 20 6 v) = 0 then (1, zq_rF w h D X v) else zq_d w h (zq_rn w h (X.1, mz_up X.2 20 6 v) - 1) p (zq_rF w h D X v) 0 1 (zq_rn w h (X.1, mz_up X.2 20 6 v) - 1)
def C_Tc_residue (w h : Nat) : mz_CL := fun lay as X Q => match as with
  | [.ref 20, .long v] => lay = mz_lay w h ∧ mz_geo w h ∧ ∃ D p : Nat, zm_D w h D X ∧ X.1 20 1 = nI w ∧ v = lN p ∧ 2 ≤ p ∧ p < 2 ^ 31 ∧ Q (zq_res w h D p X v).1 (zq_res w h D p X v).2
  | _ => False
def y_Tc_residue : MethodName := ⟨"MazeForms$TreeCount", "residue", "(J)J"⟩
abbrev w_Tc_residue : List Cond := .code y_Tc_residue prog_9_method_2_code 3 (some .long) :: mz_tb
def dl_Tc_residue : List (Nat × ClassFile.Instr × Nat) := [(0, .lload_n 1, 1), (1, .ldc2_w 39, 3), (4, .lcmp, 1), (5, .ifCond .ge (7), 3), (8, .ldc2_w 41, 3), (11, .lreturn, 1), (12, .aload_n 0, 1), (13, .lload_n 1, 1), (14, .putfield 43, 3), (17, .aload_n 0, 1), (18, .aload_n 0, 1), (19, .invokevirtual 47, 3), (22, .iconst (1), 1), (23, .isub, 1), (24, .putfield 50, 3), (27, .aload_n 0, 1), (28, .invokevirtual 53, 3), (31, .aload_n 0, 1), (32, .invokevirtual 56, 3), (35, .lreturn, 1)]
theorem d_Tc_residue : mz_dec prog_9_method_2_code dl_Tc_residue = true := by decide +kernel
def I_Tc_residue (w h : Nat) : List (Nat × mz_Op) := [(0, mz_ldl 1 1), (1, mz_push (.long (2)) 4), (4, mz_lcmp 5), (5, mz_if (fun x => 0 ≤ x) 12 8), (8, mz_push (.long (-1)) 11), (11, mz_rl), (12, mz_lda 0 13), (13, mz_ldl 1 14), (14, mz_pfl 7 6 17), (17, mz_lda 0 18), (18, mz_lda 0 19), (19, mz_ci 1 7 (C_Tc_numberFreeCells w h) 22), (22, mz_push (.int (1)) 23), (23, mz_bi (fun x y => x - y) 24), (24, mz_pfi 7 5 27), (27, mz_lda 0 28), (28, mz_cvo 1 7 (C_Tc_fillIn w h) 31), (31, mz_lda 0 32), (32, mz_cl 1 7 (C_Tc_determinant w h) 35), (35, mz_rl)]
theorem zq_f_2 {w h : Nat} (X : mz_X) : ∀ k, (zq_f w h X k).2 20 6 = X.2 20 6
  | 0 => by
    show mz_fil X.2 22 (zq_E w h) 0 20 6 = X.2 20 6
    simp only [mz_fil]
    rw [if_neg (fun q => absurd q.1 (by decide))]
  | k + 1 => by
    show (zq_fS w h (zq_f w h X k) k).2 20 6 = X.2 20 6
    unfold zq_fS zq_f2 zq_f1
    rw [zq_add_2 (by decide), zq_add_2 (by decide), zq_add_2 (by decide), zq_add_2 (by decide)]
    exact zq_f_2 X k
theorem zq_r2_5 (w h : Nat) (X : mz_X) (v : Int64) : (zq_r2 w h X v).1 20 5 = nI (zq_rn w h (X.1, mz_up X.2 20 6 v)) - 1 := by
  show mz_up (zq_r1 w h X v).1 20 5 (nI (zq_rn w h (X.1, mz_up X.2 20 6 v)) - 1) 20 5 = _
  rw [mz_up_row]
  dsimp only
  rw [if_pos rfl]
theorem zq_r2_k {w h p i : Nat} (hp : p ≠ 20 ∨ i ≠ 5) (hp2 : p ≠ 21) (X : mz_X) (v : Int64) : (zq_r2 w h X v).1 p i = X.1 p i := by
  show mz_up (zq_r1 w h X v).1 20 5 (nI (zq_rn w h (X.1, mz_up X.2 20 6 v)) - 1) p i = X.1 p i
  have e : (zq_r1 w h X v).1 p i = X.1 p i := by
    show (if p = 21 ∧ i < w * h then _ else X.1 p i) = X.1 p i
    rw [if_neg (fun q => hp2 q.1)]
  simp only [mz_up]
  rcases hp with hp | hp
  · rw [if_neg hp]
    exact e
  · by_cases h9 : p = 20
    · rw [if_pos h9, if_neg hp]
      exact e
    · rw [if_neg h9]
      exact e
theorem len_Tc_residue (w h : Nat) (lay : List mz_E) (as : List Value) (X : mz_X) (Q : Int64 → mz_X → Prop) (hC : C_Tc_residue w h lay as X Q) : (mz_l0 as).length ≤ 3 := by
  unfold C_Tc_residue at hC
  split at hC
  · exact Nat.le_of_ble_eq_true rfl
  · exact hC.elim
theorem ok_Tc_residue (w h : Nat) (lay : List mz_E) (as : List Value) (X : mz_X) (Q : Int64 → mz_X → Prop) (hC : C_Tc_residue w h lay as X Q) (K : mz_K) (hK : mz_Cl (I_Tc_residue w h) (mz_ql lay Q) K) : K 0 (mz_ent 3 as) [] (lay, X) := by
  unfold C_Tc_residue at hC
  split at hC
  · next v =>
    obtain ⟨rfl, g, D, p, hD, hb, rfl, hp2, hp3, hq⟩ := hC
    have hn := mz_geo_n g
    have hD2 : zm_D w h D (zq_r2 w h X (lN p)) := zm_D_of hD (zq_r2_k (Or.inl (by decide)) (by decide) X (lN p))
    have hfr : zq_rn w h (X.1, mz_up X.2 20 6 (lN p)) ≤ w * h := mz_cnt_le _ _
    iterate 3 refine hK _ _ _ _ ?_
    refine hK _ _ _ _ (And.intro (fun c1 => ?_) (fun c1 => ?_))
    · iterate 5 refine hK _ _ _ _ ?_
      refine hK _ _ _ _ (And.intro (rfl) (And.intro (g) ?_))
      iterate 4 refine hK _ _ _ _ ?_
      show K 28 (mz_ent 3 [.ref 20, .long (lN p)]) [.ref 20] (mz_lay w h, zq_r2 w h X (lN p))
      refine hK _ _ _ _ (And.intro rfl (And.intro g (Exists.intro D (And.intro hD2 ?_))))
      show K 31 (mz_ent 3 [.ref 20, .long (lN p)]) [] (mz_lay w h, zq_rF w h D X (lN p))
      have e5 : (zq_rF w h D X (lN p)).1 20 5 = nI (zq_rn w h (X.1, mz_up X.2 20 6 (lN p))) - 1 := by
        unfold zq_rF
        rw [zq_f_1, zq_r2_5]
      have e1 : (zq_rF w h D X (lN p)).1 20 1 = nI w := by
        unfold zq_rF
        rw [zq_f_1, zq_r2_k (Or.inr (by decide)) (by decide), hb]
      have e6 : (zq_rF w h D X (lN p)).2 20 6 = lN p := by
        unfold zq_rF
        rw [zq_f_2]
        show mz_up X.2 20 6 (lN p) 20 6 = lN p
        rw [mz_up_row]
        dsimp only
        rw [if_pos rfl]
      unfold zq_res at hq
      generalize zq_rF w h D X (lN p) = Z at hq e5 e1 e6 ⊢
      generalize zq_rn w h (X.1, mz_up X.2 20 6 (lN p)) = n at hq e5 hfr ⊢
      refine hK _ _ _ _ ?_
      by_cases h0 : n = 0
      · subst h0
        rw [if_pos rfl] at hq
        refine hK _ _ _ _ (And.intro rfl (And.intro g (Or.inl (And.intro (by rw [e5]; decide) ?_))))
        exact hK _ _ _ _ (And.intro rfl (hq))
      · rw [if_neg h0] at hq
        refine hK _ _ _ _ (And.intro rfl (And.intro g (Or.inr (Exists.intro (n - 1) (Exists.intro p (And.intro ⟨e1, by rw [e5, zn_pred (by omega)], by omega, e6, hp2, hp3⟩ ?_))))))
        exact hK _ _ _ _ (And.intro rfl (hq))
    · dsimp only at c1
      rw [lg_cmp_ge, show (2 : Int64) = lN 2 from rfl, pk_lLE (by decide) (by omega)] at c1
      exact absurd hp2 c1
  · exact hC.elim
set_option maxRecDepth 20000 in
theorem snd_Tc_residue (w h : Nat) (l : Launch) (p : Program) (e : Env) (s : State) (m : MethodId) (args : Array Value) (below : List Frame) (meth : Method) (c : Code) (D : va_G) (ad0 : Nat → Nat) (cA0 : Nat → ClassId) (A : Nat → Prop) (lay : List mz_E) (Q : Int64 → mz_X → Prop) (F : mz_F p s m args meth c prog_9_method_2_code 3 y_Tc_residue.cls (some .long) w_Tc_residue) (hA : ∀ q, s.heap.size ≤ q → A q) : mz_All (mz_V p l e (mz_rm 5 123) s m args below meth c 3 lay.length (mz_sz lay) D mz_cls (mz_G0 ad0 cA0) A (MQ below (va_Ql Q (mz_B D mz_cls ad0 cA0 lay A) A) args s 0 0 A)) (mz_ql lay Q) (I_Tc_residue w h) := by
  obtain ⟨hx, hb, hml, hown, hts, hr, hlk⟩ := F
  unfold I_Tc_residue
  refine mz_All.cons (sd_lload_n hx hb (mz_dg d_Tc_residue 0 0 (.lload_n 1) 1 rfl) rfl) ?_
  refine mz_All.cons (sd_ldc2 hx hb hown (hts _ (List.mem_cons_of_mem _ wm_636)) (mz_dg d_Tc_residue 1 1 (.ldc2_w 39) 3 rfl)) ?_
  refine mz_All.cons (sd_lcmp hx hb (mz_dg d_Tc_residue 2 4 (.lcmp) 1 rfl)) ?_
  refine mz_All.cons (sd_if_ge hx hb (mz_dg d_Tc_residue 3 5 (.ifCond .ge (7)) 3 rfl) (by decide)) ?_
  refine mz_All.cons (sd_ldc2 hx hb hown (hts _ (List.mem_cons_of_mem _ wm_637)) (mz_dg d_Tc_residue 4 8 (.ldc2_w 41) 3 rfl)) ?_
  refine mz_All.cons (sd_rl hx hb hr hlk (mz_dg d_Tc_residue 5 11 (.lreturn) 1 rfl)) ?_
  refine mz_All.cons (sd_aload_n hx hb (mz_dg d_Tc_residue 6 12 (.aload_n 0) 1 rfl) rfl) ?_
  refine mz_All.cons (sd_lload_n hx hb (mz_dg d_Tc_residue 7 13 (.lload_n 1) 1 rfl) rfl) ?_
  refine mz_All.cons (sd_putl (k := 6) hx hb hts (mz_inC in_Tc) ty_Tc ty_Tc_ok nm_Tc hown (T := T_Tc) (N := 7) rfl (by decide) (hts (.fieldLink "MazeForms$TreeCount" 43 "MazeForms$TreeCount" "prime" "J") (List.mem_cons_of_mem _ wm_291)) (fun _ h => h) rfl rfl (mz_dg d_Tc_residue 8 14 (.putfield 43) 3 rfl)) ?_
  refine mz_All.cons (sd_aload_n hx hb (mz_dg d_Tc_residue 9 17 (.aload_n 0) 1 rfl) rfl) ?_
  refine mz_All.cons (sd_aload_n hx hb (mz_dg d_Tc_residue 10 18 (.aload_n 0) 1 rfl) rfl) ?_
  refine mz_All.cons (sd_calli (T := T_Tc) ⟨hx, hb, hml, hown, hts⟩ (met_Tc_numberFreeCells w h l) (cwV 0 hts (mz_gV wm_638 wm_640 wm_24 wm_76 wm_641) rfl rfl rfl (by decide) ⟨by decide, by decide⟩) rfl hA rfl (mz_dg d_Tc_residue 11 19 (.invokevirtual 47) 3 rfl)) ?_
  refine mz_All.cons (sd_iconst hx hb (mz_dg d_Tc_residue 12 22 (.iconst (1)) 1 rfl) (by decide)) ?_
  refine mz_All.cons (sd_isub hx hb (mz_dg d_Tc_residue 13 23 (.isub) 1 rfl)) ?_
  refine mz_All.cons (sd_puti (k := 5) hx hb hts (mz_inC in_Tc) ty_Tc ty_Tc_ok nm_Tc hown (T := T_Tc) (N := 7) rfl (by decide) (hts (.fieldLink "MazeForms$TreeCount" 50 "MazeForms$TreeCount" "size" "I") (List.mem_cons_of_mem _ wm_290)) (fun _ h => h) rfl rfl (mz_dg d_Tc_residue 14 24 (.putfield 50) 3 rfl)) ?_
  refine mz_All.cons (sd_aload_n hx hb (mz_dg d_Tc_residue 15 27 (.aload_n 0) 1 rfl) rfl) ?_
  refine mz_All.cons (sd_callv (T := T_Tc) ⟨hx, hb, hml, hown, hts⟩ (met_Tc_fillIn w h l) (cwV 0 hts (mz_gV wm_643 wm_645 wm_25 wm_76 wm_646) rfl rfl rfl (by decide) ⟨by decide, by decide⟩) rfl hA rfl (mz_dg d_Tc_residue 16 28 (.invokevirtual 53) 3 rfl)) ?_
  refine mz_All.cons (sd_aload_n hx hb (mz_dg d_Tc_residue 17 31 (.aload_n 0) 1 rfl) rfl) ?_
  refine mz_All.cons (sd_calll (T := T_Tc) ⟨hx, hb, hml, hown, hts⟩ (met_Tc_determinant w h l) (cwV 0 hts (mz_gV wm_666 wm_668 wm_29 wm_76 wm_669) rfl rfl rfl (by decide) ⟨by decide, by decide⟩) rfl hA rfl (mz_dg d_Tc_residue 18 32 (.invokevirtual 56) 3 rfl)) ?_
  refine mz_All.cons (sd_rl hx hb hr hlk (mz_dg d_Tc_residue 19 35 (.lreturn) 1 rfl)) ?_
  exact trivial
theorem met_Tc_residue (w h : Nat) (l : Launch) : mz_ML l y_Tc_residue w_Tc_residue 5 123 mz_cls (C_Tc_residue w h) := mz_ML_of (I_Tc_residue w h) (by decide) rfl (len_Tc_residue w h) (ok_Tc_residue w h) (snd_Tc_residue w h l)
