/-- the upper 31 bits -/
def zc_r (s : Int64) : Nat := s.toUInt64.toNat / 2 ^ 33
theorem zc_ush (s : Int64) : (s.toUInt64 >>> ((33 : Int32).toInt64.toUInt64 &&& Int64.toUInt64 63)).toInt64 = lN (zc_r s) := by
  apply Int64.toBitVec_inj.mp
  apply BitVec.eq_of_toNat_eq
  have h1 : ((33 : Int32).toInt64.toUInt64 &&& Int64.toUInt64 63) = 33 := by decide
  have h2 : s.toUInt64.toNat < 2 ^ 64 := s.toUInt64.toNat_lt
  rw [h1]
  show (s.toUInt64 >>> (33 : UInt64)).toNat = (BitVec.ofNat 64 (zc_r s)).toNat
  rw [UInt64.toNat_shiftRight, BitVec.toNat_ofNat, Nat.shiftRight_eq_div_pow]
  show s.toUInt64.toNat / 2 ^ (33 % 64) = s.toUInt64.toNat / 2 ^ 33 % 2 ^ 64
  rw [Nat.mod_eq_of_lt (Nat.lt_of_le_of_lt (Nat.div_le_self _ _) h2)]
theorem zc_r_lt (s : Int64) : zc_r s < 2 ^ 31 := by
  have h2 : s.toUInt64.toNat < 2 ^ 64 := s.toUInt64.toNat_lt
  unfold zc_r
  omega
theorem zc_v_n (s : Int64) {m : Nat} (h0 : 0 < m) (hm : m < 2 ^ 31) : zc_v s (nI m) = nI (zc_r s % m) := by
  have h1 := zc_r_lt s
  unfold zc_v
  rw [zc_ush, nI_l hm, pk_lRem (by omega) h0 (by omega), lN_i]
/-- LOOPS in the reference: the closed doors below k, in order; one is opened -/
def zo_lcS (X : mz_X) (d : Nat) : mz_X := if X.1 27 d = 0 then (mz_up (mz_up X.1 32 (X.1 23 13).toNatClampNeg (nI d)) 23 13 (X.1 23 13 + 1), X.2) else X
def zo_lc (X : mz_X) (k : Nat) : mz_X := match k with
  | 0 => (mz_up X.1 23 13 0, X.2)
  | d + 1 => zo_lcS (zo_lc X d) d
def zo_lo1 (X : mz_X) : mz_X := zo_blX X
def zo_loI (X : mz_X) : Nat := (X.1 32 (zo_blV X (X.1 23 13)).toNatClampNeg).toNatClampNeg
def zo_loS (X : mz_X) : mz_X := (mz_up (mz_up X.1 27 (zo_loI X) 1) 23 15 (-1), (zo_blX X).2)
def zo_lo (X : mz_X) (D i k : Nat) : Int32 × mz_X := match k with
  | 0 => (nI i, X)
  | j + 1 => if (zo_lc X D).1 23 13 = 0 then (nI i, zo_lc X D) else zo_lo (zo_loS (zo_lc X D)) D (i + 1) j
def C_Mo_loops (w h : Nat) : mz_CI := fun lay as X Q => match as with
  | [.ref 23, .int n] => lay = mz_lay w h ∧ mz_geo w h ∧ ∃ D : Nat, X.1 23 5 = nI D ∧ D ≤ 288 ∧ (zx_lB n = false → Q (-1) (zo_t X)) ∧ (zx_lB n = true → ∃ k : Nat, k < 2 ^ 31 ∧ n = nI k ∧ Q (zo_lo (zo_t X) D 0 k).1 (zo_lo (zo_t X) D 0 k).2)
  | _ => False
def y_Mo_loops : MethodName := ⟨"MazeFormsModel", "loops", "(I)I"⟩
abbrev w_Mo_loops : List Cond := .code y_Mo_loops prog_11_method_26_code 4 (some .int) :: mz_tb
def dl_Mo_loops : List (Nat × ClassFile.Instr × Nat) := [(0, .aload_n 0, 1), (1, .iconst (0), 1), (2, .putfield 65, 3), (5, .iload_n 1, 1), (6, .ifCond .lt (10), 3), (9, .iload_n 1, 1), (10, .sipush (200), 3), (13, .if_icmp .le (5), 3), (16, .iconst (-1), 1), (17, .ireturn, 1), (18, .iconst (0), 1), (19, .istore_n 2, 1), (20, .iload_n 2, 1), (21, .iload_n 1, 1), (22, .if_icmp .ge (95), 3), (25, .aload_n 0, 1), (26, .iconst (0), 1), (27, .putfield 94, 3), (30, .iconst (0), 1), (31, .istore_n 3, 1), (32, .iload_n 3, 1), (33, .aload_n 0, 1), (34, .getfield 72, 3), (37, .if_icmp .ge (41), 3), (40, .aload_n 0, 1), (41, .getfield 20, 3), (44, .iload_n 3, 1), (45, .baload, 1), (46, .ifCond .eq (6), 3), (49, .goto (23), 3), (52, .aload_n 0, 1), (53, .getfield 35, 3), (56, .aload_n 0, 1), (57, .getfield 94, 3), (60, .iload_n 3, 1), (61, .iastore, 1), (62, .aload_n 0, 1), (63, .dup, 1), (64, .getfield 94, 3), (67, .iconst (1), 1), (68, .iadd, 1), (69, .putfield 94, 3), (72, .iinc 3 (1), 3), (75, .goto (-43), 3), (78, .aload_n 0, 1), (79, .getfield 94, 3), (82, .ifCond .ne (5), 3), (85, .iload_n 2, 1), (86, .ireturn, 1), (87, .aload_n 0, 1), (88, .getfield 20, 3), (91, .aload_n 0, 1), (92, .getfield 35, 3), (95, .aload_n 0, 1), (96, .aload_n 0, 1), (97, .getfield 94, 3), (100, .invokevirtual 106, 3), (103, .iaload, 1), (104, .iconst (1), 1), (105, .bastore, 1), (106, .aload_n 0, 1), (107, .iconst (-1), 1), (108, .putfield 38, 3), (111, .iinc 2 (1), 3), (114, .goto (-94), 3), (117, .iload_n 1, 1), (118, .ireturn, 1)]
theorem d_Mo_loops : mz_dec prog_11_method_26_code dl_Mo_loops = true := by decide +kernel
def I_Mo_loops (w h : Nat) : List (Nat × mz_Op) := [(0, mz_lda 0 1), (1, mz_push (.int (0)) 2), (2, mz_pfi 9 0 5), (5, mz_ldi 1 6), (6, mz_if (fun x => x < 0) 16 9), (9, mz_ldi 1 10), (10, mz_push (.int (200)) 13), (13, mz_ic (fun x y => x ≤ y) 18 16), (16, mz_push (.int (-1)) 17), (17, mz_ri), (18, mz_push (.int (0)) 19), (19, mz_sti 2 20), (20, mz_ldi 2 21), (21, mz_ldi 1 22), (22, mz_ic (fun x y => y ≤ x) 117 25), (25, mz_lda 0 26), (26, mz_push (.int (0)) 27), (27, mz_pfi 9 13 30), (30, mz_push (.int (0)) 31), (31, mz_sti 3 32), (32, mz_ldi 3 33), (33, mz_lda 0 34), (34, mz_gf 9 5 37), (37, mz_ic (fun x y => y ≤ x) 78 40), (40, mz_lda 0 41), (41, mz_gf 9 8 44), (44, mz_ldi 3 45), (45, mz_iald 1 46), (46, mz_if (fun x => x = 0) 52 49), (49, mz_go 72), (52, mz_lda 0 53), (53, mz_gf 9 14 56), (56, mz_lda 0 57), (57, mz_gf 9 13 60), (60, mz_ldi 3 61), (61, mz_iast 0 62), (62, mz_lda 0 63), (63, mz_dup 64), (64, mz_gf 9 13 67), (67, mz_push (.int (1)) 68), (68, mz_bi (fun x y => x + y) 69), (69, mz_pfi 9 13 72), (72, mz_inc 3 (1) 75), (75, mz_go 32), (78, mz_lda 0 79), (79, mz_gf 9 13 82), (82, mz_if (fun x => x = 0) 85 87), (85, mz_ldi 2 86), (86, mz_ri), (87, mz_lda 0 88), (88, mz_gf 9 8 91), (91, mz_lda 0 92), (92, mz_gf 9 14 95), (95, mz_lda 0 96), (96, mz_lda 0 97), (97, mz_gf 9 13 100), (100, mz_ci 2 9 (C_Mo_below w h) 103), (103, mz_iald 0 104), (104, mz_push (.int (1)) 105), (105, mz_iast 1 106), (106, mz_lda 0 107), (107, mz_push (.int (-1)) 108), (108, mz_pfi 9 15 111), (111, mz_inc 2 (1) 114), (114, mz_go 20), (117, mz_ldi 1 118), (118, mz_ri)]
/-- the row of closed doors: many stands, and its places are doors below d -/
def zo_lI (D d : Nat) (X : mz_X) : Prop := X.1 23 5 = nI D ∧ ∃ m : Nat, m ≤ d ∧ X.1 23 13 = nI m ∧ ∀ i, i < m → ∃ e : Nat, e < d ∧ X.1 32 i = nI e
theorem zo_lcS_I {D d : Nat} {X : mz_X} (hd : d < 288) (hX : zo_lI D d X) : zo_lI D (d + 1) (zo_lcS X d) := by
  obtain ⟨h5, m, hm, hm2, hr⟩ := hX
  unfold zo_lcS
  split
  · refine ⟨h5, m + 1, by omega, ?_, fun i hi => ?_⟩
    · show mz_up (mz_up X.1 32 (X.1 23 13).toNatClampNeg (nI d)) 23 13 (X.1 23 13 + 1) 23 13 = nI (m + 1)
      rw [mz_up_row]
      dsimp only
      rw [if_pos rfl, hm2, nI_1]
    · show ∃ e, e < d + 1 ∧ mz_up (mz_up X.1 32 (X.1 23 13).toNatClampNeg (nI d)) 23 13 (X.1 23 13 + 1) 32 i = nI e
      rw [mz_up_off (by decide), mz_up_row, hm2, nI_clamp (by omega)]
      dsimp only
      by_cases q : i = m
      · exact ⟨d, by omega, by rw [if_pos q]⟩
      · obtain ⟨e, he, he2⟩ := hr i (by omega)
        exact ⟨e, by omega, by rw [if_neg q]; exact he2⟩
  · exact ⟨h5, m, by omega, hm2, fun i hi => by
      obtain ⟨e, he, he2⟩ := hr i hi
      exact ⟨e, by omega, he2⟩⟩
theorem zo_lc_I {D : Nat} {X : mz_X} (hX : X.1 23 5 = nI D) : ∀ d, d ≤ 288 → zo_lI D d (zo_lc X d)
  | 0, _ => ⟨hX, 0, by omega, by show mz_up X.1 23 13 0 23 13 = nI 0; rw [mz_up_row]; dsimp only; rw [if_pos rfl, nI_0], fun i hi => by omega⟩
  | d + 1, h => zo_lcS_I (by omega) (zo_lc_I hX d (by omega))
theorem len_Mo_loops (w h : Nat) (lay : List mz_E) (as : List Value) (X : mz_X) (Q : Int32 → mz_X → Prop) (hC : C_Mo_loops w h lay as X Q) : (mz_l0 as).length ≤ 4 := by
  unfold C_Mo_loops at hC
  split at hC
  · exact Nat.le_of_ble_eq_true rfl
  · exact hC.elim
theorem ok_Mo_loops (w h : Nat) (lay : List mz_E) (as : List Value) (X : mz_X) (Q : Int32 → mz_X → Prop) (hC : C_Mo_loops w h lay as X Q) (K : mz_K) (hK : mz_Cl (I_Mo_loops w h) (mz_qi lay Q) K) : K 0 (mz_ent 4 as) [] (lay, X) := by
  unfold C_Mo_loops at hC
  split at hC
  · next n =>
    obtain ⟨rfl, g, D, hD, hD2, hq1, hq2⟩ := hC
    iterate 3 refine hK _ _ _ _ ?_
    show K 5 (mz_ent 4 [.ref 23, .int n]) [] (mz_lay w h, zo_t X)
    have hD1 : (zo_t X).1 23 5 = nI D := hD
    generalize zo_t X = Y0 at hq1 hq2 hD1 ⊢
    refine hK _ _ _ _ ?_
    refine hK _ _ _ _ (And.intro (fun c1 => ?_) (fun c1 => ?_))
    · refine hK _ _ _ _ ?_
      exact hK _ _ _ _ (And.intro rfl (hq1 (by simp [zx_lB, c1])))
    · iterate 2 refine hK _ _ _ _ ?_
      refine hK _ _ _ _ (And.intro (fun c2 => ?_) (fun c2 => ?_))
      · dsimp only at c2
        obtain ⟨m, hm, rfl, hq⟩ := hq2 (by simp [zx_lB, c1, c2])
        have loop : ∀ (k i : Nat) (Y : mz_X), i + k = m → Y.1 23 5 = nI D → Q (zo_lo Y D i k).1 (zo_lo Y D i k).2 → ∀ L3 : Option Value, K 20 [some (.ref 23), some (.int (nI m)), some (.int (nI i)), L3] [] (mz_lay w h, Y) := by
          intro k
          induction k with
          | zero =>
            intro i Y hi hY hQ L3
            iterate 2 refine hK _ _ _ _ ?_
            refine hK _ _ _ _ (And.intro (fun c3 => ?_) (fun c3 => ?_))
            · refine hK _ _ _ _ ?_
              exact hK _ _ _ _ (And.intro rfl (by rw [← show i = m by omega]; exact hQ))
            · exact absurd (nI_le (a := m) (b := i) (by omega) (by omega)) c3
          | succ k ih =>
            intro i Y hi hY hQ L3
            have inner : ∀ (kk j : Nat), j + kk = D → K 32 [some (.ref 23), some (.int (nI m)), some (.int (nI i)), some (.int (nI j))] [] (mz_lay w h, zo_lc Y j) := by
              intro kk
              induction kk with
              | zero =>
                intro j hj
                have hI := zo_lc_I hY j (by omega)
                have ej : j = D := by omega
                subst ej
                obtain ⟨h5, mm, hmm, hmm2, hr⟩ := hI
                have hlo : zo_lo Y j i (k + 1) = if (zo_lc Y j).1 23 13 = 0 then (nI i, zo_lc Y j) else zo_lo (zo_loS (zo_lc Y j)) j (i + 1) k := rfl
                rw [hlo] at hQ
                generalize zo_lc Y j = Z at hQ h5 hmm2 hr ⊢
                iterate 3 refine hK _ _ _ _ ?_
                refine hK _ _ _ _ (And.intro (fun c4 => ?_) (fun c4 => ?_))
                · iterate 2 refine hK _ _ _ _ ?_
                  refine hK _ _ _ _ (And.intro (fun c5 => ?_) (fun c5 => ?_))
                  · dsimp only at c5
                    rw [if_pos c5] at hQ
                    refine hK _ _ _ _ ?_
                    exact hK _ _ _ _ (And.intro rfl (hQ))
                  · dsimp only at c5
                    rw [if_neg c5] at hQ
                    have hm0 : 0 < mm := by
                      rcases Nat.eq_zero_or_pos mm with q | q
                      · rw [hmm2, q] at c5
                        exact absurd rfl c5
                      · exact q
                    have hv : zo_blV Z (Z.1 23 13) = nI (zc_r (Z.2 23 3 * 6364136223846793005 + 1442695040888963407) % mm) := by
                      unfold zo_blV
                      rw [hmm2]
                      exact zc_v_n _ hm0 (by omega)
                    have hml := Nat.mod_lt (zc_r (Z.2 23 3 * 6364136223846793005 + 1442695040888963407)) hm0
                    obtain ⟨e9, he9, he9b⟩ := hr _ hml
                    have hvin : vp_in (zo_blV Z (Z.1 23 13)) 288 := by
                      rw [hv]
                      exact vp_in_nI (by omega) (by omega)
                    have hvc : Z.1 32 (zo_blV Z (Z.1 23 13)).toNatClampNeg = nI e9 := by
                      rw [hv, nI_clamp (by omega)]
                      exact he9b
                    have hoi : zo_loI Z = e9 := by
                      unfold zo_loI
                      rw [hvc, nI_clamp (by omega)]
                    iterate 7 refine hK _ _ _ _ ?_
                    refine hK _ _ _ _ (And.intro (rfl) (And.intro (g) (And.intro (c5) ?_)))
                    refine hK _ _ _ _ (And.intro (hvin) ?_)
                    refine hK _ _ _ _ ?_
                    refine hK _ _ _ _ (And.intro (by show vp_in (Z.1 32 (zo_blV Z (Z.1 23 13)).toNatClampNeg) 288; rw [hvc]; exact vp_in_nI (by omega) (by omega)) ?_)
                    have h5b : (zo_loS Z).1 23 5 = nI j := h5
                    have ih1 := ih (i + 1) (zo_loS Z) (by omega) h5b hQ
                    rw [← nI_1] at ih1
                    iterate 5 refine hK _ _ _ _ ?_
                    exact ih1 _
                · dsimp only at c4
                  rw [h5] at c4
                  exact absurd (nI_le (Nat.le_refl _) (by omega)) c4
              | succ kk ihh =>
                intro j hj
                have hI := zo_lc_I hY j (by omega)
                have ih1 := ihh (j + 1) (by omega)
                rw [show zo_lc Y (j + 1) = zo_lcS (zo_lc Y j) j from rfl, ← nI_1] at ih1
                obtain ⟨h5, mm, hmm, hmm2, hr⟩ := hI
                generalize zo_lc Y j = Z at ih1 h5 hmm2 ⊢
                iterate 3 refine hK _ _ _ _ ?_
                refine hK _ _ _ _ (And.intro (fun c4 => ?_) (fun c4 => ?_))
                · dsimp only at c4
                  rw [h5] at c4
                  exact absurd c4 (nI_ge (by omega) (by omega))
                · iterate 3 refine hK _ _ _ _ ?_
                  refine hK _ _ _ _ (And.intro (vp_in_nI (by omega) (by omega)) ?_)
                  refine hK _ _ _ _ (And.intro (fun c5 => ?_) (fun c5 => ?_))
                  · dsimp only at c5
                    rw [nI_clamp (by omega)] at c5
                    rw [show zo_lcS Z j = (mz_up (mz_up Z.1 32 (Z.1 23 13).toNatClampNeg (nI j)) 23 13 (Z.1 23 13 + 1), Z.2) from if_pos c5] at ih1
                    iterate 5 refine hK _ _ _ _ ?_
                    refine hK _ _ _ _ (And.intro (by dsimp only; rw [hmm2]; exact vp_in_nI (by omega) (by omega)) ?_)
                    iterate 8 refine hK _ _ _ _ ?_
                    exact ih1
                  · dsimp only at c5
                    rw [nI_clamp (by omega)] at c5
                    rw [show zo_lcS Z j = Z from if_neg c5] at ih1
                    iterate 3 refine hK _ _ _ _ ?_
                    exact ih1
            iterate 2 refine hK _ _ _ _ ?_
            refine hK _ _ _ _ (And.intro (fun c3 => ?_) (fun c3 => ?_))
            · exact absurd c3 (nI_ge (by omega) (by omega))
            · iterate 5 refine hK _ _ _ _ ?_
              exact inner D 0 (by omega)
        iterate 2 refine hK _ _ _ _ ?_
        exact loop m 0 Y0 (by omega) hD1 hq none
      · dsimp only at c2
        refine hK _ _ _ _ ?_
        exact hK _ _ _ _ (And.intro rfl (hq1 (by simp [zx_lB, c2])))
  · exact hC.elim
set_option maxRecDepth 20000 in
theorem snd_Mo_loops (w h : Nat) (l : Launch) (p : Program) (e : Env) (s : State) (m : MethodId) (args : Array Value) (below : List Frame) (meth : Method) (c : Code) (D : va_G) (ad0 : Nat → Nat) (cA0 : Nat → ClassId) (A : Nat → Prop) (lay : List mz_E) (Q : Int32 → mz_X → Prop) (F : mz_F p s m args meth c prog_11_method_26_code 4 y_Mo_loops.cls (some .int) w_Mo_loops) (hA : ∀ q, s.heap.size ≤ q → A q) : mz_All (mz_V p l e (mz_rm 1 21) s m args below meth c 4 lay.length (mz_sz lay) D mz_cls (mz_G0 ad0 cA0) A (MQ below (va_Qi Q (mz_B D mz_cls ad0 cA0 lay A) A) args s 0 0 A)) (mz_qi lay Q) (I_Mo_loops w h) := by
  obtain ⟨hx, hb, hml, hown, hts, hr, hlk⟩ := F
  unfold I_Mo_loops
  refine mz_All.cons (sd_aload_n hx hb (mz_dg d_Mo_loops 0 0 (.aload_n 0) 1 rfl) rfl) ?_
  refine mz_All.cons (sd_iconst hx hb (mz_dg d_Mo_loops 1 1 (.iconst (0)) 1 rfl) (by decide)) ?_
  refine mz_All.cons (sd_puti (k := 0) hx hb hts (mz_inC in_Mo) ty_Mo ty_Mo_ok nm_Mo hown (T := T_Mo) (N := 19) rfl (by decide) (hts (.fieldLink "MazeFormsModel" 65 "MazeFormsModel" "thrown" "I") (List.mem_cons_of_mem _ wm_728)) (fun _ h => h) rfl rfl (mz_dg d_Mo_loops 2 2 (.putfield 65) 3 rfl)) ?_
  refine mz_All.cons (sd_iload_n hx hb (mz_dg d_Mo_loops 3 5 (.iload_n 1) 1 rfl) rfl) ?_
  refine mz_All.cons (sd_if_lt hx hb (mz_dg d_Mo_loops 4 6 (.ifCond .lt (10)) 3 rfl) (by decide)) ?_
  refine mz_All.cons (sd_iload_n hx hb (mz_dg d_Mo_loops 5 9 (.iload_n 1) 1 rfl) rfl) ?_
  refine mz_All.cons (sd_sipush hx hb (mz_dg d_Mo_loops 6 10 (.sipush (200)) 3 rfl) (by decide)) ?_
  refine mz_All.cons (sd_icmp_le hx hb (mz_dg d_Mo_loops 7 13 (.if_icmp .le (5)) 3 rfl) (by decide)) ?_
  refine mz_All.cons (sd_iconst hx hb (mz_dg d_Mo_loops 8 16 (.iconst (-1)) 1 rfl) (by decide)) ?_
  refine mz_All.cons (sd_ri hx hb hr hlk (mz_dg d_Mo_loops 9 17 (.ireturn) 1 rfl)) ?_
  refine mz_All.cons (sd_iconst hx hb (mz_dg d_Mo_loops 10 18 (.iconst (0)) 1 rfl) (by decide)) ?_
  refine mz_All.cons (sd_istore_n hx hb (mz_dg d_Mo_loops 11 19 (.istore_n 2) 1 rfl) rfl (by decide)) ?_
  refine mz_All.cons (sd_iload_n hx hb (mz_dg d_Mo_loops 12 20 (.iload_n 2) 1 rfl) rfl) ?_
  refine mz_All.cons (sd_iload_n hx hb (mz_dg d_Mo_loops 13 21 (.iload_n 1) 1 rfl) rfl) ?_
  refine mz_All.cons (sd_icmp_ge hx hb (mz_dg d_Mo_loops 14 22 (.if_icmp .ge (95)) 3 rfl) (by decide)) ?_
  refine mz_All.cons (sd_aload_n hx hb (mz_dg d_Mo_loops 15 25 (.aload_n 0) 1 rfl) rfl) ?_
  refine mz_All.cons (sd_iconst hx hb (mz_dg d_Mo_loops 16 26 (.iconst (0)) 1 rfl) (by decide)) ?_
  refine mz_All.cons (sd_puti (k := 13) hx hb hts (mz_inC in_Mo) ty_Mo ty_Mo_ok nm_Mo hown (T := T_Mo) (N := 19) rfl (by decide) (hts (.fieldLink "MazeFormsModel" 94 "MazeFormsModel" "many" "I") (List.mem_cons_of_mem _ wm_741)) (fun _ h => h) rfl rfl (mz_dg d_Mo_loops 17 27 (.putfield 94) 3 rfl)) ?_
  refine mz_All.cons (sd_iconst hx hb (mz_dg d_Mo_loops 18 30 (.iconst (0)) 1 rfl) (by decide)) ?_
  refine mz_All.cons (sd_istore_n hx hb (mz_dg d_Mo_loops 19 31 (.istore_n 3) 1 rfl) rfl (by decide)) ?_
  refine mz_All.cons (sd_iload_n hx hb (mz_dg d_Mo_loops 20 32 (.iload_n 3) 1 rfl) rfl) ?_
  refine mz_All.cons (sd_aload_n hx hb (mz_dg d_Mo_loops 21 33 (.aload_n 0) 1 rfl) rfl) ?_
  refine mz_All.cons (sd_get (k := 5) hx hb hts (mz_inC in_Mo) hown (T := T_Mo) (N := 19) rfl (by decide) (hts (.fieldLink "MazeFormsModel" 72 "MazeFormsModel" "doors" "I") (List.mem_cons_of_mem _ wm_733)) (fun _ h => h) (mz_dg d_Mo_loops 22 34 (.getfield 72) 3 rfl)) ?_
  refine mz_All.cons (sd_icmp_ge hx hb (mz_dg d_Mo_loops 23 37 (.if_icmp .ge (41)) 3 rfl) (by decide)) ?_
  refine mz_All.cons (sd_aload_n hx hb (mz_dg d_Mo_loops 24 40 (.aload_n 0) 1 rfl) rfl) ?_
  refine mz_All.cons (sd_get (k := 8) hx hb hts (mz_inC in_Mo) hown (T := T_Mo) (N := 19) rfl (by decide) (hts (.fieldLink "MazeFormsModel" 20 "MazeFormsModel" "isOpen" "[Z") (List.mem_cons_of_mem _ wm_736)) (fun _ h => h) (mz_dg d_Mo_loops 25 41 (.getfield 20) 3 rfl)) ?_
  refine mz_All.cons (sd_iload_n hx hb (mz_dg d_Mo_loops 26 44 (.iload_n 3) 1 rfl) rfl) ?_
  refine mz_All.cons (sd_zald hx hb (mz_dg d_Mo_loops 27 45 (.baload) 1 rfl)) ?_
  refine mz_All.cons (sd_if_eq hx hb (mz_dg d_Mo_loops 28 46 (.ifCond .eq (6)) 3 rfl) (by decide)) ?_
  refine mz_All.cons (sd_goto hx hb (mz_dg d_Mo_loops 29 49 (.goto (23)) 3 rfl) (by decide)) ?_
  refine mz_All.cons (sd_aload_n hx hb (mz_dg d_Mo_loops 30 52 (.aload_n 0) 1 rfl) rfl) ?_
  refine mz_All.cons (sd_get (k := 14) hx hb hts (mz_inC in_Mo) hown (T := T_Mo) (N := 19) rfl (by decide) (hts (.fieldLink "MazeFormsModel" 35 "MazeFormsModel" "choice" "[I") (List.mem_cons_of_mem _ wm_742)) (fun _ h => h) (mz_dg d_Mo_loops 31 53 (.getfield 35) 3 rfl)) ?_
  refine mz_All.cons (sd_aload_n hx hb (mz_dg d_Mo_loops 32 56 (.aload_n 0) 1 rfl) rfl) ?_
  refine mz_All.cons (sd_get (k := 13) hx hb hts (mz_inC in_Mo) hown (T := T_Mo) (N := 19) rfl (by decide) (hts (.fieldLink "MazeFormsModel" 94 "MazeFormsModel" "many" "I") (List.mem_cons_of_mem _ wm_741)) (fun _ h => h) (mz_dg d_Mo_loops 33 57 (.getfield 94) 3 rfl)) ?_
  refine mz_All.cons (sd_iload_n hx hb (mz_dg d_Mo_loops 34 60 (.iload_n 3) 1 rfl) rfl) ?_
  refine mz_All.cons (sd_iast hx hb (mz_dg d_Mo_loops 35 61 (.iastore) 1 rfl)) ?_
  refine mz_All.cons (sd_aload_n hx hb (mz_dg d_Mo_loops 36 62 (.aload_n 0) 1 rfl) rfl) ?_
  refine mz_All.cons (sd_dup hx hb (mz_dg d_Mo_loops 37 63 (.dup) 1 rfl)) ?_
  refine mz_All.cons (sd_get (k := 13) hx hb hts (mz_inC in_Mo) hown (T := T_Mo) (N := 19) rfl (by decide) (hts (.fieldLink "MazeFormsModel" 94 "MazeFormsModel" "many" "I") (List.mem_cons_of_mem _ wm_741)) (fun _ h => h) (mz_dg d_Mo_loops 38 64 (.getfield 94) 3 rfl)) ?_
  refine mz_All.cons (sd_iconst hx hb (mz_dg d_Mo_loops 39 67 (.iconst (1)) 1 rfl) (by decide)) ?_
  refine mz_All.cons (sd_iadd hx hb (mz_dg d_Mo_loops 40 68 (.iadd) 1 rfl)) ?_
  refine mz_All.cons (sd_puti (k := 13) hx hb hts (mz_inC in_Mo) ty_Mo ty_Mo_ok nm_Mo hown (T := T_Mo) (N := 19) rfl (by decide) (hts (.fieldLink "MazeFormsModel" 94 "MazeFormsModel" "many" "I") (List.mem_cons_of_mem _ wm_741)) (fun _ h => h) rfl rfl (mz_dg d_Mo_loops 41 69 (.putfield 94) 3 rfl)) ?_
  refine mz_All.cons (sd_iinc hx hb (mz_dg d_Mo_loops 42 72 (.iinc 3 (1)) 3 rfl) (by decide) (by decide)) ?_
  refine mz_All.cons (sd_goto hx hb (mz_dg d_Mo_loops 43 75 (.goto (-43)) 3 rfl) (by decide)) ?_
  refine mz_All.cons (sd_aload_n hx hb (mz_dg d_Mo_loops 44 78 (.aload_n 0) 1 rfl) rfl) ?_
  refine mz_All.cons (sd_get (k := 13) hx hb hts (mz_inC in_Mo) hown (T := T_Mo) (N := 19) rfl (by decide) (hts (.fieldLink "MazeFormsModel" 94 "MazeFormsModel" "many" "I") (List.mem_cons_of_mem _ wm_741)) (fun _ h => h) (mz_dg d_Mo_loops 45 79 (.getfield 94) 3 rfl)) ?_
  refine mz_All.cons (sd_if_ne hx hb (mz_dg d_Mo_loops 46 82 (.ifCond .ne (5)) 3 rfl) (by decide)) ?_
  refine mz_All.cons (sd_iload_n hx hb (mz_dg d_Mo_loops 47 85 (.iload_n 2) 1 rfl) rfl) ?_
  refine mz_All.cons (sd_ri hx hb hr hlk (mz_dg d_Mo_loops 48 86 (.ireturn) 1 rfl)) ?_
  refine mz_All.cons (sd_aload_n hx hb (mz_dg d_Mo_loops 49 87 (.aload_n 0) 1 rfl) rfl) ?_
  refine mz_All.cons (sd_get (k := 8) hx hb hts (mz_inC in_Mo) hown (T := T_Mo) (N := 19) rfl (by decide) (hts (.fieldLink "MazeFormsModel" 20 "MazeFormsModel" "isOpen" "[Z") (List.mem_cons_of_mem _ wm_736)) (fun _ h => h) (mz_dg d_Mo_loops 50 88 (.getfield 20) 3 rfl)) ?_
  refine mz_All.cons (sd_aload_n hx hb (mz_dg d_Mo_loops 51 91 (.aload_n 0) 1 rfl) rfl) ?_
  refine mz_All.cons (sd_get (k := 14) hx hb hts (mz_inC in_Mo) hown (T := T_Mo) (N := 19) rfl (by decide) (hts (.fieldLink "MazeFormsModel" 35 "MazeFormsModel" "choice" "[I") (List.mem_cons_of_mem _ wm_742)) (fun _ h => h) (mz_dg d_Mo_loops 52 92 (.getfield 35) 3 rfl)) ?_
  refine mz_All.cons (sd_aload_n hx hb (mz_dg d_Mo_loops 53 95 (.aload_n 0) 1 rfl) rfl) ?_
  refine mz_All.cons (sd_aload_n hx hb (mz_dg d_Mo_loops 54 96 (.aload_n 0) 1 rfl) rfl) ?_
  refine mz_All.cons (sd_get (k := 13) hx hb hts (mz_inC in_Mo) hown (T := T_Mo) (N := 19) rfl (by decide) (hts (.fieldLink "MazeFormsModel" 94 "MazeFormsModel" "many" "I") (List.mem_cons_of_mem _ wm_741)) (fun _ h => h) (mz_dg d_Mo_loops 55 97 (.getfield 94) 3 rfl)) ?_
  refine mz_All.cons (sd_calli (T := T_Mo) ⟨hx, hb, hml, hown, hts⟩ (met_Mo_below w h l) (cwV 1 hts (mz_gV wm_826 wm_828 wm_50 wm_77 wm_829) rfl rfl rfl (by decide) ⟨by decide, by decide⟩) rfl hA rfl (mz_dg d_Mo_loops 56 100 (.invokevirtual 106) 3 rfl)) ?_
  refine mz_All.cons (sd_iald hx hb (mz_dg d_Mo_loops 57 103 (.iaload) 1 rfl)) ?_
  refine mz_All.cons (sd_iconst hx hb (mz_dg d_Mo_loops 58 104 (.iconst (1)) 1 rfl) (by decide)) ?_
  refine mz_All.cons (sd_zast hx hb (mz_dg d_Mo_loops 59 105 (.bastore) 1 rfl)) ?_
  refine mz_All.cons (sd_aload_n hx hb (mz_dg d_Mo_loops 60 106 (.aload_n 0) 1 rfl) rfl) ?_
  refine mz_All.cons (sd_iconst hx hb (mz_dg d_Mo_loops 61 107 (.iconst (-1)) 1 rfl) (by decide)) ?_
  refine mz_All.cons (sd_puti (k := 15) hx hb hts (mz_inC in_Mo) ty_Mo ty_Mo_ok nm_Mo hown (T := T_Mo) (N := 19) rfl (by decide) (hts (.fieldLink "MazeFormsModel" 38 "MazeFormsModel" "length" "I") (List.mem_cons_of_mem _ wm_743)) (fun _ h => h) rfl rfl (mz_dg d_Mo_loops 62 108 (.putfield 38) 3 rfl)) ?_
  refine mz_All.cons (sd_iinc hx hb (mz_dg d_Mo_loops 63 111 (.iinc 2 (1)) 3 rfl) (by decide) (by decide)) ?_
  refine mz_All.cons (sd_goto hx hb (mz_dg d_Mo_loops 64 114 (.goto (-94)) 3 rfl) (by decide)) ?_
  refine mz_All.cons (sd_iload_n hx hb (mz_dg d_Mo_loops 65 117 (.iload_n 1) 1 rfl) rfl) ?_
  refine mz_All.cons (sd_ri hx hb hr hlk (mz_dg d_Mo_loops 66 118 (.ireturn) 1 rfl)) ?_
  exact trivial
theorem met_Mo_loops (w h : Nat) (l : Launch) : mz_MI l y_Mo_loops w_Mo_loops 1 21 mz_cls (C_Mo_loops w h) := mz_MI_of (I_Mo_loops w h) (by decide) rfl (len_Mo_loops w h) (ok_Mo_loops w h) (snd_Mo_loops w h l)
