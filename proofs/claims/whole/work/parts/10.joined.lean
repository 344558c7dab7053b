/-- Joined (place 7), its parents (place 8): one halving step, and the search for the root -/
def zj_stp (X : mz_X) (x : Int32) : mz_X := (mz_up X.1 8 x.toNatClampNeg (X.1 8 (X.1 8 x.toNatClampNeg).toNatClampNeg), X.2)
def zj_rtX (k : Nat) (X : mz_X) (x : Int32) : mz_X := match k with
  | 0 => X
  | j + 1 => match decide (X.1 8 x.toNatClampNeg = x) with
    | true => X
    | false => zj_rtX j (zj_stp X x) ((zj_stp X x).1 8 x.toNatClampNeg)
def zj_rtV (k : Nat) (X : mz_X) (x : Int32) : Int32 := match k with
  | 0 => x
  | j + 1 => match decide (X.1 8 x.toNatClampNeg = x) with
    | true => x
    | false => zj_rtV j (zj_stp X x) ((zj_stp X x).1 8 x.toNatClampNeg)
def zj_roX (w h : Nat) (X : mz_X) (c : Int32) : mz_X := match mz_lt c (w * h) with
  | true => zj_rtX (w * h) X c
  | false => X
def zj_roV (w h : Nat) (X : mz_X) (c : Int32) : Int32 := match mz_lt c (w * h) with
  | true => zj_rtV (w * h) X c
  | false => -1
def zj_ok (w h : Nat) (X : mz_X) : Prop := ∀ i, i < w * h → vp_in (X.1 8 i) (w * h)
def zj_jX1 (w h : Nat) (X : mz_X) (d : Int32) : mz_X := zj_roX w h X (zg_les w h X d)
def zj_jX2 (w h : Nat) (X : mz_X) (d : Int32) : mz_X := zj_roX w h (zj_jX1 w h X d) (zg_gre w h (zj_jX1 w h X d) d)
def zj_ja (w h : Nat) (X : mz_X) (d : Int32) : Int32 := zj_roV w h X (zg_les w h X d)
def zj_jb (w h : Nat) (X : mz_X) (d : Int32) : Int32 := zj_roV w h (zj_jX1 w h X d) (zg_gre w h (zj_jX1 w h X d) d)
def zj_joB (w h : Nat) (X : mz_X) (d : Int32) : Bool := !decide (zj_ja w h X d = -1) && !decide (zj_jb w h X d = -1) && !decide (zj_ja w h X d = zj_jb w h X d)
def zj_joX (w h : Nat) (X : mz_X) (d : Int32) : mz_X := match zj_joB w h X d with
  | true => (mz_up (zj_jX2 w h X d).1 8 (zj_ja w h X d).toNatClampNeg (zj_jb w h X d), (zj_jX2 w h X d).2)
  | false => zj_jX2 w h X d
def zj_idn (X : mz_X) (k : Nat) : mz_X := (fun p i => if p = 8 ∧ i < k then nI i else X.1 p i, X.2)
/-- the joins by the open doors below k -/
def zj_aSt (w h : Nat) (s : mz_X × Nat) (j : Nat) : mz_X × Nat := match zg_open w h s.1 (nI j) with
  | true => (zj_joX w h s.1 (nI j), s.2 + (match zj_joB w h s.1 (nI j) with
      | true => 1
      | false => 0))
  | false => s
def zj_all (w h : Nat) (X : mz_X) (k : Nat) : mz_X × Nat := match k with
  | 0 => (zj_idn X (w * h), 0)
  | j + 1 => zj_aSt w h (zj_all w h X j) j
def C_Jo_reset (w h : Nat) : mz_CV := fun lay as X Q => match as with
  | [.ref 7] => lay = mz_lay w h ∧ mz_geo w h ∧ Q (zj_idn X (w * h))
  | _ => False
def C_Jo_root (w h : Nat) : mz_CI := fun lay as X Q => match as with
  | [.ref 7, .int c] => lay = mz_lay w h ∧ mz_geo w h ∧ zj_ok w h X ∧ Q (zj_roV w h X c) (zj_roX w h X c)
  | _ => False
def C_Jo_joinBy (w h : Nat) : mz_CI := fun lay as X Q => match as with
  | [.ref 7, .int d] => lay = mz_lay w h ∧ mz_geo w h ∧ zj_ok w h X ∧ Q (mz_b (zj_joB w h X d)) (zj_joX w h X d)
  | _ => False
def C_Jo_joinOpenDoors (w h : Nat) : mz_CI := fun lay as X Q => match as with
  | [.ref 7] => lay = mz_lay w h ∧ mz_geo w h ∧ ∃ D : Nat, D ≤ mz_dn w h ∧ X.1 1 7 = nI D ∧ Q (nI (zj_all w h X D).2) (zj_all w h X D).1
  | _ => False
def y_Jo_reset : MethodName := ⟨"MazeForms$Joined", "reset", "()V"⟩
abbrev w_Jo_reset : List Cond := .code y_Jo_reset prog_6_method_2_code 2 none :: mz_tb
def dl_Jo_reset : List (Nat × ClassFile.Instr × Nat) := [(0, .iconst (0), 1), (1, .istore_n 1, 1), (2, .iload_n 1, 1), (3, .aload_n 0, 1), (4, .getfield 21, 3), (7, .arraylength, 1), (8, .if_icmp .ge (16), 3), (11, .aload_n 0, 1), (12, .getfield 21, 3), (15, .iload_n 1, 1), (16, .iload_n 1, 1), (17, .iastore, 1), (18, .iinc 1 (1), 3), (21, .goto (-19), 3), (24, .return_, 1)]
theorem d_Jo_reset : mz_dec prog_6_method_2_code dl_Jo_reset = true := by decide +kernel
def y_Jo_root : MethodName := ⟨"MazeForms$Joined", "root", "(I)I"⟩
abbrev w_Jo_root : List Cond := .code y_Jo_root prog_6_method_5_code 4 (some .int) :: mz_tb
def dl_Jo_root : List (Nat × ClassFile.Instr × Nat) := [(0, .aload_n 0, 1), (1, .getfield 9, 3), (4, .iload_n 1, 1), (5, .invokevirtual 48, 3), (8, .ifCond .ne (5), 3), (11, .iconst (-1), 1), (12, .ireturn, 1), (13, .iload_n 1, 1), (14, .istore_n 2, 1), (15, .iconst (0), 1), (16, .istore_n 3, 1), (17, .iload_n 3, 1), (18, .aload_n 0, 1), (19, .getfield 21, 3), (22, .arraylength, 1), (23, .if_icmp .ge (43), 3), (26, .aload_n 0, 1), (27, .getfield 21, 3), (30, .iload_n 2, 1), (31, .iaload, 1), (32, .iload_n 2, 1), (33, .if_icmp .eq (33), 3), (36, .aload_n 0, 1), (37, .getfield 21, 3), (40, .iload_n 2, 1), (41, .aload_n 0, 1), (42, .getfield 21, 3), (45, .aload_n 0, 1), (46, .getfield 21, 3), (49, .iload_n 2, 1), (50, .iaload, 1), (51, .iaload, 1), (52, .iastore, 1), (53, .aload_n 0, 1), (54, .getfield 21, 3), (57, .iload_n 2, 1), (58, .iaload, 1), (59, .istore_n 2, 1), (60, .iinc 3 (1), 3), (63, .goto (-46), 3), (66, .iload_n 2, 1), (67, .ireturn, 1)]
theorem d_Jo_root : mz_dec prog_6_method_5_code dl_Jo_root = true := by decide +kernel
def y_Jo_joinBy : MethodName := ⟨"MazeForms$Joined", "joinBy", "(I)Z"⟩
abbrev w_Jo_joinBy : List Cond := .code y_Jo_joinBy prog_6_method_3_code 4 (some .boolean) :: mz_tb
def dl_Jo_joinBy : List (Nat × ClassFile.Instr × Nat) := [(0, .aload_n 0, 1), (1, .aload_n 0, 1), (2, .getfield 9, 3), (5, .iload_n 1, 1), (6, .invokevirtual 25, 3), (9, .invokevirtual 29, 3), (12, .istore_n 2, 1), (13, .aload_n 0, 1), (14, .aload_n 0, 1), (15, .getfield 9, 3), (18, .iload_n 1, 1), (19, .invokevirtual 32, 3), (22, .invokevirtual 29, 3), (25, .istore_n 3, 1), (26, .iload_n 2, 1), (27, .iconst (-1), 1), (28, .if_icmp .eq (13), 3), (31, .iload_n 3, 1), (32, .iconst (-1), 1), (33, .if_icmp .eq (8), 3), (36, .iload_n 2, 1), (37, .iload_n 3, 1), (38, .if_icmp .ne (5), 3), (41, .iconst (0), 1), (42, .ireturn, 1), (43, .aload_n 0, 1), (44, .getfield 21, 3), (47, .iload_n 2, 1), (48, .iload_n 3, 1), (49, .iastore, 1), (50, .iconst (1), 1), (51, .ireturn, 1)]
theorem d_Jo_joinBy : mz_dec prog_6_method_3_code dl_Jo_joinBy = true := by decide +kernel
def y_Jo_joinOpenDoors : MethodName := ⟨"MazeForms$Joined", "joinOpenDoors", "()I"⟩
abbrev w_Jo_joinOpenDoors : List Cond := .code y_Jo_joinOpenDoors prog_6_method_4_code 3 (some .int) :: mz_tb
def dl_Jo_joinOpenDoors : List (Nat × ClassFile.Instr × Nat) := [(0, .aload_n 0, 1), (1, .invokevirtual 35, 3), (4, .iconst (0), 1), (5, .istore_n 1, 1), (6, .iconst (0), 1), (7, .istore_n 2, 1), (8, .iload_n 2, 1), (9, .aload_n 0, 1), (10, .getfield 9, 3), (13, .invokevirtual 38, 3), (16, .if_icmp .ge (31), 3), (19, .aload_n 0, 1), (20, .getfield 9, 3), (23, .iload_n 2, 1), (24, .invokevirtual 41, 3), (27, .ifCond .eq (14), 3), (30, .aload_n 0, 1), (31, .iload_n 2, 1), (32, .invokevirtual 45, 3), (35, .ifCond .eq (6), 3), (38, .iinc 1 (1), 3), (41, .iinc 2 (1), 3), (44, .goto (-36), 3), (47, .iload_n 1, 1), (48, .ireturn, 1)]
theorem d_Jo_joinOpenDoors : mz_dec prog_6_method_4_code dl_Jo_joinOpenDoors = true := by decide +kernel
def I_Jo_reset (w h : Nat) : List (Nat × mz_Op) := [(0, mz_push (.int (0)) 1), (1, mz_sti 1 2), (2, mz_ldi 1 3), (3, mz_lda 0 4), (4, mz_gf 4 1 7), (7, mz_al 8), (8, mz_ic (fun x y => y ≤ x) 24 11), (11, mz_lda 0 12), (12, mz_gf 4 1 15), (15, mz_ldi 1 16), (16, mz_ldi 1 17), (17, mz_iast 0 18), (18, mz_inc 1 (1) 21), (21, mz_go 2), (24, mz_rv)]
def I_Jo_root (w h : Nat) : List (Nat × mz_Op) := [(0, mz_lda 0 1), (1, mz_gf 4 0 4), (4, mz_ldi 1 5), (5, mz_ci 2 3 (C_Gr_isCell w h) 8), (8, mz_if (fun x => x = 0) 11 13), (11, mz_push (.int (-1)) 12), (12, mz_ri), (13, mz_ldi 1 14), (14, mz_sti 2 15), (15, mz_push (.int (0)) 16), (16, mz_sti 3 17), (17, mz_ldi 3 18), (18, mz_lda 0 19), (19, mz_gf 4 1 22), (22, mz_al 23), (23, mz_ic (fun x y => y ≤ x) 66 26), (26, mz_lda 0 27), (27, mz_gf 4 1 30), (30, mz_ldi 2 31), (31, mz_iald 0 32), (32, mz_ldi 2 33), (33, mz_ic (fun x y => x = y) 66 36), (36, mz_lda 0 37), (37, mz_gf 4 1 40), (40, mz_ldi 2 41), (41, mz_lda 0 42), (42, mz_gf 4 1 45), (45, mz_lda 0 46), (46, mz_gf 4 1 49), (49, mz_ldi 2 50), (50, mz_iald 0 51), (51, mz_iald 0 52), (52, mz_iast 0 53), (53, mz_lda 0 54), (54, mz_gf 4 1 57), (57, mz_ldi 2 58), (58, mz_iald 0 59), (59, mz_sti 2 60), (60, mz_inc 3 (1) 63), (63, mz_go 17), (66, mz_ldi 2 67), (67, mz_ri)]
def I_Jo_joinBy (w h : Nat) : List (Nat × mz_Op) := [(0, mz_lda 0 1), (1, mz_lda 0 2), (2, mz_gf 4 0 5), (5, mz_ldi 1 6), (6, mz_ci 2 3 (C_Gr_lesserCell w h) 9), (9, mz_ci 2 4 (C_Jo_root w h) 12), (12, mz_sti 2 13), (13, mz_lda 0 14), (14, mz_lda 0 15), (15, mz_gf 4 0 18), (18, mz_ldi 1 19), (19, mz_ci 2 3 (C_Gr_greaterCell w h) 22), (22, mz_ci 2 4 (C_Jo_root w h) 25), (25, mz_sti 3 26), (26, mz_ldi 2 27), (27, mz_push (.int (-1)) 28), (28, mz_ic (fun x y => x = y) 41 31), (31, mz_ldi 3 32), (32, mz_push (.int (-1)) 33), (33, mz_ic (fun x y => x = y) 41 36), (36, mz_ldi 2 37), (37, mz_ldi 3 38), (38, mz_ic (fun x y => x = y) 41 43), (41, mz_push (.int (0)) 42), (42, mz_rz), (43, mz_lda 0 44), (44, mz_gf 4 1 47), (47, mz_ldi 2 48), (48, mz_ldi 3 49), (49, mz_iast 0 50), (50, mz_push (.int (1)) 51), (51, mz_rz)]
def I_Jo_joinOpenDoors (w h : Nat) : List (Nat × mz_Op) := [(0, mz_lda 0 1), (1, mz_cvo 1 4 (C_Jo_reset w h) 4), (4, mz_push (.int (0)) 5), (5, mz_sti 1 6), (6, mz_push (.int (0)) 7), (7, mz_sti 2 8), (8, mz_ldi 2 9), (9, mz_lda 0 10), (10, mz_gf 4 0 13), (13, mz_ci 1 3 (C_Gr_doorCount w h) 16), (16, mz_ic (fun x y => y ≤ x) 47 19), (19, mz_lda 0 20), (20, mz_gf 4 0 23), (23, mz_ldi 2 24), (24, mz_ci 2 3 (C_Gr_isOpen w h) 27), (27, mz_if (fun x => x = 0) 41 30), (30, mz_lda 0 31), (31, mz_ldi 2 32), (32, mz_ci 2 4 (C_Jo_joinBy w h) 35), (35, mz_if (fun x => x = 0) 41 38), (38, mz_inc 1 (1) 41), (41, mz_inc 2 (1) 44), (44, mz_go 8), (47, mz_ldi 1 48), (48, mz_ri)]
theorem mz_in_cl {x : Int32} {n : Nat} (h : vp_in x n) : x.toNatClampNeg < n := Nat.not_le.mp fun q => h (Or.inr q)
theorem zj_stp_ok {w h : Nat} {X : mz_X} {x : Int32} (hX : zj_ok w h X) (hx : vp_in x (w * h)) : zj_ok w h (zj_stp X x) := by
  intro i hi
  have h2 := hX _ (mz_in_cl (hX _ (mz_in_cl hx)))
  simp only [zj_stp, mz_up]
  by_cases hc : i = x.toNatClampNeg
  · simp only [if_pos hc, if_true]
    exact h2
  · simp only [if_neg hc, if_true]
    exact hX i hi
theorem zj_rt_ok {w h : Nat} : ∀ (k : Nat) (X : mz_X) (x : Int32), zj_ok w h X → vp_in x (w * h) → zj_ok w h (zj_rtX k X x) ∧ vp_in (zj_rtV k X x) (w * h)
  | 0, X, x, hX, hx => ⟨hX, hx⟩
  | k + 1, X, x, hX, hx => by
    simp only [zj_rtX, zj_rtV]
    split
    · exact ⟨hX, hx⟩
    · have h1 := zj_stp_ok hX hx
      exact zj_rt_ok k _ _ h1 (h1 _ (mz_in_cl hx))
theorem zj_ro_ok {w h : Nat} {X : mz_X} (g : mz_geo w h) (c : Int32) (hX : zj_ok w h X) : zj_ok w h (zj_roX w h X c) ∧ (¬ zj_roV w h X c = -1 → vp_in (zj_roV w h X c) (w * h)) := by
  have hn := mz_geo_n g
  unfold zj_roX zj_roV
  cases hc : mz_lt c (w * h) with
  | true =>
    have := zj_rt_ok (w * h) X c hX (mz_lt_in hc (by omega))
    exact ⟨this.1, fun _ => this.2⟩
  | false => exact ⟨hX, fun q => absurd rfl q⟩
theorem zj_jX1_ok {w h : Nat} {X : mz_X} (g : mz_geo w h) (d : Int32) (hX : zj_ok w h X) : zj_ok w h (zj_jX1 w h X d) := (zj_ro_ok g _ hX).1
theorem zj_jX2_ok {w h : Nat} {X : mz_X} (g : mz_geo w h) (d : Int32) (hX : zj_ok w h X) : zj_ok w h (zj_jX2 w h X d) := (zj_ro_ok g _ (zj_jX1_ok g d hX)).1
theorem zj_joX_t {w h : Nat} {X : mz_X} {d : Int32} (e : zj_joB w h X d = true) : zj_joX w h X d = (mz_up (zj_jX2 w h X d).1 8 (zj_ja w h X d).toNatClampNeg (zj_jb w h X d), (zj_jX2 w h X d).2) := by
  unfold zj_joX
  rw [e]
theorem zj_joX_f {w h : Nat} {X : mz_X} {d : Int32} (e : zj_joB w h X d = false) : zj_joX w h X d = zj_jX2 w h X d := by
  unfold zj_joX
  rw [e]
theorem zj_aSt_f {w h j : Nat} {s : mz_X × Nat} (e : zg_open w h s.1 (nI j) = false) : zj_aSt w h s j = s := by
  unfold zj_aSt
  rw [e]
theorem zj_aSt_tt {w h j : Nat} {s : mz_X × Nat} (e : zg_open w h s.1 (nI j) = true) (e2 : zj_joB w h s.1 (nI j) = true) : zj_aSt w h s j = (zj_joX w h s.1 (nI j), s.2 + 1) := by
  unfold zj_aSt
  rw [e, e2]
theorem zj_aSt_tf {w h j : Nat} {s : mz_X × Nat} (e : zg_open w h s.1 (nI j) = true) (e2 : zj_joB w h s.1 (nI j) = false) : zj_aSt w h s j = (zj_joX w h s.1 (nI j), s.2) := by
  unfold zj_aSt
  rw [e, e2]
  rfl
theorem zj_joX_ok {w h : Nat} {X : mz_X} (g : mz_geo w h) (d : Int32) (hX : zj_ok w h X) : zj_ok w h (zj_joX w h X d) := by
  have h2 := zj_jX2_ok g d hX
  cases hb : zj_joB w h X d with
  | true =>
    rw [zj_joX_t hb]
    simp only [zj_joB, Bool.and_eq_true, Bool.not_eq_true', decide_eq_false_iff_not] at hb
    intro i hi
    have h3 := (zj_ro_ok (X := zj_jX1 w h X d) g (zg_gre w h (zj_jX1 w h X d) d) (zj_jX1_ok g d hX)).2 hb.1.2
    simp only [mz_up]
    by_cases hc : i = (zj_ja w h X d).toNatClampNeg
    · simp only [if_pos hc, if_true]
      exact h3
    · simp only [if_neg hc, if_true]
      exact h2 i hi
  | false =>
    rw [zj_joX_f hb]
    exact h2
theorem zj_idn_ok {w h : Nat} (g : mz_geo w h) (X : mz_X) : zj_ok w h (zj_idn X (w * h)) := by
  have hn := mz_geo_n g
  intro i hi
  simp only [zj_idn, hi, and_self, if_true]
  exact vp_in_nI hi (by omega)
theorem zj_idn_s (X : mz_X) (k : Nat) : (mz_up (zj_idn X k).1 8 k (nI k), (zj_idn X k).2) = zj_idn X (k + 1) := by
  refine Prod.ext ?_ rfl
  funext a b
  simp only [mz_up, zj_idn]
  by_cases ha : a = 8
  · subst ha
    by_cases hb : b = k
    · subst hb
      simp
    · have : b < k ↔ b < k + 1 := by omega
      simp [hb, this]
  · simp [ha]
theorem zj_rt_keep {p i : Nat} (hp : p ≠ 8) : ∀ (k : Nat) (X : mz_X) (x : Int32), (zj_rtX k X x).1 p i = X.1 p i
  | 0, X, x => rfl
  | k + 1, X, x => by
    simp only [zj_rtX]
    split
    · rfl
    · rw [zj_rt_keep hp k]
      simp [zj_stp, mz_up, hp]
theorem zj_ro_keep {w h p i : Nat} (hp : p ≠ 8) (X : mz_X) (c : Int32) : (zj_roX w h X c).1 p i = X.1 p i := by
  unfold zj_roX
  split
  · exact zj_rt_keep hp _ _ _
  · rfl
theorem zj_jo_keep {w h p i : Nat} (hp : p ≠ 8) (X : mz_X) (d : Int32) : (zj_joX w h X d).1 p i = X.1 p i := by
  have h2 : (zj_jX2 w h X d).1 p i = X.1 p i := by
    unfold zj_jX2 zj_jX1
    rw [zj_ro_keep hp, zj_ro_keep hp]
  cases hb : zj_joB w h X d with
  | true =>
    rw [zj_joX_t hb]
    simp only [mz_up, if_neg hp]
    exact h2
  | false =>
    rw [zj_joX_f hb]
    exact h2
theorem zj_aSt_keep {w h p i j : Nat} (hp : p ≠ 8) (s : mz_X × Nat) : (zj_aSt w h s j).1.1 p i = s.1.1 p i := by
  cases e : zg_open w h s.1 (nI j) with
  | false => rw [zj_aSt_f e]
  | true =>
    cases e2 : zj_joB w h s.1 (nI j) with
    | true =>
      rw [zj_aSt_tt e e2]
      exact zj_jo_keep hp _ _
    | false =>
      rw [zj_aSt_tf e e2]
      exact zj_jo_keep hp _ _
theorem zj_aSt_ok {w h j : Nat} (g : mz_geo w h) {s : mz_X × Nat} (hs : zj_ok w h s.1) : zj_ok w h (zj_aSt w h s j).1 := by
  cases e : zg_open w h s.1 (nI j) with
  | false =>
    rw [zj_aSt_f e]
    exact hs
  | true =>
    cases e2 : zj_joB w h s.1 (nI j) with
    | true =>
      rw [zj_aSt_tt e e2]
      exact zj_joX_ok g _ hs
    | false =>
      rw [zj_aSt_tf e e2]
      exact zj_joX_ok g _ hs
theorem zj_all_keep {w h p i : Nat} (hp : p ≠ 8) (X : mz_X) : ∀ k, (zj_all w h X k).1.1 p i = X.1 p i
  | 0 => by
    show (zj_idn X (w * h)).1 p i = X.1 p i
    simp only [zj_idn]
    rw [if_neg (fun q => hp q.1)]
  | k + 1 => by
    show (zj_aSt w h (zj_all w h X k) k).1.1 p i = X.1 p i
    rw [zj_aSt_keep hp]
    exact zj_all_keep hp X k
theorem zj_all_ok {w h : Nat} (g : mz_geo w h) (X : mz_X) : ∀ k, zj_ok w h (zj_all w h X k).1
  | 0 => zj_idn_ok g X
  | k + 1 => zj_aSt_ok (j := k) g (zj_all_ok g X k)
theorem len_Jo_reset (w h : Nat) (lay : List mz_E) (as : List Value) (X : mz_X) (Q : mz_X → Prop) (hC : C_Jo_reset w h lay as X Q) : (mz_l0 as).length ≤ 2 := by
  unfold C_Jo_reset at hC
  split at hC
  · exact Nat.le_of_ble_eq_true rfl
  · exact hC.elim
theorem ok_Jo_reset (w h : Nat) (lay : List mz_E) (as : List Value) (X : mz_X) (Q : mz_X → Prop) (hC : C_Jo_reset w h lay as X Q) (K : mz_K) (hK : mz_Cl (I_Jo_reset w h) (mz_qv lay Q) K) : K 0 (mz_ent 2 as) [] (lay, X) := by
  unfold C_Jo_reset at hC
  split at hC
  ·
    obtain ⟨rfl, g, hq⟩ := hC
    have hn := mz_geo_n g
    have loop : ∀ (k i : Nat), i + k = w * h → K 2 [some (.ref 7), some (.int (nI i))] [] (mz_lay w h, zj_idn X i) := by
      intro k
      induction k with
      | zero =>
        intro i hi
        iterate 4 refine hK _ _ _ _ ?_
        refine hK _ _ _ _ (And.intro (fun c1 => ?_) (fun c1 => ?_))
        · exact hK _ _ _ _ (And.intro rfl (by rw [show i = w * h by omega]; exact hq))
        · exact absurd (nI_le (a := w * h) (b := i) (by omega) (by omega)) c1
      | succ k ih =>
        intro i hi
        iterate 4 refine hK _ _ _ _ ?_
        refine hK _ _ _ _ (And.intro (fun c1 => ?_) (fun c1 => ?_))
        · exact absurd c1 (nI_ge (by omega) (by omega))
        · iterate 4 refine hK _ _ _ _ ?_
          refine hK _ _ _ _ (And.intro (vp_in_nI (by omega) (by omega)) ?_)
          iterate 2 refine hK _ _ _ _ ?_
          have := ih (i + 1) (by omega)
          rw [← zj_idn_s, ← nI_1] at this
          rw [nI_clamp (by omega)]
          exact this
    iterate 2 refine hK _ _ _ _ ?_
    have := loop (w * h) 0 (by omega)
    rw [show zj_idn X 0 = X by simp [zj_idn]] at this
    exact this
  · exact hC.elim
theorem len_Jo_root (w h : Nat) (lay : List mz_E) (as : List Value) (X : mz_X) (Q : Int32 → mz_X → Prop) (hC : C_Jo_root w h lay as X Q) : (mz_l0 as).length ≤ 4 := by
  unfold C_Jo_root at hC
  split at hC
  · exact Nat.le_of_ble_eq_true rfl
  · exact hC.elim
theorem ok_Jo_root (w h : Nat) (lay : List mz_E) (as : List Value) (X : mz_X) (Q : Int32 → mz_X → Prop) (hC : C_Jo_root w h lay as X Q) (K : mz_K) (hK : mz_Cl (I_Jo_root w h) (mz_qi lay Q) K) : K 0 (mz_ent 4 as) [] (lay, X) := by
  unfold C_Jo_root at hC
  split at hC
  · next c =>
    obtain ⟨rfl, g, hX, hq⟩ := hC
    have hn := mz_geo_n g
    iterate 3 refine hK _ _ _ _ ?_
    refine hK _ _ _ _ (And.intro (rfl) (And.intro (g) ?_))
    refine hK _ _ _ _ (And.intro (fun c1 => ?_) (fun c1 => ?_))
    · rw [show zj_roV w h X c = -1 by simp [zj_roV, mz_b0 c1], show zj_roX w h X c = X by simp [zj_roX, mz_b0 c1]] at hq
      refine hK _ _ _ _ ?_
      exact hK _ _ _ _ (And.intro rfl (hq))
    · rw [show zj_roV w h X c = zj_rtV (w * h) X c by simp [zj_roV, mz_b1 c1], show zj_roX w h X c = zj_rtX (w * h) X c by simp [zj_roX, mz_b1 c1]] at hq
      have loop : ∀ (k i : Nat) (Y : mz_X) (x : Int32), i + k = w * h → zj_ok w h Y → vp_in x (w * h) → Q (zj_rtV k Y x) (zj_rtX k Y x) → K 17 [some (.ref 7), some (.int c), some (.int x), some (.int (nI i))] [] (mz_lay w h, Y) := by
        intro k
        induction k with
        | zero =>
          intro i Y x hi hY hx hQ
          iterate 4 refine hK _ _ _ _ ?_
          refine hK _ _ _ _ (And.intro (fun c2 => ?_) (fun c2 => ?_))
          · refine hK _ _ _ _ ?_
            exact hK _ _ _ _ (And.intro rfl (hQ))
          · exact absurd (nI_le (a := w * h) (b := i) (by omega) (by omega)) c2
        | succ k ih =>
          intro i Y x hi hY hx hQ
          have hpx := hY _ (mz_in_cl hx)
          have hY1 := zj_stp_ok hY hx
          iterate 4 refine hK _ _ _ _ ?_
          refine hK _ _ _ _ (And.intro (fun c2 => ?_) (fun c2 => ?_))
          · exact absurd c2 (nI_ge (by omega) (by omega))
          · iterate 3 refine hK _ _ _ _ ?_
            refine hK _ _ _ _ (And.intro (hx) ?_)
            refine hK _ _ _ _ ?_
            refine hK _ _ _ _ (And.intro (fun c3 => ?_) (fun c3 => ?_))
            · dsimp only at c3
              simp only [zj_rtV, zj_rtX, c3, decide_true] at hQ
              refine hK _ _ _ _ ?_
              exact hK _ _ _ _ (And.intro rfl (hQ))
            · dsimp only at c3
              simp only [zj_rtV, zj_rtX, c3, decide_false] at hQ
              iterate 8 refine hK _ _ _ _ ?_
              refine hK _ _ _ _ (And.intro (hx) ?_)
              refine hK _ _ _ _ (And.intro (hpx) ?_)
              refine hK _ _ _ _ (And.intro (hx) ?_)
              rw [mz_nari]
              iterate 3 refine hK _ _ _ _ ?_
              refine hK _ _ _ _ (And.intro (hx) ?_)
              iterate 3 refine hK _ _ _ _ ?_
              have := ih (i + 1) (zj_stp Y x) ((zj_stp Y x).1 8 x.toNatClampNeg) (by omega) hY1 (hY1 _ (mz_in_cl hx)) hQ
              rw [← nI_1] at this
              exact this
      iterate 4 refine hK _ _ _ _ ?_
      exact loop (w * h) 0 X c (by omega) hX (mz_lt_in (mz_b1 c1) (by omega)) hq
  · exact hC.elim
theorem len_Jo_joinBy (w h : Nat) (lay : List mz_E) (as : List Value) (X : mz_X) (Q : Int32 → mz_X → Prop) (hC : C_Jo_joinBy w h lay as X Q) : (mz_l0 as).length ≤ 4 := by
  unfold C_Jo_joinBy at hC
  split at hC
  · exact Nat.le_of_ble_eq_true rfl
  · exact hC.elim
theorem ok_Jo_joinBy (w h : Nat) (lay : List mz_E) (as : List Value) (X : mz_X) (Q : Int32 → mz_X → Prop) (hC : C_Jo_joinBy w h lay as X Q) (K : mz_K) (hK : mz_Cl (I_Jo_joinBy w h) (mz_qi lay Q) K) : K 0 (mz_ent 4 as) [] (lay, X) := by
  unfold C_Jo_joinBy at hC
  split at hC
  · next d =>
    obtain ⟨rfl, g, hX, hq⟩ := hC
    have hn := mz_geo_n g
    have h1 := zj_jX1_ok g d hX
    have hF : zj_joB w h X d = false → K 41 [some (.ref 7), some (.int d), some (.int (zj_ja w h X d)), some (.int (zj_jb w h X d))] [] (mz_lay w h, zj_jX2 w h X d) := by
      intro e
      rw [zj_joX_f e, e] at hq
      refine hK _ _ _ _ ?_
      exact hK _ _ _ _ (And.intro (Or.inl rfl) (And.intro rfl (hq)))
    iterate 4 refine hK _ _ _ _ ?_
    refine hK _ _ _ _ (And.intro (rfl) (And.intro (g) ?_))
    refine hK _ _ _ _ (And.intro (rfl) (And.intro (g) (And.intro (hX) ?_)))
    iterate 5 refine hK _ _ _ _ ?_
    refine hK _ _ _ _ (And.intro (rfl) (And.intro (g) ?_))
    refine hK _ _ _ _ (And.intro (rfl) (And.intro (g) (And.intro (h1) ?_)))
    iterate 3 refine hK _ _ _ _ ?_
    refine hK _ _ _ _ (And.intro (fun c1 => ?_) (fun c1 => ?_))
    · exact hF (by simp only [zj_joB]; rw [show zj_ja w h X d = -1 from c1]; rfl)
    · iterate 2 refine hK _ _ _ _ ?_
      refine hK _ _ _ _ (And.intro (fun c2 => ?_) (fun c2 => ?_))
      · exact hF (by simp only [zj_joB]; rw [show zj_jb w h X d = -1 from c2]; simp)
      · iterate 2 refine hK _ _ _ _ ?_
        refine hK _ _ _ _ (And.intro (fun c3 => ?_) (fun c3 => ?_))
        · exact hF (by simp only [zj_joB]; rw [show zj_ja w h X d = zj_jb w h X d from c3]; simp)
        · have hb : zj_joB w h X d = true := by
            simp only [zj_joB, Bool.and_eq_true, Bool.not_eq_true', decide_eq_false_iff_not]
            exact ⟨⟨c1, c2⟩, c3⟩
          rw [zj_joX_t hb, hb] at hq
          iterate 4 refine hK _ _ _ _ ?_
          refine hK _ _ _ _ (And.intro ((zj_ro_ok g (zg_les w h X d) hX).2 c1) ?_)
          refine hK _ _ _ _ ?_
          exact hK _ _ _ _ (And.intro (Or.inr rfl) (And.intro rfl (hq)))
  · exact hC.elim
theorem len_Jo_joinOpenDoors (w h : Nat) (lay : List mz_E) (as : List Value) (X : mz_X) (Q : Int32 → mz_X → Prop) (hC : C_Jo_joinOpenDoors w h lay as X Q) : (mz_l0 as).length ≤ 3 := by
  unfold C_Jo_joinOpenDoors at hC
  split at hC
  · exact Nat.le_of_ble_eq_true rfl
  · exact hC.elim
theorem ok_Jo_joinOpenDoors (w h : Nat) (lay : List mz_E) (as : List Value) (X : mz_X) (Q : Int32 → mz_X → Prop) (hC : C_Jo_joinOpenDoors w h lay as X Q) (K : mz_K) (hK : mz_Cl (I_Jo_joinOpenDoors w h) (mz_qi lay Q) K) : K 0 (mz_ent 3 as) [] (lay, X) := by
  unfold C_Jo_joinOpenDoors at hC
  split at hC
  ·
    obtain ⟨rfl, g, D, hD, hX, hq⟩ := hC
    have hd := mz_geo_d g
    have loop : ∀ (k i : Nat), i + k = D → K 8 [some (.ref 7), some (.int (nI (zj_all w h X i).2)), some (.int (nI i))] [] (mz_lay w h, (zj_all w h X i).1) := by
      intro k
      induction k with
      | zero =>
        intro i hi
        have h7 : (zj_all w h X i).1.1 1 7 = nI D := by rw [zj_all_keep (by decide), hX]
        iterate 3 refine hK _ _ _ _ ?_
        refine hK _ _ _ _ (And.intro (rfl) (And.intro (g) ?_))
        refine hK _ _ _ _ (And.intro (fun c1 => ?_) (fun c1 => ?_))
        · refine hK _ _ _ _ ?_
          exact hK _ _ _ _ (And.intro rfl (by rw [show i = D by omega]; exact hq))
        · dsimp only at c1
          rw [h7] at c1
          exact absurd (nI_le (a := D) (b := i) (by omega) (by omega)) c1
      | succ k ih =>
        intro i hi
        have h7 : (zj_all w h X i).1.1 1 7 = nI D := by rw [zj_all_keep (by decide), hX]
        have ih1 := ih (i + 1) (by omega)
        iterate 3 refine hK _ _ _ _ ?_
        refine hK _ _ _ _ (And.intro (rfl) (And.intro (g) ?_))
        refine hK _ _ _ _ (And.intro (fun c1 => ?_) (fun c1 => ?_))
        · dsimp only at c1
          rw [h7] at c1
          exact absurd c1 (nI_ge (by omega) (by omega))
        · iterate 3 refine hK _ _ _ _ ?_
          refine hK _ _ _ _ (And.intro (rfl) (And.intro (g) ?_))
          refine hK _ _ _ _ (And.intro (fun c2 => ?_) (fun c2 => ?_))
          · have c2 := mz_b0 c2
            rw [show zj_all w h X (i + 1) = zj_aSt w h (zj_all w h X i) i from rfl, zj_aSt_f c2] at ih1
            iterate 2 refine hK _ _ _ _ ?_
            rw [← nI_1] at ih1
            exact ih1
          · have c2 := mz_b1 c2
            iterate 2 refine hK _ _ _ _ ?_
            refine hK _ _ _ _ (And.intro (rfl) (And.intro (g) (And.intro (zj_all_ok g X i) ?_)))
            refine hK _ _ _ _ (And.intro (fun c3 => ?_) (fun c3 => ?_))
            · have c3 := mz_b0 c3
              rw [show zj_all w h X (i + 1) = zj_aSt w h (zj_all w h X i) i from rfl, zj_aSt_tf c2 c3] at ih1
              iterate 2 refine hK _ _ _ _ ?_
              rw [← nI_1] at ih1
              exact ih1
            · have c3 := mz_b1 c3
              rw [show zj_all w h X (i + 1) = zj_aSt w h (zj_all w h X i) i from rfl, zj_aSt_tt c2 c3] at ih1
              iterate 3 refine hK _ _ _ _ ?_
              rw [← nI_1, ← nI_1] at ih1
              exact ih1
    refine hK _ _ _ _ ?_
    refine hK _ _ _ _ (And.intro (rfl) (And.intro (g) ?_))
    iterate 4 refine hK _ _ _ _ ?_
    exact loop D 0 (by omega)
  · exact hC.elim
set_option maxRecDepth 20000 in
theorem snd_Jo_reset (w h : Nat) (l : Launch) (p : Program) (e : Env) (s : State) (m : MethodId) (args : Array Value) (below : List Frame) (meth : Method) (c : Code) (D : va_G) (ad0 : Nat → Nat) (cA0 : Nat → ClassId) (A : Nat → Prop) (lay : List mz_E) (Q : mz_X → Prop) (F : mz_F p s m args meth c prog_6_method_2_code 2 y_Jo_reset.cls none w_Jo_reset) (hA : ∀ q, s.heap.size ≤ q → A q) : mz_All (mz_V p l e (mz_rm 0 0) s m args below meth c 2 lay.length (mz_sz lay) D mz_cls (mz_G0 ad0 cA0) A (MQ below (va_Qv Q (mz_B D mz_cls ad0 cA0 lay A) A) args s 0 0 A)) (mz_qv lay Q) (I_Jo_reset w h) := by
  obtain ⟨hx, hb, hml, hown, hts, hr, hlk⟩ := F
  unfold I_Jo_reset
  refine mz_All.cons (sd_iconst hx hb (mz_dg d_Jo_reset 0 0 (.iconst (0)) 1 rfl) (by decide)) ?_
  refine mz_All.cons (sd_istore_n hx hb (mz_dg d_Jo_reset 1 1 (.istore_n 1) 1 rfl) rfl (by decide)) ?_
  refine mz_All.cons (sd_iload_n hx hb (mz_dg d_Jo_reset 2 2 (.iload_n 1) 1 rfl) rfl) ?_
  refine mz_All.cons (sd_aload_n hx hb (mz_dg d_Jo_reset 3 3 (.aload_n 0) 1 rfl) rfl) ?_
  refine mz_All.cons (sd_get (k := 1) hx hb hts (mz_inC in_Jo) hown (T := T_Jo) (N := 2) rfl (by decide) (hts (.fieldLink "MazeForms$Joined" 21 "MazeForms$Joined" "parent" "[I") (List.mem_cons_of_mem _ wm_165)) (fun _ h => h) (mz_dg d_Jo_reset 4 4 (.getfield 21) 3 rfl)) ?_
  refine mz_All.cons (sd_alen hx hb (mz_dg d_Jo_reset 5 7 (.arraylength) 1 rfl)) ?_
  refine mz_All.cons (sd_icmp_ge hx hb (mz_dg d_Jo_reset 6 8 (.if_icmp .ge (16)) 3 rfl) (by decide)) ?_
  refine mz_All.cons (sd_aload_n hx hb (mz_dg d_Jo_reset 7 11 (.aload_n 0) 1 rfl) rfl) ?_
  refine mz_All.cons (sd_get (k := 1) hx hb hts (mz_inC in_Jo) hown (T := T_Jo) (N := 2) rfl (by decide) (hts (.fieldLink "MazeForms$Joined" 21 "MazeForms$Joined" "parent" "[I") (List.mem_cons_of_mem _ wm_165)) (fun _ h => h) (mz_dg d_Jo_reset 8 12 (.getfield 21) 3 rfl)) ?_
  refine mz_All.cons (sd_iload_n hx hb (mz_dg d_Jo_reset 9 15 (.iload_n 1) 1 rfl) rfl) ?_
  refine mz_All.cons (sd_iload_n hx hb (mz_dg d_Jo_reset 10 16 (.iload_n 1) 1 rfl) rfl) ?_
  refine mz_All.cons (sd_iast hx hb (mz_dg d_Jo_reset 11 17 (.iastore) 1 rfl)) ?_
  refine mz_All.cons (sd_iinc hx hb (mz_dg d_Jo_reset 12 18 (.iinc 1 (1)) 3 rfl) (by decide) (by decide)) ?_
  refine mz_All.cons (sd_goto hx hb (mz_dg d_Jo_reset 13 21 (.goto (-19)) 3 rfl) (by decide)) ?_
  refine mz_All.cons (sd_rv hx hb hr hlk (mz_dg d_Jo_reset 14 24 (.return_) 1 rfl)) ?_
  exact trivial
theorem met_Jo_reset (w h : Nat) (l : Launch) : mz_MV l y_Jo_reset w_Jo_reset 0 0 mz_cls (C_Jo_reset w h) := mz_MV_of (I_Jo_reset w h) (by decide) rfl (len_Jo_reset w h) (ok_Jo_reset w h) (snd_Jo_reset w h l)
set_option maxRecDepth 20000 in
theorem snd_Jo_root (w h : Nat) (l : Launch) (p : Program) (e : Env) (s : State) (m : MethodId) (args : Array Value) (below : List Frame) (meth : Method) (c : Code) (D : va_G) (ad0 : Nat → Nat) (cA0 : Nat → ClassId) (A : Nat → Prop) (lay : List mz_E) (Q : Int32 → mz_X → Prop) (F : mz_F p s m args meth c prog_6_method_5_code 4 y_Jo_root.cls (some .int) w_Jo_root) (hA : ∀ q, s.heap.size ≤ q → A q) : mz_All (mz_V p l e (mz_rm 1 21) s m args below meth c 4 lay.length (mz_sz lay) D mz_cls (mz_G0 ad0 cA0) A (MQ below (va_Qi Q (mz_B D mz_cls ad0 cA0 lay A) A) args s 0 0 A)) (mz_qi lay Q) (I_Jo_root w h) := by
  obtain ⟨hx, hb, hml, hown, hts, hr, hlk⟩ := F
  unfold I_Jo_root
  refine mz_All.cons (sd_aload_n hx hb (mz_dg d_Jo_root 0 0 (.aload_n 0) 1 rfl) rfl) ?_
  refine mz_All.cons (sd_get (k := 0) hx hb hts (mz_inC in_Jo) hown (T := T_Jo) (N := 2) rfl (by decide) (hts (.fieldLink "MazeForms$Joined" 9 "MazeForms$Joined" "grid" "LMazeForms$Grid;") (List.mem_cons_of_mem _ wm_164)) (fun _ h => h) (mz_dg d_Jo_root 1 1 (.getfield 9) 3 rfl)) ?_
  refine mz_All.cons (sd_iload_n hx hb (mz_dg d_Jo_root 2 4 (.iload_n 1) 1 rfl) rfl) ?_
  refine mz_All.cons (sd_calli (T := T_Gr) ⟨hx, hb, hml, hown, hts⟩ (met_Gr_isCell w h l) (cwV 1 hts (mz_gV wm_458 wm_121 wm_122 wm_67 wm_123) rfl rfl rfl (by decide) ⟨by decide, by decide⟩) rfl hA rfl (mz_dg d_Jo_root 3 5 (.invokevirtual 48) 3 rfl)) ?_
  refine mz_All.cons (sd_if_ne hx hb (mz_dg d_Jo_root 4 8 (.ifCond .ne (5)) 3 rfl) (by decide)) ?_
  refine mz_All.cons (sd_iconst hx hb (mz_dg d_Jo_root 5 11 (.iconst (-1)) 1 rfl) (by decide)) ?_
  refine mz_All.cons (sd_ri hx hb hr hlk (mz_dg d_Jo_root 6 12 (.ireturn) 1 rfl)) ?_
  refine mz_All.cons (sd_iload_n hx hb (mz_dg d_Jo_root 7 13 (.iload_n 1) 1 rfl) rfl) ?_
  refine mz_All.cons (sd_istore_n hx hb (mz_dg d_Jo_root 8 14 (.istore_n 2) 1 rfl) rfl (by decide)) ?_
  refine mz_All.cons (sd_iconst hx hb (mz_dg d_Jo_root 9 15 (.iconst (0)) 1 rfl) (by decide)) ?_
  refine mz_All.cons (sd_istore_n hx hb (mz_dg d_Jo_root 10 16 (.istore_n 3) 1 rfl) rfl (by decide)) ?_
  refine mz_All.cons (sd_iload_n hx hb (mz_dg d_Jo_root 11 17 (.iload_n 3) 1 rfl) rfl) ?_
  refine mz_All.cons (sd_aload_n hx hb (mz_dg d_Jo_root 12 18 (.aload_n 0) 1 rfl) rfl) ?_
  refine mz_All.cons (sd_get (k := 1) hx hb hts (mz_inC in_Jo) hown (T := T_Jo) (N := 2) rfl (by decide) (hts (.fieldLink "MazeForms$Joined" 21 "MazeForms$Joined" "parent" "[I") (List.mem_cons_of_mem _ wm_165)) (fun _ h => h) (mz_dg d_Jo_root 13 19 (.getfield 21) 3 rfl)) ?_
  refine mz_All.cons (sd_alen hx hb (mz_dg d_Jo_root 14 22 (.arraylength) 1 rfl)) ?_
  refine mz_All.cons (sd_icmp_ge hx hb (mz_dg d_Jo_root 15 23 (.if_icmp .ge (43)) 3 rfl) (by decide)) ?_
  refine mz_All.cons (sd_aload_n hx hb (mz_dg d_Jo_root 16 26 (.aload_n 0) 1 rfl) rfl) ?_
  refine mz_All.cons (sd_get (k := 1) hx hb hts (mz_inC in_Jo) hown (T := T_Jo) (N := 2) rfl (by decide) (hts (.fieldLink "MazeForms$Joined" 21 "MazeForms$Joined" "parent" "[I") (List.mem_cons_of_mem _ wm_165)) (fun _ h => h) (mz_dg d_Jo_root 17 27 (.getfield 21) 3 rfl)) ?_
  refine mz_All.cons (sd_iload_n hx hb (mz_dg d_Jo_root 18 30 (.iload_n 2) 1 rfl) rfl) ?_
  refine mz_All.cons (sd_iald hx hb (mz_dg d_Jo_root 19 31 (.iaload) 1 rfl)) ?_
  refine mz_All.cons (sd_iload_n hx hb (mz_dg d_Jo_root 20 32 (.iload_n 2) 1 rfl) rfl) ?_
  refine mz_All.cons (sd_icmp_eq hx hb (mz_dg d_Jo_root 21 33 (.if_icmp .eq (33)) 3 rfl) (by decide)) ?_
  refine mz_All.cons (sd_aload_n hx hb (mz_dg d_Jo_root 22 36 (.aload_n 0) 1 rfl) rfl) ?_
  refine mz_All.cons (sd_get (k := 1) hx hb hts (mz_inC in_Jo) hown (T := T_Jo) (N := 2) rfl (by decide) (hts (.fieldLink "MazeForms$Joined" 21 "MazeForms$Joined" "parent" "[I") (List.mem_cons_of_mem _ wm_165)) (fun _ h => h) (mz_dg d_Jo_root 23 37 (.getfield 21) 3 rfl)) ?_
  refine mz_All.cons (sd_iload_n hx hb (mz_dg d_Jo_root 24 40 (.iload_n 2) 1 rfl) rfl) ?_
  refine mz_All.cons (sd_aload_n hx hb (mz_dg d_Jo_root 25 41 (.aload_n 0) 1 rfl) rfl) ?_
  refine mz_All.cons (sd_get (k := 1) hx hb hts (mz_inC in_Jo) hown (T := T_Jo) (N := 2) rfl (by decide) (hts (.fieldLink "MazeForms$Joined" 21 "MazeForms$Joined" "parent" "[I") (List.mem_cons_of_mem _ wm_165)) (fun _ h => h) (mz_dg d_Jo_root 26 42 (.getfield 21) 3 rfl)) ?_
  refine mz_All.cons (sd_aload_n hx hb (mz_dg d_Jo_root 27 45 (.aload_n 0) 1 rfl) rfl) ?_
  refine mz_All.cons (sd_get (k := 1) hx hb hts (mz_inC in_Jo) hown (T := T_Jo) (N := 2) rfl (by decide) (hts (.fieldLink "MazeForms$Joined" 21 "MazeForms$Joined" "parent" "[I") (List.mem_cons_of_mem _ wm_165)) (fun _ h => h) (mz_dg d_Jo_root 28 46 (.getfield 21) 3 rfl)) ?_
  refine mz_All.cons (sd_iload_n hx hb (mz_dg d_Jo_root 29 49 (.iload_n 2) 1 rfl) rfl) ?_
  refine mz_All.cons (sd_iald hx hb (mz_dg d_Jo_root 30 50 (.iaload) 1 rfl)) ?_
  refine mz_All.cons (sd_iald hx hb (mz_dg d_Jo_root 31 51 (.iaload) 1 rfl)) ?_
  refine mz_All.cons (sd_iast hx hb (mz_dg d_Jo_root 32 52 (.iastore) 1 rfl)) ?_
  refine mz_All.cons (sd_aload_n hx hb (mz_dg d_Jo_root 33 53 (.aload_n 0) 1 rfl) rfl) ?_
  refine mz_All.cons (sd_get (k := 1) hx hb hts (mz_inC in_Jo) hown (T := T_Jo) (N := 2) rfl (by decide) (hts (.fieldLink "MazeForms$Joined" 21 "MazeForms$Joined" "parent" "[I") (List.mem_cons_of_mem _ wm_165)) (fun _ h => h) (mz_dg d_Jo_root 34 54 (.getfield 21) 3 rfl)) ?_
  refine mz_All.cons (sd_iload_n hx hb (mz_dg d_Jo_root 35 57 (.iload_n 2) 1 rfl) rfl) ?_
  refine mz_All.cons (sd_iald hx hb (mz_dg d_Jo_root 36 58 (.iaload) 1 rfl)) ?_
  refine mz_All.cons (sd_istore_n hx hb (mz_dg d_Jo_root 37 59 (.istore_n 2) 1 rfl) rfl (by decide)) ?_
  refine mz_All.cons (sd_iinc hx hb (mz_dg d_Jo_root 38 60 (.iinc 3 (1)) 3 rfl) (by decide) (by decide)) ?_
  refine mz_All.cons (sd_goto hx hb (mz_dg d_Jo_root 39 63 (.goto (-46)) 3 rfl) (by decide)) ?_
  refine mz_All.cons (sd_iload_n hx hb (mz_dg d_Jo_root 40 66 (.iload_n 2) 1 rfl) rfl) ?_
  refine mz_All.cons (sd_ri hx hb hr hlk (mz_dg d_Jo_root 41 67 (.ireturn) 1 rfl)) ?_
  exact trivial
theorem met_Jo_root (w h : Nat) (l : Launch) : mz_MI l y_Jo_root w_Jo_root 1 21 mz_cls (C_Jo_root w h) := mz_MI_of (I_Jo_root w h) (by decide) rfl (len_Jo_root w h) (ok_Jo_root w h) (snd_Jo_root w h l)
set_option maxRecDepth 20000 in
theorem snd_Jo_joinBy (w h : Nat) (l : Launch) (p : Program) (e : Env) (s : State) (m : MethodId) (args : Array Value) (below : List Frame) (meth : Method) (c : Code) (D : va_G) (ad0 : Nat → Nat) (cA0 : Nat → ClassId) (A : Nat → Prop) (lay : List mz_E) (Q : Int32 → mz_X → Prop) (F : mz_F p s m args meth c prog_6_method_3_code 4 y_Jo_joinBy.cls (some .boolean) w_Jo_joinBy) (hA : ∀ q, s.heap.size ≤ q → A q) : mz_All (mz_V p l e (mz_rm 2 44) s m args below meth c 4 lay.length (mz_sz lay) D mz_cls (mz_G0 ad0 cA0) A (MQ below (va_Qi Q (mz_B D mz_cls ad0 cA0 lay A) A) args s 0 0 A)) (mz_qi lay Q) (I_Jo_joinBy w h) := by
  obtain ⟨hx, hb, hml, hown, hts, hr, hlk⟩ := F
  unfold I_Jo_joinBy
  refine mz_All.cons (sd_aload_n hx hb (mz_dg d_Jo_joinBy 0 0 (.aload_n 0) 1 rfl) rfl) ?_
  refine mz_All.cons (sd_aload_n hx hb (mz_dg d_Jo_joinBy 1 1 (.aload_n 0) 1 rfl) rfl) ?_
  refine mz_All.cons (sd_get (k := 0) hx hb hts (mz_inC in_Jo) hown (T := T_Jo) (N := 2) rfl (by decide) (hts (.fieldLink "MazeForms$Joined" 9 "MazeForms$Joined" "grid" "LMazeForms$Grid;") (List.mem_cons_of_mem _ wm_164)) (fun _ h => h) (mz_dg d_Jo_joinBy 2 2 (.getfield 9) 3 rfl)) ?_
  refine mz_All.cons (sd_iload_n hx hb (mz_dg d_Jo_joinBy 3 5 (.iload_n 1) 1 rfl) rfl) ?_
  refine mz_All.cons (sd_calli (T := T_Gr) ⟨hx, hb, hml, hown, hts⟩ (met_Gr_lesserCell w h l) (cwV 1 hts (mz_gV wm_450 wm_451 wm_452 wm_67 wm_453) rfl rfl rfl (by decide) ⟨by decide, by decide⟩) rfl hA rfl (mz_dg d_Jo_joinBy 4 6 (.invokevirtual 25) 3 rfl)) ?_
  refine mz_All.cons (sd_calli (T := T_Jo) ⟨hx, hb, hml, hown, hts⟩ (met_Jo_root w h l) (cwV 1 hts (mz_gV wm_454 wm_456 wm_12 wm_70 wm_457) rfl rfl rfl (by decide) ⟨by decide, by decide⟩) rfl hA rfl (mz_dg d_Jo_joinBy 5 9 (.invokevirtual 29) 3 rfl)) ?_
  refine mz_All.cons (sd_istore_n hx hb (mz_dg d_Jo_joinBy 6 12 (.istore_n 2) 1 rfl) rfl (by decide)) ?_
  refine mz_All.cons (sd_aload_n hx hb (mz_dg d_Jo_joinBy 7 13 (.aload_n 0) 1 rfl) rfl) ?_
  refine mz_All.cons (sd_aload_n hx hb (mz_dg d_Jo_joinBy 8 14 (.aload_n 0) 1 rfl) rfl) ?_
  refine mz_All.cons (sd_get (k := 0) hx hb hts (mz_inC in_Jo) hown (T := T_Jo) (N := 2) rfl (by decide) (hts (.fieldLink "MazeForms$Joined" 9 "MazeForms$Joined" "grid" "LMazeForms$Grid;") (List.mem_cons_of_mem _ wm_164)) (fun _ h => h) (mz_dg d_Jo_joinBy 9 15 (.getfield 9) 3 rfl)) ?_
  refine mz_All.cons (sd_iload_n hx hb (mz_dg d_Jo_joinBy 10 18 (.iload_n 1) 1 rfl) rfl) ?_
  refine mz_All.cons (sd_calli (T := T_Gr) ⟨hx, hb, hml, hown, hts⟩ (met_Gr_greaterCell w h l) (cwV 1 hts (mz_gV wm_459 wm_460 wm_461 wm_67 wm_462) rfl rfl rfl (by decide) ⟨by decide, by decide⟩) rfl hA rfl (mz_dg d_Jo_joinBy 11 19 (.invokevirtual 32) 3 rfl)) ?_
  refine mz_All.cons (sd_calli (T := T_Jo) ⟨hx, hb, hml, hown, hts⟩ (met_Jo_root w h l) (cwV 1 hts (mz_gV wm_454 wm_456 wm_12 wm_70 wm_457) rfl rfl rfl (by decide) ⟨by decide, by decide⟩) rfl hA rfl (mz_dg d_Jo_joinBy 12 22 (.invokevirtual 29) 3 rfl)) ?_
  refine mz_All.cons (sd_istore_n hx hb (mz_dg d_Jo_joinBy 13 25 (.istore_n 3) 1 rfl) rfl (by decide)) ?_
  refine mz_All.cons (sd_iload_n hx hb (mz_dg d_Jo_joinBy 14 26 (.iload_n 2) 1 rfl) rfl) ?_
  refine mz_All.cons (sd_iconst hx hb (mz_dg d_Jo_joinBy 15 27 (.iconst (-1)) 1 rfl) (by decide)) ?_
  refine mz_All.cons (sd_icmp_eq hx hb (mz_dg d_Jo_joinBy 16 28 (.if_icmp .eq (13)) 3 rfl) (by decide)) ?_
  refine mz_All.cons (sd_iload_n hx hb (mz_dg d_Jo_joinBy 17 31 (.iload_n 3) 1 rfl) rfl) ?_
  refine mz_All.cons (sd_iconst hx hb (mz_dg d_Jo_joinBy 18 32 (.iconst (-1)) 1 rfl) (by decide)) ?_
  refine mz_All.cons (sd_icmp_eq hx hb (mz_dg d_Jo_joinBy 19 33 (.if_icmp .eq (8)) 3 rfl) (by decide)) ?_
  refine mz_All.cons (sd_iload_n hx hb (mz_dg d_Jo_joinBy 20 36 (.iload_n 2) 1 rfl) rfl) ?_
  refine mz_All.cons (sd_iload_n hx hb (mz_dg d_Jo_joinBy 21 37 (.iload_n 3) 1 rfl) rfl) ?_
  refine mz_All.cons (sd_icmp_ne hx hb (mz_dg d_Jo_joinBy 22 38 (.if_icmp .ne (5)) 3 rfl) (by decide)) ?_
  refine mz_All.cons (sd_iconst hx hb (mz_dg d_Jo_joinBy 23 41 (.iconst (0)) 1 rfl) (by decide)) ?_
  refine mz_All.cons (sd_rz hx hb hr hlk (mz_dg d_Jo_joinBy 24 42 (.ireturn) 1 rfl)) ?_
  refine mz_All.cons (sd_aload_n hx hb (mz_dg d_Jo_joinBy 25 43 (.aload_n 0) 1 rfl) rfl) ?_
  refine mz_All.cons (sd_get (k := 1) hx hb hts (mz_inC in_Jo) hown (T := T_Jo) (N := 2) rfl (by decide) (hts (.fieldLink "MazeForms$Joined" 21 "MazeForms$Joined" "parent" "[I") (List.mem_cons_of_mem _ wm_165)) (fun _ h => h) (mz_dg d_Jo_joinBy 26 44 (.getfield 21) 3 rfl)) ?_
  refine mz_All.cons (sd_iload_n hx hb (mz_dg d_Jo_joinBy 27 47 (.iload_n 2) 1 rfl) rfl) ?_
  refine mz_All.cons (sd_iload_n hx hb (mz_dg d_Jo_joinBy 28 48 (.iload_n 3) 1 rfl) rfl) ?_
  refine mz_All.cons (sd_iast hx hb (mz_dg d_Jo_joinBy 29 49 (.iastore) 1 rfl)) ?_
  refine mz_All.cons (sd_iconst hx hb (mz_dg d_Jo_joinBy 30 50 (.iconst (1)) 1 rfl) (by decide)) ?_
  refine mz_All.cons (sd_rz hx hb hr hlk (mz_dg d_Jo_joinBy 31 51 (.ireturn) 1 rfl)) ?_
  exact trivial
theorem met_Jo_joinBy (w h : Nat) (l : Launch) : mz_MI l y_Jo_joinBy w_Jo_joinBy 2 44 mz_cls (C_Jo_joinBy w h) := mz_MI_of (I_Jo_joinBy w h) (by decide) rfl (len_Jo_joinBy w h) (ok_Jo_joinBy w h) (snd_Jo_joinBy w h l)
set_option maxRecDepth 20000 in
theorem snd_Jo_joinOpenDoors (w h : Nat) (l : Launch) (p : Program) (e : Env) (s : State) (m : MethodId) (args : Array Value) (below : List Frame) (meth : Method) (c : Code) (D : va_G) (ad0 : Nat → Nat) (cA0 : Nat → ClassId) (A : Nat → Prop) (lay : List mz_E) (Q : Int32 → mz_X → Prop) (F : mz_F p s m args meth c prog_6_method_4_code 3 y_Jo_joinOpenDoors.cls (some .int) w_Jo_joinOpenDoors) (hA : ∀ q, s.heap.size ≤ q → A q) : mz_All (mz_V p l e (mz_rm 3 67) s m args below meth c 3 lay.length (mz_sz lay) D mz_cls (mz_G0 ad0 cA0) A (MQ below (va_Qi Q (mz_B D mz_cls ad0 cA0 lay A) A) args s 0 0 A)) (mz_qi lay Q) (I_Jo_joinOpenDoors w h) := by
  obtain ⟨hx, hb, hml, hown, hts, hr, hlk⟩ := F
  unfold I_Jo_joinOpenDoors
  refine mz_All.cons (sd_aload_n hx hb (mz_dg d_Jo_joinOpenDoors 0 0 (.aload_n 0) 1 rfl) rfl) ?_
  refine mz_All.cons (sd_callv (T := T_Jo) ⟨hx, hb, hml, hown, hts⟩ (met_Jo_reset w h l) (cwV 0 hts (mz_gV wm_602 wm_438 wm_439 wm_70 wm_440) rfl rfl rfl (by decide) ⟨by decide, by decide⟩) rfl hA rfl (mz_dg d_Jo_joinOpenDoors 1 1 (.invokevirtual 35) 3 rfl)) ?_
  refine mz_All.cons (sd_iconst hx hb (mz_dg d_Jo_joinOpenDoors 2 4 (.iconst (0)) 1 rfl) (by decide)) ?_
  refine mz_All.cons (sd_istore_n hx hb (mz_dg d_Jo_joinOpenDoors 3 5 (.istore_n 1) 1 rfl) rfl (by decide)) ?_
  refine mz_All.cons (sd_iconst hx hb (mz_dg d_Jo_joinOpenDoors 4 6 (.iconst (0)) 1 rfl) (by decide)) ?_
  refine mz_All.cons (sd_istore_n hx hb (mz_dg d_Jo_joinOpenDoors 5 7 (.istore_n 2) 1 rfl) rfl (by decide)) ?_
  refine mz_All.cons (sd_iload_n hx hb (mz_dg d_Jo_joinOpenDoors 6 8 (.iload_n 2) 1 rfl) rfl) ?_
  refine mz_All.cons (sd_aload_n hx hb (mz_dg d_Jo_joinOpenDoors 7 9 (.aload_n 0) 1 rfl) rfl) ?_
  refine mz_All.cons (sd_get (k := 0) hx hb hts (mz_inC in_Jo) hown (T := T_Jo) (N := 2) rfl (by decide) (hts (.fieldLink "MazeForms$Joined" 9 "MazeForms$Joined" "grid" "LMazeForms$Grid;") (List.mem_cons_of_mem _ wm_164)) (fun _ h => h) (mz_dg d_Jo_joinOpenDoors 8 10 (.getfield 9) 3 rfl)) ?_
  refine mz_All.cons (sd_calli (T := T_Gr) ⟨hx, hb, hml, hown, hts⟩ (met_Gr_doorCount w h l) (cwV 0 hts (mz_gV wm_603 wm_426 wm_427 wm_67 wm_428) rfl rfl rfl (by decide) ⟨by decide, by decide⟩) rfl hA rfl (mz_dg d_Jo_joinOpenDoors 9 13 (.invokevirtual 38) 3 rfl)) ?_
  refine mz_All.cons (sd_icmp_ge hx hb (mz_dg d_Jo_joinOpenDoors 10 16 (.if_icmp .ge (31)) 3 rfl) (by decide)) ?_
  refine mz_All.cons (sd_aload_n hx hb (mz_dg d_Jo_joinOpenDoors 11 19 (.aload_n 0) 1 rfl) rfl) ?_
  refine mz_All.cons (sd_get (k := 0) hx hb hts (mz_inC in_Jo) hown (T := T_Jo) (N := 2) rfl (by decide) (hts (.fieldLink "MazeForms$Joined" 9 "MazeForms$Joined" "grid" "LMazeForms$Grid;") (List.mem_cons_of_mem _ wm_164)) (fun _ h => h) (mz_dg d_Jo_joinOpenDoors 12 20 (.getfield 9) 3 rfl)) ?_
  refine mz_All.cons (sd_iload_n hx hb (mz_dg d_Jo_joinOpenDoors 13 23 (.iload_n 2) 1 rfl) rfl) ?_
  refine mz_All.cons (sd_calli (T := T_Gr) ⟨hx, hb, hml, hown, hts⟩ (met_Gr_isOpen w h l) (cwV 1 hts (mz_gV wm_604 wm_497 wm_498 wm_67 wm_499) rfl rfl rfl (by decide) ⟨by decide, by decide⟩) rfl hA rfl (mz_dg d_Jo_joinOpenDoors 14 24 (.invokevirtual 41) 3 rfl)) ?_
  refine mz_All.cons (sd_if_eq hx hb (mz_dg d_Jo_joinOpenDoors 15 27 (.ifCond .eq (14)) 3 rfl) (by decide)) ?_
  refine mz_All.cons (sd_aload_n hx hb (mz_dg d_Jo_joinOpenDoors 16 30 (.aload_n 0) 1 rfl) rfl) ?_
  refine mz_All.cons (sd_iload_n hx hb (mz_dg d_Jo_joinOpenDoors 17 31 (.iload_n 2) 1 rfl) rfl) ?_
  refine mz_All.cons (sd_calli (T := T_Jo) ⟨hx, hb, hml, hown, hts⟩ (met_Jo_joinBy w h l) (cwV 1 hts (mz_gV wm_605 wm_447 wm_448 wm_70 wm_449) rfl rfl rfl (by decide) ⟨by decide, by decide⟩) rfl hA rfl (mz_dg d_Jo_joinOpenDoors 18 32 (.invokevirtual 45) 3 rfl)) ?_
  refine mz_All.cons (sd_if_eq hx hb (mz_dg d_Jo_joinOpenDoors 19 35 (.ifCond .eq (6)) 3 rfl) (by decide)) ?_
  refine mz_All.cons (sd_iinc hx hb (mz_dg d_Jo_joinOpenDoors 20 38 (.iinc 1 (1)) 3 rfl) (by decide) (by decide)) ?_
  refine mz_All.cons (sd_iinc hx hb (mz_dg d_Jo_joinOpenDoors 21 41 (.iinc 2 (1)) 3 rfl) (by decide) (by decide)) ?_
  refine mz_All.cons (sd_goto hx hb (mz_dg d_Jo_joinOpenDoors 22 44 (.goto (-36)) 3 rfl) (by decide)) ?_
  refine mz_All.cons (sd_iload_n hx hb (mz_dg d_Jo_joinOpenDoors 23 47 (.iload_n 1) 1 rfl) rfl) ?_
  refine mz_All.cons (sd_ri hx hb hr hlk (mz_dg d_Jo_joinOpenDoors 24 48 (.ireturn) 1 rfl)) ?_
  exact trivial
theorem met_Jo_joinOpenDoors (w h : Nat) (l : Launch) : mz_MI l y_Jo_joinOpenDoors w_Jo_joinOpenDoors 3 67 mz_cls (C_Jo_joinOpenDoors w h) := mz_MI_of (I_Jo_joinOpenDoors w h) (by decide) rfl (len_Jo_joinOpenDoors w h) (ok_Jo_joinOpenDoors w h) (snd_Jo_joinOpenDoors w h l)
