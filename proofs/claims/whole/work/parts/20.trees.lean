/-- the band, the size and the prime stand -/
def zq_ok (w z p : Nat) (X : mz_X) : Prop := X.1 20 1 = nI w ∧ X.1 20 5 = nI z ∧ z ≤ 144 ∧ X.2 20 6 = lN p ∧ 2 ≤ p ∧ p < 2 ^ 31
def zn_lr (w z s : Nat) : Nat := if s + w < z - 1 then s + w else z - 1
def zn_lc (w z s : Nat) : Nat := if s + 2 * w < z - 1 then s + 2 * w else z - 1
def zq_pv (w h : Nat) (X : mz_X) (s r k : Nat) : Int32 := match k with
  | 0 => -1
  | j + 1 => if zq_e w h X (nI r) (nI s) = 0 then zq_pv w h X s (r + 1) j else nI r
def zq_xS (w h : Nat) (X : mz_X) (r o c : Int32) : mz_X := if zq_slot w h X r c = -1 ∨ zq_slot w h X o c = -1 then X else (X.1, mz_up (mz_up X.2 22 (zq_slot w h X r c).toNatClampNeg (X.2 22 (zq_slot w h X o c).toNatClampNeg)) 22 (zq_slot w h X o c).toNatClampNeg (X.2 22 (zq_slot w h X r c).toNatClampNeg))
def zq_x (w h : Nat) (X : mz_X) (r o : Int32) (i k : Nat) : mz_X := match k with
  | 0 => X
  | j + 1 => zq_x w h (zq_xS w h X r o (nI i)) r o (i + 1) j
def zq_iv (X : mz_X) (pw sq : Int64) (e k : Nat) : Int64 := match k with
  | 0 => pw
  | j + 1 => if e = 0 then pw else zq_iv X (if e % 2 = 1 then zq_tm X pw sq else pw) (zq_tm X sq sq) (e / 2) j
def zq_sum (X : mz_X) (b a : Nat) (f : Int64) : Int64 := X.2 22 b + zq_tm X f (X.2 22 a)
def zq_aS (X : mz_X) (b a : Nat) (f : Int64) : mz_X := (X.1, mz_up X.2 22 b (if zq_sum X b a f < X.2 20 6 then zq_sum X b a f else zq_sum X b a f - X.2 20 6))
def zq_a (X : mz_X) (b a : Nat) (f : Int64) (k : Nat) : mz_X := match k with
  | 0 => X
  | j + 1 => zq_aS (zq_a X b a f j) (b + j) (a + j) f
def zn_wd (w z s : Nat) : Nat := zn_lc w z s - s + 1
def zq_ar (w h z : Nat) (X : mz_X) (s : Nat) (t : Int32) (f : Int64) : mz_X :=
  if zq_slot w h X (nI s) (nI s) = -1 ∨ zq_slot w h X t (nI s) = -1 then X
  else if nI (zq_E w h) < zq_slot w h X (nI s) (nI s) + nI (zn_wd w z s) ∨ ¬ zq_slot w h X t (nI s) + nI (zn_wd w z s) ≤ nI (zq_E w h) then X
  else zq_a X (zq_slot w h X t (nI s)).toNatClampNeg (zq_slot w h X (nI s) (nI s)).toNatClampNeg f (zn_wd w z s)
/-- below row s, the rows from r on -/
def zq_cS (w h z : Nat) (X : mz_X) (s r : Nat) (iv : Int64) : mz_X := if zq_e w h X (nI r) (nI s) = 0 then X else zq_ar w h z X s (nI r) (zq_tm X (X.2 20 6 - zq_e w h X (nI r) (nI s)) iv)
def zq_c (w h z : Nat) (X : mz_X) (s : Nat) (iv : Int64) (r k : Nat) : mz_X := match k with
  | 0 => X
  | j + 1 => zq_c w h z (zq_cS w h z X s r iv) s iv (r + 1) j
def zq_civ (w h p : Nat) (X : mz_X) (s : Nat) : Int64 := zq_iv X 1 (zq_e w h X (nI s) (nI s)) (p - 2) 31
def zq_cb (w h z p : Nat) (X : mz_X) (s : Nat) : mz_X := zq_c w h z X s (zq_civ w h p X s) (s + 1) (zn_lr w z s - s)
/-- the determinant, from step s on -/
def zq_dp (w h z : Nat) (X : mz_X) (s : Nat) : Int32 := zq_pv w h X s s (zn_lr w z s + 1 - s)
def zq_dX (w h z : Nat) (X : mz_X) (s : Nat) : mz_X := if zq_dp w h z X s = nI s then X else zq_x w h X (nI s) (zq_dp w h z X s) s (zn_lc w z s + 1 - s)
def zq_dV (w h z : Nat) (X : mz_X) (s : Nat) (v : Int64) : Int64 := zq_tm (zq_dX w h z X s) (if zq_dp w h z X s = nI s then v else (zq_dX w h z X s).2 20 6 - v) (zq_e w h (zq_dX w h z X s) (nI s) (nI s))
def zq_d (w h z p : Nat) (X : mz_X) (s : Nat) (v : Int64) (k : Nat) : Int64 × mz_X := match k with
  | 0 => (v, X)
  | j + 1 => if zq_dp w h z X s = -1 then (0, X) else zq_d w h z p (zq_cb w h z p (zq_dX w h z X s) s) (s + 1) (zq_dV w h z X s v) j
def C_Tc_pivotRow (w h : Nat) : mz_CI := fun lay as X Q => match as with
  | [.ref 20, .int t] => lay = mz_lay w h ∧ mz_geo w h ∧ ∃ z p s : Nat, zq_ok w z p X ∧ s < z ∧ t = nI s ∧ Q (zq_dp w h z X s) X
  | _ => False
def C_Tc_exchangeRows (w h : Nat) : mz_CV := fun lay as X Q => match as with
  | [.ref 20, .int r, .int o] => lay = mz_lay w h ∧ mz_geo w h ∧ ∃ z p s : Nat, zq_ok w z p X ∧ s < z ∧ r = nI s ∧ Q (zq_x w h X (nI s) o s (zn_lc w z s + 1 - s))
  | _ => False
def C_Tc_inverse (w h : Nat) : mz_CL := fun lay as X Q => match as with
  | [.ref 20, .long a] => lay = mz_lay w h ∧ mz_geo w h ∧ ∃ p : Nat, X.2 20 6 = lN p ∧ 2 ≤ p ∧ p < 2 ^ 31 ∧ Q (zq_iv X 1 a (p - 2) 31) X
  | _ => False
def C_Tc_addRow (w h : Nat) : mz_CV := fun lay as X Q => match as with
  | [.ref 20, .int r, .int t, .long f] => lay = mz_lay w h ∧ mz_geo w h ∧ ∃ z p s : Nat, zq_ok w z p X ∧ s < z ∧ r = nI s ∧ Q (zq_ar w h z X s t f)
  | _ => False
def C_Tc_clearBelow (w h : Nat) : mz_CV := fun lay as X Q => match as with
  | [.ref 20, .int r] => lay = mz_lay w h ∧ mz_geo w h ∧ ∃ z p s : Nat, zq_ok w z p X ∧ s < z ∧ r = nI s ∧ Q (zq_cb w h z p X s)
  | _ => False
def C_Tc_determinant (w h : Nat) : mz_CL := fun lay as X Q => match as with
  | [.ref 20] => lay = mz_lay w h ∧ mz_geo w h ∧ ((X.1 20 5 = -1 ∧ Q 1 X) ∨ ∃ z p : Nat, zq_ok w z p X ∧ Q (zq_d w h z p X 0 1 z).1 (zq_d w h z p X 0 1 z).2)
  | _ => False
def y_Tc_pivotRow : MethodName := ⟨"MazeForms$TreeCount", "pivotRow", "(I)I"⟩
abbrev w_Tc_pivotRow : List Cond := .code y_Tc_pivotRow prog_9_method_10_code 3 (some .int) :: mz_tb
def dl_Tc_pivotRow : List (Nat × ClassFile.Instr × Nat) := [(0, .iload_n 1, 1), (1, .istore_n 2, 1), (2, .iload_n 2, 1), (3, .aload_n 0, 1), (4, .iload_n 1, 1), (5, .invokevirtual 113, 3), (8, .if_icmp .gt (22), 3), (11, .aload_n 0, 1), (12, .iload_n 2, 1), (13, .iload_n 1, 1), (14, .invokevirtual 101, 3), (17, .lconst 0, 1), (18, .lcmp, 1), (19, .ifCond .eq (5), 3), (22, .iload_n 2, 1), (23, .ireturn, 1), (24, .iinc 2 (1), 3), (27, .goto (-25), 3), (30, .iconst (-1), 1), (31, .ireturn, 1)]
theorem d_Tc_pivotRow : mz_dec prog_9_method_10_code dl_Tc_pivotRow = true := by decide +kernel
def y_Tc_exchangeRows : MethodName := ⟨"MazeForms$TreeCount", "exchangeRows", "(II)V"⟩
abbrev w_Tc_exchangeRows : List Cond := .code y_Tc_exchangeRows prog_9_method_13_code 8 none :: mz_tb
def dl_Tc_exchangeRows : List (Nat × ClassFile.Instr × Nat) := [(0, .iload_n 1, 1), (1, .istore_n 3, 1), (2, .iload_n 3, 1), (3, .aload_n 0, 1), (4, .iload_n 1, 1), (5, .invokevirtual 121, 3), (8, .if_icmp .gt (69), 3), (11, .aload_n 0, 1), (12, .iload_n 1, 1), (13, .iload_n 3, 1), (14, .invokevirtual 90, 3), (17, .istore 4, 2), (19, .aload_n 0, 1), (20, .iload_n 2, 1), (21, .iload_n 3, 1), (22, .invokevirtual 90, 3), (25, .istore 5, 2), (27, .iload 4, 2), (29, .iconst (-1), 1), (30, .if_icmp .eq (41), 3), (33, .iload 5, 2), (35, .iconst (-1), 1), (36, .if_icmp .eq (35), 3), (39, .aload_n 0, 1), (40, .getfield 35, 3), (43, .iload 4, 2), (45, .laload, 1), (46, .lstore 6, 2), (48, .aload_n 0, 1), (49, .getfield 35, 3), (52, .iload 4, 2), (54, .aload_n 0, 1), (55, .getfield 35, 3), (58, .iload 5, 2), (60, .laload, 1), (61, .lastore, 1), (62, .aload_n 0, 1), (63, .getfield 35, 3), (66, .iload 5, 2), (68, .lload 6, 2), (70, .lastore, 1), (71, .iinc 3 (1), 3), (74, .goto (-72), 3), (77, .return_, 1)]
theorem d_Tc_exchangeRows : mz_dec prog_9_method_13_code dl_Tc_exchangeRows = true := by decide +kernel
def y_Tc_inverse : MethodName := ⟨"MazeForms$TreeCount", "inverse", "(J)J"⟩
abbrev w_Tc_inverse : List Cond := .code y_Tc_inverse prog_9_method_17_code 9 (some .long) :: mz_tb
def dl_Tc_inverse : List (Nat × ClassFile.Instr × Nat) := [(0, .lconst 1, 1), (1, .lstore_n 3, 1), (2, .lload_n 1, 1), (3, .lstore 5, 2), (5, .aload_n 0, 1), (6, .getfield 43, 3), (9, .ldc2_w 39, 3), (12, .lsub, 1), (13, .lstore 7, 2), (15, .lload 7, 2), (17, .lconst 0, 1), (18, .lcmp, 1), (19, .ifCond .le (39), 3), (22, .lload 7, 2), (24, .lconst 1, 1), (25, .land, 1), (26, .lconst 1, 1), (27, .lcmp, 1), (28, .ifCond .ne (11), 3), (31, .aload_n 0, 1), (32, .lload_n 3, 1), (33, .lload 5, 2), (35, .invokevirtual 105, 3), (38, .lstore_n 3, 1), (39, .aload_n 0, 1), (40, .lload 5, 2), (42, .lload 5, 2), (44, .invokevirtual 105, 3), (47, .lstore 5, 2), (49, .lload 7, 2), (51, .iconst (1), 1), (52, .lshr, 1), (53, .lstore 7, 2), (55, .goto (-40), 3), (58, .lload_n 3, 1), (59, .lreturn, 1)]
theorem d_Tc_inverse : mz_dec prog_9_method_17_code dl_Tc_inverse = true := by decide +kernel
def I_Tc_pivotRow (w h : Nat) : List (Nat × mz_Op) := [(0, mz_ldi 1 1), (1, mz_sti 2 2), (2, mz_ldi 2 3), (3, mz_lda 0 4), (4, mz_ldi 1 5), (5, mz_ci 2 7 (C_Tc_lastRow w h) 8), (8, mz_ic (fun x y => y < x) 30 11), (11, mz_lda 0 12), (12, mz_ldi 2 13), (13, mz_ldi 1 14), (14, mz_cl 3 7 (C_Tc_entry w h) 17), (17, mz_push (.long 0) 18), (18, mz_lcmp 19), (19, mz_if (fun x => x = 0) 24 22), (22, mz_ldi 2 23), (23, mz_ri), (24, mz_inc 2 (1) 27), (27, mz_go 2), (30, mz_push (.int (-1)) 31), (31, mz_ri)]
def I_Tc_exchangeRows (w h : Nat) : List (Nat × mz_Op) := [(0, mz_ldi 1 1), (1, mz_sti 3 2), (2, mz_ldi 3 3), (3, mz_lda 0 4), (4, mz_ldi 1 5), (5, mz_ci 2 7 (C_Tc_lastColumn w h) 8), (8, mz_ic (fun x y => y < x) 77 11), (11, mz_lda 0 12), (12, mz_ldi 1 13), (13, mz_ldi 3 14), (14, mz_ci 3 7 (C_Tc_slotOf w h) 17), (17, mz_sti 4 19), (19, mz_lda 0 20), (20, mz_ldi 2 21), (21, mz_ldi 3 22), (22, mz_ci 3 7 (C_Tc_slotOf w h) 25), (25, mz_sti 5 27), (27, mz_ldi 4 29), (29, mz_push (.int (-1)) 30), (30, mz_ic (fun x y => x = y) 71 33), (33, mz_ldi 5 35), (35, mz_push (.int (-1)) 36), (36, mz_ic (fun x y => x = y) 71 39), (39, mz_lda 0 40), (40, mz_gf 7 4 43), (43, mz_ldi 4 45), (45, mz_lald 46), (46, mz_stl 6 48), (48, mz_lda 0 49), (49, mz_gf 7 4 52), (52, mz_ldi 4 54), (54, mz_lda 0 55), (55, mz_gf 7 4 58), (58, mz_ldi 5 60), (60, mz_lald 61), (61, mz_last 62), (62, mz_lda 0 63), (63, mz_gf 7 4 66), (66, mz_ldi 5 68), (68, mz_ldl 6 70), (70, mz_last 71), (71, mz_inc 3 (1) 74), (74, mz_go 2), (77, mz_rv)]
def I_Tc_inverse (w h : Nat) : List (Nat × mz_Op) := [(0, mz_push (.long 1) 1), (1, mz_stl 3 2), (2, mz_ldl 1 3), (3, mz_stl 5 5), (5, mz_lda 0 6), (6, mz_gf 7 6 9), (9, mz_push (.long (2)) 12), (12, mz_bl (fun x y => x - y) 13), (13, mz_stl 7 15), (15, mz_ldl 7 17), (17, mz_push (.long 0) 18), (18, mz_lcmp 19), (19, mz_if (fun x => x ≤ 0) 58 22), (22, mz_ldl 7 24), (24, mz_push (.long 1) 25), (25, mz_bl (fun x y => x &&& y) 26), (26, mz_push (.long 1) 27), (27, mz_lcmp 28), (28, mz_if (fun x => x = 0) 31 39), (31, mz_lda 0 32), (32, mz_ldl 3 33), (33, mz_ldl 5 35), (35, mz_cl 3 7 (C_Tc_times w h) 38), (38, mz_stl 3 39), (39, mz_lda 0 40), (40, mz_ldl 5 42), (42, mz_ldl 5 44), (44, mz_cl 3 7 (C_Tc_times w h) 47), (47, mz_stl 5 49), (49, mz_ldl 7 51), (51, mz_push (.int (1)) 52), (52, mz_sh (fun x y => x >>> (y.toInt64 &&& 63)) 53), (53, mz_stl 7 55), (55, mz_go 15), (58, mz_ldl 3 59), (59, mz_rl)]
theorem zz_and1 {a : Nat} (ha : a < 2 ^ 64) : lN a &&& 1 = lN (a % 2) := by
  apply Int64.toBitVec_inj.mp
  apply BitVec.eq_of_toNat_eq
  show (BitVec.ofNat 64 a &&& 1#64).toNat = (BitVec.ofNat 64 (a % 2)).toNat
  rw [BitVec.toNat_and, BitVec.toNat_ofNat, BitVec.toNat_ofNat, BitVec.toNat_ofNat, Nat.mod_eq_of_lt ha, Nat.mod_eq_of_lt (by omega : a % 2 < 2 ^ 64)]
  exact Nat.and_two_pow_sub_one_eq_mod a 1
theorem zz_shr {a : Nat} (h : a < 2 ^ 62) : lN a >>> ((1 : Int32).toInt64 &&& 63) = lN (a / 2) := by
  apply Int64.toInt_inj.mp
  have e : (lN a >>> ((1 : Int32).toInt64 &&& 63)).toInt = (lN a).toInt >>> 1 := BitVec.toInt_sshiftRight ..
  rw [e, Int.shiftRight_eq_div_pow, pk_lT (by omega), pk_lT (by omega)]
  rfl
theorem zn_pred {z : Nat} (h : 0 < z) : nI z - 1 = nI (z - 1) := by
  obtain ⟨k, rfl⟩ : ∃ k, z = k + 1 := ⟨z - 1, by omega⟩
  exact nI_pred k
theorem zq_lr_n {w z p s : Nat} {X : mz_X} (hw : w ≤ 12) (hX : zq_ok w z p X) (hs : s < z) : zq_lr X (nI s) = nI (zn_lr w z s) := by
  obtain ⟨h1, h2, h3, -⟩ := hX
  unfold zq_lr zn_lr
  rw [h1, h2, zn_pred (by omega), nI_add]
  by_cases hc : s + w < z - 1
  · rw [if_pos ((nI_ltI (by omega) (by omega)).mpr hc), if_pos hc]
  · rw [if_neg (fun q => hc ((nI_ltI (by omega) (by omega)).mp q)), if_neg hc]
theorem zq_lc_n {w z p s : Nat} {X : mz_X} (hw : w ≤ 12) (hX : zq_ok w z p X) (hs : s < z) : zq_lc X (nI s) = nI (zn_lc w z s) := by
  obtain ⟨h1, h2, h3, -⟩ := hX
  unfold zq_lc zn_lc
  rw [h1, h2, zn_pred (by omega), show (2 : Int32) = nI 2 from rfl, pk_mul, nI_add]
  by_cases hc : s + 2 * w < z - 1
  · rw [if_pos ((nI_ltI (by omega) (by omega)).mpr hc), if_pos hc]
  · rw [if_neg (fun q => hc ((nI_ltI (by omega) (by omega)).mp q)), if_neg hc]
theorem zn_lr_b {w z s : Nat} (hs : s < z) : s ≤ zn_lr w z s ∧ zn_lr w z s < z := by
  unfold zn_lr
  split <;> omega
theorem zn_lc_b {w z s : Nat} (hs : s < z) : s ≤ zn_lc w z s ∧ zn_lc w z s < z := by
  unfold zn_lc
  split <;> omega
theorem zq_ok_of {w z p : Nat} {X Y : mz_X} (hX : zq_ok w z p X) (e1 : Y.1 = X.1) (e2 : Y.2 20 6 = X.2 20 6) : zq_ok w z p Y := by
  unfold zq_ok at *
  rw [e1, e2]
  exact hX
theorem zq_xS_1 {w h : Nat} (X : mz_X) (r o c : Int32) : (zq_xS w h X r o c).1 = X.1 ∧ (zq_xS w h X r o c).2 20 6 = X.2 20 6 := by
  unfold zq_xS
  split
  · exact ⟨rfl, rfl⟩
  · exact ⟨rfl, rfl⟩
theorem zq_x_1 {w h : Nat} (r o : Int32) : ∀ (k i : Nat) (X : mz_X), (zq_x w h X r o i k).1 = X.1 ∧ (zq_x w h X r o i k).2 20 6 = X.2 20 6
  | 0, i, X => ⟨rfl, rfl⟩
  | k + 1, i, X => by
    have h1 := zq_x_1 (w := w) (h := h) r o k (i + 1) (zq_xS w h X r o (nI i))
    have h2 := zq_xS_1 (w := w) (h := h) X r o (nI i)
    exact ⟨h1.1.trans h2.1, h1.2.trans h2.2⟩
theorem zq_a_1 (b a : Nat) (f : Int64) (X : mz_X) : ∀ k, (zq_a X b a f k).1 = X.1 ∧ (zq_a X b a f k).2 20 6 = X.2 20 6
  | 0 => ⟨rfl, rfl⟩
  | k + 1 => by
    have h1 := zq_a_1 b a f X k
    exact ⟨h1.1, h1.2⟩
theorem zq_ar_1 {w h z : Nat} (X : mz_X) (s : Nat) (t : Int32) (f : Int64) : (zq_ar w h z X s t f).1 = X.1 ∧ (zq_ar w h z X s t f).2 20 6 = X.2 20 6 := by
  unfold zq_ar
  split
  · exact ⟨rfl, rfl⟩
  · split
    · exact ⟨rfl, rfl⟩
    · exact zq_a_1 _ _ _ _ _
theorem zq_cS_1 {w h z : Nat} (X : mz_X) (s r : Nat) (iv : Int64) : (zq_cS w h z X s r iv).1 = X.1 ∧ (zq_cS w h z X s r iv).2 20 6 = X.2 20 6 := by
  unfold zq_cS
  split
  · exact ⟨rfl, rfl⟩
  · exact zq_ar_1 _ _ _ _
theorem zq_c_1 {w h z : Nat} (s : Nat) (iv : Int64) : ∀ (k r : Nat) (X : mz_X), (zq_c w h z X s iv r k).1 = X.1 ∧ (zq_c w h z X s iv r k).2 20 6 = X.2 20 6
  | 0, r, X => ⟨rfl, rfl⟩
  | k + 1, r, X => by
    have h1 := zq_c_1 (w := w) (h := h) (z := z) s iv k (r + 1) (zq_cS w h z X s r iv)
    have h2 := zq_cS_1 (w := w) (h := h) (z := z) X s r iv
    exact ⟨h1.1.trans h2.1, h1.2.trans h2.2⟩
theorem zq_dX_1 {w h z : Nat} (X : mz_X) (s : Nat) : (zq_dX w h z X s).1 = X.1 ∧ (zq_dX w h z X s).2 20 6 = X.2 20 6 := by
  unfold zq_dX
  split
  · exact ⟨rfl, rfl⟩
  · exact zq_x_1 _ _ _ _ _
theorem zq_cb_1 {w h z p : Nat} (X : mz_X) (s : Nat) : (zq_cb w h z p X s).1 = X.1 ∧ (zq_cb w h z p X s).2 20 6 = X.2 20 6 := zq_c_1 _ _ _ _ _
theorem zz_lcmp0 (x : Int64) : lg_cmp x 0 = 0 ↔ x = 0 := lg_cmp_eq x 0
theorem len_Tc_pivotRow (w h : Nat) (lay : List mz_E) (as : List Value) (X : mz_X) (Q : Int32 → mz_X → Prop) (hC : C_Tc_pivotRow w h lay as X Q) : (mz_l0 as).length ≤ 3 := by
  unfold C_Tc_pivotRow at hC
  split at hC
  · exact Nat.le_of_ble_eq_true rfl
  · exact hC.elim
theorem ok_Tc_pivotRow (w h : Nat) (lay : List mz_E) (as : List Value) (X : mz_X) (Q : Int32 → mz_X → Prop) (hC : C_Tc_pivotRow w h lay as X Q) (K : mz_K) (hK : mz_Cl (I_Tc_pivotRow w h) (mz_qi lay Q) K) : K 0 (mz_ent 3 as) [] (lay, X) := by
  unfold C_Tc_pivotRow at hC
  split at hC
  · next t =>
    obtain ⟨rfl, g, z, p, s, hX, hs, rfl, hq⟩ := hC
    have hb := zn_lr_b (w := w) hs
    have hz := hX.2.2.1
    have hlr := zq_lr_n g.2.1 hX hs
    have loop : ∀ (k r : Nat), r + k = zn_lr w z s + 1 → zq_dp w h z X s = zq_pv w h X s r k → K 2 [some (.ref 20), some (.int (nI s)), some (.int (nI r))] [] (mz_lay w h, X) := by
      intro k
      induction k with
      | zero =>
        intro r hr he
        iterate 3 refine hK _ _ _ _ ?_
        refine hK _ _ _ _ (And.intro (rfl) (And.intro (g) ?_))
        refine hK _ _ _ _ (And.intro (fun c1 => ?_) (fun c1 => ?_))
        · rw [he] at hq
          refine hK _ _ _ _ ?_
          exact hK _ _ _ _ (And.intro rfl (hq))
        · dsimp only at c1
          rw [hlr] at c1
          exact absurd ((nI_ltI (by omega) (by omega)).mpr (by omega)) c1
      | succ k ih =>
        intro r hr he
        iterate 3 refine hK _ _ _ _ ?_
        refine hK _ _ _ _ (And.intro (rfl) (And.intro (g) ?_))
        refine hK _ _ _ _ (And.intro (fun c1 => ?_) (fun c1 => ?_))
        · dsimp only at c1
          rw [hlr] at c1
          exact absurd ((nI_ltI (by omega) (by omega)).mp c1) (by omega)
        · iterate 3 refine hK _ _ _ _ ?_
          refine hK _ _ _ _ (And.intro (rfl) (And.intro (g) ?_))
          iterate 2 refine hK _ _ _ _ ?_
          refine hK _ _ _ _ (And.intro (fun c2 => ?_) (fun c2 => ?_))
          · dsimp only at c2
            rw [lg_cmp_eq] at c2
            rw [show zq_pv w h X s r (k + 1) = zq_pv w h X s (r + 1) k from if_pos c2] at he
            iterate 2 refine hK _ _ _ _ ?_
            have := ih (r + 1) (by omega) he
            rw [← nI_1] at this
            exact this
          · dsimp only at c2
            rw [lg_cmp_eq] at c2
            rw [show zq_pv w h X s r (k + 1) = nI r from if_neg c2] at he
            rw [he] at hq
            refine hK _ _ _ _ ?_
            exact hK _ _ _ _ (And.intro rfl (hq))
    iterate 2 refine hK _ _ _ _ ?_
    exact loop (zn_lr w z s + 1 - s) s (by omega) rfl
  · exact hC.elim
theorem len_Tc_exchangeRows (w h : Nat) (lay : List mz_E) (as : List Value) (X : mz_X) (Q : mz_X → Prop) (hC : C_Tc_exchangeRows w h lay as X Q) : (mz_l0 as).length ≤ 8 := by
  unfold C_Tc_exchangeRows at hC
  split at hC
  · exact Nat.le_of_ble_eq_true rfl
  · exact hC.elim
theorem ok_Tc_exchangeRows (w h : Nat) (lay : List mz_E) (as : List Value) (X : mz_X) (Q : mz_X → Prop) (hC : C_Tc_exchangeRows w h lay as X Q) (K : mz_K) (hK : mz_Cl (I_Tc_exchangeRows w h) (mz_qv lay Q) K) : K 0 (mz_ent 8 as) [] (lay, X) := by
  unfold C_Tc_exchangeRows at hC
  split at hC
  · next r o =>
    obtain ⟨rfl, g, z, p, s, hX, hs, rfl, hq⟩ := hC
    have hb := zn_lc_b (w := w) hs
    have hz := hX.2.2.1
    have loop : ∀ (k i : Nat) (Y : mz_X), i + k = zn_lc w z s + 1 → zq_ok w z p Y → Q (zq_x w h Y (nI s) o i k) → ∀ L4 L5 L6 : Option Value, K 2 [some (.ref 20), some (.int (nI s)), some (.int o), some (.int (nI i)), L4, L5, L6, none] [] (mz_lay w h, Y) := by
      intro k
      induction k with
      | zero =>
        intro i Y hi hY hQ L4 L5 L6
        iterate 3 refine hK _ _ _ _ ?_
        refine hK _ _ _ _ (And.intro (rfl) (And.intro (g) ?_))
        refine hK _ _ _ _ (And.intro (fun c1 => ?_) (fun c1 => ?_))
        · exact hK _ _ _ _ (And.intro rfl (hQ))
        · dsimp only at c1
          rw [zq_lc_n g.2.1 hY hs] at c1
          exact absurd ((nI_ltI (by omega) (by omega)).mpr (by omega)) c1
      | succ k ih =>
        intro i Y hi hY hQ L4 L5 L6
        have h1 := zq_xS_1 (w := w) (h := h) Y (nI s) o (nI i)
        have ih1 := ih (i + 1) (zq_xS w h Y (nI s) o (nI i)) (by omega) (zq_ok_of hY h1.1 h1.2) hQ
        rw [← nI_1] at ih1
        iterate 3 refine hK _ _ _ _ ?_
        refine hK _ _ _ _ (And.intro (rfl) (And.intro (g) ?_))
        refine hK _ _ _ _ (And.intro (fun c1 => ?_) (fun c1 => ?_))
        · dsimp only at c1
          rw [zq_lc_n g.2.1 hY hs] at c1
          exact absurd ((nI_ltI (by omega) (by omega)).mp c1) (by omega)
        · iterate 3 refine hK _ _ _ _ ?_
          refine hK _ _ _ _ (And.intro (rfl) (And.intro (g) ?_))
          iterate 4 refine hK _ _ _ _ ?_
          refine hK _ _ _ _ (And.intro (rfl) (And.intro (g) ?_))
          iterate 3 refine hK _ _ _ _ ?_
          refine hK _ _ _ _ (And.intro (fun c2 => ?_) (fun c2 => ?_))
          · rw [show zq_xS w h Y (nI s) o (nI i) = Y from if_pos (Or.inl c2)] at ih1
            iterate 2 refine hK _ _ _ _ ?_
            exact ih1 _ _ _
          · iterate 2 refine hK _ _ _ _ ?_
            refine hK _ _ _ _ (And.intro (fun c3 => ?_) (fun c3 => ?_))
            · rw [show zq_xS w h Y (nI s) o (nI i) = Y from if_pos (Or.inr c3)] at ih1
              iterate 2 refine hK _ _ _ _ ?_
              exact ih1 _ _ _
            · rw [show zq_xS w h Y (nI s) o (nI i) = (Y.1, mz_up (mz_up Y.2 22 (zq_slot w h Y (nI s) (nI i)).toNatClampNeg (Y.2 22 (zq_slot w h Y o (nI i)).toNatClampNeg)) 22 (zq_slot w h Y o (nI i)).toNatClampNeg (Y.2 22 (zq_slot w h Y (nI s) (nI i)).toNatClampNeg)) from if_neg (fun q => q.elim c2 c3)] at ih1
              have hi2 := zq_slot_in g c2
              have hi3 := zq_slot_in g c3
              iterate 3 refine hK _ _ _ _ ?_
              refine hK _ _ _ _ (And.intro (hi2) ?_)
              iterate 7 refine hK _ _ _ _ ?_
              refine hK _ _ _ _ (And.intro (hi3) ?_)
              refine hK _ _ _ _ (And.intro (hi2) ?_)
              iterate 4 refine hK _ _ _ _ ?_
              refine hK _ _ _ _ (And.intro (hi3) ?_)
              iterate 2 refine hK _ _ _ _ ?_
              exact ih1 _ _ _
    iterate 2 refine hK _ _ _ _ ?_
    exact loop (zn_lc w z s + 1 - s) s X (by omega) hX hq none none none
  · exact hC.elim
theorem len_Tc_inverse (w h : Nat) (lay : List mz_E) (as : List Value) (X : mz_X) (Q : Int64 → mz_X → Prop) (hC : C_Tc_inverse w h lay as X Q) : (mz_l0 as).length ≤ 9 := by
  unfold C_Tc_inverse at hC
  split at hC
  · exact Nat.le_of_ble_eq_true rfl
  · exact hC.elim
theorem ok_Tc_inverse (w h : Nat) (lay : List mz_E) (as : List Value) (X : mz_X) (Q : Int64 → mz_X → Prop) (hC : C_Tc_inverse w h lay as X Q) (K : mz_K) (hK : mz_Cl (I_Tc_inverse w h) (mz_ql lay Q) K) : K 0 (mz_ent 9 as) [] (lay, X) := by
  unfold C_Tc_inverse at hC
  split at hC
  · next a =>
    obtain ⟨rfl, g, p, hp, hp2, hp3, hq⟩ := hC
    have loop : ∀ (k : Nat) (pw sq : Int64) (e : Nat), e < 2 ^ k → k ≤ 31 → Q (zq_iv X pw sq e k) X → K 15 [some (.ref 20), some (.long a), none, some (.long pw), none, some (.long sq), none, some (.long (lN e)), none] [] (mz_lay w h, X) := by
      intro k
      induction k with
      | zero =>
        intro pw sq e he hk hQ
        have e0 : e = 0 := by omega
        subst e0
        iterate 3 refine hK _ _ _ _ ?_
        refine hK _ _ _ _ (And.intro (fun c1 => ?_) (fun c1 => ?_))
        · refine hK _ _ _ _ ?_
          exact hK _ _ _ _ (And.intro rfl (hQ))
        · dsimp only at c1
          rw [lg_cmp_le] at c1
          exact absurd (by decide) c1
      | succ k ih =>
        intro pw sq e he hk hQ
        have hpk : (2 : Nat) ^ (k + 1) ≤ 2 ^ 31 := Nat.pow_le_pow_right (by decide) hk
        have h31 : (2 : Nat) ^ 31 = 2147483648 := by decide
        have hk2 : (2 : Nat) ^ (k + 1) = 2 * 2 ^ k := by rw [Nat.pow_succ]; omega
        iterate 3 refine hK _ _ _ _ ?_
        refine hK _ _ _ _ (And.intro (fun c1 => ?_) (fun c1 => ?_))
        · dsimp only at c1
          rw [lg_cmp_le, show (0 : Int64) = lN 0 from rfl, pk_lLE (by omega) (by decide)] at c1
          have e0 : e = 0 := by omega
          rw [show zq_iv X pw sq e (k + 1) = pw from if_pos e0] at hQ
          refine hK _ _ _ _ ?_
          exact hK _ _ _ _ (And.intro rfl (hQ))
        · dsimp only at c1
          rw [lg_cmp_le, show (0 : Int64) = lN 0 from rfl, pk_lLE (by omega) (by decide)] at c1
          rw [show zq_iv X pw sq e (k + 1) = zq_iv X (if e % 2 = 1 then zq_tm X pw sq else pw) (zq_tm X sq sq) (e / 2) k from if_neg (by omega)] at hQ
          have hend : ∀ pw2 : Int64, Q (zq_iv X pw2 (zq_tm X sq sq) (e / 2) k) X → K 39 [some (.ref 20), some (.long a), none, some (.long pw2), none, some (.long sq), none, some (.long (lN e)), none] [] (mz_lay w h, X) := by
            intro pw2 hQ2
            iterate 3 refine hK _ _ _ _ ?_
            refine hK _ _ _ _ (And.intro (rfl) (And.intro (g) ?_))
            iterate 6 refine hK _ _ _ _ ?_
            have := ih pw2 (zq_tm X sq sq) (e / 2) (by omega) (by omega) hQ2
            rw [← zz_shr (by omega)] at this
            exact this
          iterate 5 refine hK _ _ _ _ ?_
          refine hK _ _ _ _ (And.intro (fun c2 => ?_) (fun c2 => ?_))
          · dsimp only at c2
            rw [lg_cmp_eq, zz_and1 (by omega), show (1 : Int64) = lN 1 from rfl, pk_lEQ (by omega) (by decide)] at c2
            rw [if_pos c2] at hQ
            iterate 3 refine hK _ _ _ _ ?_
            refine hK _ _ _ _ (And.intro (rfl) (And.intro (g) ?_))
            refine hK _ _ _ _ ?_
            exact hend _ hQ
          · dsimp only at c2
            rw [lg_cmp_eq, zz_and1 (by omega), show (1 : Int64) = lN 1 from rfl, pk_lEQ (by omega) (by decide)] at c2
            rw [if_neg c2] at hQ
            exact hend _ hQ
    have h31 : (2 : Nat) ^ 31 = 2147483648 := by decide
    iterate 9 refine hK _ _ _ _ ?_
    have := loop 31 1 a (p - 2) (by omega) (by omega) hq
    rw [show lN (p - 2) = X.2 20 6 - 2 by rw [hp, show (2 : Int64) = lN 2 from rfl, lN_sub hp2]] at this
    exact this
  · exact hC.elim
set_option maxRecDepth 20000 in
theorem snd_Tc_pivotRow (w h : Nat) (l : Launch) (p : Program) (e : Env) (s : State) (m : MethodId) (args : Array Value) (below : List Frame) (meth : Method) (c : Code) (D : va_G) (ad0 : Nat → Nat) (cA0 : Nat → ClassId) (A : Nat → Prop) (lay : List mz_E) (Q : Int32 → mz_X → Prop) (F : mz_F p s m args meth c prog_9_method_10_code 3 y_Tc_pivotRow.cls (some .int) w_Tc_pivotRow) (hA : ∀ q, s.heap.size ≤ q → A q) : mz_All (mz_V p l e (mz_rm 2 48) s m args below meth c 3 lay.length (mz_sz lay) D mz_cls (mz_G0 ad0 cA0) A (MQ below (va_Qi Q (mz_B D mz_cls ad0 cA0 lay A) A) args s 0 0 A)) (mz_qi lay Q) (I_Tc_pivotRow w h) := by
  obtain ⟨hx, hb, hml, hown, hts, hr, hlk⟩ := F
  unfold I_Tc_pivotRow
  refine mz_All.cons (sd_iload_n hx hb (mz_dg d_Tc_pivotRow 0 0 (.iload_n 1) 1 rfl) rfl) ?_
  refine mz_All.cons (sd_istore_n hx hb (mz_dg d_Tc_pivotRow 1 1 (.istore_n 2) 1 rfl) rfl (by decide)) ?_
  refine mz_All.cons (sd_iload_n hx hb (mz_dg d_Tc_pivotRow 2 2 (.iload_n 2) 1 rfl) rfl) ?_
  refine mz_All.cons (sd_aload_n hx hb (mz_dg d_Tc_pivotRow 3 3 (.aload_n 0) 1 rfl) rfl) ?_
  refine mz_All.cons (sd_iload_n hx hb (mz_dg d_Tc_pivotRow 4 4 (.iload_n 1) 1 rfl) rfl) ?_
  refine mz_All.cons (sd_calli (T := T_Tc) ⟨hx, hb, hml, hown, hts⟩ (met_Tc_lastRow w h l) (cwV 1 hts (mz_gV wm_674 wm_676 wm_31 wm_76 wm_677) rfl rfl rfl (by decide) ⟨by decide, by decide⟩) rfl hA rfl (mz_dg d_Tc_pivotRow 5 5 (.invokevirtual 113) 3 rfl)) ?_
  refine mz_All.cons (sd_icmp_gt hx hb (mz_dg d_Tc_pivotRow 6 8 (.if_icmp .gt (22)) 3 rfl) (by decide)) ?_
  refine mz_All.cons (sd_aload_n hx hb (mz_dg d_Tc_pivotRow 7 11 (.aload_n 0) 1 rfl) rfl) ?_
  refine mz_All.cons (sd_iload_n hx hb (mz_dg d_Tc_pivotRow 8 12 (.iload_n 2) 1 rfl) rfl) ?_
  refine mz_All.cons (sd_iload_n hx hb (mz_dg d_Tc_pivotRow 9 13 (.iload_n 1) 1 rfl) rfl) ?_
  refine mz_All.cons (sd_calll (T := T_Tc) ⟨hx, hb, hml, hown, hts⟩ (met_Tc_entry w h l) (cwV 2 hts (mz_gV wm_679 wm_681 wm_32 wm_76 wm_682) rfl rfl rfl (by decide) ⟨by decide, by decide⟩) rfl hA rfl (mz_dg d_Tc_pivotRow 10 14 (.invokevirtual 101) 3 rfl)) ?_
  refine mz_All.cons (sd_lconst hx hb (mz_dg d_Tc_pivotRow 11 17 (.lconst 0) 1 rfl) (by decide)) ?_
  refine mz_All.cons (sd_lcmp hx hb (mz_dg d_Tc_pivotRow 12 18 (.lcmp) 1 rfl)) ?_
  refine mz_All.cons (sd_if_eq hx hb (mz_dg d_Tc_pivotRow 13 19 (.ifCond .eq (5)) 3 rfl) (by decide)) ?_
  refine mz_All.cons (sd_iload_n hx hb (mz_dg d_Tc_pivotRow 14 22 (.iload_n 2) 1 rfl) rfl) ?_
  refine mz_All.cons (sd_ri hx hb hr hlk (mz_dg d_Tc_pivotRow 15 23 (.ireturn) 1 rfl)) ?_
  refine mz_All.cons (sd_iinc hx hb (mz_dg d_Tc_pivotRow 16 24 (.iinc 2 (1)) 3 rfl) (by decide) (by decide)) ?_
  refine mz_All.cons (sd_goto hx hb (mz_dg d_Tc_pivotRow 17 27 (.goto (-25)) 3 rfl) (by decide)) ?_
  refine mz_All.cons (sd_iconst hx hb (mz_dg d_Tc_pivotRow 18 30 (.iconst (-1)) 1 rfl) (by decide)) ?_
  refine mz_All.cons (sd_ri hx hb hr hlk (mz_dg d_Tc_pivotRow 19 31 (.ireturn) 1 rfl)) ?_
  exact trivial
theorem met_Tc_pivotRow (w h : Nat) (l : Launch) : mz_MI l y_Tc_pivotRow w_Tc_pivotRow 2 48 mz_cls (C_Tc_pivotRow w h) := mz_MI_of (I_Tc_pivotRow w h) (by decide) rfl (len_Tc_pivotRow w h) (ok_Tc_pivotRow w h) (snd_Tc_pivotRow w h l)
set_option maxRecDepth 20000 in
theorem snd_Tc_exchangeRows (w h : Nat) (l : Launch) (p : Program) (e : Env) (s : State) (m : MethodId) (args : Array Value) (below : List Frame) (meth : Method) (c : Code) (D : va_G) (ad0 : Nat → Nat) (cA0 : Nat → ClassId) (A : Nat → Prop) (lay : List mz_E) (Q : mz_X → Prop) (F : mz_F p s m args meth c prog_9_method_13_code 8 y_Tc_exchangeRows.cls none w_Tc_exchangeRows) (hA : ∀ q, s.heap.size ≤ q → A q) : mz_All (mz_V p l e (mz_rm 2 42) s m args below meth c 8 lay.length (mz_sz lay) D mz_cls (mz_G0 ad0 cA0) A (MQ below (va_Qv Q (mz_B D mz_cls ad0 cA0 lay A) A) args s 0 0 A)) (mz_qv lay Q) (I_Tc_exchangeRows w h) := by
  obtain ⟨hx, hb, hml, hown, hts, hr, hlk⟩ := F
  unfold I_Tc_exchangeRows
  refine mz_All.cons (sd_iload_n hx hb (mz_dg d_Tc_exchangeRows 0 0 (.iload_n 1) 1 rfl) rfl) ?_
  refine mz_All.cons (sd_istore_n hx hb (mz_dg d_Tc_exchangeRows 1 1 (.istore_n 3) 1 rfl) rfl (by decide)) ?_
  refine mz_All.cons (sd_iload_n hx hb (mz_dg d_Tc_exchangeRows 2 2 (.iload_n 3) 1 rfl) rfl) ?_
  refine mz_All.cons (sd_aload_n hx hb (mz_dg d_Tc_exchangeRows 3 3 (.aload_n 0) 1 rfl) rfl) ?_
  refine mz_All.cons (sd_iload_n hx hb (mz_dg d_Tc_exchangeRows 4 4 (.iload_n 1) 1 rfl) rfl) ?_
  refine mz_All.cons (sd_calli (T := T_Tc) ⟨hx, hb, hml, hown, hts⟩ (met_Tc_lastColumn w h l) (cwV 1 hts (mz_gV wm_687 wm_689 wm_34 wm_76 wm_690) rfl rfl rfl (by decide) ⟨by decide, by decide⟩) rfl hA rfl (mz_dg d_Tc_exchangeRows 5 5 (.invokevirtual 121) 3 rfl)) ?_
  refine mz_All.cons (sd_icmp_gt hx hb (mz_dg d_Tc_exchangeRows 6 8 (.if_icmp .gt (69)) 3 rfl) (by decide)) ?_
  refine mz_All.cons (sd_aload_n hx hb (mz_dg d_Tc_exchangeRows 7 11 (.aload_n 0) 1 rfl) rfl) ?_
  refine mz_All.cons (sd_iload_n hx hb (mz_dg d_Tc_exchangeRows 8 12 (.iload_n 1) 1 rfl) rfl) ?_
  refine mz_All.cons (sd_iload_n hx hb (mz_dg d_Tc_exchangeRows 9 13 (.iload_n 3) 1 rfl) rfl) ?_
  refine mz_All.cons (sd_calli (T := T_Tc) ⟨hx, hb, hml, hown, hts⟩ (met_Tc_slotOf w h l) (cwV 2 hts (mz_gV wm_662 wm_664 wm_28 wm_76 wm_665) rfl rfl rfl (by decide) ⟨by decide, by decide⟩) rfl hA rfl (mz_dg d_Tc_exchangeRows 10 14 (.invokevirtual 90) 3 rfl)) ?_
  refine mz_All.cons (sd_istore hx hb (mz_dg d_Tc_exchangeRows 11 17 (.istore 4) 2 rfl) (by decide)) ?_
  refine mz_All.cons (sd_aload_n hx hb (mz_dg d_Tc_exchangeRows 12 19 (.aload_n 0) 1 rfl) rfl) ?_
  refine mz_All.cons (sd_iload_n hx hb (mz_dg d_Tc_exchangeRows 13 20 (.iload_n 2) 1 rfl) rfl) ?_
  refine mz_All.cons (sd_iload_n hx hb (mz_dg d_Tc_exchangeRows 14 21 (.iload_n 3) 1 rfl) rfl) ?_
  refine mz_All.cons (sd_calli (T := T_Tc) ⟨hx, hb, hml, hown, hts⟩ (met_Tc_slotOf w h l) (cwV 2 hts (mz_gV wm_662 wm_664 wm_28 wm_76 wm_665) rfl rfl rfl (by decide) ⟨by decide, by decide⟩) rfl hA rfl (mz_dg d_Tc_exchangeRows 15 22 (.invokevirtual 90) 3 rfl)) ?_
  refine mz_All.cons (sd_istore hx hb (mz_dg d_Tc_exchangeRows 16 25 (.istore 5) 2 rfl) (by decide)) ?_
  refine mz_All.cons (sd_iload hx hb (mz_dg d_Tc_exchangeRows 17 27 (.iload 4) 2 rfl)) ?_
  refine mz_All.cons (sd_iconst hx hb (mz_dg d_Tc_exchangeRows 18 29 (.iconst (-1)) 1 rfl) (by decide)) ?_
  refine mz_All.cons (sd_icmp_eq hx hb (mz_dg d_Tc_exchangeRows 19 30 (.if_icmp .eq (41)) 3 rfl) (by decide)) ?_
  refine mz_All.cons (sd_iload hx hb (mz_dg d_Tc_exchangeRows 20 33 (.iload 5) 2 rfl)) ?_
  refine mz_All.cons (sd_iconst hx hb (mz_dg d_Tc_exchangeRows 21 35 (.iconst (-1)) 1 rfl) (by decide)) ?_
  refine mz_All.cons (sd_icmp_eq hx hb (mz_dg d_Tc_exchangeRows 22 36 (.if_icmp .eq (35)) 3 rfl) (by decide)) ?_
  refine mz_All.cons (sd_aload_n hx hb (mz_dg d_Tc_exchangeRows 23 39 (.aload_n 0) 1 rfl) rfl) ?_
  refine mz_All.cons (sd_get (k := 4) hx hb hts (mz_inC in_Tc) hown (T := T_Tc) (N := 7) rfl (by decide) (hts (.fieldLink "MazeForms$TreeCount" 35 "MazeForms$TreeCount" "entries" "[J") (List.mem_cons_of_mem _ wm_289)) (fun _ h => h) (mz_dg d_Tc_exchangeRows 24 40 (.getfield 35) 3 rfl)) ?_
  refine mz_All.cons (sd_iload hx hb (mz_dg d_Tc_exchangeRows 25 43 (.iload 4) 2 rfl)) ?_
  refine mz_All.cons (sd_lald hx hb (mz_dg d_Tc_exchangeRows 26 45 (.laload) 1 rfl)) ?_
  refine mz_All.cons (sd_lstore hx hb (mz_dg d_Tc_exchangeRows 27 46 (.lstore 6) 2 rfl) (by decide)) ?_
  refine mz_All.cons (sd_aload_n hx hb (mz_dg d_Tc_exchangeRows 28 48 (.aload_n 0) 1 rfl) rfl) ?_
  refine mz_All.cons (sd_get (k := 4) hx hb hts (mz_inC in_Tc) hown (T := T_Tc) (N := 7) rfl (by decide) (hts (.fieldLink "MazeForms$TreeCount" 35 "MazeForms$TreeCount" "entries" "[J") (List.mem_cons_of_mem _ wm_289)) (fun _ h => h) (mz_dg d_Tc_exchangeRows 29 49 (.getfield 35) 3 rfl)) ?_
  refine mz_All.cons (sd_iload hx hb (mz_dg d_Tc_exchangeRows 30 52 (.iload 4) 2 rfl)) ?_
  refine mz_All.cons (sd_aload_n hx hb (mz_dg d_Tc_exchangeRows 31 54 (.aload_n 0) 1 rfl) rfl) ?_
  refine mz_All.cons (sd_get (k := 4) hx hb hts (mz_inC in_Tc) hown (T := T_Tc) (N := 7) rfl (by decide) (hts (.fieldLink "MazeForms$TreeCount" 35 "MazeForms$TreeCount" "entries" "[J") (List.mem_cons_of_mem _ wm_289)) (fun _ h => h) (mz_dg d_Tc_exchangeRows 32 55 (.getfield 35) 3 rfl)) ?_
  refine mz_All.cons (sd_iload hx hb (mz_dg d_Tc_exchangeRows 33 58 (.iload 5) 2 rfl)) ?_
  refine mz_All.cons (sd_lald hx hb (mz_dg d_Tc_exchangeRows 34 60 (.laload) 1 rfl)) ?_
  refine mz_All.cons (sd_last hx hb (mz_dg d_Tc_exchangeRows 35 61 (.lastore) 1 rfl)) ?_
  refine mz_All.cons (sd_aload_n hx hb (mz_dg d_Tc_exchangeRows 36 62 (.aload_n 0) 1 rfl) rfl) ?_
  refine mz_All.cons (sd_get (k := 4) hx hb hts (mz_inC in_Tc) hown (T := T_Tc) (N := 7) rfl (by decide) (hts (.fieldLink "MazeForms$TreeCount" 35 "MazeForms$TreeCount" "entries" "[J") (List.mem_cons_of_mem _ wm_289)) (fun _ h => h) (mz_dg d_Tc_exchangeRows 37 63 (.getfield 35) 3 rfl)) ?_
  refine mz_All.cons (sd_iload hx hb (mz_dg d_Tc_exchangeRows 38 66 (.iload 5) 2 rfl)) ?_
  refine mz_All.cons (sd_lload hx hb (mz_dg d_Tc_exchangeRows 39 68 (.lload 6) 2 rfl)) ?_
  refine mz_All.cons (sd_last hx hb (mz_dg d_Tc_exchangeRows 40 70 (.lastore) 1 rfl)) ?_
  refine mz_All.cons (sd_iinc hx hb (mz_dg d_Tc_exchangeRows 41 71 (.iinc 3 (1)) 3 rfl) (by decide) (by decide)) ?_
  refine mz_All.cons (sd_goto hx hb (mz_dg d_Tc_exchangeRows 42 74 (.goto (-72)) 3 rfl) (by decide)) ?_
  refine mz_All.cons (sd_rv hx hb hr hlk (mz_dg d_Tc_exchangeRows 43 77 (.return_) 1 rfl)) ?_
  exact trivial
theorem met_Tc_exchangeRows (w h : Nat) (l : Launch) : mz_MV l y_Tc_exchangeRows w_Tc_exchangeRows 2 42 mz_cls (C_Tc_exchangeRows w h) := mz_MV_of (I_Tc_exchangeRows w h) (by decide) rfl (len_Tc_exchangeRows w h) (ok_Tc_exchangeRows w h) (snd_Tc_exchangeRows w h l)
set_option maxRecDepth 20000 in
theorem snd_Tc_inverse (w h : Nat) (l : Launch) (p : Program) (e : Env) (s : State) (m : MethodId) (args : Array Value) (below : List Frame) (meth : Method) (c : Code) (D : va_G) (ad0 : Nat → Nat) (cA0 : Nat → ClassId) (A : Nat → Prop) (lay : List mz_E) (Q : Int64 → mz_X → Prop) (F : mz_F p s m args meth c prog_9_method_17_code 9 y_Tc_inverse.cls (some .long) w_Tc_inverse) (hA : ∀ q, s.heap.size ≤ q → A q) : mz_All (mz_V p l e (mz_rm 1 24) s m args below meth c 9 lay.length (mz_sz lay) D mz_cls (mz_G0 ad0 cA0) A (MQ below (va_Ql Q (mz_B D mz_cls ad0 cA0 lay A) A) args s 0 0 A)) (mz_ql lay Q) (I_Tc_inverse w h) := by
  obtain ⟨hx, hb, hml, hown, hts, hr, hlk⟩ := F
  unfold I_Tc_inverse
  refine mz_All.cons (sd_lconst hx hb (mz_dg d_Tc_inverse 0 0 (.lconst 1) 1 rfl) (by decide)) ?_
  refine mz_All.cons (sd_lstore_n hx hb (mz_dg d_Tc_inverse 1 1 (.lstore_n 3) 1 rfl) rfl (by decide)) ?_
  refine mz_All.cons (sd_lload_n hx hb (mz_dg d_Tc_inverse 2 2 (.lload_n 1) 1 rfl) rfl) ?_
  refine mz_All.cons (sd_lstore hx hb (mz_dg d_Tc_inverse 3 3 (.lstore 5) 2 rfl) (by decide)) ?_
  refine mz_All.cons (sd_aload_n hx hb (mz_dg d_Tc_inverse 4 5 (.aload_n 0) 1 rfl) rfl) ?_
  refine mz_All.cons (sd_get (k := 6) hx hb hts (mz_inC in_Tc) hown (T := T_Tc) (N := 7) rfl (by decide) (hts (.fieldLink "MazeForms$TreeCount" 43 "MazeForms$TreeCount" "prime" "J") (List.mem_cons_of_mem _ wm_291)) (fun _ h => h) (mz_dg d_Tc_inverse 5 6 (.getfield 43) 3 rfl)) ?_
  refine mz_All.cons (sd_ldc2 hx hb hown (hts _ (List.mem_cons_of_mem _ wm_636)) (mz_dg d_Tc_inverse 6 9 (.ldc2_w 39) 3 rfl)) ?_
  refine mz_All.cons (sd_lsub hx hb (mz_dg d_Tc_inverse 7 12 (.lsub) 1 rfl)) ?_
  refine mz_All.cons (sd_lstore hx hb (mz_dg d_Tc_inverse 8 13 (.lstore 7) 2 rfl) (by decide)) ?_
  refine mz_All.cons (sd_lload hx hb (mz_dg d_Tc_inverse 9 15 (.lload 7) 2 rfl)) ?_
  refine mz_All.cons (sd_lconst hx hb (mz_dg d_Tc_inverse 10 17 (.lconst 0) 1 rfl) (by decide)) ?_
  refine mz_All.cons (sd_lcmp hx hb (mz_dg d_Tc_inverse 11 18 (.lcmp) 1 rfl)) ?_
  refine mz_All.cons (sd_if_le hx hb (mz_dg d_Tc_inverse 12 19 (.ifCond .le (39)) 3 rfl) (by decide)) ?_
  refine mz_All.cons (sd_lload hx hb (mz_dg d_Tc_inverse 13 22 (.lload 7) 2 rfl)) ?_
  refine mz_All.cons (sd_lconst hx hb (mz_dg d_Tc_inverse 14 24 (.lconst 1) 1 rfl) (by decide)) ?_
  refine mz_All.cons (sd_land hx hb (mz_dg d_Tc_inverse 15 25 (.land) 1 rfl)) ?_
  refine mz_All.cons (sd_lconst hx hb (mz_dg d_Tc_inverse 16 26 (.lconst 1) 1 rfl) (by decide)) ?_
  refine mz_All.cons (sd_lcmp hx hb (mz_dg d_Tc_inverse 17 27 (.lcmp) 1 rfl)) ?_
  refine mz_All.cons (sd_if_ne hx hb (mz_dg d_Tc_inverse 18 28 (.ifCond .ne (11)) 3 rfl) (by decide)) ?_
  refine mz_All.cons (sd_aload_n hx hb (mz_dg d_Tc_inverse 19 31 (.aload_n 0) 1 rfl) rfl) ?_
  refine mz_All.cons (sd_lload_n hx hb (mz_dg d_Tc_inverse 20 32 (.lload_n 3) 1 rfl) rfl) ?_
  refine mz_All.cons (sd_lload hx hb (mz_dg d_Tc_inverse 21 33 (.lload 5) 2 rfl)) ?_
  refine mz_All.cons (sd_calll (T := T_Tc) ⟨hx, hb, hml, hown, hts⟩ (met_Tc_times w h l) (cwV 2 hts (mz_gV wm_691 wm_693 wm_35 wm_76 wm_694) rfl rfl rfl (by decide) ⟨by decide, by decide⟩) rfl hA rfl (mz_dg d_Tc_inverse 22 35 (.invokevirtual 105) 3 rfl)) ?_
  refine mz_All.cons (sd_lstore_n hx hb (mz_dg d_Tc_inverse 23 38 (.lstore_n 3) 1 rfl) rfl (by decide)) ?_
  refine mz_All.cons (sd_aload_n hx hb (mz_dg d_Tc_inverse 24 39 (.aload_n 0) 1 rfl) rfl) ?_
  refine mz_All.cons (sd_lload hx hb (mz_dg d_Tc_inverse 25 40 (.lload 5) 2 rfl)) ?_
  refine mz_All.cons (sd_lload hx hb (mz_dg d_Tc_inverse 26 42 (.lload 5) 2 rfl)) ?_
  refine mz_All.cons (sd_calll (T := T_Tc) ⟨hx, hb, hml, hown, hts⟩ (met_Tc_times w h l) (cwV 2 hts (mz_gV wm_691 wm_693 wm_35 wm_76 wm_694) rfl rfl rfl (by decide) ⟨by decide, by decide⟩) rfl hA rfl (mz_dg d_Tc_inverse 27 44 (.invokevirtual 105) 3 rfl)) ?_
  refine mz_All.cons (sd_lstore hx hb (mz_dg d_Tc_inverse 28 47 (.lstore 5) 2 rfl) (by decide)) ?_
  refine mz_All.cons (sd_lload hx hb (mz_dg d_Tc_inverse 29 49 (.lload 7) 2 rfl)) ?_
  refine mz_All.cons (sd_iconst hx hb (mz_dg d_Tc_inverse 30 51 (.iconst (1)) 1 rfl) (by decide)) ?_
  refine mz_All.cons (sd_lshr hx hb (mz_dg d_Tc_inverse 31 52 (.lshr) 1 rfl)) ?_
  refine mz_All.cons (sd_lstore hx hb (mz_dg d_Tc_inverse 32 53 (.lstore 7) 2 rfl) (by decide)) ?_
  refine mz_All.cons (sd_goto hx hb (mz_dg d_Tc_inverse 33 55 (.goto (-40)) 3 rfl) (by decide)) ?_
  refine mz_All.cons (sd_lload_n hx hb (mz_dg d_Tc_inverse 34 58 (.lload_n 3) 1 rfl) rfl) ?_
  refine mz_All.cons (sd_rl hx hb hr hlk (mz_dg d_Tc_inverse 35 59 (.lreturn) 1 rfl)) ?_
  exact trivial
theorem met_Tc_inverse (w h : Nat) (l : Launch) : mz_ML l y_Tc_inverse w_Tc_inverse 1 24 mz_cls (C_Tc_inverse w h) := mz_ML_of (I_Tc_inverse w h) (by decide) rfl (len_Tc_inverse w h) (ok_Tc_inverse w h) (snd_Tc_inverse w h l)
