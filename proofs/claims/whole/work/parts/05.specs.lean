/-- the layout behind both constructors, for a grid of w times h: the class's places 0 to 22, the reference's from 23 on -/
abbrev mz_dn (w h : Nat) : Nat := (w - 1) * h + w * (h - 1)
def mz_lay (w h : Nat) : List mz_E := [
  .inr (8, [4, 10, 15, 21, 23]),
  .inr (3, [0, 0, 5, 6, 7, 8, 9, 0, 0]), .inl (0, 1, w * h), .inl (1, 0, 4 * (w * h)), .inl (2, 0, mz_dn w h), .inl (3, 0, mz_dn w h), .inl (4, 1, mz_dn w h),
  .inr (4, [4, 11]), .inl (5, 0, w * h),
  .inr (2, [4, 13, 14, 0]), .inl (6, 0, w * h), .inl (7, 0, w * h),
  .inr (5, [4, 10, 12, 17, 19, 20, 0]), .inr (0, [1]), .inr (1, [16, 18, 0]), .inl (8, 0, mz_dn w h), .inl (9, 1, w * h), .inl (10, 0, w * h),
  .inr (6, [4, 12, 22, 0, 0]), .inl (11, 0, w * h),
  .inr (7, [4, 0, 0, 24, 25, 0, 1]), .inl (12, 0, w * h), .inl (13, 2, w * h * (3 * w + 1)),
  .inr (9, [0, 0, 0, 1, 27, 0, 28, 29, 30, 31, 32, 33, 34, 0, 35, 0, 36, 37, 38]), .inl (14, 1, 144), .inl (15, 0, 288), .inl (16, 0, 288), .inl (17, 1, 288), .inl (18, 1, 144), .inl (19, 0, 144), .inl (20, 0, 144), .inl (21, 0, 144), .inl (22, 0, 288), .inl (23, 0, 144), .inl (24, 0, 144), .inl (25, 2, 20736)]
/-- a boolean as the machine has it -/
def mz_b (b : Bool) : Int32 := match b with
  | true => 1
  | false => 0
theorem mz_b_01 (b : Bool) : mz_b b = 0 ∨ mz_b b = 1 := by cases b <;> simp [mz_b]
/-- is x the number of one of N things -/
def mz_lt (x : Int32) (N : Nat) : Bool := !decide (x < 0) && !decide (nI N ≤ x)
def mz_geo (w h : Nat) : Prop := 1 ≤ w ∧ w ≤ 12 ∧ 1 ≤ h ∧ h ≤ 12
/-- is x a door's number -/
def gr_door (w h : Nat) (X : mz_X) (x : Int32) : Bool := !decide (x < 0) && !decide (X.1 1 7 ≤ x) && !decide (nI (mz_dn w h) ≤ x)
def gr_open (w h : Nat) (X : mz_X) (x : Int32) : Bool := gr_door w h X x && !decide (X.1 6 x.toNatClampNeg = 0)
def gr_free (w h : Nat) (X : mz_X) (x : Int32) : Bool := mz_lt x (w * h) && decide (X.1 2 x.toNatClampNeg = 0)
def gr_at (X : mz_X) (x y : Int32) : Int32 := if (!decide (x < 0) && !decide (X.1 1 0 ≤ x) && !decide (y < 0) && !decide (X.1 1 1 ≤ y)) = true then x + X.1 1 0 * y else -1
def gr_on (w h : Nat) (X : mz_X) (c s : Int32) : Int32 := if (mz_lt c (w * h) && !decide (s < 0) && !decide (4 ≤ s)) = true then X.1 3 (4 * c + s).toNatClampNeg else -1
def gr_les (w h : Nat) (X : mz_X) (d : Int32) : Int32 := if gr_door w h X d = true then X.1 4 d.toNatClampNeg else -1
def gr_gre (w h : Nat) (X : mz_X) (d : Int32) : Int32 := if gr_door w h X d = true then X.1 5 d.toNatClampNeg else -1
def gr_oth (w h : Nat) (X : mz_X) (d c : Int32) : Int32 := if gr_door w h X d = true then (if X.1 4 d.toNatClampNeg = c then X.1 5 d.toNatClampNeg else X.1 4 d.toNatClampNeg) else -1
def C_Gr_width (w h : Nat) : mz_CI := fun lay as X Q => match as with
  | [.ref 1] => lay = mz_lay w h ∧ mz_geo w h ∧ Q (X.1 1 0) X
  | _ => False
def C_Gr_cellCount (w h : Nat) : mz_CI := fun lay as X Q => match as with
  | [.ref 1] => lay = mz_lay w h ∧ mz_geo w h ∧ Q (nI (w * h)) X
  | _ => False
def C_Gr_mostDoors (w h : Nat) : mz_CI := fun lay as X Q => match as with
  | [.ref 1] => lay = mz_lay w h ∧ mz_geo w h ∧ Q (nI (mz_dn w h)) X
  | _ => False
def C_Gr_doorCount (w h : Nat) : mz_CI := fun lay as X Q => match as with
  | [.ref 1] => lay = mz_lay w h ∧ mz_geo w h ∧ Q (X.1 1 7) X
  | _ => False
def C_Gr_edition (w h : Nat) : mz_CI := fun lay as X Q => match as with
  | [.ref 1] => lay = mz_lay w h ∧ mz_geo w h ∧ Q (X.1 1 8) X
  | _ => False
def C_Gr_cellAt (w h : Nat) : mz_CI := fun lay as X Q => match as with
  | [.ref 1, .int x, .int y] => lay = mz_lay w h ∧ mz_geo w h ∧ Q (gr_at X x y) X
  | _ => False
def C_Gr_isCell (w h : Nat) : mz_CI := fun lay as X Q => match as with
  | [.ref 1, .int x] => lay = mz_lay w h ∧ mz_geo w h ∧ Q (mz_b (mz_lt x (w * h))) X
  | _ => False
def C_Gr_isFree (w h : Nat) : mz_CI := fun lay as X Q => match as with
  | [.ref 1, .int x] => lay = mz_lay w h ∧ mz_geo w h ∧ Q (mz_b (gr_free w h X x)) X
  | _ => False
def C_Gr_isDoor (w h : Nat) : mz_CI := fun lay as X Q => match as with
  | [.ref 1, .int x] => lay = mz_lay w h ∧ mz_geo w h ∧ Q (mz_b (gr_door w h X x)) X
  | _ => False
def C_Gr_isOpen (w h : Nat) : mz_CI := fun lay as X Q => match as with
  | [.ref 1, .int x] => lay = mz_lay w h ∧ mz_geo w h ∧ Q (mz_b (gr_open w h X x)) X
  | _ => False
def C_Gr_doorOn (w h : Nat) : mz_CI := fun lay as X Q => match as with
  | [.ref 1, .int c, .int s] => lay = mz_lay w h ∧ mz_geo w h ∧ Q (gr_on w h X c s) X
  | _ => False
def C_Gr_lesserCell (w h : Nat) : mz_CI := fun lay as X Q => match as with
  | [.ref 1, .int d] => lay = mz_lay w h ∧ mz_geo w h ∧ Q (gr_les w h X d) X
  | _ => False
def C_Gr_greaterCell (w h : Nat) : mz_CI := fun lay as X Q => match as with
  | [.ref 1, .int d] => lay = mz_lay w h ∧ mz_geo w h ∧ Q (gr_gre w h X d) X
  | _ => False
def C_Gr_otherCell (w h : Nat) : mz_CI := fun lay as X Q => match as with
  | [.ref 1, .int d, .int c] => lay = mz_lay w h ∧ mz_geo w h ∧ Q (gr_oth w h X d c) X
  | _ => False
def I_Gr_width (w h : Nat) : List (Nat × mz_Op) := [(0, mz_lda 0 1), (1, mz_gf 3 0 4), (4, mz_ri)]
def I_Gr_cellCount (w h : Nat) : List (Nat × mz_Op) := [(0, mz_lda 0 1), (1, mz_gf 3 2 4), (4, mz_al 5), (5, mz_ri)]
def I_Gr_mostDoors (w h : Nat) : List (Nat × mz_Op) := [(0, mz_lda 0 1), (1, mz_gf 3 6 4), (4, mz_al 5), (5, mz_ri)]
def I_Gr_doorCount (w h : Nat) : List (Nat × mz_Op) := [(0, mz_lda 0 1), (1, mz_gf 3 7 4), (4, mz_ri)]
def I_Gr_edition (w h : Nat) : List (Nat × mz_Op) := [(0, mz_lda 0 1), (1, mz_gf 3 8 4), (4, mz_ri)]
def I_Gr_isCell (w h : Nat) : List (Nat × mz_Op) := [(0, mz_ldi 1 1), (1, mz_if (fun x => x < 0) 17 4), (4, mz_ldi 1 5), (5, mz_lda 0 6), (6, mz_gf 3 2 9), (9, mz_al 10), (10, mz_ic (fun x y => y ≤ x) 17 13), (13, mz_push (.int (1)) 14), (14, mz_go 18), (17, mz_push (.int (0)) 18), (18, mz_rz)]
def I_Gr_isFree (w h : Nat) : List (Nat × mz_Op) := [(0, mz_lda 0 1), (1, mz_ldi 1 2), (2, mz_ci 2 3 (C_Gr_isCell w h) 5), (5, mz_if (fun x => x = 0) 21 8), (8, mz_lda 0 9), (9, mz_gf 3 2 12), (12, mz_ldi 1 13), (13, mz_iald 1 14), (14, mz_if (fun x => x = 0) 17 21), (17, mz_push (.int (1)) 18), (18, mz_go 22), (21, mz_push (.int (0)) 22), (22, mz_rz)]
def I_Gr_isDoor (w h : Nat) : List (Nat × mz_Op) := [(0, mz_ldi 1 1), (1, mz_if (fun x => x < 0) 25 4), (4, mz_ldi 1 5), (5, mz_lda 0 6), (6, mz_gf 3 7 9), (9, mz_ic (fun x y => y ≤ x) 25 12), (12, mz_ldi 1 13), (13, mz_lda 0 14), (14, mz_gf 3 6 17), (17, mz_al 18), (18, mz_ic (fun x y => y ≤ x) 25 21), (21, mz_push (.int (1)) 22), (22, mz_go 26), (25, mz_push (.int (0)) 26), (26, mz_rz)]
def I_Gr_isOpen (w h : Nat) : List (Nat × mz_Op) := [(0, mz_lda 0 1), (1, mz_ldi 1 2), (2, mz_ci 2 3 (C_Gr_isDoor w h) 5), (5, mz_if (fun x => x = 0) 21 8), (8, mz_lda 0 9), (9, mz_gf 3 6 12), (12, mz_ldi 1 13), (13, mz_iald 1 14), (14, mz_if (fun x => x = 0) 21 17), (17, mz_push (.int (1)) 18), (18, mz_go 22), (21, mz_push (.int (0)) 22), (22, mz_rz)]
def I_Gr_lesserCell (w h : Nat) : List (Nat × mz_Op) := [(0, mz_lda 0 1), (1, mz_ldi 1 2), (2, mz_ci 2 3 (C_Gr_isDoor w h) 5), (5, mz_if (fun x => x = 0) 17 8), (8, mz_lda 0 9), (9, mz_gf 3 4 12), (12, mz_ldi 1 13), (13, mz_iald 0 14), (14, mz_go 18), (17, mz_push (.int (-1)) 18), (18, mz_ri)]
def I_Gr_greaterCell (w h : Nat) : List (Nat × mz_Op) := [(0, mz_lda 0 1), (1, mz_ldi 1 2), (2, mz_ci 2 3 (C_Gr_isDoor w h) 5), (5, mz_if (fun x => x = 0) 17 8), (8, mz_lda 0 9), (9, mz_gf 3 5 12), (12, mz_ldi 1 13), (13, mz_iald 0 14), (14, mz_go 18), (17, mz_push (.int (-1)) 18), (18, mz_ri)]
def I_Gr_cellAt (w h : Nat) : List (Nat × mz_Op) := [(0, mz_ldi 1 1), (1, mz_if (fun x => x < 0) 28 4), (4, mz_ldi 1 5), (5, mz_lda 0 6), (6, mz_gf 3 0 9), (9, mz_ic (fun x y => y ≤ x) 28 12), (12, mz_ldi 2 13), (13, mz_if (fun x => x < 0) 28 16), (16, mz_ldi 2 17), (17, mz_lda 0 18), (18, mz_gf 3 1 21), (21, mz_ic (fun x y => y ≤ x) 28 24), (24, mz_push (.int (1)) 25), (25, mz_go 29), (28, mz_push (.int (0)) 29), (29, mz_sti 3 30), (30, mz_ldi 3 31), (31, mz_if (fun x => x = 0) 45 34), (34, mz_ldi 1 35), (35, mz_lda 0 36), (36, mz_gf 3 0 39), (39, mz_ldi 2 40), (40, mz_bi (fun x y => x * y) 41), (41, mz_bi (fun x y => x + y) 42), (42, mz_go 46), (45, mz_push (.int (-1)) 46), (46, mz_ri)]
def I_Gr_doorOn (w h : Nat) : List (Nat × mz_Op) := [(0, mz_lda 0 1), (1, mz_ldi 1 2), (2, mz_ci 2 3 (C_Gr_isCell w h) 5), (5, mz_if (fun x => x = 0) 21 8), (8, mz_ldi 2 9), (9, mz_if (fun x => x < 0) 21 12), (12, mz_ldi 2 13), (13, mz_push (.int (4)) 14), (14, mz_ic (fun x y => y ≤ x) 21 17), (17, mz_push (.int (1)) 18), (18, mz_go 22), (21, mz_push (.int (0)) 22), (22, mz_sti 3 23), (23, mz_ldi 3 24), (24, mz_if (fun x => x = 0) 40 27), (27, mz_lda 0 28), (28, mz_gf 3 3 31), (31, mz_push (.int (4)) 32), (32, mz_ldi 1 33), (33, mz_bi (fun x y => x * y) 34), (34, mz_ldi 2 35), (35, mz_bi (fun x y => x + y) 36), (36, mz_iald 0 37), (37, mz_go 41), (40, mz_push (.int (-1)) 41), (41, mz_ri)]
def I_Gr_otherCell (w h : Nat) : List (Nat × mz_Op) := [(0, mz_lda 0 1), (1, mz_ldi 1 2), (2, mz_ci 2 3 (C_Gr_isDoor w h) 5), (5, mz_if (fun x => x = 0) 8 10), (8, mz_push (.int (-1)) 9), (9, mz_ri), (10, mz_lda 0 11), (11, mz_gf 3 4 14), (14, mz_ldi 1 15), (15, mz_iald 0 16), (16, mz_ldi 2 17), (17, mz_ic (fun x y => x = y) 20 29), (20, mz_lda 0 21), (21, mz_gf 3 5 24), (24, mz_ldi 1 25), (25, mz_iald 0 26), (26, mz_go 35), (29, mz_lda 0 30), (30, mz_gf 3 4 33), (33, mz_ldi 1 34), (34, mz_iald 0 35), (35, mz_ri)]
