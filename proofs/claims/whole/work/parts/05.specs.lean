/-- the layout behind both constructors, for a grid of w times h: the class's places 0 to 22, the reference's from 23 on -/
abbrev mz_dn (w h : Nat) : Nat := (w - 1) * h + w * (h - 1)
def mz_lay (w h : Nat) : List mz_E := [
  .inr (8, [4, 10, 15, 21, 23]),
  .inr (3, [0, 0, 5, 6, 7, 8, 9, 0, 0]), .inl (0, 1, w * h), .inl (1, 0, 4 * (w * h)), .inl (2, 0, mz_dn w h), .inl (3, 0, mz_dn w h), .inl (4, 1, mz_dn w h),
  .inr (4, [4, 11]), .inl (5, 0, w * h),
  .inr (2, [4, 13, 14, 0]), .inl (6, 0, w * h), .inl (7, 0, w * h),
  .inr (5, [4, 10, 12, 17, 19, 20, 0]), .inr (0, [1]), .inr (1, [16, 18, 0]), .inl (8, 0, mz_dn w h), .inl (9, 1, w * h), .inl (10, 0, w * h),
  .inr (6, [4, 12, 22, 0, 0]), .inl (11, 0, w * h),
  .inr (7, [4, 0, 0, 24, 25, 0, 1]), .inl (12, 0, w * h), .inl (13, 2, w * h * (3 * w + 1)),
  .inr (9, [0, 0, 0, 1, 27, 0, 28, 29, 30, 31, 32, 33, 34, 0, 35, 0, 36, 37, 38]), .inl (14, 1, 144), .inl (15, 0, 288), .inl (16, 0, 288), .inl (17, 1, 288), .inl (18, 1, 144), .inl (19, 0, 144), .inl (20, 0, 144), .inl (21, 0, 144), .inl (22, 0, 288), .inl (23, 0, 144), .inl (24, 0, 144), .inl (25, 2, 20736)]
/-- a boolean as the machine has it -/
def mz_b (b : Bool) : Int32 := match b with
  | true => 1
  | false => 0
theorem mz_b_01 (b : Bool) : mz_b b = 0 ∨ mz_b b = 1 := by cases b <;> simp [mz_b]
/-- is x the number of one of N things -/
def mz_lt (x : Int32) (N : Nat) : Bool := !decide (x < 0) && !decide (nI N ≤ x)
def mz_geo (w h : Nat) : Prop := 1 ≤ w ∧ w ≤ 12 ∧ 1 ≤ h ∧ h ≤ 12
/-- is x a door's number -/
def zg_door (w h : Nat) (X : mz_X) (x : Int32) : Bool := !decide (x < 0) && !decide (X.1 1 7 ≤ x) && !decide (nI (mz_dn w h) ≤ x)
def zg_open (w h : Nat) (X : mz_X) (x : Int32) : Bool := zg_door w h X x && !decide (X.1 6 x.toNatClampNeg = 0)
def zg_free (w h : Nat) (X : mz_X) (x : Int32) : Bool := mz_lt x (w * h) && decide (X.1 2 x.toNatClampNeg = 0)
def zg_at (X : mz_X) (x y : Int32) : Int32 := if (!decide (x < 0) && !decide (X.1 1 0 ≤ x) && !decide (y < 0) && !decide (X.1 1 1 ≤ y)) = true then x + X.1 1 0 * y else -1
def zg_on (w h : Nat) (X : mz_X) (c s : Int32) : Int32 := if (mz_lt c (w * h) && !decide (s < 0) && !decide (4 ≤ s)) = true then X.1 3 (4 * c + s).toNatClampNeg else -1
def zg_les (w h : Nat) (X : mz_X) (d : Int32) : Int32 := if zg_door w h X d = true then X.1 4 d.toNatClampNeg else -1
def zg_gre (w h : Nat) (X : mz_X) (d : Int32) : Int32 := if zg_door w h X d = true then X.1 5 d.toNatClampNeg else -1
def zg_oth (w h : Nat) (X : mz_X) (d c : Int32) : Int32 := if zg_door w h X d = true then (if X.1 4 d.toNatClampNeg = c then X.1 5 d.toNatClampNeg else X.1 4 d.toNatClampNeg) else -1
def C_Gr_width (w h : Nat) : mz_CI := fun lay as X Q => match as with
  | [.ref 1] => lay = mz_lay w h ∧ mz_geo w h ∧ Q (X.1 1 0) X
  | _ => False
def C_Gr_cellCount (w h : Nat) : mz_CI := fun lay as X Q => match as with
  | [.ref 1] => lay = mz_lay w h ∧ mz_geo w h ∧ Q (nI (w * h)) X
  | _ => False
def C_Gr_mostDoors (w h : Nat) : mz_CI := fun lay as X Q => match as with
  | [.ref 1] => lay = mz_lay w h ∧ mz_geo w h ∧ Q (nI (mz_dn w h)) X
  | _ => False
def C_Gr_doorCount (w h : Nat) : mz_CI := fun lay as X Q => match as with
  | [.ref 1] => lay = mz_lay w h ∧ mz_geo w h ∧ Q (X.1 1 7) X
  | _ => False
def C_Gr_edition (w h : Nat) : mz_CI := fun lay as X Q => match as with
  | [.ref 1] => lay = mz_lay w h ∧ mz_geo w h ∧ Q (X.1 1 8) X
  | _ => False
def C_Gr_cellAt (w h : Nat) : mz_CI := fun lay as X Q => match as with
  | [.ref 1, .int x, .int y] => lay = mz_lay w h ∧ mz_geo w h ∧ Q (zg_at X x y) X
  | _ => False
def C_Gr_isCell (w h : Nat) : mz_CI := fun lay as X Q => match as with
  | [.ref 1, .int x] => lay = mz_lay w h ∧ mz_geo w h ∧ Q (mz_b (mz_lt x (w * h))) X
  | _ => False
def C_Gr_isFree (w h : Nat) : mz_CI := fun lay as X Q => match as with
  | [.ref 1, .int x] => lay = mz_lay w h ∧ mz_geo w h ∧ Q (mz_b (zg_free w h X x)) X
  | _ => False
def C_Gr_isDoor (w h : Nat) : mz_CI := fun lay as X Q => match as with
  | [.ref 1, .int x] => lay = mz_lay w h ∧ mz_geo w h ∧ Q (mz_b (zg_door w h X x)) X
  | _ => False
def C_Gr_isOpen (w h : Nat) : mz_CI := fun lay as X Q => match as with
  | [.ref 1, .int x] => lay = mz_lay w h ∧ mz_geo w h ∧ Q (mz_b (zg_open w h X x)) X
  | _ => False
def C_Gr_doorOn (w h : Nat) : mz_CI := fun lay as X Q => match as with
  | [.ref 1, .int c, .int s] => lay = mz_lay w h ∧ mz_geo w h ∧ Q (zg_on w h X c s) X
  | _ => False
def C_Gr_lesserCell (w h : Nat) : mz_CI := fun lay as X Q => match as with
  | [.ref 1, .int d] => lay = mz_lay w h ∧ mz_geo w h ∧ Q (zg_les w h X d) X
  | _ => False
def C_Gr_greaterCell (w h : Nat) : mz_CI := fun lay as X Q => match as with
  | [.ref 1, .int d] => lay = mz_lay w h ∧ mz_geo w h ∧ Q (zg_gre w h X d) X
  | _ => False
def C_Gr_otherCell (w h : Nat) : mz_CI := fun lay as X Q => match as with
  | [.ref 1, .int d, .int c] => lay = mz_lay w h ∧ mz_geo w h ∧ Q (zg_oth w h X d c) X
  | _ => False
def I_Gr_width (w h : Nat) : List (Nat × mz_Op) := [(0, mz_lda 0 1), (1, mz_gf 3 0 4), (4, mz_ri)]
def I_Gr_cellCount (w h : Nat) : List (Nat × mz_Op) := [(0, mz_lda 0 1), (1, mz_gf 3 2 4), (4, mz_al 5), (5, mz_ri)]
def I_Gr_mostDoors (w h : Nat) : List (Nat × mz_Op) := [(0, mz_lda 0 1), (1, mz_gf 3 6 4), (4, mz_al 5), (5, mz_ri)]
def I_Gr_doorCount (w h : Nat) : List (Nat × mz_Op) := [(0, mz_lda 0 1), (1, mz_gf 3 7 4), (4, mz_ri)]
def I_Gr_edition (w h : Nat) : List (Nat × mz_Op) := [(0, mz_lda 0 1), (1, mz_gf 3 8 4), (4, mz_ri)]
def I_Gr_isCell (w h : Nat) : List (Nat × mz_Op) := [(0, mz_ldi 1 1), (1, mz_if (fun x => x < 0) 17 4), (4, mz_ldi 1 5), (5, mz_lda 0 6), (6, mz_gf 3 2 9), (9, mz_al 10), (10, mz_ic (fun x y => y ≤ x) 17 13), (13, mz_push (.int (1)) 14), (14, mz_go 18), (17, mz_push (.int (0)) 18), (18, mz_rz)]
def I_Gr_isFree (w h : Nat) : List (Nat × mz_Op) := [(0, mz_lda 0 1), (1, mz_ldi 1 2), (2, mz_ci 2 3 (C_Gr_isCell w h) 5), (5, mz_if (fun x => x = 0) 21 8), (8, mz_lda 0 9), (9, mz_gf 3 2 12), (12, mz_ldi 1 13), (13, mz_iald 1 14), (14, mz_if (fun x => x = 0) 17 21), (17, mz_push (.int (1)) 18), (18, mz_go 22), (21, mz_push (.int (0)) 22), (22, mz_rz)]
def I_Gr_isDoor (w h : Nat) : List (Nat × mz_Op) := [(0, mz_ldi 1 1), (1, mz_if (fun x => x < 0) 25 4), (4, mz_ldi 1 5), (5, mz_lda 0 6), (6, mz_gf 3 7 9), (9, mz_ic (fun x y => y ≤ x) 25 12), (12, mz_ldi 1 13), (13, mz_lda 0 14), (14, mz_gf 3 6 17), (17, mz_al 18), (18, mz_ic (fun x y => y ≤ x) 25 21), (21, mz_push (.int (1)) 22), (22, mz_go 26), (25, mz_push (.int (0)) 26), (26, mz_rz)]
def I_Gr_isOpen (w h : Nat) : List (Nat × mz_Op) := [(0, mz_lda 0 1), (1, mz_ldi 1 2), (2, mz_ci 2 3 (C_Gr_isDoor w h) 5), (5, mz_if (fun x => x = 0) 21 8), (8, mz_lda 0 9), (9, mz_gf 3 6 12), (12, mz_ldi 1 13), (13, mz_iald 1 14), (14, mz_if (fun x => x = 0) 21 17), (17, mz_push (.int (1)) 18), (18, mz_go 22), (21, mz_push (.int (0)) 22), (22, mz_rz)]
def I_Gr_lesserCell (w h : Nat) : List (Nat × mz_Op) := [(0, mz_lda 0 1), (1, mz_ldi 1 2), (2, mz_ci 2 3 (C_Gr_isDoor w h) 5), (5, mz_if (fun x => x = 0) 17 8), (8, mz_lda 0 9), (9, mz_gf 3 4 12), (12, mz_ldi 1 13), (13, mz_iald 0 14), (14, mz_go 18), (17, mz_push (.int (-1)) 18), (18, mz_ri)]
def I_Gr_greaterCell (w h : Nat) : List (Nat × mz_Op) := [(0, mz_lda 0 1), (1, mz_ldi 1 2), (2, mz_ci 2 3 (C_Gr_isDoor w h) 5), (5, mz_if (fun x => x = 0) 17 8), (8, mz_lda 0 9), (9, mz_gf 3 5 12), (12, mz_ldi 1 13), (13, mz_iald 0 14), (14, mz_go 18), (17, mz_push (.int (-1)) 18), (18, mz_ri)]
def I_Gr_cellAt (w h : Nat) : List (Nat × mz_Op) := [(0, mz_ldi 1 1), (1, mz_if (fun x => x < 0) 28 4), (4, mz_ldi 1 5), (5, mz_lda 0 6), (6, mz_gf 3 0 9), (9, mz_ic (fun x y => y ≤ x) 28 12), (12, mz_ldi 2 13), (13, mz_if (fun x => x < 0) 28 16), (16, mz_ldi 2 17), (17, mz_lda 0 18), (18, mz_gf 3 1 21), (21, mz_ic (fun x y => y ≤ x) 28 24), (24, mz_push (.int (1)) 25), (25, mz_go 29), (28, mz_push (.int (0)) 29), (29, mz_sti 3 30), (30, mz_ldi 3 31), (31, mz_if (fun x => x = 0) 45 34), (34, mz_ldi 1 35), (35, mz_lda 0 36), (36, mz_gf 3 0 39), (39, mz_ldi 2 40), (40, mz_bi (fun x y => x * y) 41), (41, mz_bi (fun x y => x + y) 42), (42, mz_go 46), (45, mz_push (.int (-1)) 46), (46, mz_ri)]
def I_Gr_doorOn (w h : Nat) : List (Nat × mz_Op) := [(0, mz_lda 0 1), (1, mz_ldi 1 2), (2, mz_ci 2 3 (C_Gr_isCell w h) 5), (5, mz_if (fun x => x = 0) 21 8), (8, mz_ldi 2 9), (9, mz_if (fun x => x < 0) 21 12), (12, mz_ldi 2 13), (13, mz_push (.int (4)) 14), (14, mz_ic (fun x y => y ≤ x) 21 17), (17, mz_push (.int (1)) 18), (18, mz_go 22), (21, mz_push (.int (0)) 22), (22, mz_sti 3 23), (23, mz_ldi 3 24), (24, mz_if (fun x => x = 0) 40 27), (27, mz_lda 0 28), (28, mz_gf 3 3 31), (31, mz_push (.int (4)) 32), (32, mz_ldi 1 33), (33, mz_bi (fun x y => x * y) 34), (34, mz_ldi 2 35), (35, mz_bi (fun x y => x + y) 36), (36, mz_iald 0 37), (37, mz_go 41), (40, mz_push (.int (-1)) 41), (41, mz_ri)]
def I_Gr_otherCell (w h : Nat) : List (Nat × mz_Op) := [(0, mz_lda 0 1), (1, mz_ldi 1 2), (2, mz_ci 2 3 (C_Gr_isDoor w h) 5), (5, mz_if (fun x => x = 0) 8 10), (8, mz_push (.int (-1)) 9), (9, mz_ri), (10, mz_lda 0 11), (11, mz_gf 3 4 14), (14, mz_ldi 1 15), (15, mz_iald 0 16), (16, mz_ldi 2 17), (17, mz_ic (fun x y => x = y) 20 29), (20, mz_lda 0 21), (21, mz_gf 3 5 24), (24, mz_ldi 1 25), (25, mz_iald 0 26), (26, mz_go 35), (29, mz_lda 0 30), (30, mz_gf 3 4 33), (33, mz_ldi 1 34), (34, mz_iald 0 35), (35, mz_ri)]
/-- how many of the first n there are -/
def mz_cnt (f : Nat → Bool) (n : Nat) : Nat := match n with
  | 0 => 0
  | k + 1 => mz_cnt f k + (match f k with
    | true => 1
    | false => 0)
/-- the first k places of row p are v -/
def mz_fil {α : Type} (f : Nat → Nat → α) (p k : Nat) (v : α) : Nat → Nat → α := fun a b => if a = p ∧ b < k then v else f a b
def zg_fre (X : mz_X) (c : Nat) : Bool := decide (X.1 2 c = 0)
/-- the least cell that is not masked, from i on -/
def zg_fst (X : mz_X) (n i : Nat) : Int32 := match n with
  | 0 => -1
  | k + 1 => match zg_fre X i with
    | true => nI i
    | false => zg_fst X k (i + 1)
def zg_closeX (w h : Nat) (X : mz_X) : mz_X := (mz_up (mz_fil X.1 6 (mz_dn w h) 0) 1 8 (X.1 1 8 + 1), X.2)
def zg_setX (X : mz_X) (d v : Int32) : mz_X := (mz_up (mz_up X.1 6 d.toNatClampNeg v) 1 8 (X.1 1 8 + 1), X.2)
def zg_setB (w h : Nat) (X : mz_X) (d v : Int32) : Bool := zg_door w h X d && !decide (X.1 6 d.toNatClampNeg = v)
/-- what addDoor does -/
def zg_addB (w h : Nat) (X : mz_X) (c o : Int32) : Bool := zg_free w h X c && zg_free w h X o && decide (X.1 1 7 < nI (mz_dn w h))
def zg_addX (X : mz_X) (c s o t : Int32) : mz_X := (mz_up (mz_up (mz_up (mz_up (mz_up X.1 4 (X.1 1 7).toNatClampNeg c) 5 (X.1 1 7).toNatClampNeg o) 3 (4 * c + s).toNatClampNeg (X.1 1 7)) 3 (4 * o + t).toNatClampNeg (X.1 1 7)) 1 7 (X.1 1 7 + 1), X.2)
def zg_add (w h : Nat) (X : mz_X) (c s o t : Int32) : mz_X := match zg_addB w h X c o with
  | true => zg_addX X c s o t
  | false => X
def C_Gr_freeCells (w h : Nat) : mz_CI := fun lay as X Q => match as with
  | [.ref 1] => lay = mz_lay w h ∧ mz_geo w h ∧ Q (nI (mz_cnt (zg_fre X) (w * h))) X
  | _ => False
def C_Gr_firstCell (w h : Nat) : mz_CI := fun lay as X Q => match as with
  | [.ref 1] => lay = mz_lay w h ∧ mz_geo w h ∧ Q (zg_fst X (w * h) 0) X
  | _ => False
def C_Gr_openDoors (w h : Nat) : mz_CI := fun lay as X Q => match as with
  | [.ref 1] => lay = mz_lay w h ∧ mz_geo w h ∧ ∃ D : Nat, D < 2 ^ 31 ∧ X.1 1 7 = nI D ∧ Q (nI (mz_cnt (fun i => zg_open w h X (nI i)) D)) X
  | _ => False
def C_Gr_openSides (w h : Nat) : mz_CI := fun lay as X Q => match as with
  | [.ref 1, .int c] => lay = mz_lay w h ∧ mz_geo w h ∧ Q (nI (mz_cnt (fun s => zg_open w h X (zg_on w h X c (nI s))) 4)) X
  | _ => False
def C_Gr_setDoor (w h : Nat) : mz_CI := fun lay as X Q => match as with
  | [.ref 1, .int d, .int v] => lay = mz_lay w h ∧ mz_geo w h ∧ (v = 0 ∨ v = 1) ∧ Q (mz_b (zg_setB w h X d v)) (match zg_setB w h X d v with
    | true => zg_setX X d v
    | false => X)
  | _ => False
def C_Gr_closeDoors (w h : Nat) : mz_CV := fun lay as X Q => match as with
  | [.ref 1] => lay = mz_lay w h ∧ mz_geo w h ∧ Q (zg_closeX w h X)
  | _ => False
def C_Gr_addDoor (w h : Nat) : mz_CV := fun lay as X Q => match as with
  | [.ref 1, .int c, .int s, .int o, .int t] => lay = mz_lay w h ∧ mz_geo w h ∧ (¬ X.1 1 7 < 0) ∧ (¬ s < 0 ∧ ¬ 4 ≤ s) ∧ (¬ t < 0 ∧ ¬ 4 ≤ t) ∧ Q (zg_add w h X c s o t)
  | _ => False
def I_Gr_freeCells (w h : Nat) : List (Nat × mz_Op) := [(0, mz_push (.int (0)) 1), (1, mz_sti 1 2), (2, mz_push (.int (0)) 3), (3, mz_sti 2 4), (4, mz_ldi 2 5), (5, mz_lda 0 6), (6, mz_gf 3 2 9), (9, mz_al 10), (10, mz_ic (fun x y => y ≤ x) 31 13), (13, mz_lda 0 14), (14, mz_gf 3 2 17), (17, mz_ldi 2 18), (18, mz_iald 1 19), (19, mz_if (fun x => x = 0) 22 25), (22, mz_inc 1 (1) 25), (25, mz_inc 2 (1) 28), (28, mz_go 4), (31, mz_ldi 1 32), (32, mz_ri)]
def I_Gr_firstCell (w h : Nat) : List (Nat × mz_Op) := [(0, mz_push (.int (0)) 1), (1, mz_sti 1 2), (2, mz_ldi 1 3), (3, mz_lda 0 4), (4, mz_gf 3 2 7), (7, mz_al 8), (8, mz_ic (fun x y => y ≤ x) 28 11), (11, mz_lda 0 12), (12, mz_gf 3 2 15), (15, mz_ldi 1 16), (16, mz_iald 1 17), (17, mz_if (fun x => x = 0) 20 22), (20, mz_ldi 1 21), (21, mz_ri), (22, mz_inc 1 (1) 25), (25, mz_go 2), (28, mz_push (.int (-1)) 29), (29, mz_ri)]
def I_Gr_openDoors (w h : Nat) : List (Nat × mz_Op) := [(0, mz_push (.int (0)) 1), (1, mz_sti 1 2), (2, mz_push (.int (0)) 3), (3, mz_sti 2 4), (4, mz_ldi 2 5), (5, mz_lda 0 6), (6, mz_gf 3 7 9), (9, mz_ic (fun x y => y ≤ x) 29 12), (12, mz_lda 0 13), (13, mz_ldi 2 14), (14, mz_ci 2 3 (C_Gr_isOpen w h) 17), (17, mz_if (fun x => x = 0) 23 20), (20, mz_inc 1 (1) 23), (23, mz_inc 2 (1) 26), (26, mz_go 4), (29, mz_ldi 1 30), (30, mz_ri)]
def I_Gr_openSides (w h : Nat) : List (Nat × mz_Op) := [(0, mz_push (.int (0)) 1), (1, mz_sti 2 2), (2, mz_push (.int (0)) 3), (3, mz_sti 3 4), (4, mz_ldi 3 5), (5, mz_push (.int (4)) 6), (6, mz_ic (fun x y => y ≤ x) 31 9), (9, mz_lda 0 10), (10, mz_lda 0 11), (11, mz_ldi 1 12), (12, mz_ldi 3 13), (13, mz_ci 3 3 (C_Gr_doorOn w h) 16), (16, mz_ci 2 3 (C_Gr_isOpen w h) 19), (19, mz_if (fun x => x = 0) 25 22), (22, mz_inc 2 (1) 25), (25, mz_inc 3 (1) 28), (28, mz_go 4), (31, mz_ldi 2 32), (32, mz_ri)]
def I_Gr_setDoor (w h : Nat) : List (Nat × mz_Op) := [(0, mz_lda 0 1), (1, mz_ldi 1 2), (2, mz_ci 2 3 (C_Gr_isDoor w h) 5), (5, mz_if (fun x => x = 0) 18 8), (8, mz_lda 0 9), (9, mz_gf 3 6 12), (12, mz_ldi 1 13), (13, mz_iald 1 14), (14, mz_ldi 2 15), (15, mz_ic (fun x y => x = y) 18 20), (18, mz_push (.int (0)) 19), (19, mz_rz), (20, mz_lda 0 21), (21, mz_gf 3 6 24), (24, mz_ldi 1 25), (25, mz_ldi 2 26), (26, mz_iast 1 27), (27, mz_lda 0 28), (28, mz_dup 29), (29, mz_gf 3 8 32), (32, mz_push (.int (1)) 33), (33, mz_bi (fun x y => x + y) 34), (34, mz_pfi 3 8 37), (37, mz_push (.int (1)) 38), (38, mz_rz)]
def I_Gr_closeDoors (w h : Nat) : List (Nat × mz_Op) := [(0, mz_push (.int (0)) 1), (1, mz_sti 1 2), (2, mz_ldi 1 3), (3, mz_lda 0 4), (4, mz_gf 3 6 7), (7, mz_al 8), (8, mz_ic (fun x y => y ≤ x) 24 11), (11, mz_lda 0 12), (12, mz_gf 3 6 15), (15, mz_ldi 1 16), (16, mz_push (.int (0)) 17), (17, mz_iast 1 18), (18, mz_inc 1 (1) 21), (21, mz_go 2), (24, mz_lda 0 25), (25, mz_dup 26), (26, mz_gf 3 8 29), (29, mz_push (.int (1)) 30), (30, mz_bi (fun x y => x + y) 31), (31, mz_pfi 3 8 34), (34, mz_rv)]
def I_Gr_addDoor (w h : Nat) : List (Nat × mz_Op) := [(0, mz_lda 0 1), (1, mz_ldi 1 2), (2, mz_ci 2 3 (C_Gr_isFree w h) 5), (5, mz_if (fun x => x = 0) 28 8), (8, mz_lda 0 9), (9, mz_ldi 3 10), (10, mz_ci 2 3 (C_Gr_isFree w h) 13), (13, mz_if (fun x => x = 0) 28 16), (16, mz_lda 0 17), (17, mz_gf 3 7 20), (20, mz_lda 0 21), (21, mz_gf 3 6 24), (24, mz_al 25), (25, mz_ic (fun x y => x < y) 29 28), (28, mz_rv), (29, mz_lda 0 30), (30, mz_gf 3 4 33), (33, mz_lda 0 34), (34, mz_gf 3 7 37), (37, mz_ldi 1 38), (38, mz_iast 0 39), (39, mz_lda 0 40), (40, mz_gf 3 5 43), (43, mz_lda 0 44), (44, mz_gf 3 7 47), (47, mz_ldi 3 48), (48, mz_iast 0 49), (49, mz_lda 0 50), (50, mz_gf 3 3 53), (53, mz_push (.int (4)) 54), (54, mz_ldi 1 55), (55, mz_bi (fun x y => x * y) 56), (56, mz_ldi 2 57), (57, mz_bi (fun x y => x + y) 58), (58, mz_lda 0 59), (59, mz_gf 3 7 62), (62, mz_iast 0 63), (63, mz_lda 0 64), (64, mz_gf 3 3 67), (67, mz_push (.int (4)) 68), (68, mz_ldi 3 69), (69, mz_bi (fun x y => x * y) 70), (70, mz_ldi 4 72), (72, mz_bi (fun x y => x + y) 73), (73, mz_lda 0 74), (74, mz_gf 3 7 77), (77, mz_iast 0 78), (78, mz_lda 0 79), (79, mz_dup 80), (80, mz_gf 3 7 83), (83, mz_push (.int (1)) 84), (84, mz_bi (fun x y => x + y) 85), (85, mz_pfi 3 7 88), (88, mz_rv)]
