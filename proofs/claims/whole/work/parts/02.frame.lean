/-! A PURE MEMORY AND A WALK OVER IT (the verifier's own words).
A layout entry: .inl (t, c, n) is an array, the t-th, of the type with code c (0 int, 1 boolean, 2 long, 3 byte, 4 char, 5 short), of length n; .inr (ci, ks) is an object of class number ci with field kinds ks: 0 an int, 1 a long, 2 null, t + 3 a reference to place t. -/
abbrev mz_E : Type := (Nat × Nat × Nat) ⊕ (Nat × List Nat)
abbrev mz_M : Type := List mz_E × (Nat → Nat → Int32) × (Nat → Nat → Int64)
abbrev mz_L : Type := List (Option Value)
abbrev mz_K : Type := Nat → mz_L → List Value → mz_M → Prop
abbrev mz_Q : Type := Option Value → mz_M → Prop
abbrev mz_Op : Type := mz_Q → mz_K → mz_L → List Value → mz_M → Prop
abbrev mz_PT : Type := List Value → mz_M → mz_Q → Prop
/-- places from here on are read only arrays outside of the layout: the script, static arrays -/
abbrev mz_ro0 : Nat := 1000000
def mz_cv (ad : Nat → Nat) (v : Value) : Value := match v with
  | .ref q => .ref (ad q)
  | w => w
def mz_up {α : Type} (f : Nat → Nat → α) (q k : Nat) (x : α) : Nat → Nat → α := fun a b => if a = q then (if b = k then x else f a b) else f a b
def mz_fv (ad : Nat → Nat) (M : mz_M) (q k kind : Nat) : Value := match kind with
  | 0 => .int (M.2.1 q k)
  | 1 => .long (M.2.2 q k)
  | 2 => .null
  | t + 3 => .ref (ad t)
def mz_ce (ad : Nat → Nat) (cA : Nat → ClassId) (M : mz_M) (q : Nat) (e : mz_E) : va_E := match e with
  | .inl (t, c, n) => .inl (cA t, n, match Nat.beq c 2 with
    | true => .inr (.inl (M.2.2 q))
    | false => .inl (M.2.1 q))
  | .inr (ci, ks) => .inr (ci, ks.mapIdx (fun k kind => mz_fv ad M q k kind))
def mz_w (ad : Nat → Nat) (cA : Nat → ClassId) (M : mz_M) : va_W := M.1.mapIdx (fun q e => (ad q, mz_ce ad cA M q e))
def mz_tc (c : Nat) : FieldType := match c with
  | 0 => .int
  | 1 => .boolean
  | 2 => .long
  | 3 => .byte
  | 4 => .char
  | _ => .short
def mz_ty1 (cA : Nat → ClassId) (e : mz_E) : Option (ClassId × FieldType) := match e with
  | .inl (t, c, _) => some (cA t, mz_tc c)
  | .inr _ => none
def mz_ty (cA : Nat → ClassId) (lay : List mz_E) : List (ClassId × FieldType) := lay.filterMap (mz_ty1 cA)
def mz_sz1 (e : mz_E) : Nat := match e with
  | .inl (_, _, n) => n
  | .inr (_, ks) => ks.length
def mz_sz (lay : List mz_E) : Nat := (lay.map mz_sz1).sum
/-- the locals: as listed -/
def mz_lh (ad : Nat → Nat) (ls : Array Slot) (nL : Nat) (L : mz_L) : Prop := ls.size = nL ∧ lv_wf ls ∧ ∀ (i : Nat) (v : Value), L[i]? = some (some v) → ls[i]? = some (.val (mz_cv ad v))
/-- a value's reference is a place of the layout, or read only -/
def mz_vw (n : Nat) (v : Value) : Prop := match v with
  | .ref q => q < n ∨ mz_ro0 ≤ q
  | .int _ => True
  | .long _ => True
  | .null => True
  | _ => False
def mz_kw (n kind : Nat) : Prop := match kind with
  | t + 3 => t < n
  | _ => True
def mz_ew (n : Nat) (e : mz_E) : Prop := match e with
  | .inl _ => True
  | .inr (_, ks) => ∀ x ∈ ks, mz_kw n x
def mz_wf (L : mz_L) (S : List Value) (M : mz_M) : Prop := M.1.length ≤ mz_ro0 ∧ (∀ e ∈ M.1, mz_ew M.1.length e) ∧ (∀ v ∈ S, mz_vw M.1.length v) ∧ ∀ v : Value, some v ∈ L → mz_vw M.1.length v
-- the operations
def mz_push (v : Value) (n : Nat) : mz_Op := fun _ K L S M => K n L (v :: S) M
def mz_ldi (i n : Nat) : mz_Op := fun _ K L S M => match L[i]? with
  | some (some (.int x)) => K n L (.int x :: S) M
  | _ => False
def mz_ldl (i n : Nat) : mz_Op := fun _ K L S M => match L[i]? with
  | some (some (.long x)) => K n L (.long x :: S) M
  | _ => False
def mz_lda (i n : Nat) : mz_Op := fun _ K L S M => match L[i]? with
  | some (some (.ref x)) => K n L (.ref x :: S) M
  | _ => False
def mz_pre (L : mz_L) (i : Nat) : mz_L := match i with
  | 0 => L
  | j + 1 => match L[j]? with
    | some (some (.long _)) => L.set j none
    | _ => L
def mz_sti (i n : Nat) : mz_Op := fun _ K L S M => match S with
  | .int x :: r => K n ((mz_pre L i).set i (some (.int x))) r M
  | _ => False
def mz_sta (i n : Nat) : mz_Op := fun _ K L S M => match S with
  | .ref x :: r => K n ((mz_pre L i).set i (some (.ref x))) r M
  | _ => False
def mz_stl (i n : Nat) : mz_Op := fun _ K L S M => match S with
  | .long x :: r => K n (((mz_pre L i).set i (some (.long x))).set (i + 1) none) r M
  | _ => False
def mz_inc (i : Nat) (d : Int32) (n : Nat) : mz_Op := fun _ K L S M => match L[i]? with
  | some (some (.int x)) => K n ((mz_pre L i).set i (some (.int (x + d)))) S M
  | _ => False
def mz_bi (f : Int32 → Int32 → Int32) (n : Nat) : mz_Op := fun _ K L S M => match S with
  | .int y :: .int x :: r => K n L (.int (f x y) :: r) M
  | _ => False
def mz_bid (f : Int32 → Int32 → Int32) (n : Nat) : mz_Op := fun _ K L S M => match S with
  | .int y :: .int x :: r => ¬ y = 0 ∧ K n L (.int (f x y) :: r) M
  | _ => False
def mz_bl (f : Int64 → Int64 → Int64) (n : Nat) : mz_Op := fun _ K L S M => match S with
  | .long y :: .long x :: r => K n L (.long (f x y) :: r) M
  | _ => False
def mz_bld (f : Int64 → Int64 → Int64) (n : Nat) : mz_Op := fun _ K L S M => match S with
  | .long y :: .long x :: r => ¬ y = 0 ∧ K n L (.long (f x y) :: r) M
  | _ => False
def mz_sh (f : Int64 → Int32 → Int64) (n : Nat) : mz_Op := fun _ K L S M => match S with
  | .int y :: .long x :: r => K n L (.long (f x y) :: r) M
  | _ => False
def mz_i1 (f : Int32 → Int32) (n : Nat) : mz_Op := fun _ K L S M => match S with
  | .int x :: r => K n L (.int (f x) :: r) M
  | _ => False
def mz_l1 (f : Int64 → Int64) (n : Nat) : mz_Op := fun _ K L S M => match S with
  | .long x :: r => K n L (.long (f x) :: r) M
  | _ => False
def mz_i2l (n : Nat) : mz_Op := fun _ K L S M => match S with
  | .int x :: r => K n L (.long x.toInt64 :: r) M
  | _ => False
def mz_l2i (n : Nat) : mz_Op := fun _ K L S M => match S with
  | .long x :: r => K n L (.int x.toInt32 :: r) M
  | _ => False
def mz_lcmp (n : Nat) : mz_Op := fun _ K L S M => match S with
  | .long y :: .long x :: r => K n L (.int (lg_cmp x y) :: r) M
  | _ => False
def mz_if (P : Int32 → Prop) (t n : Nat) : mz_Op := fun _ K L S M => match S with
  | .int x :: r => (P x → K t L r M) ∧ (¬ P x → K n L r M)
  | _ => False
def mz_ic (P : Int32 → Int32 → Prop) (t n : Nat) : mz_Op := fun _ K L S M => match S with
  | .int y :: .int x :: r => (P x y → K t L r M) ∧ (¬ P x y → K n L r M)
  | _ => False
def mz_go (t : Nat) : mz_Op := fun _ K L S M => K t L S M
def mz_dup (n : Nat) : mz_Op := fun _ K L S M => match S with
  | .int x :: r => K n L (.int x :: .int x :: r) M
  | .ref x :: r => K n L (.ref x :: .ref x :: r) M
  | _ => False
def mz_dupx1 (n : Nat) : mz_Op := fun _ K L S M => match S with
  | .int x :: .ref y :: r => K n L (.int x :: .ref y :: .int x :: r) M
  | .int x :: .int y :: r => K n L (.int x :: .int y :: .int x :: r) M
  | _ => False
def mz_dup2 (n : Nat) : mz_Op := fun _ K L S M => match S with
  | .long x :: r => K n L (.long x :: .long x :: r) M
  | .int x :: .ref y :: r => K n L (.int x :: .ref y :: .int x :: .ref y :: r) M
  | _ => False
def mz_pop (n : Nat) : mz_Op := fun _ K L S M => match S with
  | .int _ :: r => K n L r M
  | .ref _ :: r => K n L r M
  | _ => False
def mz_ri : mz_Op := fun Q _ _ S M => match S with
  | [.int x] => Q (some (.int x)) M
  | _ => False
def mz_rz : mz_Op := fun Q _ _ S M => match S with
  | [.int x] => (x = 0 ∨ x = 1) ∧ Q (some (.int x)) M
  | _ => False
def mz_rl : mz_Op := fun Q _ _ S M => match S with
  | [.long x] => Q (some (.long x)) M
  | _ => False
def mz_rv : mz_Op := fun Q _ _ S M => match S with
  | [] => Q none M
  | _ => False
/-- what is at place q: an object of class ci with its kinds -/
def mz_ob (M : mz_M) (q ci : Nat) (k : List Nat → Prop) : Prop := match M.1[q]? with
  | some (.inr (c, ks)) => match Nat.beq c ci with
    | true => k ks
    | false => False
  | _ => False
def mz_gf (ci k n : Nat) : mz_Op := fun _ K L S M => match S with
  | .ref q :: r => mz_ob M q ci fun ks => match ks[k]? with
    | some 0 => K n L (.int (M.2.1 q k) :: r) M
    | some 1 => K n L (.long (M.2.2 q k) :: r) M
    | some (t + 3) => K n L (.ref t :: r) M
    | _ => False
  | _ => False
def mz_pfi (ci k n : Nat) : mz_Op := fun _ K L S M => match S with
  | .int x :: .ref q :: r => mz_ob M q ci fun ks => match ks[k]? with
    | some 0 => K n L r (M.1, mz_up M.2.1 q k x, M.2.2)
    | _ => False
  | _ => False
def mz_pfl (ci k n : Nat) : mz_Op := fun _ K L S M => match S with
  | .long x :: .ref q :: r => mz_ob M q ci fun ks => match ks[k]? with
    | some 1 => K n L r (M.1, M.2.1, mz_up M.2.2 q k x)
    | _ => False
  | _ => False
/-- what is at place q: an array of the type with code c, or a read only one -/
abbrev mz_RO : Type := Nat → Option (Nat × ((Nat → Int32) ⊕ (Nat → Int64)))
def mz_ar (M : mz_M) (q c : Nat) (k : Nat → Prop) : Prop := match M.1[q]? with
  | some (.inl (_, d, n)) => match Nat.beq d c with
    | true => k n
    | false => False
  | _ => False
def mz_al (n : Nat) : mz_Op := fun _ K L S M => match S with
  | .ref q :: r => match M.1[q]? with
    | some (.inl (_, _, len)) => K n L (.int (nI len) :: r) M
    | _ => False
  | _ => False
def mz_iald (c n : Nat) : mz_Op := fun _ K L S M => match S with
  | .int i :: .ref q :: r => mz_ar M q c fun len => vp_in i len ∧ K n L (.int (M.2.1 q i.toNatClampNeg) :: r) M
  | _ => False
def mz_lald (n : Nat) : mz_Op := fun _ K L S M => match S with
  | .int i :: .ref q :: r => mz_ar M q 2 fun len => vp_in i len ∧ K n L (.long (M.2.2 q i.toNatClampNeg) :: r) M
  | _ => False
def mz_iast (c n : Nat) : mz_Op := fun _ K L S M => match S with
  | .int x :: .int i :: .ref q :: r => mz_ar M q c fun len => vp_in i len ∧ K n L r (M.1, mz_up M.2.1 q i.toNatClampNeg (vp_nar (mz_tc c) x), M.2.2)
  | _ => False
def mz_last (n : Nat) : mz_Op := fun _ K L S M => match S with
  | .long x :: .int i :: .ref q :: r => mz_ar M q 2 fun len => vp_in i len ∧ K n L r (M.1, M.2.1, mz_up M.2.2 q i.toNatClampNeg x)
  | _ => False
/-- read only arrays -/
def mz_ral (ro : mz_RO) (n : Nat) : mz_Op := fun _ K L S M => match S with
  | .ref q :: r => match ro q with
    | some (len, _) => K n L (.int (nI len) :: r) M
    | _ => False
  | _ => False
def mz_rald (ro : mz_RO) (n : Nat) : mz_Op := fun _ K L S M => match S with
  | .int i :: .ref q :: r => match ro q with
    | some (len, .inl f) => vp_in i len ∧ K n L (.int (f i.toNatClampNeg) :: r) M
    | some (len, .inr f) => vp_in i len ∧ K n L (.long (f i.toNatClampNeg) :: r) M
    | _ => False
  | _ => False
/-- calls: a contract is what the callee makes of the ints and longs, with its answer; the layout stays -/
abbrev mz_X : Type := (Nat → Nat → Int32) × (Nat → Nat → Int64)
abbrev mz_CI : Type := List mz_E → List Value → mz_X → (Int32 → mz_X → Prop) → Prop
abbrev mz_CL : Type := List mz_E → List Value → mz_X → (Int64 → mz_X → Prop) → Prop
abbrev mz_CV : Type := List mz_E → List Value → mz_X → (mz_X → Prop) → Prop
def mz_cut (na : Nat) (S : List Value) (k : List Value → List Value → Prop) : Prop := match Nat.ble na S.length with
  | true => match Nat.ble ((S.drop na).map fun v => v.category).sum 8 with
    | true => k (S.take na).reverse (S.drop na)
    | false => False
  | false => False
/-- the receiver is an object of class ci -/
def mz_rcv (M : mz_M) (as : List Value) (ci : Nat) (P : Prop) : Prop := match as with
  | .ref q :: _ => mz_ob M q ci (fun _ => P)
  | _ => False
def mz_ci (na ci : Nat) (C : mz_CI) (n : Nat) : mz_Op := fun _ K L S M => mz_cut na S fun as r => mz_rcv M as ci (C M.1 as M.2 (fun x X => K n L (.int x :: r) (M.1, X)))
def mz_cl (na ci : Nat) (C : mz_CL) (n : Nat) : mz_Op := fun _ K L S M => mz_cut na S fun as r => mz_rcv M as ci (C M.1 as M.2 (fun x X => K n L (.long x :: r) (M.1, X)))
def mz_cvo (na ci : Nat) (C : mz_CV) (n : Nat) : mz_Op := fun _ K L S M => mz_cut na S fun as r => mz_rcv M as ci (C M.1 as M.2 (fun X => K n L r (M.1, X)))
/-- static calls -/
def mz_si (na : Nat) (C : mz_CI) (n : Nat) : mz_Op := fun _ K L S M => mz_cut na S fun as r => C M.1 as M.2 (fun x X => K n L (.int x :: r) (M.1, X))
def mz_sl (na : Nat) (C : mz_CL) (n : Nat) : mz_Op := fun _ K L S M => mz_cut na S fun as r => C M.1 as M.2 (fun x X => K n L (.long x :: r) (M.1, X))
def mz_svo (na : Nat) (C : mz_CV) (n : Nat) : mz_Op := fun _ K L S M => mz_cut na S fun as r => C M.1 as M.2 (fun X => K n L r (M.1, X))
def mz_no : mz_Op := fun _ _ _ _ _ => False
def mz_at (I : List (Nat × mz_Op)) (pc : Nat) : mz_Op := match I with
  | [] => mz_no
  | (k, op) :: r => match Nat.beq k pc with
    | true => op
    | false => mz_at r pc
/-- K is closed under the method's instructions -/
def mz_Cl (I : List (Nat × mz_Op)) (Q : mz_Q) (K : mz_K) : Prop := ∀ (pc : Nat) (L : mz_L) (S : List Value) (M : mz_M), mz_at I pc Q K L S M → K pc L S M
/-- a method's first locals -/
def mz_l0 (as : List Value) : mz_L := match as with
  | [] => []
  | .long x :: r => some (.long x) :: none :: mz_l0 r
  | v :: r => some v :: mz_l0 r
def mz_ent (nL : Nat) (as : List Value) : mz_L := mz_l0 as ++ List.replicate (nL - (mz_l0 as).length) none
/-! the operations are the machine's -/
theorem mz_w_at {ad : Nat → Nat} {cA : Nat → ClassId} {M : mz_M} {q : Nat} {e : mz_E} (h : M.1[q]? = some e) : (mz_w ad cA M)[q]? = some (ad q, mz_ce ad cA M q e) := by
  simp [mz_w, List.getElem?_mapIdx, h]
theorem mz_w_len (ad : Nat → Nat) (cA : Nat → ClassId) (M : mz_M) : (mz_w ad cA M).length = M.1.length := by simp [mz_w]
theorem mz_up_off {α : Type} {f : Nat → Nat → α} {q k i : Nat} {x : α} (h : i ≠ q) : mz_up f q k x i = f i := by
  funext b
  simp [mz_up, h]
theorem mz_up_row {α : Type} (f : Nat → Nat → α) (q k : Nat) (x : α) : mz_up f q k x q = fun b => if b = k then x else f q b := by
  funext b
  simp [mz_up]
theorem mz_fv_off {ad : Nat → Nat} {M M' : mz_M} {i : Nat} (h1 : M'.2.1 i = M.2.1 i) (h2 : M'.2.2 i = M.2.2 i) (k kind : Nat) : mz_fv ad M' i k kind = mz_fv ad M i k kind := by
  unfold mz_fv
  split <;> simp [h1, h2]
theorem mz_ce_off {ad : Nat → Nat} {cA : Nat → ClassId} {M M' : mz_M} {i : Nat} (h1 : M'.2.1 i = M.2.1 i) (h2 : M'.2.2 i = M.2.2 i) (e : mz_E) : mz_ce ad cA M' i e = mz_ce ad cA M i e := by
  rcases e with ⟨t, c, n⟩ | ⟨ci, ks⟩
  · simp [mz_ce, h1, h2]
  · simp only [mz_ce]
    have : (fun k kind => mz_fv ad M' i k kind) = (fun k kind => mz_fv ad M i k kind) := by
      funext k kind
      exact mz_fv_off h1 h2 k kind
    rw [this]
/-- one place's entry is made anew -/
theorem mz_w_set {ad : Nat → Nat} {cA : Nat → ClassId} {M M' : mz_M} {q : Nat} {e : mz_E} {x : va_E} (h : M.1[q]? = some e) (hl : M'.1 = M.1) (h1 : ∀ i, i ≠ q → M'.2.1 i = M.2.1 i) (h2 : ∀ i, i ≠ q → M'.2.2 i = M.2.2 i) (hx : mz_ce ad cA M' q e = x) : (mz_w ad cA M).set q (ad q, x) = mz_w ad cA M' := by
  apply List.ext_getElem?
  intro i
  have hq : q < (mz_w ad cA M).length := by
    rw [mz_w_len]
    exact (List.getElem?_eq_some_iff.mp h).1
  by_cases hi : i = q
  · subst hi
    rw [List.getElem?_set_self hq, mz_w_at (e := e) (by rw [hl]; exact h), hx]
  · rw [List.getElem?_set_ne (Ne.symm hi)]
    simp only [mz_w, List.getElem?_mapIdx, hl]
    cases M.1[i]? with
    | none => rfl
    | some e' => simp only [Option.map_some]; rw [mz_ce_off (h1 i hi) (h2 i hi)]
theorem mz_fs_at {ad : Nat → Nat} {M : mz_M} {q k kind : Nat} {ks : List Nat} (h : ks[k]? = some kind) : (ks.mapIdx (fun k kind => mz_fv ad M q k kind))[k]? = some (mz_fv ad M q k kind) := by
  simp [List.getElem?_mapIdx, h]
theorem mz_fs_set {ad : Nat → Nat} {M M' : mz_M} {q k kind : Nat} {ks : List Nat} {v : Value} (h : ks[k]? = some kind) (hv : mz_fv ad M' q k kind = v) (ho : ∀ j kd, j ≠ k → mz_fv ad M' q j kd = mz_fv ad M q j kd) : (ks.mapIdx (fun k kind => mz_fv ad M q k kind)).set k v = ks.mapIdx (fun k kind => mz_fv ad M' q k kind) := by
  apply List.ext_getElem?
  intro i
  have hk : k < (ks.mapIdx (fun k kind => mz_fv ad M q k kind)).length := by
    rw [List.length_mapIdx]
    exact (List.getElem?_eq_some_iff.mp h).1
  by_cases hi : i = k
  · subst hi
    rw [List.getElem?_set_self hk, mz_fs_at h, hv]
  · rw [List.getElem?_set_ne (Ne.symm hi)]
    simp only [List.getElem?_mapIdx]
    cases ks[i]? with
    | none => rfl
    | some e' => simp only [Option.map_some]; rw [ho i e' hi]
theorem mz_ty_at {cA : Nat → ClassId} {lay : List mz_E} {q t c n : Nat} (h : lay[q]? = some (.inl (t, c, n))) : ∃ t0 : Nat, (mz_ty cA lay)[t0]? = some (cA t, mz_tc c) := by
  have : (cA t, mz_tc c) ∈ mz_ty cA lay := List.mem_filterMap.mpr ⟨_, List.mem_of_getElem? h, rfl⟩
  exact List.getElem?_of_mem this
/-- the locals as pairs -/
def mz_ps (ad : Nat → Nat) (L : mz_L) : List (Nat × Value) := L.zipIdx.filterMap (fun q => q.1.map (fun v => (q.2, mz_cv ad v)))
theorem mz_ps_mem {ad : Nat → Nat} {L : mz_L} {i : Nat} {w : Value} : (i, w) ∈ mz_ps ad L ↔ ∃ v, L[i]? = some (some v) ∧ w = mz_cv ad v := by
  unfold mz_ps
  rw [List.mem_filterMap]
  constructor
  · rintro ⟨⟨o, j⟩, h1, h2⟩
    cases o with
    | none => simp at h2
    | some v =>
      simp only [Option.map_some, Option.some.injEq, Prod.mk.injEq] at h2
      have h3 := List.mem_zipIdx_iff_getElem?.mp h1
      refine ⟨v, ?_, h2.2.symm⟩
      rw [← h2.1]
      simpa using h3
  · rintro ⟨v, h1, h2⟩
    refine ⟨(some v, i), List.mem_zipIdx_iff_getElem?.mpr (by simpa using h1), ?_⟩
    simp [h2]
theorem mz_lh_has {ad : Nat → Nat} {ls : Array Slot} {nL : Nat} {L : mz_L} (h : mz_lh ad ls nL L) : lv_has ls nL (mz_ps ad L) := by
  refine ⟨h.1, h.2.1, fun q hq => ?_⟩
  obtain ⟨i, w⟩ := q
  obtain ⟨v, h1, h2⟩ := mz_ps_mem.mp hq
  rw [h2]
  exact h.2.2 i v h1
theorem mz_cv_cat (ad : Nat → Nat) (v : Value) : (mz_cv ad v).category = v.category := by cases v <;> rfl
theorem mz_pre_get {L : mz_L} {i j : Nat} {v : Value} (h : (mz_pre L i)[j]? = some (some v)) : L[j]? = some (some v) ∧ ¬ (j + 1 = i ∧ ∃ x, v = .long x) := by
  cases i with
  | zero => exact ⟨h, fun q => by omega⟩
  | succ i =>
    simp only [mz_pre] at h
    split at h
    · next x hx =>
      by_cases hj : i = j
      · subst hj
        rw [List.getElem?_set] at h
        simp at h
      · rw [List.getElem?_set_ne hj] at h
        exact ⟨h, fun q => hj (by omega)⟩
    · next hx =>
      refine ⟨h, fun q => ?_⟩
      obtain ⟨q1, x, q2⟩ := q
      have : j = i := by omega
      subst this
      subst q2
      exact hx x h
theorem mz_lh_sto1 {ad : Nat → Nat} {ls' : Array Slot} {nL i : Nat} {L : mz_L} {v : Value} (hnf : ∀ (j : Nat) (u : Value), L[j]? = some (some u) → u.category = 2 → ∃ x, u = .long x) (h : lv_has ls' nL ((i, mz_cv ad v) :: (mz_ps ad L).filter (fun q => !(q.1 == i) && !(q.1 + 1 == i && q.2.category == 2)))) : mz_lh ad ls' nL ((mz_pre L i).set i (some v)) := by
  refine ⟨h.1, h.2.1, fun j u hj => ?_⟩
  by_cases hij : i = j
  · subst hij
    rw [List.getElem?_set] at hj
    simp at hj
    have hu : v = u := hj.2
    subst hu
    exact h.2.2 (i, _) List.mem_cons_self
  · rw [List.getElem?_set_ne hij] at hj
    obtain ⟨h1, h2⟩ := mz_pre_get hj
    refine h.2.2 (j, mz_cv ad u) (List.mem_cons_of_mem _ (List.mem_filter.mpr ⟨mz_ps_mem.mpr ⟨u, h1, rfl⟩, ?_⟩))
    simp only [Bool.and_eq_true, Bool.not_eq_true', beq_eq_false_iff_ne, ne_eq, Bool.and_eq_false_iff]
    refine ⟨fun q => hij q.symm, ?_⟩
    by_cases hc : u.category = 2
    · exact Or.inl (fun q => h2 ⟨q, hnf j u h1 hc⟩)
    · exact Or.inr (by rw [mz_cv_cat]; exact hc)
theorem mz_lh_sto2 {ad : Nat → Nat} {ls' : Array Slot} {nL i : Nat} {L : mz_L} {x : Int64} (hnf : ∀ (j : Nat) (u : Value), L[j]? = some (some u) → u.category = 2 → ∃ x, u = .long x) (h : lv_has ls' nL ((i, Value.long x) :: (mz_ps ad L).filter (fun q => !(q.1 == i) && (!(q.1 == i + 1) && !(q.1 + 1 == i && q.2.category == 2))))) : mz_lh ad ls' nL (((mz_pre L i).set i (some (.long x))).set (i + 1) none) := by
  refine ⟨h.1, h.2.1, fun j u hj => ?_⟩
  by_cases hij1 : i + 1 = j
  · subst hij1
    rw [List.getElem?_set] at hj
    simp at hj
  · rw [List.getElem?_set_ne hij1] at hj
    by_cases hij : i = j
    · subst hij
      rw [List.getElem?_set] at hj
      simp at hj
      have hu : Value.long x = u := hj.2
      subst hu
      exact h.2.2 (i, _) List.mem_cons_self
    · rw [List.getElem?_set_ne hij] at hj
      obtain ⟨h1, h2⟩ := mz_pre_get hj
      refine h.2.2 (j, mz_cv ad u) (List.mem_cons_of_mem _ (List.mem_filter.mpr ⟨mz_ps_mem.mpr ⟨u, h1, rfl⟩, ?_⟩))
      simp only [Bool.and_eq_true, Bool.not_eq_true', beq_eq_false_iff_ne, ne_eq, Bool.and_eq_false_iff]
      refine ⟨fun q => hij q.symm, fun q => hij1 q.symm, ?_⟩
      by_cases hc : u.category = 2
      · exact Or.inl (fun q => h2 ⟨q, hnf j u h1 hc⟩)
      · exact Or.inr (by rw [mz_cv_cat]; exact hc)
