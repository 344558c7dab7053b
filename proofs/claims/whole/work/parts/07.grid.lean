theorem mz_cnt_le (f : Nat → Bool) : ∀ n, mz_cnt f n ≤ n
  | 0 => Nat.le_refl 0
  | n + 1 => by
    have := mz_cnt_le f n
    simp only [mz_cnt]
    split <;> omega
theorem mz_cnt_t {f : Nat → Bool} {n : Nat} (h : f n = true) : nI (mz_cnt f n) + 1 = nI (mz_cnt f (n + 1)) := by
  rw [nI_1]
  simp only [mz_cnt, h]
theorem mz_cnt_f {f : Nat → Bool} {n : Nat} (h : f n = false) : mz_cnt f (n + 1) = mz_cnt f n := by
  simp only [mz_cnt, h, Nat.add_zero]
theorem mz_fil_0 {α : Type} (f : Nat → Nat → α) (p : Nat) (v : α) : mz_fil f p 0 v = f := by
  funext a b
  simp [mz_fil]
theorem mz_fil_s {α : Type} (f : Nat → Nat → α) (p k : Nat) (v : α) : mz_up (mz_fil f p k v) p k v = mz_fil f p (k + 1) v := by
  funext a b
  simp only [mz_up, mz_fil]
  by_cases ha : a = p
  · subst ha
    by_cases hb : b = k
    · subst hb
      simp
    · have : b < k ↔ b < k + 1 := by omega
      simp [hb, this]
  · simp [ha]

theorem mz_narb {v : Int32} (h : v = 0 ∨ v = 1) : vp_nar (mz_tc 1) v = v := by
  rcases h with rfl | rfl <;> rfl
theorem mz_nari (v : Int32) : vp_nar (mz_tc 0) v = v := rfl
theorem len_Gr_freeCells (w h : Nat) (lay : List mz_E) (as : List Value) (X : mz_X) (Q : Int32 → mz_X → Prop) (hC : C_Gr_freeCells w h lay as X Q) : (mz_l0 as).length ≤ 3 := by
  unfold C_Gr_freeCells at hC
  split at hC
  · exact Nat.le_of_ble_eq_true rfl
  · exact hC.elim
theorem ok_Gr_freeCells (w h : Nat) (lay : List mz_E) (as : List Value) (X : mz_X) (Q : Int32 → mz_X → Prop) (hC : C_Gr_freeCells w h lay as X Q) (K : mz_K) (hK : mz_Cl (I_Gr_freeCells w h) (mz_qi lay Q) K) : K 0 (mz_ent 3 as) [] (lay, X) := by
  unfold C_Gr_freeCells at hC
  split at hC
  ·
    obtain ⟨rfl, g, hq⟩ := hC
    have hn := mz_geo_n g
    have loop : ∀ (k i : Nat), i + k = w * h → K 4 [some (.ref 1), some (.int (nI (mz_cnt (zg_fre X) i))), some (.int (nI i))] [] (mz_lay w h, X) := by
      intro k
      induction k with
      | zero =>
        intro i hi
        iterate 4 refine hK _ _ _ _ ?_
        refine hK _ _ _ _ (And.intro (fun c1 => ?_) (fun c1 => ?_))
        · refine hK _ _ _ _ ?_
          exact hK _ _ _ _ (And.intro rfl (by rw [← hi] at hq; exact hq))
        · exact absurd (nI_le (a := w * h) (b := i) (by omega) (by omega)) c1
      | succ k ih =>
        intro i hi
        iterate 4 refine hK _ _ _ _ ?_
        refine hK _ _ _ _ (And.intro (fun c1 => ?_) (fun c1 => ?_))
        · exact absurd c1 (nI_ge (by omega) (by omega))
        · iterate 3 refine hK _ _ _ _ ?_
          refine hK _ _ _ _ (And.intro (vp_in_nI (by omega) (by omega)) ?_)
          refine hK _ _ _ _ (And.intro (fun c2 => ?_) (fun c2 => ?_))
          · dsimp only at c2
            rw [nI_clamp (by omega)] at c2
            have e := mz_cnt_t (f := zg_fre X) (n := i) (by simp [zg_fre, c2])
            iterate 3 refine hK _ _ _ _ ?_
            have := ih (i + 1) (by omega)
            rw [← e, ← nI_1] at this
            exact this
          · dsimp only at c2
            rw [nI_clamp (by omega)] at c2
            have e := mz_cnt_f (f := zg_fre X) (n := i) (by simp [zg_fre, c2])
            iterate 2 refine hK _ _ _ _ ?_
            have := ih (i + 1) (by omega)
            rw [e, ← nI_1] at this
            exact this
    iterate 4 refine hK _ _ _ _ ?_
    exact loop (w * h) 0 (by omega)
  · exact hC.elim
theorem len_Gr_firstCell (w h : Nat) (lay : List mz_E) (as : List Value) (X : mz_X) (Q : Int32 → mz_X → Prop) (hC : C_Gr_firstCell w h lay as X Q) : (mz_l0 as).length ≤ 2 := by
  unfold C_Gr_firstCell at hC
  split at hC
  · exact Nat.le_of_ble_eq_true rfl
  · exact hC.elim
theorem ok_Gr_firstCell (w h : Nat) (lay : List mz_E) (as : List Value) (X : mz_X) (Q : Int32 → mz_X → Prop) (hC : C_Gr_firstCell w h lay as X Q) (K : mz_K) (hK : mz_Cl (I_Gr_firstCell w h) (mz_qi lay Q) K) : K 0 (mz_ent 2 as) [] (lay, X) := by
  unfold C_Gr_firstCell at hC
  split at hC
  ·
    obtain ⟨rfl, g, hq⟩ := hC
    have hn := mz_geo_n g
    have loop : ∀ (k i : Nat), i + k = w * h → zg_fst X (w * h) 0 = zg_fst X k i → K 2 [some (.ref 1), some (.int (nI i))] [] (mz_lay w h, X) := by
      intro k
      induction k with
      | zero =>
        intro i hi hf
        iterate 4 refine hK _ _ _ _ ?_
        refine hK _ _ _ _ (And.intro (fun c1 => ?_) (fun c1 => ?_))
        · refine hK _ _ _ _ ?_
          exact hK _ _ _ _ (And.intro rfl (by rw [hf] at hq; exact hq))
        · exact absurd (nI_le (a := w * h) (b := i) (by omega) (by omega)) c1
      | succ k ih =>
        intro i hi hf
        iterate 4 refine hK _ _ _ _ ?_
        refine hK _ _ _ _ (And.intro (fun c1 => ?_) (fun c1 => ?_))
        · exact absurd c1 (nI_ge (by omega) (by omega))
        · iterate 3 refine hK _ _ _ _ ?_
          refine hK _ _ _ _ (And.intro (vp_in_nI (by omega) (by omega)) ?_)
          refine hK _ _ _ _ (And.intro (fun c2 => ?_) (fun c2 => ?_))
          · dsimp only at c2
            rw [nI_clamp (by omega)] at c2
            refine hK _ _ _ _ ?_
            exact hK _ _ _ _ (And.intro rfl (by rw [hf] at hq; simpa [zg_fst, zg_fre, c2] using hq))
          · dsimp only at c2
            rw [nI_clamp (by omega)] at c2
            iterate 2 refine hK _ _ _ _ ?_
            have := ih (i + 1) (by omega) (by rw [hf]; simp [zg_fst, zg_fre, c2])
            rw [← nI_1] at this
            exact this
    iterate 2 refine hK _ _ _ _ ?_
    exact loop (w * h) 0 (by omega) rfl
  · exact hC.elim
theorem len_Gr_openDoors (w h : Nat) (lay : List mz_E) (as : List Value) (X : mz_X) (Q : Int32 → mz_X → Prop) (hC : C_Gr_openDoors w h lay as X Q) : (mz_l0 as).length ≤ 3 := by
  unfold C_Gr_openDoors at hC
  split at hC
  · exact Nat.le_of_ble_eq_true rfl
  · exact hC.elim
theorem ok_Gr_openDoors (w h : Nat) (lay : List mz_E) (as : List Value) (X : mz_X) (Q : Int32 → mz_X → Prop) (hC : C_Gr_openDoors w h lay as X Q) (K : mz_K) (hK : mz_Cl (I_Gr_openDoors w h) (mz_qi lay Q) K) : K 0 (mz_ent 3 as) [] (lay, X) := by
  unfold C_Gr_openDoors at hC
  split at hC
  ·
    obtain ⟨rfl, g, D, hD, hX, hq⟩ := hC
    have loop : ∀ (k i : Nat), i + k = D → K 4 [some (.ref 1), some (.int (nI (mz_cnt (fun i => zg_open w h X (nI i)) i))), some (.int (nI i))] [] (mz_lay w h, X) := by
      intro k
      induction k with
      | zero =>
        intro i hi
        iterate 3 refine hK _ _ _ _ ?_
        refine hK _ _ _ _ (And.intro (fun c1 => ?_) (fun c1 => ?_))
        · refine hK _ _ _ _ ?_
          exact hK _ _ _ _ (And.intro rfl (by rw [← hi] at hq; exact hq))
        · dsimp only at c1
          rw [hX] at c1
          exact absurd (nI_le (a := D) (b := i) (by omega) (by omega)) c1
      | succ k ih =>
        intro i hi
        iterate 3 refine hK _ _ _ _ ?_
        refine hK _ _ _ _ (And.intro (fun c1 => ?_) (fun c1 => ?_))
        · dsimp only at c1
          rw [hX] at c1
          exact absurd c1 (nI_ge (by omega) (by omega))
        · iterate 2 refine hK _ _ _ _ ?_
          refine hK _ _ _ _ (And.intro (rfl) (And.intro (g) ?_))
          refine hK _ _ _ _ (And.intro (fun c2 => ?_) (fun c2 => ?_))
          · have e := mz_cnt_f (f := fun i => zg_open w h X (nI i)) (n := i) (mz_b0 c2)
            iterate 2 refine hK _ _ _ _ ?_
            have := ih (i + 1) (by omega)
            rw [e, ← nI_1] at this
            exact this
          · have e := mz_cnt_t (f := fun i => zg_open w h X (nI i)) (n := i) (mz_b1 c2)
            iterate 3 refine hK _ _ _ _ ?_
            have := ih (i + 1) (by omega)
            rw [← e, ← nI_1] at this
            exact this
    iterate 4 refine hK _ _ _ _ ?_
    exact loop D 0 (by omega)
  · exact hC.elim
theorem len_Gr_openSides (w h : Nat) (lay : List mz_E) (as : List Value) (X : mz_X) (Q : Int32 → mz_X → Prop) (hC : C_Gr_openSides w h lay as X Q) : (mz_l0 as).length ≤ 4 := by
  unfold C_Gr_openSides at hC
  split at hC
  · exact Nat.le_of_ble_eq_true rfl
  · exact hC.elim
theorem ok_Gr_openSides (w h : Nat) (lay : List mz_E) (as : List Value) (X : mz_X) (Q : Int32 → mz_X → Prop) (hC : C_Gr_openSides w h lay as X Q) (K : mz_K) (hK : mz_Cl (I_Gr_openSides w h) (mz_qi lay Q) K) : K 0 (mz_ent 4 as) [] (lay, X) := by
  unfold C_Gr_openSides at hC
  split at hC
  · next c =>
    obtain ⟨rfl, g, hq⟩ := hC
    have loop : ∀ (k i : Nat), i + k = 4 → K 4 [some (.ref 1), some (.int c), some (.int (nI (mz_cnt (fun s => zg_open w h X (zg_on w h X c (nI s))) i))), some (.int (nI i))] [] (mz_lay w h, X) := by
      intro k
      induction k with
      | zero =>
        intro i hi
        iterate 2 refine hK _ _ _ _ ?_
        refine hK _ _ _ _ (And.intro (fun c1 => ?_) (fun c1 => ?_))
        · refine hK _ _ _ _ ?_
          exact hK _ _ _ _ (And.intro rfl (by rw [← hi] at hq; exact hq))
        · exact absurd (nI_le (a := 4) (b := i) (by omega) (by omega)) c1
      | succ k ih =>
        intro i hi
        iterate 2 refine hK _ _ _ _ ?_
        refine hK _ _ _ _ (And.intro (fun c1 => ?_) (fun c1 => ?_))
        · exact absurd c1 (nI_ge (a := i) (b := 4) (by omega) (by omega))
        · iterate 4 refine hK _ _ _ _ ?_
          refine hK _ _ _ _ (And.intro (rfl) (And.intro (g) ?_))
          refine hK _ _ _ _ (And.intro (rfl) (And.intro (g) ?_))
          refine hK _ _ _ _ (And.intro (fun c2 => ?_) (fun c2 => ?_))
          · have e := mz_cnt_f (f := fun s => zg_open w h X (zg_on w h X c (nI s))) (n := i) (mz_b0 c2)
            iterate 2 refine hK _ _ _ _ ?_
            have := ih (i + 1) (by omega)
            rw [e, ← nI_1] at this
            exact this
          · have e := mz_cnt_t (f := fun s => zg_open w h X (zg_on w h X c (nI s))) (n := i) (mz_b1 c2)
            iterate 3 refine hK _ _ _ _ ?_
            have := ih (i + 1) (by omega)
            rw [← e, ← nI_1] at this
            exact this
    iterate 4 refine hK _ _ _ _ ?_
    exact loop 4 0 (by omega)
  · exact hC.elim
theorem len_Gr_setDoor (w h : Nat) (lay : List mz_E) (as : List Value) (X : mz_X) (Q : Int32 → mz_X → Prop) (hC : C_Gr_setDoor w h lay as X Q) : (mz_l0 as).length ≤ 3 := by
  unfold C_Gr_setDoor at hC
  split at hC
  · exact Nat.le_of_ble_eq_true rfl
  · exact hC.elim
theorem ok_Gr_setDoor (w h : Nat) (lay : List mz_E) (as : List Value) (X : mz_X) (Q : Int32 → mz_X → Prop) (hC : C_Gr_setDoor w h lay as X Q) (K : mz_K) (hK : mz_Cl (I_Gr_setDoor w h) (mz_qi lay Q) K) : K 0 (mz_ent 3 as) [] (lay, X) := by
  unfold C_Gr_setDoor at hC
  split at hC
  · next d v =>
    obtain ⟨rfl, g, hv, hq⟩ := hC
    iterate 2 refine hK _ _ _ _ ?_
    refine hK _ _ _ _ (And.intro (rfl) (And.intro (g) ?_))
    refine hK _ _ _ _ (And.intro (fun c1 => ?_) (fun c1 => ?_))
    · rw [show zg_setB w h X d v = false by simp [zg_setB, mz_b0 c1]] at hq
      refine hK _ _ _ _ ?_
      exact hK _ _ _ _ (And.intro (Or.inl rfl) (And.intro rfl (hq)))
    · iterate 3 refine hK _ _ _ _ ?_
      refine hK _ _ _ _ (And.intro (zg_door_in g (mz_b1 c1)) ?_)
      refine hK _ _ _ _ ?_
      refine hK _ _ _ _ (And.intro (fun c2 => ?_) (fun c2 => ?_))
      · dsimp only at c2
        rw [show zg_setB w h X d v = false by simp [zg_setB, c2]] at hq
        refine hK _ _ _ _ ?_
        exact hK _ _ _ _ (And.intro (Or.inl rfl) (And.intro rfl (hq)))
      · dsimp only at c2
        rw [show zg_setB w h X d v = true by simp [zg_setB, mz_b1 c1, c2]] at hq
        iterate 4 refine hK _ _ _ _ ?_
        refine hK _ _ _ _ (And.intro (zg_door_in g (mz_b1 c1)) ?_)
        rw [mz_narb hv]
        iterate 7 refine hK _ _ _ _ ?_
        exact hK _ _ _ _ (And.intro (Or.inr rfl) (And.intro rfl (hq)))
  · exact hC.elim
theorem len_Gr_closeDoors (w h : Nat) (lay : List mz_E) (as : List Value) (X : mz_X) (Q : mz_X → Prop) (hC : C_Gr_closeDoors w h lay as X Q) : (mz_l0 as).length ≤ 2 := by
  unfold C_Gr_closeDoors at hC
  split at hC
  · exact Nat.le_of_ble_eq_true rfl
  · exact hC.elim
theorem ok_Gr_closeDoors (w h : Nat) (lay : List mz_E) (as : List Value) (X : mz_X) (Q : mz_X → Prop) (hC : C_Gr_closeDoors w h lay as X Q) (K : mz_K) (hK : mz_Cl (I_Gr_closeDoors w h) (mz_qv lay Q) K) : K 0 (mz_ent 2 as) [] (lay, X) := by
  unfold C_Gr_closeDoors at hC
  split at hC
  ·
    obtain ⟨rfl, g, hq⟩ := hC
    have hd := mz_geo_d g
    have loop : ∀ (k i : Nat), i + k = mz_dn w h → K 2 [some (.ref 1), some (.int (nI i))] [] (mz_lay w h, mz_fil X.1 6 i 0, X.2) := by
      intro k
      induction k with
      | zero =>
        intro i hi
        iterate 4 refine hK _ _ _ _ ?_
        refine hK _ _ _ _ (And.intro (fun c1 => ?_) (fun c1 => ?_))
        · iterate 6 refine hK _ _ _ _ ?_
          exact hK _ _ _ _ (And.intro rfl (by unfold zg_closeX at hq; rw [← hi] at hq; exact hq))
        · exact absurd (nI_le (a := mz_dn w h) (b := i) (by omega) (by omega)) c1
      | succ k ih =>
        intro i hi
        iterate 4 refine hK _ _ _ _ ?_
        refine hK _ _ _ _ (And.intro (fun c1 => ?_) (fun c1 => ?_))
        · exact absurd c1 (nI_ge (by omega) (by omega))
        · iterate 4 refine hK _ _ _ _ ?_
          refine hK _ _ _ _ (And.intro (vp_in_nI (by omega) (by omega)) ?_)
          iterate 2 refine hK _ _ _ _ ?_
          have := ih (i + 1) (by omega)
          rw [← mz_fil_s, ← nI_1] at this
          rw [nI_clamp (by omega)]
          exact this
    iterate 2 refine hK _ _ _ _ ?_
    have := loop (mz_dn w h) 0 (by omega)
    rw [mz_fil_0] at this
    exact this
  · exact hC.elim
theorem len_Gr_addDoor (w h : Nat) (lay : List mz_E) (as : List Value) (X : mz_X) (Q : mz_X → Prop) (hC : C_Gr_addDoor w h lay as X Q) : (mz_l0 as).length ≤ 5 := by
  unfold C_Gr_addDoor at hC
  split at hC
  · exact Nat.le_of_ble_eq_true rfl
  · exact hC.elim
theorem ok_Gr_addDoor (w h : Nat) (lay : List mz_E) (as : List Value) (X : mz_X) (Q : mz_X → Prop) (hC : C_Gr_addDoor w h lay as X Q) (K : mz_K) (hK : mz_Cl (I_Gr_addDoor w h) (mz_qv lay Q) K) : K 0 (mz_ent 5 as) [] (lay, X) := by
  unfold C_Gr_addDoor at hC
  split at hC
  · next c s o t =>
    obtain ⟨rfl, g, h7, hs, ht, hq⟩ := hC
    have hn := mz_geo_n g
    have hd := mz_geo_d g
    have h28 : zg_addB w h X c o = false → K 28 (mz_ent 5 [.ref 1, .int c, .int s, .int o, .int t]) [] (mz_lay w h, X) := by
      intro e
      simp only [zg_add, e] at hq
      exact hK _ _ _ _ (And.intro rfl (hq))
    iterate 2 refine hK _ _ _ _ ?_
    refine hK _ _ _ _ (And.intro (rfl) (And.intro (g) ?_))
    refine hK _ _ _ _ (And.intro (fun c1 => ?_) (fun c1 => ?_))
    · exact h28 (by simp [zg_addB, mz_b0 c1])
    · iterate 2 refine hK _ _ _ _ ?_
      refine hK _ _ _ _ (And.intro (rfl) (And.intro (g) ?_))
      refine hK _ _ _ _ (And.intro (fun c2 => ?_) (fun c2 => ?_))
      · exact h28 (by simp [zg_addB, mz_b0 c2])
      · iterate 5 refine hK _ _ _ _ ?_
        refine hK _ _ _ _ (And.intro (fun c3 => ?_) (fun c3 => ?_))
        · dsimp only at c3
          have hb : zg_addB w h X c o = true := by simp [zg_addB, mz_b1 c1, mz_b1 c2, c3]
          simp only [zg_add, hb] at hq
          have hc := mz_b1 c1
          have ho := mz_b1 c2
          simp only [zg_free, Bool.and_eq_true, decide_eq_true_eq] at hc ho
          have hcin := mz_lt_in hc.1 (by omega)
          have hoin := mz_lt_in ho.1 (by omega)
          have h7in : vp_in (X.1 1 7) (mz_dn w h) := mz_in h7 (by rw [Int32.not_le]; exact c3) (by omega)
          iterate 5 refine hK _ _ _ _ ?_
          refine hK _ _ _ _ (And.intro (h7in) ?_)
          iterate 5 refine hK _ _ _ _ ?_
          refine hK _ _ _ _ (And.intro (h7in) ?_)
          iterate 9 refine hK _ _ _ _ ?_
          refine hK _ _ _ _ (And.intro (mz_side_in hn hcin hs.1 hs.2) ?_)
          iterate 9 refine hK _ _ _ _ ?_
          refine hK _ _ _ _ (And.intro (mz_side_in hn hoin ht.1 ht.2) ?_)
          iterate 6 refine hK _ _ _ _ ?_
          exact hK _ _ _ _ (And.intro rfl (hq))
        · dsimp only at c3
          exact h28 (by simp [zg_addB, c3])
  · exact hC.elim
set_option maxRecDepth 20000 in
theorem snd_Gr_freeCells (w h : Nat) (l : Launch) (p : Program) (e : Env) (s : State) (m : MethodId) (args : Array Value) (below : List Frame) (meth : Method) (c : Code) (D : va_G) (ad0 : Nat → Nat) (cA0 : Nat → ClassId) (A : Nat → Prop) (lay : List mz_E) (Q : Int32 → mz_X → Prop) (F : mz_F p s m args meth c prog_5_method_12_code 3 y_Gr_freeCells.cls (some .int) w_Gr_freeCells) (hA : ∀ q, s.heap.size ≤ q → A q) : mz_All (mz_V p l e (mz_rm 0 0) s m args below meth c 3 lay.length (mz_sz lay) D mz_cls (mz_G0 ad0 cA0) A (MQ below (va_Qi Q (mz_B D mz_cls ad0 cA0 lay A) A) args s 0 0 A)) (mz_qi lay Q) (I_Gr_freeCells w h) := by
  obtain ⟨hx, hb, hml, hown, hts, hr, hlk⟩ := F
  unfold I_Gr_freeCells
  refine mz_All.cons (sd_iconst hx hb (mz_dg d_Gr_freeCells 0 0 (.iconst (0)) 1 rfl) (by decide)) ?_
  refine mz_All.cons (sd_istore_n hx hb (mz_dg d_Gr_freeCells 1 1 (.istore_n 1) 1 rfl) rfl (by decide)) ?_
  refine mz_All.cons (sd_iconst hx hb (mz_dg d_Gr_freeCells 2 2 (.iconst (0)) 1 rfl) (by decide)) ?_
  refine mz_All.cons (sd_istore_n hx hb (mz_dg d_Gr_freeCells 3 3 (.istore_n 2) 1 rfl) rfl (by decide)) ?_
  refine mz_All.cons (sd_iload_n hx hb (mz_dg d_Gr_freeCells 4 4 (.iload_n 2) 1 rfl) rfl) ?_
  refine mz_All.cons (sd_aload_n hx hb (mz_dg d_Gr_freeCells 5 5 (.aload_n 0) 1 rfl) rfl) ?_
  refine mz_All.cons (sd_get (k := 2) hx hb hts (mz_inC in_Gr) hown (T := T_Gr) (N := 9) rfl (by decide) (hts (.fieldLink "MazeForms$Grid" 22 "MazeForms$Grid" "masked" "[Z") (List.mem_cons_of_mem _ wm_126)) (fun _ h => h) (mz_dg d_Gr_freeCells 6 6 (.getfield 22) 3 rfl)) ?_
  refine mz_All.cons (sd_alen hx hb (mz_dg d_Gr_freeCells 7 9 (.arraylength) 1 rfl)) ?_
  refine mz_All.cons (sd_icmp_ge hx hb (mz_dg d_Gr_freeCells 8 10 (.if_icmp .ge (21)) 3 rfl) (by decide)) ?_
  refine mz_All.cons (sd_aload_n hx hb (mz_dg d_Gr_freeCells 9 13 (.aload_n 0) 1 rfl) rfl) ?_
  refine mz_All.cons (sd_get (k := 2) hx hb hts (mz_inC in_Gr) hown (T := T_Gr) (N := 9) rfl (by decide) (hts (.fieldLink "MazeForms$Grid" 22 "MazeForms$Grid" "masked" "[Z") (List.mem_cons_of_mem _ wm_126)) (fun _ h => h) (mz_dg d_Gr_freeCells 10 14 (.getfield 22) 3 rfl)) ?_
  refine mz_All.cons (sd_iload_n hx hb (mz_dg d_Gr_freeCells 11 17 (.iload_n 2) 1 rfl) rfl) ?_
  refine mz_All.cons (sd_zald hx hb (mz_dg d_Gr_freeCells 12 18 (.baload) 1 rfl)) ?_
  refine mz_All.cons (sd_if_ne hx hb (mz_dg d_Gr_freeCells 13 19 (.ifCond .ne (6)) 3 rfl) (by decide)) ?_
  refine mz_All.cons (sd_iinc hx hb (mz_dg d_Gr_freeCells 14 22 (.iinc 1 (1)) 3 rfl) (by decide) (by decide)) ?_
  refine mz_All.cons (sd_iinc hx hb (mz_dg d_Gr_freeCells 15 25 (.iinc 2 (1)) 3 rfl) (by decide) (by decide)) ?_
  refine mz_All.cons (sd_goto hx hb (mz_dg d_Gr_freeCells 16 28 (.goto (-24)) 3 rfl) (by decide)) ?_
  refine mz_All.cons (sd_iload_n hx hb (mz_dg d_Gr_freeCells 17 31 (.iload_n 1) 1 rfl) rfl) ?_
  refine mz_All.cons (sd_ri hx hb hr hlk (mz_dg d_Gr_freeCells 18 32 (.ireturn) 1 rfl)) ?_
  exact trivial
theorem met_Gr_freeCells (w h : Nat) (l : Launch) : mz_MI l y_Gr_freeCells w_Gr_freeCells 0 0 mz_cls (C_Gr_freeCells w h) := mz_MI_of (I_Gr_freeCells w h) (by decide) rfl (len_Gr_freeCells w h) (ok_Gr_freeCells w h) (snd_Gr_freeCells w h l)
set_option maxRecDepth 20000 in
theorem snd_Gr_firstCell (w h : Nat) (l : Launch) (p : Program) (e : Env) (s : State) (m : MethodId) (args : Array Value) (below : List Frame) (meth : Method) (c : Code) (D : va_G) (ad0 : Nat → Nat) (cA0 : Nat → ClassId) (A : Nat → Prop) (lay : List mz_E) (Q : Int32 → mz_X → Prop) (F : mz_F p s m args meth c prog_5_method_13_code 2 y_Gr_firstCell.cls (some .int) w_Gr_firstCell) (hA : ∀ q, s.heap.size ≤ q → A q) : mz_All (mz_V p l e (mz_rm 0 0) s m args below meth c 2 lay.length (mz_sz lay) D mz_cls (mz_G0 ad0 cA0) A (MQ below (va_Qi Q (mz_B D mz_cls ad0 cA0 lay A) A) args s 0 0 A)) (mz_qi lay Q) (I_Gr_firstCell w h) := by
  obtain ⟨hx, hb, hml, hown, hts, hr, hlk⟩ := F
  unfold I_Gr_firstCell
  refine mz_All.cons (sd_iconst hx hb (mz_dg d_Gr_firstCell 0 0 (.iconst (0)) 1 rfl) (by decide)) ?_
  refine mz_All.cons (sd_istore_n hx hb (mz_dg d_Gr_firstCell 1 1 (.istore_n 1) 1 rfl) rfl (by decide)) ?_
  refine mz_All.cons (sd_iload_n hx hb (mz_dg d_Gr_firstCell 2 2 (.iload_n 1) 1 rfl) rfl) ?_
  refine mz_All.cons (sd_aload_n hx hb (mz_dg d_Gr_firstCell 3 3 (.aload_n 0) 1 rfl) rfl) ?_
  refine mz_All.cons (sd_get (k := 2) hx hb hts (mz_inC in_Gr) hown (T := T_Gr) (N := 9) rfl (by decide) (hts (.fieldLink "MazeForms$Grid" 22 "MazeForms$Grid" "masked" "[Z") (List.mem_cons_of_mem _ wm_126)) (fun _ h => h) (mz_dg d_Gr_firstCell 4 4 (.getfield 22) 3 rfl)) ?_
  refine mz_All.cons (sd_alen hx hb (mz_dg d_Gr_firstCell 5 7 (.arraylength) 1 rfl)) ?_
  refine mz_All.cons (sd_icmp_ge hx hb (mz_dg d_Gr_firstCell 6 8 (.if_icmp .ge (20)) 3 rfl) (by decide)) ?_
  refine mz_All.cons (sd_aload_n hx hb (mz_dg d_Gr_firstCell 7 11 (.aload_n 0) 1 rfl) rfl) ?_
  refine mz_All.cons (sd_get (k := 2) hx hb hts (mz_inC in_Gr) hown (T := T_Gr) (N := 9) rfl (by decide) (hts (.fieldLink "MazeForms$Grid" 22 "MazeForms$Grid" "masked" "[Z") (List.mem_cons_of_mem _ wm_126)) (fun _ h => h) (mz_dg d_Gr_firstCell 8 12 (.getfield 22) 3 rfl)) ?_
  refine mz_All.cons (sd_iload_n hx hb (mz_dg d_Gr_firstCell 9 15 (.iload_n 1) 1 rfl) rfl) ?_
  refine mz_All.cons (sd_zald hx hb (mz_dg d_Gr_firstCell 10 16 (.baload) 1 rfl)) ?_
  refine mz_All.cons (sd_if_ne hx hb (mz_dg d_Gr_firstCell 11 17 (.ifCond .ne (5)) 3 rfl) (by decide)) ?_
  refine mz_All.cons (sd_iload_n hx hb (mz_dg d_Gr_firstCell 12 20 (.iload_n 1) 1 rfl) rfl) ?_
  refine mz_All.cons (sd_ri hx hb hr hlk (mz_dg d_Gr_firstCell 13 21 (.ireturn) 1 rfl)) ?_
  refine mz_All.cons (sd_iinc hx hb (mz_dg d_Gr_firstCell 14 22 (.iinc 1 (1)) 3 rfl) (by decide) (by decide)) ?_
  refine mz_All.cons (sd_goto hx hb (mz_dg d_Gr_firstCell 15 25 (.goto (-23)) 3 rfl) (by decide)) ?_
  refine mz_All.cons (sd_iconst hx hb (mz_dg d_Gr_firstCell 16 28 (.iconst (-1)) 1 rfl) (by decide)) ?_
  refine mz_All.cons (sd_ri hx hb hr hlk (mz_dg d_Gr_firstCell 17 29 (.ireturn) 1 rfl)) ?_
  exact trivial
theorem met_Gr_firstCell (w h : Nat) (l : Launch) : mz_MI l y_Gr_firstCell w_Gr_firstCell 0 0 mz_cls (C_Gr_firstCell w h) := mz_MI_of (I_Gr_firstCell w h) (by decide) rfl (len_Gr_firstCell w h) (ok_Gr_firstCell w h) (snd_Gr_firstCell w h l)
set_option maxRecDepth 20000 in
theorem snd_Gr_openDoors (w h : Nat) (l : Launch) (p : Program) (e : Env) (s : State) (m : MethodId) (args : Array Value) (below : List Frame) (meth : Method) (c : Code) (D : va_G) (ad0 : Nat → Nat) (cA0 : Nat → ClassId) (A : Nat → Prop) (lay : List mz_E) (Q : Int32 → mz_X → Prop) (F : mz_F p s m args meth c prog_5_method_14_code 3 y_Gr_openDoors.cls (some .int) w_Gr_openDoors) (hA : ∀ q, s.heap.size ≤ q → A q) : mz_All (mz_V p l e (mz_rm 2 42) s m args below meth c 3 lay.length (mz_sz lay) D mz_cls (mz_G0 ad0 cA0) A (MQ below (va_Qi Q (mz_B D mz_cls ad0 cA0 lay A) A) args s 0 0 A)) (mz_qi lay Q) (I_Gr_openDoors w h) := by
  obtain ⟨hx, hb, hml, hown, hts, hr, hlk⟩ := F
  unfold I_Gr_openDoors
  refine mz_All.cons (sd_iconst hx hb (mz_dg d_Gr_openDoors 0 0 (.iconst (0)) 1 rfl) (by decide)) ?_
  refine mz_All.cons (sd_istore_n hx hb (mz_dg d_Gr_openDoors 1 1 (.istore_n 1) 1 rfl) rfl (by decide)) ?_
  refine mz_All.cons (sd_iconst hx hb (mz_dg d_Gr_openDoors 2 2 (.iconst (0)) 1 rfl) (by decide)) ?_
  refine mz_All.cons (sd_istore_n hx hb (mz_dg d_Gr_openDoors 3 3 (.istore_n 2) 1 rfl) rfl (by decide)) ?_
  refine mz_All.cons (sd_iload_n hx hb (mz_dg d_Gr_openDoors 4 4 (.iload_n 2) 1 rfl) rfl) ?_
  refine mz_All.cons (sd_aload_n hx hb (mz_dg d_Gr_openDoors 5 5 (.aload_n 0) 1 rfl) rfl) ?_
  refine mz_All.cons (sd_get (k := 7) hx hb hts (mz_inC in_Gr) hown (T := T_Gr) (N := 9) rfl (by decide) (hts (.fieldLink "MazeForms$Grid" 42 "MazeForms$Grid" "doorCount" "I") (List.mem_cons_of_mem _ wm_131)) (fun _ h => h) (mz_dg d_Gr_openDoors 6 6 (.getfield 42) 3 rfl)) ?_
  refine mz_All.cons (sd_icmp_ge hx hb (mz_dg d_Gr_openDoors 7 9 (.if_icmp .ge (20)) 3 rfl) (by decide)) ?_
  refine mz_All.cons (sd_aload_n hx hb (mz_dg d_Gr_openDoors 8 12 (.aload_n 0) 1 rfl) rfl) ?_
  refine mz_All.cons (sd_iload_n hx hb (mz_dg d_Gr_openDoors 9 13 (.iload_n 2) 1 rfl) rfl) ?_
  refine mz_All.cons (sd_calli (T := T_Gr) ⟨hx, hb, hml, hown, hts⟩ (met_Gr_isOpen w h l) (cwV 1 hts (mz_gV wm_589 wm_497 wm_498 wm_67 wm_499) rfl rfl rfl (by decide) ⟨by decide, by decide⟩) rfl hA rfl (mz_dg d_Gr_openDoors 10 14 (.invokevirtual 55) 3 rfl)) ?_
  refine mz_All.cons (sd_if_eq hx hb (mz_dg d_Gr_openDoors 11 17 (.ifCond .eq (6)) 3 rfl) (by decide)) ?_
  refine mz_All.cons (sd_iinc hx hb (mz_dg d_Gr_openDoors 12 20 (.iinc 1 (1)) 3 rfl) (by decide) (by decide)) ?_
  refine mz_All.cons (sd_iinc hx hb (mz_dg d_Gr_openDoors 13 23 (.iinc 2 (1)) 3 rfl) (by decide) (by decide)) ?_
  refine mz_All.cons (sd_goto hx hb (mz_dg d_Gr_openDoors 14 26 (.goto (-22)) 3 rfl) (by decide)) ?_
  refine mz_All.cons (sd_iload_n hx hb (mz_dg d_Gr_openDoors 15 29 (.iload_n 1) 1 rfl) rfl) ?_
  refine mz_All.cons (sd_ri hx hb hr hlk (mz_dg d_Gr_openDoors 16 30 (.ireturn) 1 rfl)) ?_
  exact trivial
theorem met_Gr_openDoors (w h : Nat) (l : Launch) : mz_MI l y_Gr_openDoors w_Gr_openDoors 2 42 mz_cls (C_Gr_openDoors w h) := mz_MI_of (I_Gr_openDoors w h) (by decide) rfl (len_Gr_openDoors w h) (ok_Gr_openDoors w h) (snd_Gr_openDoors w h l)
set_option maxRecDepth 20000 in
theorem snd_Gr_openSides (w h : Nat) (l : Launch) (p : Program) (e : Env) (s : State) (m : MethodId) (args : Array Value) (below : List Frame) (meth : Method) (c : Code) (D : va_G) (ad0 : Nat → Nat) (cA0 : Nat → ClassId) (A : Nat → Prop) (lay : List mz_E) (Q : Int32 → mz_X → Prop) (F : mz_F p s m args meth c prog_5_method_16_code 4 y_Gr_openSides.cls (some .int) w_Gr_openSides) (hA : ∀ q, s.heap.size ≤ q → A q) : mz_All (mz_V p l e (mz_rm 2 44) s m args below meth c 4 lay.length (mz_sz lay) D mz_cls (mz_G0 ad0 cA0) A (MQ below (va_Qi Q (mz_B D mz_cls ad0 cA0 lay A) A) args s 0 0 A)) (mz_qi lay Q) (I_Gr_openSides w h) := by
  obtain ⟨hx, hb, hml, hown, hts, hr, hlk⟩ := F
  unfold I_Gr_openSides
  refine mz_All.cons (sd_iconst hx hb (mz_dg d_Gr_openSides 0 0 (.iconst (0)) 1 rfl) (by decide)) ?_
  refine mz_All.cons (sd_istore_n hx hb (mz_dg d_Gr_openSides 1 1 (.istore_n 2) 1 rfl) rfl (by decide)) ?_
  refine mz_All.cons (sd_iconst hx hb (mz_dg d_Gr_openSides 2 2 (.iconst (0)) 1 rfl) (by decide)) ?_
  refine mz_All.cons (sd_istore_n hx hb (mz_dg d_Gr_openSides 3 3 (.istore_n 3) 1 rfl) rfl (by decide)) ?_
  refine mz_All.cons (sd_iload_n hx hb (mz_dg d_Gr_openSides 4 4 (.iload_n 3) 1 rfl) rfl) ?_
  refine mz_All.cons (sd_iconst hx hb (mz_dg d_Gr_openSides 5 5 (.iconst (4)) 1 rfl) (by decide)) ?_
  refine mz_All.cons (sd_icmp_ge hx hb (mz_dg d_Gr_openSides 6 6 (.if_icmp .ge (25)) 3 rfl) (by decide)) ?_
  refine mz_All.cons (sd_aload_n hx hb (mz_dg d_Gr_openSides 7 9 (.aload_n 0) 1 rfl) rfl) ?_
  refine mz_All.cons (sd_aload_n hx hb (mz_dg d_Gr_openSides 8 10 (.aload_n 0) 1 rfl) rfl) ?_
  refine mz_All.cons (sd_iload_n hx hb (mz_dg d_Gr_openSides 9 11 (.iload_n 1) 1 rfl) rfl) ?_
  refine mz_All.cons (sd_iload_n hx hb (mz_dg d_Gr_openSides 10 12 (.iload_n 3) 1 rfl) rfl) ?_
  refine mz_All.cons (sd_calli (T := T_Gr) ⟨hx, hb, hml, hown, hts⟩ (met_Gr_doorOn w h l) (cwV 2 hts (mz_gV wm_588 wm_372 wm_373 wm_67 wm_374) rfl rfl rfl (by decide) ⟨by decide, by decide⟩) rfl hA rfl (mz_dg d_Gr_openSides 11 13 (.invokevirtual 58) 3 rfl)) ?_
  refine mz_All.cons (sd_calli (T := T_Gr) ⟨hx, hb, hml, hown, hts⟩ (met_Gr_isOpen w h l) (cwV 1 hts (mz_gV wm_589 wm_497 wm_498 wm_67 wm_499) rfl rfl rfl (by decide) ⟨by decide, by decide⟩) rfl hA rfl (mz_dg d_Gr_openSides 12 16 (.invokevirtual 55) 3 rfl)) ?_
  refine mz_All.cons (sd_if_eq hx hb (mz_dg d_Gr_openSides 13 19 (.ifCond .eq (6)) 3 rfl) (by decide)) ?_
  refine mz_All.cons (sd_iinc hx hb (mz_dg d_Gr_openSides 14 22 (.iinc 2 (1)) 3 rfl) (by decide) (by decide)) ?_
  refine mz_All.cons (sd_iinc hx hb (mz_dg d_Gr_openSides 15 25 (.iinc 3 (1)) 3 rfl) (by decide) (by decide)) ?_
  refine mz_All.cons (sd_goto hx hb (mz_dg d_Gr_openSides 16 28 (.goto (-24)) 3 rfl) (by decide)) ?_
  refine mz_All.cons (sd_iload_n hx hb (mz_dg d_Gr_openSides 17 31 (.iload_n 2) 1 rfl) rfl) ?_
  refine mz_All.cons (sd_ri hx hb hr hlk (mz_dg d_Gr_openSides 18 32 (.ireturn) 1 rfl)) ?_
  exact trivial
theorem met_Gr_openSides (w h : Nat) (l : Launch) : mz_MI l y_Gr_openSides w_Gr_openSides 2 44 mz_cls (C_Gr_openSides w h) := mz_MI_of (I_Gr_openSides w h) (by decide) rfl (len_Gr_openSides w h) (ok_Gr_openSides w h) (snd_Gr_openSides w h l)
set_option maxRecDepth 20000 in
theorem snd_Gr_setDoor (w h : Nat) (l : Launch) (p : Program) (e : Env) (s : State) (m : MethodId) (args : Array Value) (below : List Frame) (meth : Method) (c : Code) (D : va_G) (ad0 : Nat → Nat) (cA0 : Nat → ClassId) (A : Nat → Prop) (lay : List mz_E) (Q : Int32 → mz_X → Prop) (F : mz_F p s m args meth c prog_5_method_20_code 3 y_Gr_setDoor.cls (some .boolean) w_Gr_setDoor) (hA : ∀ q, s.heap.size ≤ q → A q) : mz_All (mz_V p l e (mz_rm 1 21) s m args below meth c 3 lay.length (mz_sz lay) D mz_cls (mz_G0 ad0 cA0) A (MQ below (va_Qi Q (mz_B D mz_cls ad0 cA0 lay A) A) args s 0 0 A)) (mz_qi lay Q) (I_Gr_setDoor w h) := by
  obtain ⟨hx, hb, hml, hown, hts, hr, hlk⟩ := F
  unfold I_Gr_setDoor
  refine mz_All.cons (sd_aload_n hx hb (mz_dg d_Gr_setDoor 0 0 (.aload_n 0) 1 rfl) rfl) ?_
  refine mz_All.cons (sd_iload_n hx hb (mz_dg d_Gr_setDoor 1 1 (.iload_n 1) 1 rfl) rfl) ?_
  refine mz_All.cons (sd_calli (T := T_Gr) ⟨hx, hb, hml, hown, hts⟩ (met_Gr_isDoor w h l) (cwV 1 hts (mz_gV wm_379 wm_380 wm_381 wm_67 wm_382) rfl rfl rfl (by decide) ⟨by decide, by decide⟩) rfl hA rfl (mz_dg d_Gr_setDoor 2 2 (.invokevirtual 52) 3 rfl)) ?_
  refine mz_All.cons (sd_if_eq hx hb (mz_dg d_Gr_setDoor 3 5 (.ifCond .eq (13)) 3 rfl) (by decide)) ?_
  refine mz_All.cons (sd_aload_n hx hb (mz_dg d_Gr_setDoor 4 8 (.aload_n 0) 1 rfl) rfl) ?_
  refine mz_All.cons (sd_get (k := 6) hx hb hts (mz_inC in_Gr) hown (T := T_Gr) (N := 9) rfl (by decide) (hts (.fieldLink "MazeForms$Grid" 36 "MazeForms$Grid" "doorOpen" "[Z") (List.mem_cons_of_mem _ wm_130)) (fun _ h => h) (mz_dg d_Gr_setDoor 5 9 (.getfield 36) 3 rfl)) ?_
  refine mz_All.cons (sd_iload_n hx hb (mz_dg d_Gr_setDoor 6 12 (.iload_n 1) 1 rfl) rfl) ?_
  refine mz_All.cons (sd_zald hx hb (mz_dg d_Gr_setDoor 7 13 (.baload) 1 rfl)) ?_
  refine mz_All.cons (sd_iload_n hx hb (mz_dg d_Gr_setDoor 8 14 (.iload_n 2) 1 rfl) rfl) ?_
  refine mz_All.cons (sd_icmp_ne hx hb (mz_dg d_Gr_setDoor 9 15 (.if_icmp .ne (5)) 3 rfl) (by decide)) ?_
  refine mz_All.cons (sd_iconst hx hb (mz_dg d_Gr_setDoor 10 18 (.iconst (0)) 1 rfl) (by decide)) ?_
  refine mz_All.cons (sd_rz hx hb hr hlk (mz_dg d_Gr_setDoor 11 19 (.ireturn) 1 rfl)) ?_
  refine mz_All.cons (sd_aload_n hx hb (mz_dg d_Gr_setDoor 12 20 (.aload_n 0) 1 rfl) rfl) ?_
  refine mz_All.cons (sd_get (k := 6) hx hb hts (mz_inC in_Gr) hown (T := T_Gr) (N := 9) rfl (by decide) (hts (.fieldLink "MazeForms$Grid" 36 "MazeForms$Grid" "doorOpen" "[Z") (List.mem_cons_of_mem _ wm_130)) (fun _ h => h) (mz_dg d_Gr_setDoor 13 21 (.getfield 36) 3 rfl)) ?_
  refine mz_All.cons (sd_iload_n hx hb (mz_dg d_Gr_setDoor 14 24 (.iload_n 1) 1 rfl) rfl) ?_
  refine mz_All.cons (sd_iload_n hx hb (mz_dg d_Gr_setDoor 15 25 (.iload_n 2) 1 rfl) rfl) ?_
  refine mz_All.cons (sd_zast hx hb (mz_dg d_Gr_setDoor 16 26 (.bastore) 1 rfl)) ?_
  refine mz_All.cons (sd_aload_n hx hb (mz_dg d_Gr_setDoor 17 27 (.aload_n 0) 1 rfl) rfl) ?_
  refine mz_All.cons (sd_dup hx hb (mz_dg d_Gr_setDoor 18 28 (.dup) 1 rfl)) ?_
  refine mz_All.cons (sd_get (k := 8) hx hb hts (mz_inC in_Gr) hown (T := T_Gr) (N := 9) rfl (by decide) (hts (.fieldLink "MazeForms$Grid" 45 "MazeForms$Grid" "edition" "I") (List.mem_cons_of_mem _ wm_132)) (fun _ h => h) (mz_dg d_Gr_setDoor 19 29 (.getfield 45) 3 rfl)) ?_
  refine mz_All.cons (sd_iconst hx hb (mz_dg d_Gr_setDoor 20 32 (.iconst (1)) 1 rfl) (by decide)) ?_
  refine mz_All.cons (sd_iadd hx hb (mz_dg d_Gr_setDoor 21 33 (.iadd) 1 rfl)) ?_
  refine mz_All.cons (sd_puti (k := 8) hx hb hts (mz_inC in_Gr) ty_Gr ty_Gr_ok nm_Gr hown (T := T_Gr) (N := 9) rfl (by decide) (hts (.fieldLink "MazeForms$Grid" 45 "MazeForms$Grid" "edition" "I") (List.mem_cons_of_mem _ wm_132)) (fun _ h => h) rfl rfl (mz_dg d_Gr_setDoor 22 34 (.putfield 45) 3 rfl)) ?_
  refine mz_All.cons (sd_iconst hx hb (mz_dg d_Gr_setDoor 23 37 (.iconst (1)) 1 rfl) (by decide)) ?_
  refine mz_All.cons (sd_rz hx hb hr hlk (mz_dg d_Gr_setDoor 24 38 (.ireturn) 1 rfl)) ?_
  exact trivial
theorem met_Gr_setDoor (w h : Nat) (l : Launch) : mz_MI l y_Gr_setDoor w_Gr_setDoor 1 21 mz_cls (C_Gr_setDoor w h) := mz_MI_of (I_Gr_setDoor w h) (by decide) rfl (len_Gr_setDoor w h) (ok_Gr_setDoor w h) (snd_Gr_setDoor w h l)
set_option maxRecDepth 20000 in
theorem snd_Gr_closeDoors (w h : Nat) (l : Launch) (p : Program) (e : Env) (s : State) (m : MethodId) (args : Array Value) (below : List Frame) (meth : Method) (c : Code) (D : va_G) (ad0 : Nat → Nat) (cA0 : Nat → ClassId) (A : Nat → Prop) (lay : List mz_E) (Q : mz_X → Prop) (F : mz_F p s m args meth c prog_5_method_22_code 2 y_Gr_closeDoors.cls none w_Gr_closeDoors) (hA : ∀ q, s.heap.size ≤ q → A q) : mz_All (mz_V p l e (mz_rm 0 0) s m args below meth c 2 lay.length (mz_sz lay) D mz_cls (mz_G0 ad0 cA0) A (MQ below (va_Qv Q (mz_B D mz_cls ad0 cA0 lay A) A) args s 0 0 A)) (mz_qv lay Q) (I_Gr_closeDoors w h) := by
  obtain ⟨hx, hb, hml, hown, hts, hr, hlk⟩ := F
  unfold I_Gr_closeDoors
  refine mz_All.cons (sd_iconst hx hb (mz_dg d_Gr_closeDoors 0 0 (.iconst (0)) 1 rfl) (by decide)) ?_
  refine mz_All.cons (sd_istore_n hx hb (mz_dg d_Gr_closeDoors 1 1 (.istore_n 1) 1 rfl) rfl (by decide)) ?_
  refine mz_All.cons (sd_iload_n hx hb (mz_dg d_Gr_closeDoors 2 2 (.iload_n 1) 1 rfl) rfl) ?_
  refine mz_All.cons (sd_aload_n hx hb (mz_dg d_Gr_closeDoors 3 3 (.aload_n 0) 1 rfl) rfl) ?_
  refine mz_All.cons (sd_get (k := 6) hx hb hts (mz_inC in_Gr) hown (T := T_Gr) (N := 9) rfl (by decide) (hts (.fieldLink "MazeForms$Grid" 36 "MazeForms$Grid" "doorOpen" "[Z") (List.mem_cons_of_mem _ wm_130)) (fun _ h => h) (mz_dg d_Gr_closeDoors 4 4 (.getfield 36) 3 rfl)) ?_
  refine mz_All.cons (sd_alen hx hb (mz_dg d_Gr_closeDoors 5 7 (.arraylength) 1 rfl)) ?_
  refine mz_All.cons (sd_icmp_ge hx hb (mz_dg d_Gr_closeDoors 6 8 (.if_icmp .ge (16)) 3 rfl) (by decide)) ?_
  refine mz_All.cons (sd_aload_n hx hb (mz_dg d_Gr_closeDoors 7 11 (.aload_n 0) 1 rfl) rfl) ?_
  refine mz_All.cons (sd_get (k := 6) hx hb hts (mz_inC in_Gr) hown (T := T_Gr) (N := 9) rfl (by decide) (hts (.fieldLink "MazeForms$Grid" 36 "MazeForms$Grid" "doorOpen" "[Z") (List.mem_cons_of_mem _ wm_130)) (fun _ h => h) (mz_dg d_Gr_closeDoors 8 12 (.getfield 36) 3 rfl)) ?_
  refine mz_All.cons (sd_iload_n hx hb (mz_dg d_Gr_closeDoors 9 15 (.iload_n 1) 1 rfl) rfl) ?_
  refine mz_All.cons (sd_iconst hx hb (mz_dg d_Gr_closeDoors 10 16 (.iconst (0)) 1 rfl) (by decide)) ?_
  refine mz_All.cons (sd_zast hx hb (mz_dg d_Gr_closeDoors 11 17 (.bastore) 1 rfl)) ?_
  refine mz_All.cons (sd_iinc hx hb (mz_dg d_Gr_closeDoors 12 18 (.iinc 1 (1)) 3 rfl) (by decide) (by decide)) ?_
  refine mz_All.cons (sd_goto hx hb (mz_dg d_Gr_closeDoors 13 21 (.goto (-19)) 3 rfl) (by decide)) ?_
  refine mz_All.cons (sd_aload_n hx hb (mz_dg d_Gr_closeDoors 14 24 (.aload_n 0) 1 rfl) rfl) ?_
  refine mz_All.cons (sd_dup hx hb (mz_dg d_Gr_closeDoors 15 25 (.dup) 1 rfl)) ?_
  refine mz_All.cons (sd_get (k := 8) hx hb hts (mz_inC in_Gr) hown (T := T_Gr) (N := 9) rfl (by decide) (hts (.fieldLink "MazeForms$Grid" 45 "MazeForms$Grid" "edition" "I") (List.mem_cons_of_mem _ wm_132)) (fun _ h => h) (mz_dg d_Gr_closeDoors 16 26 (.getfield 45) 3 rfl)) ?_
  refine mz_All.cons (sd_iconst hx hb (mz_dg d_Gr_closeDoors 17 29 (.iconst (1)) 1 rfl) (by decide)) ?_
  refine mz_All.cons (sd_iadd hx hb (mz_dg d_Gr_closeDoors 18 30 (.iadd) 1 rfl)) ?_
  refine mz_All.cons (sd_puti (k := 8) hx hb hts (mz_inC in_Gr) ty_Gr ty_Gr_ok nm_Gr hown (T := T_Gr) (N := 9) rfl (by decide) (hts (.fieldLink "MazeForms$Grid" 45 "MazeForms$Grid" "edition" "I") (List.mem_cons_of_mem _ wm_132)) (fun _ h => h) rfl rfl (mz_dg d_Gr_closeDoors 19 31 (.putfield 45) 3 rfl)) ?_
  refine mz_All.cons (sd_rv hx hb hr hlk (mz_dg d_Gr_closeDoors 20 34 (.return_) 1 rfl)) ?_
  exact trivial
theorem met_Gr_closeDoors (w h : Nat) (l : Launch) : mz_MV l y_Gr_closeDoors w_Gr_closeDoors 0 0 mz_cls (C_Gr_closeDoors w h) := mz_MV_of (I_Gr_closeDoors w h) (by decide) rfl (len_Gr_closeDoors w h) (ok_Gr_closeDoors w h) (snd_Gr_closeDoors w h l)
set_option maxRecDepth 20000 in
theorem snd_Gr_addDoor (w h : Nat) (l : Launch) (p : Program) (e : Env) (s : State) (m : MethodId) (args : Array Value) (below : List Frame) (meth : Method) (c : Code) (D : va_G) (ad0 : Nat → Nat) (cA0 : Nat → ClassId) (A : Nat → Prop) (lay : List mz_E) (Q : mz_X → Prop) (F : mz_F p s m args meth c prog_5_method_25_code 5 y_Gr_addDoor.cls none w_Gr_addDoor) (hA : ∀ q, s.heap.size ≤ q → A q) : mz_All (mz_V p l e (mz_rm 2 42) s m args below meth c 5 lay.length (mz_sz lay) D mz_cls (mz_G0 ad0 cA0) A (MQ below (va_Qv Q (mz_B D mz_cls ad0 cA0 lay A) A) args s 0 0 A)) (mz_qv lay Q) (I_Gr_addDoor w h) := by
  obtain ⟨hx, hb, hml, hown, hts, hr, hlk⟩ := F
  unfold I_Gr_addDoor
  refine mz_All.cons (sd_aload_n hx hb (mz_dg d_Gr_addDoor 0 0 (.aload_n 0) 1 rfl) rfl) ?_
  refine mz_All.cons (sd_iload_n hx hb (mz_dg d_Gr_addDoor 1 1 (.iload_n 1) 1 rfl) rfl) ?_
  refine mz_All.cons (sd_calli (T := T_Gr) ⟨hx, hb, hml, hown, hts⟩ (met_Gr_isFree w h l) (cwV 1 hts (mz_gV wm_116 wm_117 wm_118 wm_67 wm_119) rfl rfl rfl (by decide) ⟨by decide, by decide⟩) rfl hA rfl (mz_dg d_Gr_addDoor 2 2 (.invokevirtual 86) 3 rfl)) ?_
  refine mz_All.cons (sd_if_eq hx hb (mz_dg d_Gr_addDoor 3 5 (.ifCond .eq (23)) 3 rfl) (by decide)) ?_
  refine mz_All.cons (sd_aload_n hx hb (mz_dg d_Gr_addDoor 4 8 (.aload_n 0) 1 rfl) rfl) ?_
  refine mz_All.cons (sd_iload_n hx hb (mz_dg d_Gr_addDoor 5 9 (.iload_n 3) 1 rfl) rfl) ?_
  refine mz_All.cons (sd_calli (T := T_Gr) ⟨hx, hb, hml, hown, hts⟩ (met_Gr_isFree w h l) (cwV 1 hts (mz_gV wm_116 wm_117 wm_118 wm_67 wm_119) rfl rfl rfl (by decide) ⟨by decide, by decide⟩) rfl hA rfl (mz_dg d_Gr_addDoor 6 10 (.invokevirtual 86) 3 rfl)) ?_
  refine mz_All.cons (sd_if_eq hx hb (mz_dg d_Gr_addDoor 7 13 (.ifCond .eq (15)) 3 rfl) (by decide)) ?_
  refine mz_All.cons (sd_aload_n hx hb (mz_dg d_Gr_addDoor 8 16 (.aload_n 0) 1 rfl) rfl) ?_
  refine mz_All.cons (sd_get (k := 7) hx hb hts (mz_inC in_Gr) hown (T := T_Gr) (N := 9) rfl (by decide) (hts (.fieldLink "MazeForms$Grid" 42 "MazeForms$Grid" "doorCount" "I") (List.mem_cons_of_mem _ wm_131)) (fun _ h => h) (mz_dg d_Gr_addDoor 9 17 (.getfield 42) 3 rfl)) ?_
  refine mz_All.cons (sd_aload_n hx hb (mz_dg d_Gr_addDoor 10 20 (.aload_n 0) 1 rfl) rfl) ?_
  refine mz_All.cons (sd_get (k := 6) hx hb hts (mz_inC in_Gr) hown (T := T_Gr) (N := 9) rfl (by decide) (hts (.fieldLink "MazeForms$Grid" 36 "MazeForms$Grid" "doorOpen" "[Z") (List.mem_cons_of_mem _ wm_130)) (fun _ h => h) (mz_dg d_Gr_addDoor 11 21 (.getfield 36) 3 rfl)) ?_
  refine mz_All.cons (sd_alen hx hb (mz_dg d_Gr_addDoor 12 24 (.arraylength) 1 rfl)) ?_
  refine mz_All.cons (sd_icmp_lt hx hb (mz_dg d_Gr_addDoor 13 25 (.if_icmp .lt (4)) 3 rfl) (by decide)) ?_
  refine mz_All.cons (sd_rv hx hb hr hlk (mz_dg d_Gr_addDoor 14 28 (.return_) 1 rfl)) ?_
  refine mz_All.cons (sd_aload_n hx hb (mz_dg d_Gr_addDoor 15 29 (.aload_n 0) 1 rfl) rfl) ?_
  refine mz_All.cons (sd_get (k := 4) hx hb hts (mz_inC in_Gr) hown (T := T_Gr) (N := 9) rfl (by decide) (hts (.fieldLink "MazeForms$Grid" 30 "MazeForms$Grid" "lesserCell" "[I") (List.mem_cons_of_mem _ wm_128)) (fun _ h => h) (mz_dg d_Gr_addDoor 16 30 (.getfield 30) 3 rfl)) ?_
  refine mz_All.cons (sd_aload_n hx hb (mz_dg d_Gr_addDoor 17 33 (.aload_n 0) 1 rfl) rfl) ?_
  refine mz_All.cons (sd_get (k := 7) hx hb hts (mz_inC in_Gr) hown (T := T_Gr) (N := 9) rfl (by decide) (hts (.fieldLink "MazeForms$Grid" 42 "MazeForms$Grid" "doorCount" "I") (List.mem_cons_of_mem _ wm_131)) (fun _ h => h) (mz_dg d_Gr_addDoor 18 34 (.getfield 42) 3 rfl)) ?_
  refine mz_All.cons (sd_iload_n hx hb (mz_dg d_Gr_addDoor 19 37 (.iload_n 1) 1 rfl) rfl) ?_
  refine mz_All.cons (sd_iast hx hb (mz_dg d_Gr_addDoor 20 38 (.iastore) 1 rfl)) ?_
  refine mz_All.cons (sd_aload_n hx hb (mz_dg d_Gr_addDoor 21 39 (.aload_n 0) 1 rfl) rfl) ?_
  refine mz_All.cons (sd_get (k := 5) hx hb hts (mz_inC in_Gr) hown (T := T_Gr) (N := 9) rfl (by decide) (hts (.fieldLink "MazeForms$Grid" 33 "MazeForms$Grid" "greaterCell" "[I") (List.mem_cons_of_mem _ wm_129)) (fun _ h => h) (mz_dg d_Gr_addDoor 22 40 (.getfield 33) 3 rfl)) ?_
  refine mz_All.cons (sd_aload_n hx hb (mz_dg d_Gr_addDoor 23 43 (.aload_n 0) 1 rfl) rfl) ?_
  refine mz_All.cons (sd_get (k := 7) hx hb hts (mz_inC in_Gr) hown (T := T_Gr) (N := 9) rfl (by decide) (hts (.fieldLink "MazeForms$Grid" 42 "MazeForms$Grid" "doorCount" "I") (List.mem_cons_of_mem _ wm_131)) (fun _ h => h) (mz_dg d_Gr_addDoor 24 44 (.getfield 42) 3 rfl)) ?_
  refine mz_All.cons (sd_iload_n hx hb (mz_dg d_Gr_addDoor 25 47 (.iload_n 3) 1 rfl) rfl) ?_
  refine mz_All.cons (sd_iast hx hb (mz_dg d_Gr_addDoor 26 48 (.iastore) 1 rfl)) ?_
  refine mz_All.cons (sd_aload_n hx hb (mz_dg d_Gr_addDoor 27 49 (.aload_n 0) 1 rfl) rfl) ?_
  refine mz_All.cons (sd_get (k := 3) hx hb hts (mz_inC in_Gr) hown (T := T_Gr) (N := 9) rfl (by decide) (hts (.fieldLink "MazeForms$Grid" 26 "MazeForms$Grid" "doorOnSide" "[I") (List.mem_cons_of_mem _ wm_127)) (fun _ h => h) (mz_dg d_Gr_addDoor 28 50 (.getfield 26) 3 rfl)) ?_
  refine mz_All.cons (sd_iconst hx hb (mz_dg d_Gr_addDoor 29 53 (.iconst (4)) 1 rfl) (by decide)) ?_
  refine mz_All.cons (sd_iload_n hx hb (mz_dg d_Gr_addDoor 30 54 (.iload_n 1) 1 rfl) rfl) ?_
  refine mz_All.cons (sd_imul hx hb (mz_dg d_Gr_addDoor 31 55 (.imul) 1 rfl)) ?_
  refine mz_All.cons (sd_iload_n hx hb (mz_dg d_Gr_addDoor 32 56 (.iload_n 2) 1 rfl) rfl) ?_
  refine mz_All.cons (sd_iadd hx hb (mz_dg d_Gr_addDoor 33 57 (.iadd) 1 rfl)) ?_
  refine mz_All.cons (sd_aload_n hx hb (mz_dg d_Gr_addDoor 34 58 (.aload_n 0) 1 rfl) rfl) ?_
  refine mz_All.cons (sd_get (k := 7) hx hb hts (mz_inC in_Gr) hown (T := T_Gr) (N := 9) rfl (by decide) (hts (.fieldLink "MazeForms$Grid" 42 "MazeForms$Grid" "doorCount" "I") (List.mem_cons_of_mem _ wm_131)) (fun _ h => h) (mz_dg d_Gr_addDoor 35 59 (.getfield 42) 3 rfl)) ?_
  refine mz_All.cons (sd_iast hx hb (mz_dg d_Gr_addDoor 36 62 (.iastore) 1 rfl)) ?_
  refine mz_All.cons (sd_aload_n hx hb (mz_dg d_Gr_addDoor 37 63 (.aload_n 0) 1 rfl) rfl) ?_
  refine mz_All.cons (sd_get (k := 3) hx hb hts (mz_inC in_Gr) hown (T := T_Gr) (N := 9) rfl (by decide) (hts (.fieldLink "MazeForms$Grid" 26 "MazeForms$Grid" "doorOnSide" "[I") (List.mem_cons_of_mem _ wm_127)) (fun _ h => h) (mz_dg d_Gr_addDoor 38 64 (.getfield 26) 3 rfl)) ?_
  refine mz_All.cons (sd_iconst hx hb (mz_dg d_Gr_addDoor 39 67 (.iconst (4)) 1 rfl) (by decide)) ?_
  refine mz_All.cons (sd_iload_n hx hb (mz_dg d_Gr_addDoor 40 68 (.iload_n 3) 1 rfl) rfl) ?_
  refine mz_All.cons (sd_imul hx hb (mz_dg d_Gr_addDoor 41 69 (.imul) 1 rfl)) ?_
  refine mz_All.cons (sd_iload hx hb (mz_dg d_Gr_addDoor 42 70 (.iload 4) 2 rfl)) ?_
  refine mz_All.cons (sd_iadd hx hb (mz_dg d_Gr_addDoor 43 72 (.iadd) 1 rfl)) ?_
  refine mz_All.cons (sd_aload_n hx hb (mz_dg d_Gr_addDoor 44 73 (.aload_n 0) 1 rfl) rfl) ?_
  refine mz_All.cons (sd_get (k := 7) hx hb hts (mz_inC in_Gr) hown (T := T_Gr) (N := 9) rfl (by decide) (hts (.fieldLink "MazeForms$Grid" 42 "MazeForms$Grid" "doorCount" "I") (List.mem_cons_of_mem _ wm_131)) (fun _ h => h) (mz_dg d_Gr_addDoor 45 74 (.getfield 42) 3 rfl)) ?_
  refine mz_All.cons (sd_iast hx hb (mz_dg d_Gr_addDoor 46 77 (.iastore) 1 rfl)) ?_
  refine mz_All.cons (sd_aload_n hx hb (mz_dg d_Gr_addDoor 47 78 (.aload_n 0) 1 rfl) rfl) ?_
  refine mz_All.cons (sd_dup hx hb (mz_dg d_Gr_addDoor 48 79 (.dup) 1 rfl)) ?_
  refine mz_All.cons (sd_get (k := 7) hx hb hts (mz_inC in_Gr) hown (T := T_Gr) (N := 9) rfl (by decide) (hts (.fieldLink "MazeForms$Grid" 42 "MazeForms$Grid" "doorCount" "I") (List.mem_cons_of_mem _ wm_131)) (fun _ h => h) (mz_dg d_Gr_addDoor 49 80 (.getfield 42) 3 rfl)) ?_
  refine mz_All.cons (sd_iconst hx hb (mz_dg d_Gr_addDoor 50 83 (.iconst (1)) 1 rfl) (by decide)) ?_
  refine mz_All.cons (sd_iadd hx hb (mz_dg d_Gr_addDoor 51 84 (.iadd) 1 rfl)) ?_
  refine mz_All.cons (sd_puti (k := 7) hx hb hts (mz_inC in_Gr) ty_Gr ty_Gr_ok nm_Gr hown (T := T_Gr) (N := 9) rfl (by decide) (hts (.fieldLink "MazeForms$Grid" 42 "MazeForms$Grid" "doorCount" "I") (List.mem_cons_of_mem _ wm_131)) (fun _ h => h) rfl rfl (mz_dg d_Gr_addDoor 52 85 (.putfield 42) 3 rfl)) ?_
  refine mz_All.cons (sd_rv hx hb hr hlk (mz_dg d_Gr_addDoor 53 88 (.return_) 1 rfl)) ?_
  exact trivial
theorem met_Gr_addDoor (w h : Nat) (l : Launch) : mz_MV l y_Gr_addDoor w_Gr_addDoor 2 42 mz_cls (C_Gr_addDoor w h) := mz_MV_of (I_Gr_addDoor w h) (by decide) rfl (len_Gr_addDoor w h) (ok_Gr_addDoor w h) (snd_Gr_addDoor w h l)
