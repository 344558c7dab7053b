theorem mz_geo_n {w h : Nat} (g : mz_geo w h) : w * h ≤ 144 := Nat.le_trans (Nat.mul_le_mul g.2.1 g.2.2.2) (by decide)
theorem mz_geo_d {w h : Nat} (g : mz_geo w h) : mz_dn w h ≤ 288 := by
  have h1 : (w - 1) * h ≤ 12 * 12 := Nat.mul_le_mul (by have := g.2.1; omega) g.2.2.2
  have h2 : w * (h - 1) ≤ 12 * 12 := Nat.mul_le_mul g.2.1 (by have := g.2.2.2; omega)
  unfold mz_dn
  omega
theorem mz_in {x : Int32} {N : Nat} (h0 : ¬ x < 0) (h1 : ¬ nI N ≤ x) (hN : N < 2 ^ 31) : vp_in x N := by
  rw [Int32.lt_iff_toInt_lt, Int32.toInt_zero] at h0
  rw [Int32.le_iff_toInt_le, nI_toInt hN] at h1
  exact vp_in_iff.mpr (by omega)
theorem mz_lt_in {x : Int32} {N : Nat} (h : mz_lt x N = true) (hN : N < 2 ^ 31) : vp_in x N := by
  simp only [mz_lt, Bool.and_eq_true, Bool.not_eq_true', decide_eq_false_iff_not] at h
  exact mz_in h.1 h.2 hN
theorem zg_door_in {w h : Nat} {X : mz_X} {x : Int32} (g : mz_geo w h) (hd : zg_door w h X x = true) : vp_in x (mz_dn w h) := by
  simp only [zg_door, Bool.and_eq_true, Bool.not_eq_true', decide_eq_false_iff_not] at hd
  exact mz_in hd.1.1 hd.2 (Nat.lt_of_le_of_lt (mz_geo_d g) (by decide))
theorem mz_b0 {b : Bool} (h : mz_b b = 0) : b = false := by cases b <;> simp_all [mz_b]
theorem mz_b1 {b : Bool} (h : ¬ mz_b b = 0) : b = true := by cases b <;> simp_all [mz_b]
theorem mz_bt {b : Bool} (h : b = true) : mz_b b = 1 := by subst h; rfl
theorem mz_bf {b : Bool} (h : b = false) : mz_b b = 0 := by subst h; rfl
theorem mz_side_in {c s : Int32} {n : Nat} (hn : n ≤ 144) (hc : vp_in c n) (h0 : ¬ s < 0) (h1 : ¬ 4 ≤ s) : vp_in (4 * c + s) (4 * n) := by
  obtain ⟨j, hj, rfl⟩ := vp_in_of hc (by omega)
  obtain ⟨k, hk, rfl⟩ := nI_of h0
  have h4 : k < 4 := by
    rw [show (4 : Int32) = nI 4 from rfl, nI_leI (by decide) hk] at h1
    omega
  rw [show (4 : Int32) = nI 4 from rfl, pk_mul, nI_add]
  exact vp_in_nI (by omega) (by omega)
theorem len_Gr_width (w h : Nat) (lay : List mz_E) (as : List Value) (X : mz_X) (Q : Int32 → mz_X → Prop) (hC : C_Gr_width w h lay as X Q) : (mz_l0 as).length ≤ 1 := by
  unfold C_Gr_width at hC
  split at hC
  · exact Nat.le_of_ble_eq_true rfl
  · exact hC.elim
theorem ok_Gr_width (w h : Nat) (lay : List mz_E) (as : List Value) (X : mz_X) (Q : Int32 → mz_X → Prop) (hC : C_Gr_width w h lay as X Q) (K : mz_K) (hK : mz_Cl (I_Gr_width w h) (mz_qi lay Q) K) : K 0 (mz_ent 1 as) [] (lay, X) := by
  unfold C_Gr_width at hC
  split at hC
  ·
    obtain ⟨rfl, g, hq⟩ := hC
    iterate 2 refine hK _ _ _ _ ?_
    exact hK _ _ _ _ (And.intro rfl (hq))
  · exact hC.elim
theorem len_Gr_cellCount (w h : Nat) (lay : List mz_E) (as : List Value) (X : mz_X) (Q : Int32 → mz_X → Prop) (hC : C_Gr_cellCount w h lay as X Q) : (mz_l0 as).length ≤ 1 := by
  unfold C_Gr_cellCount at hC
  split at hC
  · exact Nat.le_of_ble_eq_true rfl
  · exact hC.elim
theorem ok_Gr_cellCount (w h : Nat) (lay : List mz_E) (as : List Value) (X : mz_X) (Q : Int32 → mz_X → Prop) (hC : C_Gr_cellCount w h lay as X Q) (K : mz_K) (hK : mz_Cl (I_Gr_cellCount w h) (mz_qi lay Q) K) : K 0 (mz_ent 1 as) [] (lay, X) := by
  unfold C_Gr_cellCount at hC
  split at hC
  ·
    obtain ⟨rfl, g, hq⟩ := hC
    iterate 3 refine hK _ _ _ _ ?_
    exact hK _ _ _ _ (And.intro rfl (hq))
  · exact hC.elim
theorem len_Gr_mostDoors (w h : Nat) (lay : List mz_E) (as : List Value) (X : mz_X) (Q : Int32 → mz_X → Prop) (hC : C_Gr_mostDoors w h lay as X Q) : (mz_l0 as).length ≤ 1 := by
  unfold C_Gr_mostDoors at hC
  split at hC
  · exact Nat.le_of_ble_eq_true rfl
  · exact hC.elim
theorem ok_Gr_mostDoors (w h : Nat) (lay : List mz_E) (as : List Value) (X : mz_X) (Q : Int32 → mz_X → Prop) (hC : C_Gr_mostDoors w h lay as X Q) (K : mz_K) (hK : mz_Cl (I_Gr_mostDoors w h) (mz_qi lay Q) K) : K 0 (mz_ent 1 as) [] (lay, X) := by
  unfold C_Gr_mostDoors at hC
  split at hC
  ·
    obtain ⟨rfl, g, hq⟩ := hC
    iterate 3 refine hK _ _ _ _ ?_
    exact hK _ _ _ _ (And.intro rfl (hq))
  · exact hC.elim
theorem len_Gr_doorCount (w h : Nat) (lay : List mz_E) (as : List Value) (X : mz_X) (Q : Int32 → mz_X → Prop) (hC : C_Gr_doorCount w h lay as X Q) : (mz_l0 as).length ≤ 1 := by
  unfold C_Gr_doorCount at hC
  split at hC
  · exact Nat.le_of_ble_eq_true rfl
  · exact hC.elim
theorem ok_Gr_doorCount (w h : Nat) (lay : List mz_E) (as : List Value) (X : mz_X) (Q : Int32 → mz_X → Prop) (hC : C_Gr_doorCount w h lay as X Q) (K : mz_K) (hK : mz_Cl (I_Gr_doorCount w h) (mz_qi lay Q) K) : K 0 (mz_ent 1 as) [] (lay, X) := by
  unfold C_Gr_doorCount at hC
  split at hC
  ·
    obtain ⟨rfl, g, hq⟩ := hC
    iterate 2 refine hK _ _ _ _ ?_
    exact hK _ _ _ _ (And.intro rfl (hq))
  · exact hC.elim
theorem len_Gr_edition (w h : Nat) (lay : List mz_E) (as : List Value) (X : mz_X) (Q : Int32 → mz_X → Prop) (hC : C_Gr_edition w h lay as X Q) : (mz_l0 as).length ≤ 1 := by
  unfold C_Gr_edition at hC
  split at hC
  · exact Nat.le_of_ble_eq_true rfl
  · exact hC.elim
theorem ok_Gr_edition (w h : Nat) (lay : List mz_E) (as : List Value) (X : mz_X) (Q : Int32 → mz_X → Prop) (hC : C_Gr_edition w h lay as X Q) (K : mz_K) (hK : mz_Cl (I_Gr_edition w h) (mz_qi lay Q) K) : K 0 (mz_ent 1 as) [] (lay, X) := by
  unfold C_Gr_edition at hC
  split at hC
  ·
    obtain ⟨rfl, g, hq⟩ := hC
    iterate 2 refine hK _ _ _ _ ?_
    exact hK _ _ _ _ (And.intro rfl (hq))
  · exact hC.elim
theorem len_Gr_isCell (w h : Nat) (lay : List mz_E) (as : List Value) (X : mz_X) (Q : Int32 → mz_X → Prop) (hC : C_Gr_isCell w h lay as X Q) : (mz_l0 as).length ≤ 2 := by
  unfold C_Gr_isCell at hC
  split at hC
  · exact Nat.le_of_ble_eq_true rfl
  · exact hC.elim
theorem ok_Gr_isCell (w h : Nat) (lay : List mz_E) (as : List Value) (X : mz_X) (Q : Int32 → mz_X → Prop) (hC : C_Gr_isCell w h lay as X Q) (K : mz_K) (hK : mz_Cl (I_Gr_isCell w h) (mz_qi lay Q) K) : K 0 (mz_ent 2 as) [] (lay, X) := by
  unfold C_Gr_isCell at hC
  split at hC
  · next x =>
    obtain ⟨rfl, g, hq⟩ := hC
    refine hK _ _ _ _ ?_
    refine hK _ _ _ _ (And.intro (fun c1 => ?_) (fun c1 => ?_))
    · refine hK _ _ _ _ ?_
      exact hK _ _ _ _ (And.intro (Or.inl rfl) (And.intro rfl (by simpa [mz_lt, c1, mz_b] using hq)))
    · iterate 4 refine hK _ _ _ _ ?_
      refine hK _ _ _ _ (And.intro (fun c2 => ?_) (fun c2 => ?_))
      · refine hK _ _ _ _ ?_
        exact hK _ _ _ _ (And.intro (Or.inl rfl) (And.intro rfl (by simpa [mz_lt, c2, mz_b] using hq)))
      · iterate 2 refine hK _ _ _ _ ?_
        exact hK _ _ _ _ (And.intro (Or.inr rfl) (And.intro rfl (by simpa [mz_lt, c1, c2, mz_b] using hq)))
  · exact hC.elim
theorem len_Gr_isFree (w h : Nat) (lay : List mz_E) (as : List Value) (X : mz_X) (Q : Int32 → mz_X → Prop) (hC : C_Gr_isFree w h lay as X Q) : (mz_l0 as).length ≤ 2 := by
  unfold C_Gr_isFree at hC
  split at hC
  · exact Nat.le_of_ble_eq_true rfl
  · exact hC.elim
theorem ok_Gr_isFree (w h : Nat) (lay : List mz_E) (as : List Value) (X : mz_X) (Q : Int32 → mz_X → Prop) (hC : C_Gr_isFree w h lay as X Q) (K : mz_K) (hK : mz_Cl (I_Gr_isFree w h) (mz_qi lay Q) K) : K 0 (mz_ent 2 as) [] (lay, X) := by
  unfold C_Gr_isFree at hC
  split at hC
  · next x =>
    obtain ⟨rfl, g, hq⟩ := hC
    iterate 2 refine hK _ _ _ _ ?_
    refine hK _ _ _ _ (And.intro (rfl) (And.intro (g) ?_))
    refine hK _ _ _ _ (And.intro (fun c1 => ?_) (fun c1 => ?_))
    · refine hK _ _ _ _ ?_
      exact hK _ _ _ _ (And.intro (Or.inl rfl) (And.intro rfl (by simpa [zg_free, mz_b0 c1, mz_b] using hq)))
    · iterate 3 refine hK _ _ _ _ ?_
      refine hK _ _ _ _ (And.intro (mz_lt_in (mz_b1 c1) (Nat.lt_of_le_of_lt (mz_geo_n g) (by decide))) ?_)
      refine hK _ _ _ _ (And.intro (fun c2 => ?_) (fun c2 => ?_))
      · dsimp only at c2
        iterate 2 refine hK _ _ _ _ ?_
        exact hK _ _ _ _ (And.intro (Or.inr rfl) (And.intro rfl (by simpa [zg_free, mz_b1 c1, c2, mz_b] using hq)))
      · dsimp only at c2
        refine hK _ _ _ _ ?_
        exact hK _ _ _ _ (And.intro (Or.inl rfl) (And.intro rfl (by simpa [zg_free, c2, mz_b] using hq)))
  · exact hC.elim
theorem len_Gr_isDoor (w h : Nat) (lay : List mz_E) (as : List Value) (X : mz_X) (Q : Int32 → mz_X → Prop) (hC : C_Gr_isDoor w h lay as X Q) : (mz_l0 as).length ≤ 2 := by
  unfold C_Gr_isDoor at hC
  split at hC
  · exact Nat.le_of_ble_eq_true rfl
  · exact hC.elim
theorem ok_Gr_isDoor (w h : Nat) (lay : List mz_E) (as : List Value) (X : mz_X) (Q : Int32 → mz_X → Prop) (hC : C_Gr_isDoor w h lay as X Q) (K : mz_K) (hK : mz_Cl (I_Gr_isDoor w h) (mz_qi lay Q) K) : K 0 (mz_ent 2 as) [] (lay, X) := by
  unfold C_Gr_isDoor at hC
  split at hC
  · next x =>
    obtain ⟨rfl, g, hq⟩ := hC
    refine hK _ _ _ _ ?_
    refine hK _ _ _ _ (And.intro (fun c1 => ?_) (fun c1 => ?_))
    · refine hK _ _ _ _ ?_
      exact hK _ _ _ _ (And.intro (Or.inl rfl) (And.intro rfl (by simpa [zg_door, c1, mz_b] using hq)))
    · iterate 3 refine hK _ _ _ _ ?_
      refine hK _ _ _ _ (And.intro (fun c2 => ?_) (fun c2 => ?_))
      · refine hK _ _ _ _ ?_
        exact hK _ _ _ _ (And.intro (Or.inl rfl) (And.intro rfl (by simpa [zg_door, c2, mz_b] using hq)))
      · iterate 4 refine hK _ _ _ _ ?_
        refine hK _ _ _ _ (And.intro (fun c3 => ?_) (fun c3 => ?_))
        · refine hK _ _ _ _ ?_
          exact hK _ _ _ _ (And.intro (Or.inl rfl) (And.intro rfl (by simpa [zg_door, c3, mz_b] using hq)))
        · iterate 2 refine hK _ _ _ _ ?_
          exact hK _ _ _ _ (And.intro (Or.inr rfl) (And.intro rfl (by simpa [zg_door, c1, c2, c3, mz_b] using hq)))
  · exact hC.elim
theorem len_Gr_isOpen (w h : Nat) (lay : List mz_E) (as : List Value) (X : mz_X) (Q : Int32 → mz_X → Prop) (hC : C_Gr_isOpen w h lay as X Q) : (mz_l0 as).length ≤ 2 := by
  unfold C_Gr_isOpen at hC
  split at hC
  · exact Nat.le_of_ble_eq_true rfl
  · exact hC.elim
theorem ok_Gr_isOpen (w h : Nat) (lay : List mz_E) (as : List Value) (X : mz_X) (Q : Int32 → mz_X → Prop) (hC : C_Gr_isOpen w h lay as X Q) (K : mz_K) (hK : mz_Cl (I_Gr_isOpen w h) (mz_qi lay Q) K) : K 0 (mz_ent 2 as) [] (lay, X) := by
  unfold C_Gr_isOpen at hC
  split at hC
  · next x =>
    obtain ⟨rfl, g, hq⟩ := hC
    iterate 2 refine hK _ _ _ _ ?_
    refine hK _ _ _ _ (And.intro (rfl) (And.intro (g) ?_))
    refine hK _ _ _ _ (And.intro (fun c1 => ?_) (fun c1 => ?_))
    · refine hK _ _ _ _ ?_
      exact hK _ _ _ _ (And.intro (Or.inl rfl) (And.intro rfl (by simpa [zg_open, mz_b0 c1, mz_b] using hq)))
    · iterate 3 refine hK _ _ _ _ ?_
      refine hK _ _ _ _ (And.intro (zg_door_in g (mz_b1 c1)) ?_)
      refine hK _ _ _ _ (And.intro (fun c2 => ?_) (fun c2 => ?_))
      · dsimp only at c2
        refine hK _ _ _ _ ?_
        exact hK _ _ _ _ (And.intro (Or.inl rfl) (And.intro rfl (by simpa [zg_open, c2, mz_b] using hq)))
      · dsimp only at c2
        iterate 2 refine hK _ _ _ _ ?_
        exact hK _ _ _ _ (And.intro (Or.inr rfl) (And.intro rfl (by simpa [zg_open, mz_b1 c1, c2, mz_b] using hq)))
  · exact hC.elim
theorem len_Gr_lesserCell (w h : Nat) (lay : List mz_E) (as : List Value) (X : mz_X) (Q : Int32 → mz_X → Prop) (hC : C_Gr_lesserCell w h lay as X Q) : (mz_l0 as).length ≤ 2 := by
  unfold C_Gr_lesserCell at hC
  split at hC
  · exact Nat.le_of_ble_eq_true rfl
  · exact hC.elim
theorem ok_Gr_lesserCell (w h : Nat) (lay : List mz_E) (as : List Value) (X : mz_X) (Q : Int32 → mz_X → Prop) (hC : C_Gr_lesserCell w h lay as X Q) (K : mz_K) (hK : mz_Cl (I_Gr_lesserCell w h) (mz_qi lay Q) K) : K 0 (mz_ent 2 as) [] (lay, X) := by
  unfold C_Gr_lesserCell at hC
  split at hC
  · next d =>
    obtain ⟨rfl, g, hq⟩ := hC
    iterate 2 refine hK _ _ _ _ ?_
    refine hK _ _ _ _ (And.intro (rfl) (And.intro (g) ?_))
    refine hK _ _ _ _ (And.intro (fun c1 => ?_) (fun c1 => ?_))
    · refine hK _ _ _ _ ?_
      exact hK _ _ _ _ (And.intro rfl (by simpa [zg_les, mz_b0 c1] using hq))
    · iterate 3 refine hK _ _ _ _ ?_
      refine hK _ _ _ _ (And.intro (zg_door_in g (mz_b1 c1)) ?_)
      refine hK _ _ _ _ ?_
      exact hK _ _ _ _ (And.intro rfl (by simpa [zg_les, mz_b1 c1] using hq))
  · exact hC.elim
theorem len_Gr_greaterCell (w h : Nat) (lay : List mz_E) (as : List Value) (X : mz_X) (Q : Int32 → mz_X → Prop) (hC : C_Gr_greaterCell w h lay as X Q) : (mz_l0 as).length ≤ 2 := by
  unfold C_Gr_greaterCell at hC
  split at hC
  · exact Nat.le_of_ble_eq_true rfl
  · exact hC.elim
theorem ok_Gr_greaterCell (w h : Nat) (lay : List mz_E) (as : List Value) (X : mz_X) (Q : Int32 → mz_X → Prop) (hC : C_Gr_greaterCell w h lay as X Q) (K : mz_K) (hK : mz_Cl (I_Gr_greaterCell w h) (mz_qi lay Q) K) : K 0 (mz_ent 2 as) [] (lay, X) := by
  unfold C_Gr_greaterCell at hC
  split at hC
  · next d =>
    obtain ⟨rfl, g, hq⟩ := hC
    iterate 2 refine hK _ _ _ _ ?_
    refine hK _ _ _ _ (And.intro (rfl) (And.intro (g) ?_))
    refine hK _ _ _ _ (And.intro (fun c1 => ?_) (fun c1 => ?_))
    · refine hK _ _ _ _ ?_
      exact hK _ _ _ _ (And.intro rfl (by simpa [zg_gre, mz_b0 c1] using hq))
    · iterate 3 refine hK _ _ _ _ ?_
      refine hK _ _ _ _ (And.intro (zg_door_in g (mz_b1 c1)) ?_)
      refine hK _ _ _ _ ?_
      exact hK _ _ _ _ (And.intro rfl (by simpa [zg_gre, mz_b1 c1] using hq))
  · exact hC.elim
theorem len_Gr_cellAt (w h : Nat) (lay : List mz_E) (as : List Value) (X : mz_X) (Q : Int32 → mz_X → Prop) (hC : C_Gr_cellAt w h lay as X Q) : (mz_l0 as).length ≤ 4 := by
  unfold C_Gr_cellAt at hC
  split at hC
  · exact Nat.le_of_ble_eq_true rfl
  · exact hC.elim
theorem ok_Gr_cellAt (w h : Nat) (lay : List mz_E) (as : List Value) (X : mz_X) (Q : Int32 → mz_X → Prop) (hC : C_Gr_cellAt w h lay as X Q) (K : mz_K) (hK : mz_Cl (I_Gr_cellAt w h) (mz_qi lay Q) K) : K 0 (mz_ent 4 as) [] (lay, X) := by
  unfold C_Gr_cellAt at hC
  split at hC
  · next x y =>
    obtain ⟨rfl, g, hq⟩ := hC
    have h28 : zg_at X x y = -1 → K 28 (mz_ent 4 [.ref 1, .int x, .int y]) [] (mz_lay w h, X) := by
      intro e
      rw [e] at hq
      iterate 3 refine hK _ _ _ _ ?_
      refine hK _ _ _ _ (And.intro (fun c9 => ?_) (fun c9 => ?_))
      · refine hK _ _ _ _ ?_
        exact hK _ _ _ _ (And.intro rfl (hq))
      · exact absurd rfl c9
    refine hK _ _ _ _ ?_
    refine hK _ _ _ _ (And.intro (fun c1 => ?_) (fun c1 => ?_))
    · exact h28 (by simp [zg_at, c1])
    · iterate 3 refine hK _ _ _ _ ?_
      refine hK _ _ _ _ (And.intro (fun c2 => ?_) (fun c2 => ?_))
      · dsimp only at c2
        exact h28 (by simp [zg_at, c2])
      · dsimp only at c2
        refine hK _ _ _ _ ?_
        refine hK _ _ _ _ (And.intro (fun c3 => ?_) (fun c3 => ?_))
        · exact h28 (by simp [zg_at, c3])
        · iterate 3 refine hK _ _ _ _ ?_
          refine hK _ _ _ _ (And.intro (fun c4 => ?_) (fun c4 => ?_))
          · dsimp only at c4
            exact h28 (by simp [zg_at, c4])
          · dsimp only at c4
            iterate 4 refine hK _ _ _ _ ?_
            refine hK _ _ _ _ (And.intro (fun c5 => ?_) (fun c5 => ?_))
            · exact absurd c5 (by decide)
            · iterate 7 refine hK _ _ _ _ ?_
              exact hK _ _ _ _ (And.intro rfl (by simpa [zg_at, c1, c2, c3, c4] using hq))
  · exact hC.elim
theorem len_Gr_doorOn (w h : Nat) (lay : List mz_E) (as : List Value) (X : mz_X) (Q : Int32 → mz_X → Prop) (hC : C_Gr_doorOn w h lay as X Q) : (mz_l0 as).length ≤ 4 := by
  unfold C_Gr_doorOn at hC
  split at hC
  · exact Nat.le_of_ble_eq_true rfl
  · exact hC.elim
theorem ok_Gr_doorOn (w h : Nat) (lay : List mz_E) (as : List Value) (X : mz_X) (Q : Int32 → mz_X → Prop) (hC : C_Gr_doorOn w h lay as X Q) (K : mz_K) (hK : mz_Cl (I_Gr_doorOn w h) (mz_qi lay Q) K) : K 0 (mz_ent 4 as) [] (lay, X) := by
  unfold C_Gr_doorOn at hC
  split at hC
  · next c s =>
    obtain ⟨rfl, g, hq⟩ := hC
    have h21 : zg_on w h X c s = -1 → K 21 (mz_ent 4 [.ref 1, .int c, .int s]) [] (mz_lay w h, X) := by
      intro e
      rw [e] at hq
      iterate 3 refine hK _ _ _ _ ?_
      refine hK _ _ _ _ (And.intro (fun c9 => ?_) (fun c9 => ?_))
      · refine hK _ _ _ _ ?_
        exact hK _ _ _ _ (And.intro rfl (hq))
      · exact absurd rfl c9
    iterate 2 refine hK _ _ _ _ ?_
    refine hK _ _ _ _ (And.intro (rfl) (And.intro (g) ?_))
    refine hK _ _ _ _ (And.intro (fun c1 => ?_) (fun c1 => ?_))
    · exact h21 (by simp [zg_on, mz_b0 c1])
    · refine hK _ _ _ _ ?_
      refine hK _ _ _ _ (And.intro (fun c2 => ?_) (fun c2 => ?_))
      · exact h21 (by simp [zg_on, c2])
      · iterate 2 refine hK _ _ _ _ ?_
        refine hK _ _ _ _ (And.intro (fun c3 => ?_) (fun c3 => ?_))
        · exact h21 (by simp [zg_on, c3])
        · iterate 4 refine hK _ _ _ _ ?_
          refine hK _ _ _ _ (And.intro (fun c5 => ?_) (fun c5 => ?_))
          · exact absurd c5 (by decide)
          · iterate 7 refine hK _ _ _ _ ?_
            refine hK _ _ _ _ (And.intro (mz_side_in (mz_geo_n g) (mz_lt_in (mz_b1 c1) (Nat.lt_of_le_of_lt (mz_geo_n g) (by decide))) c2 c3) ?_)
            refine hK _ _ _ _ ?_
            exact hK _ _ _ _ (And.intro rfl (by simpa [zg_on, mz_b1 c1, c2, c3] using hq))
  · exact hC.elim
theorem len_Gr_otherCell (w h : Nat) (lay : List mz_E) (as : List Value) (X : mz_X) (Q : Int32 → mz_X → Prop) (hC : C_Gr_otherCell w h lay as X Q) : (mz_l0 as).length ≤ 3 := by
  unfold C_Gr_otherCell at hC
  split at hC
  · exact Nat.le_of_ble_eq_true rfl
  · exact hC.elim
theorem ok_Gr_otherCell (w h : Nat) (lay : List mz_E) (as : List Value) (X : mz_X) (Q : Int32 → mz_X → Prop) (hC : C_Gr_otherCell w h lay as X Q) (K : mz_K) (hK : mz_Cl (I_Gr_otherCell w h) (mz_qi lay Q) K) : K 0 (mz_ent 3 as) [] (lay, X) := by
  unfold C_Gr_otherCell at hC
  split at hC
  · next d c =>
    obtain ⟨rfl, g, hq⟩ := hC
    iterate 2 refine hK _ _ _ _ ?_
    refine hK _ _ _ _ (And.intro (rfl) (And.intro (g) ?_))
    refine hK _ _ _ _ (And.intro (fun c1 => ?_) (fun c1 => ?_))
    · refine hK _ _ _ _ ?_
      exact hK _ _ _ _ (And.intro rfl (by simpa [zg_oth, mz_b0 c1] using hq))
    · iterate 3 refine hK _ _ _ _ ?_
      refine hK _ _ _ _ (And.intro (zg_door_in g (mz_b1 c1)) ?_)
      refine hK _ _ _ _ ?_
      refine hK _ _ _ _ (And.intro (fun c2 => ?_) (fun c2 => ?_))
      · dsimp only at c2
        iterate 3 refine hK _ _ _ _ ?_
        refine hK _ _ _ _ (And.intro (zg_door_in g (mz_b1 c1)) ?_)
        refine hK _ _ _ _ ?_
        exact hK _ _ _ _ (And.intro rfl (by simpa [zg_oth, mz_b1 c1, c2] using hq))
      · dsimp only at c2
        iterate 3 refine hK _ _ _ _ ?_
        refine hK _ _ _ _ (And.intro (zg_door_in g (mz_b1 c1)) ?_)
        exact hK _ _ _ _ (And.intro rfl (by simpa [zg_oth, mz_b1 c1, c2] using hq))
  · exact hC.elim
set_option maxRecDepth 20000 in
theorem snd_Gr_width (w h : Nat) (l : Launch) (p : Program) (e : Env) (s : State) (m : MethodId) (args : Array Value) (below : List Frame) (meth : Method) (c : Code) (D : va_G) (ad0 : Nat → Nat) (cA0 : Nat → ClassId) (A : Nat → Prop) (lay : List mz_E) (Q : Int32 → mz_X → Prop) (F : mz_F p s m args meth c prog_5_method_2_code 1 y_Gr_width.cls (some .int) w_Gr_width) (hA : ∀ q, s.heap.size ≤ q → A q) : mz_All (mz_V p l e (mz_rm 0 0) s m args below meth c 1 lay.length (mz_sz lay) D mz_cls (mz_G0 ad0 cA0) A (MQ below (va_Qi Q (mz_B D mz_cls ad0 cA0 lay A) A) args s 0 0 A)) (mz_qi lay Q) (I_Gr_width w h) := by
  obtain ⟨hx, hb, hml, hown, hts, hr, hlk⟩ := F
  unfold I_Gr_width
  refine mz_All.cons (sd_aload_n hx hb (mz_dg d_Gr_width 0 0 (.aload_n 0) 1 rfl) rfl) ?_
  refine mz_All.cons (sd_get (k := 0) hx hb hts (mz_inC in_Gr) hown (T := T_Gr) (N := 9) rfl (by decide) (hts (.fieldLink "MazeForms$Grid" 15 "MazeForms$Grid" "width" "I") (List.mem_cons_of_mem _ wm_124)) (fun _ h => h) (mz_dg d_Gr_width 1 1 (.getfield 15) 3 rfl)) ?_
  refine mz_All.cons (sd_ri hx hb hr hlk (mz_dg d_Gr_width 2 4 (.ireturn) 1 rfl)) ?_
  exact trivial
theorem met_Gr_width (w h : Nat) (l : Launch) : mz_MI l y_Gr_width w_Gr_width 0 0 mz_cls (C_Gr_width w h) := mz_MI_of (I_Gr_width w h) (by decide) rfl (len_Gr_width w h) (ok_Gr_width w h) (snd_Gr_width w h l)
set_option maxRecDepth 20000 in
theorem snd_Gr_cellCount (w h : Nat) (l : Launch) (p : Program) (e : Env) (s : State) (m : MethodId) (args : Array Value) (below : List Frame) (meth : Method) (c : Code) (D : va_G) (ad0 : Nat → Nat) (cA0 : Nat → ClassId) (A : Nat → Prop) (lay : List mz_E) (Q : Int32 → mz_X → Prop) (F : mz_F p s m args meth c prog_5_method_3_code 1 y_Gr_cellCount.cls (some .int) w_Gr_cellCount) (hA : ∀ q, s.heap.size ≤ q → A q) : mz_All (mz_V p l e (mz_rm 0 0) s m args below meth c 1 lay.length (mz_sz lay) D mz_cls (mz_G0 ad0 cA0) A (MQ below (va_Qi Q (mz_B D mz_cls ad0 cA0 lay A) A) args s 0 0 A)) (mz_qi lay Q) (I_Gr_cellCount w h) := by
  obtain ⟨hx, hb, hml, hown, hts, hr, hlk⟩ := F
  unfold I_Gr_cellCount
  refine mz_All.cons (sd_aload_n hx hb (mz_dg d_Gr_cellCount 0 0 (.aload_n 0) 1 rfl) rfl) ?_
  refine mz_All.cons (sd_get (k := 2) hx hb hts (mz_inC in_Gr) hown (T := T_Gr) (N := 9) rfl (by decide) (hts (.fieldLink "MazeForms$Grid" 22 "MazeForms$Grid" "masked" "[Z") (List.mem_cons_of_mem _ wm_126)) (fun _ h => h) (mz_dg d_Gr_cellCount 1 1 (.getfield 22) 3 rfl)) ?_
  refine mz_All.cons (sd_alen hx hb (mz_dg d_Gr_cellCount 2 4 (.arraylength) 1 rfl)) ?_
  refine mz_All.cons (sd_ri hx hb hr hlk (mz_dg d_Gr_cellCount 3 5 (.ireturn) 1 rfl)) ?_
  exact trivial
theorem met_Gr_cellCount (w h : Nat) (l : Launch) : mz_MI l y_Gr_cellCount w_Gr_cellCount 0 0 mz_cls (C_Gr_cellCount w h) := mz_MI_of (I_Gr_cellCount w h) (by decide) rfl (len_Gr_cellCount w h) (ok_Gr_cellCount w h) (snd_Gr_cellCount w h l)
set_option maxRecDepth 20000 in
theorem snd_Gr_mostDoors (w h : Nat) (l : Launch) (p : Program) (e : Env) (s : State) (m : MethodId) (args : Array Value) (below : List Frame) (meth : Method) (c : Code) (D : va_G) (ad0 : Nat → Nat) (cA0 : Nat → ClassId) (A : Nat → Prop) (lay : List mz_E) (Q : Int32 → mz_X → Prop) (F : mz_F p s m args meth c prog_5_method_4_code 1 y_Gr_mostDoors.cls (some .int) w_Gr_mostDoors) (hA : ∀ q, s.heap.size ≤ q → A q) : mz_All (mz_V p l e (mz_rm 0 0) s m args below meth c 1 lay.length (mz_sz lay) D mz_cls (mz_G0 ad0 cA0) A (MQ below (va_Qi Q (mz_B D mz_cls ad0 cA0 lay A) A) args s 0 0 A)) (mz_qi lay Q) (I_Gr_mostDoors w h) := by
  obtain ⟨hx, hb, hml, hown, hts, hr, hlk⟩ := F
  unfold I_Gr_mostDoors
  refine mz_All.cons (sd_aload_n hx hb (mz_dg d_Gr_mostDoors 0 0 (.aload_n 0) 1 rfl) rfl) ?_
  refine mz_All.cons (sd_get (k := 6) hx hb hts (mz_inC in_Gr) hown (T := T_Gr) (N := 9) rfl (by decide) (hts (.fieldLink "MazeForms$Grid" 36 "MazeForms$Grid" "doorOpen" "[Z") (List.mem_cons_of_mem _ wm_130)) (fun _ h => h) (mz_dg d_Gr_mostDoors 1 1 (.getfield 36) 3 rfl)) ?_
  refine mz_All.cons (sd_alen hx hb (mz_dg d_Gr_mostDoors 2 4 (.arraylength) 1 rfl)) ?_
  refine mz_All.cons (sd_ri hx hb hr hlk (mz_dg d_Gr_mostDoors 3 5 (.ireturn) 1 rfl)) ?_
  exact trivial
theorem met_Gr_mostDoors (w h : Nat) (l : Launch) : mz_MI l y_Gr_mostDoors w_Gr_mostDoors 0 0 mz_cls (C_Gr_mostDoors w h) := mz_MI_of (I_Gr_mostDoors w h) (by decide) rfl (len_Gr_mostDoors w h) (ok_Gr_mostDoors w h) (snd_Gr_mostDoors w h l)
set_option maxRecDepth 20000 in
theorem snd_Gr_doorCount (w h : Nat) (l : Launch) (p : Program) (e : Env) (s : State) (m : MethodId) (args : Array Value) (below : List Frame) (meth : Method) (c : Code) (D : va_G) (ad0 : Nat → Nat) (cA0 : Nat → ClassId) (A : Nat → Prop) (lay : List mz_E) (Q : Int32 → mz_X → Prop) (F : mz_F p s m args meth c prog_5_method_5_code 1 y_Gr_doorCount.cls (some .int) w_Gr_doorCount) (hA : ∀ q, s.heap.size ≤ q → A q) : mz_All (mz_V p l e (mz_rm 0 0) s m args below meth c 1 lay.length (mz_sz lay) D mz_cls (mz_G0 ad0 cA0) A (MQ below (va_Qi Q (mz_B D mz_cls ad0 cA0 lay A) A) args s 0 0 A)) (mz_qi lay Q) (I_Gr_doorCount w h) := by
  obtain ⟨hx, hb, hml, hown, hts, hr, hlk⟩ := F
  unfold I_Gr_doorCount
  refine mz_All.cons (sd_aload_n hx hb (mz_dg d_Gr_doorCount 0 0 (.aload_n 0) 1 rfl) rfl) ?_
  refine mz_All.cons (sd_get (k := 7) hx hb hts (mz_inC in_Gr) hown (T := T_Gr) (N := 9) rfl (by decide) (hts (.fieldLink "MazeForms$Grid" 42 "MazeForms$Grid" "doorCount" "I") (List.mem_cons_of_mem _ wm_131)) (fun _ h => h) (mz_dg d_Gr_doorCount 1 1 (.getfield 42) 3 rfl)) ?_
  refine mz_All.cons (sd_ri hx hb hr hlk (mz_dg d_Gr_doorCount 2 4 (.ireturn) 1 rfl)) ?_
  exact trivial
theorem met_Gr_doorCount (w h : Nat) (l : Launch) : mz_MI l y_Gr_doorCount w_Gr_doorCount 0 0 mz_cls (C_Gr_doorCount w h) := mz_MI_of (I_Gr_doorCount w h) (by decide) rfl (len_Gr_doorCount w h) (ok_Gr_doorCount w h) (snd_Gr_doorCount w h l)
set_option maxRecDepth 20000 in
theorem snd_Gr_edition (w h : Nat) (l : Launch) (p : Program) (e : Env) (s : State) (m : MethodId) (args : Array Value) (below : List Frame) (meth : Method) (c : Code) (D : va_G) (ad0 : Nat → Nat) (cA0 : Nat → ClassId) (A : Nat → Prop) (lay : List mz_E) (Q : Int32 → mz_X → Prop) (F : mz_F p s m args meth c prog_5_method_6_code 1 y_Gr_edition.cls (some .int) w_Gr_edition) (hA : ∀ q, s.heap.size ≤ q → A q) : mz_All (mz_V p l e (mz_rm 0 0) s m args below meth c 1 lay.length (mz_sz lay) D mz_cls (mz_G0 ad0 cA0) A (MQ below (va_Qi Q (mz_B D mz_cls ad0 cA0 lay A) A) args s 0 0 A)) (mz_qi lay Q) (I_Gr_edition w h) := by
  obtain ⟨hx, hb, hml, hown, hts, hr, hlk⟩ := F
  unfold I_Gr_edition
  refine mz_All.cons (sd_aload_n hx hb (mz_dg d_Gr_edition 0 0 (.aload_n 0) 1 rfl) rfl) ?_
  refine mz_All.cons (sd_get (k := 8) hx hb hts (mz_inC in_Gr) hown (T := T_Gr) (N := 9) rfl (by decide) (hts (.fieldLink "MazeForms$Grid" 45 "MazeForms$Grid" "edition" "I") (List.mem_cons_of_mem _ wm_132)) (fun _ h => h) (mz_dg d_Gr_edition 1 1 (.getfield 45) 3 rfl)) ?_
  refine mz_All.cons (sd_ri hx hb hr hlk (mz_dg d_Gr_edition 2 4 (.ireturn) 1 rfl)) ?_
  exact trivial
theorem met_Gr_edition (w h : Nat) (l : Launch) : mz_MI l y_Gr_edition w_Gr_edition 0 0 mz_cls (C_Gr_edition w h) := mz_MI_of (I_Gr_edition w h) (by decide) rfl (len_Gr_edition w h) (ok_Gr_edition w h) (snd_Gr_edition w h l)
set_option maxRecDepth 20000 in
theorem snd_Gr_isCell (w h : Nat) (l : Launch) (p : Program) (e : Env) (s : State) (m : MethodId) (args : Array Value) (below : List Frame) (meth : Method) (c : Code) (D : va_G) (ad0 : Nat → Nat) (cA0 : Nat → ClassId) (A : Nat → Prop) (lay : List mz_E) (Q : Int32 → mz_X → Prop) (F : mz_F p s m args meth c prog_5_method_8_code 2 y_Gr_isCell.cls (some .boolean) w_Gr_isCell) (hA : ∀ q, s.heap.size ≤ q → A q) : mz_All (mz_V p l e (mz_rm 0 0) s m args below meth c 2 lay.length (mz_sz lay) D mz_cls (mz_G0 ad0 cA0) A (MQ below (va_Qi Q (mz_B D mz_cls ad0 cA0 lay A) A) args s 0 0 A)) (mz_qi lay Q) (I_Gr_isCell w h) := by
  obtain ⟨hx, hb, hml, hown, hts, hr, hlk⟩ := F
  unfold I_Gr_isCell
  refine mz_All.cons (sd_iload_n hx hb (mz_dg d_Gr_isCell 0 0 (.iload_n 1) 1 rfl) rfl) ?_
  refine mz_All.cons (sd_if_lt hx hb (mz_dg d_Gr_isCell 1 1 (.ifCond .lt (16)) 3 rfl) (by decide)) ?_
  refine mz_All.cons (sd_iload_n hx hb (mz_dg d_Gr_isCell 2 4 (.iload_n 1) 1 rfl) rfl) ?_
  refine mz_All.cons (sd_aload_n hx hb (mz_dg d_Gr_isCell 3 5 (.aload_n 0) 1 rfl) rfl) ?_
  refine mz_All.cons (sd_get (k := 2) hx hb hts (mz_inC in_Gr) hown (T := T_Gr) (N := 9) rfl (by decide) (hts (.fieldLink "MazeForms$Grid" 22 "MazeForms$Grid" "masked" "[Z") (List.mem_cons_of_mem _ wm_126)) (fun _ h => h) (mz_dg d_Gr_isCell 4 6 (.getfield 22) 3 rfl)) ?_
  refine mz_All.cons (sd_alen hx hb (mz_dg d_Gr_isCell 5 9 (.arraylength) 1 rfl)) ?_
  refine mz_All.cons (sd_icmp_ge hx hb (mz_dg d_Gr_isCell 6 10 (.if_icmp .ge (7)) 3 rfl) (by decide)) ?_
  refine mz_All.cons (sd_iconst hx hb (mz_dg d_Gr_isCell 7 13 (.iconst (1)) 1 rfl) (by decide)) ?_
  refine mz_All.cons (sd_goto hx hb (mz_dg d_Gr_isCell 8 14 (.goto (4)) 3 rfl) (by decide)) ?_
  refine mz_All.cons (sd_iconst hx hb (mz_dg d_Gr_isCell 9 17 (.iconst (0)) 1 rfl) (by decide)) ?_
  refine mz_All.cons (sd_rz hx hb hr hlk (mz_dg d_Gr_isCell 10 18 (.ireturn) 1 rfl)) ?_
  exact trivial
theorem met_Gr_isCell (w h : Nat) (l : Launch) : mz_MI l y_Gr_isCell w_Gr_isCell 0 0 mz_cls (C_Gr_isCell w h) := mz_MI_of (I_Gr_isCell w h) (by decide) rfl (len_Gr_isCell w h) (ok_Gr_isCell w h) (snd_Gr_isCell w h l)
set_option maxRecDepth 20000 in
theorem snd_Gr_isFree (w h : Nat) (l : Launch) (p : Program) (e : Env) (s : State) (m : MethodId) (args : Array Value) (below : List Frame) (meth : Method) (c : Code) (D : va_G) (ad0 : Nat → Nat) (cA0 : Nat → ClassId) (A : Nat → Prop) (lay : List mz_E) (Q : Int32 → mz_X → Prop) (F : mz_F p s m args meth c prog_5_method_9_code 2 y_Gr_isFree.cls (some .boolean) w_Gr_isFree) (hA : ∀ q, s.heap.size ≤ q → A q) : mz_All (mz_V p l e (mz_rm 1 21) s m args below meth c 2 lay.length (mz_sz lay) D mz_cls (mz_G0 ad0 cA0) A (MQ below (va_Qi Q (mz_B D mz_cls ad0 cA0 lay A) A) args s 0 0 A)) (mz_qi lay Q) (I_Gr_isFree w h) := by
  obtain ⟨hx, hb, hml, hown, hts, hr, hlk⟩ := F
  unfold I_Gr_isFree
  refine mz_All.cons (sd_aload_n hx hb (mz_dg d_Gr_isFree 0 0 (.aload_n 0) 1 rfl) rfl) ?_
  refine mz_All.cons (sd_iload_n hx hb (mz_dg d_Gr_isFree 1 1 (.iload_n 1) 1 rfl) rfl) ?_
  refine mz_All.cons (sd_calli (T := T_Gr) ⟨hx, hb, hml, hown, hts⟩ (met_Gr_isCell w h l) (cwV 1 hts (mz_gV wm_120 wm_121 wm_122 wm_67 wm_123) rfl rfl rfl (by decide) ⟨by decide, by decide⟩) rfl hA rfl (mz_dg d_Gr_isFree 2 2 (.invokevirtual 48) 3 rfl)) ?_
  refine mz_All.cons (sd_if_eq hx hb (mz_dg d_Gr_isFree 3 5 (.ifCond .eq (16)) 3 rfl) (by decide)) ?_
  refine mz_All.cons (sd_aload_n hx hb (mz_dg d_Gr_isFree 4 8 (.aload_n 0) 1 rfl) rfl) ?_
  refine mz_All.cons (sd_get (k := 2) hx hb hts (mz_inC in_Gr) hown (T := T_Gr) (N := 9) rfl (by decide) (hts (.fieldLink "MazeForms$Grid" 22 "MazeForms$Grid" "masked" "[Z") (List.mem_cons_of_mem _ wm_126)) (fun _ h => h) (mz_dg d_Gr_isFree 5 9 (.getfield 22) 3 rfl)) ?_
  refine mz_All.cons (sd_iload_n hx hb (mz_dg d_Gr_isFree 6 12 (.iload_n 1) 1 rfl) rfl) ?_
  refine mz_All.cons (sd_zald hx hb (mz_dg d_Gr_isFree 7 13 (.baload) 1 rfl)) ?_
  refine mz_All.cons (sd_if_ne hx hb (mz_dg d_Gr_isFree 8 14 (.ifCond .ne (7)) 3 rfl) (by decide)) ?_
  refine mz_All.cons (sd_iconst hx hb (mz_dg d_Gr_isFree 9 17 (.iconst (1)) 1 rfl) (by decide)) ?_
  refine mz_All.cons (sd_goto hx hb (mz_dg d_Gr_isFree 10 18 (.goto (4)) 3 rfl) (by decide)) ?_
  refine mz_All.cons (sd_iconst hx hb (mz_dg d_Gr_isFree 11 21 (.iconst (0)) 1 rfl) (by decide)) ?_
  refine mz_All.cons (sd_rz hx hb hr hlk (mz_dg d_Gr_isFree 12 22 (.ireturn) 1 rfl)) ?_
  exact trivial
theorem met_Gr_isFree (w h : Nat) (l : Launch) : mz_MI l y_Gr_isFree w_Gr_isFree 1 21 mz_cls (C_Gr_isFree w h) := mz_MI_of (I_Gr_isFree w h) (by decide) rfl (len_Gr_isFree w h) (ok_Gr_isFree w h) (snd_Gr_isFree w h l)
set_option maxRecDepth 20000 in
theorem snd_Gr_isDoor (w h : Nat) (l : Launch) (p : Program) (e : Env) (s : State) (m : MethodId) (args : Array Value) (below : List Frame) (meth : Method) (c : Code) (D : va_G) (ad0 : Nat → Nat) (cA0 : Nat → ClassId) (A : Nat → Prop) (lay : List mz_E) (Q : Int32 → mz_X → Prop) (F : mz_F p s m args meth c prog_5_method_10_code 2 y_Gr_isDoor.cls (some .boolean) w_Gr_isDoor) (hA : ∀ q, s.heap.size ≤ q → A q) : mz_All (mz_V p l e (mz_rm 0 0) s m args below meth c 2 lay.length (mz_sz lay) D mz_cls (mz_G0 ad0 cA0) A (MQ below (va_Qi Q (mz_B D mz_cls ad0 cA0 lay A) A) args s 0 0 A)) (mz_qi lay Q) (I_Gr_isDoor w h) := by
  obtain ⟨hx, hb, hml, hown, hts, hr, hlk⟩ := F
  unfold I_Gr_isDoor
  refine mz_All.cons (sd_iload_n hx hb (mz_dg d_Gr_isDoor 0 0 (.iload_n 1) 1 rfl) rfl) ?_
  refine mz_All.cons (sd_if_lt hx hb (mz_dg d_Gr_isDoor 1 1 (.ifCond .lt (24)) 3 rfl) (by decide)) ?_
  refine mz_All.cons (sd_iload_n hx hb (mz_dg d_Gr_isDoor 2 4 (.iload_n 1) 1 rfl) rfl) ?_
  refine mz_All.cons (sd_aload_n hx hb (mz_dg d_Gr_isDoor 3 5 (.aload_n 0) 1 rfl) rfl) ?_
  refine mz_All.cons (sd_get (k := 7) hx hb hts (mz_inC in_Gr) hown (T := T_Gr) (N := 9) rfl (by decide) (hts (.fieldLink "MazeForms$Grid" 42 "MazeForms$Grid" "doorCount" "I") (List.mem_cons_of_mem _ wm_131)) (fun _ h => h) (mz_dg d_Gr_isDoor 4 6 (.getfield 42) 3 rfl)) ?_
  refine mz_All.cons (sd_icmp_ge hx hb (mz_dg d_Gr_isDoor 5 9 (.if_icmp .ge (16)) 3 rfl) (by decide)) ?_
  refine mz_All.cons (sd_iload_n hx hb (mz_dg d_Gr_isDoor 6 12 (.iload_n 1) 1 rfl) rfl) ?_
  refine mz_All.cons (sd_aload_n hx hb (mz_dg d_Gr_isDoor 7 13 (.aload_n 0) 1 rfl) rfl) ?_
  refine mz_All.cons (sd_get (k := 6) hx hb hts (mz_inC in_Gr) hown (T := T_Gr) (N := 9) rfl (by decide) (hts (.fieldLink "MazeForms$Grid" 36 "MazeForms$Grid" "doorOpen" "[Z") (List.mem_cons_of_mem _ wm_130)) (fun _ h => h) (mz_dg d_Gr_isDoor 8 14 (.getfield 36) 3 rfl)) ?_
  refine mz_All.cons (sd_alen hx hb (mz_dg d_Gr_isDoor 9 17 (.arraylength) 1 rfl)) ?_
  refine mz_All.cons (sd_icmp_ge hx hb (mz_dg d_Gr_isDoor 10 18 (.if_icmp .ge (7)) 3 rfl) (by decide)) ?_
  refine mz_All.cons (sd_iconst hx hb (mz_dg d_Gr_isDoor 11 21 (.iconst (1)) 1 rfl) (by decide)) ?_
  refine mz_All.cons (sd_goto hx hb (mz_dg d_Gr_isDoor 12 22 (.goto (4)) 3 rfl) (by decide)) ?_
  refine mz_All.cons (sd_iconst hx hb (mz_dg d_Gr_isDoor 13 25 (.iconst (0)) 1 rfl) (by decide)) ?_
  refine mz_All.cons (sd_rz hx hb hr hlk (mz_dg d_Gr_isDoor 14 26 (.ireturn) 1 rfl)) ?_
  exact trivial
theorem met_Gr_isDoor (w h : Nat) (l : Launch) : mz_MI l y_Gr_isDoor w_Gr_isDoor 0 0 mz_cls (C_Gr_isDoor w h) := mz_MI_of (I_Gr_isDoor w h) (by decide) rfl (len_Gr_isDoor w h) (ok_Gr_isDoor w h) (snd_Gr_isDoor w h l)
set_option maxRecDepth 20000 in
theorem snd_Gr_isOpen (w h : Nat) (l : Launch) (p : Program) (e : Env) (s : State) (m : MethodId) (args : Array Value) (below : List Frame) (meth : Method) (c : Code) (D : va_G) (ad0 : Nat → Nat) (cA0 : Nat → ClassId) (A : Nat → Prop) (lay : List mz_E) (Q : Int32 → mz_X → Prop) (F : mz_F p s m args meth c prog_5_method_11_code 2 y_Gr_isOpen.cls (some .boolean) w_Gr_isOpen) (hA : ∀ q, s.heap.size ≤ q → A q) : mz_All (mz_V p l e (mz_rm 1 21) s m args below meth c 2 lay.length (mz_sz lay) D mz_cls (mz_G0 ad0 cA0) A (MQ below (va_Qi Q (mz_B D mz_cls ad0 cA0 lay A) A) args s 0 0 A)) (mz_qi lay Q) (I_Gr_isOpen w h) := by
  obtain ⟨hx, hb, hml, hown, hts, hr, hlk⟩ := F
  unfold I_Gr_isOpen
  refine mz_All.cons (sd_aload_n hx hb (mz_dg d_Gr_isOpen 0 0 (.aload_n 0) 1 rfl) rfl) ?_
  refine mz_All.cons (sd_iload_n hx hb (mz_dg d_Gr_isOpen 1 1 (.iload_n 1) 1 rfl) rfl) ?_
  refine mz_All.cons (sd_calli (T := T_Gr) ⟨hx, hb, hml, hown, hts⟩ (met_Gr_isDoor w h l) (cwV 1 hts (mz_gV wm_379 wm_380 wm_381 wm_67 wm_382) rfl rfl rfl (by decide) ⟨by decide, by decide⟩) rfl hA rfl (mz_dg d_Gr_isOpen 2 2 (.invokevirtual 52) 3 rfl)) ?_
  refine mz_All.cons (sd_if_eq hx hb (mz_dg d_Gr_isOpen 3 5 (.ifCond .eq (16)) 3 rfl) (by decide)) ?_
  refine mz_All.cons (sd_aload_n hx hb (mz_dg d_Gr_isOpen 4 8 (.aload_n 0) 1 rfl) rfl) ?_
  refine mz_All.cons (sd_get (k := 6) hx hb hts (mz_inC in_Gr) hown (T := T_Gr) (N := 9) rfl (by decide) (hts (.fieldLink "MazeForms$Grid" 36 "MazeForms$Grid" "doorOpen" "[Z") (List.mem_cons_of_mem _ wm_130)) (fun _ h => h) (mz_dg d_Gr_isOpen 5 9 (.getfield 36) 3 rfl)) ?_
  refine mz_All.cons (sd_iload_n hx hb (mz_dg d_Gr_isOpen 6 12 (.iload_n 1) 1 rfl) rfl) ?_
  refine mz_All.cons (sd_zald hx hb (mz_dg d_Gr_isOpen 7 13 (.baload) 1 rfl)) ?_
  refine mz_All.cons (sd_if_eq hx hb (mz_dg d_Gr_isOpen 8 14 (.ifCond .eq (7)) 3 rfl) (by decide)) ?_
  refine mz_All.cons (sd_iconst hx hb (mz_dg d_Gr_isOpen 9 17 (.iconst (1)) 1 rfl) (by decide)) ?_
  refine mz_All.cons (sd_goto hx hb (mz_dg d_Gr_isOpen 10 18 (.goto (4)) 3 rfl) (by decide)) ?_
  refine mz_All.cons (sd_iconst hx hb (mz_dg d_Gr_isOpen 11 21 (.iconst (0)) 1 rfl) (by decide)) ?_
  refine mz_All.cons (sd_rz hx hb hr hlk (mz_dg d_Gr_isOpen 12 22 (.ireturn) 1 rfl)) ?_
  exact trivial
theorem met_Gr_isOpen (w h : Nat) (l : Launch) : mz_MI l y_Gr_isOpen w_Gr_isOpen 1 21 mz_cls (C_Gr_isOpen w h) := mz_MI_of (I_Gr_isOpen w h) (by decide) rfl (len_Gr_isOpen w h) (ok_Gr_isOpen w h) (snd_Gr_isOpen w h l)
set_option maxRecDepth 20000 in
theorem snd_Gr_lesserCell (w h : Nat) (l : Launch) (p : Program) (e : Env) (s : State) (m : MethodId) (args : Array Value) (below : List Frame) (meth : Method) (c : Code) (D : va_G) (ad0 : Nat → Nat) (cA0 : Nat → ClassId) (A : Nat → Prop) (lay : List mz_E) (Q : Int32 → mz_X → Prop) (F : mz_F p s m args meth c prog_5_method_17_code 2 y_Gr_lesserCell.cls (some .int) w_Gr_lesserCell) (hA : ∀ q, s.heap.size ≤ q → A q) : mz_All (mz_V p l e (mz_rm 1 21) s m args below meth c 2 lay.length (mz_sz lay) D mz_cls (mz_G0 ad0 cA0) A (MQ below (va_Qi Q (mz_B D mz_cls ad0 cA0 lay A) A) args s 0 0 A)) (mz_qi lay Q) (I_Gr_lesserCell w h) := by
  obtain ⟨hx, hb, hml, hown, hts, hr, hlk⟩ := F
  unfold I_Gr_lesserCell
  refine mz_All.cons (sd_aload_n hx hb (mz_dg d_Gr_lesserCell 0 0 (.aload_n 0) 1 rfl) rfl) ?_
  refine mz_All.cons (sd_iload_n hx hb (mz_dg d_Gr_lesserCell 1 1 (.iload_n 1) 1 rfl) rfl) ?_
  refine mz_All.cons (sd_calli (T := T_Gr) ⟨hx, hb, hml, hown, hts⟩ (met_Gr_isDoor w h l) (cwV 1 hts (mz_gV wm_379 wm_380 wm_381 wm_67 wm_382) rfl rfl rfl (by decide) ⟨by decide, by decide⟩) rfl hA rfl (mz_dg d_Gr_lesserCell 2 2 (.invokevirtual 52) 3 rfl)) ?_
  refine mz_All.cons (sd_if_eq hx hb (mz_dg d_Gr_lesserCell 3 5 (.ifCond .eq (12)) 3 rfl) (by decide)) ?_
  refine mz_All.cons (sd_aload_n hx hb (mz_dg d_Gr_lesserCell 4 8 (.aload_n 0) 1 rfl) rfl) ?_
  refine mz_All.cons (sd_get (k := 4) hx hb hts (mz_inC in_Gr) hown (T := T_Gr) (N := 9) rfl (by decide) (hts (.fieldLink "MazeForms$Grid" 30 "MazeForms$Grid" "lesserCell" "[I") (List.mem_cons_of_mem _ wm_128)) (fun _ h => h) (mz_dg d_Gr_lesserCell 5 9 (.getfield 30) 3 rfl)) ?_
  refine mz_All.cons (sd_iload_n hx hb (mz_dg d_Gr_lesserCell 6 12 (.iload_n 1) 1 rfl) rfl) ?_
  refine mz_All.cons (sd_iald hx hb (mz_dg d_Gr_lesserCell 7 13 (.iaload) 1 rfl)) ?_
  refine mz_All.cons (sd_goto hx hb (mz_dg d_Gr_lesserCell 8 14 (.goto (4)) 3 rfl) (by decide)) ?_
  refine mz_All.cons (sd_iconst hx hb (mz_dg d_Gr_lesserCell 9 17 (.iconst (-1)) 1 rfl) (by decide)) ?_
  refine mz_All.cons (sd_ri hx hb hr hlk (mz_dg d_Gr_lesserCell 10 18 (.ireturn) 1 rfl)) ?_
  exact trivial
theorem met_Gr_lesserCell (w h : Nat) (l : Launch) : mz_MI l y_Gr_lesserCell w_Gr_lesserCell 1 21 mz_cls (C_Gr_lesserCell w h) := mz_MI_of (I_Gr_lesserCell w h) (by decide) rfl (len_Gr_lesserCell w h) (ok_Gr_lesserCell w h) (snd_Gr_lesserCell w h l)
set_option maxRecDepth 20000 in
theorem snd_Gr_greaterCell (w h : Nat) (l : Launch) (p : Program) (e : Env) (s : State) (m : MethodId) (args : Array Value) (below : List Frame) (meth : Method) (c : Code) (D : va_G) (ad0 : Nat → Nat) (cA0 : Nat → ClassId) (A : Nat → Prop) (lay : List mz_E) (Q : Int32 → mz_X → Prop) (F : mz_F p s m args meth c prog_5_method_18_code 2 y_Gr_greaterCell.cls (some .int) w_Gr_greaterCell) (hA : ∀ q, s.heap.size ≤ q → A q) : mz_All (mz_V p l e (mz_rm 1 21) s m args below meth c 2 lay.length (mz_sz lay) D mz_cls (mz_G0 ad0 cA0) A (MQ below (va_Qi Q (mz_B D mz_cls ad0 cA0 lay A) A) args s 0 0 A)) (mz_qi lay Q) (I_Gr_greaterCell w h) := by
  obtain ⟨hx, hb, hml, hown, hts, hr, hlk⟩ := F
  unfold I_Gr_greaterCell
  refine mz_All.cons (sd_aload_n hx hb (mz_dg d_Gr_greaterCell 0 0 (.aload_n 0) 1 rfl) rfl) ?_
  refine mz_All.cons (sd_iload_n hx hb (mz_dg d_Gr_greaterCell 1 1 (.iload_n 1) 1 rfl) rfl) ?_
  refine mz_All.cons (sd_calli (T := T_Gr) ⟨hx, hb, hml, hown, hts⟩ (met_Gr_isDoor w h l) (cwV 1 hts (mz_gV wm_379 wm_380 wm_381 wm_67 wm_382) rfl rfl rfl (by decide) ⟨by decide, by decide⟩) rfl hA rfl (mz_dg d_Gr_greaterCell 2 2 (.invokevirtual 52) 3 rfl)) ?_
  refine mz_All.cons (sd_if_eq hx hb (mz_dg d_Gr_greaterCell 3 5 (.ifCond .eq (12)) 3 rfl) (by decide)) ?_
  refine mz_All.cons (sd_aload_n hx hb (mz_dg d_Gr_greaterCell 4 8 (.aload_n 0) 1 rfl) rfl) ?_
  refine mz_All.cons (sd_get (k := 5) hx hb hts (mz_inC in_Gr) hown (T := T_Gr) (N := 9) rfl (by decide) (hts (.fieldLink "MazeForms$Grid" 33 "MazeForms$Grid" "greaterCell" "[I") (List.mem_cons_of_mem _ wm_129)) (fun _ h => h) (mz_dg d_Gr_greaterCell 5 9 (.getfield 33) 3 rfl)) ?_
  refine mz_All.cons (sd_iload_n hx hb (mz_dg d_Gr_greaterCell 6 12 (.iload_n 1) 1 rfl) rfl) ?_
  refine mz_All.cons (sd_iald hx hb (mz_dg d_Gr_greaterCell 7 13 (.iaload) 1 rfl)) ?_
  refine mz_All.cons (sd_goto hx hb (mz_dg d_Gr_greaterCell 8 14 (.goto (4)) 3 rfl) (by decide)) ?_
  refine mz_All.cons (sd_iconst hx hb (mz_dg d_Gr_greaterCell 9 17 (.iconst (-1)) 1 rfl) (by decide)) ?_
  refine mz_All.cons (sd_ri hx hb hr hlk (mz_dg d_Gr_greaterCell 10 18 (.ireturn) 1 rfl)) ?_
  exact trivial
theorem met_Gr_greaterCell (w h : Nat) (l : Launch) : mz_MI l y_Gr_greaterCell w_Gr_greaterCell 1 21 mz_cls (C_Gr_greaterCell w h) := mz_MI_of (I_Gr_greaterCell w h) (by decide) rfl (len_Gr_greaterCell w h) (ok_Gr_greaterCell w h) (snd_Gr_greaterCell w h l)
set_option maxRecDepth 20000 in
theorem snd_Gr_cellAt (w h : Nat) (l : Launch) (p : Program) (e : Env) (s : State) (m : MethodId) (args : Array Value) (below : List Frame) (meth : Method) (c : Code) (D : va_G) (ad0 : Nat → Nat) (cA0 : Nat → ClassId) (A : Nat → Prop) (lay : List mz_E) (Q : Int32 → mz_X → Prop) (F : mz_F p s m args meth c prog_5_method_7_code 4 y_Gr_cellAt.cls (some .int) w_Gr_cellAt) (hA : ∀ q, s.heap.size ≤ q → A q) : mz_All (mz_V p l e (mz_rm 0 0) s m args below meth c 4 lay.length (mz_sz lay) D mz_cls (mz_G0 ad0 cA0) A (MQ below (va_Qi Q (mz_B D mz_cls ad0 cA0 lay A) A) args s 0 0 A)) (mz_qi lay Q) (I_Gr_cellAt w h) := by
  obtain ⟨hx, hb, hml, hown, hts, hr, hlk⟩ := F
  unfold I_Gr_cellAt
  refine mz_All.cons (sd_iload_n hx hb (mz_dg d_Gr_cellAt 0 0 (.iload_n 1) 1 rfl) rfl) ?_
  refine mz_All.cons (sd_if_lt hx hb (mz_dg d_Gr_cellAt 1 1 (.ifCond .lt (27)) 3 rfl) (by decide)) ?_
  refine mz_All.cons (sd_iload_n hx hb (mz_dg d_Gr_cellAt 2 4 (.iload_n 1) 1 rfl) rfl) ?_
  refine mz_All.cons (sd_aload_n hx hb (mz_dg d_Gr_cellAt 3 5 (.aload_n 0) 1 rfl) rfl) ?_
  refine mz_All.cons (sd_get (k := 0) hx hb hts (mz_inC in_Gr) hown (T := T_Gr) (N := 9) rfl (by decide) (hts (.fieldLink "MazeForms$Grid" 15 "MazeForms$Grid" "width" "I") (List.mem_cons_of_mem _ wm_124)) (fun _ h => h) (mz_dg d_Gr_cellAt 4 6 (.getfield 15) 3 rfl)) ?_
  refine mz_All.cons (sd_icmp_ge hx hb (mz_dg d_Gr_cellAt 5 9 (.if_icmp .ge (19)) 3 rfl) (by decide)) ?_
  refine mz_All.cons (sd_iload_n hx hb (mz_dg d_Gr_cellAt 6 12 (.iload_n 2) 1 rfl) rfl) ?_
  refine mz_All.cons (sd_if_lt hx hb (mz_dg d_Gr_cellAt 7 13 (.ifCond .lt (15)) 3 rfl) (by decide)) ?_
  refine mz_All.cons (sd_iload_n hx hb (mz_dg d_Gr_cellAt 8 16 (.iload_n 2) 1 rfl) rfl) ?_
  refine mz_All.cons (sd_aload_n hx hb (mz_dg d_Gr_cellAt 9 17 (.aload_n 0) 1 rfl) rfl) ?_
  refine mz_All.cons (sd_get (k := 1) hx hb hts (mz_inC in_Gr) hown (T := T_Gr) (N := 9) rfl (by decide) (hts (.fieldLink "MazeForms$Grid" 19 "MazeForms$Grid" "height" "I") (List.mem_cons_of_mem _ wm_125)) (fun _ h => h) (mz_dg d_Gr_cellAt 10 18 (.getfield 19) 3 rfl)) ?_
  refine mz_All.cons (sd_icmp_ge hx hb (mz_dg d_Gr_cellAt 11 21 (.if_icmp .ge (7)) 3 rfl) (by decide)) ?_
  refine mz_All.cons (sd_iconst hx hb (mz_dg d_Gr_cellAt 12 24 (.iconst (1)) 1 rfl) (by decide)) ?_
  refine mz_All.cons (sd_goto hx hb (mz_dg d_Gr_cellAt 13 25 (.goto (4)) 3 rfl) (by decide)) ?_
  refine mz_All.cons (sd_iconst hx hb (mz_dg d_Gr_cellAt 14 28 (.iconst (0)) 1 rfl) (by decide)) ?_
  refine mz_All.cons (sd_istore_n hx hb (mz_dg d_Gr_cellAt 15 29 (.istore_n 3) 1 rfl) rfl (by decide)) ?_
  refine mz_All.cons (sd_iload_n hx hb (mz_dg d_Gr_cellAt 16 30 (.iload_n 3) 1 rfl) rfl) ?_
  refine mz_All.cons (sd_if_eq hx hb (mz_dg d_Gr_cellAt 17 31 (.ifCond .eq (14)) 3 rfl) (by decide)) ?_
  refine mz_All.cons (sd_iload_n hx hb (mz_dg d_Gr_cellAt 18 34 (.iload_n 1) 1 rfl) rfl) ?_
  refine mz_All.cons (sd_aload_n hx hb (mz_dg d_Gr_cellAt 19 35 (.aload_n 0) 1 rfl) rfl) ?_
  refine mz_All.cons (sd_get (k := 0) hx hb hts (mz_inC in_Gr) hown (T := T_Gr) (N := 9) rfl (by decide) (hts (.fieldLink "MazeForms$Grid" 15 "MazeForms$Grid" "width" "I") (List.mem_cons_of_mem _ wm_124)) (fun _ h => h) (mz_dg d_Gr_cellAt 20 36 (.getfield 15) 3 rfl)) ?_
  refine mz_All.cons (sd_iload_n hx hb (mz_dg d_Gr_cellAt 21 39 (.iload_n 2) 1 rfl) rfl) ?_
  refine mz_All.cons (sd_imul hx hb (mz_dg d_Gr_cellAt 22 40 (.imul) 1 rfl)) ?_
  refine mz_All.cons (sd_iadd hx hb (mz_dg d_Gr_cellAt 23 41 (.iadd) 1 rfl)) ?_
  refine mz_All.cons (sd_goto hx hb (mz_dg d_Gr_cellAt 24 42 (.goto (4)) 3 rfl) (by decide)) ?_
  refine mz_All.cons (sd_iconst hx hb (mz_dg d_Gr_cellAt 25 45 (.iconst (-1)) 1 rfl) (by decide)) ?_
  refine mz_All.cons (sd_ri hx hb hr hlk (mz_dg d_Gr_cellAt 26 46 (.ireturn) 1 rfl)) ?_
  exact trivial
theorem met_Gr_cellAt (w h : Nat) (l : Launch) : mz_MI l y_Gr_cellAt w_Gr_cellAt 0 0 mz_cls (C_Gr_cellAt w h) := mz_MI_of (I_Gr_cellAt w h) (by decide) rfl (len_Gr_cellAt w h) (ok_Gr_cellAt w h) (snd_Gr_cellAt w h l)
set_option maxRecDepth 20000 in
theorem snd_Gr_doorOn (w h : Nat) (l : Launch) (p : Program) (e : Env) (s : State) (m : MethodId) (args : Array Value) (below : List Frame) (meth : Method) (c : Code) (D : va_G) (ad0 : Nat → Nat) (cA0 : Nat → ClassId) (A : Nat → Prop) (lay : List mz_E) (Q : Int32 → mz_X → Prop) (F : mz_F p s m args meth c prog_5_method_15_code 4 y_Gr_doorOn.cls (some .int) w_Gr_doorOn) (hA : ∀ q, s.heap.size ≤ q → A q) : mz_All (mz_V p l e (mz_rm 1 21) s m args below meth c 4 lay.length (mz_sz lay) D mz_cls (mz_G0 ad0 cA0) A (MQ below (va_Qi Q (mz_B D mz_cls ad0 cA0 lay A) A) args s 0 0 A)) (mz_qi lay Q) (I_Gr_doorOn w h) := by
  obtain ⟨hx, hb, hml, hown, hts, hr, hlk⟩ := F
  unfold I_Gr_doorOn
  refine mz_All.cons (sd_aload_n hx hb (mz_dg d_Gr_doorOn 0 0 (.aload_n 0) 1 rfl) rfl) ?_
  refine mz_All.cons (sd_iload_n hx hb (mz_dg d_Gr_doorOn 1 1 (.iload_n 1) 1 rfl) rfl) ?_
  refine mz_All.cons (sd_calli (T := T_Gr) ⟨hx, hb, hml, hown, hts⟩ (met_Gr_isCell w h l) (cwV 1 hts (mz_gV wm_120 wm_121 wm_122 wm_67 wm_123) rfl rfl rfl (by decide) ⟨by decide, by decide⟩) rfl hA rfl (mz_dg d_Gr_doorOn 2 2 (.invokevirtual 48) 3 rfl)) ?_
  refine mz_All.cons (sd_if_eq hx hb (mz_dg d_Gr_doorOn 3 5 (.ifCond .eq (16)) 3 rfl) (by decide)) ?_
  refine mz_All.cons (sd_iload_n hx hb (mz_dg d_Gr_doorOn 4 8 (.iload_n 2) 1 rfl) rfl) ?_
  refine mz_All.cons (sd_if_lt hx hb (mz_dg d_Gr_doorOn 5 9 (.ifCond .lt (12)) 3 rfl) (by decide)) ?_
  refine mz_All.cons (sd_iload_n hx hb (mz_dg d_Gr_doorOn 6 12 (.iload_n 2) 1 rfl) rfl) ?_
  refine mz_All.cons (sd_iconst hx hb (mz_dg d_Gr_doorOn 7 13 (.iconst (4)) 1 rfl) (by decide)) ?_
  refine mz_All.cons (sd_icmp_ge hx hb (mz_dg d_Gr_doorOn 8 14 (.if_icmp .ge (7)) 3 rfl) (by decide)) ?_
  refine mz_All.cons (sd_iconst hx hb (mz_dg d_Gr_doorOn 9 17 (.iconst (1)) 1 rfl) (by decide)) ?_
  refine mz_All.cons (sd_goto hx hb (mz_dg d_Gr_doorOn 10 18 (.goto (4)) 3 rfl) (by decide)) ?_
  refine mz_All.cons (sd_iconst hx hb (mz_dg d_Gr_doorOn 11 21 (.iconst (0)) 1 rfl) (by decide)) ?_
  refine mz_All.cons (sd_istore_n hx hb (mz_dg d_Gr_doorOn 12 22 (.istore_n 3) 1 rfl) rfl (by decide)) ?_
  refine mz_All.cons (sd_iload_n hx hb (mz_dg d_Gr_doorOn 13 23 (.iload_n 3) 1 rfl) rfl) ?_
  refine mz_All.cons (sd_if_eq hx hb (mz_dg d_Gr_doorOn 14 24 (.ifCond .eq (16)) 3 rfl) (by decide)) ?_
  refine mz_All.cons (sd_aload_n hx hb (mz_dg d_Gr_doorOn 15 27 (.aload_n 0) 1 rfl) rfl) ?_
  refine mz_All.cons (sd_get (k := 3) hx hb hts (mz_inC in_Gr) hown (T := T_Gr) (N := 9) rfl (by decide) (hts (.fieldLink "MazeForms$Grid" 26 "MazeForms$Grid" "doorOnSide" "[I") (List.mem_cons_of_mem _ wm_127)) (fun _ h => h) (mz_dg d_Gr_doorOn 16 28 (.getfield 26) 3 rfl)) ?_
  refine mz_All.cons (sd_iconst hx hb (mz_dg d_Gr_doorOn 17 31 (.iconst (4)) 1 rfl) (by decide)) ?_
  refine mz_All.cons (sd_iload_n hx hb (mz_dg d_Gr_doorOn 18 32 (.iload_n 1) 1 rfl) rfl) ?_
  refine mz_All.cons (sd_imul hx hb (mz_dg d_Gr_doorOn 19 33 (.imul) 1 rfl)) ?_
  refine mz_All.cons (sd_iload_n hx hb (mz_dg d_Gr_doorOn 20 34 (.iload_n 2) 1 rfl) rfl) ?_
  refine mz_All.cons (sd_iadd hx hb (mz_dg d_Gr_doorOn 21 35 (.iadd) 1 rfl)) ?_
  refine mz_All.cons (sd_iald hx hb (mz_dg d_Gr_doorOn 22 36 (.iaload) 1 rfl)) ?_
  refine mz_All.cons (sd_goto hx hb (mz_dg d_Gr_doorOn 23 37 (.goto (4)) 3 rfl) (by decide)) ?_
  refine mz_All.cons (sd_iconst hx hb (mz_dg d_Gr_doorOn 24 40 (.iconst (-1)) 1 rfl) (by decide)) ?_
  refine mz_All.cons (sd_ri hx hb hr hlk (mz_dg d_Gr_doorOn 25 41 (.ireturn) 1 rfl)) ?_
  exact trivial
theorem met_Gr_doorOn (w h : Nat) (l : Launch) : mz_MI l y_Gr_doorOn w_Gr_doorOn 1 21 mz_cls (C_Gr_doorOn w h) := mz_MI_of (I_Gr_doorOn w h) (by decide) rfl (len_Gr_doorOn w h) (ok_Gr_doorOn w h) (snd_Gr_doorOn w h l)
set_option maxRecDepth 20000 in
theorem snd_Gr_otherCell (w h : Nat) (l : Launch) (p : Program) (e : Env) (s : State) (m : MethodId) (args : Array Value) (below : List Frame) (meth : Method) (c : Code) (D : va_G) (ad0 : Nat → Nat) (cA0 : Nat → ClassId) (A : Nat → Prop) (lay : List mz_E) (Q : Int32 → mz_X → Prop) (F : mz_F p s m args meth c prog_5_method_19_code 3 y_Gr_otherCell.cls (some .int) w_Gr_otherCell) (hA : ∀ q, s.heap.size ≤ q → A q) : mz_All (mz_V p l e (mz_rm 1 21) s m args below meth c 3 lay.length (mz_sz lay) D mz_cls (mz_G0 ad0 cA0) A (MQ below (va_Qi Q (mz_B D mz_cls ad0 cA0 lay A) A) args s 0 0 A)) (mz_qi lay Q) (I_Gr_otherCell w h) := by
  obtain ⟨hx, hb, hml, hown, hts, hr, hlk⟩ := F
  unfold I_Gr_otherCell
  refine mz_All.cons (sd_aload_n hx hb (mz_dg d_Gr_otherCell 0 0 (.aload_n 0) 1 rfl) rfl) ?_
  refine mz_All.cons (sd_iload_n hx hb (mz_dg d_Gr_otherCell 1 1 (.iload_n 1) 1 rfl) rfl) ?_
  refine mz_All.cons (sd_calli (T := T_Gr) ⟨hx, hb, hml, hown, hts⟩ (met_Gr_isDoor w h l) (cwV 1 hts (mz_gV wm_379 wm_380 wm_381 wm_67 wm_382) rfl rfl rfl (by decide) ⟨by decide, by decide⟩) rfl hA rfl (mz_dg d_Gr_otherCell 2 2 (.invokevirtual 52) 3 rfl)) ?_
  refine mz_All.cons (sd_if_ne hx hb (mz_dg d_Gr_otherCell 3 5 (.ifCond .ne (5)) 3 rfl) (by decide)) ?_
  refine mz_All.cons (sd_iconst hx hb (mz_dg d_Gr_otherCell 4 8 (.iconst (-1)) 1 rfl) (by decide)) ?_
  refine mz_All.cons (sd_ri hx hb hr hlk (mz_dg d_Gr_otherCell 5 9 (.ireturn) 1 rfl)) ?_
  refine mz_All.cons (sd_aload_n hx hb (mz_dg d_Gr_otherCell 6 10 (.aload_n 0) 1 rfl) rfl) ?_
  refine mz_All.cons (sd_get (k := 4) hx hb hts (mz_inC in_Gr) hown (T := T_Gr) (N := 9) rfl (by decide) (hts (.fieldLink "MazeForms$Grid" 30 "MazeForms$Grid" "lesserCell" "[I") (List.mem_cons_of_mem _ wm_128)) (fun _ h => h) (mz_dg d_Gr_otherCell 7 11 (.getfield 30) 3 rfl)) ?_
  refine mz_All.cons (sd_iload_n hx hb (mz_dg d_Gr_otherCell 8 14 (.iload_n 1) 1 rfl) rfl) ?_
  refine mz_All.cons (sd_iald hx hb (mz_dg d_Gr_otherCell 9 15 (.iaload) 1 rfl)) ?_
  refine mz_All.cons (sd_iload_n hx hb (mz_dg d_Gr_otherCell 10 16 (.iload_n 2) 1 rfl) rfl) ?_
  refine mz_All.cons (sd_icmp_ne hx hb (mz_dg d_Gr_otherCell 11 17 (.if_icmp .ne (12)) 3 rfl) (by decide)) ?_
  refine mz_All.cons (sd_aload_n hx hb (mz_dg d_Gr_otherCell 12 20 (.aload_n 0) 1 rfl) rfl) ?_
  refine mz_All.cons (sd_get (k := 5) hx hb hts (mz_inC in_Gr) hown (T := T_Gr) (N := 9) rfl (by decide) (hts (.fieldLink "MazeForms$Grid" 33 "MazeForms$Grid" "greaterCell" "[I") (List.mem_cons_of_mem _ wm_129)) (fun _ h => h) (mz_dg d_Gr_otherCell 13 21 (.getfield 33) 3 rfl)) ?_
  refine mz_All.cons (sd_iload_n hx hb (mz_dg d_Gr_otherCell 14 24 (.iload_n 1) 1 rfl) rfl) ?_
  refine mz_All.cons (sd_iald hx hb (mz_dg d_Gr_otherCell 15 25 (.iaload) 1 rfl)) ?_
  refine mz_All.cons (sd_goto hx hb (mz_dg d_Gr_otherCell 16 26 (.goto (9)) 3 rfl) (by decide)) ?_
  refine mz_All.cons (sd_aload_n hx hb (mz_dg d_Gr_otherCell 17 29 (.aload_n 0) 1 rfl) rfl) ?_
  refine mz_All.cons (sd_get (k := 4) hx hb hts (mz_inC in_Gr) hown (T := T_Gr) (N := 9) rfl (by decide) (hts (.fieldLink "MazeForms$Grid" 30 "MazeForms$Grid" "lesserCell" "[I") (List.mem_cons_of_mem _ wm_128)) (fun _ h => h) (mz_dg d_Gr_otherCell 18 30 (.getfield 30) 3 rfl)) ?_
  refine mz_All.cons (sd_iload_n hx hb (mz_dg d_Gr_otherCell 19 33 (.iload_n 1) 1 rfl) rfl) ?_
  refine mz_All.cons (sd_iald hx hb (mz_dg d_Gr_otherCell 20 34 (.iaload) 1 rfl)) ?_
  refine mz_All.cons (sd_ri hx hb hr hlk (mz_dg d_Gr_otherCell 21 35 (.ireturn) 1 rfl)) ?_
  exact trivial
theorem met_Gr_otherCell (w h : Nat) (l : Launch) : mz_MI l y_Gr_otherCell w_Gr_otherCell 1 21 mz_cls (C_Gr_otherCell w h) := mz_MI_of (I_Gr_otherCell w h) (by decide) rfl (len_Gr_otherCell w h) (ok_Gr_otherCell w h) (snd_Gr_otherCell w h l)
