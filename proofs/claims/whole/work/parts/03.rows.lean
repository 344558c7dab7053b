section MZV
variable {p : Program} {l : Launch} {e : Env} {R : Room} {s : State} {m : MethodId} {args : Array Value} {below : List Frame} {meth : Method} {c : Code}
variable {cc : ByteArray} {nL n0 z0 : Nat} {D : va_G} {cl : List vw_C} {G : (Nat → Nat) → (Nat → ClassId) → Prop} {A : Nat → Prop} {Qw : State → Prop} {Qv : mz_Q} {pc : Nat}
/-- from this abstract state the machine comes to Qw -/
def mz_V (p : Program) (l : Launch) (e : Env) (R : Room) (s : State) (m : MethodId) (args : Array Value) (below : List Frame) (meth : Method) (c : Code) (nL n0 z0 : Nat) (D : va_G) (cl : List vw_C) (G : (Nat → Nat) → (Nat → ClassId) → Prop) (A : Nat → Prop) (Qw : State → Prop) : mz_K := fun pc L S M =>
  ∀ (ad : Nat → Nat) (cA : Nat → ClassId) (H : Heap) (locs : List Loc) (ls : Array Slot), mz_wf L S M → G ad cA → n0 ≤ M.1.length ∧ M.1.length - n0 ≤ R.cells ∧ mz_sz M.1 - z0 ≤ R.slots → va_K D cl (mz_ty cA M.1) s → va_P D cl (mz_w ad cA M) H → va_D A (mz_w ad cA M) → va_S A s.heap H locs → mz_lh ad ls nL L →
    W p l e R s m args below meth c H locs (M.1.length - n0) (mz_sz M.1 - z0) Qw (F0 m pc ls (S.map (mz_cv ad)))
def mz_Sd (V : mz_K) (Qv : mz_Q) (op : mz_Op) (pc : Nat) : Prop := ∀ L S M, op Qv V L S M → V pc L S M
theorem mz_wf.push {L : mz_L} {S : List Value} {M : mz_M} {v : Value} (h : mz_wf L S M) (hv : mz_vw M.1.length v) : mz_wf L (v :: S) M :=
  ⟨h.1, h.2.1, fun w hw => by
    rcases List.mem_cons.mp hw with rfl | hw
    · exact hv
    · exact h.2.2.1 w hw, h.2.2.2⟩
theorem mz_wf.tail {L : mz_L} {S : List Value} {M : mz_M} {v : Value} (h : mz_wf L (v :: S) M) : mz_wf L S M := ⟨h.1, h.2.1, fun w hw => h.2.2.1 w (List.mem_cons_of_mem _ hw), h.2.2.2⟩
theorem mz_wf.head {L : mz_L} {S : List Value} {M : mz_M} {v : Value} (h : mz_wf L (v :: S) M) : mz_vw M.1.length v := h.2.2.1 v List.mem_cons_self
theorem mz_wf.loc {L : mz_L} {S : List Value} {M : mz_M} {i : Nat} {v : Value} (h : mz_wf L S M) (hi : L[i]? = some (some v)) : mz_vw M.1.length v := h.2.2.2 v (List.mem_of_getElem? hi)
theorem mz_wf.set {L : mz_L} {S : List Value} {M : mz_M} {i : Nat} {v : Value} (h : mz_wf L S M) (hv : mz_vw M.1.length v) : mz_wf (L.set i (some v)) S M :=
  ⟨h.1, h.2.1, h.2.2.1, fun w hw => by
    rcases List.mem_or_eq_of_mem_set hw with hw | hw
    · exact h.2.2.2 w hw
    · cases hw; exact hv⟩
theorem mz_wf.clr {L : mz_L} {S : List Value} {M : mz_M} {i : Nat} (h : mz_wf L S M) : mz_wf (L.set i none) S M :=
  ⟨h.1, h.2.1, h.2.2.1, fun w hw => by
    rcases List.mem_or_eq_of_mem_set hw with hw | hw
    · exact h.2.2.2 w hw
    · cases hw⟩
theorem mz_wf.pre {L : mz_L} {S : List Value} {M : mz_M} {i : Nat} (h : mz_wf L S M) : mz_wf (mz_pre L i) S M := by
  cases i with
  | zero => exact h
  | succ i =>
    simp only [mz_pre]
    split
    · exact h.clr
    · exact h
theorem mz_wf.nf {L : mz_L} {S : List Value} {M : mz_M} (h : mz_wf L S M) (j : Nat) (u : Value) (hj : L[j]? = some (some u)) (hc : u.category = 2) : ∃ x, u = .long x := by
  have := h.loc hj
  cases u with
  | long x => exact ⟨x, rfl⟩
  | _ => simp [Value.category] at hc <;> exact absurd this (by simp [mz_vw])
theorem mz_wf.mem {L : mz_L} {S : List Value} {M M' : mz_M} (h : mz_wf L S M) (hl : M'.1 = M.1) : mz_wf L S M' := by
  unfold mz_wf at *
  rw [hl]
  exact h
theorem sd_iconst (hx : p.tables.exec = Jvm.exec) (hb : c.code = cc) {n : Int} {v : Int32} (hdg : decode cc pc = .ok (.iconst n, 1)) (hv : Int32.ofInt n = v) : mz_Sd (mz_V p l e R s m args below meth c nL n0 z0 D cl G A Qw) Qv (mz_push (.int v) (pc + 1)) pc := by
  intro L S M h ad cA H locs ls hw ha hn hK hP hD hS hl
  exact lv_iconst hx hb hdg hv (h ad cA H locs ls (hw.push trivial) ha hn hK hP hD hS hl)
theorem sd_bipush (hx : p.tables.exec = Jvm.exec) (hb : c.code = cc) {n : Int} {v : Int32} (hdg : decode cc pc = .ok (.bipush n, 2)) (hv : (Int8.ofInt n).toInt32 = v) : mz_Sd (mz_V p l e R s m args below meth c nL n0 z0 D cl G A Qw) Qv (mz_push (.int v) (pc + 2)) pc := by
  intro L S M h ad cA H locs ls hw ha hn hK hP hD hS hl
  exact lv_bipush hx hb hdg hv (h ad cA H locs ls (hw.push trivial) ha hn hK hP hD hS hl)
theorem sd_sipush (hx : p.tables.exec = Jvm.exec) (hb : c.code = cc) {n : Int} {v : Int32} (hdg : decode cc pc = .ok (.sipush n, 3)) (hv : (Int16.ofInt n).toInt32 = v) : mz_Sd (mz_V p l e R s m args below meth c nL n0 z0 D cl G A Qw) Qv (mz_push (.int v) (pc + 3)) pc := by
  intro L S M h ad cA H locs ls hw ha hn hK hP hD hS hl
  exact lv_sipush hx hb hdg hv (h ad cA H locs ls (hw.push trivial) ha hn hK hP hD hS hl)
theorem sd_lconst (hx : p.tables.exec = Jvm.exec) (hb : c.code = cc) {n : Fin 2} {v : Int64} (hdg : decode cc pc = .ok (.lconst n, 1)) (hv : Int64.ofNat (n : Nat) = v) : mz_Sd (mz_V p l e R s m args below meth c nL n0 z0 D cl G A Qw) Qv (mz_push (.long v) (pc + 1)) pc := by
  intro L S M h ad cA H locs ls hw ha hn hK hP hD hS hl
  exact lv_lconst hx hb hdg hv (h ad cA H locs ls (hw.push trivial) ha hn hK hP hD hS hl)
theorem sd_ldc (hx : p.tables.exec = Jvm.exec) (hb : c.code = cc) {own : String} {index : Nat} {v : Int32} (hown : s.vm.findClass own = some m.cls) (hconst : (Jvm.Cond.constant own index v).before args s = true) (hdg : decode cc pc = .ok (.ldc index, 2)) : mz_Sd (mz_V p l e R s m args below meth c nL n0 z0 D cl G A Qw) Qv (mz_push (.int v) (pc + 2)) pc := by
  intro L S M h ad cA H locs ls hw ha hn hK hP hD hS hl
  exact lv_ldc hx hb hown hconst hdg (h ad cA H locs ls (hw.push trivial) ha hn hK hP hD hS hl)
theorem sd_ldcw (hx : p.tables.exec = Jvm.exec) (hb : c.code = cc) {own : String} {index : Nat} {v : Int32} (hown : s.vm.findClass own = some m.cls) (hconst : (Jvm.Cond.constant own index v).before args s = true) (hdg : decode cc pc = .ok (.ldc_w index, 3)) : mz_Sd (mz_V p l e R s m args below meth c nL n0 z0 D cl G A Qw) Qv (mz_push (.int v) (pc + 3)) pc := by
  intro L S M h ad cA H locs ls hw ha hn hK hP hD hS hl
  exact lv_ldcw hx hb hown hconst hdg (h ad cA H locs ls (hw.push trivial) ha hn hK hP hD hS hl)
theorem sd_ldc2 (hx : p.tables.exec = Jvm.exec) (hb : c.code = cc) {own : String} {index : Nat} {v : Int64} (hown : s.vm.findClass own = some m.cls) (hconst : (Jvm.Cond.constantLong own index v).before args s = true) (hdg : decode cc pc = .ok (.ldc2_w index, 3)) : mz_Sd (mz_V p l e R s m args below meth c nL n0 z0 D cl G A Qw) Qv (mz_push (.long v) (pc + 3)) pc := by
  intro L S M h ad cA H locs ls hw ha hn hK hP hD hS hl
  exact lv_ldc2 hx hb hown hconst hdg (h ad cA H locs ls (hw.push trivial) ha hn hK hP hD hS hl)
theorem sd_iload_n (hx : p.tables.exec = Jvm.exec) (hb : c.code = cc) {k : Fin 4} {i : Nat} (hdg : decode cc pc = .ok (.iload_n k, 1)) (hi : (k : Nat) = i) : mz_Sd (mz_V p l e R s m args below meth c nL n0 z0 D cl G A Qw) Qv (mz_ldi i (pc + 1)) pc := by
  intro L S M h ad cA H locs ls hw ha hn hK hP hD hS hl
  simp only [mz_ldi] at h
  split at h
  · next x hx2 => exact lv_iload_n hx hb hdg hi (hl.2.2 i _ hx2) (h ad cA H locs ls (hw.push (hw.loc hx2)) ha hn hK hP hD hS hl)
  · exact h.elim
theorem sd_iload (hx : p.tables.exec = Jvm.exec) (hb : c.code = cc) {i : Nat} (hdg : decode cc pc = .ok (.iload i, 2)) : mz_Sd (mz_V p l e R s m args below meth c nL n0 z0 D cl G A Qw) Qv (mz_ldi i (pc + 2)) pc := by
  intro L S M h ad cA H locs ls hw ha hn hK hP hD hS hl
  simp only [mz_ldi] at h
  split at h
  · next x hx2 => exact lv_iload hx hb hdg (hl.2.2 i _ hx2) (h ad cA H locs ls (hw.push (hw.loc hx2)) ha hn hK hP hD hS hl)
  · exact h.elim
theorem sd_istore_n (hx : p.tables.exec = Jvm.exec) (hb : c.code = cc) {k : Fin 4} {i : Nat} (hdg : decode cc pc = .ok (.istore_n k, 1)) (hi : (k : Nat) = i) (hn2 : i < nL) : mz_Sd (mz_V p l e R s m args below meth c nL n0 z0 D cl G A Qw) Qv (mz_sti i (pc + 1)) pc := by
  intro L S M h ad cA H locs ls hw ha hn hK hP hD hS hl
  simp only [mz_sti] at h
  split at h
  · next x r =>
    refine lv_istore_n hx hb hdg hi (mz_lh_has hl) hn2 rfl (fun ls' hl' => ?_)
    exact h ad cA H locs ls' (((hw.tail.pre).set hw.head)) ha hn hK hP hD hS (mz_lh_sto1 hw.nf hl')
  · exact h.elim
theorem sd_istore (hx : p.tables.exec = Jvm.exec) (hb : c.code = cc) {i : Nat} (hdg : decode cc pc = .ok (.istore i, 2)) (hn2 : i < nL) : mz_Sd (mz_V p l e R s m args below meth c nL n0 z0 D cl G A Qw) Qv (mz_sti i (pc + 2)) pc := by
  intro L S M h ad cA H locs ls hw ha hn hK hP hD hS hl
  simp only [mz_sti] at h
  split at h
  · next x r =>
    refine lv_istore hx hb hdg (mz_lh_has hl) hn2 rfl (fun ls' hl' => ?_)
    exact h ad cA H locs ls' (((hw.tail.pre).set hw.head)) ha hn hK hP hD hS (mz_lh_sto1 hw.nf hl')
  · exact h.elim
theorem sd_lload_n (hx : p.tables.exec = Jvm.exec) (hb : c.code = cc) {k : Fin 4} {i : Nat} (hdg : decode cc pc = .ok (.lload_n k, 1)) (hi : (k : Nat) = i) : mz_Sd (mz_V p l e R s m args below meth c nL n0 z0 D cl G A Qw) Qv (mz_ldl i (pc + 1)) pc := by
  intro L S M h ad cA H locs ls hw ha hn hK hP hD hS hl
  simp only [mz_ldl] at h
  split at h
  · next x hx2 => exact lv_lload_n hx hb hdg hi (hl.2.2 i _ hx2) (h ad cA H locs ls (hw.push (hw.loc hx2)) ha hn hK hP hD hS hl)
  · exact h.elim
theorem sd_lload (hx : p.tables.exec = Jvm.exec) (hb : c.code = cc) {i : Nat} (hdg : decode cc pc = .ok (.lload i, 2)) : mz_Sd (mz_V p l e R s m args below meth c nL n0 z0 D cl G A Qw) Qv (mz_ldl i (pc + 2)) pc := by
  intro L S M h ad cA H locs ls hw ha hn hK hP hD hS hl
  simp only [mz_ldl] at h
  split at h
  · next x hx2 => exact lv_lload hx hb hdg (hl.2.2 i _ hx2) (h ad cA H locs ls (hw.push (hw.loc hx2)) ha hn hK hP hD hS hl)
  · exact h.elim
theorem sd_lstore_n (hx : p.tables.exec = Jvm.exec) (hb : c.code = cc) {k : Fin 4} {i : Nat} (hdg : decode cc pc = .ok (.lstore_n k, 1)) (hi : (k : Nat) = i) (hn2 : i + 1 < nL) : mz_Sd (mz_V p l e R s m args below meth c nL n0 z0 D cl G A Qw) Qv (mz_stl i (pc + 1)) pc := by
  intro L S M h ad cA H locs ls hw ha hn hK hP hD hS hl
  simp only [mz_stl] at h
  split at h
  · next x r =>
    refine lv_lstore_n hx hb hdg hi (mz_lh_has hl) hn2 rfl (fun ls' hl' => ?_)
    exact h ad cA H locs ls' (((hw.tail.pre).set hw.head).clr) ha hn hK hP hD hS (mz_lh_sto2 hw.nf hl')
  · exact h.elim
theorem sd_lstore (hx : p.tables.exec = Jvm.exec) (hb : c.code = cc) {i : Nat} (hdg : decode cc pc = .ok (.lstore i, 2)) (hn2 : i + 1 < nL) : mz_Sd (mz_V p l e R s m args below meth c nL n0 z0 D cl G A Qw) Qv (mz_stl i (pc + 2)) pc := by
  intro L S M h ad cA H locs ls hw ha hn hK hP hD hS hl
  simp only [mz_stl] at h
  split at h
  · next x r =>
    refine lv_lstore hx hb hdg (mz_lh_has hl) hn2 rfl (fun ls' hl' => ?_)
    exact h ad cA H locs ls' (((hw.tail.pre).set hw.head).clr) ha hn hK hP hD hS (mz_lh_sto2 hw.nf hl')
  · exact h.elim
theorem sd_aload_n (hx : p.tables.exec = Jvm.exec) (hb : c.code = cc) {k : Fin 4} {i : Nat} (hdg : decode cc pc = .ok (.aload_n k, 1)) (hi : (k : Nat) = i) : mz_Sd (mz_V p l e R s m args below meth c nL n0 z0 D cl G A Qw) Qv (mz_lda i (pc + 1)) pc := by
  intro L S M h ad cA H locs ls hw ha hn hK hP hD hS hl
  simp only [mz_lda] at h
  split at h
  · next x hx2 => exact lv_aload_n hx hb hdg hi (hl.2.2 i _ hx2) (h ad cA H locs ls (hw.push (hw.loc hx2)) ha hn hK hP hD hS hl)
  · exact h.elim
theorem sd_aload (hx : p.tables.exec = Jvm.exec) (hb : c.code = cc) {i : Nat} (hdg : decode cc pc = .ok (.aload i, 2)) : mz_Sd (mz_V p l e R s m args below meth c nL n0 z0 D cl G A Qw) Qv (mz_lda i (pc + 2)) pc := by
  intro L S M h ad cA H locs ls hw ha hn hK hP hD hS hl
  simp only [mz_lda] at h
  split at h
  · next x hx2 => exact lv_aload hx hb hdg (hl.2.2 i _ hx2) (h ad cA H locs ls (hw.push (hw.loc hx2)) ha hn hK hP hD hS hl)
  · exact h.elim
theorem sd_astore_n (hx : p.tables.exec = Jvm.exec) (hb : c.code = cc) {k : Fin 4} {i : Nat} (hdg : decode cc pc = .ok (.astore_n k, 1)) (hi : (k : Nat) = i) (hn2 : i < nL) : mz_Sd (mz_V p l e R s m args below meth c nL n0 z0 D cl G A Qw) Qv (mz_sta i (pc + 1)) pc := by
  intro L S M h ad cA H locs ls hw ha hn hK hP hD hS hl
  simp only [mz_sta] at h
  split at h
  · next x r =>
    refine lv_astore_n hx hb hdg hi (mz_lh_has hl) hn2 rfl (fun ls' hl' => ?_)
    exact h ad cA H locs ls' (((hw.tail.pre).set hw.head)) ha hn hK hP hD hS (mz_lh_sto1 hw.nf hl')
  · exact h.elim
theorem sd_astore (hx : p.tables.exec = Jvm.exec) (hb : c.code = cc) {i : Nat} (hdg : decode cc pc = .ok (.astore i, 2)) (hn2 : i < nL) : mz_Sd (mz_V p l e R s m args below meth c nL n0 z0 D cl G A Qw) Qv (mz_sta i (pc + 2)) pc := by
  intro L S M h ad cA H locs ls hw ha hn hK hP hD hS hl
  simp only [mz_sta] at h
  split at h
  · next x r =>
    refine lv_astore hx hb hdg (mz_lh_has hl) hn2 rfl (fun ls' hl' => ?_)
    exact h ad cA H locs ls' (((hw.tail.pre).set hw.head)) ha hn hK hP hD hS (mz_lh_sto1 hw.nf hl')
  · exact h.elim
theorem sd_iinc (hx : p.tables.exec = Jvm.exec) (hb : c.code = cc) {i : Nat} {n : Int} {d : Int32} (hdg : decode cc pc = .ok (.iinc i n, 3)) (hd : Int32.ofInt n = d) (hn2 : i < nL) : mz_Sd (mz_V p l e R s m args below meth c nL n0 z0 D cl G A Qw) Qv (mz_inc i d (pc + 3)) pc := by
  intro L S M h ad cA H locs ls hw ha hn hK hP hD hS hl
  simp only [mz_inc] at h
  split at h
  · next x hx2 =>
    obtain ⟨k, hk⟩ := List.getElem?_of_mem (mz_ps_mem (ad := ad).mpr ⟨_, hx2, rfl⟩)
    refine lv_iinc hx hb hdg (mz_lh_has hl) hk (by rw [hd]) hn2 rfl (fun ls' hl' => ?_)
    exact h ad cA H locs ls' ((hw.pre).set trivial) ha hn hK hP hD hS (mz_lh_sto1 (v := .int (x + d)) hw.nf hl')
  · exact h.elim
theorem sd_iadd (hx : p.tables.exec = Jvm.exec) (hb : c.code = cc) (hdg : decode cc pc = .ok (.iadd, 1)) : mz_Sd (mz_V p l e R s m args below meth c nL n0 z0 D cl G A Qw) Qv (mz_bi (fun x y => x + y) (pc + 1)) pc := by
  intro L S M h ad cA H locs ls hw ha hn hK hP hD hS hl
  simp only [mz_bi] at h
  split at h
  · next y x r => exact lv_iadd hx hb hdg (h ad cA H locs ls (hw.tail.tail.push trivial) ha hn hK hP hD hS hl)
  · exact h.elim
theorem sd_isub (hx : p.tables.exec = Jvm.exec) (hb : c.code = cc) (hdg : decode cc pc = .ok (.isub, 1)) : mz_Sd (mz_V p l e R s m args below meth c nL n0 z0 D cl G A Qw) Qv (mz_bi (fun x y => x - y) (pc + 1)) pc := by
  intro L S M h ad cA H locs ls hw ha hn hK hP hD hS hl
  simp only [mz_bi] at h
  split at h
  · next y x r => exact lv_isub hx hb hdg (h ad cA H locs ls (hw.tail.tail.push trivial) ha hn hK hP hD hS hl)
  · exact h.elim
theorem sd_imul (hx : p.tables.exec = Jvm.exec) (hb : c.code = cc) (hdg : decode cc pc = .ok (.imul, 1)) : mz_Sd (mz_V p l e R s m args below meth c nL n0 z0 D cl G A Qw) Qv (mz_bi (fun x y => x * y) (pc + 1)) pc := by
  intro L S M h ad cA H locs ls hw ha hn hK hP hD hS hl
  simp only [mz_bi] at h
  split at h
  · next y x r => exact lv_imul hx hb hdg (h ad cA H locs ls (hw.tail.tail.push trivial) ha hn hK hP hD hS hl)
  · exact h.elim
theorem sd_iand (hx : p.tables.exec = Jvm.exec) (hb : c.code = cc) (hdg : decode cc pc = .ok (.iand, 1)) : mz_Sd (mz_V p l e R s m args below meth c nL n0 z0 D cl G A Qw) Qv (mz_bi (fun x y => x &&& y) (pc + 1)) pc := by
  intro L S M h ad cA H locs ls hw ha hn hK hP hD hS hl
  simp only [mz_bi] at h
  split at h
  · next y x r => exact lv_iand hx hb hdg (h ad cA H locs ls (hw.tail.tail.push trivial) ha hn hK hP hD hS hl)
  · exact h.elim
theorem sd_ior (hx : p.tables.exec = Jvm.exec) (hb : c.code = cc) (hdg : decode cc pc = .ok (.ior, 1)) : mz_Sd (mz_V p l e R s m args below meth c nL n0 z0 D cl G A Qw) Qv (mz_bi (fun x y => x ||| y) (pc + 1)) pc := by
  intro L S M h ad cA H locs ls hw ha hn hK hP hD hS hl
  simp only [mz_bi] at h
  split at h
  · next y x r => exact lv_ior hx hb hdg (h ad cA H locs ls (hw.tail.tail.push trivial) ha hn hK hP hD hS hl)
  · exact h.elim
theorem sd_ixor (hx : p.tables.exec = Jvm.exec) (hb : c.code = cc) (hdg : decode cc pc = .ok (.ixor, 1)) : mz_Sd (mz_V p l e R s m args below meth c nL n0 z0 D cl G A Qw) Qv (mz_bi (fun x y => x ^^^ y) (pc + 1)) pc := by
  intro L S M h ad cA H locs ls hw ha hn hK hP hD hS hl
  simp only [mz_bi] at h
  split at h
  · next y x r => exact lv_ixor hx hb hdg (h ad cA H locs ls (hw.tail.tail.push trivial) ha hn hK hP hD hS hl)
  · exact h.elim
theorem sd_ladd (hx : p.tables.exec = Jvm.exec) (hb : c.code = cc) (hdg : decode cc pc = .ok (.ladd, 1)) : mz_Sd (mz_V p l e R s m args below meth c nL n0 z0 D cl G A Qw) Qv (mz_bl (fun x y => x + y) (pc + 1)) pc := by
  intro L S M h ad cA H locs ls hw ha hn hK hP hD hS hl
  simp only [mz_bl] at h
  split at h
  · next y x r => exact lv_ladd hx hb hdg (h ad cA H locs ls (hw.tail.tail.push trivial) ha hn hK hP hD hS hl)
  · exact h.elim
theorem sd_lsub (hx : p.tables.exec = Jvm.exec) (hb : c.code = cc) (hdg : decode cc pc = .ok (.lsub, 1)) : mz_Sd (mz_V p l e R s m args below meth c nL n0 z0 D cl G A Qw) Qv (mz_bl (fun x y => x - y) (pc + 1)) pc := by
  intro L S M h ad cA H locs ls hw ha hn hK hP hD hS hl
  simp only [mz_bl] at h
  split at h
  · next y x r => exact lv_lsub hx hb hdg (h ad cA H locs ls (hw.tail.tail.push trivial) ha hn hK hP hD hS hl)
  · exact h.elim
theorem sd_lmul (hx : p.tables.exec = Jvm.exec) (hb : c.code = cc) (hdg : decode cc pc = .ok (.lmul, 1)) : mz_Sd (mz_V p l e R s m args below meth c nL n0 z0 D cl G A Qw) Qv (mz_bl (fun x y => x * y) (pc + 1)) pc := by
  intro L S M h ad cA H locs ls hw ha hn hK hP hD hS hl
  simp only [mz_bl] at h
  split at h
  · next y x r => exact lv_lmul hx hb hdg (h ad cA H locs ls (hw.tail.tail.push trivial) ha hn hK hP hD hS hl)
  · exact h.elim
theorem sd_land (hx : p.tables.exec = Jvm.exec) (hb : c.code = cc) (hdg : decode cc pc = .ok (.land, 1)) : mz_Sd (mz_V p l e R s m args below meth c nL n0 z0 D cl G A Qw) Qv (mz_bl (fun x y => x &&& y) (pc + 1)) pc := by
  intro L S M h ad cA H locs ls hw ha hn hK hP hD hS hl
  simp only [mz_bl] at h
  split at h
  · next y x r => exact lv_land hx hb hdg (h ad cA H locs ls (hw.tail.tail.push trivial) ha hn hK hP hD hS hl)
  · exact h.elim
theorem sd_lor (hx : p.tables.exec = Jvm.exec) (hb : c.code = cc) (hdg : decode cc pc = .ok (.lor, 1)) : mz_Sd (mz_V p l e R s m args below meth c nL n0 z0 D cl G A Qw) Qv (mz_bl (fun x y => x ||| y) (pc + 1)) pc := by
  intro L S M h ad cA H locs ls hw ha hn hK hP hD hS hl
  simp only [mz_bl] at h
  split at h
  · next y x r => exact lv_lor hx hb hdg (h ad cA H locs ls (hw.tail.tail.push trivial) ha hn hK hP hD hS hl)
  · exact h.elim
theorem sd_lxor (hx : p.tables.exec = Jvm.exec) (hb : c.code = cc) (hdg : decode cc pc = .ok (.lxor, 1)) : mz_Sd (mz_V p l e R s m args below meth c nL n0 z0 D cl G A Qw) Qv (mz_bl (fun x y => x ^^^ y) (pc + 1)) pc := by
  intro L S M h ad cA H locs ls hw ha hn hK hP hD hS hl
  simp only [mz_bl] at h
  split at h
  · next y x r => exact lv_lxor hx hb hdg (h ad cA H locs ls (hw.tail.tail.push trivial) ha hn hK hP hD hS hl)
  · exact h.elim
theorem sd_idiv (hx : p.tables.exec = Jvm.exec) (hb : c.code = cc) (hdg : decode cc pc = .ok (.idiv, 1)) : mz_Sd (mz_V p l e R s m args below meth c nL n0 z0 D cl G A Qw) Qv (mz_bid (fun x y => x / y) (pc + 1)) pc := by
  intro L S M h ad cA H locs ls hw ha hn hK hP hD hS hl
  simp only [mz_bid] at h
  split at h
  · next y x r => exact lv_idiv hx hb hdg h.1 (h.2 ad cA H locs ls (hw.tail.tail.push trivial) ha hn hK hP hD hS hl)
  · exact h.elim
theorem sd_irem (hx : p.tables.exec = Jvm.exec) (hb : c.code = cc) (hdg : decode cc pc = .ok (.irem, 1)) : mz_Sd (mz_V p l e R s m args below meth c nL n0 z0 D cl G A Qw) Qv (mz_bid (fun x y => x - x / y * y) (pc + 1)) pc := by
  intro L S M h ad cA H locs ls hw ha hn hK hP hD hS hl
  simp only [mz_bid] at h
  split at h
  · next y x r => exact lv_irem hx hb hdg h.1 (h.2 ad cA H locs ls (hw.tail.tail.push trivial) ha hn hK hP hD hS hl)
  · exact h.elim
theorem sd_ldiv (hx : p.tables.exec = Jvm.exec) (hb : c.code = cc) (hdg : decode cc pc = .ok (.ldiv, 1)) : mz_Sd (mz_V p l e R s m args below meth c nL n0 z0 D cl G A Qw) Qv (mz_bld (fun x y => x / y) (pc + 1)) pc := by
  intro L S M h ad cA H locs ls hw ha hn hK hP hD hS hl
  simp only [mz_bld] at h
  split at h
  · next y x r => exact lv_ldiv hx hb hdg h.1 (h.2 ad cA H locs ls (hw.tail.tail.push trivial) ha hn hK hP hD hS hl)
  · exact h.elim
theorem sd_lrem (hx : p.tables.exec = Jvm.exec) (hb : c.code = cc) (hdg : decode cc pc = .ok (.lrem, 1)) : mz_Sd (mz_V p l e R s m args below meth c nL n0 z0 D cl G A Qw) Qv (mz_bld (fun x y => x - x / y * y) (pc + 1)) pc := by
  intro L S M h ad cA H locs ls hw ha hn hK hP hD hS hl
  simp only [mz_bld] at h
  split at h
  · next y x r => exact lv_lrem hx hb hdg h.1 (h.2 ad cA H locs ls (hw.tail.tail.push trivial) ha hn hK hP hD hS hl)
  · exact h.elim
theorem sd_ishl (hx : p.tables.exec = Jvm.exec) (hb : c.code = cc) (hdg : decode cc pc = .ok (.ishl, 1)) : mz_Sd (mz_V p l e R s m args below meth c nL n0 z0 D cl G A Qw) Qv (mz_bi (fun x y => x <<< (y &&& 31)) (pc + 1)) pc := by
  intro L S M h ad cA H locs ls hw ha hn hK hP hD hS hl
  simp only [mz_bi] at h
  split at h
  · next y x r => exact lv_ishl hx hb hdg (h ad cA H locs ls (hw.tail.tail.push trivial) ha hn hK hP hD hS hl)
  · exact h.elim
theorem sd_ishr (hx : p.tables.exec = Jvm.exec) (hb : c.code = cc) (hdg : decode cc pc = .ok (.ishr, 1)) : mz_Sd (mz_V p l e R s m args below meth c nL n0 z0 D cl G A Qw) Qv (mz_bi (fun x y => x >>> (y &&& 31)) (pc + 1)) pc := by
  intro L S M h ad cA H locs ls hw ha hn hK hP hD hS hl
  simp only [mz_bi] at h
  split at h
  · next y x r => exact lv_ishr hx hb hdg (h ad cA H locs ls (hw.tail.tail.push trivial) ha hn hK hP hD hS hl)
  · exact h.elim
theorem sd_iushr (hx : p.tables.exec = Jvm.exec) (hb : c.code = cc) (hdg : decode cc pc = .ok (.iushr, 1)) : mz_Sd (mz_V p l e R s m args below meth c nL n0 z0 D cl G A Qw) Qv (mz_bi (fun x y => (x.toUInt32 >>> (y.toUInt32 &&& Int32.toUInt32 31)).toInt32) (pc + 1)) pc := by
  intro L S M h ad cA H locs ls hw ha hn hK hP hD hS hl
  simp only [mz_bi] at h
  split at h
  · next y x r => exact lv_iushr hx hb hdg rfl (h ad cA H locs ls (hw.tail.tail.push trivial) ha hn hK hP hD hS hl)
  · exact h.elim
theorem sd_lushr (hx : p.tables.exec = Jvm.exec) (hb : c.code = cc) (hdg : decode cc pc = .ok (.lushr, 1)) : mz_Sd (mz_V p l e R s m args below meth c nL n0 z0 D cl G A Qw) Qv (mz_sh (fun x y => (x.toUInt64 >>> (y.toInt64.toUInt64 &&& Int64.toUInt64 63)).toInt64) (pc + 1)) pc := by
  intro L S M h ad cA H locs ls hw ha hn hK hP hD hS hl
  simp only [mz_sh] at h
  split at h
  · next y x r => exact lv_lushr hx hb hdg rfl (h ad cA H locs ls (hw.tail.tail.push trivial) ha hn hK hP hD hS hl)
  · exact h.elim
theorem sd_lshl (hx : p.tables.exec = Jvm.exec) (hb : c.code = cc) (hdg : decode cc pc = .ok (.lshl, 1)) : mz_Sd (mz_V p l e R s m args below meth c nL n0 z0 D cl G A Qw) Qv (mz_sh (fun x y => x <<< (y.toInt64 &&& 63)) (pc + 1)) pc := by
  intro L S M h ad cA H locs ls hw ha hn hK hP hD hS hl
  simp only [mz_sh] at h
  split at h
  · next y x r => exact lv_lshl hx hb hdg rfl (h ad cA H locs ls (hw.tail.tail.push trivial) ha hn hK hP hD hS hl)
  · exact h.elim
theorem sd_lshr (hx : p.tables.exec = Jvm.exec) (hb : c.code = cc) (hdg : decode cc pc = .ok (.lshr, 1)) : mz_Sd (mz_V p l e R s m args below meth c nL n0 z0 D cl G A Qw) Qv (mz_sh (fun x y => x >>> (y.toInt64 &&& 63)) (pc + 1)) pc := by
  intro L S M h ad cA H locs ls hw ha hn hK hP hD hS hl
  simp only [mz_sh] at h
  split at h
  · next y x r => exact lv_lshr hx hb hdg rfl (h ad cA H locs ls (hw.tail.tail.push trivial) ha hn hK hP hD hS hl)
  · exact h.elim
theorem sd_i2l (hx : p.tables.exec = Jvm.exec) (hb : c.code = cc) (hdg : decode cc pc = .ok (.i2l, 1)) : mz_Sd (mz_V p l e R s m args below meth c nL n0 z0 D cl G A Qw) Qv (mz_i2l (pc + 1)) pc := by
  intro L S M h ad cA H locs ls hw ha hn hK hP hD hS hl
  simp only [mz_i2l] at h
  split at h
  · next x r => exact lv_i2l hx hb hdg rfl (h ad cA H locs ls (hw.tail.push trivial) ha hn hK hP hD hS hl)
  · exact h.elim
theorem sd_l2i (hx : p.tables.exec = Jvm.exec) (hb : c.code = cc) (hdg : decode cc pc = .ok (.l2i, 1)) : mz_Sd (mz_V p l e R s m args below meth c nL n0 z0 D cl G A Qw) Qv (mz_l2i (pc + 1)) pc := by
  intro L S M h ad cA H locs ls hw ha hn hK hP hD hS hl
  simp only [mz_l2i] at h
  split at h
  · next x r => exact lv_l2i hx hb hdg rfl (h ad cA H locs ls (hw.tail.push trivial) ha hn hK hP hD hS hl)
  · exact h.elim
theorem sd_ineg (hx : p.tables.exec = Jvm.exec) (hb : c.code = cc) (hdg : decode cc pc = .ok (.ineg, 1)) : mz_Sd (mz_V p l e R s m args below meth c nL n0 z0 D cl G A Qw) Qv (mz_i1 (fun x => -x) (pc + 1)) pc := by
  intro L S M h ad cA H locs ls hw ha hn hK hP hD hS hl
  simp only [mz_i1] at h
  split at h
  · next x r => exact lv_ineg hx hb hdg (h ad cA H locs ls (hw.tail.push trivial) ha hn hK hP hD hS hl)
  · exact h.elim
theorem sd_lneg (hx : p.tables.exec = Jvm.exec) (hb : c.code = cc) (hdg : decode cc pc = .ok (.lneg, 1)) : mz_Sd (mz_V p l e R s m args below meth c nL n0 z0 D cl G A Qw) Qv (mz_l1 (fun x => -x) (pc + 1)) pc := by
  intro L S M h ad cA H locs ls hw ha hn hK hP hD hS hl
  simp only [mz_l1] at h
  split at h
  · next x r => exact lv_lneg hx hb hdg (h ad cA H locs ls (hw.tail.push trivial) ha hn hK hP hD hS hl)
  · exact h.elim
theorem sd_lcmp (hx : p.tables.exec = Jvm.exec) (hb : c.code = cc) (hdg : decode cc pc = .ok (.lcmp, 1)) : mz_Sd (mz_V p l e R s m args below meth c nL n0 z0 D cl G A Qw) Qv (mz_lcmp (pc + 1)) pc := by
  intro L S M h ad cA H locs ls hw ha hn hK hP hD hS hl
  simp only [mz_lcmp] at h
  split at h
  · next y x r => exact W.lcmp hx hb hdg (h ad cA H locs ls (hw.tail.tail.push trivial) ha hn hK hP hD hS hl)
  · exact h.elim
theorem sd_if_eq (hx : p.tables.exec = Jvm.exec) (hb : c.code = cc) {off : Int} {tgt : Nat} (hdg : decode cc pc = .ok (.ifCond .eq off, 3)) (ht : (pc : Int) + off = (tgt : Int)) : mz_Sd (mz_V p l e R s m args below meth c nL n0 z0 D cl G A Qw) Qv (mz_if (fun x => x = 0) tgt (pc + 3)) pc := by
  intro L S M h ad cA H locs ls hw ha hn hK hP hD hS hl
  simp only [mz_if] at h
  split at h
  · next x r => exact lv_if_eq hx hb hdg ht (fun q => h.1 q ad cA H locs ls hw.tail ha hn hK hP hD hS hl) (fun q => h.2 q ad cA H locs ls hw.tail ha hn hK hP hD hS hl)
  · exact h.elim
theorem sd_icmp_eq (hx : p.tables.exec = Jvm.exec) (hb : c.code = cc) {off : Int} {tgt : Nat} (hdg : decode cc pc = .ok (.if_icmp .eq off, 3)) (ht : (pc : Int) + off = (tgt : Int)) : mz_Sd (mz_V p l e R s m args below meth c nL n0 z0 D cl G A Qw) Qv (mz_ic (fun x y => x = y) tgt (pc + 3)) pc := by
  intro L S M h ad cA H locs ls hw ha hn hK hP hD hS hl
  simp only [mz_ic] at h
  split at h
  · next y x r => exact lv_icmp_eq hx hb hdg ht (fun q => h.1 q ad cA H locs ls hw.tail.tail ha hn hK hP hD hS hl) (fun q => h.2 q ad cA H locs ls hw.tail.tail ha hn hK hP hD hS hl)
  · exact h.elim
theorem sd_if_ne (hx : p.tables.exec = Jvm.exec) (hb : c.code = cc) {off : Int} {tgt : Nat} (hdg : decode cc pc = .ok (.ifCond .ne off, 3)) (ht : (pc : Int) + off = (tgt : Int)) : mz_Sd (mz_V p l e R s m args below meth c nL n0 z0 D cl G A Qw) Qv (mz_if (fun x => x = 0) (pc + 3) tgt) pc := by
  intro L S M h ad cA H locs ls hw ha hn hK hP hD hS hl
  simp only [mz_if] at h
  split at h
  · next x r => exact lv_if_ne hx hb hdg ht (fun q => h.2 q ad cA H locs ls hw.tail ha hn hK hP hD hS hl) (fun q => h.1 q ad cA H locs ls hw.tail ha hn hK hP hD hS hl)
  · exact h.elim
theorem sd_icmp_ne (hx : p.tables.exec = Jvm.exec) (hb : c.code = cc) {off : Int} {tgt : Nat} (hdg : decode cc pc = .ok (.if_icmp .ne off, 3)) (ht : (pc : Int) + off = (tgt : Int)) : mz_Sd (mz_V p l e R s m args below meth c nL n0 z0 D cl G A Qw) Qv (mz_ic (fun x y => x = y) (pc + 3) tgt) pc := by
  intro L S M h ad cA H locs ls hw ha hn hK hP hD hS hl
  simp only [mz_ic] at h
  split at h
  · next y x r => exact lv_icmp_ne hx hb hdg ht (fun q => h.2 q ad cA H locs ls hw.tail.tail ha hn hK hP hD hS hl) (fun q => h.1 q ad cA H locs ls hw.tail.tail ha hn hK hP hD hS hl)
  · exact h.elim
theorem sd_if_lt (hx : p.tables.exec = Jvm.exec) (hb : c.code = cc) {off : Int} {tgt : Nat} (hdg : decode cc pc = .ok (.ifCond .lt off, 3)) (ht : (pc : Int) + off = (tgt : Int)) : mz_Sd (mz_V p l e R s m args below meth c nL n0 z0 D cl G A Qw) Qv (mz_if (fun x => x < 0) tgt (pc + 3)) pc := by
  intro L S M h ad cA H locs ls hw ha hn hK hP hD hS hl
  simp only [mz_if] at h
  split at h
  · next x r => exact lv_if_lt hx hb hdg ht (fun q => h.1 q ad cA H locs ls hw.tail ha hn hK hP hD hS hl) (fun q => h.2 q ad cA H locs ls hw.tail ha hn hK hP hD hS hl)
  · exact h.elim
theorem sd_icmp_lt (hx : p.tables.exec = Jvm.exec) (hb : c.code = cc) {off : Int} {tgt : Nat} (hdg : decode cc pc = .ok (.if_icmp .lt off, 3)) (ht : (pc : Int) + off = (tgt : Int)) : mz_Sd (mz_V p l e R s m args below meth c nL n0 z0 D cl G A Qw) Qv (mz_ic (fun x y => x < y) tgt (pc + 3)) pc := by
  intro L S M h ad cA H locs ls hw ha hn hK hP hD hS hl
  simp only [mz_ic] at h
  split at h
  · next y x r => exact lv_icmp_lt hx hb hdg ht (fun q => h.1 q ad cA H locs ls hw.tail.tail ha hn hK hP hD hS hl) (fun q => h.2 q ad cA H locs ls hw.tail.tail ha hn hK hP hD hS hl)
  · exact h.elim
theorem sd_if_ge (hx : p.tables.exec = Jvm.exec) (hb : c.code = cc) {off : Int} {tgt : Nat} (hdg : decode cc pc = .ok (.ifCond .ge off, 3)) (ht : (pc : Int) + off = (tgt : Int)) : mz_Sd (mz_V p l e R s m args below meth c nL n0 z0 D cl G A Qw) Qv (mz_if (fun x => 0 ≤ x) tgt (pc + 3)) pc := by
  intro L S M h ad cA H locs ls hw ha hn hK hP hD hS hl
  simp only [mz_if] at h
  split at h
  · next x r => exact lv_if_ge hx hb hdg ht (fun q => h.1 q ad cA H locs ls hw.tail ha hn hK hP hD hS hl) (fun q => h.2 q ad cA H locs ls hw.tail ha hn hK hP hD hS hl)
  · exact h.elim
theorem sd_icmp_ge (hx : p.tables.exec = Jvm.exec) (hb : c.code = cc) {off : Int} {tgt : Nat} (hdg : decode cc pc = .ok (.if_icmp .ge off, 3)) (ht : (pc : Int) + off = (tgt : Int)) : mz_Sd (mz_V p l e R s m args below meth c nL n0 z0 D cl G A Qw) Qv (mz_ic (fun x y => y ≤ x) tgt (pc + 3)) pc := by
  intro L S M h ad cA H locs ls hw ha hn hK hP hD hS hl
  simp only [mz_ic] at h
  split at h
  · next y x r => exact lv_icmp_ge hx hb hdg ht (fun q => h.1 q ad cA H locs ls hw.tail.tail ha hn hK hP hD hS hl) (fun q => h.2 q ad cA H locs ls hw.tail.tail ha hn hK hP hD hS hl)
  · exact h.elim
theorem sd_if_gt (hx : p.tables.exec = Jvm.exec) (hb : c.code = cc) {off : Int} {tgt : Nat} (hdg : decode cc pc = .ok (.ifCond .gt off, 3)) (ht : (pc : Int) + off = (tgt : Int)) : mz_Sd (mz_V p l e R s m args below meth c nL n0 z0 D cl G A Qw) Qv (mz_if (fun x => 0 < x) tgt (pc + 3)) pc := by
  intro L S M h ad cA H locs ls hw ha hn hK hP hD hS hl
  simp only [mz_if] at h
  split at h
  · next x r => exact lv_if_gt hx hb hdg ht (fun q => h.1 q ad cA H locs ls hw.tail ha hn hK hP hD hS hl) (fun q => h.2 q ad cA H locs ls hw.tail ha hn hK hP hD hS hl)
  · exact h.elim
theorem sd_icmp_gt (hx : p.tables.exec = Jvm.exec) (hb : c.code = cc) {off : Int} {tgt : Nat} (hdg : decode cc pc = .ok (.if_icmp .gt off, 3)) (ht : (pc : Int) + off = (tgt : Int)) : mz_Sd (mz_V p l e R s m args below meth c nL n0 z0 D cl G A Qw) Qv (mz_ic (fun x y => y < x) tgt (pc + 3)) pc := by
  intro L S M h ad cA H locs ls hw ha hn hK hP hD hS hl
  simp only [mz_ic] at h
  split at h
  · next y x r => exact lv_icmp_gt hx hb hdg ht (fun q => h.1 q ad cA H locs ls hw.tail.tail ha hn hK hP hD hS hl) (fun q => h.2 q ad cA H locs ls hw.tail.tail ha hn hK hP hD hS hl)
  · exact h.elim
theorem sd_if_le (hx : p.tables.exec = Jvm.exec) (hb : c.code = cc) {off : Int} {tgt : Nat} (hdg : decode cc pc = .ok (.ifCond .le off, 3)) (ht : (pc : Int) + off = (tgt : Int)) : mz_Sd (mz_V p l e R s m args below meth c nL n0 z0 D cl G A Qw) Qv (mz_if (fun x => x ≤ 0) tgt (pc + 3)) pc := by
  intro L S M h ad cA H locs ls hw ha hn hK hP hD hS hl
  simp only [mz_if] at h
  split at h
  · next x r => exact lv_if_le hx hb hdg ht (fun q => h.1 q ad cA H locs ls hw.tail ha hn hK hP hD hS hl) (fun q => h.2 q ad cA H locs ls hw.tail ha hn hK hP hD hS hl)
  · exact h.elim
theorem sd_icmp_le (hx : p.tables.exec = Jvm.exec) (hb : c.code = cc) {off : Int} {tgt : Nat} (hdg : decode cc pc = .ok (.if_icmp .le off, 3)) (ht : (pc : Int) + off = (tgt : Int)) : mz_Sd (mz_V p l e R s m args below meth c nL n0 z0 D cl G A Qw) Qv (mz_ic (fun x y => x ≤ y) tgt (pc + 3)) pc := by
  intro L S M h ad cA H locs ls hw ha hn hK hP hD hS hl
  simp only [mz_ic] at h
  split at h
  · next y x r => exact lv_icmp_le hx hb hdg ht (fun q => h.1 q ad cA H locs ls hw.tail.tail ha hn hK hP hD hS hl) (fun q => h.2 q ad cA H locs ls hw.tail.tail ha hn hK hP hD hS hl)
  · exact h.elim
theorem sd_goto (hx : p.tables.exec = Jvm.exec) (hb : c.code = cc) {off : Int} {tgt : Nat} (hdg : decode cc pc = .ok (.goto off, 3)) (ht : (pc : Int) + off = (tgt : Int)) : mz_Sd (mz_V p l e R s m args below meth c nL n0 z0 D cl G A Qw) Qv (mz_go tgt) pc := by
  intro L S M h ad cA H locs ls hw ha hn hK hP hD hS hl
  exact lv_goto hx hb hdg ht (h ad cA H locs ls hw ha hn hK hP hD hS hl)
theorem sd_dup (hx : p.tables.exec = Jvm.exec) (hb : c.code = cc) (hdg : decode cc pc = .ok (.dup, 1)) : mz_Sd (mz_V p l e R s m args below meth c nL n0 z0 D cl G A Qw) Qv (mz_dup (pc + 1)) pc := by
  intro L S M h ad cA H locs ls hw ha hn hK hP hD hS hl
  simp only [mz_dup] at h
  split at h
  · next x r => exact lv_dup hx hb hdg rfl (h ad cA H locs ls (hw.push hw.head) ha hn hK hP hD hS hl)
  · next x r => exact lv_dup hx hb hdg rfl (h ad cA H locs ls (hw.push hw.head) ha hn hK hP hD hS hl)
  · exact h.elim
theorem sd_dup_x1 (hx : p.tables.exec = Jvm.exec) (hb : c.code = cc) (hdg : decode cc pc = .ok (.dup_x1, 1)) : mz_Sd (mz_V p l e R s m args below meth c nL n0 z0 D cl G A Qw) Qv (mz_dupx1 (pc + 1)) pc := by
  intro L S M h ad cA H locs ls hw ha hn hK hP hD hS hl
  simp only [mz_dupx1] at h
  split at h
  · next x y r => exact lv_dup_x1 hx hb hdg rfl rfl (h ad cA H locs ls (((hw.tail.tail.push hw.head).push hw.tail.head).push hw.head) ha hn hK hP hD hS hl)
  · next x y r => exact lv_dup_x1 hx hb hdg rfl rfl (h ad cA H locs ls (((hw.tail.tail.push hw.head).push hw.tail.head).push hw.head) ha hn hK hP hD hS hl)
  · exact h.elim
theorem sd_dup2 (hx : p.tables.exec = Jvm.exec) (hb : c.code = cc) (hdg : decode cc pc = .ok (.dup2, 1)) : mz_Sd (mz_V p l e R s m args below meth c nL n0 z0 D cl G A Qw) Qv (mz_dup2 (pc + 1)) pc := by
  intro L S M h ad cA H locs ls hw ha hn hK hP hD hS hl
  simp only [mz_dup2] at h
  split at h
  · next x r => exact lv_dup2_2 hx hb hdg rfl (h ad cA H locs ls (hw.push hw.head) ha hn hK hP hD hS hl)
  · next x y r => exact lv_dup2_11 hx hb hdg rfl rfl (h ad cA H locs ls ((hw.push hw.tail.head).push hw.head) ha hn hK hP hD hS hl)
  · exact h.elim
theorem sd_pop (hx : p.tables.exec = Jvm.exec) (hb : c.code = cc) (hdg : decode cc pc = .ok (.pop, 1)) : mz_Sd (mz_V p l e R s m args below meth c nL n0 z0 D cl G A Qw) Qv (mz_pop (pc + 1)) pc := by
  intro L S M h ad cA H locs ls hw ha hn hK hP hD hS hl
  simp only [mz_pop] at h
  split at h
  · next x r => exact lv_pop hx hb hdg rfl (h ad cA H locs ls hw.tail ha hn hK hP hD hS hl)
  · next x r => exact lv_pop hx hb hdg rfl (h ad cA H locs ls hw.tail ha hn hK hP hD hS hl)
  · exact h.elim
theorem sd_get (hx : p.tables.exec = Jvm.exec) (hb : c.code = cc) {own ref C : String} {T : u_T} {N ci k index : Nat} {Ts : List Cond} (hts : ∀ w ∈ Ts, w.before args s = true) (hin : ∀ w ∈ u_ws C T N, w ∈ Ts) (hown : s.vm.findClass own = some m.cls) (hc : cl[ci]? = some (C, T, N)) (hk : k < N) (hlink : (Cond.fieldLink own index ref (T k).2.1 (T k).2.2.1).before args s = true) (hsame : ∀ x, s.fieldFound? (T k).1 (T k).2.1 (T k).2.2.1 = some x → s.fieldFound? ref (T k).2.1 (T k).2.2.1 = some x) (hdg : decode cc pc = .ok (.getfield index, 3)) : mz_Sd (mz_V p l e R s m args below meth c nL n0 z0 D cl G A Qw) Qv (mz_gf ci k (pc + 3)) pc := by
  intro L S M h ad cA H locs ls hw ha hn hK hP hD hS hl
  simp only [mz_gf, mz_ob] at h
  split at h
  · next q r =>
    split at h
    · next ci2 ks hq =>
      split at h
      · next hbe =>
        have hce : ci2 = ci := Nat.eq_of_beq_eq_true hbe
        subst hce
        have he := mz_w_at (ad := ad) (cA := cA) hq
        split at h
        · next hk2 => exact va_get hx hb hts hin hown hK hP q he hc k hk hlink hsame (mz_fs_at hk2) hdg (h ad cA H locs ls (hw.tail.push trivial) ha hn hK hP hD hS hl)
        · next hk2 => exact va_get hx hb hts hin hown hK hP q he hc k hk hlink hsame (mz_fs_at hk2) hdg (h ad cA H locs ls (hw.tail.push trivial) ha hn hK hP hD hS hl)
        · next t hk2 => exact va_get hx hb hts hin hown hK hP q he hc k hk hlink hsame (mz_fs_at hk2) hdg (h ad cA H locs ls (hw.tail.push (Or.inl (hw.2.1 _ (List.mem_of_getElem? hq) _ (List.mem_of_getElem? hk2)))) ha hn hK hP hD hS hl)
        · exact h.elim
      · exact h.elim
    · exact h.elim
  · exact h.elim
theorem sd_getN (hx : p.tables.exec = Jvm.exec) (hb : c.code = cc) {own ref C host : String} {T : u_T} {N ci k index : Nat} {Ts : List Cond} (hts : ∀ w ∈ Ts, w.before args s = true) (hin : ∀ w ∈ u_ws C T N, w ∈ Ts) (hown : s.vm.findClass own = some m.cls) (hc : cl[ci]? = some (C, T, N)) (hk : k < N) (hlink : (Cond.fieldLinkNest own index ref (T k).2.1 (T k).2.2.1 host).before args s = true) (hsame : ∀ x, s.fieldFound? (T k).1 (T k).2.1 (T k).2.2.1 = some x → s.fieldFound? ref (T k).2.1 (T k).2.2.1 = some x) (hdg : decode cc pc = .ok (.getfield index, 3)) : mz_Sd (mz_V p l e R s m args below meth c nL n0 z0 D cl G A Qw) Qv (mz_gf ci k (pc + 3)) pc := by
  intro L S M h ad cA H locs ls hw ha hn hK hP hD hS hl
  simp only [mz_gf, mz_ob] at h
  split at h
  · next q r =>
    split at h
    · next ci2 ks hq =>
      split at h
      · next hbe =>
        have hce : ci2 = ci := Nat.eq_of_beq_eq_true hbe
        subst hce
        have he := mz_w_at (ad := ad) (cA := cA) hq
        split at h
        · next hk2 => exact va_getN hx hb hts hin hown hK hP q he hc k hk hlink hsame (mz_fs_at hk2) hdg (h ad cA H locs ls (hw.tail.push trivial) ha hn hK hP hD hS hl)
        · next hk2 => exact va_getN hx hb hts hin hown hK hP q he hc k hk hlink hsame (mz_fs_at hk2) hdg (h ad cA H locs ls (hw.tail.push trivial) ha hn hK hP hD hS hl)
        · next t hk2 => exact va_getN hx hb hts hin hown hK hP q he hc k hk hlink hsame (mz_fs_at hk2) hdg (h ad cA H locs ls (hw.tail.push (Or.inl (hw.2.1 _ (List.mem_of_getElem? hq) _ (List.mem_of_getElem? hk2)))) ha hn hK hP hD hS hl)
        · exact h.elim
      · exact h.elim
    · exact h.elim
  · exact h.elim
theorem sd_puti (hx : p.tables.exec = Jvm.exec) (hb : c.code = cc) {own ref C : String} {T : u_T} {N ci k index : Nat} {Ts : List Cond} (hts : ∀ w ∈ Ts, w.before args s = true) (hin : ∀ w ∈ u_ws C T N, w ∈ Ts) (ty0 : Nat → FieldType) (hty : ∀ k, k < N → parseFieldDescriptor (T k).2.2.1 = some (ty0 k)) (hnm : ∀ a, a < N → ∀ b, b < N → a ≠ b → (T a).2.1 ≠ (T b).2.1) (hown : s.vm.findClass own = some m.cls) (hc : cl[ci]? = some (C, T, N)) (hk : k < N) (hlink : (Cond.fieldLink own index ref (T k).2.1 (T k).2.2.1).before args s = true) (hsame : ∀ x, s.fieldFound? (T k).1 (T k).2.1 (T k).2.2.1 = some x → s.fieldFound? ref (T k).2.1 (T k).2.2.1 = some x) (hfin : (T k).2.2.2 = false) (htk : ty0 k = .int) (hdg : decode cc pc = .ok (.putfield index, 3)) : mz_Sd (mz_V p l e R s m args below meth c nL n0 z0 D cl G A Qw) Qv (mz_pfi ci k (pc + 3)) pc := by
  intro L S M h ad cA H locs ls hw ha hn hK hP hD hS hl
  simp only [mz_pfi, mz_ob] at h
  split at h
  · next x q r =>
    split at h
    · next ci2 ks hq =>
      split at h
      · next hbe =>
        have hce : ci2 = ci := Nat.eq_of_beq_eq_true hbe
        subst hce
        have he := mz_w_at (ad := ad) (cA := cA) hq
        split at h
        · next hk2 =>
          have hlt : k < (ks.mapIdx (fun k kind => mz_fv ad M q k kind)).length := by
            rw [List.length_mapIdx]
            exact (List.getElem?_eq_some_iff.mp hk2).1
          refine va_put (v := .int x) hx hb hts hin ty0 hty hnm hown hK hP hD hS q he hc k hk hlink hsame hfin (hty k hk) (by rw [htk]; rfl) (by rw [htk]; rfl) hlt hdg (fun H1 locs1 hP1 hD1 hS1 => ?_)
          have hce2 : mz_ce ad cA (M.1, mz_up M.2.1 q k x, M.2.2) q (.inr (ci2, ks)) = .inr (ci2, (ks.mapIdx (fun k kind => mz_fv ad M q k kind)).set k (.int x)) := by
            simp only [mz_ce]
            rw [mz_fs_set (M' := (M.1, mz_up M.2.1 q k x, M.2.2)) hk2 (by simp [mz_fv, mz_up]) (fun j kd hj => by unfold mz_fv; split <;> simp [mz_up, hj])]
          have hse := mz_w_set (ad := ad) (cA := cA) (M' := (M.1, mz_up M.2.1 q k x, M.2.2)) hq rfl (fun i hi => by first | rfl | exact mz_up_off hi) (fun i hi => by first | rfl | exact mz_up_off hi) hce2
          rw [hse] at hP1 hD1
          exact h ad cA H1 locs1 ls (hw.tail.tail.mem rfl) ha hn hK hP1 hD1 hS1 hl
        · exact h.elim
      · exact h.elim
    · exact h.elim
  · exact h.elim
theorem sd_putl (hx : p.tables.exec = Jvm.exec) (hb : c.code = cc) {own ref C : String} {T : u_T} {N ci k index : Nat} {Ts : List Cond} (hts : ∀ w ∈ Ts, w.before args s = true) (hin : ∀ w ∈ u_ws C T N, w ∈ Ts) (ty0 : Nat → FieldType) (hty : ∀ k, k < N → parseFieldDescriptor (T k).2.2.1 = some (ty0 k)) (hnm : ∀ a, a < N → ∀ b, b < N → a ≠ b → (T a).2.1 ≠ (T b).2.1) (hown : s.vm.findClass own = some m.cls) (hc : cl[ci]? = some (C, T, N)) (hk : k < N) (hlink : (Cond.fieldLink own index ref (T k).2.1 (T k).2.2.1).before args s = true) (hsame : ∀ x, s.fieldFound? (T k).1 (T k).2.1 (T k).2.2.1 = some x → s.fieldFound? ref (T k).2.1 (T k).2.2.1 = some x) (hfin : (T k).2.2.2 = false) (htk : ty0 k = .long) (hdg : decode cc pc = .ok (.putfield index, 3)) : mz_Sd (mz_V p l e R s m args below meth c nL n0 z0 D cl G A Qw) Qv (mz_pfl ci k (pc + 3)) pc := by
  intro L S M h ad cA H locs ls hw ha hn hK hP hD hS hl
  simp only [mz_pfl, mz_ob] at h
  split at h
  · next x q r =>
    split at h
    · next ci2 ks hq =>
      split at h
      · next hbe =>
        have hce : ci2 = ci := Nat.eq_of_beq_eq_true hbe
        subst hce
        have he := mz_w_at (ad := ad) (cA := cA) hq
        split at h
        · next hk2 =>
          have hlt : k < (ks.mapIdx (fun k kind => mz_fv ad M q k kind)).length := by
            rw [List.length_mapIdx]
            exact (List.getElem?_eq_some_iff.mp hk2).1
          refine va_put (v := .long x) hx hb hts hin ty0 hty hnm hown hK hP hD hS q he hc k hk hlink hsame hfin (hty k hk) (by rw [htk]; rfl) (by rw [htk]; rfl) hlt hdg (fun H1 locs1 hP1 hD1 hS1 => ?_)
          have hce2 : mz_ce ad cA (M.1, M.2.1, mz_up M.2.2 q k x) q (.inr (ci2, ks)) = .inr (ci2, (ks.mapIdx (fun k kind => mz_fv ad M q k kind)).set k (.long x)) := by
            simp only [mz_ce]
            rw [mz_fs_set (M' := (M.1, M.2.1, mz_up M.2.2 q k x)) hk2 (by simp [mz_fv, mz_up]) (fun j kd hj => by unfold mz_fv; split <;> simp [mz_up, hj])]
          have hse := mz_w_set (ad := ad) (cA := cA) (M' := (M.1, M.2.1, mz_up M.2.2 q k x)) hq rfl (fun i hi => by first | rfl | exact mz_up_off hi) (fun i hi => by first | rfl | exact mz_up_off hi) hce2
          rw [hse] at hP1 hD1
          exact h ad cA H1 locs1 ls (hw.tail.tail.mem rfl) ha hn hK hP1 hD1 hS1 hl
        · exact h.elim
      · exact h.elim
    · exact h.elim
  · exact h.elim
theorem sd_putFi (hx : p.tables.exec = Jvm.exec) (hb : c.code = cc) {own ref C : String} {T : u_T} {N ci k index : Nat} {Ts : List Cond} (hts : ∀ w ∈ Ts, w.before args s = true) (hin : ∀ w ∈ u_ws C T N, w ∈ Ts) (ty0 : Nat → FieldType) (hty : ∀ k, k < N → parseFieldDescriptor (T k).2.2.1 = some (ty0 k)) (hnm : ∀ a, a < N → ∀ b, b < N → a ≠ b → (T a).2.1 ≠ (T b).2.1) (hown : s.vm.findClass own = some m.cls) (hc : cl[ci]? = some (C, T, N)) (hk : k < N) (hlink : (Cond.fieldLink own index ref (T k).2.1 (T k).2.2.1).before args s = true) (hsame : ∀ x, s.fieldFound? (T k).1 (T k).2.1 (T k).2.2.1 = some x → s.fieldFound? ref (T k).2.1 (T k).2.2.1 = some x) (hfin : (T k).2.2.2 = true) (hin2 : meth.name = "<init>") (hdecl : (T k).1 = own) (htk : ty0 k = .int) (hdg : decode cc pc = .ok (.putfield index, 3)) : mz_Sd (mz_V p l e R s m args below meth c nL n0 z0 D cl G A Qw) Qv (mz_pfi ci k (pc + 3)) pc := by
  intro L S M h ad cA H locs ls hw ha hn hK hP hD hS hl
  simp only [mz_pfi, mz_ob] at h
  split at h
  · next x q r =>
    split at h
    · next ci2 ks hq =>
      split at h
      · next hbe =>
        have hce : ci2 = ci := Nat.eq_of_beq_eq_true hbe
        subst hce
        have he := mz_w_at (ad := ad) (cA := cA) hq
        split at h
        · next hk2 =>
          have hlt : k < (ks.mapIdx (fun k kind => mz_fv ad M q k kind)).length := by
            rw [List.length_mapIdx]
            exact (List.getElem?_eq_some_iff.mp hk2).1
          refine va_putF (v := .int x) hx hb hts hin ty0 hty hnm hown hK hP hD hS q he hc k hk hlink hsame hfin hin2 hdecl (hty k hk) (by rw [htk]; rfl) (by rw [htk]; rfl) hlt hdg (fun H1 locs1 hP1 hD1 hS1 => ?_)
          have hce2 : mz_ce ad cA (M.1, mz_up M.2.1 q k x, M.2.2) q (.inr (ci2, ks)) = .inr (ci2, (ks.mapIdx (fun k kind => mz_fv ad M q k kind)).set k (.int x)) := by
            simp only [mz_ce]
            rw [mz_fs_set (M' := (M.1, mz_up M.2.1 q k x, M.2.2)) hk2 (by simp [mz_fv, mz_up]) (fun j kd hj => by unfold mz_fv; split <;> simp [mz_up, hj])]
          have hse := mz_w_set (ad := ad) (cA := cA) (M' := (M.1, mz_up M.2.1 q k x, M.2.2)) hq rfl (fun i hi => by first | rfl | exact mz_up_off hi) (fun i hi => by first | rfl | exact mz_up_off hi) hce2
          rw [hse] at hP1 hD1
          exact h ad cA H1 locs1 ls (hw.tail.tail.mem rfl) ha hn hK hP1 hD1 hS1 hl
        · exact h.elim
      · exact h.elim
    · exact h.elim
  · exact h.elim
theorem sd_putFl (hx : p.tables.exec = Jvm.exec) (hb : c.code = cc) {own ref C : String} {T : u_T} {N ci k index : Nat} {Ts : List Cond} (hts : ∀ w ∈ Ts, w.before args s = true) (hin : ∀ w ∈ u_ws C T N, w ∈ Ts) (ty0 : Nat → FieldType) (hty : ∀ k, k < N → parseFieldDescriptor (T k).2.2.1 = some (ty0 k)) (hnm : ∀ a, a < N → ∀ b, b < N → a ≠ b → (T a).2.1 ≠ (T b).2.1) (hown : s.vm.findClass own = some m.cls) (hc : cl[ci]? = some (C, T, N)) (hk : k < N) (hlink : (Cond.fieldLink own index ref (T k).2.1 (T k).2.2.1).before args s = true) (hsame : ∀ x, s.fieldFound? (T k).1 (T k).2.1 (T k).2.2.1 = some x → s.fieldFound? ref (T k).2.1 (T k).2.2.1 = some x) (hfin : (T k).2.2.2 = true) (hin2 : meth.name = "<init>") (hdecl : (T k).1 = own) (htk : ty0 k = .long) (hdg : decode cc pc = .ok (.putfield index, 3)) : mz_Sd (mz_V p l e R s m args below meth c nL n0 z0 D cl G A Qw) Qv (mz_pfl ci k (pc + 3)) pc := by
  intro L S M h ad cA H locs ls hw ha hn hK hP hD hS hl
  simp only [mz_pfl, mz_ob] at h
  split at h
  · next x q r =>
    split at h
    · next ci2 ks hq =>
      split at h
      · next hbe =>
        have hce : ci2 = ci := Nat.eq_of_beq_eq_true hbe
        subst hce
        have he := mz_w_at (ad := ad) (cA := cA) hq
        split at h
        · next hk2 =>
          have hlt : k < (ks.mapIdx (fun k kind => mz_fv ad M q k kind)).length := by
            rw [List.length_mapIdx]
            exact (List.getElem?_eq_some_iff.mp hk2).1
          refine va_putF (v := .long x) hx hb hts hin ty0 hty hnm hown hK hP hD hS q he hc k hk hlink hsame hfin hin2 hdecl (hty k hk) (by rw [htk]; rfl) (by rw [htk]; rfl) hlt hdg (fun H1 locs1 hP1 hD1 hS1 => ?_)
          have hce2 : mz_ce ad cA (M.1, M.2.1, mz_up M.2.2 q k x) q (.inr (ci2, ks)) = .inr (ci2, (ks.mapIdx (fun k kind => mz_fv ad M q k kind)).set k (.long x)) := by
            simp only [mz_ce]
            rw [mz_fs_set (M' := (M.1, M.2.1, mz_up M.2.2 q k x)) hk2 (by simp [mz_fv, mz_up]) (fun j kd hj => by unfold mz_fv; split <;> simp [mz_up, hj])]
          have hse := mz_w_set (ad := ad) (cA := cA) (M' := (M.1, M.2.1, mz_up M.2.2 q k x)) hq rfl (fun i hi => by first | rfl | exact mz_up_off hi) (fun i hi => by first | rfl | exact mz_up_off hi) hce2
          rw [hse] at hP1 hD1
          exact h ad cA H1 locs1 ls (hw.tail.tail.mem rfl) ha hn hK hP1 hD1 hS1 hl
        · exact h.elim
      · exact h.elim
    · exact h.elim
  · exact h.elim
theorem sd_putNi (hx : p.tables.exec = Jvm.exec) (hb : c.code = cc) {own ref C host : String} {T : u_T} {N ci k index : Nat} {Ts : List Cond} (hts : ∀ w ∈ Ts, w.before args s = true) (hin : ∀ w ∈ u_ws C T N, w ∈ Ts) (ty0 : Nat → FieldType) (hty : ∀ k, k < N → parseFieldDescriptor (T k).2.2.1 = some (ty0 k)) (hnm : ∀ a, a < N → ∀ b, b < N → a ≠ b → (T a).2.1 ≠ (T b).2.1) (hown : s.vm.findClass own = some m.cls) (hc : cl[ci]? = some (C, T, N)) (hk : k < N) (hlink : (Cond.fieldLinkNest own index ref (T k).2.1 (T k).2.2.1 host).before args s = true) (hsame : ∀ x, s.fieldFound? (T k).1 (T k).2.1 (T k).2.2.1 = some x → s.fieldFound? ref (T k).2.1 (T k).2.2.1 = some x) (hfin : (T k).2.2.2 = false) (htk : ty0 k = .int) (hdg : decode cc pc = .ok (.putfield index, 3)) : mz_Sd (mz_V p l e R s m args below meth c nL n0 z0 D cl G A Qw) Qv (mz_pfi ci k (pc + 3)) pc := by
  intro L S M h ad cA H locs ls hw ha hn hK hP hD hS hl
  simp only [mz_pfi, mz_ob] at h
  split at h
  · next x q r =>
    split at h
    · next ci2 ks hq =>
      split at h
      · next hbe =>
        have hce : ci2 = ci := Nat.eq_of_beq_eq_true hbe
        subst hce
        have he := mz_w_at (ad := ad) (cA := cA) hq
        split at h
        · next hk2 =>
          have hlt : k < (ks.mapIdx (fun k kind => mz_fv ad M q k kind)).length := by
            rw [List.length_mapIdx]
            exact (List.getElem?_eq_some_iff.mp hk2).1
          refine va_putN (v := .int x) hx hb hts hin ty0 hty hnm hown hK hP hD hS q he hc k hk hlink hsame hfin (hty k hk) (by rw [htk]; rfl) (by rw [htk]; rfl) hlt hdg (fun H1 locs1 hP1 hD1 hS1 => ?_)
          have hce2 : mz_ce ad cA (M.1, mz_up M.2.1 q k x, M.2.2) q (.inr (ci2, ks)) = .inr (ci2, (ks.mapIdx (fun k kind => mz_fv ad M q k kind)).set k (.int x)) := by
            simp only [mz_ce]
            rw [mz_fs_set (M' := (M.1, mz_up M.2.1 q k x, M.2.2)) hk2 (by simp [mz_fv, mz_up]) (fun j kd hj => by unfold mz_fv; split <;> simp [mz_up, hj])]
          have hse := mz_w_set (ad := ad) (cA := cA) (M' := (M.1, mz_up M.2.1 q k x, M.2.2)) hq rfl (fun i hi => by first | rfl | exact mz_up_off hi) (fun i hi => by first | rfl | exact mz_up_off hi) hce2
          rw [hse] at hP1 hD1
          exact h ad cA H1 locs1 ls (hw.tail.tail.mem rfl) ha hn hK hP1 hD1 hS1 hl
        · exact h.elim
      · exact h.elim
    · exact h.elim
  · exact h.elim
theorem sd_iald (hx : p.tables.exec = Jvm.exec) (hb : c.code = cc) (hdg : decode cc pc = .ok (.iaload, 1)) : mz_Sd (mz_V p l e R s m args below meth c nL n0 z0 D cl G A Qw) Qv (mz_iald 0 (pc + 1)) pc := by
  intro L S M h ad cA H locs ls hw ha hn hK hP hD hS hl
  simp only [mz_iald, mz_ar] at h
  split at h
  · next i q r =>
    split at h
    · next t d n hq =>
      split at h
      · next hbe =>
        have hde : d = 0 := Nat.eq_of_beq_eq_true hbe
        subst hde
        obtain ⟨t0, ht0⟩ := mz_ty_at (cA := cA) hq
        exact va_iald hx hb hK hP q t0 (mz_w_at (ad := ad) (cA := cA) hq) ht0 h.1 hdg (h.2 ad cA H locs ls (hw.tail.tail.push trivial) ha hn hK hP hD hS hl)
      · exact h.elim
    · exact h.elim
  · exact h.elim
theorem sd_zald (hx : p.tables.exec = Jvm.exec) (hb : c.code = cc) (hdg : decode cc pc = .ok (.baload, 1)) : mz_Sd (mz_V p l e R s m args below meth c nL n0 z0 D cl G A Qw) Qv (mz_iald 1 (pc + 1)) pc := by
  intro L S M h ad cA H locs ls hw ha hn hK hP hD hS hl
  simp only [mz_iald, mz_ar] at h
  split at h
  · next i q r =>
    split at h
    · next t d n hq =>
      split at h
      · next hbe =>
        have hde : d = 1 := Nat.eq_of_beq_eq_true hbe
        subst hde
        obtain ⟨t0, ht0⟩ := mz_ty_at (cA := cA) hq
        exact va_zald hx hb hK hP q t0 (mz_w_at (ad := ad) (cA := cA) hq) ht0 h.1 hdg (h.2 ad cA H locs ls (hw.tail.tail.push trivial) ha hn hK hP hD hS hl)
      · exact h.elim
    · exact h.elim
  · exact h.elim
theorem sd_lald (hx : p.tables.exec = Jvm.exec) (hb : c.code = cc) (hdg : decode cc pc = .ok (.laload, 1)) : mz_Sd (mz_V p l e R s m args below meth c nL n0 z0 D cl G A Qw) Qv (mz_lald (pc + 1)) pc := by
  intro L S M h ad cA H locs ls hw ha hn hK hP hD hS hl
  simp only [mz_lald, mz_ar] at h
  split at h
  · next i q r =>
    split at h
    · next t d n hq =>
      split at h
      · next hbe =>
        have hde : d = 2 := Nat.eq_of_beq_eq_true hbe
        subst hde
        obtain ⟨t0, ht0⟩ := mz_ty_at (cA := cA) hq
        exact va_lald hx hb hK hP q t0 (mz_w_at (ad := ad) (cA := cA) hq) ht0 h.1 hdg (h.2 ad cA H locs ls (hw.tail.tail.push trivial) ha hn hK hP hD hS hl)
      · exact h.elim
    · exact h.elim
  · exact h.elim
theorem sd_iast (hx : p.tables.exec = Jvm.exec) (hb : c.code = cc) (hdg : decode cc pc = .ok (.iastore, 1)) : mz_Sd (mz_V p l e R s m args below meth c nL n0 z0 D cl G A Qw) Qv (mz_iast 0 (pc + 1)) pc := by
  intro L S M h ad cA H locs ls hw ha hn hK hP hD hS hl
  simp only [mz_iast, mz_ar] at h
  split at h
  · next x i q r =>
    split at h
    · next t d n hq =>
      split at h
      · next hbe =>
        have hde : d = 0 := Nat.eq_of_beq_eq_true hbe
        subst hde
        obtain ⟨t0, ht0⟩ := mz_ty_at (cA := cA) hq
        refine va_iast hx hb hK hP hD hS q t0 (mz_w_at (ad := ad) (cA := cA) hq) ht0 h.1 hdg (fun H1 locs1 hP1 hD1 hS1 => ?_)
        have hse := mz_w_set (ad := ad) (cA := cA) (M' := (M.1, mz_up M.2.1 q i.toNatClampNeg (vp_nar (mz_tc 0) x), M.2.2)) (x := .inl (cA t, n, Sum.inl (upd (M.2.1 q) i.toNatClampNeg x))) hq rfl (fun i hi => by first | rfl | exact mz_up_off hi) (fun i hi => by first | rfl | exact mz_up_off hi) (by simp only [mz_ce, Nat.beq]; rw [mz_up_row]; rfl)
        rw [hse] at hP1 hD1
        exact h.2 ad cA H1 locs1 ls (hw.tail.tail.tail.mem rfl) ha hn hK hP1 hD1 hS1 hl
      · exact h.elim
    · exact h.elim
  · exact h.elim
theorem sd_zast (hx : p.tables.exec = Jvm.exec) (hb : c.code = cc) (hdg : decode cc pc = .ok (.bastore, 1)) : mz_Sd (mz_V p l e R s m args below meth c nL n0 z0 D cl G A Qw) Qv (mz_iast 1 (pc + 1)) pc := by
  intro L S M h ad cA H locs ls hw ha hn hK hP hD hS hl
  simp only [mz_iast, mz_ar] at h
  split at h
  · next x i q r =>
    split at h
    · next t d n hq =>
      split at h
      · next hbe =>
        have hde : d = 1 := Nat.eq_of_beq_eq_true hbe
        subst hde
        obtain ⟨t0, ht0⟩ := mz_ty_at (cA := cA) hq
        refine va_zast hx hb hK hP hD hS q t0 (mz_w_at (ad := ad) (cA := cA) hq) ht0 h.1 hdg (fun H1 locs1 hP1 hD1 hS1 => ?_)
        have hse := mz_w_set (ad := ad) (cA := cA) (M' := (M.1, mz_up M.2.1 q i.toNatClampNeg (vp_nar (mz_tc 1) x), M.2.2)) (x := .inl (cA t, n, Sum.inl (upd (M.2.1 q) i.toNatClampNeg (vp_nar .boolean x)))) hq rfl (fun i hi => by first | rfl | exact mz_up_off hi) (fun i hi => by first | rfl | exact mz_up_off hi) (by simp only [mz_ce, Nat.beq]; rw [mz_up_row]; rfl)
        rw [hse] at hP1 hD1
        exact h.2 ad cA H1 locs1 ls (hw.tail.tail.tail.mem rfl) ha hn hK hP1 hD1 hS1 hl
      · exact h.elim
    · exact h.elim
  · exact h.elim
theorem sd_last (hx : p.tables.exec = Jvm.exec) (hb : c.code = cc) (hdg : decode cc pc = .ok (.lastore, 1)) : mz_Sd (mz_V p l e R s m args below meth c nL n0 z0 D cl G A Qw) Qv (mz_last (pc + 1)) pc := by
  intro L S M h ad cA H locs ls hw ha hn hK hP hD hS hl
  simp only [mz_last, mz_ar] at h
  split at h
  · next x i q r =>
    split at h
    · next t d n hq =>
      split at h
      · next hbe =>
        have hde : d = 2 := Nat.eq_of_beq_eq_true hbe
        subst hde
        obtain ⟨t0, ht0⟩ := mz_ty_at (cA := cA) hq
        refine va_last hx hb hK hP hD hS q t0 (mz_w_at (ad := ad) (cA := cA) hq) ht0 h.1 hdg (fun H1 locs1 hP1 hD1 hS1 => ?_)
        have hse := mz_w_set (ad := ad) (cA := cA) (M' := (M.1, M.2.1, mz_up M.2.2 q i.toNatClampNeg x)) (x := .inl (cA t, n, Sum.inr (Sum.inl (vp_updL (M.2.2 q) i.toNatClampNeg x)))) hq rfl (fun i hi => by first | rfl | exact mz_up_off hi) (fun i hi => by first | rfl | exact mz_up_off hi) (by simp only [mz_ce, Nat.beq]; rw [mz_up_row]; rfl)
        rw [hse] at hP1 hD1
        exact h.2 ad cA H1 locs1 ls (hw.tail.tail.tail.mem rfl) ha hn hK hP1 hD1 hS1 hl
      · exact h.elim
    · exact h.elim
  · exact h.elim
theorem sd_alen (hx : p.tables.exec = Jvm.exec) (hb : c.code = cc) (hdg : decode cc pc = .ok (.arraylength, 1)) : mz_Sd (mz_V p l e R s m args below meth c nL n0 z0 D cl G A Qw) Qv (mz_al (pc + 1)) pc := by
  intro L S M h ad cA H locs ls hw ha hn hK hP hD hS hl
  simp only [mz_al] at h
  split at h
  · next q r =>
    split at h
    · next t d n hq =>
      obtain ⟨t0, ht0⟩ := mz_ty_at (cA := cA) hq
      exact va_alen hx hb hK hP q t0 (mz_w_at (ad := ad) (cA := cA) hq) ht0 rfl hdg (h ad cA H locs ls (hw.tail.push trivial) ha hn hK hP hD hS hl)
    · exact h.elim
  · exact h.elim
/-- behind a method: its world -/
def mz_B (D : va_G) (cl : List vw_C) (ad : Nat → Nat) (cA : Nat → ClassId) (lay : List mz_E) (A : Nat → Prop) (u : mz_X) (t : State) : Prop := va_P D cl (mz_w ad cA (lay, u)) t.heap ∧ va_K D cl (mz_ty cA lay) t ∧ va_D A (mz_w ad cA (lay, u))
def mz_Pc (D : va_G) (cl : List vw_C) (ad : Nat → Nat) (cA : Nat → ClassId) (lay : List mz_E) (as : List Value) (X : mz_X) (sz : Nat) : Array Value → State → Prop := va_Pc (as.map (mz_cv ad)) (fun U => U.heap.size = sz ∧ va_P D cl (mz_w ad cA (lay, X)) U.heap ∧ va_K D cl (mz_ty cA lay) U ∧ va_D (fun _ => True) (mz_w ad cA (lay, X)))
abbrev mz_rm (fr lo : Nat) : Room := { frames := fr, cells := 0, slots := 0, locals := lo }
def mz_MI (l : Launch) (y : MethodName) (ws : List Cond) (fr lo : Nat) (cl : List vw_C) (C : mz_CI) : Prop := ∀ (D : va_G) (ad : Nat → Nat) (cA : Nat → ClassId) (sz : Nat) (lay : List mz_E) (as : List Value) (X : mz_X) (Q : Int32 → mz_X → Prop), mz_wf [] as (lay, X) → C lay as X Q →
  Met l y ws (mz_rm fr lo) (mz_Pc D cl ad cA lay as X sz) (va_Qi Q (mz_B D cl ad cA lay (va_A (mz_w ad cA (lay, X)) sz)) (va_A (mz_w ad cA (lay, X)) sz)) 0 0 (va_A (mz_w ad cA (lay, X)) sz)
def mz_ML (l : Launch) (y : MethodName) (ws : List Cond) (fr lo : Nat) (cl : List vw_C) (C : mz_CL) : Prop := ∀ (D : va_G) (ad : Nat → Nat) (cA : Nat → ClassId) (sz : Nat) (lay : List mz_E) (as : List Value) (X : mz_X) (Q : Int64 → mz_X → Prop), mz_wf [] as (lay, X) → C lay as X Q →
  Met l y ws (mz_rm fr lo) (mz_Pc D cl ad cA lay as X sz) (va_Ql Q (mz_B D cl ad cA lay (va_A (mz_w ad cA (lay, X)) sz)) (va_A (mz_w ad cA (lay, X)) sz)) 0 0 (va_A (mz_w ad cA (lay, X)) sz)
def mz_MV (l : Launch) (y : MethodName) (ws : List Cond) (fr lo : Nat) (cl : List vw_C) (C : mz_CV) : Prop := ∀ (D : va_G) (ad : Nat → Nat) (cA : Nat → ClassId) (sz : Nat) (lay : List mz_E) (as : List Value) (X : mz_X) (Q : mz_X → Prop), mz_wf [] as (lay, X) → C lay as X Q →
  Met l y ws (mz_rm fr lo) (mz_Pc D cl ad cA lay as X sz) (va_Qv Q (mz_B D cl ad cA lay (va_A (mz_w ad cA (lay, X)) sz)) (va_A (mz_w ad cA (lay, X)) sz)) 0 0 (va_A (mz_w ad cA (lay, X)) sz)
theorem mz_Pc_blind {D : va_G} {cl : List vw_C} {ad : Nat → Nat} {cA : Nat → ClassId} {lay : List mz_E} {as : List Value} {X : mz_X} {sz : Nat} : FrameBlind (mz_Pc D cl ad cA lay as X sz) := by
  intro a U g mk q
  obtain ⟨q0, q1, qP, qK, qD⟩ := q
  exact ⟨q0, q1, qP, va_K.moved (u := U) (U := U.calling g mk a) (Vm.Alike.refl U.vm) qK, qD⟩
theorem mz_free {A : Nat → Prop} {ws : va_W} {H0 H : Heap} {locs : List Loc} (hD : va_D A ws) (hS : va_S A H0 H locs) (hA : ∀ q, H0.size ≤ q → A q) : ∀ q, va_A ws H.size q → A q := by
  rintro q (⟨k, e, h⟩ | h)
  · exact hD.2 k (q, e) h
  · exact hA q (Nat.le_trans hS.1 h)
theorem mz_split {na : Nat} {S : List Value} (ad : Nat → Nat) {q : Nat} {As : List Value} (h : (S.take na).reverse = .ref q :: As) : S.map (mz_cv ad) = (As.map (mz_cv ad)).reverse ++ .ref (ad q) :: (S.drop na).map (mz_cv ad) := by
  have h1 : S.take na = As.reverse ++ [.ref q] := by
    rw [← List.reverse_reverse (S.take na), h, List.reverse_cons]
  conv => lhs; rw [← List.take_append_drop na S, h1]
  simp [mz_cv]
theorem mz_cats (ad : Nat → Nat) (S : List Value) : ((S.map (mz_cv ad)).map fun v => v.category) = S.map fun v => v.category := by
  rw [List.map_map]
  apply List.map_congr_left
  intro v _
  exact mz_cv_cat ad v
theorem mz_wf.sub {L : mz_L} {S S' : List Value} {M : mz_M} (h : mz_wf L S M) (hs : ∀ v ∈ S', v ∈ S) : mz_wf L S' M := ⟨h.1, h.2.1, fun v hv => h.2.2.1 v (hs v hv), h.2.2.2⟩
theorem mz_wf.noL {L : mz_L} {S : List Value} {M : mz_M} (h : mz_wf L S M) : mz_wf [] S M := ⟨h.1, h.2.1, h.2.2.1, fun v hv => by cases hv⟩
theorem sd_calli {own C : String} {T : u_T} {N ci index maxL n na fr lo : Nat} {y : MethodName} {bytes : ByteArray} {ret : Option FieldType} {ws Ts : List Cond} {Cc : mz_CI} (hF : CallFix p m c cc nL s args Ts own) (hM : mz_MI l y ws fr lo cl Cc) (cw : CallW R s args own C index y bytes maxL ret ws (mz_rm fr lo) 0 0 n) (hc : cl[ci]? = some (C, T, N)) (hA : ∀ q, s.heap.size ≤ q → A q) (hna : n + 1 = na) (hdg : decode cc pc = .ok (.invokevirtual index, 3)) : mz_Sd (mz_V p l e R s m args below meth c nL n0 z0 D cl G A Qw) Qv (mz_ci na ci Cc (pc + 3)) pc := by
  intro L S M h ad cA H locs ls hw ha hn hK hP hD hS hl
  simp only [mz_ci, mz_cut] at h
  split at h
  · next hle =>
    split at h
    · next hsum =>
      generalize has : (S.take na).reverse = as at h
      simp only [mz_rcv] at h
      split at h
      · next q As =>
        simp only [mz_ob] at h
        split at h
        · next ci2 ks hq =>
          split at h
          · next hbe =>
            have hce : ci2 = ci := Nat.eq_of_beq_eq_true hbe
            subst hce
            have hlen : As.length = n := by
              have h1 := congrArg List.length has
              have h2 := Nat.le_of_ble_eq_true hle
              simp only [List.length_reverse, List.length_take, List.length_cons] at h1
              omega
            have hst := mz_split ad has
            have hFr := mz_free hD hS hA
            have hwa : mz_wf [] (.ref q :: As) (M.1, M.2) := (hw.sub (S' := .ref q :: As) (fun v hv => by rw [← has] at hv; exact List.mem_of_mem_take (List.mem_reverse.mp hv))).noL
            refine va_calli (st0 := S.map (mz_cv ad)) (va_runV (As := As.map (mz_cv ad)) (b := ad q) (rest := (S.drop na).map (mz_cv ad)) (g := F0 m pc ls (S.map (mz_cv ad))) hF (hM D ad cA H.size M.1 (.ref q :: As) M.2 _ hwa h) cw ⟨mz_Pc_blind, va_recv hK hP hc (mz_w_at (ad := ad) (cA := cA) hq), fun U hU hW => ⟨rfl, by rw [hU], by rw [hU]; exact hP, va_K.moved hW.alike hK, hD.weaken (fun _ _ _ _ => trivial)⟩⟩ rfl (by rw [List.length_map]; exact hlen) hl.1 hst (lv_room (by rw [mz_cats]; exact Nat.le_of_ble_eq_true hsum)) hdg ⟨hn.2.1, hn.2.2⟩) hS (fun q _ h => hFr q h) hFr (fun r_1 u t H1 locs1 ht hvm hw1 hB hz1 hk1 hS1 => ?_)
            obtain ⟨hP1, hK1, hD1⟩ := hB
            rw [ht] at hP1
            exact hw1 ad cA H1 locs1 ls (mz_wf.push (v := .int r_1) ((hw.sub (fun v hv => List.mem_of_mem_drop hv)).mem rfl) trivial) ha hn hK hP1 (hD1.weaken (fun _ q9 _ h9 => hFr _ h9)) hS1 hl
          · exact h.elim
        · exact h.elim
      · exact h.elim
    · exact h.elim
  · exact h.elim
theorem sd_scalli {own : String} {index maxL n na fr lo : Nat} {y : MethodName} {bytes : ByteArray} {ret : Option FieldType} {ws Ts : List Cond} {Cc : mz_CI} (hF : CallFix p m c cc nL s args Ts own) (hM : mz_MI l y ws fr lo cl Cc) (cw : CallB R s args own index y bytes maxL ret ws (mz_rm fr lo) 0 0 n ∧ (Cond.static y).before args s = true) (hA : ∀ q, s.heap.size ≤ q → A q) (hna : n = na) (hdg : decode cc pc = .ok (.invokestatic index, 3)) : mz_Sd (mz_V p l e R s m args below meth c nL n0 z0 D cl G A Qw) Qv (mz_si na Cc (pc + 3)) pc := by
  intro L S M h ad cA H locs ls hw ha hn hK hP hD hS hl
  simp only [mz_si, mz_cut] at h
  split at h
  · next hle =>
    split at h
    · next hsum =>
      have hFr := mz_free hD hS hA
      have hlen : (S.take na).reverse.length = n := by
        have h2 := Nat.le_of_ble_eq_true hle
        simp only [List.length_reverse, List.length_take]
        omega
      have hst : S.map (mz_cv ad) = ((S.take na).reverse.map (mz_cv ad)).reverse ++ (S.drop na).map (mz_cv ad) := by
        rw [← List.map_reverse, List.reverse_reverse, ← List.map_append, List.take_append_drop]
      have hwa : mz_wf [] (S.take na).reverse (M.1, M.2) := (hw.sub (fun v hv => List.mem_of_mem_take (List.mem_reverse.mp hv))).noL
      refine va_calli (st0 := S.map (mz_cv ad)) (va_runS (As := (S.take na).reverse.map (mz_cv ad)) (rest := (S.drop na).map (mz_cv ad)) (g := F0 m pc ls (S.map (mz_cv ad))) hF (hM D ad cA H.size M.1 (S.take na).reverse M.2 _ hwa h) cw ⟨mz_Pc_blind, fun U hU hW => ⟨rfl, by rw [hU], by rw [hU]; exact hP, va_K.moved hW.alike hK, hD.weaken (fun _ _ _ _ => trivial)⟩⟩ rfl (by rw [List.length_map]; exact hlen) hl.1 hst (lv_room (by rw [mz_cats]; exact Nat.le_of_ble_eq_true hsum)) hdg ⟨hn.2.1, hn.2.2⟩) hS (fun q _ h => hFr q h) hFr (fun r_1 u t H1 locs1 ht hvm hw1 hB hz1 hk1 hS1 => ?_)
      obtain ⟨hP1, hK1, hD1⟩ := hB
      rw [ht] at hP1
      exact hw1 ad cA H1 locs1 ls (mz_wf.push (v := .int r_1) ((hw.sub (fun v hv => List.mem_of_mem_drop hv)).mem rfl) trivial) ha hn hK hP1 (hD1.weaken (fun _ q9 _ h9 => hFr _ h9)) hS1 hl
    · exact h.elim
  · exact h.elim
theorem sd_calliN {own C host : String} {T : u_T} {N ci index maxL n na fr lo : Nat} {y : MethodName} {bytes : ByteArray} {ret : Option FieldType} {ws Ts : List Cond} {Cc : mz_CI} (hF : CallFix p m c cc nL s args Ts own) (hM : mz_MI l y ws fr lo cl Cc) (cw : va_CN R s args own index y host bytes maxL ret ws (mz_rm fr lo) 0 0 n ∧ (Cond.instanceMethod y).before args s = true ∧ (Cond.selects C y y).before args s = true) (hc : cl[ci]? = some (C, T, N)) (hA : ∀ q, s.heap.size ≤ q → A q) (hna : n + 1 = na) (hdg : decode cc pc = .ok (.invokevirtual index, 3)) : mz_Sd (mz_V p l e R s m args below meth c nL n0 z0 D cl G A Qw) Qv (mz_ci na ci Cc (pc + 3)) pc := by
  intro L S M h ad cA H locs ls hw ha hn hK hP hD hS hl
  simp only [mz_ci, mz_cut] at h
  split at h
  · next hle =>
    split at h
    · next hsum =>
      generalize has : (S.take na).reverse = as at h
      simp only [mz_rcv] at h
      split at h
      · next q As =>
        simp only [mz_ob] at h
        split at h
        · next ci2 ks hq =>
          split at h
          · next hbe =>
            have hce : ci2 = ci := Nat.eq_of_beq_eq_true hbe
            subst hce
            have hlen : As.length = n := by
              have h1 := congrArg List.length has
              have h2 := Nat.le_of_ble_eq_true hle
              simp only [List.length_reverse, List.length_take, List.length_cons] at h1
              omega
            have hst := mz_split ad has
            have hFr := mz_free hD hS hA
            have hwa : mz_wf [] (.ref q :: As) (M.1, M.2) := (hw.sub (S' := .ref q :: As) (fun v hv => by rw [← has] at hv; exact List.mem_of_mem_take (List.mem_reverse.mp hv))).noL
            refine va_calli (st0 := S.map (mz_cv ad)) (va_runVN (As := As.map (mz_cv ad)) (b := ad q) (rest := (S.drop na).map (mz_cv ad)) (g := F0 m pc ls (S.map (mz_cv ad))) hF (hM D ad cA H.size M.1 (.ref q :: As) M.2 _ hwa h) cw ⟨mz_Pc_blind, va_recv hK hP hc (mz_w_at (ad := ad) (cA := cA) hq), fun U hU hW => ⟨rfl, by rw [hU], by rw [hU]; exact hP, va_K.moved hW.alike hK, hD.weaken (fun _ _ _ _ => trivial)⟩⟩ rfl (by rw [List.length_map]; exact hlen) hl.1 hst (lv_room (by rw [mz_cats]; exact Nat.le_of_ble_eq_true hsum)) hdg ⟨hn.2.1, hn.2.2⟩) hS (fun q _ h => hFr q h) hFr (fun r_1 u t H1 locs1 ht hvm hw1 hB hz1 hk1 hS1 => ?_)
            obtain ⟨hP1, hK1, hD1⟩ := hB
            rw [ht] at hP1
            exact hw1 ad cA H1 locs1 ls (mz_wf.push (v := .int r_1) ((hw.sub (fun v hv => List.mem_of_mem_drop hv)).mem rfl) trivial) ha hn hK hP1 (hD1.weaken (fun _ q9 _ h9 => hFr _ h9)) hS1 hl
          · exact h.elim
        · exact h.elim
      · exact h.elim
    · exact h.elim
  · exact h.elim
theorem sd_scalliN {own host : String} {index maxL n na fr lo : Nat} {y : MethodName} {bytes : ByteArray} {ret : Option FieldType} {ws Ts : List Cond} {Cc : mz_CI} (hF : CallFix p m c cc nL s args Ts own) (hM : mz_MI l y ws fr lo cl Cc) (cw : va_CN R s args own index y host bytes maxL ret ws (mz_rm fr lo) 0 0 n ∧ (Cond.static y).before args s = true ∧ True) (hA : ∀ q, s.heap.size ≤ q → A q) (hna : n = na) (hdg : decode cc pc = .ok (.invokestatic index, 3)) : mz_Sd (mz_V p l e R s m args below meth c nL n0 z0 D cl G A Qw) Qv (mz_si na Cc (pc + 3)) pc := by
  intro L S M h ad cA H locs ls hw ha hn hK hP hD hS hl
  simp only [mz_si, mz_cut] at h
  split at h
  · next hle =>
    split at h
    · next hsum =>
      have hFr := mz_free hD hS hA
      have hlen : (S.take na).reverse.length = n := by
        have h2 := Nat.le_of_ble_eq_true hle
        simp only [List.length_reverse, List.length_take]
        omega
      have hst : S.map (mz_cv ad) = ((S.take na).reverse.map (mz_cv ad)).reverse ++ (S.drop na).map (mz_cv ad) := by
        rw [← List.map_reverse, List.reverse_reverse, ← List.map_append, List.take_append_drop]
      have hwa : mz_wf [] (S.take na).reverse (M.1, M.2) := (hw.sub (fun v hv => List.mem_of_mem_take (List.mem_reverse.mp hv))).noL
      refine va_calli (st0 := S.map (mz_cv ad)) (va_runSN (As := (S.take na).reverse.map (mz_cv ad)) (rest := (S.drop na).map (mz_cv ad)) (g := F0 m pc ls (S.map (mz_cv ad))) hF (hM D ad cA H.size M.1 (S.take na).reverse M.2 _ hwa h) cw ⟨mz_Pc_blind, fun U hU hW => ⟨rfl, by rw [hU], by rw [hU]; exact hP, va_K.moved hW.alike hK, hD.weaken (fun _ _ _ _ => trivial)⟩⟩ rfl (by rw [List.length_map]; exact hlen) hl.1 hst (lv_room (by rw [mz_cats]; exact Nat.le_of_ble_eq_true hsum)) hdg ⟨hn.2.1, hn.2.2⟩) hS (fun q _ h => hFr q h) hFr (fun r_1 u t H1 locs1 ht hvm hw1 hB hz1 hk1 hS1 => ?_)
      obtain ⟨hP1, hK1, hD1⟩ := hB
      rw [ht] at hP1
      exact hw1 ad cA H1 locs1 ls (mz_wf.push (v := .int r_1) ((hw.sub (fun v hv => List.mem_of_mem_drop hv)).mem rfl) trivial) ha hn hK hP1 (hD1.weaken (fun _ q9 _ h9 => hFr _ h9)) hS1 hl
    · exact h.elim
  · exact h.elim
theorem sd_calll {own C : String} {T : u_T} {N ci index maxL n na fr lo : Nat} {y : MethodName} {bytes : ByteArray} {ret : Option FieldType} {ws Ts : List Cond} {Cc : mz_CL} (hF : CallFix p m c cc nL s args Ts own) (hM : mz_ML l y ws fr lo cl Cc) (cw : CallW R s args own C index y bytes maxL ret ws (mz_rm fr lo) 0 0 n) (hc : cl[ci]? = some (C, T, N)) (hA : ∀ q, s.heap.size ≤ q → A q) (hna : n + 1 = na) (hdg : decode cc pc = .ok (.invokevirtual index, 3)) : mz_Sd (mz_V p l e R s m args below meth c nL n0 z0 D cl G A Qw) Qv (mz_cl na ci Cc (pc + 3)) pc := by
  intro L S M h ad cA H locs ls hw ha hn hK hP hD hS hl
  simp only [mz_cl, mz_cut] at h
  split at h
  · next hle =>
    split at h
    · next hsum =>
      generalize has : (S.take na).reverse = as at h
      simp only [mz_rcv] at h
      split at h
      · next q As =>
        simp only [mz_ob] at h
        split at h
        · next ci2 ks hq =>
          split at h
          · next hbe =>
            have hce : ci2 = ci := Nat.eq_of_beq_eq_true hbe
            subst hce
            have hlen : As.length = n := by
              have h1 := congrArg List.length has
              have h2 := Nat.le_of_ble_eq_true hle
              simp only [List.length_reverse, List.length_take, List.length_cons] at h1
              omega
            have hst := mz_split ad has
            have hFr := mz_free hD hS hA
            have hwa : mz_wf [] (.ref q :: As) (M.1, M.2) := (hw.sub (S' := .ref q :: As) (fun v hv => by rw [← has] at hv; exact List.mem_of_mem_take (List.mem_reverse.mp hv))).noL
            refine va_calll (st0 := S.map (mz_cv ad)) (va_runV (As := As.map (mz_cv ad)) (b := ad q) (rest := (S.drop na).map (mz_cv ad)) (g := F0 m pc ls (S.map (mz_cv ad))) hF (hM D ad cA H.size M.1 (.ref q :: As) M.2 _ hwa h) cw ⟨mz_Pc_blind, va_recv hK hP hc (mz_w_at (ad := ad) (cA := cA) hq), fun U hU hW => ⟨rfl, by rw [hU], by rw [hU]; exact hP, va_K.moved hW.alike hK, hD.weaken (fun _ _ _ _ => trivial)⟩⟩ rfl (by rw [List.length_map]; exact hlen) hl.1 hst (lv_room (by rw [mz_cats]; exact Nat.le_of_ble_eq_true hsum)) hdg ⟨hn.2.1, hn.2.2⟩) hS (fun q _ h => hFr q h) hFr (fun r_1 u t H1 locs1 ht hvm hw1 hB hz1 hk1 hS1 => ?_)
            obtain ⟨hP1, hK1, hD1⟩ := hB
            rw [ht] at hP1
            exact hw1 ad cA H1 locs1 ls (mz_wf.push (v := .long r_1) ((hw.sub (fun v hv => List.mem_of_mem_drop hv)).mem rfl) trivial) ha hn hK hP1 (hD1.weaken (fun _ q9 _ h9 => hFr _ h9)) hS1 hl
          · exact h.elim
        · exact h.elim
      · exact h.elim
    · exact h.elim
  · exact h.elim
theorem sd_scalll {own : String} {index maxL n na fr lo : Nat} {y : MethodName} {bytes : ByteArray} {ret : Option FieldType} {ws Ts : List Cond} {Cc : mz_CL} (hF : CallFix p m c cc nL s args Ts own) (hM : mz_ML l y ws fr lo cl Cc) (cw : CallB R s args own index y bytes maxL ret ws (mz_rm fr lo) 0 0 n ∧ (Cond.static y).before args s = true) (hA : ∀ q, s.heap.size ≤ q → A q) (hna : n = na) (hdg : decode cc pc = .ok (.invokestatic index, 3)) : mz_Sd (mz_V p l e R s m args below meth c nL n0 z0 D cl G A Qw) Qv (mz_sl na Cc (pc + 3)) pc := by
  intro L S M h ad cA H locs ls hw ha hn hK hP hD hS hl
  simp only [mz_sl, mz_cut] at h
  split at h
  · next hle =>
    split at h
    · next hsum =>
      have hFr := mz_free hD hS hA
      have hlen : (S.take na).reverse.length = n := by
        have h2 := Nat.le_of_ble_eq_true hle
        simp only [List.length_reverse, List.length_take]
        omega
      have hst : S.map (mz_cv ad) = ((S.take na).reverse.map (mz_cv ad)).reverse ++ (S.drop na).map (mz_cv ad) := by
        rw [← List.map_reverse, List.reverse_reverse, ← List.map_append, List.take_append_drop]
      have hwa : mz_wf [] (S.take na).reverse (M.1, M.2) := (hw.sub (fun v hv => List.mem_of_mem_take (List.mem_reverse.mp hv))).noL
      refine va_calll (st0 := S.map (mz_cv ad)) (va_runS (As := (S.take na).reverse.map (mz_cv ad)) (rest := (S.drop na).map (mz_cv ad)) (g := F0 m pc ls (S.map (mz_cv ad))) hF (hM D ad cA H.size M.1 (S.take na).reverse M.2 _ hwa h) cw ⟨mz_Pc_blind, fun U hU hW => ⟨rfl, by rw [hU], by rw [hU]; exact hP, va_K.moved hW.alike hK, hD.weaken (fun _ _ _ _ => trivial)⟩⟩ rfl (by rw [List.length_map]; exact hlen) hl.1 hst (lv_room (by rw [mz_cats]; exact Nat.le_of_ble_eq_true hsum)) hdg ⟨hn.2.1, hn.2.2⟩) hS (fun q _ h => hFr q h) hFr (fun r_1 u t H1 locs1 ht hvm hw1 hB hz1 hk1 hS1 => ?_)
      obtain ⟨hP1, hK1, hD1⟩ := hB
      rw [ht] at hP1
      exact hw1 ad cA H1 locs1 ls (mz_wf.push (v := .long r_1) ((hw.sub (fun v hv => List.mem_of_mem_drop hv)).mem rfl) trivial) ha hn hK hP1 (hD1.weaken (fun _ q9 _ h9 => hFr _ h9)) hS1 hl
    · exact h.elim
  · exact h.elim
theorem sd_calllN {own C host : String} {T : u_T} {N ci index maxL n na fr lo : Nat} {y : MethodName} {bytes : ByteArray} {ret : Option FieldType} {ws Ts : List Cond} {Cc : mz_CL} (hF : CallFix p m c cc nL s args Ts own) (hM : mz_ML l y ws fr lo cl Cc) (cw : va_CN R s args own index y host bytes maxL ret ws (mz_rm fr lo) 0 0 n ∧ (Cond.instanceMethod y).before args s = true ∧ (Cond.selects C y y).before args s = true) (hc : cl[ci]? = some (C, T, N)) (hA : ∀ q, s.heap.size ≤ q → A q) (hna : n + 1 = na) (hdg : decode cc pc = .ok (.invokevirtual index, 3)) : mz_Sd (mz_V p l e R s m args below meth c nL n0 z0 D cl G A Qw) Qv (mz_cl na ci Cc (pc + 3)) pc := by
  intro L S M h ad cA H locs ls hw ha hn hK hP hD hS hl
  simp only [mz_cl, mz_cut] at h
  split at h
  · next hle =>
    split at h
    · next hsum =>
      generalize has : (S.take na).reverse = as at h
      simp only [mz_rcv] at h
      split at h
      · next q As =>
        simp only [mz_ob] at h
        split at h
        · next ci2 ks hq =>
          split at h
          · next hbe =>
            have hce : ci2 = ci := Nat.eq_of_beq_eq_true hbe
            subst hce
            have hlen : As.length = n := by
              have h1 := congrArg List.length has
              have h2 := Nat.le_of_ble_eq_true hle
              simp only [List.length_reverse, List.length_take, List.length_cons] at h1
              omega
            have hst := mz_split ad has
            have hFr := mz_free hD hS hA
            have hwa : mz_wf [] (.ref q :: As) (M.1, M.2) := (hw.sub (S' := .ref q :: As) (fun v hv => by rw [← has] at hv; exact List.mem_of_mem_take (List.mem_reverse.mp hv))).noL
            refine va_calll (st0 := S.map (mz_cv ad)) (va_runVN (As := As.map (mz_cv ad)) (b := ad q) (rest := (S.drop na).map (mz_cv ad)) (g := F0 m pc ls (S.map (mz_cv ad))) hF (hM D ad cA H.size M.1 (.ref q :: As) M.2 _ hwa h) cw ⟨mz_Pc_blind, va_recv hK hP hc (mz_w_at (ad := ad) (cA := cA) hq), fun U hU hW => ⟨rfl, by rw [hU], by rw [hU]; exact hP, va_K.moved hW.alike hK, hD.weaken (fun _ _ _ _ => trivial)⟩⟩ rfl (by rw [List.length_map]; exact hlen) hl.1 hst (lv_room (by rw [mz_cats]; exact Nat.le_of_ble_eq_true hsum)) hdg ⟨hn.2.1, hn.2.2⟩) hS (fun q _ h => hFr q h) hFr (fun r_1 u t H1 locs1 ht hvm hw1 hB hz1 hk1 hS1 => ?_)
            obtain ⟨hP1, hK1, hD1⟩ := hB
            rw [ht] at hP1
            exact hw1 ad cA H1 locs1 ls (mz_wf.push (v := .long r_1) ((hw.sub (fun v hv => List.mem_of_mem_drop hv)).mem rfl) trivial) ha hn hK hP1 (hD1.weaken (fun _ q9 _ h9 => hFr _ h9)) hS1 hl
          · exact h.elim
        · exact h.elim
      · exact h.elim
    · exact h.elim
  · exact h.elim
theorem sd_scalllN {own host : String} {index maxL n na fr lo : Nat} {y : MethodName} {bytes : ByteArray} {ret : Option FieldType} {ws Ts : List Cond} {Cc : mz_CL} (hF : CallFix p m c cc nL s args Ts own) (hM : mz_ML l y ws fr lo cl Cc) (cw : va_CN R s args own index y host bytes maxL ret ws (mz_rm fr lo) 0 0 n ∧ (Cond.static y).before args s = true ∧ True) (hA : ∀ q, s.heap.size ≤ q → A q) (hna : n = na) (hdg : decode cc pc = .ok (.invokestatic index, 3)) : mz_Sd (mz_V p l e R s m args below meth c nL n0 z0 D cl G A Qw) Qv (mz_sl na Cc (pc + 3)) pc := by
  intro L S M h ad cA H locs ls hw ha hn hK hP hD hS hl
  simp only [mz_sl, mz_cut] at h
  split at h
  · next hle =>
    split at h
    · next hsum =>
      have hFr := mz_free hD hS hA
      have hlen : (S.take na).reverse.length = n := by
        have h2 := Nat.le_of_ble_eq_true hle
        simp only [List.length_reverse, List.length_take]
        omega
      have hst : S.map (mz_cv ad) = ((S.take na).reverse.map (mz_cv ad)).reverse ++ (S.drop na).map (mz_cv ad) := by
        rw [← List.map_reverse, List.reverse_reverse, ← List.map_append, List.take_append_drop]
      have hwa : mz_wf [] (S.take na).reverse (M.1, M.2) := (hw.sub (fun v hv => List.mem_of_mem_take (List.mem_reverse.mp hv))).noL
      refine va_calll (st0 := S.map (mz_cv ad)) (va_runSN (As := (S.take na).reverse.map (mz_cv ad)) (rest := (S.drop na).map (mz_cv ad)) (g := F0 m pc ls (S.map (mz_cv ad))) hF (hM D ad cA H.size M.1 (S.take na).reverse M.2 _ hwa h) cw ⟨mz_Pc_blind, fun U hU hW => ⟨rfl, by rw [hU], by rw [hU]; exact hP, va_K.moved hW.alike hK, hD.weaken (fun _ _ _ _ => trivial)⟩⟩ rfl (by rw [List.length_map]; exact hlen) hl.1 hst (lv_room (by rw [mz_cats]; exact Nat.le_of_ble_eq_true hsum)) hdg ⟨hn.2.1, hn.2.2⟩) hS (fun q _ h => hFr q h) hFr (fun r_1 u t H1 locs1 ht hvm hw1 hB hz1 hk1 hS1 => ?_)
      obtain ⟨hP1, hK1, hD1⟩ := hB
      rw [ht] at hP1
      exact hw1 ad cA H1 locs1 ls (mz_wf.push (v := .long r_1) ((hw.sub (fun v hv => List.mem_of_mem_drop hv)).mem rfl) trivial) ha hn hK hP1 (hD1.weaken (fun _ q9 _ h9 => hFr _ h9)) hS1 hl
    · exact h.elim
  · exact h.elim
theorem sd_callv {own C : String} {T : u_T} {N ci index maxL n na fr lo : Nat} {y : MethodName} {bytes : ByteArray} {ret : Option FieldType} {ws Ts : List Cond} {Cc : mz_CV} (hF : CallFix p m c cc nL s args Ts own) (hM : mz_MV l y ws fr lo cl Cc) (cw : CallW R s args own C index y bytes maxL ret ws (mz_rm fr lo) 0 0 n) (hc : cl[ci]? = some (C, T, N)) (hA : ∀ q, s.heap.size ≤ q → A q) (hna : n + 1 = na) (hdg : decode cc pc = .ok (.invokevirtual index, 3)) : mz_Sd (mz_V p l e R s m args below meth c nL n0 z0 D cl G A Qw) Qv (mz_cvo na ci Cc (pc + 3)) pc := by
  intro L S M h ad cA H locs ls hw ha hn hK hP hD hS hl
  simp only [mz_cvo, mz_cut] at h
  split at h
  · next hle =>
    split at h
    · next hsum =>
      generalize has : (S.take na).reverse = as at h
      simp only [mz_rcv] at h
      split at h
      · next q As =>
        simp only [mz_ob] at h
        split at h
        · next ci2 ks hq =>
          split at h
          · next hbe =>
            have hce : ci2 = ci := Nat.eq_of_beq_eq_true hbe
            subst hce
            have hlen : As.length = n := by
              have h1 := congrArg List.length has
              have h2 := Nat.le_of_ble_eq_true hle
              simp only [List.length_reverse, List.length_take, List.length_cons] at h1
              omega
            have hst := mz_split ad has
            have hFr := mz_free hD hS hA
            have hwa : mz_wf [] (.ref q :: As) (M.1, M.2) := (hw.sub (S' := .ref q :: As) (fun v hv => by rw [← has] at hv; exact List.mem_of_mem_take (List.mem_reverse.mp hv))).noL
            refine va_callv (st0 := S.map (mz_cv ad)) (va_runV (As := As.map (mz_cv ad)) (b := ad q) (rest := (S.drop na).map (mz_cv ad)) (g := F0 m pc ls (S.map (mz_cv ad))) hF (hM D ad cA H.size M.1 (.ref q :: As) M.2 _ hwa h) cw ⟨mz_Pc_blind, va_recv hK hP hc (mz_w_at (ad := ad) (cA := cA) hq), fun U hU hW => ⟨rfl, by rw [hU], by rw [hU]; exact hP, va_K.moved hW.alike hK, hD.weaken (fun _ _ _ _ => trivial)⟩⟩ rfl (by rw [List.length_map]; exact hlen) hl.1 hst (lv_room (by rw [mz_cats]; exact Nat.le_of_ble_eq_true hsum)) hdg ⟨hn.2.1, hn.2.2⟩) hS (fun q _ h => hFr q h) hFr (fun u t H1 locs1 ht hvm hw1 hB hz1 hk1 hS1 => ?_)
            obtain ⟨hP1, hK1, hD1⟩ := hB
            rw [ht] at hP1
            exact hw1 ad cA H1 locs1 ls ((hw.sub (fun v hv => List.mem_of_mem_drop hv)).mem rfl) ha hn hK hP1 (hD1.weaken (fun _ q9 _ h9 => hFr _ h9)) hS1 hl
          · exact h.elim
        · exact h.elim
      · exact h.elim
    · exact h.elim
  · exact h.elim
theorem sd_scallv {own : String} {index maxL n na fr lo : Nat} {y : MethodName} {bytes : ByteArray} {ret : Option FieldType} {ws Ts : List Cond} {Cc : mz_CV} (hF : CallFix p m c cc nL s args Ts own) (hM : mz_MV l y ws fr lo cl Cc) (cw : CallB R s args own index y bytes maxL ret ws (mz_rm fr lo) 0 0 n ∧ (Cond.static y).before args s = true) (hA : ∀ q, s.heap.size ≤ q → A q) (hna : n = na) (hdg : decode cc pc = .ok (.invokestatic index, 3)) : mz_Sd (mz_V p l e R s m args below meth c nL n0 z0 D cl G A Qw) Qv (mz_svo na Cc (pc + 3)) pc := by
  intro L S M h ad cA H locs ls hw ha hn hK hP hD hS hl
  simp only [mz_svo, mz_cut] at h
  split at h
  · next hle =>
    split at h
    · next hsum =>
      have hFr := mz_free hD hS hA
      have hlen : (S.take na).reverse.length = n := by
        have h2 := Nat.le_of_ble_eq_true hle
        simp only [List.length_reverse, List.length_take]
        omega
      have hst : S.map (mz_cv ad) = ((S.take na).reverse.map (mz_cv ad)).reverse ++ (S.drop na).map (mz_cv ad) := by
        rw [← List.map_reverse, List.reverse_reverse, ← List.map_append, List.take_append_drop]
      have hwa : mz_wf [] (S.take na).reverse (M.1, M.2) := (hw.sub (fun v hv => List.mem_of_mem_take (List.mem_reverse.mp hv))).noL
      refine va_callv (st0 := S.map (mz_cv ad)) (va_runS (As := (S.take na).reverse.map (mz_cv ad)) (rest := (S.drop na).map (mz_cv ad)) (g := F0 m pc ls (S.map (mz_cv ad))) hF (hM D ad cA H.size M.1 (S.take na).reverse M.2 _ hwa h) cw ⟨mz_Pc_blind, fun U hU hW => ⟨rfl, by rw [hU], by rw [hU]; exact hP, va_K.moved hW.alike hK, hD.weaken (fun _ _ _ _ => trivial)⟩⟩ rfl (by rw [List.length_map]; exact hlen) hl.1 hst (lv_room (by rw [mz_cats]; exact Nat.le_of_ble_eq_true hsum)) hdg ⟨hn.2.1, hn.2.2⟩) hS (fun q _ h => hFr q h) hFr (fun u t H1 locs1 ht hvm hw1 hB hz1 hk1 hS1 => ?_)
      obtain ⟨hP1, hK1, hD1⟩ := hB
      rw [ht] at hP1
      exact hw1 ad cA H1 locs1 ls ((hw.sub (fun v hv => List.mem_of_mem_drop hv)).mem rfl) ha hn hK hP1 (hD1.weaken (fun _ q9 _ h9 => hFr _ h9)) hS1 hl
    · exact h.elim
  · exact h.elim
theorem sd_callvN {own C host : String} {T : u_T} {N ci index maxL n na fr lo : Nat} {y : MethodName} {bytes : ByteArray} {ret : Option FieldType} {ws Ts : List Cond} {Cc : mz_CV} (hF : CallFix p m c cc nL s args Ts own) (hM : mz_MV l y ws fr lo cl Cc) (cw : va_CN R s args own index y host bytes maxL ret ws (mz_rm fr lo) 0 0 n ∧ (Cond.instanceMethod y).before args s = true ∧ (Cond.selects C y y).before args s = true) (hc : cl[ci]? = some (C, T, N)) (hA : ∀ q, s.heap.size ≤ q → A q) (hna : n + 1 = na) (hdg : decode cc pc = .ok (.invokevirtual index, 3)) : mz_Sd (mz_V p l e R s m args below meth c nL n0 z0 D cl G A Qw) Qv (mz_cvo na ci Cc (pc + 3)) pc := by
  intro L S M h ad cA H locs ls hw ha hn hK hP hD hS hl
  simp only [mz_cvo, mz_cut] at h
  split at h
  · next hle =>
    split at h
    · next hsum =>
      generalize has : (S.take na).reverse = as at h
      simp only [mz_rcv] at h
      split at h
      · next q As =>
        simp only [mz_ob] at h
        split at h
        · next ci2 ks hq =>
          split at h
          · next hbe =>
            have hce : ci2 = ci := Nat.eq_of_beq_eq_true hbe
            subst hce
            have hlen : As.length = n := by
              have h1 := congrArg List.length has
              have h2 := Nat.le_of_ble_eq_true hle
              simp only [List.length_reverse, List.length_take, List.length_cons] at h1
              omega
            have hst := mz_split ad has
            have hFr := mz_free hD hS hA
            have hwa : mz_wf [] (.ref q :: As) (M.1, M.2) := (hw.sub (S' := .ref q :: As) (fun v hv => by rw [← has] at hv; exact List.mem_of_mem_take (List.mem_reverse.mp hv))).noL
            refine va_callv (st0 := S.map (mz_cv ad)) (va_runVN (As := As.map (mz_cv ad)) (b := ad q) (rest := (S.drop na).map (mz_cv ad)) (g := F0 m pc ls (S.map (mz_cv ad))) hF (hM D ad cA H.size M.1 (.ref q :: As) M.2 _ hwa h) cw ⟨mz_Pc_blind, va_recv hK hP hc (mz_w_at (ad := ad) (cA := cA) hq), fun U hU hW => ⟨rfl, by rw [hU], by rw [hU]; exact hP, va_K.moved hW.alike hK, hD.weaken (fun _ _ _ _ => trivial)⟩⟩ rfl (by rw [List.length_map]; exact hlen) hl.1 hst (lv_room (by rw [mz_cats]; exact Nat.le_of_ble_eq_true hsum)) hdg ⟨hn.2.1, hn.2.2⟩) hS (fun q _ h => hFr q h) hFr (fun u t H1 locs1 ht hvm hw1 hB hz1 hk1 hS1 => ?_)
            obtain ⟨hP1, hK1, hD1⟩ := hB
            rw [ht] at hP1
            exact hw1 ad cA H1 locs1 ls ((hw.sub (fun v hv => List.mem_of_mem_drop hv)).mem rfl) ha hn hK hP1 (hD1.weaken (fun _ q9 _ h9 => hFr _ h9)) hS1 hl
          · exact h.elim
        · exact h.elim
      · exact h.elim
    · exact h.elim
  · exact h.elim
theorem sd_scallvN {own host : String} {index maxL n na fr lo : Nat} {y : MethodName} {bytes : ByteArray} {ret : Option FieldType} {ws Ts : List Cond} {Cc : mz_CV} (hF : CallFix p m c cc nL s args Ts own) (hM : mz_MV l y ws fr lo cl Cc) (cw : va_CN R s args own index y host bytes maxL ret ws (mz_rm fr lo) 0 0 n ∧ (Cond.static y).before args s = true ∧ True) (hA : ∀ q, s.heap.size ≤ q → A q) (hna : n = na) (hdg : decode cc pc = .ok (.invokestatic index, 3)) : mz_Sd (mz_V p l e R s m args below meth c nL n0 z0 D cl G A Qw) Qv (mz_svo na Cc (pc + 3)) pc := by
  intro L S M h ad cA H locs ls hw ha hn hK hP hD hS hl
  simp only [mz_svo, mz_cut] at h
  split at h
  · next hle =>
    split at h
    · next hsum =>
      have hFr := mz_free hD hS hA
      have hlen : (S.take na).reverse.length = n := by
        have h2 := Nat.le_of_ble_eq_true hle
        simp only [List.length_reverse, List.length_take]
        omega
      have hst : S.map (mz_cv ad) = ((S.take na).reverse.map (mz_cv ad)).reverse ++ (S.drop na).map (mz_cv ad) := by
        rw [← List.map_reverse, List.reverse_reverse, ← List.map_append, List.take_append_drop]
      have hwa : mz_wf [] (S.take na).reverse (M.1, M.2) := (hw.sub (fun v hv => List.mem_of_mem_take (List.mem_reverse.mp hv))).noL
      refine va_callv (st0 := S.map (mz_cv ad)) (va_runSN (As := (S.take na).reverse.map (mz_cv ad)) (rest := (S.drop na).map (mz_cv ad)) (g := F0 m pc ls (S.map (mz_cv ad))) hF (hM D ad cA H.size M.1 (S.take na).reverse M.2 _ hwa h) cw ⟨mz_Pc_blind, fun U hU hW => ⟨rfl, by rw [hU], by rw [hU]; exact hP, va_K.moved hW.alike hK, hD.weaken (fun _ _ _ _ => trivial)⟩⟩ rfl (by rw [List.length_map]; exact hlen) hl.1 hst (lv_room (by rw [mz_cats]; exact Nat.le_of_ble_eq_true hsum)) hdg ⟨hn.2.1, hn.2.2⟩) hS (fun q _ h => hFr q h) hFr (fun u t H1 locs1 ht hvm hw1 hB hz1 hk1 hS1 => ?_)
      obtain ⟨hP1, hK1, hD1⟩ := hB
      rw [ht] at hP1
      exact hw1 ad cA H1 locs1 ls ((hw.sub (fun v hv => List.mem_of_mem_drop hv)).mem rfl) ha hn hK hP1 (hD1.weaken (fun _ q9 _ h9 => hFr _ h9)) hS1 hl
    · exact h.elim
  · exact h.elim
/-- what a walk must end in -/
def mz_qi (lay : List mz_E) (Q : Int32 → mz_X → Prop) : mz_Q := fun v M => match v with
  | some (.int r) => M.1 = lay ∧ Q r M.2
  | _ => False
def mz_ql (lay : List mz_E) (Q : Int64 → mz_X → Prop) : mz_Q := fun v M => match v with
  | some (.long r) => M.1 = lay ∧ Q r M.2
  | _ => False
def mz_qv (lay : List mz_E) (Q : mz_X → Prop) : mz_Q := fun v M => match v with
  | none => M.1 = lay ∧ Q M.2
  | _ => False
abbrev mz_G0 (ad0 : Nat → Nat) (cA0 : Nat → ClassId) : (Nat → Nat) → (Nat → ClassId) → Prop := fun ad cA => ad = ad0 ∧ cA = cA0
theorem sd_ri {ad0 : Nat → Nat} {cA0 : Nat → ClassId} {lay : List mz_E} {Q : Int32 → mz_X → Prop} (hx : p.tables.exec = Jvm.exec) (hb : c.code = cc) (hr : meth.sig.returnType = some .int) (hlk : meth.locks = false) (hdg : decode cc pc = .ok (.ireturn, 1)) : mz_Sd (mz_V p l e R s m args below meth c nL lay.length (mz_sz lay) D cl (mz_G0 ad0 cA0) A (MQ below (va_Qi Q (mz_B D cl ad0 cA0 lay A) A) args s 0 0 A)) (mz_qi lay Q) (mz_ri) pc := by
  intro L S M h ad cA H locs ls hw ha hn hK hP hD hS hl
  obtain ⟨rfl, rfl⟩ := ha
  simp only [mz_ri] at h
  split at h
  · next x =>
    obtain ⟨hl0, hq⟩ := h
    obtain ⟨lay2, X⟩ := M
    have hl0 : lay2 = lay := hl0
    subst hl0
    have e1 : lay2.length - lay2.length = 0 := by omega
    have e2 : mz_sz lay2 - mz_sz lay2 = 0 := by omega
    show W p l e R s m args below meth c H locs (lay2.length - lay2.length) (mz_sz lay2 - mz_sz lay2) _ _
    rw [e1, e2]
    exact W.iret hx hb hr  (fun t ht hW => ⟨⟨x, X, rfl, hq, by rw [ht]; exact hP, va_K.moved hW.alike hK, hD⟩, hS.F ht⟩) hS.2.2 hdg hlk
  · exact h.elim
theorem sd_rz {ad0 : Nat → Nat} {cA0 : Nat → ClassId} {lay : List mz_E} {Q : Int32 → mz_X → Prop} (hx : p.tables.exec = Jvm.exec) (hb : c.code = cc) (hr : meth.sig.returnType = some .boolean) (hlk : meth.locks = false) (hdg : decode cc pc = .ok (.ireturn, 1)) : mz_Sd (mz_V p l e R s m args below meth c nL lay.length (mz_sz lay) D cl (mz_G0 ad0 cA0) A (MQ below (va_Qi Q (mz_B D cl ad0 cA0 lay A) A) args s 0 0 A)) (mz_qi lay Q) (mz_rz) pc := by
  intro L S M h ad cA H locs ls hw ha hn hK hP hD hS hl
  obtain ⟨rfl, rfl⟩ := ha
  simp only [mz_rz] at h
  split at h
  · next x =>
    obtain ⟨hl0, hq⟩ := h.2
    obtain ⟨lay2, X⟩ := M
    have hl0 : lay2 = lay := hl0
    subst hl0
    have e1 : lay2.length - lay2.length = 0 := by omega
    have e2 : mz_sz lay2 - mz_sz lay2 = 0 := by omega
    show W p l e R s m args below meth c H locs (lay2.length - lay2.length) (mz_sz lay2 - mz_sz lay2) _ _
    rw [e1, e2]
    exact W.zret hx hb hr (by rcases h.1 with rfl | rfl <;> rfl) (fun t ht hW => ⟨⟨x, X, rfl, hq, by rw [ht]; exact hP, va_K.moved hW.alike hK, hD⟩, hS.F ht⟩) hS.2.2 hdg hlk
  · exact h.elim
theorem sd_rl {ad0 : Nat → Nat} {cA0 : Nat → ClassId} {lay : List mz_E} {Q : Int64 → mz_X → Prop} (hx : p.tables.exec = Jvm.exec) (hb : c.code = cc) (hr : meth.sig.returnType = some .long) (hlk : meth.locks = false) (hdg : decode cc pc = .ok (.lreturn, 1)) : mz_Sd (mz_V p l e R s m args below meth c nL lay.length (mz_sz lay) D cl (mz_G0 ad0 cA0) A (MQ below (va_Ql Q (mz_B D cl ad0 cA0 lay A) A) args s 0 0 A)) (mz_ql lay Q) (mz_rl) pc := by
  intro L S M h ad cA H locs ls hw ha hn hK hP hD hS hl
  obtain ⟨rfl, rfl⟩ := ha
  simp only [mz_rl] at h
  split at h
  · next x =>
    obtain ⟨hl0, hq⟩ := h
    obtain ⟨lay2, X⟩ := M
    have hl0 : lay2 = lay := hl0
    subst hl0
    have e1 : lay2.length - lay2.length = 0 := by omega
    have e2 : mz_sz lay2 - mz_sz lay2 = 0 := by omega
    show W p l e R s m args below meth c H locs (lay2.length - lay2.length) (mz_sz lay2 - mz_sz lay2) _ _
    rw [e1, e2]
    exact W.lret hx hb hr  (fun t ht hW => ⟨⟨x, X, rfl, hq, by rw [ht]; exact hP, va_K.moved hW.alike hK, hD⟩, hS.F ht⟩) hS.2.2 hdg hlk
  · exact h.elim
theorem sd_rv {ad0 : Nat → Nat} {cA0 : Nat → ClassId} {lay : List mz_E} {Q : mz_X → Prop} (hx : p.tables.exec = Jvm.exec) (hb : c.code = cc) (hr : meth.sig.returnType = none) (hlk : meth.locks = false) (hdg : decode cc pc = .ok (.return_, 1)) : mz_Sd (mz_V p l e R s m args below meth c nL lay.length (mz_sz lay) D cl (mz_G0 ad0 cA0) A (MQ below (va_Qv Q (mz_B D cl ad0 cA0 lay A) A) args s 0 0 A)) (mz_qv lay Q) (mz_rv) pc := by
  intro L S M h ad cA H locs ls hw ha hn hK hP hD hS hl
  obtain ⟨rfl, rfl⟩ := ha
  simp only [mz_rv] at h
  split at h
  ·
    obtain ⟨hl0, hq⟩ := h
    obtain ⟨lay2, X⟩ := M
    have hl0 : lay2 = lay := hl0
    subst hl0
    have e1 : lay2.length - lay2.length = 0 := by omega
    have e2 : mz_sz lay2 - mz_sz lay2 = 0 := by omega
    show W p l e R s m args below meth c H locs (lay2.length - lay2.length) (mz_sz lay2 - mz_sz lay2) _ _
    rw [e1, e2]
    exact W.vret hx hb hr  (fun t ht hW => ⟨⟨X, rfl, hq, by rw [ht]; exact hP, va_K.moved hW.alike hK, hD⟩, hS.F ht⟩) hS.2.2 hdg hlk
  · exact h.elim
def mz_All (V : mz_K) (Q : mz_Q) (I : List (Nat × mz_Op)) : Prop := match I with
  | [] => True
  | (k, op) :: r => mz_Sd V Q op k ∧ mz_All V Q r
theorem mz_All.clo {V : mz_K} {Q : mz_Q} : ∀ {I : List (Nat × mz_Op)}, mz_All V Q I → mz_Cl I Q V
  | [], _ => fun pc L S M h => h.elim
  | (k, op) :: r, h => fun pc L S M h2 => by
    cases hbe : Nat.beq k pc with
    | true =>
      have : k = pc := Nat.eq_of_beq_eq_true hbe
      subst this
      have e1 : mz_at ((k, op) :: r) k = op := by simp only [mz_at, hbe]
      rw [e1] at h2
      exact h.1 L S M h2
    | false =>
      have e1 : mz_at ((k, op) :: r) pc = mz_at r pc := by
        rw [mz_at]
        simp only [hbe]
      rw [e1] at h2
      exact h.2.clo pc L S M h2
/-- what is known of a method at its entry -/
def mz_F (p : Program) (s : State) (m : MethodId) (args : Array Value) (meth : Method) (c : Code) (cc : ByteArray) (nL : Nat) (own : String) (ret : Option FieldType) (ws : List Cond) : Prop :=
  p.tables.exec = Jvm.exec ∧ c.code = cc ∧ c.maxLocals = nL ∧ s.vm.findClass own = some m.cls ∧ (∀ w ∈ ws, w.before args s = true) ∧ meth.sig.returnType = ret ∧ meth.locks = false
theorem mz_l0_sl (ad : Nat → Nat) : ∀ (as : List Value), (∀ v ∈ as, ∀ n, mz_vw n v ∨ True) → (∀ v ∈ as, v.category = 2 → ∃ x, v = .long x) → (lg_sl (as.map (mz_cv ad))).length = (mz_l0 as).length
  | [], _, _ => rfl
  | v :: r, h0, h => by
    have ih := mz_l0_sl ad r (fun w hw => h0 w (List.mem_cons_of_mem _ hw)) (fun w hw => h w (List.mem_cons_of_mem _ hw))
    simp only [lg_sl] at ih
    simp only [lg_sl, List.map_cons, List.flatMap_cons, List.length_append, ih]
    by_cases hc : v.category = 2
    · obtain ⟨x, rfl⟩ := h v List.mem_cons_self hc
      simp [mz_cv, mz_l0, Value.category]; omega
    · rw [mz_cv_cat, if_neg hc]
      cases v <;> simp [mz_l0, Value.category] at hc ⊢ <;> omega
theorem mz_l0_args (ad : Nat → Nat) : ∀ (as : List Value) (k i : Nat) (v : Value), (∀ v ∈ as, v.category = 2 → ∃ x, v = .long x) → (mz_l0 as)[i]? = some (some v) → (k + i, mz_cv ad v) ∈ lv_args k (as.map (mz_cv ad))
  | [], k, i, v, _, h => by simp [mz_l0] at h
  | w :: r, k, i, v, hc, h => by
    have hc' := fun w hw => hc w (List.mem_cons_of_mem _ hw)
    by_cases h2 : w.category = 2
    · obtain ⟨x, rfl⟩ := hc w List.mem_cons_self h2
      simp only [mz_l0] at h
      simp only [List.map_cons, lv_args]
      match i, h with
      | 0, h => simp at h; subst h; simp
      | 1, h => simp at h
      | i + 2, h =>
        simp only [List.getElem?_cons_succ] at h
        have := mz_l0_args ad r (k + 2) i v hc' h
        refine List.mem_cons_of_mem _ ?_
        rw [show k + (i + 2) = k + 2 + i by omega]
        simpa [mz_cv, Value.category] using this
    · have hl0 : mz_l0 (w :: r) = some w :: mz_l0 r := by cases w <;> simp [mz_l0, Value.category] at h2 ⊢
      rw [hl0] at h
      simp only [List.map_cons, lv_args, mz_cv_cat, if_neg h2]
      match i, h with
      | 0, h => simp at h; subst h; simp
      | i + 1, h =>
        simp only [List.getElem?_cons_succ] at h
        have := mz_l0_args ad r (k + 1) i v hc' h
        refine List.mem_cons_of_mem _ ?_
        rw [show k + (i + 1) = k + 1 + i by omega]
        exact this
theorem mz_l0_mem : ∀ (as : List Value) (i : Nat) (v : Value), (mz_l0 as)[i]? = some (some v) → v ∈ as
  | [], i, v, h => by simp [mz_l0] at h
  | w :: r, i, v, h => by
    by_cases h2 : ∃ x, w = .long x
    · obtain ⟨x, rfl⟩ := h2
      simp only [mz_l0] at h
      match i, h with
      | 0, h => simp at h; subst h; simp
      | 1, h => simp at h
      | i + 2, h =>
        simp only [List.getElem?_cons_succ] at h
        exact List.mem_cons_of_mem _ (mz_l0_mem r i v h)
    · have hl0 : mz_l0 (w :: r) = some w :: mz_l0 r := by
        cases w <;> first | rfl | exact absurd ⟨_, rfl⟩ h2
      rw [hl0] at h
      match i, h with
      | 0, h => simp at h; subst h; simp
      | i + 1, h =>
        simp only [List.getElem?_cons_succ] at h
        exact List.mem_cons_of_mem _ (mz_l0_mem r i v h)
theorem mz_ent_get {nL i : Nat} {as : List Value} {v : Value} (h : (mz_ent nL as)[i]? = some (some v)) : (mz_l0 as)[i]? = some (some v) := by
  unfold mz_ent at h
  by_cases hi : i < (mz_l0 as).length
  · rwa [List.getElem?_append_left hi] at h
  · rw [List.getElem?_append_right (by omega), List.getElem?_replicate] at h
    split at h <;> simp at h
theorem mz_MI_of {y : MethodName} {ws ws' : List Cond} {fr lo : Nat} {C : mz_CI} {rt : Option FieldType} (I : List (Nat × mz_Op)) (hy : plainName y.cls = true) (hws : ws = .code y cc nL rt :: ws')
    (hlen : ∀ lay as X Q, C lay as X Q → (mz_l0 as).length ≤ nL)
    (hok : ∀ lay as X Q, C lay as X Q → ∀ K : mz_K, mz_Cl I (mz_qi lay Q) K → K 0 (mz_ent nL as) [] (lay, X))
    (hsd : ∀ (p : Program) (e : Env) (s : State) (m : MethodId) (args : Array Value) (below : List Frame) (meth : Method) (c : Code) (D : va_G) (ad0 : Nat → Nat) (cA0 : Nat → ClassId) (A : Nat → Prop) (lay : List mz_E) (Q : Int32 → mz_X → Prop), mz_F p s m args meth c cc nL y.cls rt ws → (∀ q, s.heap.size ≤ q → A q) → mz_All (mz_V p l e (mz_rm fr lo) s m args below meth c nL lay.length (mz_sz lay) D cl (mz_G0 ad0 cA0) A (MQ below (va_Qi Q (mz_B D cl ad0 cA0 lay A) A) args s 0 0 A)) (mz_qi lay Q) I) : mz_MI l y ws fr lo cl C := by
  intro D ad cA sz lay as X Q hwf hC
  refine Met.ofW (cc := cc) (maxL := nL) (ret := rt) hy hws ?_
  intro p e s m args below meth c s₁ B hml hv
  obtain ⟨rfl, hsz, hP, hK, hD0⟩ := hv
  have hts := atoms_spec (ws := ws) B.pre
  have hown : s.vm.findClass y.cls = some m.cls := findClass_of_methodNamed B.named
  subst hsz
  have hD := hD0.self (sz := s.heap.size)
  have hA : ∀ q : Nat, s.heap.size ≤ q → va_A (mz_w ad cA (lay, X)) s.heap.size q := fun q h => Or.inr h
  have hal := hsd p e s m _ below meth c D ad cA (va_A (mz_w ad cA (lay, X)) s.heap.size) lay Q ⟨B.exec, B.bytes, hml, hown, hts, B.returns, B.notSynchronized⟩ hA
  have h0 := hok lay as X Q hC _ hal.clo
  have hcat : ∀ v ∈ as, v.category = 2 → ∃ x, v = .long x := fun v hv hc => by
    have := hwf.2.2.1 v hv
    cases v with
    | long x => exact ⟨x, rfl⟩
    | _ => simp [Value.category] at hc <;> exact absurd this (by simp [mz_vw])
  have hle : (lg_sl (as.map (mz_cv ad))).length ≤ nL := by
    rw [mz_l0_sl ad as (fun _ _ _ => Or.inr trivial) hcat]
    exact hlen lay as X Q hC
  have hl := lv_entry (as.map (mz_cv ad)) (n := nL) hle
  rw [lg_entry_eq]
  generalize (lg_sl (as.map (mz_cv ad)) ++ List.replicate (nL - (lg_sl (as.map (mz_cv ad))).length) Slot.unset).toArray = ls at hl ⊢
  have hwe : mz_wf (mz_ent nL as) [] (lay, X) := by
    refine ⟨hwf.1, hwf.2.1, (fun v hv => by cases hv), fun v hv => ?_⟩
    obtain ⟨i, hi⟩ := List.getElem?_of_mem hv
    exact hwf.2.2.1 v (mz_l0_mem as i v (mz_ent_get hi))
  have h9 := h0 ad cA s.heap [] ls hwe ⟨rfl, rfl⟩ ⟨Nat.le_refl _, by simp, by simp⟩ hK hP hD va_S.rf ⟨hl.1, hl.2.1, fun i v hi => by
      have h3 := mz_l0_args ad as 0 i v hcat (mz_ent_get hi)
      rw [Nat.zero_add] at h3
      exact hl.2.2 (i, _) h3⟩
  have e1 : lay.length - lay.length = 0 := by omega
  have e2 : mz_sz lay - mz_sz lay = 0 := by omega
  simp only [e1, e2] at h9
  exact h9
theorem mz_ML_of {y : MethodName} {ws ws' : List Cond} {fr lo : Nat} {C : mz_CL} {rt : Option FieldType} (I : List (Nat × mz_Op)) (hy : plainName y.cls = true) (hws : ws = .code y cc nL rt :: ws')
    (hlen : ∀ lay as X Q, C lay as X Q → (mz_l0 as).length ≤ nL)
    (hok : ∀ lay as X Q, C lay as X Q → ∀ K : mz_K, mz_Cl I (mz_ql lay Q) K → K 0 (mz_ent nL as) [] (lay, X))
    (hsd : ∀ (p : Program) (e : Env) (s : State) (m : MethodId) (args : Array Value) (below : List Frame) (meth : Method) (c : Code) (D : va_G) (ad0 : Nat → Nat) (cA0 : Nat → ClassId) (A : Nat → Prop) (lay : List mz_E) (Q : Int64 → mz_X → Prop), mz_F p s m args meth c cc nL y.cls rt ws → (∀ q, s.heap.size ≤ q → A q) → mz_All (mz_V p l e (mz_rm fr lo) s m args below meth c nL lay.length (mz_sz lay) D cl (mz_G0 ad0 cA0) A (MQ below (va_Ql Q (mz_B D cl ad0 cA0 lay A) A) args s 0 0 A)) (mz_ql lay Q) I) : mz_ML l y ws fr lo cl C := by
  intro D ad cA sz lay as X Q hwf hC
  refine Met.ofW (cc := cc) (maxL := nL) (ret := rt) hy hws ?_
  intro p e s m args below meth c s₁ B hml hv
  obtain ⟨rfl, hsz, hP, hK, hD0⟩ := hv
  have hts := atoms_spec (ws := ws) B.pre
  have hown : s.vm.findClass y.cls = some m.cls := findClass_of_methodNamed B.named
  subst hsz
  have hD := hD0.self (sz := s.heap.size)
  have hA : ∀ q : Nat, s.heap.size ≤ q → va_A (mz_w ad cA (lay, X)) s.heap.size q := fun q h => Or.inr h
  have hal := hsd p e s m _ below meth c D ad cA (va_A (mz_w ad cA (lay, X)) s.heap.size) lay Q ⟨B.exec, B.bytes, hml, hown, hts, B.returns, B.notSynchronized⟩ hA
  have h0 := hok lay as X Q hC _ hal.clo
  have hcat : ∀ v ∈ as, v.category = 2 → ∃ x, v = .long x := fun v hv hc => by
    have := hwf.2.2.1 v hv
    cases v with
    | long x => exact ⟨x, rfl⟩
    | _ => simp [Value.category] at hc <;> exact absurd this (by simp [mz_vw])
  have hle : (lg_sl (as.map (mz_cv ad))).length ≤ nL := by
    rw [mz_l0_sl ad as (fun _ _ _ => Or.inr trivial) hcat]
    exact hlen lay as X Q hC
  have hl := lv_entry (as.map (mz_cv ad)) (n := nL) hle
  rw [lg_entry_eq]
  generalize (lg_sl (as.map (mz_cv ad)) ++ List.replicate (nL - (lg_sl (as.map (mz_cv ad))).length) Slot.unset).toArray = ls at hl ⊢
  have hwe : mz_wf (mz_ent nL as) [] (lay, X) := by
    refine ⟨hwf.1, hwf.2.1, (fun v hv => by cases hv), fun v hv => ?_⟩
    obtain ⟨i, hi⟩ := List.getElem?_of_mem hv
    exact hwf.2.2.1 v (mz_l0_mem as i v (mz_ent_get hi))
  have h9 := h0 ad cA s.heap [] ls hwe ⟨rfl, rfl⟩ ⟨Nat.le_refl _, by simp, by simp⟩ hK hP hD va_S.rf ⟨hl.1, hl.2.1, fun i v hi => by
      have h3 := mz_l0_args ad as 0 i v hcat (mz_ent_get hi)
      rw [Nat.zero_add] at h3
      exact hl.2.2 (i, _) h3⟩
  have e1 : lay.length - lay.length = 0 := by omega
  have e2 : mz_sz lay - mz_sz lay = 0 := by omega
  simp only [e1, e2] at h9
  exact h9
theorem mz_MV_of {y : MethodName} {ws ws' : List Cond} {fr lo : Nat} {C : mz_CV} {rt : Option FieldType} (I : List (Nat × mz_Op)) (hy : plainName y.cls = true) (hws : ws = .code y cc nL rt :: ws')
    (hlen : ∀ lay as X Q, C lay as X Q → (mz_l0 as).length ≤ nL)
    (hok : ∀ lay as X Q, C lay as X Q → ∀ K : mz_K, mz_Cl I (mz_qv lay Q) K → K 0 (mz_ent nL as) [] (lay, X))
    (hsd : ∀ (p : Program) (e : Env) (s : State) (m : MethodId) (args : Array Value) (below : List Frame) (meth : Method) (c : Code) (D : va_G) (ad0 : Nat → Nat) (cA0 : Nat → ClassId) (A : Nat → Prop) (lay : List mz_E) (Q : mz_X → Prop), mz_F p s m args meth c cc nL y.cls rt ws → (∀ q, s.heap.size ≤ q → A q) → mz_All (mz_V p l e (mz_rm fr lo) s m args below meth c nL lay.length (mz_sz lay) D cl (mz_G0 ad0 cA0) A (MQ below (va_Qv Q (mz_B D cl ad0 cA0 lay A) A) args s 0 0 A)) (mz_qv lay Q) I) : mz_MV l y ws fr lo cl C := by
  intro D ad cA sz lay as X Q hwf hC
  refine Met.ofW (cc := cc) (maxL := nL) (ret := rt) hy hws ?_
  intro p e s m args below meth c s₁ B hml hv
  obtain ⟨rfl, hsz, hP, hK, hD0⟩ := hv
  have hts := atoms_spec (ws := ws) B.pre
  have hown : s.vm.findClass y.cls = some m.cls := findClass_of_methodNamed B.named
  subst hsz
  have hD := hD0.self (sz := s.heap.size)
  have hA : ∀ q : Nat, s.heap.size ≤ q → va_A (mz_w ad cA (lay, X)) s.heap.size q := fun q h => Or.inr h
  have hal := hsd p e s m _ below meth c D ad cA (va_A (mz_w ad cA (lay, X)) s.heap.size) lay Q ⟨B.exec, B.bytes, hml, hown, hts, B.returns, B.notSynchronized⟩ hA
  have h0 := hok lay as X Q hC _ hal.clo
  have hcat : ∀ v ∈ as, v.category = 2 → ∃ x, v = .long x := fun v hv hc => by
    have := hwf.2.2.1 v hv
    cases v with
    | long x => exact ⟨x, rfl⟩
    | _ => simp [Value.category] at hc <;> exact absurd this (by simp [mz_vw])
  have hle : (lg_sl (as.map (mz_cv ad))).length ≤ nL := by
    rw [mz_l0_sl ad as (fun _ _ _ => Or.inr trivial) hcat]
    exact hlen lay as X Q hC
  have hl := lv_entry (as.map (mz_cv ad)) (n := nL) hle
  rw [lg_entry_eq]
  generalize (lg_sl (as.map (mz_cv ad)) ++ List.replicate (nL - (lg_sl (as.map (mz_cv ad))).length) Slot.unset).toArray = ls at hl ⊢
  have hwe : mz_wf (mz_ent nL as) [] (lay, X) := by
    refine ⟨hwf.1, hwf.2.1, (fun v hv => by cases hv), fun v hv => ?_⟩
    obtain ⟨i, hi⟩ := List.getElem?_of_mem hv
    exact hwf.2.2.1 v (mz_l0_mem as i v (mz_ent_get hi))
  have h9 := h0 ad cA s.heap [] ls hwe ⟨rfl, rfl⟩ ⟨Nat.le_refl _, by simp, by simp⟩ hK hP hD va_S.rf ⟨hl.1, hl.2.1, fun i v hi => by
      have h3 := mz_l0_args ad as 0 i v hcat (mz_ent_get hi)
      rw [Nat.zero_add] at h3
      exact hl.2.2 (i, _) h3⟩
  have e1 : lay.length - lay.length = 0 := by omega
  have e2 : mz_sz lay - mz_sz lay = 0 := by omega
  simp only [e1, e2] at h9
  exact h9
end MZV
