/-! more operations: a table switch, Math.min and Math.max -/
def mz_tsw (lo : Int) (ts : List Nat) (d : Nat) : mz_Op := fun _ K L S M => match S with
  | .int x :: r => (∀ k t : Nat, ts[k]? = some t → x.toInt = lo + k → K t L r M) ∧ ((∀ k : Nat, k < ts.length → ¬ x.toInt = lo + k) → K d L r M)
  | _ => False
def mz_bin8 (f : Int32 → Int32 → Int32) (n : Nat) : mz_Op := fun _ K L S M => match S with
  | .int y :: .int x :: r => (r.map fun v => v.category).sum ≤ 8 ∧ K n L (.int (f x y) :: r) M
  | _ => False
section MZW
variable {p : Program} {l : Launch} {e : Env} {R : Room} {s : State} {m : MethodId} {args : Array Value} {below : List Frame} {meth : Method} {c : Code}
variable {cc : ByteArray} {nL n0 z0 : Nat} {D : va_G} {cl : List vw_C} {G : (Nat → Nat) → (Nat → ClassId) → Prop} {A : Nat → Prop} {Qw : State → Prop} {Qv : mz_Q} {pc : Nat}
theorem sd_tsw {lo : Int} {ts : List Nat} {d len : Nat} {dflt hi : Int} {offs : Array Int} (hx : p.tables.exec = Jvm.exec) (hb : c.code = cc) (hdg : decode cc pc = .ok (.tableswitch dflt lo hi offs, len)) (hd : (pc : Int) + dflt = (d : Int)) (hh : hi = lo + ts.length - 1) (ho : ∀ k : Nat, k < ts.length → Option.map (fun o : Int => (pc : Int) + o) offs[k]? = Option.map (fun t : Nat => Int.ofNat t) ts[k]?) : mz_Sd (mz_V p l e R s m args below meth c nL n0 z0 D cl G A Qw) Qv (mz_tsw lo ts d) pc := by
  intro L S M h ad cA H locs ls hw ha hn hK hP hD hS hl
  simp only [mz_tsw] at h
  split at h
  · next x r =>
    by_cases hr : lo ≤ x.toInt ∧ x.toInt ≤ hi
    · have hk : (x.toInt - lo).toNat < ts.length := by omega
      obtain ⟨t, ht⟩ : ∃ t, ts[(x.toInt - lo).toNat]? = some t := ⟨_, List.getElem?_eq_getElem hk⟩
      have h2 := ho _ hk
      rw [ht] at h2
      cases h3 : offs[(x.toInt - lo).toNat]? with
      | none => rw [h3] at h2; simp at h2
      | some off =>
        rw [h3] at h2
        simp only [Option.map_some, Option.some.injEq] at h2
        exact lv_tableIn hx hb hdg (by omega) (by omega) h3 h2 (h.1 _ t ht (by omega) ad cA H locs ls hw.tail ha hn hK hP hD hS hl)
    · exact lv_tableOut hx hb hdg (by omega) hd (h.2 (fun k hk q => hr (by omega)) ad cA H locs ls hw.tail ha hn hK hP hD hS hl)
  · exact h.elim
theorem sd_mmin (hx : p.tables.exec = Jvm.exec) (hb : c.code = cc) (hml : c.maxLocals = nL) {own : String} {index : Nat} (hown : s.vm.findClass own = some m.cls) (hlink : (Cond.methodLink own index Lib.Math.min.name).before args s = true) (hstat : (Cond.static Lib.Math.min.name).before args s = true) (hini : (Cond.initialized "java/lang/Math").before args s = true) (hcode : (Cond.code Lib.Math.min.name Lib.Math.min.code 2 (some .int)).before args s = true) (hfr : 1 ≤ R.frames) (hlo : 21 ≤ R.locals) (hdg : decode cc pc = .ok (.invokestatic index, 3)) : mz_Sd (mz_V p l e R s m args below meth c nL n0 z0 D cl G A Qw) Qv (mz_bin8 (fun x y => if y < x then y else x) (pc + 3)) pc := by
  intro L S M h ad cA H locs ls hw ha hn hK hP hD hS hl
  simp only [mz_bin8] at h
  split at h
  · next y x r =>
    exact va_mmin hx hb (hml.trans hl.1.symm) hown hlink hstat hini hcode hfr (by have := h.1; rw [← mz_cats ad] at this; omega) hn.2.1 hn.2.2 hdg (h.2 ad cA H locs ls (hw.tail.tail.push trivial) ha hn hK hP hD hS hl)
  · exact h.elim
theorem sd_mmax (hx : p.tables.exec = Jvm.exec) (hb : c.code = cc) (hml : c.maxLocals = nL) {own : String} {index : Nat} (hown : s.vm.findClass own = some m.cls) (hlink : (Cond.methodLink own index Lib.Math.max.name).before args s = true) (hstat : (Cond.static Lib.Math.max.name).before args s = true) (hini : (Cond.initialized "java/lang/Math").before args s = true) (hcode : (Cond.code Lib.Math.max.name Lib.Math.max.code 2 (some .int)).before args s = true) (hfr : 1 ≤ R.frames) (hlo : 21 ≤ R.locals) (hdg : decode cc pc = .ok (.invokestatic index, 3)) : mz_Sd (mz_V p l e R s m args below meth c nL n0 z0 D cl G A Qw) Qv (mz_bin8 (fun x y => if x < y then y else x) (pc + 3)) pc := by
  intro L S M h ad cA H locs ls hw ha hn hK hP hD hS hl
  simp only [mz_bin8] at h
  split at h
  · next y x r =>
    exact va_mmax hx hb (hml.trans hl.1.symm) hown hlink hstat hini hcode hfr (by have := h.1; rw [← mz_cats ad] at this; omega) hn.2.1 hn.2.2 hdg (h.2 ad cA H locs ls (hw.tail.tail.push trivial) ha hn hK hP hD hS hl)
  · exact h.elim
end MZW
