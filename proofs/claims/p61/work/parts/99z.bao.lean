/-! the class of byte[][] -/
def tAO (et : FieldType) (U : State) : Prop := (Cond.arrayOver (.array et)).before #[] U = true
theorem tAO.moved {et : FieldType} {u U : State} (hvm : u.vm.Alike U.vm) (h : tAO et u) : tAO et U := by
  obtain ⟨comp, c, k, h1, h2, h3, h4, h5⟩ := arrayOver_specB h
  obtain ⟨k', hk', he⟩ := hvm.2.2 _ _ h3
  have hi : (U.vm.classes.findIdx? fun (x : Class) => match x.kind with | .array component _ => component == comp | _ => false) = some c := by
    refine (va_idx_bare U.vm comp).symm.trans ?_
    first | rw [hvm.bare_eq] | rw [← hvm.bare_eq]
    exact (va_idx_bare u.vm comp).trans h2
  have hkind : k'.kind = .array comp (.array et) := by rw [he]; exact h4
  have f1 : U.vm.findClass (FieldType.array et).toString = some comp := by rw [hvm.findClass]; exact h1
  have f2 : U.vm.findClass ("[" ++ (FieldType.array et).toString) = some c := by rw [hvm.findClass]; exact h5
  unfold tAO Cond.before Cond.holds
  simp only [Cond.value]
  rw [f1, Option.bind_some]
  refine (congrArg (fun o : Option Nat => (o.bind (fun c => (U.vm.classes[c]?).map fun (k : Class) => match k.kind with | .array _ ty => decide (ty = FieldType.array et) && decide (U.vm.findClass ("[" ++ (FieldType.array et).toString) = some c) | _ => false) == some true)) hi).trans ?_
  simp [hk', hkind, f2]

/-- StringBuilder's private methods that run -/
def pvW : List MethodName := [yJ5_ensureCapacityInternal_d00df, yJ5_newCapacity_0f7a4, yJ5_putStringAt_47b60, yJ5_inflateIfNeededFor_a7421]
def bPV (U : State) : Prop := ∀ y ∈ pvW, va_Nw (.privateMethod y) U
theorem bPV.moved {u U : State} (hvm : u.vm.Alike U.vm) (h : bPV u) : bPV U := fun y hy => va_tabs rfl (rfl : (u.setVm U.vm).vm = U.vm) (by rw [Cond.privateMethod_setVm hvm]; exact h y hy)
def bAO (U : State) : Prop := tAO .byte U ∧ tAO .int U ∧ bPV U
theorem bAO.moved {u U : State} (hvm : u.vm.Alike U.vm) (h : bAO u) : bAO U := ⟨tAO.moved hvm h.1, tAO.moved hvm h.2.1, bPV.moved hvm h.2.2⟩
