/-! names a row of the rest of the library, so that a round on a new machine is read over the whole of it from its first part on -/
theorem wide_0 {args : Array Value} {s : State} (h : (Cond.arrayOver (.array .int)).before args s = true) : ∃ comp, s.vm.findClass (FieldType.array FieldType.int).toString = some comp := by
  obtain ⟨comp, c, k, h1, -⟩ := Cond.arrayOver_specA h
  exact ⟨comp, h1⟩
