/-! new int[5][5] -/
theorem vr_outer (c : ClassId) (N h0 : Nat) : ∀ i : Nat, Jvm.Free.Multi.outerC c N h0 i = arrV c N (fun j => va_rf (if j < i then some (h0 + 1 + j) else none))
  | 0 => by
    show ({ cls := c, slots := Array.replicate N .null, vm := .none } : Cell) = _
    rw [arrV_new]
    refine congrArg (arrV c N) (funext fun j => ?_)
    simp [va_rf]
  | i + 1 => by
    show (Jvm.Free.Multi.outerC c N h0 i).setSlot i (.ref (h0 + 1 + i)) = _
    rw [vr_outer c N h0 i, arrV_store]
    refine congrArg (arrV c N) (funext fun j => ?_)
    by_cases e : j = i
    · subst e
      simp [updV, va_rf]
    · by_cases h : j < i
      · simp [updV, e, h, Nat.lt_succ_of_lt h]
      · simp [updV, e, h, show ¬ j < i + 1 by omega]
theorem arrV_cong (c : ClassId) {N : Nat} {f g : Nat → Value} (h : ∀ j, j < N → f j = g j) : arrV c N f = arrV c N g := by
  have e : (Array.ofFn (n := N) fun j => f j.val) = (Array.ofFn (n := N) fun j => g j.val) := congrArg Array.ofFn (funext fun j => h j.val j.isLt)
  show ({ cls := c, slots := Array.ofFn (n := N) fun j => f j.val, vm := .none } : Cell) = _
  rw [e]
  rfl
section GM
variable {E : gE} {R : Room} {nL : Nat} {X : gX} {cc : ByteArray} {Ts : List Cond} {own : String} {k n pc : Nat} {ll : List (Option Value)} {rest st : List Value} {ws : va_W}
set_option maxHeartbeats 1000000 in
theorem g_mna (C : gx E X cc nL Ts own) {idx : Nat} (hcl : Cond.classLink own idx "[[I" ∈ Ts) (harr : Cond.arrayClass .int ∈ Ts) (hover : va_AOA .int X.1.2.2.1) (hcells : k + 6 ≤ R.cells) (hslots : n + 30 ≤ R.slots) (d : decode cc pc = .ok (.multianewarray idx 2, 4)) (kk : ∀ (q : Nat) (r : Nat → Nat), gg E R nL X (k + 6) (n + 30) (pc + 4) ll (.ref q :: rest) (ws ++ [gGrid E q 5 (fun i => some (r i)), gA E (r 0) 5 (fun _ => 0), gA E (r 1) 5 (fun _ => 0), gA E (r 2) 5 (fun _ => 0), gA E (r 3) 5 (fun _ => 0), gA E (r 4) 5 (fun _ => 0)])) : gg E R nL X k n pc ll (.int (nI 5) :: .int (nI 5) :: rest) ws := fun H locs ls hP hD hS hl => by
  intro T hT Xs
  have e5 : (nI 5).toNatClampNeg = 5 := by decide
  have es : "[" ++ (FieldType.array FieldType.int).toString = "[[I" := by decide
  have hm := Xs.multianewarray2F (ty := .int) (index := idx) (own := own) C.1 C.2.2.2.1 (by rw [es]; exact C.2.2.2.2.1 _ hcl) (va_AOA.use hover) (C.2.2.2.2.1 _ harr) (g := F0 X.1.2.2.2.1 pc ls (.int (nI 5) :: .int (nI 5) :: rest)) (n := nI 5) (k := nI 5) (rest := rest) rfl (by rw [C.2.1]; exact d) rfl (by decide) (by decide) (by decide) (by decide) (by decide) (by decide) (by decide) (by rw [e5]; exact hcells) (by rw [e5]; exact hslots)
  rw [e5] at hm
  obtain ⟨vm₁, cA, comp, -, fA, fC, hO, -, X', step⟩ := hm
  have c1 : cA = E.2.2.1.2.2 := Option.some.inj (fA.symm.trans (C.2.2.2.2.2.1.2 2 (E.2.2.1.2.2, .array .int) rfl).2)
  have c2 : comp = E.2.2.1.1 := Option.some.inj (fC.symm.trans (C.2.2.2.2.2.1.2 0 (E.2.2.1.1, .int) rfl).2)
  subst c1
  subst c2
  generalize hF : Jvm.Free.Multi.fill (T.setVm vm₁) E.2.2.1.2.2 E.2.2.1.1 5 5 (defaultValue FieldType.int) 5 = F at X' step
  have hTh : (T.setVm vm₁).heap = H := hT
  obtain ⟨f1, f2, -, -⟩ := Jvm.Free.Multi.fill_facts (T.setVm vm₁) E.2.2.1.2.2 E.2.2.1.1 5 5 (defaultValue FieldType.int) 5
  rw [hF, hTh] at f1 f2
  have hold : ∀ x : Nat, x < H.size → F.heap[x]? = H[x]? := fun x hx => by
    have := Jvm.Free.Multi.fill_old (T.setVm vm₁) E.2.2.1.2.2 E.2.2.1.1 5 5 (defaultValue FieldType.int) (a := x) (by rw [hTh]; exact hx) 5
    rw [hF, hTh] at this
    exact this
  have hrow : ∀ j : Nat, j < 5 → F.heap[H.size + 1 + j]? = some (vp_cell E.2.2.1.1 (5, .inl (fun _ => 0))) := fun j hj => by
    have := Jvm.Free.Multi.fill_inner (T.setVm vm₁) E.2.2.1.2.2 E.2.2.1.1 5 5 (defaultValue FieldType.int) 5 j hj
    rw [hF, hTh] at this
    rw [this, vp_cell_i]
    show some ({ cls := _, slots := Array.replicate 5 (.int 0), vm := .none } : Cell) = _
    rw [arrV_new]
  rw [vr_outer, arrV_cong _ (f := fun j => va_rf (if j < 5 then some (H.size + 1 + j) else none)) (g := fun j => va_rf (some (H.size + 1 + j))) (fun j hj => by rw [if_pos hj])] at f2
  have hlt : ∀ q ∈ ws, q.1 < H.size := fun q hq => (va_P_mem.mp hP q hq).lt
  have hP0 : va_P E.2.1 vwCl ws F.heap := hP.kept (fun k9 x hx => hold x.1 ((hP k9 x hx).lt))
  obtain ⟨t, a1, b1⟩ := kk H.size (fun i => H.size + 1 + i) F.heap locs ls (va_P_mem.mpr (fun q hq => by
      rcases List.mem_append.mp hq with h | h
      · exact va_P_mem.mp hP0 q h
      · simp only [List.mem_cons, List.not_mem_nil, or_false] at h
        rcases h with rfl | rfl | rfl | rfl | rfl | rfl
        · exact f2
        · exact hrow 0 (by decide)
        · exact hrow 1 (by decide)
        · exact hrow 2 (by decide)
        · exact hrow 3 (by decide)
        · exact hrow 4 (by decide))) (va_D_nd.mpr ⟨by
      rw [List.map_append]
      refine List.nodup_append.mpr ⟨(va_D_nd.mp hD).1, ?_, ?_⟩
      · simp
        omega
      · intro a ha b hb
        obtain ⟨q, hq, rfl⟩ := List.mem_map.mp ha
        have := hlt q hq
        simp at hb
        omega, fun q hq => by
      rcases List.mem_append.mp hq with h | h
      · exact (va_D_nd.mp hD).2 q h
      · simp only [List.mem_cons, List.not_mem_nil, or_false] at h
        have h1 := hS.1
        rcases h with rfl | rfl | rfl | rfl | rfl | rfl <;> exact C.2.2.2.2.2.2.1 _ (by first | exact h1 | exact Nat.le_trans h1 (Nat.le_trans (Nat.le_add_right _ 1) (Nat.le_add_right _ _)))⟩) ⟨by rw [f1]; have := hS.1; omega, fun x h1 h2 => (hold x (Nat.lt_of_lt_of_le h1 hS.1)).trans (hS.2.1 x h1 h2), hS.2.2⟩ hl F rfl X'
  refine ⟨t, step t ?_, b1⟩
  have e : T.heap.size = H.size := by rw [hT]
  rw [e]
  exact a1
end GM
