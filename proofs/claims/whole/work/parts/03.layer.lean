/-! THE LAYER: one judgement 'gg' for a walk (locals by place, operand stack, cells), one contract 'MM' for a method; each instruction a row between two gg -/
/-- what a launch has: the launch, class numbers and slots, the classes of int[], Page[], int[][], the String constants and their bytes -/
abbrev gE : Type := Launch × va_G × (ClassId × ClassId × ClassId) × (Nat → Nat) × (Nat → Nat)
abbrev gT (E : gE) : List (ClassId × FieldType) := [(E.2.2.1.1, .int), (E.2.2.1.2.1, .object "MarkPages$Page"), (E.2.2.1.2.2, .array .int)]
/-- a row of ints, an object -/
abbrev gA (E : gE) (a N : Nat) (f : Nat → Int32) : Nat × va_E := (a, .inl (E.2.2.1.1, N, .inl f))
abbrev gO (a ci : Nat) (fs : List Value) : Nat × va_E := (a, .inr (ci, fs))
abbrev gRow (E : gE) (a N : Nat) (f : Nat → Option Nat) : Nat × va_E := (a, .inl (E.2.2.1.2.1, N, .inr (.inr (.inr (.inr f)))))
abbrev gGrid (E : gE) (a N : Nat) (f : Nat → Option Nat) : Nat × va_E := (a, .inl (E.2.2.1.2.2, N, .inr (.inr (.inr (.inr f)))))
def gz_len : List Nat := [3, 5, 4, 2, 3, 3, 6, 5, 6, 4, 5]
def gz_byt : List (List Int32) := [[115, 97, 121], [115, 107, 105, 108, 108], [119, 104, 101, 110], [111, 114], [97, 110, 100], [110, 111, 116], [109, 97, 114, 107, 101, 100], [115, 104, 97, 114, 101], [109, 105, 115, 115, 101, 100], [108, 97, 115, 116], [99, 108, 97, 115, 115]]
def gz_idx : List (Nat × String) := [(72, "say"), (74, "skill"), (76, "when"), (78, "or"), (80, "and"), (82, "not"), (84, "marked"), (86, "share"), (88, "missed"), (90, "last"), (92, "class")]
/-- the String constants and the one static, which lie outside all that is written -/
def gz (E : gE) (A : Nat → Prop) (U : State) : Prop :=
  vk_S 11 gz_len gz_byt E.2.2.2.1 E.2.2.2.2 A U U.heap ∧ (∀ i : Nat, i < 11 → vk_R "MarkPages$Tokens" (gz_idx.getD i (0, "")).1 (gz_idx.getD i (0, "")).2 (E.2.2.2.1 i) U) ∧ va_Z "java/lang/String" "COMPACT_STRINGS" "Z" (.int 1) A U U.heap ∧ va_Zq "jdk/internal/util/Preconditions" "SIOOBE_FORMATTER" "Ljava/util/function/BiFunction;" A U U.heap
theorem gz.call {E : gE} {A B : Nat → Prop} {s U : State} {H : Heap} {locs : List Loc} (h : gz E A s) (hS : va_S A s.heap H locs) (hU : U.heap = H) (hW : s.WarmedH U.vm) (hAB : ∀ q, B q → A q) : gz E B U := by
  subst hU
  refine ⟨?_, fun i hi => (h.2.1 i hi).warm hW, ?_, ?_⟩
  · exact ((h.1.kept (H1 := U.heap) (fun a h1 h2 => hS.2.1 a h1 h2)).moved hW.alike).narrow hAB
  · exact ((h.2.2.1.kept (H1 := U.heap) (fun a h1 h2 => hS.2.1 a h1 h2)).moved hW.alike).narrow hAB
  · exact ((h.2.2.2.kept (H1 := U.heap) (fun a h1 h2 => hS.2.1 a h1 h2)).moved hW.alike).narrow hAB
theorem gz.blind {E : gE} {A : Nat → Prop} {U : State} (g : JFrame) (mk : MethodId) (a : Array Value) (h : gz E A U) : gz E A (U.calling g mk a) :=
  ⟨vk_S.moved (u := U) (U := U.calling g mk a) (Vm.Alike.refl U.vm) h.1, fun i hi => vk_R.same (u := U) (U := U.calling g mk a) rfl (h.2.1 i hi), va_Z.moved (u := U) (U := U.calling g mk a) (Vm.Alike.refl U.vm) h.2.2.1, va_Zq.moved (u := U) (U := U.calling g mk a) (Vm.Alike.refl U.vm) h.2.2.2⟩
/-- a walk's context: program, env, state at entry, method, arguments, below, method, code; which cells it may change; what it is to reach -/
abbrev gX : Type := (Program × Env × State × MethodId × Array Value × List Frame × Method × Code) × (Nat → Prop) × (State → Prop)
abbrev gs (X : gX) : State := X.1.2.2.1
abbrev gW (E : gE) (R : Room) (X : gX) (H : Heap) (locs : List Loc) (k n : Nat) (f : JFrame) : Prop := W X.1.1 E.1 X.1.2.1 R X.1.2.2.1 X.1.2.2.2.1 X.1.2.2.2.2.1 X.1.2.2.2.2.2.1 X.1.2.2.2.2.2.2.1 X.1.2.2.2.2.2.2.2 H locs k n X.2.2 f
def gx (E : gE) (X : gX) (cc : ByteArray) (nL : Nat) (Ts : List Cond) (own : String) : Prop :=
  X.1.1.tables.exec = Jvm.exec ∧ X.1.2.2.2.2.2.2.2.code = cc ∧ X.1.2.2.2.2.2.2.2.maxLocals = nL ∧ X.1.2.2.1.vm.findClass own = some X.1.2.2.2.1.cls ∧ (∀ w ∈ Ts, w.before X.1.2.2.2.2.1 X.1.2.2.1 = true) ∧ va_K E.2.1 vwCl (gT E) X.1.2.2.1 ∧ (∀ q, X.1.2.2.1.heap.size ≤ q → X.2.1 q) ∧ X.1.2.2.2.2.2.2.1.locks = false ∧ gz E X.2.1 X.1.2.2.1
/-- locals by their places -/
def gl_ps : Nat → List (Option Value) → List (Nat × Value)
  | _, [] => []
  | i, none :: t => gl_ps (i + 1) t
  | i, some v :: t => (i, v) :: gl_ps (i + 1) t
theorem gl_mem : ∀ (ll : List (Option Value)) (b i : Nat) (v : Value), (i, v) ∈ gl_ps b ll ↔ ∃ j, i = b + j ∧ ll[j]? = some (some v)
  | [], b, i, v => by simp [gl_ps]
  | none :: t, b, i, v => by
    rw [gl_ps, gl_mem t (b + 1) i v]
    constructor
    · rintro ⟨j, h1, h2⟩
      exact ⟨j + 1, by omega, by simpa using h2⟩
    · rintro ⟨j, h1, h2⟩
      cases j with
      | zero => simp at h2
      | succ j => exact ⟨j, by omega, by simpa using h2⟩
  | some w :: t, b, i, v => by
    rw [gl_ps, List.mem_cons, gl_mem t (b + 1) i v]
    constructor
    · rintro (h | ⟨j, h1, h2⟩)
      · cases h
        exact ⟨0, by omega, by simp⟩
      · exact ⟨j + 1, by omega, by simpa using h2⟩
    · rintro ⟨j, h1, h2⟩
      cases j with
      | zero =>
        left
        have h3 : w = v := by simpa using h2
        rw [h3, h1]
        rfl
      | succ j => exact Or.inr ⟨j, by omega, by simpa using h2⟩
def gl_has (ls : Array Slot) (nL : Nat) (ll : List (Option Value)) : Prop := lv_has ls nL (gl_ps 0 ll)
theorem gl_at {ls : Array Slot} {nL : Nat} {ll : List (Option Value)} (h : gl_has ls nL ll) {i : Nat} {v : Value} (hv : ll[i]? = some (some v)) : ls[i]? = some (.val v) :=
  h.2.2 (i, v) ((gl_mem ll 0 i v).mpr ⟨i, by omega, hv⟩)
theorem gl_less {ls : Array Slot} {nL : Nat} {ll ll' : List (Option Value)} (h : gl_has ls nL ll) (hv : ∀ (i : Nat) (v : Value), ll'[i]? = some (some v) → ll[i]? = some (some v)) : gl_has ls nL ll' :=
  ⟨h.1, h.2.1, fun q hq => by
    obtain ⟨i, v⟩ := q
    obtain ⟨j, h1, h2⟩ := (gl_mem ll' 0 i v).mp hq
    rw [Nat.zero_add] at h1
    subst h1
    exact gl_at h (hv i v h2)⟩
/-- no long stands just ahead of place i -/
def gl_ok (ll : List (Option Value)) (i : Nat) : Bool := match i with
  | 0 => true
  | i + 1 => match ll[i]? with
    | some (some v) => v.category == 1
    | _ => true
theorem gl_set1 {ls : Array Slot} {nL i : Nat} {ll : List (Option Value)} {x : Value} (hok : gl_ok ll i = true) (h : lv_has ls nL ((i, x) :: (gl_ps 0 ll).filter (fun q => !(q.1 == i) && !(q.1 + 1 == i && q.2.category == 2)))) : gl_has ls nL (ll.set i (some x)) := by
  refine ⟨h.1, h.2.1, fun q hq => ?_⟩
  obtain ⟨j, v⟩ := q
  obtain ⟨j', h1, h2⟩ := (gl_mem _ 0 j v).mp hq
  rw [Nat.zero_add] at h1
  subst h1
  apply h.2.2
  by_cases e : j = i
  · subst e
    rw [List.getElem?_set] at h2
    simp only [if_true] at h2
    split at h2
    · cases h2
      exact List.mem_cons_self
    · cases h2
  · rw [List.getElem?_set_ne (Ne.symm e)] at h2
    refine List.mem_cons_of_mem _ (List.mem_filter.mpr ⟨(gl_mem ll 0 j v).mpr ⟨j, by omega, h2⟩, ?_⟩)
    have h3 : ¬ (j + 1 = i ∧ v.category = 2) := by
      rintro ⟨h4, h5⟩
      subst h4
      simp [gl_ok, h2] at hok
      omega
    simp only [Bool.and_eq_true, Bool.not_eq_true', beq_eq_false_iff_ne, ne_eq, Bool.and_eq_false_iff]
    refine ⟨e, ?_⟩
    by_cases h4 : j + 1 = i
    · right
      exact fun h5 => h3 ⟨h4, h5⟩
    · left
      exact h4
theorem gl_set2 {ls : Array Slot} {nL i : Nat} {ll : List (Option Value)} {x : Value} (hok : gl_ok ll i = true) (h : lv_has ls nL ((i, x) :: (gl_ps 0 ll).filter (fun q => !(q.1 == i) && (!(q.1 == i + 1) && !(q.1 + 1 == i && q.2.category == 2))))) : gl_has ls nL ((ll.set i (some x)).set (i + 1) none) := by
  refine ⟨h.1, h.2.1, fun q hq => ?_⟩
  obtain ⟨j, v⟩ := q
  obtain ⟨j', h1, h2⟩ := (gl_mem _ 0 j v).mp hq
  rw [Nat.zero_add] at h1
  subst h1
  apply h.2.2
  by_cases e2 : j = i + 1
  · subst e2
    rw [List.getElem?_set] at h2
    simp only [if_true] at h2
    split at h2
    · cases h2
    · cases h2
  rw [List.getElem?_set_ne (Ne.symm e2)] at h2
  by_cases e : j = i
  · subst e
    rw [List.getElem?_set] at h2
    simp only [if_true] at h2
    split at h2
    · cases h2
      exact List.mem_cons_self
    · cases h2
  · rw [List.getElem?_set_ne (Ne.symm e)] at h2
    refine List.mem_cons_of_mem _ (List.mem_filter.mpr ⟨(gl_mem ll 0 j v).mpr ⟨j, by omega, h2⟩, ?_⟩)
    have h3 : ¬ (j + 1 = i ∧ v.category = 2) := by
      rintro ⟨h4, h5⟩
      subst h4
      simp [gl_ok, h2] at hok
      omega
    simp only [Bool.and_eq_true, Bool.not_eq_true', beq_eq_false_iff_ne, ne_eq, Bool.and_eq_false_iff]
    refine ⟨e, e2, ?_⟩
    by_cases h4 : j + 1 = i
    · right
      exact fun h5 => h3 ⟨h4, h5⟩
    · left
      exact h4
/-- THE JUDGEMENT: at pc, with these locals, this stack and these cells, the walk comes to its end; k cells of n slots were made -/
def gg (E : gE) (R : Room) (nL : Nat) (X : gX) (k n pc : Nat) (ll : List (Option Value)) (st : List Value) (ws : va_W) : Prop :=
  ∀ (H : Heap) (locs : List Loc) (ls : Array Slot), va_P E.2.1 vwCl ws H → va_D X.2.1 ws → va_S X.2.1 X.1.2.2.1.heap H locs → gl_has ls nL ll → gW E R X H locs k n (F0 X.1.2.2.2.1 pc ls st)
/-- a method's start, end, contract -/
def mmP (E : gE) (WS : va_W) (sz : Nat) : State → Prop := fun U => U.heap.size = sz ∧ va_P E.2.1 vwCl WS U.heap ∧ va_K E.2.1 vwCl (gT E) U ∧ va_D (fun _ => True) WS ∧ gz E (va_A WS sz) U
def mmQ (E : gE) (WS : va_W) (sz : Nat) (post : Option Value → va_W → Prop) : Array Value → State → Outcome → State → Prop := fun _ st oc t =>
  (∃ (v : Option Value) (u : va_W), oc = .returned v ∧ post v u ∧ va_P E.2.1 vwCl u t.heap ∧ va_D (va_A WS sz) u) ∧ va_F (va_A WS sz) st t
def MM (E : gE) (y : MethodName) (w : List Cond) (rm : Room) (as : List Value) (WS : va_W) (post : Option Value → va_W → Prop) : Prop :=
  ∀ sz : Nat, Met E.1 y w rm (va_Pc as (mmP E WS sz)) (mmQ E WS sz post) rm.cells rm.slots (va_A WS sz)
/-- what a return needs -/
def gr (E : gE) (R : Room) (X : gX) (ret : Option FieldType) (post : Option Value → va_W → Prop) : Prop :=
  ∃ (WS : va_W) (sz : Nat), X.2.1 = va_A WS sz ∧ X.2.2 = MQ X.1.2.2.2.2.2.1 (mmQ E WS sz post) X.1.2.2.2.2.1 X.1.2.2.1 R.cells R.slots (va_A WS sz) ∧ X.1.2.2.2.2.2.2.1.sig.returnType = ret
theorem MM.ofG {E : gE} {y : MethodName} {w w' : List Cond} {rm : Room} {as : List Value} {WS : va_W} {post : Option Value → va_W → Prop} {cc : ByteArray} {maxL : Nat} {ret : Option FieldType} (hy : plainName y.cls = true) (hw : w = Cond.code y cc maxL ret :: w') (hlen : (lg_sl as).length ≤ maxL)
    {ll : List (Option Value)} (hll : gl_ps 0 ll = lv_args 0 as) (body : ∀ X : gX, gx E X cc maxL w y.cls → gr E rm X ret post → gg E rm maxL X 0 0 0 ll [] WS) : MM E y w rm as WS post := by
  intro sz
  refine Met.ofW (cc := cc) (maxL := maxL) (ret := ret) hy hw ?_
  intro p e s m args below meth c s₁ B hml hv
  obtain ⟨rfl, hsz, hP, hK, hD0, hZ⟩ := hv
  subst hsz
  have hb := body ((p, e, s, m, as.toArray, below, meth, c), va_A WS s.heap.size, MQ below (mmQ E WS s.heap.size post) as.toArray s rm.cells rm.slots (va_A WS s.heap.size))
    ⟨B.exec, B.bytes, hml, findClass_of_methodNamed B.named, atoms_spec (ws := w) B.pre, hK, fun q h => Or.inr h, B.notSynchronized, hZ⟩ ⟨WS, s.heap.size, rfl, rfl, B.returns⟩
  have hl := lv_entry as (n := maxL) hlen
  rw [lg_entry_eq]
  exact hb s.heap [] _ hP hD0.self va_S.rf (by rw [gl_has, hll]; exact hl)
section GR
variable {E : gE} {R : Room} {nL : Nat} {X : gX} {cc : ByteArray} {Ts : List Cond} {own : String} {k n pc : Nat} {ll : List (Option Value)} {rest st : List Value} {ws : va_W}
theorem gg.widen {k2 n2 : Nat} (h1 : k ≤ k2) (h2 : n ≤ n2) (kk : gg E R nL X k2 n2 pc ll st ws) : gg E R nL X k n pc ll st ws := fun H locs ls a b c d => W.widen h1 h2 (kk H locs ls a b c d)
theorem gg.perm {ws' : va_W} (is : List Nat) (hn : va_nd is = true) (hs : is.map (fun i => ws[i]?) = ws'.map some) (kk : gg E R nL X k n pc ll st ws') : gg E R nL X k n pc ll st ws := fun H locs ls a b c d => kk H locs ls (a.sub is (by
  have e : is.filterMap (fun i => ws[i]?) = (is.map (fun i => ws[i]?)).filterMap id := by rw [List.filterMap_map]; rfl
  rw [e, hs, List.filterMap_map]
  exact List.filterMap_some)) (b.sub is hn hs) c d
theorem gg.less {ll' : List (Option Value)} (hv : ∀ (i : Nat) (v : Value), ll'[i]? = some (some v) → ll[i]? = some (some v)) (kk : gg E R nL X k n pc ll' st ws) : gg E R nL X k n pc ll st ws := fun H locs ls a b c d => kk H locs ls a b c (gl_less d hv)
/-- addresses of the world are apart -/
theorem gg.apart (i j : Nat) (hij : i ≠ j) {p q : Nat × va_E} (hi : ws[i]? = some p) (hj : ws[j]? = some q) (kk : p.1 ≠ q.1 → gg E R nL X k n pc ll st ws) : gg E R nL X k n pc ll st ws := fun H locs ls a b c d => kk (fun e => hij (b.1 i j p q hi hj e)) H locs ls a b c d
-- constants, locals
theorem g_iconst (C : gx E X cc nL Ts own) {z : Int} {v : Int32} (d : decode cc pc = .ok (.iconst z, 1)) (hv : Int32.ofInt z = v) (kk : gg E R nL X k n (pc + 1) ll (.int v :: rest) ws) : gg E R nL X k n pc ll rest ws := fun H locs ls a b c h => lv_iconst C.1 C.2.1 d hv (kk H locs ls a b c h)
theorem g_bipush (C : gx E X cc nL Ts own) {z : Int} {v : Int32} (d : decode cc pc = .ok (.bipush z, 2)) (hv : (Int8.ofInt z).toInt32 = v) (kk : gg E R nL X k n (pc + 2) ll (.int v :: rest) ws) : gg E R nL X k n pc ll rest ws := fun H locs ls a b c h => lv_bipush C.1 C.2.1 d hv (kk H locs ls a b c h)
theorem g_sipush (C : gx E X cc nL Ts own) {z : Int} {v : Int32} (d : decode cc pc = .ok (.sipush z, 3)) (hv : (Int16.ofInt z).toInt32 = v) (kk : gg E R nL X k n (pc + 3) ll (.int v :: rest) ws) : gg E R nL X k n pc ll rest ws := fun H locs ls a b c h => lv_sipush C.1 C.2.1 d hv (kk H locs ls a b c h)
theorem g_lconst (C : gx E X cc nL Ts own) {z : Fin 2} {v : Int64} (d : decode cc pc = .ok (.lconst z, 1)) (hv : Int64.ofNat (z : Nat) = v) (kk : gg E R nL X k n (pc + 1) ll (.long v :: rest) ws) : gg E R nL X k n pc ll rest ws := fun H locs ls a b c h => lv_lconst C.1 C.2.1 d hv (kk H locs ls a b c h)
theorem g_ldc (C : gx E X cc nL Ts own) {idx : Nat} {v : Int32} (hw : Cond.constant own idx v ∈ Ts) (d : decode cc pc = .ok (.ldc idx, 2)) (kk : gg E R nL X k n (pc + 2) ll (.int v :: rest) ws) : gg E R nL X k n pc ll rest ws := fun H locs ls a b c h => lv_ldc C.1 C.2.1 C.2.2.2.1 (C.2.2.2.2.1 _ hw) d (kk H locs ls a b c h)
theorem g_ldcw (C : gx E X cc nL Ts own) {idx : Nat} {v : Int32} (hw : Cond.constant own idx v ∈ Ts) (d : decode cc pc = .ok (.ldc_w idx, 3)) (kk : gg E R nL X k n (pc + 3) ll (.int v :: rest) ws) : gg E R nL X k n pc ll rest ws := fun H locs ls a b c h => lv_ldcw C.1 C.2.1 C.2.2.2.1 (C.2.2.2.2.1 _ hw) d (kk H locs ls a b c h)
theorem g_ldc2 (C : gx E X cc nL Ts own) {idx : Nat} {v : Int64} (hw : Cond.constantLong own idx v ∈ Ts) (d : decode cc pc = .ok (.ldc2_w idx, 3)) (kk : gg E R nL X k n (pc + 3) ll (.long v :: rest) ws) : gg E R nL X k n pc ll rest ws := fun H locs ls a b c h => lv_ldc2 C.1 C.2.1 C.2.2.2.1 (C.2.2.2.2.1 _ hw) d (kk H locs ls a b c h)
theorem g_iload_n (C : gx E X cc nL Ts own) {z : Fin 4} {x : Int32} (d : decode cc pc = .ok (.iload_n z, 1)) (hv : ll[(z : Nat)]? = some (some (.int x))) (kk : gg E R nL X k n (pc + 1) ll (.int x :: rest) ws) : gg E R nL X k n pc ll rest ws := fun H locs ls a b c h => lv_iload_n C.1 C.2.1 d rfl (gl_at h hv) (kk H locs ls a b c h)
theorem g_iload (C : gx E X cc nL Ts own) {i : Nat} {x : Int32} (d : decode cc pc = .ok (.iload i, 2)) (hv : ll[i]? = some (some (.int x))) (kk : gg E R nL X k n (pc + 2) ll (.int x :: rest) ws) : gg E R nL X k n pc ll rest ws := fun H locs ls a b c h => lv_iload C.1 C.2.1 d (gl_at h hv) (kk H locs ls a b c h)
theorem g_lload_n (C : gx E X cc nL Ts own) {z : Fin 4} {x : Int64} (d : decode cc pc = .ok (.lload_n z, 1)) (hv : ll[(z : Nat)]? = some (some (.long x))) (kk : gg E R nL X k n (pc + 1) ll (.long x :: rest) ws) : gg E R nL X k n pc ll rest ws := fun H locs ls a b c h => lv_lload_n C.1 C.2.1 d rfl (gl_at h hv) (kk H locs ls a b c h)
theorem g_aload_n (C : gx E X cc nL Ts own) {z : Fin 4} {x : Nat} (d : decode cc pc = .ok (.aload_n z, 1)) (hv : ll[(z : Nat)]? = some (some (.ref x))) (kk : gg E R nL X k n (pc + 1) ll (.ref x :: rest) ws) : gg E R nL X k n pc ll rest ws := fun H locs ls a b c h => lv_aload_n C.1 C.2.1 d rfl (gl_at h hv) (kk H locs ls a b c h)
theorem g_aload (C : gx E X cc nL Ts own) {i : Nat} {x : Nat} (d : decode cc pc = .ok (.aload i, 2)) (hv : ll[i]? = some (some (.ref x))) (kk : gg E R nL X k n (pc + 2) ll (.ref x :: rest) ws) : gg E R nL X k n pc ll rest ws := fun H locs ls a b c h => lv_aload C.1 C.2.1 d (gl_at h hv) (kk H locs ls a b c h)
theorem g_istore_n (C : gx E X cc nL Ts own) {z : Fin 4} {x : Int32} (d : decode cc pc = .ok (.istore_n z, 1)) (hn : (z : Nat) < nL) (hok : gl_ok ll (z : Nat) = true) {ll' : List (Option Value)} (hl : ll.set (z : Nat) (some (.int x)) = ll') (kk : gg E R nL X k n (pc + 1) ll' rest ws) : gg E R nL X k n pc ll (.int x :: rest) ws := fun H locs ls a b c h => lv_istore_n C.1 C.2.1 d rfl h hn rfl (fun ls' h' => kk H locs ls' a b c (hl ▸ gl_set1 hok h'))
theorem g_istore (C : gx E X cc nL Ts own) {i : Nat} {x : Int32} (d : decode cc pc = .ok (.istore i, 2)) (hn : i < nL) (hok : gl_ok ll i = true) {ll' : List (Option Value)} (hl : ll.set i (some (.int x)) = ll') (kk : gg E R nL X k n (pc + 2) ll' rest ws) : gg E R nL X k n pc ll (.int x :: rest) ws := fun H locs ls a b c h => lv_istore C.1 C.2.1 d h hn rfl (fun ls' h' => kk H locs ls' a b c (hl ▸ gl_set1 hok h'))
theorem g_lstore_n (C : gx E X cc nL Ts own) {z : Fin 4} {x : Int64} (d : decode cc pc = .ok (.lstore_n z, 1)) (hn : (z : Nat) + 1 < nL) (hok : gl_ok ll (z : Nat) = true) {ll' : List (Option Value)} (hl : (ll.set (z : Nat) (some (.long x))).set ((z : Nat) + 1) none = ll') (kk : gg E R nL X k n (pc + 1) ll' rest ws) : gg E R nL X k n pc ll (.long x :: rest) ws := fun H locs ls a b c h => lv_lstore_n C.1 C.2.1 d rfl h hn rfl (fun ls' h' => kk H locs ls' a b c (hl ▸ gl_set2 hok h'))
theorem g_astore_n (C : gx E X cc nL Ts own) {z : Fin 4} {x : Nat} (d : decode cc pc = .ok (.astore_n z, 1)) (hn : (z : Nat) < nL) (hok : gl_ok ll (z : Nat) = true) {ll' : List (Option Value)} (hl : ll.set (z : Nat) (some (.ref x)) = ll') (kk : gg E R nL X k n (pc + 1) ll' rest ws) : gg E R nL X k n pc ll (.ref x :: rest) ws := fun H locs ls a b c h => lv_astore_n C.1 C.2.1 d rfl h hn rfl (fun ls' h' => kk H locs ls' a b c (hl ▸ gl_set1 hok h'))
theorem g_astore (C : gx E X cc nL Ts own) {i : Nat} {x : Nat} (d : decode cc pc = .ok (.astore i, 2)) (hn : i < nL) (hok : gl_ok ll i = true) {ll' : List (Option Value)} (hl : ll.set i (some (.ref x)) = ll') (kk : gg E R nL X k n (pc + 2) ll' rest ws) : gg E R nL X k n pc ll (.ref x :: rest) ws := fun H locs ls a b c h => lv_astore C.1 C.2.1 d h hn rfl (fun ls' h' => kk H locs ls' a b c (hl ▸ gl_set1 hok h'))
theorem g_iinc (C : gx E X cc nL Ts own) {i : Nat} {z : Int} {x v : Int32} (d : decode cc pc = .ok (.iinc i z, 3)) (hx : ll[i]? = some (some (.int x))) (hv : x + Int32.ofInt z = v) (hn : i < nL) (hok : gl_ok ll i = true) {ll' : List (Option Value)} (hl : ll.set i (some (.int v)) = ll') (kk : gg E R nL X k n (pc + 3) ll' rest ws) : gg E R nL X k n pc ll rest ws := fun H locs ls a b c h => by
  have hm : (i, Value.int x) ∈ gl_ps 0 ll := (gl_mem ll 0 i _).mpr ⟨i, by omega, hx⟩
  obtain ⟨j, hj⟩ := List.getElem?_of_mem hm
  exact lv_iinc C.1 C.2.1 d h hj hv hn rfl (fun ls' h' => kk H locs ls' a b c (hl ▸ gl_set1 hok h'))
end GR
