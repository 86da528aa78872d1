/-! THE START: what the Statement gives of a launch, in the layer's words -/
theorem k_X0 : Cond.instantiable RX0 2 ∈ lw_tbl := by decide +kernel
theorem k_X1 : Cond.instantiable RX1 2 ∈ lw_tbl := by decide +kernel
theorem k_X2 : Cond.instantiable RX2 4 ∈ lw_tbl := by decide +kernel
theorem k_X3 : Cond.instantiable RX3 6 ∈ lw_tbl := by decide +kernel
theorem k_X4 : Cond.instantiable RX4 6 ∈ lw_tbl := by decide +kernel
theorem k_X5 : Cond.instantiable RX5 6 ∈ lw_tbl := by decide +kernel
theorem k_X6 : Cond.instantiable RX6 2 ∈ lw_tbl := by decide +kernel
theorem k_X7 : Cond.instantiable RX7 3 ∈ lw_tbl := by decide +kernel
theorem k_X8 : Cond.instantiable RX8 3 ∈ lw_tbl := by decide +kernel
theorem k_X9 : Cond.instantiable RX9 11 ∈ lw_tbl := by decide +kernel
theorem k_X10 : Cond.instantiable RX10 40 ∈ lw_tbl := by decide +kernel
theorem k_aI : Cond.arrayClass .int ∈ lw_tbl := by decide +kernel
theorem k_aP : Cond.arrayOver (.object "MarkPages$Page") ∈ lw_tbl := by decide +kernel
theorem k_aA : Cond.arrayOver (.array .int) ∈ lw_tbl := by decide +kernel
theorem va_K_start {args : Array Value} {s : State} (hts : ∀ w ∈ lw_tbl, w.before args s = true) : ∃ (D : va_G) (c1 c2 c3 : ClassId), va_K D vwCl [(c1, .int), (c2, .object "MarkPages$Page"), (c3, .array .int)] s := by
  obtain ⟨cC0, iS0, kn0⟩ := u_known (C := RX0) (T := TX0) (N := 2) (n := 2) hts in_wsX00 (hts _ k_X0)
  obtain ⟨cC1, iS1, kn1⟩ := u_known (C := RX1) (T := TX1) (N := 2) (n := 2) hts in_wsX10 (hts _ k_X1)
  obtain ⟨cC2, iS2, kn2⟩ := u_known (C := RX2) (T := TX2) (N := 4) (n := 4) hts in_wsX20 (hts _ k_X2)
  obtain ⟨cC3, iS3, kn3⟩ := u_known (C := RX3) (T := TX3) (N := 6) (n := 6) hts in_wsX30 (hts _ k_X3)
  obtain ⟨cC4, iS4, kn4⟩ := u_known (C := RX4) (T := TX4) (N := 6) (n := 6) hts in_wsX40 (hts _ k_X4)
  obtain ⟨cC5, iS5, kn5⟩ := u_known (C := RX5) (T := TX5) (N := 6) (n := 6) hts in_wsX50 (hts _ k_X5)
  obtain ⟨cC6, iS6, kn6⟩ := u_known (C := RX6) (T := TX6) (N := 2) (n := 2) hts in_wsX60 (hts _ k_X6)
  obtain ⟨cC7, iS7, kn7⟩ := u_known (C := RX7) (T := TX7) (N := 3) (n := 3) hts in_wsX70 (hts _ k_X7)
  obtain ⟨cC8, iS8, kn8⟩ := u_known (C := RX8) (T := TX8) (N := 3) (n := 3) hts in_wsX80 (hts _ k_X8)
  obtain ⟨cC9, iS9, kn9⟩ := u_known (C := RX9) (T := TX9) (N := 11) (n := 11) hts in_wsX90 (hts _ k_X9)
  obtain ⟨cC10, iS10, kn10⟩ := u_known (C := RX10) (T := TX10) (N := 40) (n := 40) hts in_wsX100 (hts _ k_X10)
  obtain ⟨c1, kA, comp, h1, h2, h3⟩ := Cond.arrayClass_spec (hts _ k_aI)
  obtain ⟨comp2, c2, kB, p1, -, p3, p4, p5⟩ := Cond.arrayOver_spec (hts _ k_aP)
  obtain ⟨comp3, c3, kC, r1, r3, r4, r5⟩ := Cond.arrayOver_specA (hts _ k_aA)
  refine ⟨(fun k => match k with
    | 0 => cC0
    | 1 => cC1
    | 2 => cC2
    | 3 => cC3
    | 4 => cC4
    | 5 => cC5
    | 6 => cC6
    | 7 => cC7
    | 8 => cC8
    | 9 => cC9
    | _ => cC10, fun k => match k with
    | 0 => iS0
    | 1 => iS1
    | 2 => iS2
    | 3 => iS3
    | 4 => iS4
    | 5 => iS5
    | 6 => iS6
    | 7 => iS7
    | 8 => iS8
    | 9 => iS9
    | _ => iS10), c1, c2, c3, ?_, ?_⟩
  · intro k q hq
    match k, hq with
    | 0, hq => cases hq; exact kn0
    | 1, hq => cases hq; exact kn1
    | 2, hq => cases hq; exact kn2
    | 3, hq => cases hq; exact kn3
    | 4, hq => cases hq; exact kn4
    | 5, hq => cases hq; exact kn5
    | 6, hq => cases hq; exact kn6
    | 7, hq => cases hq; exact kn7
    | 8, hq => cases hq; exact kn8
    | 9, hq => cases hq; exact kn9
    | 10, hq => cases hq; exact kn10
    | k + 11, hq => cases hq
  · intro k q hq
    match k, hq with
    | 0, hq => cases hq; exact ⟨fun n z => ⟨(fun k h => by cases h), kA, h2, comp, h3⟩, h1⟩
    | 1, hq => cases hq; exact ⟨fun n z => ⟨(fun k h => by cases h), kB, p3, comp2, p4⟩, kB, comp2, p3, p4, p1, p5⟩
    | 2, hq => cases hq; exact ⟨fun n z => ⟨(fun k h => by cases h), kC, r3, comp3, r4⟩, r5⟩
    | k + 3, hq => cases hq
abbrev gz_fl : List Cond := flatC (Jvm.Cond.and given_1 narrow_1)
def gzT (i : Nat) : Term := .string "MarkPages$Tokens" (gz_idx.getD i (0, "")).1
/-- where the words on the String constant i begin -/
def gz_at : List Nat := [9, 16, 26, 36, 45, 56, 68, 84, 100, 118, 135]
theorem gzq_1 : ∀ i, i < 11 → gz_fl[gz_at.getD i 0]? = some (Cond.exactly (gzT i) "java/lang/String") := by decide +kernel
theorem gzq_2 : ∀ i, i < 11 → gz_fl[gz_at.getD i 0 + 1]? = some (Cond.eq (.field (gzT i) "java/lang/String" "coder" "B") (.int 0)) := by decide +kernel
theorem gzq_3 : ∀ i, i < 11 → gz_fl[gz_at.getD i 0 + 2]? = some (Cond.arrayOf (.field (gzT i) "java/lang/String" "value" "[B") .byte) := by decide +kernel
theorem gzq_4 : ∀ i, i < 11 → gz_fl[gz_at.getD i 0 + 3]? = some (Cond.eq (.length (.field (gzT i) "java/lang/String" "value" "[B")) (.int (Int32.ofNat (gz_len.getD i 0)))) := by decide +kernel
theorem gzq_5 : ∀ i, i < 11 → ∀ j, j < gz_len.getD i 0 → gz_fl[gz_at.getD i 0 + 4 + j]? = some (Cond.eq (.elem (.field (gzT i) "java/lang/String" "value" "[B") (.int (Int32.ofNat j))) (.int ((gz_byt.getD i []).getD j 0))) := by decide +kernel
theorem gzq_6 : ∀ i, i < 11 → ∀ j, j < i → gz_fl[gz_at.getD i 0 + 4 + gz_len.getD i 0 + j]? = some (Cond.not (Cond.eq (gzT j) (gzT i))) := by decide +kernel
theorem gzq_7 : ∀ i, i < 11 → gz_len.getD i 0 < 2 ^ 31 := by decide +kernel
theorem gzq_8 : ∀ i, i < 11 → Cond.stringRef "MarkPages$Tokens" (gz_idx.getD i (0, "")).1 (gz_idx.getD i (0, "")).2 ∈ lw_tbl := by decide +kernel
theorem gzq_9 : Cond.laysStatic "java/lang/String" "COMPACT_STRINGS" "Z" ∈ lw_tbl ∧ Cond.initialized "java/lang/String" ∈ lw_tbl ∧ Cond.laysStatic "jdk/internal/util/Preconditions" "SIOOBE_FORMATTER" "Ljava/util/function/BiFunction;" ∈ lw_tbl ∧ Cond.initialized "jdk/internal/util/Preconditions" ∈ lw_tbl := by decide +kernel
theorem gzq_10 : gz_fl[4]? = some (Cond.eq (.static "java/lang/String" "COMPACT_STRINGS" "Z") (.int 1)) ∧ gz_fl[5]? = some (Cond.isRef (.static "jdk/internal/util/Preconditions" "SIOOBE_FORMATTER" "Ljava/util/function/BiFunction;")) := by decide +kernel
theorem gz_start {args : Array Value} {s : State} (hts : ∀ w ∈ lw_tbl, w.before args s = true) (hgv : (Jvm.Cond.and given_1 narrow_1).before args s = true) {A : Nat → Prop} (hA : ∀ a : Nat, a < s.heap.size → ¬ A a) (l : Launch) (D : va_G) (cs : ClassId × ClassId × ClassId) : ∃ (aK aV : Nat → Nat), gz (l, D, cs, aK, aV) A s := by
  have hs := flat_of_before _ hgv
  have hm : ∀ {i : Nat} {w : Cond}, gz_fl[i]? = some w → w.before args s = true := fun h => hs _ (List.mem_of_getElem? h)
  obtain ⟨aK, aV, h1, h2⟩ := vk_Sof (args := args) (s := s) (N := 11) (tm := gzT) (len := gz_len) (byt := gz_byt) (A := A) gzq_7 (fun i hi => hm (gzq_1 i hi)) (fun i hi => hm (gzq_2 i hi)) (fun i hi => hm (gzq_3 i hi)) (fun i hi => hm (gzq_4 i hi)) (fun i hi j hj => hm (gzq_5 i hi j hj)) (fun i j hi hj hij => by
    rcases Nat.lt_or_gt_of_ne hij with h | h
    · exact Or.inl (hm (gzq_6 j hj i h))
    · exact Or.inr (hm (gzq_6 i hi j h))) hA
  refine ⟨aK, aV, h1, fun i hi => vk_R.of (hts _ (gzq_8 i hi)) (h2 i hi), ?_, ?_⟩
  · exact va_Zof (hts _ gzq_9.1) (hts _ gzq_9.2.1) (va_eqt (hm gzq_10.1)) hA
  · exact va_Zqof (hts _ gzq_9.2.2.1) (hts _ gzq_9.2.2.2) (hm gzq_10.2) hA
theorem gyq_in : ∀ q ∈ gy_ls, Cond.methodLinkNest q.1 q.2.1 q.2.2 "MarkPages" ∈ lw_tbl := by decide +kernel
theorem gy_start {args : Array Value} {s : State} (hts : ∀ w ∈ lw_tbl, w.before args s = true) : gy s := ⟨fun q hq => va_Nw.of rfl (hts _ (gyq_in q hq)), va_AO.of (hts _ k_aP), hts _ k_aA⟩
/-! what holds of both objects at first -/
theorem mdR_0 (ms sk pt : Nat → Int32) (S : Nat) (r : Nat → Int32) : ∀ p, mdR ms sk pt 0 S r p = (r, 0)
  | 0 => rfl
  | p + 1 => by rw [mdR, if_pos (show mkN sk pt p S 0 = 0 from rfl), mdR_0 ms sk pt S r p]
theorem meV_0 (ms sk pt : Nat → Int32) (S : Nat) : meV ms sk pt 0 S = nI 0 := by rw [meV, mdR_0, if_pos rfl]
theorem inv_0 : inv 0 0 0 [] (fun _ => 0) (fun _ => 0) (flF (-1) (fun _ => 0) 80) (fun _ => 0) (fun _ => 0) (fun _ => 0) (fun _ => 0) (fun _ => 0) (fun _ => 0) (fun _ => 0) (fun _ => 0) (fun _ => 0) (fun _ => 0) (fun _ => 0) (fun _ => 0) (fun _ => 0) (fun _ => 0) (fun _ => 0) (fun _ => 0) (fun _ => 0) (fun _ => 0) (fun _ => 0) := by
  have z : (0 : Int32) = nI 0 := nI_0.symm
  refine ⟨⟨Nat.zero_le _, fun q hq => absurd hq (Nat.not_lt_zero q), fun p q h1 h2 h3 => if_pos (by omega), fun s hs => by rw [meV_0]; exact z⟩, ⟨Nat.zero_le _, fun q hq => absurd hq (Nat.not_lt_zero q)⟩, ⟨fun q _ => ⟨z, Nat.zero_le _⟩, fun q _ => ⟨z, Nat.zero_le _⟩⟩, ⟨Nat.zero_le _, fun i hi => absurd hi (Nat.not_lt_zero i), fun i hi => absurd hi (Nat.not_lt_zero i)⟩, ⟨Nat.zero_le _, fun q _ => z, ⟨fun r hr => absurd hr (Nat.not_lt_zero r), Nat.zero_le _⟩, fun r hr => absurd hr (Nat.not_lt_zero r)⟩, ⟨fun q hq => absurd hq (Nat.not_lt_zero q), fun q hq => absurd hq (Nat.not_lt_zero q), fun q _ => z, fun i hi => absurd hi (Nat.not_lt_zero i)⟩, z, z⟩
