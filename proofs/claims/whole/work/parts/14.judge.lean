/-! THE JUDGE: a rule's code as tokens in postfix order; its stack as a list (the top first); what class and reference reckon with it -/
theorem ne_toInt {x : Int32} {k : Nat} (hk : k < 2147483648) (h : ¬ x = nI k) : x.toInt ≠ (k : Int) := fun e => h ((fa_eq _ _).mpr (by rw [nI_toInt hk]; exact e))
def stk (pi : Nat → Int32) : Nat → List Int32
  | 0 => []
  | n + 1 => pi n :: stk pi n
theorem stk_upd {pi : Nat → Int32} {m : Nat} {x : Int32} : ∀ {n : Nat}, n ≤ m → stk (upd pi m x) n = stk pi n
  | 0, _ => rfl
  | n + 1, h => by
    rw [stk, stk, stk_upd (show n ≤ m by omega)]
    simp [upd, show ¬ n = m by omega]
theorem stk_push (pi : Nat → Int32) (n : Nat) (x : Int32) : stk (upd pi n x) (n + 1) = x :: stk pi n := by
  rw [stk, stk_upd (Nat.le_refl n)]
  simp [upd]
theorem stk_top {pi : Nat → Int32} {n : Nat} (h : 0 < n) : stk pi n = pi (n - 1) :: stk pi (n - 1) := by
  obtain ⟨k, rfl⟩ : ∃ k, n = k + 1 := ⟨n - 1, by omega⟩
  rfl
/-- two values joined by a token -/
def jOp (t l r : Int32) : Int32 :=
  if t = nI 1004 then l &&& r else if t = nI 1143 then l + r else if t = nI 1145 then l - r else if t = nI 1160 then (if r ≤ l then nI 0 else nI 1) else if t = nI 1161 then (if l = r then nI 1 else nI 0) else if t = nI 1162 then (if l ≤ r then nI 0 else nI 1) else l ||| r
def jNot : List Int32 → List Int32
  | a :: S => (if a = 0 then nI 1 else nI 0) :: S
  | [] => []
def jBin (t : Int32) : List Int32 → List Int32
  | r :: l :: S => jOp t l r :: S
  | S => S
/-- one token on the stack -/
def jS (io : Nat → Int32) (t : Int32) (S : List Int32) : List Int32 :=
  if ¬ nI 999 < t then t :: S else if ¬ t < nI 1006 ∧ ¬ nI 1010 < t then io (t.toNatClampNeg - 1006) :: S else if t = nI 1005 then jNot S else jBin t S
/-- kinds of the stack's values: truths (true), numbers (false); none where a token can't stand, or where the stack would pass 32 -/
def tyN : List Bool → Option (List Bool)
  | true :: T => some (true :: T)
  | _ => none
def tyB (t : Int32) : List Bool → Option (List Bool)
  | r :: l :: T => if (t = nI 1143 ∨ t = nI 1145) ∧ r = false ∧ l = false then some (false :: T) else if (t = nI 1160 ∨ t = nI 1161 ∨ t = nI 1162) ∧ r = false ∧ l = false then some (true :: T) else if (t = nI 1004 ∨ t = nI 1003) ∧ r = true ∧ l = true then some (true :: T) else none
  | _ => none
def tyS (t : Int32) (T : List Bool) : Option (List Bool) :=
  if ¬ nI 999 < t then (if T.length < 32 ∧ ¬ t < 0 then some (false :: T) else none) else if ¬ t < nI 1006 ∧ ¬ nI 1010 < t then (if T.length < 32 then some (false :: T) else none) else if t = nI 1005 then (if T.length ≤ 32 then tyN T else none) else (if T.length ≤ 32 then tyB t T else none)
theorem tyS_num {t : Int32} {T T2 : List Bool} (h : ¬ nI 999 < t) (hT : tyS t T = some T2) : T.length < 32 ∧ ¬ t < 0 ∧ T2 = false :: T := by
  rw [tyS, if_pos h] at hT
  split at hT
  · next q => exact ⟨q.1, q.2, by cases hT; rfl⟩
  · cases hT
theorem tyS_mea {t : Int32} {T T2 : List Bool} (h0 : nI 999 < t) (h : ¬ t < nI 1006 ∧ ¬ nI 1010 < t) (hT : tyS t T = some T2) : T.length < 32 ∧ T2 = false :: T := by
  rw [tyS, if_neg (fun z => z h0), if_pos h] at hT
  split at hT
  · next q => exact ⟨q, by cases hT; rfl⟩
  · cases hT
theorem tyN_inv {T T2 : List Bool} (h : tyN T = some T2) : ∃ U, T = true :: U ∧ T2 = true :: U := by
  match T, h with
  | true :: U, h => cases h; exact ⟨U, rfl, rfl⟩
theorem tyB_inv {t : Int32} {T T2 : List Bool} (h : tyB t T = some T2) : ∃ r l U b, T = r :: l :: U ∧ T2 = b :: U ∧ (((t = nI 1143 ∨ t = nI 1145) ∧ r = false ∧ l = false ∧ b = false) ∨ ((t = nI 1160 ∨ t = nI 1161 ∨ t = nI 1162) ∧ r = false ∧ l = false ∧ b = true) ∨ ((t = nI 1004 ∨ t = nI 1003) ∧ r = true ∧ l = true ∧ b = true)) := by
  match T, h with
  | r :: l :: U, h =>
    rw [tyB] at h
    split at h
    · next q => cases h; exact ⟨r, l, U, false, rfl, rfl, Or.inl ⟨q.1, q.2.1, q.2.2, rfl⟩⟩
    · split at h
      · next q => cases h; exact ⟨r, l, U, true, rfl, rfl, Or.inr (Or.inl ⟨q.1, q.2.1, q.2.2, rfl⟩)⟩
      · split at h
        · next q => cases h; exact ⟨r, l, U, true, rfl, rfl, Or.inr (Or.inr ⟨q.1, q.2.1, q.2.2, rfl⟩)⟩
        · cases h
theorem tyS_not {t : Int32} {T T2 : List Bool} (h : t = nI 1005) (hT : tyS t T = some T2) : T.length ≤ 32 ∧ ∃ U, T = true :: U ∧ T2 = true :: U := by
  subst h
  rw [tyS, if_neg (by decide), if_neg (by decide), if_pos rfl] at hT
  split at hT
  · next q => exact ⟨q, tyN_inv hT⟩
  · cases hT
theorem tyS_bin {t : Int32} {T T2 : List Bool} (h0 : nI 999 < t) (h1 : ¬ (¬ t < nI 1006 ∧ ¬ nI 1010 < t)) (h2 : ¬ t = nI 1005) (hT : tyS t T = some T2) : T.length ≤ 32 ∧ tyB t T = some T2 := by
  rw [tyS, if_neg (fun z => z h0), if_neg h1, if_neg h2] at hT
  split at hT
  · next q => exact ⟨q, hT⟩
  · cases hT
/-- the first k tokens from a on -/
def jR (io co : Nat → Int32) (a : Nat) : Nat → List Int32
  | 0 => []
  | k + 1 => jS io (co (a + k)) (jR io co a k)
def tyR (co : Nat → Int32) (a : Nat) : Nat → Option (List Bool)
  | 0 => some []
  | k + 1 => (tyR co a k).bind (tyS (co (a + k)))
theorem tyR_step {co : Nat → Int32} {a k : Nat} {T2 : List Bool} (h : tyR co a (k + 1) = some T2) : ∃ T, tyR co a k = some T ∧ tyS (co (a + k)) T = some T2 := by
  rw [tyR] at h
  exact Option.bind_eq_some_iff.mp h
theorem tyR_pre {co : Nat → Int32} {a k : Nat} : ∀ {n : Nat} {T2 : List Bool}, k ≤ n → tyR co a n = some T2 → ∃ T, tyR co a k = some T
  | 0, T2, hk, h => ⟨T2, by rw [show k = 0 by omega]; exact h⟩
  | n + 1, T2, hk, h => by
    by_cases e : k = n + 1
    · subst e
      exact ⟨T2, h⟩
    · obtain ⟨T, h1, -⟩ := tyR_step h
      exact tyR_pre (show k ≤ n by omega) h1
def jV (io co : Nat → Int32) (a n : Nat) : Int32 := (jR io co a n).headD 0
/-- values fit their kinds -/
def kiS : List Int32 → List Bool → Prop
  | [], [] => True
  | x :: S, b :: T => (b = true → x = nI 0 ∨ x = nI 1) ∧ kiS S T
  | _, _ => False
theorem b01_or {x y : Int32} (hx : x = nI 0 ∨ x = nI 1) (hy : y = nI 0 ∨ y = nI 1) : (x ||| y = nI 0 ∨ x ||| y = nI 1) ∧ (x &&& y = nI 0 ∨ x &&& y = nI 1) := by
  rcases hx with rfl | rfl <;> rcases hy with rfl | rfl <;> decide
theorem kiS_step {io : Nat → Int32} {t : Int32} {S : List Int32} {T T2 : List Bool} (h : kiS S T) (hT : tyS t T = some T2) : kiS (jS io t S) T2 := by
  by_cases h0 : ¬ nI 999 < t
  · obtain ⟨-, -, rfl⟩ := tyS_num h0 hT
    rw [jS, if_pos h0]
    exact ⟨fun z => (by cases z), h⟩
  · have h0' := Classical.not_not.mp h0
    by_cases h1 : ¬ t < nI 1006 ∧ ¬ nI 1010 < t
    · obtain ⟨-, rfl⟩ := tyS_mea h0' h1 hT
      rw [jS, if_neg h0, if_pos h1]
      exact ⟨fun z => (by cases z), h⟩
    · by_cases h2 : t = nI 1005
      · obtain ⟨-, U, rfl, rfl⟩ := tyS_not h2 hT
        rw [jS, if_neg h0, if_neg h1, if_pos h2]
        match S, h with
        | a :: S, h =>
          refine ⟨fun _ => ?_, h.2⟩
          show (if a = 0 then nI 1 else nI 0) = nI 0 ∨ (if a = 0 then nI 1 else nI 0) = nI 1
          split
          · exact Or.inr rfl
          · exact Or.inl rfl
      · obtain ⟨-, hB⟩ := tyS_bin h0' h1 h2 hT
        obtain ⟨r, l, U, b, rfl, rfl, hc⟩ := tyB_inv hB
        rw [jS, if_neg h0, if_neg h1, if_neg h2]
        match S, h with
        | x :: y :: S, h =>
          refine ⟨fun hb => ?_, h.2.2⟩
          rcases hc with ⟨-, -, -, q⟩ | ⟨q, -, -, -⟩ | ⟨q, q1, q2, -⟩
          · rw [q] at hb; cases hb
          · show jOp t y x = nI 0 ∨ jOp t y x = nI 1
            rcases q with rfl | rfl | rfl
            · rw [jOp, if_neg (by decide), if_neg (by decide), if_neg (by decide), if_pos rfl]
              split
              · exact Or.inl rfl
              · exact Or.inr rfl
            · rw [jOp, if_neg (by decide), if_neg (by decide), if_neg (by decide), if_neg (by decide), if_pos rfl]
              split
              · exact Or.inr rfl
              · exact Or.inl rfl
            · rw [jOp, if_neg (by decide), if_neg (by decide), if_neg (by decide), if_neg (by decide), if_neg (by decide), if_pos rfl]
              split
              · exact Or.inl rfl
              · exact Or.inr rfl
          · have e := b01_or (h.2.1 q2) (h.1 q1)
            show jOp t y x = nI 0 ∨ jOp t y x = nI 1
            rcases q with rfl | rfl
            · rw [jOp, if_pos rfl]; exact e.2
            · rw [jOp, if_neg (by decide), if_neg (by decide), if_neg (by decide), if_neg (by decide), if_neg (by decide), if_neg (by decide)]; exact e.1
theorem kiS_run {io co : Nat → Int32} {a : Nat} : ∀ {k : Nat} {T : List Bool}, tyR co a k = some T → kiS (jR io co a k) T
  | 0, T, h => by cases h; trivial
  | k + 1, T2, h => by
    obtain ⟨T, h1, h2⟩ := tyR_step h
    exact kiS_step (kiS_run h1) h2
theorem jV_01 {io co : Nat → Int32} {a n : Nat} (h : tyR co a n = some [true]) : jV io co a n = nI 0 ∨ jV io co a n = nI 1 := by
  have hk := kiS_run (io := io) h
  rw [jV]
  match hj : jR io co a n, hk with
  | x :: [], hk => exact hk.1 rfl
  | x :: y :: S, hk => exact hk.2.elim
theorem kiS_len : ∀ {S : List Int32} {T : List Bool}, kiS S T → S.length = T.length
  | [], [], _ => rfl
  | x :: S, b :: T, h => by
    have := kiS_len h.2
    simp [this]
  | [], _ :: _, h => h.elim
  | _ :: _, [], h => h.elim

abbrev rm_c_X0_join : Room := { frames := 1, cells := 0, slots := 0, locals := 20 }
set_option maxHeartbeats 4000000 in
set_option maxRecDepth 100000 in
theorem c_X0_join (E : gE) (l t r : Int32)  : MM E yX0_join wsX0_join rm_c_X0_join [.int l, .int t, .int r] [] (fun rv_ ru_ => rv_ = some (.int (jOp t l r)) ∧ ru_ = []) := by
  refine MM.ofG (cc := cX0_join) (maxL := 3) (ret := (some .int)) (by decide) rfl (Nat.le_of_ble_eq_true rfl) (ll := [some (.int l), some (.int t), some (.int r)]) rfl ?_
  intro X C Rt
  have C : gx E X cX0_join 3 wsX0_join RX0 := C
  refine g_iload_n C dX0_join_0 rfl ?_
  by_cases s1_0 : t = nI 1004
  · refine g_lookup (off := 109) (tgt := 110) C dX0_join_1 (by decide) (by rw [s1_0]; rfl) (by decide) ?_
    refine g_iload_n C dX0_join_110 rfl ?_
    refine g_iload_n C dX0_join_111 rfl ?_
    refine g_iand C dX0_join_112 ?_
    exact g_iret C Rt dX0_join_113 (by decide) (by decide) (⟨by rw [jOp, if_pos s1_0], rfl⟩)
  by_cases s1_1 : t = nI 1143
  · refine g_lookup (off := 59) (tgt := 60) C dX0_join_1 (by decide) (by rw [s1_1]; rfl) (by decide) ?_
    refine g_iload_n C dX0_join_60 rfl ?_
    refine g_iload_n C dX0_join_61 rfl ?_
    refine g_iadd C dX0_join_62 ?_
    exact g_iret C Rt dX0_join_63 (by decide) (by decide) (⟨by rw [jOp, if_neg s1_0, if_pos s1_1], rfl⟩)
  by_cases s1_2 : t = nI 1145
  · refine g_lookup (off := 63) (tgt := 64) C dX0_join_1 (by decide) (by rw [s1_2]; rfl) (by decide) ?_
    refine g_iload_n C dX0_join_64 rfl ?_
    refine g_iload_n C dX0_join_65 rfl ?_
    refine g_isub C dX0_join_66 ?_
    exact g_iret C Rt dX0_join_67 (by decide) (by decide) (⟨by rw [jOp, if_neg s1_0, if_neg s1_1, if_pos s1_2], rfl⟩)
  by_cases s1_3 : t = nI 1160
  · refine g_lookup (off := 67) (tgt := 68) C dX0_join_1 (by decide) (by rw [s1_3]; rfl) (by decide) ?_
    refine g_iload_n C dX0_join_68 rfl ?_
    refine g_iload_n C dX0_join_69 rfl ?_
    refine g_icmp_ge (tgt := 77) C dX0_join_70 (by decide) (fun c70 => ?_) (fun c70 => ?_)
    · refine g_iconst (v := nI 0) C dX0_join_77 (by decide) ?_
      refine g_callS C (c_X0_truth E false ) gX0_join_X0_truth rfl 1 (by decide +kernel) ⟨by decide, by decide⟩ ⟨by decide, by decide⟩ [] [] (wr := []) rfl (by decide) rfl (by decide) (by decide) rfl rfl (Nat.le_of_ble_eq_true rfl) dX0_join_78 ?_
      rintro _ _ ⟨rfl, rfl⟩
      show gg E _ 3 X 0 0 81 [some (.int l), some (.int t), some (.int r)] [.int (b2i false)] []
      exact g_iret C Rt dX0_join_81 (by decide) (by decide) (⟨by rw [jOp, if_neg s1_0, if_neg s1_1, if_neg s1_2, if_pos s1_3, if_pos c70]; rfl, rfl⟩)
    · refine g_iconst (v := nI 1) C dX0_join_73 (by decide) ?_
      refine g_goto (tgt := 78) C dX0_join_74 (by decide) ?_
      refine g_callS C (c_X0_truth E true ) gX0_join_X0_truth rfl 1 (by decide +kernel) ⟨by decide, by decide⟩ ⟨by decide, by decide⟩ [] [] (wr := []) rfl (by decide) rfl (by decide) (by decide) rfl rfl (Nat.le_of_ble_eq_true rfl) dX0_join_78 ?_
      rintro _ _ ⟨rfl, rfl⟩
      show gg E _ 3 X 0 0 81 [some (.int l), some (.int t), some (.int r)] [.int (b2i true)] []
      exact g_iret C Rt dX0_join_81 (by decide) (by decide) (⟨by rw [jOp, if_neg s1_0, if_neg s1_1, if_neg s1_2, if_pos s1_3, if_neg c70]; rfl, rfl⟩)
  by_cases s1_4 : t = nI 1161
  · refine g_lookup (off := 81) (tgt := 82) C dX0_join_1 (by decide) (by rw [s1_4]; rfl) (by decide) ?_
    refine g_iload_n C dX0_join_82 rfl ?_
    refine g_iload_n C dX0_join_83 rfl ?_
    refine g_icmp_ne (tgt := 91) C dX0_join_84 (by decide) (fun c84 => ?_) (fun c84 => ?_)
    · refine g_iconst (v := nI 0) C dX0_join_91 (by decide) ?_
      refine g_callS C (c_X0_truth E false ) gX0_join_X0_truth rfl 1 (by decide +kernel) ⟨by decide, by decide⟩ ⟨by decide, by decide⟩ [] [] (wr := []) rfl (by decide) rfl (by decide) (by decide) rfl rfl (Nat.le_of_ble_eq_true rfl) dX0_join_92 ?_
      rintro _ _ ⟨rfl, rfl⟩
      show gg E _ 3 X 0 0 95 [some (.int l), some (.int t), some (.int r)] [.int (b2i false)] []
      exact g_iret C Rt dX0_join_95 (by decide) (by decide) (⟨by rw [jOp, if_neg s1_0, if_neg s1_1, if_neg s1_2, if_neg s1_3, if_pos s1_4, if_neg c84]; rfl, rfl⟩)
    · refine g_iconst (v := nI 1) C dX0_join_87 (by decide) ?_
      refine g_goto (tgt := 92) C dX0_join_88 (by decide) ?_
      refine g_callS C (c_X0_truth E true ) gX0_join_X0_truth rfl 1 (by decide +kernel) ⟨by decide, by decide⟩ ⟨by decide, by decide⟩ [] [] (wr := []) rfl (by decide) rfl (by decide) (by decide) rfl rfl (Nat.le_of_ble_eq_true rfl) dX0_join_92 ?_
      rintro _ _ ⟨rfl, rfl⟩
      show gg E _ 3 X 0 0 95 [some (.int l), some (.int t), some (.int r)] [.int (b2i true)] []
      exact g_iret C Rt dX0_join_95 (by decide) (by decide) (⟨by rw [jOp, if_neg s1_0, if_neg s1_1, if_neg s1_2, if_neg s1_3, if_pos s1_4, if_pos c84]; rfl, rfl⟩)
  by_cases s1_5 : t = nI 1162
  · refine g_lookup (off := 95) (tgt := 96) C dX0_join_1 (by decide) (by rw [s1_5]; rfl) (by decide) ?_
    refine g_iload_n C dX0_join_96 rfl ?_
    refine g_iload_n C dX0_join_97 rfl ?_
    refine g_icmp_le (tgt := 105) C dX0_join_98 (by decide) (fun c98 => ?_) (fun c98 => ?_)
    · refine g_iconst (v := nI 0) C dX0_join_105 (by decide) ?_
      refine g_callS C (c_X0_truth E false ) gX0_join_X0_truth rfl 1 (by decide +kernel) ⟨by decide, by decide⟩ ⟨by decide, by decide⟩ [] [] (wr := []) rfl (by decide) rfl (by decide) (by decide) rfl rfl (Nat.le_of_ble_eq_true rfl) dX0_join_106 ?_
      rintro _ _ ⟨rfl, rfl⟩
      show gg E _ 3 X 0 0 109 [some (.int l), some (.int t), some (.int r)] [.int (b2i false)] []
      exact g_iret C Rt dX0_join_109 (by decide) (by decide) (⟨by rw [jOp, if_neg s1_0, if_neg s1_1, if_neg s1_2, if_neg s1_3, if_neg s1_4, if_pos s1_5, if_pos c98]; rfl, rfl⟩)
    · refine g_iconst (v := nI 1) C dX0_join_101 (by decide) ?_
      refine g_goto (tgt := 106) C dX0_join_102 (by decide) ?_
      refine g_callS C (c_X0_truth E true ) gX0_join_X0_truth rfl 1 (by decide +kernel) ⟨by decide, by decide⟩ ⟨by decide, by decide⟩ [] [] (wr := []) rfl (by decide) rfl (by decide) (by decide) rfl rfl (Nat.le_of_ble_eq_true rfl) dX0_join_106 ?_
      rintro _ _ ⟨rfl, rfl⟩
      show gg E _ 3 X 0 0 109 [some (.int l), some (.int t), some (.int r)] [.int (b2i true)] []
      exact g_iret C Rt dX0_join_109 (by decide) (by decide) (⟨by rw [jOp, if_neg s1_0, if_neg s1_1, if_neg s1_2, if_neg s1_3, if_neg s1_4, if_pos s1_5, if_neg c98]; rfl, rfl⟩)
  refine g_lookup (off := 113) (tgt := 114) C dX0_join_1 (by decide) (by have e0 := ne_toInt (by decide) (show ¬ t = nI 1004 from s1_0); have e1 := ne_toInt (by decide) (show ¬ t = nI 1143 from s1_1); have e2 := ne_toInt (by decide) (show ¬ t = nI 1145 from s1_2); have e3 := ne_toInt (by decide) (show ¬ t = nI 1160 from s1_3); have e4 := ne_toInt (by decide) (show ¬ t = nI 1161 from s1_4); have e5 := ne_toInt (by decide) (show ¬ t = nI 1162 from s1_5); simp only [Op.lookupswitch.offset]; rw [if_neg (show ¬ (1004 : Int) = Int32.toInt t from fun z => e0 (Eq.symm z)), if_neg (show ¬ (1143 : Int) = Int32.toInt t from fun z => e1 (Eq.symm z)), if_neg (show ¬ (1145 : Int) = Int32.toInt t from fun z => e2 (Eq.symm z)), if_neg (show ¬ (1160 : Int) = Int32.toInt t from fun z => e3 (Eq.symm z)), if_neg (show ¬ (1161 : Int) = Int32.toInt t from fun z => e4 (Eq.symm z)), if_neg (show ¬ (1162 : Int) = Int32.toInt t from fun z => e5 (Eq.symm z))]) (by decide) ?_
  refine g_iload_n C dX0_join_114 rfl ?_
  refine g_iload_n C dX0_join_115 rfl ?_
  refine g_ior C dX0_join_116 ?_
  exact g_iret C Rt dX0_join_117 (by decide) (by decide) (⟨by rw [jOp, if_neg s1_0, if_neg s1_1, if_neg s1_2, if_neg s1_3, if_neg s1_4, if_neg s1_5], rfl⟩)

theorem mea_k {t : Int32} (h1 : ¬ t < nI 1006) (h2 : ¬ nI 1010 < t) : ∃ k, 1006 ≤ k ∧ k ≤ 1010 ∧ t = nI k := by
  rw [fa_lt, nI_toInt (by decide)] at h1 h2
  refine ⟨t.toInt.toNat, by omega, by omega, ?_⟩
  rw [fa_eq, nI_toInt (by omega)]
  omega

abbrev rm_c_X0_take : Room := { frames := 2, cells := 0, slots := 0, locals := 42 }
set_option maxHeartbeats 4000000 in
set_option maxRecDepth 100000 in
theorem c_X0_take (E : gE) (h b : Nat) (pi : Nat → Int32) (a5 : Nat) (io : Nat → Int32) (t : Int32) (T T2 : List Bool) (hT : tyS t T = some T2) : MM E yX0_take wsX0_take rm_c_X0_take [.ref h, .int t, .ref a5] [gO h 0 [.ref b, .int (nI T.length)], gA E b 32 pi, gA E a5 5 io] (fun rv_ ru_ => ∃ (pi2 : Nat → Int32), rv_ = none ∧ ru_ = [gO h 0 [.ref b, .int (nI T2.length)], gA E b 32 pi2, gA E a5 5 io] ∧ (stk pi2 T2.length = jS io t (stk pi T.length))) := by
  refine MM.ofG (cc := cX0_take) (maxL := 5) (ret := none) (by decide) rfl (Nat.le_of_ble_eq_true rfl) (ll := [some (.ref h), some (.int t), some (.ref a5), none, none]) rfl ?_
  intro X C Rt
  have C : gx E X cX0_take 5 wsX0_take RX0 := C
  refine g_iload_n C dX0_take_0 rfl ?_
  refine g_sipush (v := nI 999) C dX0_take_1 (by decide) ?_
  refine g_icmp_gt (tgt := 15) C dX0_take_4 (by decide) (fun c4 => ?_) (fun c4 => ?_)
  · refine g_iload_n C dX0_take_15 rfl ?_
    refine g_sipush (v := nI 1006) C dX0_take_16 (by decide) ?_
    refine g_icmp_lt (tgt := 43) C dX0_take_19 (by decide) (fun c19 => ?_) (fun c19 => ?_)
    · refine g_iload_n C dX0_take_43 rfl ?_
      refine g_sipush (v := nI 1005) C dX0_take_44 (by decide) ?_
      refine g_icmp_ne (tgt := 72) C dX0_take_47 (by decide) (fun c47 => ?_) (fun c47 => ?_)
      · obtain ⟨hl, hB⟩ := tyS_bin c4 (fun z => z.1 c19) c47 hT
        obtain ⟨r_, l_, U, b_, hU, hU2, -⟩ := tyB_inv hB
        have hl1 : T.length = U.length + 1 + 1 := by rw [hU]; rfl
        have hl2 : T2.length = U.length + 1 := by rw [hU2]; rfl
        refine g_aload_n C dX0_take_72 rfl ?_
        refine g_callV C (c_X0_pop E h b T.length pi (by omega) (by omega)) gX0_take_X0_pop rfl 0 (by decide +kernel) ⟨by decide, by decide⟩ ⟨by decide, by decide⟩ 0 rfl rfl [0, 1] [2] (wr := [gA E a5 5 io]) rfl (by decide) rfl (by decide) (by decide) rfl rfl (Nat.le_of_ble_eq_true rfl) dX0_take_73 ?_
        rintro _ _ ⟨rfl, rfl⟩
        refine gg.perm (ws' := [gO h 0 [.ref b, .int (nI (T.length - 1))], gA E b 32 pi, gA E a5 5 io]) [1, 2, 0] (by decide) rfl ?_
        show gg E _ 5 X 0 0 76 [some (.ref h), some (.int t), some (.ref a5), none, none] [.int (pi (T.length - 1))] [gO h 0 [.ref b, .int (nI (T.length - 1))], gA E b 32 pi, gA E a5 5 io]
        refine g_istore_n C dX0_take_76 (by decide) rfl (ll' := [some (.ref h), some (.int t), some (.ref a5), some (.int (pi (T.length - 1))), none]) rfl ?_
        refine g_aload_n C dX0_take_77 rfl ?_
        refine g_callV C (c_X0_pop E h b (T.length - 1) pi (by omega) (by omega)) gX0_take_X0_pop rfl 0 (by decide +kernel) ⟨by decide, by decide⟩ ⟨by decide, by decide⟩ 0 rfl rfl [0, 1] [2] (wr := [gA E a5 5 io]) rfl (by decide) rfl (by decide) (by decide) rfl rfl (Nat.le_of_ble_eq_true rfl) dX0_take_78 ?_
        rintro _ _ ⟨rfl, rfl⟩
        refine gg.perm (ws' := [gO h 0 [.ref b, .int (nI ((T.length - 1) - 1))], gA E b 32 pi, gA E a5 5 io]) [1, 2, 0] (by decide) rfl ?_
        show gg E _ 5 X 0 0 81 [some (.ref h), some (.int t), some (.ref a5), some (.int (pi (T.length - 1))), none] [.int (pi ((T.length - 1) - 1))] [gO h 0 [.ref b, .int (nI ((T.length - 1) - 1))], gA E b 32 pi, gA E a5 5 io]
        refine g_istore C dX0_take_81 (by decide) rfl (ll' := [some (.ref h), some (.int t), some (.ref a5), some (.int (pi (T.length - 1))), some (.int (pi ((T.length - 1) - 1)))]) rfl ?_
        refine g_aload_n C dX0_take_83 rfl ?_
        refine g_iload C dX0_take_84 rfl ?_
        refine g_iload_n C dX0_take_86 rfl ?_
        refine g_iload_n C dX0_take_87 rfl ?_
        refine g_callS C (c_X0_join E (pi ((T.length - 1) - 1)) t (pi (T.length - 1)) ) gX0_take_X0_join rfl 3 (by decide +kernel) ⟨by decide, by decide⟩ ⟨by decide, by decide⟩ [] [0, 1, 2] (wr := [gO h 0 [.ref b, .int (nI ((T.length - 1) - 1))], gA E b 32 pi, gA E a5 5 io]) rfl (by decide) rfl (by decide) (by decide) rfl rfl (Nat.le_of_ble_eq_true rfl) dX0_take_88 ?_
        rintro _ _ ⟨rfl, rfl⟩
        show gg E _ 5 X 0 0 91 [some (.ref h), some (.int t), some (.ref a5), some (.int (pi (T.length - 1))), some (.int (pi ((T.length - 1) - 1)))] [.int (jOp t (pi ((T.length - 1) - 1)) (pi (T.length - 1))), .ref h] [gO h 0 [.ref b, .int (nI ((T.length - 1) - 1))], gA E b 32 pi, gA E a5 5 io]
        refine g_callV C (c_X0_push E h b ((T.length - 1) - 1) pi (jOp t (pi ((T.length - 1) - 1)) (pi (T.length - 1))) (by omega)) gX0_take_X0_push rfl 1 (by decide +kernel) ⟨by decide, by decide⟩ ⟨by decide, by decide⟩ 0 rfl rfl [0, 1] [2] (wr := [gA E a5 5 io]) rfl (by decide) rfl (by decide) (by decide) rfl rfl (Nat.le_of_ble_eq_true rfl) dX0_take_91 ?_
        rintro _ _ ⟨rfl, rfl⟩
        refine gg.perm (ws' := [gO h 0 [.ref b, .int (nI (((T.length - 1) - 1) + 1))], gA E b 32 (upd pi ((T.length - 1) - 1) (jOp t (pi ((T.length - 1) - 1)) (pi (T.length - 1)))), gA E a5 5 io]) [1, 2, 0] (by decide) rfl ?_
        show gg E _ 5 X 0 0 94 [some (.ref h), some (.int t), some (.ref a5), some (.int (pi (T.length - 1))), some (.int (pi ((T.length - 1) - 1)))] [] [gO h 0 [.ref b, .int (nI (((T.length - 1) - 1) + 1))], gA E b 32 (upd pi ((T.length - 1) - 1) (jOp t (pi ((T.length - 1) - 1)) (pi (T.length - 1)))), gA E a5 5 io]
        exact g_vret C Rt dX0_take_94 (by decide) (by decide) (⟨_, rfl, by rw [show T.length - 1 - 1 + 1 = T2.length by omega], by rw [← show T.length - 1 - 1 + 1 = T2.length by omega, stk_push, jS, if_neg (fun z => z c4), if_neg (fun z => z.1 c19), if_neg c47, stk_top (show 0 < T.length by omega), stk_top (show 0 < T.length - 1 by omega), jBin]⟩)
      · obtain ⟨hl, U, hU, hU2⟩ := tyS_not c47 hT
        have hl1 : T.length = U.length + 1 := by rw [hU]; rfl
        have hl2 : T2.length = U.length + 1 := by rw [hU2]; rfl
        refine g_aload_n C dX0_take_50 rfl ?_
        refine g_aload_n C dX0_take_51 rfl ?_
        refine g_callV C (c_X0_pop E h b T.length pi (by omega) (by omega)) gX0_take_X0_pop rfl 0 (by decide +kernel) ⟨by decide, by decide⟩ ⟨by decide, by decide⟩ 0 rfl rfl [0, 1] [2] (wr := [gA E a5 5 io]) rfl (by decide) rfl (by decide) (by decide) rfl rfl (Nat.le_of_ble_eq_true rfl) dX0_take_52 ?_
        rintro _ _ ⟨rfl, rfl⟩
        refine gg.perm (ws' := [gO h 0 [.ref b, .int (nI (T.length - 1))], gA E b 32 pi, gA E a5 5 io]) [1, 2, 0] (by decide) rfl ?_
        show gg E _ 5 X 0 0 55 [some (.ref h), some (.int t), some (.ref a5), none, none] [.int (pi (T.length - 1)), .ref h] [gO h 0 [.ref b, .int (nI (T.length - 1))], gA E b 32 pi, gA E a5 5 io]
        refine g_if_ne (tgt := 62) C dX0_take_55 (by decide) (fun c55 => ?_) (fun c55 => ?_)
        · refine g_iconst (v := nI 0) C dX0_take_62 (by decide) ?_
          refine g_callS C (c_X0_truth E false ) gX0_take_X0_truth rfl 1 (by decide +kernel) ⟨by decide, by decide⟩ ⟨by decide, by decide⟩ [] [0, 1, 2] (wr := [gO h 0 [.ref b, .int (nI (T.length - 1))], gA E b 32 pi, gA E a5 5 io]) rfl (by decide) rfl (by decide) (by decide) rfl rfl (Nat.le_of_ble_eq_true rfl) dX0_take_63 ?_
          rintro _ _ ⟨rfl, rfl⟩
          show gg E _ 5 X 0 0 66 [some (.ref h), some (.int t), some (.ref a5), none, none] [.int (b2i false), .ref h] [gO h 0 [.ref b, .int (nI (T.length - 1))], gA E b 32 pi, gA E a5 5 io]
          refine g_callV C (c_X0_push E h b (T.length - 1) pi (b2i false) (by omega)) gX0_take_X0_push rfl 1 (by decide +kernel) ⟨by decide, by decide⟩ ⟨by decide, by decide⟩ 0 rfl rfl [0, 1] [2] (wr := [gA E a5 5 io]) rfl (by decide) rfl (by decide) (by decide) rfl rfl (Nat.le_of_ble_eq_true rfl) dX0_take_66 ?_
          rintro _ _ ⟨rfl, rfl⟩
          refine gg.perm (ws' := [gO h 0 [.ref b, .int (nI ((T.length - 1) + 1))], gA E b 32 (upd pi (T.length - 1) (b2i false)), gA E a5 5 io]) [1, 2, 0] (by decide) rfl ?_
          show gg E _ 5 X 0 0 69 [some (.ref h), some (.int t), some (.ref a5), none, none] [] [gO h 0 [.ref b, .int (nI ((T.length - 1) + 1))], gA E b 32 (upd pi (T.length - 1) (b2i false)), gA E a5 5 io]
          refine g_goto (tgt := 94) C dX0_take_69 (by decide) ?_
          exact g_vret C Rt dX0_take_94 (by decide) (by decide) (⟨_, rfl, by rw [show T.length - 1 + 1 = T2.length by omega], by rw [← show T.length - 1 + 1 = T2.length by omega, stk_push, jS, if_neg (fun z => z c4), if_neg (fun z => z.1 c19), if_pos c47, stk_top (show 0 < T.length by omega), jNot, if_neg c55]; rfl⟩)
        · refine g_iconst (v := nI 1) C dX0_take_58 (by decide) ?_
          refine g_goto (tgt := 63) C dX0_take_59 (by decide) ?_
          refine g_callS C (c_X0_truth E true ) gX0_take_X0_truth rfl 1 (by decide +kernel) ⟨by decide, by decide⟩ ⟨by decide, by decide⟩ [] [0, 1, 2] (wr := [gO h 0 [.ref b, .int (nI (T.length - 1))], gA E b 32 pi, gA E a5 5 io]) rfl (by decide) rfl (by decide) (by decide) rfl rfl (Nat.le_of_ble_eq_true rfl) dX0_take_63 ?_
          rintro _ _ ⟨rfl, rfl⟩
          show gg E _ 5 X 0 0 66 [some (.ref h), some (.int t), some (.ref a5), none, none] [.int (b2i true), .ref h] [gO h 0 [.ref b, .int (nI (T.length - 1))], gA E b 32 pi, gA E a5 5 io]
          refine g_callV C (c_X0_push E h b (T.length - 1) pi (b2i true) (by omega)) gX0_take_X0_push rfl 1 (by decide +kernel) ⟨by decide, by decide⟩ ⟨by decide, by decide⟩ 0 rfl rfl [0, 1] [2] (wr := [gA E a5 5 io]) rfl (by decide) rfl (by decide) (by decide) rfl rfl (Nat.le_of_ble_eq_true rfl) dX0_take_66 ?_
          rintro _ _ ⟨rfl, rfl⟩
          refine gg.perm (ws' := [gO h 0 [.ref b, .int (nI ((T.length - 1) + 1))], gA E b 32 (upd pi (T.length - 1) (b2i true)), gA E a5 5 io]) [1, 2, 0] (by decide) rfl ?_
          show gg E _ 5 X 0 0 69 [some (.ref h), some (.int t), some (.ref a5), none, none] [] [gO h 0 [.ref b, .int (nI ((T.length - 1) + 1))], gA E b 32 (upd pi (T.length - 1) (b2i true)), gA E a5 5 io]
          refine g_goto (tgt := 94) C dX0_take_69 (by decide) ?_
          exact g_vret C Rt dX0_take_94 (by decide) (by decide) (⟨_, rfl, by rw [show T.length - 1 + 1 = T2.length by omega], by rw [← show T.length - 1 + 1 = T2.length by omega, stk_push, jS, if_neg (fun z => z c4), if_neg (fun z => z.1 c19), if_pos c47, stk_top (show 0 < T.length by omega), jNot, if_pos c55]; rfl⟩)
    · refine g_iload_n C dX0_take_22 rfl ?_
      refine g_sipush (v := nI 1010) C dX0_take_23 (by decide) ?_
      refine g_icmp_gt (tgt := 43) C dX0_take_26 (by decide) (fun c26 => ?_) (fun c26 => ?_)
      · refine g_iload_n C dX0_take_43 rfl ?_
        refine g_sipush (v := nI 1005) C dX0_take_44 (by decide) ?_
        refine g_icmp_ne (tgt := 72) C dX0_take_47 (by decide) (fun c47 => ?_) (fun c47 => ?_)
        · obtain ⟨hl, hB⟩ := tyS_bin c4 (fun z => z.2 c26) c47 hT
          obtain ⟨r_, l_, U, b_, hU, hU2, -⟩ := tyB_inv hB
          have hl1 : T.length = U.length + 1 + 1 := by rw [hU]; rfl
          have hl2 : T2.length = U.length + 1 := by rw [hU2]; rfl
          refine g_aload_n C dX0_take_72 rfl ?_
          refine g_callV C (c_X0_pop E h b T.length pi (by omega) (by omega)) gX0_take_X0_pop rfl 0 (by decide +kernel) ⟨by decide, by decide⟩ ⟨by decide, by decide⟩ 0 rfl rfl [0, 1] [2] (wr := [gA E a5 5 io]) rfl (by decide) rfl (by decide) (by decide) rfl rfl (Nat.le_of_ble_eq_true rfl) dX0_take_73 ?_
          rintro _ _ ⟨rfl, rfl⟩
          refine gg.perm (ws' := [gO h 0 [.ref b, .int (nI (T.length - 1))], gA E b 32 pi, gA E a5 5 io]) [1, 2, 0] (by decide) rfl ?_
          show gg E _ 5 X 0 0 76 [some (.ref h), some (.int t), some (.ref a5), none, none] [.int (pi (T.length - 1))] [gO h 0 [.ref b, .int (nI (T.length - 1))], gA E b 32 pi, gA E a5 5 io]
          refine g_istore_n C dX0_take_76 (by decide) rfl (ll' := [some (.ref h), some (.int t), some (.ref a5), some (.int (pi (T.length - 1))), none]) rfl ?_
          refine g_aload_n C dX0_take_77 rfl ?_
          refine g_callV C (c_X0_pop E h b (T.length - 1) pi (by omega) (by omega)) gX0_take_X0_pop rfl 0 (by decide +kernel) ⟨by decide, by decide⟩ ⟨by decide, by decide⟩ 0 rfl rfl [0, 1] [2] (wr := [gA E a5 5 io]) rfl (by decide) rfl (by decide) (by decide) rfl rfl (Nat.le_of_ble_eq_true rfl) dX0_take_78 ?_
          rintro _ _ ⟨rfl, rfl⟩
          refine gg.perm (ws' := [gO h 0 [.ref b, .int (nI ((T.length - 1) - 1))], gA E b 32 pi, gA E a5 5 io]) [1, 2, 0] (by decide) rfl ?_
          show gg E _ 5 X 0 0 81 [some (.ref h), some (.int t), some (.ref a5), some (.int (pi (T.length - 1))), none] [.int (pi ((T.length - 1) - 1))] [gO h 0 [.ref b, .int (nI ((T.length - 1) - 1))], gA E b 32 pi, gA E a5 5 io]
          refine g_istore C dX0_take_81 (by decide) rfl (ll' := [some (.ref h), some (.int t), some (.ref a5), some (.int (pi (T.length - 1))), some (.int (pi ((T.length - 1) - 1)))]) rfl ?_
          refine g_aload_n C dX0_take_83 rfl ?_
          refine g_iload C dX0_take_84 rfl ?_
          refine g_iload_n C dX0_take_86 rfl ?_
          refine g_iload_n C dX0_take_87 rfl ?_
          refine g_callS C (c_X0_join E (pi ((T.length - 1) - 1)) t (pi (T.length - 1)) ) gX0_take_X0_join rfl 3 (by decide +kernel) ⟨by decide, by decide⟩ ⟨by decide, by decide⟩ [] [0, 1, 2] (wr := [gO h 0 [.ref b, .int (nI ((T.length - 1) - 1))], gA E b 32 pi, gA E a5 5 io]) rfl (by decide) rfl (by decide) (by decide) rfl rfl (Nat.le_of_ble_eq_true rfl) dX0_take_88 ?_
          rintro _ _ ⟨rfl, rfl⟩
          show gg E _ 5 X 0 0 91 [some (.ref h), some (.int t), some (.ref a5), some (.int (pi (T.length - 1))), some (.int (pi ((T.length - 1) - 1)))] [.int (jOp t (pi ((T.length - 1) - 1)) (pi (T.length - 1))), .ref h] [gO h 0 [.ref b, .int (nI ((T.length - 1) - 1))], gA E b 32 pi, gA E a5 5 io]
          refine g_callV C (c_X0_push E h b ((T.length - 1) - 1) pi (jOp t (pi ((T.length - 1) - 1)) (pi (T.length - 1))) (by omega)) gX0_take_X0_push rfl 1 (by decide +kernel) ⟨by decide, by decide⟩ ⟨by decide, by decide⟩ 0 rfl rfl [0, 1] [2] (wr := [gA E a5 5 io]) rfl (by decide) rfl (by decide) (by decide) rfl rfl (Nat.le_of_ble_eq_true rfl) dX0_take_91 ?_
          rintro _ _ ⟨rfl, rfl⟩
          refine gg.perm (ws' := [gO h 0 [.ref b, .int (nI (((T.length - 1) - 1) + 1))], gA E b 32 (upd pi ((T.length - 1) - 1) (jOp t (pi ((T.length - 1) - 1)) (pi (T.length - 1)))), gA E a5 5 io]) [1, 2, 0] (by decide) rfl ?_
          show gg E _ 5 X 0 0 94 [some (.ref h), some (.int t), some (.ref a5), some (.int (pi (T.length - 1))), some (.int (pi ((T.length - 1) - 1)))] [] [gO h 0 [.ref b, .int (nI (((T.length - 1) - 1) + 1))], gA E b 32 (upd pi ((T.length - 1) - 1) (jOp t (pi ((T.length - 1) - 1)) (pi (T.length - 1)))), gA E a5 5 io]
          exact g_vret C Rt dX0_take_94 (by decide) (by decide) (⟨_, rfl, by rw [show T.length - 1 - 1 + 1 = T2.length by omega], by rw [← show T.length - 1 - 1 + 1 = T2.length by omega, stk_push, jS, if_neg (fun z => z c4), if_neg (fun z => z.2 c26), if_neg c47, stk_top (show 0 < T.length by omega), stk_top (show 0 < T.length - 1 by omega), jBin]⟩)
        · obtain ⟨hl, U, hU, hU2⟩ := tyS_not c47 hT
          have hl1 : T.length = U.length + 1 := by rw [hU]; rfl
          have hl2 : T2.length = U.length + 1 := by rw [hU2]; rfl
          refine g_aload_n C dX0_take_50 rfl ?_
          refine g_aload_n C dX0_take_51 rfl ?_
          refine g_callV C (c_X0_pop E h b T.length pi (by omega) (by omega)) gX0_take_X0_pop rfl 0 (by decide +kernel) ⟨by decide, by decide⟩ ⟨by decide, by decide⟩ 0 rfl rfl [0, 1] [2] (wr := [gA E a5 5 io]) rfl (by decide) rfl (by decide) (by decide) rfl rfl (Nat.le_of_ble_eq_true rfl) dX0_take_52 ?_
          rintro _ _ ⟨rfl, rfl⟩
          refine gg.perm (ws' := [gO h 0 [.ref b, .int (nI (T.length - 1))], gA E b 32 pi, gA E a5 5 io]) [1, 2, 0] (by decide) rfl ?_
          show gg E _ 5 X 0 0 55 [some (.ref h), some (.int t), some (.ref a5), none, none] [.int (pi (T.length - 1)), .ref h] [gO h 0 [.ref b, .int (nI (T.length - 1))], gA E b 32 pi, gA E a5 5 io]
          refine g_if_ne (tgt := 62) C dX0_take_55 (by decide) (fun c55 => ?_) (fun c55 => ?_)
          · refine g_iconst (v := nI 0) C dX0_take_62 (by decide) ?_
            refine g_callS C (c_X0_truth E false ) gX0_take_X0_truth rfl 1 (by decide +kernel) ⟨by decide, by decide⟩ ⟨by decide, by decide⟩ [] [0, 1, 2] (wr := [gO h 0 [.ref b, .int (nI (T.length - 1))], gA E b 32 pi, gA E a5 5 io]) rfl (by decide) rfl (by decide) (by decide) rfl rfl (Nat.le_of_ble_eq_true rfl) dX0_take_63 ?_
            rintro _ _ ⟨rfl, rfl⟩
            show gg E _ 5 X 0 0 66 [some (.ref h), some (.int t), some (.ref a5), none, none] [.int (b2i false), .ref h] [gO h 0 [.ref b, .int (nI (T.length - 1))], gA E b 32 pi, gA E a5 5 io]
            refine g_callV C (c_X0_push E h b (T.length - 1) pi (b2i false) (by omega)) gX0_take_X0_push rfl 1 (by decide +kernel) ⟨by decide, by decide⟩ ⟨by decide, by decide⟩ 0 rfl rfl [0, 1] [2] (wr := [gA E a5 5 io]) rfl (by decide) rfl (by decide) (by decide) rfl rfl (Nat.le_of_ble_eq_true rfl) dX0_take_66 ?_
            rintro _ _ ⟨rfl, rfl⟩
            refine gg.perm (ws' := [gO h 0 [.ref b, .int (nI ((T.length - 1) + 1))], gA E b 32 (upd pi (T.length - 1) (b2i false)), gA E a5 5 io]) [1, 2, 0] (by decide) rfl ?_
            show gg E _ 5 X 0 0 69 [some (.ref h), some (.int t), some (.ref a5), none, none] [] [gO h 0 [.ref b, .int (nI ((T.length - 1) + 1))], gA E b 32 (upd pi (T.length - 1) (b2i false)), gA E a5 5 io]
            refine g_goto (tgt := 94) C dX0_take_69 (by decide) ?_
            exact g_vret C Rt dX0_take_94 (by decide) (by decide) (⟨_, rfl, by rw [show T.length - 1 + 1 = T2.length by omega], by rw [← show T.length - 1 + 1 = T2.length by omega, stk_push, jS, if_neg (fun z => z c4), if_neg (fun z => z.2 c26), if_pos c47, stk_top (show 0 < T.length by omega), jNot, if_neg c55]; rfl⟩)
          · refine g_iconst (v := nI 1) C dX0_take_58 (by decide) ?_
            refine g_goto (tgt := 63) C dX0_take_59 (by decide) ?_
            refine g_callS C (c_X0_truth E true ) gX0_take_X0_truth rfl 1 (by decide +kernel) ⟨by decide, by decide⟩ ⟨by decide, by decide⟩ [] [0, 1, 2] (wr := [gO h 0 [.ref b, .int (nI (T.length - 1))], gA E b 32 pi, gA E a5 5 io]) rfl (by decide) rfl (by decide) (by decide) rfl rfl (Nat.le_of_ble_eq_true rfl) dX0_take_63 ?_
            rintro _ _ ⟨rfl, rfl⟩
            show gg E _ 5 X 0 0 66 [some (.ref h), some (.int t), some (.ref a5), none, none] [.int (b2i true), .ref h] [gO h 0 [.ref b, .int (nI (T.length - 1))], gA E b 32 pi, gA E a5 5 io]
            refine g_callV C (c_X0_push E h b (T.length - 1) pi (b2i true) (by omega)) gX0_take_X0_push rfl 1 (by decide +kernel) ⟨by decide, by decide⟩ ⟨by decide, by decide⟩ 0 rfl rfl [0, 1] [2] (wr := [gA E a5 5 io]) rfl (by decide) rfl (by decide) (by decide) rfl rfl (Nat.le_of_ble_eq_true rfl) dX0_take_66 ?_
            rintro _ _ ⟨rfl, rfl⟩
            refine gg.perm (ws' := [gO h 0 [.ref b, .int (nI ((T.length - 1) + 1))], gA E b 32 (upd pi (T.length - 1) (b2i true)), gA E a5 5 io]) [1, 2, 0] (by decide) rfl ?_
            show gg E _ 5 X 0 0 69 [some (.ref h), some (.int t), some (.ref a5), none, none] [] [gO h 0 [.ref b, .int (nI ((T.length - 1) + 1))], gA E b 32 (upd pi (T.length - 1) (b2i true)), gA E a5 5 io]
            refine g_goto (tgt := 94) C dX0_take_69 (by decide) ?_
            exact g_vret C Rt dX0_take_94 (by decide) (by decide) (⟨_, rfl, by rw [show T.length - 1 + 1 = T2.length by omega], by rw [← show T.length - 1 + 1 = T2.length by omega, stk_push, jS, if_neg (fun z => z c4), if_neg (fun z => z.2 c26), if_pos c47, stk_top (show 0 < T.length by omega), jNot, if_pos c55]; rfl⟩)
      · obtain ⟨k, hk1, hk2, rfl⟩ := mea_k c19 c26
        obtain ⟨hl, hT2⟩ := tyS_mea c4 ⟨c19, c26⟩ hT
        have hl2 : T2.length = T.length + 1 := by rw [hT2]; rfl
        refine g_aload_n C dX0_take_29 rfl ?_
        refine g_aload_n C dX0_take_30 rfl ?_
        refine g_iload_n C dX0_take_31 rfl ?_
        refine g_sipush (v := nI 1006) C dX0_take_32 (by decide) ?_
        refine g_isub_n C dX0_take_35 (by omega) ?_
        refine g_iald C 2 (k - 1006) rfl rfl (by omega) (by decide) dX0_take_36 ?_
        refine g_callV C (c_X0_push E h b T.length pi (io (k - 1006)) (by omega)) gX0_take_X0_push rfl 1 (by decide +kernel) ⟨by decide, by decide⟩ ⟨by decide, by decide⟩ 0 rfl rfl [0, 1] [2] (wr := [gA E a5 5 io]) rfl (by decide) rfl (by decide) (by decide) rfl rfl (Nat.le_of_ble_eq_true rfl) dX0_take_37 ?_
        rintro _ _ ⟨rfl, rfl⟩
        refine gg.perm (ws' := [gO h 0 [.ref b, .int (nI (T.length + 1))], gA E b 32 (upd pi T.length (io (k - 1006))), gA E a5 5 io]) [1, 2, 0] (by decide) rfl ?_
        show gg E _ 5 X 0 0 40 [some (.ref h), some (.int (nI k)), some (.ref a5), none, none] [] [gO h 0 [.ref b, .int (nI (T.length + 1))], gA E b 32 (upd pi T.length (io (k - 1006))), gA E a5 5 io]
        refine g_goto (tgt := 94) C dX0_take_40 (by decide) ?_
        exact g_vret C Rt dX0_take_94 (by decide) (by decide) (⟨_, rfl, by rw [hl2], by rw [hl2, jS, if_neg (fun z => z c4), if_pos ⟨c19, c26⟩, nI_clamp (by omega)]; exact stk_push _ _ _⟩)
  · obtain ⟨hl, hg0, hT2⟩ := tyS_num c4 hT
    have hl2 : T2.length = T.length + 1 := by rw [hT2]; rfl
    refine g_aload_n C dX0_take_7 rfl ?_
    refine g_iload_n C dX0_take_8 rfl ?_
    refine g_callV C (c_X0_push E h b T.length pi t (by omega)) gX0_take_X0_push rfl 1 (by decide +kernel) ⟨by decide, by decide⟩ ⟨by decide, by decide⟩ 0 rfl rfl [0, 1] [2] (wr := [gA E a5 5 io]) rfl (by decide) rfl (by decide) (by decide) rfl rfl (Nat.le_of_ble_eq_true rfl) dX0_take_9 ?_
    rintro _ _ ⟨rfl, rfl⟩
    refine gg.perm (ws' := [gO h 0 [.ref b, .int (nI (T.length + 1))], gA E b 32 (upd pi T.length t), gA E a5 5 io]) [1, 2, 0] (by decide) rfl ?_
    show gg E _ 5 X 0 0 12 [some (.ref h), some (.int t), some (.ref a5), none, none] [] [gO h 0 [.ref b, .int (nI (T.length + 1))], gA E b 32 (upd pi T.length t), gA E a5 5 io]
    refine g_goto (tgt := 94) C dX0_take_12 (by decide) ?_
    exact g_vret C Rt dX0_take_94 (by decide) (by decide) (⟨_, rfl, by rw [hl2], by rw [hl2, jS, if_pos c4]; exact stk_push _ _ _⟩)

abbrev rm_c_X0_isSo : Room := { frames := 3, cells := 0, slots := 0, locals := 66 }
set_option maxHeartbeats 4000000 in
set_option maxRecDepth 100000 in
theorem c_X0_isSo (E : gE) (h b hh : Nat) (pi : Nat → Int32) (hb_ a0 a1 a2 a3 n us : Nat) (sa sk st co : Nat → Int32) (a5 : Nat) (io : Nat → Int32) (r a ln : Nat) (hr : r < 12) (ha : st r = nI a) (hb : st (r + 1) = nI (a + ln)) (hl : a + ln ≤ 600) (ht : tyR co a ln = some [true]) : MM E yX0_isSo wsX0_isSo rm_c_X0_isSo [.ref h, .ref hb_, .int (nI r), .ref a5] [gO h 0 [.ref b, .int (nI hh)], gA E b 32 pi, gO hb_ 4 [.ref a0, .ref a1, .ref a2, .ref a3, .int (nI n), .int (nI us)], gA E a0 12 sa, gA E a1 12 sk, gA E a2 13 st, gA E a3 600 co, gA E a5 5 io] (fun rv_ ru_ => ∃ (hh2 : Nat) (pi2 : Nat → Int32), rv_ = some (.int (b2i (decide (¬ jV io co a ln = 0)))) ∧ ru_ = [gO h 0 [.ref b, .int (nI hh2)], gA E b 32 pi2, gO hb_ 4 [.ref a0, .ref a1, .ref a2, .ref a3, .int (nI n), .int (nI us)], gA E a0 12 sa, gA E a1 12 sk, gA E a2 13 st, gA E a3 600 co, gA E a5 5 io]) := by
  refine MM.ofG (cc := cX0_isSo) (maxL := 5) (ret := (some .boolean)) (by decide) rfl (Nat.le_of_ble_eq_true rfl) (ll := [some (.ref h), some (.ref hb_), some (.int (nI r)), some (.ref a5), none]) rfl ?_
  intro X C Rt
  have C : gx E X cX0_isSo 5 wsX0_isSo RX0 := C
  have i_X0 : ∀ w ∈ u_ws RX0 TX0 2, w ∈ wsX0_isSo := by decide +kernel
  have i_X4 : ∀ w ∈ u_ws RX4 TX4 6, w ∈ wsX0_isSo := by decide +kernel
  have f_15 : Cond.fieldLink RX0 15 "MarkPages$Judge" "height" "I" ∈ wsX0_isSo := by decide +kernel
  have f_19 : Cond.fieldLink RX0 19 "MarkPages$RuleBook" "starts" "[I" ∈ wsX0_isSo := by decide +kernel
  have f_24 : Cond.fieldLink RX0 24 "MarkPages$RuleBook" "code" "[I" ∈ wsX0_isSo := by decide +kernel
  refine g_aload_n C dX0_isSo_0 rfl ?_
  refine g_iconst (v := nI 0) C dX0_isSo_1 (by decide) ?_
  refine g_put C i_X0 tyX0 tyX0_ok nmX0 0 1 f_15 rfl rfl (by decide) rfl rfl rfl rfl rfl (Nat.le_of_ble_eq_true rfl) dX0_isSo_2 (ws' := [gO h 0 [.ref b, .int (nI 0)], gA E b 32 pi, gO hb_ 4 [.ref a0, .ref a1, .ref a2, .ref a3, .int (nI n), .int (nI us)], gA E a0 12 sa, gA E a1 12 sk, gA E a2 13 st, gA E a3 600 co, gA E a5 5 io]) rfl ?_
  refine g_aload_n C dX0_isSo_5 rfl ?_
  refine g_get C i_X4 2 2 f_19 rfl rfl (by decide) rfl rfl dX0_isSo_6 ?_
  refine g_iload_n C dX0_isSo_9 rfl ?_
  refine g_iald C 5 r rfl rfl (by omega) (by decide) dX0_isSo_10 ?_
  refine g_top ha ?_
  refine g_istore C dX0_isSo_11 (by decide) rfl (ll' := [some (.ref h), some (.ref hb_), some (.int (nI r)), some (.ref a5), some (.int (nI a))]) rfl ?_
  have L13 : ∀ (n13 : Nat) (i : Nat) (T : List Bool) (pj : Nat → Int32), ln - i < n13 → (i ≤ ln) → (tyR co a i = some T) → (stk pj T.length = jR io co a i) → gg E rm_c_X0_isSo 5 X 0 0 13 [some (.ref h), some (.ref hb_), some (.int (nI r)), some (.ref a5), some (.int (nI (a + i)))] [] [gO h 0 [.ref b, .int (nI T.length)], gA E b 32 pj, gO hb_ 4 [.ref a0, .ref a1, .ref a2, .ref a3, .int (nI n), .int (nI us)], gA E a0 12 sa, gA E a1 12 sk, gA E a2 13 st, gA E a3 600 co, gA E a5 5 io] := by
    intro n13
    induction n13 with
    | zero => intro i T pj hm13; exact absurd hm13 (Nat.not_lt_zero _)
    | succ n13 ih13 =>
      intro i T pj hm13 hi hT hs
      refine g_iload C dX0_isSo_13 rfl ?_
      refine g_aload_n C dX0_isSo_15 rfl ?_
      refine g_get C i_X4 2 2 f_19 rfl rfl (by decide) rfl rfl dX0_isSo_16 ?_
      refine g_iload_n C dX0_isSo_19 rfl ?_
      refine g_iconst (v := nI 1) C dX0_isSo_20 (by decide) ?_
      refine g_iadd_n C dX0_isSo_21 ?_
      refine g_iald C 5 (r + 1) rfl rfl (by omega) (by decide) dX0_isSo_22 ?_
      refine g_top hb ?_
      refine g_icmp_ge_n (tgt := 44) C dX0_isSo_23 (by decide) (by omega) (by omega) (fun c23 => ?_) (fun c23 => ?_)
      · have ei : i = ln := by omega
        rw [ei, ht] at hT
        have hT9 : T.length = 1 := by cases hT; rfl
        rw [ei] at hs
        refine g_aload_n C dX0_isSo_44 rfl ?_
        refine g_callV C (c_X0_pop E h b T.length pj (by omega) (by omega)) gX0_isSo_X0_pop rfl 0 (by decide +kernel) ⟨by decide, by decide⟩ ⟨by decide, by decide⟩ 0 rfl rfl [0, 1] [2, 3, 4, 5, 6, 7] (wr := [gO hb_ 4 [.ref a0, .ref a1, .ref a2, .ref a3, .int (nI n), .int (nI us)], gA E a0 12 sa, gA E a1 12 sk, gA E a2 13 st, gA E a3 600 co, gA E a5 5 io]) rfl (by decide) rfl (by decide) (by decide) rfl rfl (Nat.le_of_ble_eq_true rfl) dX0_isSo_45 ?_
        rintro _ _ ⟨rfl, rfl⟩
        refine gg.perm (ws' := [gO h 0 [.ref b, .int (nI (T.length - 1))], gA E b 32 pj, gO hb_ 4 [.ref a0, .ref a1, .ref a2, .ref a3, .int (nI n), .int (nI us)], gA E a0 12 sa, gA E a1 12 sk, gA E a2 13 st, gA E a3 600 co, gA E a5 5 io]) [6, 7, 0, 1, 2, 3, 4, 5] (by decide) rfl ?_
        show gg E _ 5 X 0 0 48 [some (.ref h), some (.ref hb_), some (.int (nI r)), some (.ref a5), some (.int (nI (a + i)))] [.int (pj (T.length - 1))] [gO h 0 [.ref b, .int (nI (T.length - 1))], gA E b 32 pj, gO hb_ 4 [.ref a0, .ref a1, .ref a2, .ref a3, .int (nI n), .int (nI us)], gA E a0 12 sa, gA E a1 12 sk, gA E a2 13 st, gA E a3 600 co, gA E a5 5 io]
        refine g_if_eq (tgt := 55) C dX0_isSo_48 (by decide) (fun c48 => ?_) (fun c48 => ?_)
        · refine g_iconst (v := nI 0) C dX0_isSo_55 (by decide) ?_
          exact g_zret C Rt dX0_isSo_56 (by decide) (by decide) (by decide) (⟨_, _, by rw [decide_eq_false (by rw [jV, ← hs, stk_top (show 0 < T.length by omega)]; exact fun z => z c48)]; rfl, rfl⟩)
        · refine g_iconst (v := nI 1) C dX0_isSo_51 (by decide) ?_
          refine g_goto (tgt := 56) C dX0_isSo_52 (by decide) ?_
          exact g_zret C Rt dX0_isSo_56 (by decide) (by decide) (by decide) (⟨_, _, by rw [decide_eq_true (by rw [jV, ← hs, stk_top (show 0 < T.length by omega)]; exact c48)]; rfl, rfl⟩)
      · obtain ⟨T3, hT3⟩ := tyR_pre (show i + 1 ≤ ln by omega) ht
        obtain ⟨T1, hT1, hS1⟩ := tyR_step hT3
        obtain ⟨T2, hTe⟩ : ∃ T2, T2 = T3 := ⟨_, rfl⟩
        rw [← hTe] at hT3 hS1
        have hT2 := hT3
        have hSt : tyS (co (a + i)) T = some T2 := by rw [hT] at hT1; cases hT1; exact hS1
        refine g_aload_n C dX0_isSo_26 rfl ?_
        refine g_aload_n C dX0_isSo_27 rfl ?_
        refine g_get C i_X4 2 3 f_24 rfl rfl (by decide) rfl rfl dX0_isSo_28 ?_
        refine g_iload C dX0_isSo_31 rfl ?_
        refine g_iald C 6 (a + i) rfl rfl (by omega) (by decide) dX0_isSo_33 ?_
        refine g_aload_n C dX0_isSo_34 rfl ?_
        refine g_callV C (c_X0_take E h b pj a5 io (co (a + i)) T T2 (hSt)) gX0_isSo_X0_take rfl 2 (by decide +kernel) ⟨by decide, by decide⟩ ⟨by decide, by decide⟩ 0 rfl rfl [0, 1, 7] [2, 3, 4, 5, 6] (wr := [gO hb_ 4 [.ref a0, .ref a1, .ref a2, .ref a3, .int (nI n), .int (nI us)], gA E a0 12 sa, gA E a1 12 sk, gA E a2 13 st, gA E a3 600 co]) rfl (by decide) rfl (by decide) (by decide) rfl rfl (Nat.le_of_ble_eq_true rfl) dX0_isSo_35 ?_
        rintro _ _ ⟨pi2_35, rfl, rfl, hs_35⟩
        refine gg.perm (ws' := [gO h 0 [.ref b, .int (nI T2.length)], gA E b 32 pi2_35, gO hb_ 4 [.ref a0, .ref a1, .ref a2, .ref a3, .int (nI n), .int (nI us)], gA E a0 12 sa, gA E a1 12 sk, gA E a2 13 st, gA E a3 600 co, gA E a5 5 io]) [5, 6, 0, 1, 2, 3, 4, 7] (by decide) rfl ?_
        show gg E _ 5 X 0 0 38 [some (.ref h), some (.ref hb_), some (.int (nI r)), some (.ref a5), some (.int (nI (a + i)))] [] [gO h 0 [.ref b, .int (nI T2.length)], gA E b 32 pi2_35, gO hb_ 4 [.ref a0, .ref a1, .ref a2, .ref a3, .int (nI n), .int (nI us)], gA E a0 12 sa, gA E a1 12 sk, gA E a2 13 st, gA E a3 600 co, gA E a5 5 io]
        refine g_iinc_n (y := 1) C dX0_isSo_38 rfl (by decide) (by decide) rfl (ll' := [some (.ref h), some (.ref hb_), some (.int (nI r)), some (.ref a5), some (.int (nI ((a + i) + 1)))]) rfl ?_
        refine g_goto (tgt := 13) C dX0_isSo_41 (by decide) ?_
        exact ih13 (i + 1) T2 pi2_35 (by omega) (by omega) (hT2) (by rw [hs_35, hs]; rfl)
  exact L13 _ 0 ([]) pi (Nat.lt_succ_self _) (by omega) (rfl) (rfl)

