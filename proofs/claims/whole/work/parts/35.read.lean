/-! RuleReader: refuse, advance, expect, readNumber, readSum, readComparison, readCondition, readBoth, readEither by how many are open -/

abbrev rm_c_X5_refuse : Room := { frames := 0, cells := 0, slots := 0, locals := 0 }
set_option maxHeartbeats 4000000 in
set_option maxRecDepth 100000 in
theorem c_X5_refuse (E : gE) (h tk c0 c1 cn dr a0 a1 a2 a3 nr us i : Nat) (ks ps sa sk st co : Nat → Int32) (fk fp : Int32) (kd : Nat) (hi : i < cn) (hcn : cn ≤ 601) : MM E yX5_refuse wsX5_refuse rm_c_X5_refuse [.ref h, .int (nI kd)] [gO h 5 [.ref tk, .ref dr, .int (nI i), .int (ks i), .int fk, .int fp], gO tk 8 [.ref c0, .ref c1, .int (nI cn)], gA E c0 601 ks, gA E c1 601 ps, gO dr 4 [.ref a0, .ref a1, .ref a2, .ref a3, .int (nI nr), .int (nI us)], gA E a0 12 sa, gA E a1 12 sk, gA E a2 13 st, gA E a3 600 co] (fun rv_ ru_ => rv_ = some (.int (nI 0)) ∧ ru_ = [gO h 5 [.ref tk, .ref dr, .int (nI i), .int (ks i), .int (nI kd), .int (ps i)], gO tk 8 [.ref c0, .ref c1, .int (nI cn)], gA E c0 601 ks, gA E c1 601 ps, gO dr 4 [.ref a0, .ref a1, .ref a2, .ref a3, .int (nI nr), .int (nI us)], gA E a0 12 sa, gA E a1 12 sk, gA E a2 13 st, gA E a3 600 co]) := by
  refine MM.ofG (cc := cX5_refuse) (maxL := 2) (ret := (some .boolean)) (by decide) rfl (Nat.le_of_ble_eq_true rfl) (ll := [some (.ref h), some (.int (nI kd))]) rfl ?_
  intro X C Rt
  have C : gx E X cX5_refuse 2 wsX5_refuse RX5 := C
  have i_X5 : ∀ w ∈ u_ws RX5 TX5 6, w ∈ wsX5_refuse := by decide +kernel
  have i_X8 : ∀ w ∈ u_ws RX8 TX8 3, w ∈ wsX5_refuse := by decide +kernel
  have f_12 : Cond.fieldLink RX5 12 "MarkPages$RuleReader" "tokens" "LMarkPages$Tokens;" ∈ wsX5_refuse := by decide +kernel
  have f_29 : Cond.fieldLink RX5 29 "MarkPages$RuleReader" "faultKind" "I" ∈ wsX5_refuse := by decide +kernel
  have f_32 : Cond.fieldLink RX5 32 "MarkPages$RuleReader" "faultPlace" "I" ∈ wsX5_refuse := by decide +kernel
  have f_42 : Cond.fieldLink RX5 42 "MarkPages$RuleReader" "at" "I" ∈ wsX5_refuse := by decide +kernel
  have f_94 : Cond.fieldLink RX5 94 "MarkPages$Tokens" "places" "[I" ∈ wsX5_refuse := by decide +kernel
  refine g_aload_n C dX5_refuse_0 rfl ?_
  refine g_iload_n C dX5_refuse_1 rfl ?_
  refine g_put C i_X5 tyX5 tyX5_ok nmX5 0 4 f_29 rfl rfl (by decide) rfl rfl rfl rfl rfl (Nat.le_of_ble_eq_true rfl) dX5_refuse_2 (ws' := [gO h 5 [.ref tk, .ref dr, .int (nI i), .int (ks i), .int (nI kd), .int fp], gO tk 8 [.ref c0, .ref c1, .int (nI cn)], gA E c0 601 ks, gA E c1 601 ps, gO dr 4 [.ref a0, .ref a1, .ref a2, .ref a3, .int (nI nr), .int (nI us)], gA E a0 12 sa, gA E a1 12 sk, gA E a2 13 st, gA E a3 600 co]) rfl ?_
  refine g_aload_n C dX5_refuse_5 rfl ?_
  refine g_aload_n C dX5_refuse_6 rfl ?_
  refine g_get C i_X5 0 0 f_12 rfl rfl (by decide) rfl rfl dX5_refuse_7 ?_
  refine g_get C i_X8 1 1 f_94 rfl rfl (by decide) rfl rfl dX5_refuse_10 ?_
  refine g_aload_n C dX5_refuse_13 rfl ?_
  refine g_get C i_X5 0 2 f_42 rfl rfl (by decide) rfl rfl dX5_refuse_14 ?_
  refine g_iald C 3 i rfl rfl (by omega) (by decide) dX5_refuse_17 ?_
  refine g_put C i_X5 tyX5 tyX5_ok nmX5 0 5 f_32 rfl rfl (by decide) rfl rfl rfl rfl rfl (Nat.le_of_ble_eq_true rfl) dX5_refuse_18 (ws' := [gO h 5 [.ref tk, .ref dr, .int (nI i), .int (ks i), .int (nI kd), .int (ps i)], gO tk 8 [.ref c0, .ref c1, .int (nI cn)], gA E c0 601 ks, gA E c1 601 ps, gO dr 4 [.ref a0, .ref a1, .ref a2, .ref a3, .int (nI nr), .int (nI us)], gA E a0 12 sa, gA E a1 12 sk, gA E a2 13 st, gA E a3 600 co]) rfl ?_
  refine g_iconst (v := nI 0) C dX5_refuse_21 (by decide) ?_
  exact g_zret C Rt dX5_refuse_22 (by decide) (by decide) (by decide) (⟨rfl, rfl⟩)

abbrev rm_c_X5_advance : Room := { frames := 0, cells := 0, slots := 0, locals := 0 }
set_option maxHeartbeats 4000000 in
set_option maxRecDepth 100000 in
theorem c_X5_advance (E : gE) (h tk c0 c1 cn dr a0 a1 a2 a3 nr us i : Nat) (ks ps sa sk st co : Nat → Int32) (fk fp : Int32) (hi : i + 1 < cn) (hcn : cn ≤ 601) : MM E yX5_advance wsX5_advance rm_c_X5_advance [.ref h] [gO h 5 [.ref tk, .ref dr, .int (nI i), .int (ks i), .int fk, .int fp], gO tk 8 [.ref c0, .ref c1, .int (nI cn)], gA E c0 601 ks, gA E c1 601 ps, gO dr 4 [.ref a0, .ref a1, .ref a2, .ref a3, .int (nI nr), .int (nI us)], gA E a0 12 sa, gA E a1 12 sk, gA E a2 13 st, gA E a3 600 co] (fun rv_ ru_ => rv_ = none ∧ ru_ = [gO h 5 [.ref tk, .ref dr, .int (nI (i + 1)), .int (ks (i + 1)), .int fk, .int fp], gO tk 8 [.ref c0, .ref c1, .int (nI cn)], gA E c0 601 ks, gA E c1 601 ps, gO dr 4 [.ref a0, .ref a1, .ref a2, .ref a3, .int (nI nr), .int (nI us)], gA E a0 12 sa, gA E a1 12 sk, gA E a2 13 st, gA E a3 600 co]) := by
  refine MM.ofG (cc := cX5_advance) (maxL := 1) (ret := none) (by decide) rfl (Nat.le_of_ble_eq_true rfl) (ll := [some (.ref h)]) rfl ?_
  intro X C Rt
  have C : gx E X cX5_advance 1 wsX5_advance RX5 := C
  have i_X5 : ∀ w ∈ u_ws RX5 TX5 6, w ∈ wsX5_advance := by decide +kernel
  have i_X8 : ∀ w ∈ u_ws RX8 TX8 3, w ∈ wsX5_advance := by decide +kernel
  have f_12 : Cond.fieldLink RX5 12 "MarkPages$RuleReader" "tokens" "LMarkPages$Tokens;" ∈ wsX5_advance := by decide +kernel
  have f_25 : Cond.fieldLink RX5 25 "MarkPages$RuleReader" "now" "I" ∈ wsX5_advance := by decide +kernel
  have f_42 : Cond.fieldLink RX5 42 "MarkPages$RuleReader" "at" "I" ∈ wsX5_advance := by decide +kernel
  have f_45 : Cond.fieldLink RX5 45 "MarkPages$Tokens" "kinds" "[I" ∈ wsX5_advance := by decide +kernel
  have f_76 : Cond.fieldLink RX5 76 "MarkPages$Tokens" "count" "I" ∈ wsX5_advance := by decide +kernel
  refine g_aload_n C dX5_advance_0 rfl ?_
  refine g_get C i_X5 0 2 f_42 rfl rfl (by decide) rfl rfl dX5_advance_1 ?_
  refine g_aload_n C dX5_advance_4 rfl ?_
  refine g_get C i_X5 0 0 f_12 rfl rfl (by decide) rfl rfl dX5_advance_5 ?_
  refine g_get C i_X8 1 2 f_76 rfl rfl (by decide) rfl rfl dX5_advance_8 ?_
  refine g_iconst (v := nI 1) C dX5_advance_11 (by decide) ?_
  refine g_isub_n C dX5_advance_12 (by omega) ?_
  refine g_icmp_ge_n (tgt := 42) C dX5_advance_13 (by decide) (by omega) (by omega) (fun c13 => ?_) (fun c13 => ?_)
  · exact absurd c13 (by omega)
  · refine g_aload_n C dX5_advance_16 rfl ?_
    refine g_dup C dX5_advance_17 rfl ?_
    refine g_get C i_X5 0 2 f_42 rfl rfl (by decide) rfl rfl dX5_advance_18 ?_
    refine g_iconst (v := nI 1) C dX5_advance_21 (by decide) ?_
    refine g_iadd_n C dX5_advance_22 ?_
    refine g_put C i_X5 tyX5 tyX5_ok nmX5 0 2 f_42 rfl rfl (by decide) rfl rfl rfl rfl rfl (Nat.le_of_ble_eq_true rfl) dX5_advance_23 (ws' := [gO h 5 [.ref tk, .ref dr, .int (nI (i + 1)), .int (ks i), .int fk, .int fp], gO tk 8 [.ref c0, .ref c1, .int (nI cn)], gA E c0 601 ks, gA E c1 601 ps, gO dr 4 [.ref a0, .ref a1, .ref a2, .ref a3, .int (nI nr), .int (nI us)], gA E a0 12 sa, gA E a1 12 sk, gA E a2 13 st, gA E a3 600 co]) rfl ?_
    refine g_aload_n C dX5_advance_26 rfl ?_
    refine g_aload_n C dX5_advance_27 rfl ?_
    refine g_get C i_X5 0 0 f_12 rfl rfl (by decide) rfl rfl dX5_advance_28 ?_
    refine g_get C i_X8 1 0 f_45 rfl rfl (by decide) rfl rfl dX5_advance_31 ?_
    refine g_aload_n C dX5_advance_34 rfl ?_
    refine g_get C i_X5 0 2 f_42 rfl rfl (by decide) rfl rfl dX5_advance_35 ?_
    refine g_iald C 2 (i + 1) rfl rfl (by omega) (by decide) dX5_advance_38 ?_
    refine g_put C i_X5 tyX5 tyX5_ok nmX5 0 3 f_25 rfl rfl (by decide) rfl rfl rfl rfl rfl (Nat.le_of_ble_eq_true rfl) dX5_advance_39 (ws' := [gO h 5 [.ref tk, .ref dr, .int (nI (i + 1)), .int (ks (i + 1)), .int fk, .int fp], gO tk 8 [.ref c0, .ref c1, .int (nI cn)], gA E c0 601 ks, gA E c1 601 ps, gO dr 4 [.ref a0, .ref a1, .ref a2, .ref a3, .int (nI nr), .int (nI us)], gA E a0 12 sa, gA E a1 12 sk, gA E a2 13 st, gA E a3 600 co]) rfl ?_
    exact g_vret C Rt dX5_advance_42 (by decide) (by decide) (⟨rfl, rfl⟩)

abbrev rm_c_X5_isValue : Room := { frames := 0, cells := 0, slots := 0, locals := 0 }
set_option maxHeartbeats 4000000 in
set_option maxRecDepth 100000 in
theorem c_X5_isValue (E : gE) (t : Int32)  : MM E yX5_isValue wsX5_isValue rm_c_X5_isValue [.int t] [] (fun rv_ ru_ => rv_ = some (.int (b2i (isV t))) ∧ ru_ = []) := by
  refine MM.ofG (cc := cX5_isValue) (maxL := 1) (ret := (some .boolean)) (by decide) rfl (Nat.le_of_ble_eq_true rfl) (ll := [some (.int t)]) rfl ?_
  intro X C Rt
  have C : gx E X cX5_isValue 1 wsX5_isValue RX5 := C
  refine g_iload_n C dX5_isValue_0 rfl ?_
  refine g_sipush (v := nI 999) C dX5_isValue_1 (by decide) ?_
  refine g_icmp_le (tgt := 21) C dX5_isValue_4 (by decide) (fun c4 => ?_) (fun c4 => ?_)
  · refine g_iconst (v := nI 1) C dX5_isValue_21 (by decide) ?_
    refine g_goto (tgt := 26) C dX5_isValue_22 (by decide) ?_
    exact g_zret C Rt dX5_isValue_26 (by decide) (by decide) (by decide) (⟨by simp [b2i, isV, Int32.not_lt, *], rfl⟩)
  · refine g_iload_n C dX5_isValue_7 rfl ?_
    refine g_sipush (v := nI 1006) C dX5_isValue_8 (by decide) ?_
    refine g_icmp_lt (tgt := 25) C dX5_isValue_11 (by decide) (fun c11 => ?_) (fun c11 => ?_)
    · refine g_iconst (v := nI 0) C dX5_isValue_25 (by decide) ?_
      exact g_zret C Rt dX5_isValue_26 (by decide) (by decide) (by decide) (⟨by simp [b2i, isV, Int32.not_lt, *], rfl⟩)
    · refine g_iload_n C dX5_isValue_14 rfl ?_
      refine g_sipush (v := nI 1010) C dX5_isValue_15 (by decide) ?_
      refine g_icmp_gt (tgt := 25) C dX5_isValue_18 (by decide) (fun c18 => ?_) (fun c18 => ?_)
      · refine g_iconst (v := nI 0) C dX5_isValue_25 (by decide) ?_
        exact g_zret C Rt dX5_isValue_26 (by decide) (by decide) (by decide) (⟨by simp [b2i, isV, Int32.not_lt, *], rfl⟩)
      · refine g_iconst (v := nI 1) C dX5_isValue_21 (by decide) ?_
        refine g_goto (tgt := 26) C dX5_isValue_22 (by decide) ?_
        exact g_zret C Rt dX5_isValue_26 (by decide) (by decide) (by decide) (⟨by simp [b2i, isV, Int32.not_lt, *], rfl⟩)

abbrev rm_c_X5_expect_y : Room := { frames := 1, cells := 0, slots := 0, locals := 21 }
set_option maxHeartbeats 4000000 in
set_option maxRecDepth 100000 in
theorem c_X5_expect_y (E : gE) (h tk c0 c1 cn dr a0 a1 a2 a3 nr us i : Nat) (ks ps sa sk st co : Nat → Int32) (fk fp : Int32) (x : Int32) (hi : i < cn) (hcn : cn ≤ 601) (hend : ks (cn - 1) = nI 1011) (hx : ks i = x) (hx2 : ¬ x = nI 1011) : MM E yX5_expect wsX5_expect rm_c_X5_expect_y [.ref h, .int x] [gO h 5 [.ref tk, .ref dr, .int (nI i), .int (ks i), .int fk, .int fp], gO tk 8 [.ref c0, .ref c1, .int (nI cn)], gA E c0 601 ks, gA E c1 601 ps, gO dr 4 [.ref a0, .ref a1, .ref a2, .ref a3, .int (nI nr), .int (nI us)], gA E a0 12 sa, gA E a1 12 sk, gA E a2 13 st, gA E a3 600 co] (fun rv_ ru_ => rv_ = some (.int (nI 1)) ∧ ru_ = [gO h 5 [.ref tk, .ref dr, .int (nI (i + 1)), .int (ks (i + 1)), .int fk, .int fp], gO tk 8 [.ref c0, .ref c1, .int (nI cn)], gA E c0 601 ks, gA E c1 601 ps, gO dr 4 [.ref a0, .ref a1, .ref a2, .ref a3, .int (nI nr), .int (nI us)], gA E a0 12 sa, gA E a1 12 sk, gA E a2 13 st, gA E a3 600 co]) := by
  refine MM.ofG (cc := cX5_expect) (maxL := 2) (ret := (some .boolean)) (by decide) rfl (Nat.le_of_ble_eq_true rfl) (ll := [some (.ref h), some (.int x)]) rfl ?_
  intro X C Rt
  have C : gx E X cX5_expect 2 wsX5_expect RX5 := C
  have i_X5 : ∀ w ∈ u_ws RX5 TX5 6, w ∈ wsX5_expect := by decide +kernel
  have f_25 : Cond.fieldLink RX5 25 "MarkPages$RuleReader" "now" "I" ∈ wsX5_expect := by decide +kernel
  refine g_aload_n C dX5_expect_0 rfl ?_
  refine g_get C i_X5 0 3 f_25 rfl rfl (by decide) rfl rfl dX5_expect_1 ?_
  refine g_iload_n C dX5_expect_4 rfl ?_
  refine g_icmp_eq (tgt := 14) C dX5_expect_5 (by decide) (fun c5 => ?_) (fun c5 => ?_)
  · refine g_aload_n C dX5_expect_14 rfl ?_
    refine g_callV C (c_X5_advance E h tk c0 c1 cn dr a0 a1 a2 a3 nr us i ks ps sa sk st co fk fp (not_end hend hi hx hx2) (by omega)) gX5_expect_X5_advance rfl 0 (by decide +kernel) ⟨by decide, by decide⟩ ⟨by decide, by decide⟩ 0 rfl rfl [0, 1, 2, 3, 4, 5, 6, 7, 8] [] (wr := []) rfl (by decide) rfl (by decide) (by decide) rfl rfl (Nat.le_of_ble_eq_true rfl) dX5_expect_15 ?_
    rintro _ _ ⟨rfl, rfl⟩
    show gg E _ 2 X 0 0 18 [some (.ref h), some (.int x)] [] [gO h 5 [.ref tk, .ref dr, .int (nI (i + 1)), .int (ks (i + 1)), .int fk, .int fp], gO tk 8 [.ref c0, .ref c1, .int (nI cn)], gA E c0 601 ks, gA E c1 601 ps, gO dr 4 [.ref a0, .ref a1, .ref a2, .ref a3, .int (nI nr), .int (nI us)], gA E a0 12 sa, gA E a1 12 sk, gA E a2 13 st, gA E a3 600 co]
    refine g_iconst (v := nI 1) C dX5_expect_18 (by decide) ?_
    exact g_zret C Rt dX5_expect_19 (by decide) (by decide) (by decide) (⟨rfl, rfl⟩)
  · exact absurd hx c5

abbrev rm_c_X5_expect_n : Room := { frames := 1, cells := 0, slots := 0, locals := 21 }
set_option maxHeartbeats 4000000 in
set_option maxRecDepth 100000 in
theorem c_X5_expect_n (E : gE) (h tk c0 c1 cn dr a0 a1 a2 a3 nr us i : Nat) (ks ps sa sk st co : Nat → Int32) (fk fp : Int32) (x : Int32) (hi : i < cn) (hcn : cn ≤ 601) (hx : ¬ ks i = x) : MM E yX5_expect wsX5_expect rm_c_X5_expect_n [.ref h, .int x] [gO h 5 [.ref tk, .ref dr, .int (nI i), .int (ks i), .int fk, .int fp], gO tk 8 [.ref c0, .ref c1, .int (nI cn)], gA E c0 601 ks, gA E c1 601 ps, gO dr 4 [.ref a0, .ref a1, .ref a2, .ref a3, .int (nI nr), .int (nI us)], gA E a0 12 sa, gA E a1 12 sk, gA E a2 13 st, gA E a3 600 co] (fun rv_ ru_ => rv_ = some (.int (nI 0)) ∧ ru_ = [gO h 5 [.ref tk, .ref dr, .int (nI i), .int (ks i), .int (nI 1), .int (ps i)], gO tk 8 [.ref c0, .ref c1, .int (nI cn)], gA E c0 601 ks, gA E c1 601 ps, gO dr 4 [.ref a0, .ref a1, .ref a2, .ref a3, .int (nI nr), .int (nI us)], gA E a0 12 sa, gA E a1 12 sk, gA E a2 13 st, gA E a3 600 co]) := by
  refine MM.ofG (cc := cX5_expect) (maxL := 2) (ret := (some .boolean)) (by decide) rfl (Nat.le_of_ble_eq_true rfl) (ll := [some (.ref h), some (.int x)]) rfl ?_
  intro X C Rt
  have C : gx E X cX5_expect 2 wsX5_expect RX5 := C
  have i_X5 : ∀ w ∈ u_ws RX5 TX5 6, w ∈ wsX5_expect := by decide +kernel
  have f_25 : Cond.fieldLink RX5 25 "MarkPages$RuleReader" "now" "I" ∈ wsX5_expect := by decide +kernel
  refine g_aload_n C dX5_expect_0 rfl ?_
  refine g_get C i_X5 0 3 f_25 rfl rfl (by decide) rfl rfl dX5_expect_1 ?_
  refine g_iload_n C dX5_expect_4 rfl ?_
  refine g_icmp_eq (tgt := 14) C dX5_expect_5 (by decide) (fun c5 => ?_) (fun c5 => ?_)
  · exact absurd c5 hx
  · refine g_aload_n C dX5_expect_8 rfl ?_
    refine g_iconst (v := nI 1) C dX5_expect_9 (by decide) ?_
    refine g_callV C (c_X5_refuse E h tk c0 c1 cn dr a0 a1 a2 a3 nr us i ks ps sa sk st co fk fp 1 (by omega) (by omega)) gX5_expect_X5_refuse rfl 1 (by decide +kernel) ⟨by decide, by decide⟩ ⟨by decide, by decide⟩ 0 rfl rfl [0, 1, 2, 3, 4, 5, 6, 7, 8] [] (wr := []) rfl (by decide) rfl (by decide) (by decide) rfl rfl (Nat.le_of_ble_eq_true rfl) dX5_expect_10 ?_
    rintro _ _ ⟨rfl, rfl⟩
    show gg E _ 2 X 0 0 13 [some (.ref h), some (.int x)] [.int (nI 0)] [gO h 5 [.ref tk, .ref dr, .int (nI i), .int (ks i), .int (nI 1), .int (ps i)], gO tk 8 [.ref c0, .ref c1, .int (nI cn)], gA E c0 601 ks, gA E c1 601 ps, gO dr 4 [.ref a0, .ref a1, .ref a2, .ref a3, .int (nI nr), .int (nI us)], gA E a0 12 sa, gA E a1 12 sk, gA E a2 13 st, gA E a3 600 co]
    exact g_zret C Rt dX5_expect_13 (by decide) (by decide) (by decide) (⟨rfl, rfl⟩)

abbrev rm_c_X5_readNumber_y : Room := { frames := 1, cells := 0, slots := 0, locals := 21 }
set_option maxHeartbeats 4000000 in
set_option maxRecDepth 100000 in
theorem c_X5_readNumber_y (E : gE) (h tk c0 c1 cn dr a0 a1 a2 a3 nr us i : Nat) (ks ps sa sk st co : Nat → Int32) (fk fp : Int32) (m : Nat) (hi : i < cn) (hcn : cn ≤ 601) (hend : ks (cn - 1) = nI 1011) (h1 : ¬ nI 999 < ks i) (h2 : ¬ nI m < ks i) : MM E yX5_readNumber wsX5_readNumber rm_c_X5_readNumber_y [.ref h, .int (nI m)] [gO h 5 [.ref tk, .ref dr, .int (nI i), .int (ks i), .int fk, .int fp], gO tk 8 [.ref c0, .ref c1, .int (nI cn)], gA E c0 601 ks, gA E c1 601 ps, gO dr 4 [.ref a0, .ref a1, .ref a2, .ref a3, .int (nI nr), .int (nI us)], gA E a0 12 sa, gA E a1 12 sk, gA E a2 13 st, gA E a3 600 co] (fun rv_ ru_ => rv_ = some (.int (ks i)) ∧ ru_ = [gO h 5 [.ref tk, .ref dr, .int (nI (i + 1)), .int (ks (i + 1)), .int fk, .int fp], gO tk 8 [.ref c0, .ref c1, .int (nI cn)], gA E c0 601 ks, gA E c1 601 ps, gO dr 4 [.ref a0, .ref a1, .ref a2, .ref a3, .int (nI nr), .int (nI us)], gA E a0 12 sa, gA E a1 12 sk, gA E a2 13 st, gA E a3 600 co]) := by
  refine MM.ofG (cc := cX5_readNumber) (maxL := 3) (ret := (some .int)) (by decide) rfl (Nat.le_of_ble_eq_true rfl) (ll := [some (.ref h), some (.int (nI m)), none]) rfl ?_
  intro X C Rt
  have C : gx E X cX5_readNumber 3 wsX5_readNumber RX5 := C
  have i_X5 : ∀ w ∈ u_ws RX5 TX5 6, w ∈ wsX5_readNumber := by decide +kernel
  have f_25 : Cond.fieldLink RX5 25 "MarkPages$RuleReader" "now" "I" ∈ wsX5_readNumber := by decide +kernel
  refine g_aload_n C dX5_readNumber_0 rfl ?_
  refine g_get C i_X5 0 3 f_25 rfl rfl (by decide) rfl rfl dX5_readNumber_1 ?_
  refine g_istore_n C dX5_readNumber_4 (by decide) rfl (ll' := [some (.ref h), some (.int (nI m)), some (.int (ks i))]) rfl ?_
  refine g_iload_n C dX5_readNumber_5 rfl ?_
  refine g_sipush (v := nI 999) C dX5_readNumber_6 (by decide) ?_
  refine g_icmp_le (tgt := 20) C dX5_readNumber_9 (by decide) (fun c9 => ?_) (fun c9 => ?_)
  · refine g_iload_n C dX5_readNumber_20 rfl ?_
    refine g_iload_n C dX5_readNumber_21 rfl ?_
    refine g_icmp_le (tgt := 33) C dX5_readNumber_22 (by decide) (fun c22 => ?_) (fun c22 => ?_)
    · refine g_aload_n C dX5_readNumber_33 rfl ?_
      refine g_callV C (c_X5_advance E h tk c0 c1 cn dr a0 a1 a2 a3 nr us i ks ps sa sk st co fk fp (not_end hend hi rfl (fun e => h1 (by rw [e]; decide))) (by omega)) gX5_readNumber_X5_advance rfl 0 (by decide +kernel) ⟨by decide, by decide⟩ ⟨by decide, by decide⟩ 0 rfl rfl [0, 1, 2, 3, 4, 5, 6, 7, 8] [] (wr := []) rfl (by decide) rfl (by decide) (by decide) rfl rfl (Nat.le_of_ble_eq_true rfl) dX5_readNumber_34 ?_
      rintro _ _ ⟨rfl, rfl⟩
      show gg E _ 3 X 0 0 37 [some (.ref h), some (.int (nI m)), some (.int (ks i))] [] [gO h 5 [.ref tk, .ref dr, .int (nI (i + 1)), .int (ks (i + 1)), .int fk, .int fp], gO tk 8 [.ref c0, .ref c1, .int (nI cn)], gA E c0 601 ks, gA E c1 601 ps, gO dr 4 [.ref a0, .ref a1, .ref a2, .ref a3, .int (nI nr), .int (nI us)], gA E a0 12 sa, gA E a1 12 sk, gA E a2 13 st, gA E a3 600 co]
      refine g_iload_n C dX5_readNumber_37 rfl ?_
      exact g_iret C Rt dX5_readNumber_38 (by decide) (by decide) (⟨rfl, rfl⟩)
    · exact absurd (Int32.not_lt.mp h2) c22
  · exact absurd (Int32.not_lt.mp h1) c9

abbrev rm_c_X5_readNumber_1 : Room := { frames := 1, cells := 0, slots := 0, locals := 21 }
set_option maxHeartbeats 4000000 in
set_option maxRecDepth 100000 in
theorem c_X5_readNumber_1 (E : gE) (h tk c0 c1 cn dr a0 a1 a2 a3 nr us i : Nat) (ks ps sa sk st co : Nat → Int32) (fk fp : Int32) (m : Nat) (hi : i < cn) (hcn : cn ≤ 601) (h1 : nI 999 < ks i) : MM E yX5_readNumber wsX5_readNumber rm_c_X5_readNumber_1 [.ref h, .int (nI m)] [gO h 5 [.ref tk, .ref dr, .int (nI i), .int (ks i), .int fk, .int fp], gO tk 8 [.ref c0, .ref c1, .int (nI cn)], gA E c0 601 ks, gA E c1 601 ps, gO dr 4 [.ref a0, .ref a1, .ref a2, .ref a3, .int (nI nr), .int (nI us)], gA E a0 12 sa, gA E a1 12 sk, gA E a2 13 st, gA E a3 600 co] (fun rv_ ru_ => rv_ = some (.int (-1)) ∧ ru_ = [gO h 5 [.ref tk, .ref dr, .int (nI i), .int (ks i), .int (nI 1), .int (ps i)], gO tk 8 [.ref c0, .ref c1, .int (nI cn)], gA E c0 601 ks, gA E c1 601 ps, gO dr 4 [.ref a0, .ref a1, .ref a2, .ref a3, .int (nI nr), .int (nI us)], gA E a0 12 sa, gA E a1 12 sk, gA E a2 13 st, gA E a3 600 co]) := by
  refine MM.ofG (cc := cX5_readNumber) (maxL := 3) (ret := (some .int)) (by decide) rfl (Nat.le_of_ble_eq_true rfl) (ll := [some (.ref h), some (.int (nI m)), none]) rfl ?_
  intro X C Rt
  have C : gx E X cX5_readNumber 3 wsX5_readNumber RX5 := C
  have i_X5 : ∀ w ∈ u_ws RX5 TX5 6, w ∈ wsX5_readNumber := by decide +kernel
  have f_25 : Cond.fieldLink RX5 25 "MarkPages$RuleReader" "now" "I" ∈ wsX5_readNumber := by decide +kernel
  refine g_aload_n C dX5_readNumber_0 rfl ?_
  refine g_get C i_X5 0 3 f_25 rfl rfl (by decide) rfl rfl dX5_readNumber_1 ?_
  refine g_istore_n C dX5_readNumber_4 (by decide) rfl (ll' := [some (.ref h), some (.int (nI m)), some (.int (ks i))]) rfl ?_
  refine g_iload_n C dX5_readNumber_5 rfl ?_
  refine g_sipush (v := nI 999) C dX5_readNumber_6 (by decide) ?_
  refine g_icmp_le (tgt := 20) C dX5_readNumber_9 (by decide) (fun c9 => ?_) (fun c9 => ?_)
  · exact absurd c9 (Int32.not_le.mpr h1)
  · refine g_aload_n C dX5_readNumber_12 rfl ?_
    refine g_iconst (v := nI 1) C dX5_readNumber_13 (by decide) ?_
    refine g_callV C (c_X5_refuse E h tk c0 c1 cn dr a0 a1 a2 a3 nr us i ks ps sa sk st co fk fp 1 (by omega) (by omega)) gX5_readNumber_X5_refuse rfl 1 (by decide +kernel) ⟨by decide, by decide⟩ ⟨by decide, by decide⟩ 0 rfl rfl [0, 1, 2, 3, 4, 5, 6, 7, 8] [] (wr := []) rfl (by decide) rfl (by decide) (by decide) rfl rfl (Nat.le_of_ble_eq_true rfl) dX5_readNumber_14 ?_
    rintro _ _ ⟨rfl, rfl⟩
    show gg E _ 3 X 0 0 17 [some (.ref h), some (.int (nI m)), some (.int (ks i))] [.int (nI 0)] [gO h 5 [.ref tk, .ref dr, .int (nI i), .int (ks i), .int (nI 1), .int (ps i)], gO tk 8 [.ref c0, .ref c1, .int (nI cn)], gA E c0 601 ks, gA E c1 601 ps, gO dr 4 [.ref a0, .ref a1, .ref a2, .ref a3, .int (nI nr), .int (nI us)], gA E a0 12 sa, gA E a1 12 sk, gA E a2 13 st, gA E a3 600 co]
    refine g_pop C dX5_readNumber_17 rfl ?_
    refine g_iconst (v := -1) C dX5_readNumber_18 (by decide) ?_
    exact g_iret C Rt dX5_readNumber_19 (by decide) (by decide) (⟨rfl, rfl⟩)

abbrev rm_c_X5_readNumber_2 : Room := { frames := 1, cells := 0, slots := 0, locals := 21 }
set_option maxHeartbeats 4000000 in
set_option maxRecDepth 100000 in
theorem c_X5_readNumber_2 (E : gE) (h tk c0 c1 cn dr a0 a1 a2 a3 nr us i : Nat) (ks ps sa sk st co : Nat → Int32) (fk fp : Int32) (m : Nat) (hi : i < cn) (hcn : cn ≤ 601) (h1 : ¬ nI 999 < ks i) (h2 : nI m < ks i) : MM E yX5_readNumber wsX5_readNumber rm_c_X5_readNumber_2 [.ref h, .int (nI m)] [gO h 5 [.ref tk, .ref dr, .int (nI i), .int (ks i), .int fk, .int fp], gO tk 8 [.ref c0, .ref c1, .int (nI cn)], gA E c0 601 ks, gA E c1 601 ps, gO dr 4 [.ref a0, .ref a1, .ref a2, .ref a3, .int (nI nr), .int (nI us)], gA E a0 12 sa, gA E a1 12 sk, gA E a2 13 st, gA E a3 600 co] (fun rv_ ru_ => rv_ = some (.int (-1)) ∧ ru_ = [gO h 5 [.ref tk, .ref dr, .int (nI i), .int (ks i), .int (nI 2), .int (ps i)], gO tk 8 [.ref c0, .ref c1, .int (nI cn)], gA E c0 601 ks, gA E c1 601 ps, gO dr 4 [.ref a0, .ref a1, .ref a2, .ref a3, .int (nI nr), .int (nI us)], gA E a0 12 sa, gA E a1 12 sk, gA E a2 13 st, gA E a3 600 co]) := by
  refine MM.ofG (cc := cX5_readNumber) (maxL := 3) (ret := (some .int)) (by decide) rfl (Nat.le_of_ble_eq_true rfl) (ll := [some (.ref h), some (.int (nI m)), none]) rfl ?_
  intro X C Rt
  have C : gx E X cX5_readNumber 3 wsX5_readNumber RX5 := C
  have i_X5 : ∀ w ∈ u_ws RX5 TX5 6, w ∈ wsX5_readNumber := by decide +kernel
  have f_25 : Cond.fieldLink RX5 25 "MarkPages$RuleReader" "now" "I" ∈ wsX5_readNumber := by decide +kernel
  refine g_aload_n C dX5_readNumber_0 rfl ?_
  refine g_get C i_X5 0 3 f_25 rfl rfl (by decide) rfl rfl dX5_readNumber_1 ?_
  refine g_istore_n C dX5_readNumber_4 (by decide) rfl (ll' := [some (.ref h), some (.int (nI m)), some (.int (ks i))]) rfl ?_
  refine g_iload_n C dX5_readNumber_5 rfl ?_
  refine g_sipush (v := nI 999) C dX5_readNumber_6 (by decide) ?_
  refine g_icmp_le (tgt := 20) C dX5_readNumber_9 (by decide) (fun c9 => ?_) (fun c9 => ?_)
  · refine g_iload_n C dX5_readNumber_20 rfl ?_
    refine g_iload_n C dX5_readNumber_21 rfl ?_
    refine g_icmp_le (tgt := 33) C dX5_readNumber_22 (by decide) (fun c22 => ?_) (fun c22 => ?_)
    · exact absurd c22 (Int32.not_le.mpr h2)
    · refine g_aload_n C dX5_readNumber_25 rfl ?_
      refine g_iconst (v := nI 2) C dX5_readNumber_26 (by decide) ?_
      refine g_callV C (c_X5_refuse E h tk c0 c1 cn dr a0 a1 a2 a3 nr us i ks ps sa sk st co fk fp 2 (by omega) (by omega)) gX5_readNumber_X5_refuse rfl 1 (by decide +kernel) ⟨by decide, by decide⟩ ⟨by decide, by decide⟩ 0 rfl rfl [0, 1, 2, 3, 4, 5, 6, 7, 8] [] (wr := []) rfl (by decide) rfl (by decide) (by decide) rfl rfl (Nat.le_of_ble_eq_true rfl) dX5_readNumber_27 ?_
      rintro _ _ ⟨rfl, rfl⟩
      show gg E _ 3 X 0 0 30 [some (.ref h), some (.int (nI m)), some (.int (ks i))] [.int (nI 0)] [gO h 5 [.ref tk, .ref dr, .int (nI i), .int (ks i), .int (nI 2), .int (ps i)], gO tk 8 [.ref c0, .ref c1, .int (nI cn)], gA E c0 601 ks, gA E c1 601 ps, gO dr 4 [.ref a0, .ref a1, .ref a2, .ref a3, .int (nI nr), .int (nI us)], gA E a0 12 sa, gA E a1 12 sk, gA E a2 13 st, gA E a3 600 co]
      refine g_pop C dX5_readNumber_30 rfl ?_
      refine g_iconst (v := -1) C dX5_readNumber_31 (by decide) ?_
      exact g_iret C Rt dX5_readNumber_32 (by decide) (by decide) (⟨rfl, rfl⟩)
  · exact absurd (Int32.not_lt.mp h1) c9

abbrev rm_c_X5_readSum : Room := { frames := 1, cells := 0, slots := 0, locals := 21 }
set_option maxHeartbeats 4000000 in
set_option maxRecDepth 100000 in
theorem c_X5_readSum (E : gE) (h tk c0 c1 cn dr a0 a1 a2 a3 nr us i : Nat) (ks ps sa sk st co : Nat → Int32) (fk fp : Int32) (hi : i < cn) (hcn : cn ≤ 601) (hend : ks (cn - 1) = nI 1011) (hus : us ≤ i) : MM E yX5_readSum wsX5_readSum rm_c_X5_readSum [.ref h] [gO h 5 [.ref tk, .ref dr, .int (nI i), .int (ks i), .int fk, .int fp], gO tk 8 [.ref c0, .ref c1, .int (nI cn)], gA E c0 601 ks, gA E c1 601 ps, gO dr 4 [.ref a0, .ref a1, .ref a2, .ref a3, .int (nI nr), .int (nI us)], gA E a0 12 sa, gA E a1 12 sk, gA E a2 13 st, gA E a3 600 co] (fun rv_ ru_ => ∃ (ok : Bool) (j us2 : Nat) (co2 : Nat → Int32) (fk2 fp2 : Int32), rv_ = some (.int (b2i ok)) ∧ ru_ = [gO h 5 [.ref tk, .ref dr, .int (nI j), .int (ks j), .int fk2, .int fp2], gO tk 8 [.ref c0, .ref c1, .int (nI cn)], gA E c0 601 ks, gA E c1 601 ps, gO dr 4 [.ref a0, .ref a1, .ref a2, .ref a3, .int (nI nr), .int (nI us2)], gA E a0 12 sa, gA E a1 12 sk, gA E a2 13 st, gA E a3 600 co2] ∧ (rdQ (pSum ks i) ps cn i us co fk fp ok j us2 co2 fk2 fp2)) := by
  refine MM.ofG (cc := cX5_readSum) (maxL := 3) (ret := (some .boolean)) (by decide) rfl (Nat.le_of_ble_eq_true rfl) (ll := [some (.ref h), none, none]) rfl ?_
  intro X C Rt
  have C : gx E X cX5_readSum 3 wsX5_readSum RX5 := C
  have i_X5 : ∀ w ∈ u_ws RX5 TX5 6, w ∈ wsX5_readSum := by decide +kernel
  have i_X8 : ∀ w ∈ u_ws RX8 TX8 3, w ∈ wsX5_readSum := by decide +kernel
  have f_12 : Cond.fieldLink RX5 12 "MarkPages$RuleReader" "tokens" "LMarkPages$Tokens;" ∈ wsX5_readSum := by decide +kernel
  have f_21 : Cond.fieldLink RX5 21 "MarkPages$RuleReader" "draft" "LMarkPages$RuleBook;" ∈ wsX5_readSum := by decide +kernel
  have f_25 : Cond.fieldLink RX5 25 "MarkPages$RuleReader" "now" "I" ∈ wsX5_readSum := by decide +kernel
  have f_76 : Cond.fieldLink RX5 76 "MarkPages$Tokens" "count" "I" ∈ wsX5_readSum := by decide +kernel
  refine g_sipush (v := nI 1012) C dX5_readSum_0 (by decide) ?_
  refine g_istore_n C dX5_readSum_3 (by decide) rfl (ll' := [some (.ref h), some (.int (nI 1012)), none]) rfl ?_
  refine g_iconst (v := nI 0) C dX5_readSum_4 (by decide) ?_
  refine g_istore_n C dX5_readSum_5 (by decide) rfl (ll' := [some (.ref h), some (.int (nI 1012)), some (.int (nI 0))]) rfl ?_
  have L6 : ∀ (n6 : Nat) (it i1 f1 : Nat) (sg : Int32) (C1 : List Int32), cn - i1 < n6 → (i1 < cn) → (i1 = i + 2 * it) → (f1 + it = 601) → (us + C1.length + i ≤ us + i1) → (pSum ks i = suL ks f1 i1 sg C1) → (¬ sg = nI 1012 → us + C1.length + 1 + i ≤ us + i1) → gg E rm_c_X5_readSum 3 X 0 0 6 [some (.ref h), some (.int sg), some (.int (nI it))] [] [gO h 5 [.ref tk, .ref dr, .int (nI i1), .int (ks i1), .int fk, .int fp], gO tk 8 [.ref c0, .ref c1, .int (nI cn)], gA E c0 601 ks, gA E c1 601 ps, gO dr 4 [.ref a0, .ref a1, .ref a2, .ref a3, .int (nI nr), .int (nI (us + C1.length))], gA E a0 12 sa, gA E a1 12 sk, gA E a2 13 st, gA E a3 600 (cdW co us C1)] := by
    intro n6
    induction n6 with
    | zero => intro it i1 f1 sg C1 hm6; exact absurd hm6 (Nat.not_lt_zero _)
    | succ n6 ih6 =>
      intro it i1 f1 sg C1 hm6 g1 g2 g3 g4 g5 g6
      refine g_iload_n C dX5_readSum_6 rfl ?_
      refine g_aload_n C dX5_readSum_7 rfl ?_
      refine g_get C i_X5 0 0 f_12 rfl rfl (by decide) rfl rfl dX5_readSum_8 ?_
      refine g_get C i_X8 1 2 f_76 rfl rfl (by decide) rfl rfl dX5_readSum_11 ?_
      refine g_icmp_ge_n (tgt := 94) C dX5_readSum_14 (by decide) (by omega) (by omega) (fun c14 => ?_) (fun c14 => ?_)
      · exact absurd c14 (by omega)
      · refine g_aload_n C dX5_readSum_17 rfl ?_
        refine g_get C i_X5 0 3 f_25 rfl rfl (by decide) rfl rfl dX5_readSum_18 ?_
        refine g_callS C (c_X5_isValue E (ks i1) ) gX5_readSum_X5_isValue rfl 1 (by decide +kernel) ⟨by decide, by decide⟩ ⟨by decide, by decide⟩ [] [0, 1, 2, 3, 4, 5, 6, 7, 8] (wr := [gO h 5 [.ref tk, .ref dr, .int (nI i1), .int (ks i1), .int fk, .int fp], gO tk 8 [.ref c0, .ref c1, .int (nI cn)], gA E c0 601 ks, gA E c1 601 ps, gO dr 4 [.ref a0, .ref a1, .ref a2, .ref a3, .int (nI nr), .int (nI (us + C1.length))], gA E a0 12 sa, gA E a1 12 sk, gA E a2 13 st, gA E a3 600 (cdW co us C1)]) rfl (by decide) rfl (by decide) (by decide) rfl rfl (Nat.le_of_ble_eq_true rfl) dX5_readSum_21 ?_
        rintro _ _ ⟨rfl, rfl⟩
        show gg E _ 3 X 0 0 24 [some (.ref h), some (.int sg), some (.int (nI it))] [.int (b2i (isV (ks i1)))] [gO h 5 [.ref tk, .ref dr, .int (nI i1), .int (ks i1), .int fk, .int fp], gO tk 8 [.ref c0, .ref c1, .int (nI cn)], gA E c0 601 ks, gA E c1 601 ps, gO dr 4 [.ref a0, .ref a1, .ref a2, .ref a3, .int (nI nr), .int (nI (us + C1.length))], gA E a0 12 sa, gA E a1 12 sk, gA E a2 13 st, gA E a3 600 (cdW co us C1)]
        refine g_if_ne (tgt := 33) C dX5_readSum_24 (by decide) (fun c24 => ?_) (fun c24 => ?_)
        · have hv := b2i_t.mp c24
          have hn2 := not_end hend g1 rfl (isV_end hv)
          refine g_aload_n C dX5_readSum_33 rfl ?_
          refine g_get C i_X5 0 1 f_21 rfl rfl (by decide) rfl rfl dX5_readSum_34 ?_
          refine g_aload_n C dX5_readSum_37 rfl ?_
          refine g_get C i_X5 0 3 f_25 rfl rfl (by decide) rfl rfl dX5_readSum_38 ?_
          refine g_callV C (c_X4_append E dr a0 a1 a2 a3 nr (us + C1.length) sa sk st (cdW co us C1) (ks i1) (by omega)) gX5_readSum_X4_append rfl 1 (by decide +kernel) ⟨by decide, by decide⟩ ⟨by decide, by decide⟩ 4 rfl rfl [4, 5, 6, 7, 8] [0, 1, 2, 3] (wr := [gO h 5 [.ref tk, .ref dr, .int (nI i1), .int (ks i1), .int fk, .int fp], gO tk 8 [.ref c0, .ref c1, .int (nI cn)], gA E c0 601 ks, gA E c1 601 ps]) rfl (by decide) rfl (by decide) (by decide) rfl rfl (Nat.le_of_ble_eq_true rfl) dX5_readSum_41 ?_
          rintro _ _ ⟨rfl, rfl⟩
          show gg E _ 3 X 0 0 44 [some (.ref h), some (.int sg), some (.int (nI it))] [] [gO h 5 [.ref tk, .ref dr, .int (nI i1), .int (ks i1), .int fk, .int fp], gO tk 8 [.ref c0, .ref c1, .int (nI cn)], gA E c0 601 ks, gA E c1 601 ps, gO dr 4 [.ref a0, .ref a1, .ref a2, .ref a3, .int (nI nr), .int (nI ((us + C1.length) + 1))], gA E a0 12 sa, gA E a1 12 sk, gA E a2 13 st, gA E a3 600 (upd (cdW co us C1) (us + C1.length) (ks i1))]
          refine g_aload_n C dX5_readSum_44 rfl ?_
          refine g_callV C (c_X5_advance E h tk c0 c1 cn dr a0 a1 a2 a3 nr ((us + C1.length) + 1) i1 ks ps sa sk st (upd (cdW co us C1) (us + C1.length) (ks i1)) fk fp (hn2) (by omega)) gX5_readSum_X5_advance rfl 0 (by decide +kernel) ⟨by decide, by decide⟩ ⟨by decide, by decide⟩ 0 rfl rfl [0, 1, 2, 3, 4, 5, 6, 7, 8] [] (wr := []) rfl (by decide) rfl (by decide) (by decide) rfl rfl (Nat.le_of_ble_eq_true rfl) dX5_readSum_45 ?_
          rintro _ _ ⟨rfl, rfl⟩
          show gg E _ 3 X 0 0 48 [some (.ref h), some (.int sg), some (.int (nI it))] [] [gO h 5 [.ref tk, .ref dr, .int (nI (i1 + 1)), .int (ks (i1 + 1)), .int fk, .int fp], gO tk 8 [.ref c0, .ref c1, .int (nI cn)], gA E c0 601 ks, gA E c1 601 ps, gO dr 4 [.ref a0, .ref a1, .ref a2, .ref a3, .int (nI nr), .int (nI ((us + C1.length) + 1))], gA E a0 12 sa, gA E a1 12 sk, gA E a2 13 st, gA E a3 600 (upd (cdW co us C1) (us + C1.length) (ks i1))]
          refine g_iload_n C dX5_readSum_48 rfl ?_
          refine g_sipush (v := nI 1012) C dX5_readSum_49 (by decide) ?_
          refine g_icmp_eq (tgt := 63) C dX5_readSum_52 (by decide) (fun c52 => ?_) (fun c52 => ?_)
          · have hsg : sgL sg = [] := by rw [sgL, if_pos c52]
            have e1 : us + C1.length + 1 = us + (C1 ++ [ks i1] ++ sgL sg).length := by rw [hsg, List.append_nil, List.length_append]; rfl
            have e2 : upd (cdW co us C1) (us + C1.length) (ks i1) = cdW co us (C1 ++ [ks i1] ++ sgL sg) := by rw [hsg, List.append_nil, cdW_snoc]
            have hlen2 : us + (C1 ++ [ks i1] ++ sgL sg).length + i ≤ us + (i1 + 1) := by rw [← e1]; omega
            have hlen3 : us + (C1 ++ [ks i1] ++ sgL sg).length + 1 + i ≤ us + (i1 + 2) := by omega
            have hlen2 : us + (C1 ++ [ks i1] ++ sgL sg).length + i ≤ us + (i1 + 2) := by omega
            rw [e1, e2]
            refine g_aload_n C dX5_readSum_63 rfl ?_
            refine g_get C i_X5 0 3 f_25 rfl rfl (by decide) rfl rfl dX5_readSum_64 ?_
            refine g_istore_n C dX5_readSum_67 (by decide) rfl (ll' := [some (.ref h), some (.int (ks (i1 + 1))), some (.int (nI it))]) rfl ?_
            refine g_iload_n C dX5_readSum_68 rfl ?_
            refine g_sipush (v := nI 1143) C dX5_readSum_69 (by decide) ?_
            refine g_icmp_eq (tgt := 84) C dX5_readSum_72 (by decide) (fun c72 => ?_) (fun c72 => ?_)
            · have hn3 : i1 + 2 < cn := not_end hend hn2 rfl (fun e => by rw [c72] at e; exact absurd e (by decide))
              have hnx : pSum ks i = suL ks (f1 - 1) (i1 + 2) (ks (i1 + 1)) (C1 ++ [ks i1] ++ sgL sg) := by
                rw [g5, show f1 = f1 - 1 + 1 by omega, suL, if_pos hv, if_pos (Or.inl c72)]
                rfl
              refine g_aload_n C dX5_readSum_84 rfl ?_
              refine g_callV C (c_X5_advance E h tk c0 c1 cn dr a0 a1 a2 a3 nr (us + (C1 ++ [ks i1] ++ sgL sg).length) (i1 + 1) ks ps sa sk st (cdW co us (C1 ++ [ks i1] ++ sgL sg)) fk fp (hn3) (by omega)) gX5_readSum_X5_advance rfl 0 (by decide +kernel) ⟨by decide, by decide⟩ ⟨by decide, by decide⟩ 0 rfl rfl [0, 1, 2, 3, 4, 5, 6, 7, 8] [] (wr := []) rfl (by decide) rfl (by decide) (by decide) rfl rfl (Nat.le_of_ble_eq_true rfl) dX5_readSum_85 ?_
              rintro _ _ ⟨rfl, rfl⟩
              show gg E _ 3 X 0 0 88 [some (.ref h), some (.int (ks (i1 + 1))), some (.int (nI it))] [] [gO h 5 [.ref tk, .ref dr, .int (nI ((i1 + 1) + 1)), .int (ks ((i1 + 1) + 1)), .int fk, .int fp], gO tk 8 [.ref c0, .ref c1, .int (nI cn)], gA E c0 601 ks, gA E c1 601 ps, gO dr 4 [.ref a0, .ref a1, .ref a2, .ref a3, .int (nI nr), .int (nI (us + (C1 ++ [ks i1] ++ sgL sg).length))], gA E a0 12 sa, gA E a1 12 sk, gA E a2 13 st, gA E a3 600 (cdW co us (C1 ++ [ks i1] ++ sgL sg))]
              refine g_iinc_n (y := 1) C dX5_readSum_88 rfl (by decide) (by decide) rfl (ll' := [some (.ref h), some (.int (ks (i1 + 1))), some (.int (nI (it + 1)))]) rfl ?_
              refine g_goto (tgt := 6) C dX5_readSum_91 (by decide) ?_
              exact ih6 (it + 1) ((i1 + 1) + 1) (f1 - 1) (ks (i1 + 1)) (C1 ++ [ks i1] ++ sgL sg) (by omega) (hn3) (by omega) (by omega) (hlen2) (hnx) (fun _ => hlen3)
            · refine g_iload_n C dX5_readSum_75 rfl ?_
              refine g_sipush (v := nI 1145) C dX5_readSum_76 (by decide) ?_
              refine g_icmp_eq (tgt := 84) C dX5_readSum_79 (by decide) (fun c79 => ?_) (fun c79 => ?_)
              · have hn3 : i1 + 2 < cn := not_end hend hn2 rfl (fun e => by rw [c79] at e; exact absurd e (by decide))
                have hnx : pSum ks i = suL ks (f1 - 1) (i1 + 2) (ks (i1 + 1)) (C1 ++ [ks i1] ++ sgL sg) := by
                  rw [g5, show f1 = f1 - 1 + 1 by omega, suL, if_pos hv, if_pos (Or.inr c79)]
                  rfl
                refine g_aload_n C dX5_readSum_84 rfl ?_
                refine g_callV C (c_X5_advance E h tk c0 c1 cn dr a0 a1 a2 a3 nr (us + (C1 ++ [ks i1] ++ sgL sg).length) (i1 + 1) ks ps sa sk st (cdW co us (C1 ++ [ks i1] ++ sgL sg)) fk fp (hn3) (by omega)) gX5_readSum_X5_advance rfl 0 (by decide +kernel) ⟨by decide, by decide⟩ ⟨by decide, by decide⟩ 0 rfl rfl [0, 1, 2, 3, 4, 5, 6, 7, 8] [] (wr := []) rfl (by decide) rfl (by decide) (by decide) rfl rfl (Nat.le_of_ble_eq_true rfl) dX5_readSum_85 ?_
                rintro _ _ ⟨rfl, rfl⟩
                show gg E _ 3 X 0 0 88 [some (.ref h), some (.int (ks (i1 + 1))), some (.int (nI it))] [] [gO h 5 [.ref tk, .ref dr, .int (nI ((i1 + 1) + 1)), .int (ks ((i1 + 1) + 1)), .int fk, .int fp], gO tk 8 [.ref c0, .ref c1, .int (nI cn)], gA E c0 601 ks, gA E c1 601 ps, gO dr 4 [.ref a0, .ref a1, .ref a2, .ref a3, .int (nI nr), .int (nI (us + (C1 ++ [ks i1] ++ sgL sg).length))], gA E a0 12 sa, gA E a1 12 sk, gA E a2 13 st, gA E a3 600 (cdW co us (C1 ++ [ks i1] ++ sgL sg))]
                refine g_iinc_n (y := 1) C dX5_readSum_88 rfl (by decide) (by decide) rfl (ll' := [some (.ref h), some (.int (ks (i1 + 1))), some (.int (nI (it + 1)))]) rfl ?_
                refine g_goto (tgt := 6) C dX5_readSum_91 (by decide) ?_
                exact ih6 (it + 1) ((i1 + 1) + 1) (f1 - 1) (ks (i1 + 1)) (C1 ++ [ks i1] ++ sgL sg) (by omega) (hn3) (by omega) (by omega) (hlen2) (hnx) (fun _ => hlen3)
              · refine g_iconst (v := nI 1) C dX5_readSum_82 (by decide) ?_
                exact g_zret C Rt dX5_readSum_83 (by decide) (by decide) (by decide) (⟨true, _, _, _, _, _, rfl, rfl, rdQ_ok (by rw [g5, show f1 = f1 - 1 + 1 by omega, suL, if_pos hv, if_neg (fun z => z.elim c72 c79)]) (by omega) hn2 (by omega) rfl rfl⟩)
          · refine g_aload_n C dX5_readSum_55 rfl ?_
            refine g_get C i_X5 0 1 f_21 rfl rfl (by decide) rfl rfl dX5_readSum_56 ?_
            refine g_iload_n C dX5_readSum_59 rfl ?_
            refine g_callV C (c_X4_append E dr a0 a1 a2 a3 nr ((us + C1.length) + 1) sa sk st (upd (cdW co us C1) (us + C1.length) (ks i1)) sg (by have := g6 c52; omega)) gX5_readSum_X4_append rfl 1 (by decide +kernel) ⟨by decide, by decide⟩ ⟨by decide, by decide⟩ 4 rfl rfl [4, 5, 6, 7, 8] [0, 1, 2, 3] (wr := [gO h 5 [.ref tk, .ref dr, .int (nI (i1 + 1)), .int (ks (i1 + 1)), .int fk, .int fp], gO tk 8 [.ref c0, .ref c1, .int (nI cn)], gA E c0 601 ks, gA E c1 601 ps]) rfl (by decide) rfl (by decide) (by decide) rfl rfl (Nat.le_of_ble_eq_true rfl) dX5_readSum_60 ?_
            rintro _ _ ⟨rfl, rfl⟩
            show gg E _ 3 X 0 0 63 [some (.ref h), some (.int sg), some (.int (nI it))] [] [gO h 5 [.ref tk, .ref dr, .int (nI (i1 + 1)), .int (ks (i1 + 1)), .int fk, .int fp], gO tk 8 [.ref c0, .ref c1, .int (nI cn)], gA E c0 601 ks, gA E c1 601 ps, gO dr 4 [.ref a0, .ref a1, .ref a2, .ref a3, .int (nI nr), .int (nI (((us + C1.length) + 1) + 1))], gA E a0 12 sa, gA E a1 12 sk, gA E a2 13 st, gA E a3 600 (upd (upd (cdW co us C1) (us + C1.length) (ks i1)) ((us + C1.length) + 1) sg)]
            have hsg : sgL sg = [sg] := by rw [sgL, if_neg c52]
            have e1 : us + C1.length + 1 + 1 = us + (C1 ++ [ks i1] ++ sgL sg).length := by rw [hsg, List.length_append, List.length_append]; rfl
            have e2 : upd (upd (cdW co us C1) (us + C1.length) (ks i1)) (us + C1.length + 1) sg = cdW co us (C1 ++ [ks i1] ++ sgL sg) := by rw [hsg, cdW_snoc, cdW_snoc, List.length_append]; rfl
            have hlen2 : us + (C1 ++ [ks i1] ++ sgL sg).length + i ≤ us + (i1 + 1) := by rw [← e1]; have := g6 c52; omega
            have hlen3 : us + (C1 ++ [ks i1] ++ sgL sg).length + 1 + i ≤ us + (i1 + 2) := by omega
            have hlen2 : us + (C1 ++ [ks i1] ++ sgL sg).length + i ≤ us + (i1 + 2) := by omega
            rw [e1, e2]
            refine g_aload_n C dX5_readSum_63 rfl ?_
            refine g_get C i_X5 0 3 f_25 rfl rfl (by decide) rfl rfl dX5_readSum_64 ?_
            refine g_istore_n C dX5_readSum_67 (by decide) rfl (ll' := [some (.ref h), some (.int (ks (i1 + 1))), some (.int (nI it))]) rfl ?_
            refine g_iload_n C dX5_readSum_68 rfl ?_
            refine g_sipush (v := nI 1143) C dX5_readSum_69 (by decide) ?_
            refine g_icmp_eq (tgt := 84) C dX5_readSum_72 (by decide) (fun c72 => ?_) (fun c72 => ?_)
            · have hn3 : i1 + 2 < cn := not_end hend hn2 rfl (fun e => by rw [c72] at e; exact absurd e (by decide))
              have hnx : pSum ks i = suL ks (f1 - 1) (i1 + 2) (ks (i1 + 1)) (C1 ++ [ks i1] ++ sgL sg) := by
                rw [g5, show f1 = f1 - 1 + 1 by omega, suL, if_pos hv, if_pos (Or.inl c72)]
                rfl
              refine g_aload_n C dX5_readSum_84 rfl ?_
              refine g_callV C (c_X5_advance E h tk c0 c1 cn dr a0 a1 a2 a3 nr (us + (C1 ++ [ks i1] ++ sgL sg).length) (i1 + 1) ks ps sa sk st (cdW co us (C1 ++ [ks i1] ++ sgL sg)) fk fp (hn3) (by omega)) gX5_readSum_X5_advance rfl 0 (by decide +kernel) ⟨by decide, by decide⟩ ⟨by decide, by decide⟩ 0 rfl rfl [0, 1, 2, 3, 4, 5, 6, 7, 8] [] (wr := []) rfl (by decide) rfl (by decide) (by decide) rfl rfl (Nat.le_of_ble_eq_true rfl) dX5_readSum_85 ?_
              rintro _ _ ⟨rfl, rfl⟩
              show gg E _ 3 X 0 0 88 [some (.ref h), some (.int (ks (i1 + 1))), some (.int (nI it))] [] [gO h 5 [.ref tk, .ref dr, .int (nI ((i1 + 1) + 1)), .int (ks ((i1 + 1) + 1)), .int fk, .int fp], gO tk 8 [.ref c0, .ref c1, .int (nI cn)], gA E c0 601 ks, gA E c1 601 ps, gO dr 4 [.ref a0, .ref a1, .ref a2, .ref a3, .int (nI nr), .int (nI (us + (C1 ++ [ks i1] ++ sgL sg).length))], gA E a0 12 sa, gA E a1 12 sk, gA E a2 13 st, gA E a3 600 (cdW co us (C1 ++ [ks i1] ++ sgL sg))]
              refine g_iinc_n (y := 1) C dX5_readSum_88 rfl (by decide) (by decide) rfl (ll' := [some (.ref h), some (.int (ks (i1 + 1))), some (.int (nI (it + 1)))]) rfl ?_
              refine g_goto (tgt := 6) C dX5_readSum_91 (by decide) ?_
              exact ih6 (it + 1) ((i1 + 1) + 1) (f1 - 1) (ks (i1 + 1)) (C1 ++ [ks i1] ++ sgL sg) (by omega) (hn3) (by omega) (by omega) (hlen2) (hnx) (fun _ => hlen3)
            · refine g_iload_n C dX5_readSum_75 rfl ?_
              refine g_sipush (v := nI 1145) C dX5_readSum_76 (by decide) ?_
              refine g_icmp_eq (tgt := 84) C dX5_readSum_79 (by decide) (fun c79 => ?_) (fun c79 => ?_)
              · have hn3 : i1 + 2 < cn := not_end hend hn2 rfl (fun e => by rw [c79] at e; exact absurd e (by decide))
                have hnx : pSum ks i = suL ks (f1 - 1) (i1 + 2) (ks (i1 + 1)) (C1 ++ [ks i1] ++ sgL sg) := by
                  rw [g5, show f1 = f1 - 1 + 1 by omega, suL, if_pos hv, if_pos (Or.inr c79)]
                  rfl
                refine g_aload_n C dX5_readSum_84 rfl ?_
                refine g_callV C (c_X5_advance E h tk c0 c1 cn dr a0 a1 a2 a3 nr (us + (C1 ++ [ks i1] ++ sgL sg).length) (i1 + 1) ks ps sa sk st (cdW co us (C1 ++ [ks i1] ++ sgL sg)) fk fp (hn3) (by omega)) gX5_readSum_X5_advance rfl 0 (by decide +kernel) ⟨by decide, by decide⟩ ⟨by decide, by decide⟩ 0 rfl rfl [0, 1, 2, 3, 4, 5, 6, 7, 8] [] (wr := []) rfl (by decide) rfl (by decide) (by decide) rfl rfl (Nat.le_of_ble_eq_true rfl) dX5_readSum_85 ?_
                rintro _ _ ⟨rfl, rfl⟩
                show gg E _ 3 X 0 0 88 [some (.ref h), some (.int (ks (i1 + 1))), some (.int (nI it))] [] [gO h 5 [.ref tk, .ref dr, .int (nI ((i1 + 1) + 1)), .int (ks ((i1 + 1) + 1)), .int fk, .int fp], gO tk 8 [.ref c0, .ref c1, .int (nI cn)], gA E c0 601 ks, gA E c1 601 ps, gO dr 4 [.ref a0, .ref a1, .ref a2, .ref a3, .int (nI nr), .int (nI (us + (C1 ++ [ks i1] ++ sgL sg).length))], gA E a0 12 sa, gA E a1 12 sk, gA E a2 13 st, gA E a3 600 (cdW co us (C1 ++ [ks i1] ++ sgL sg))]
                refine g_iinc_n (y := 1) C dX5_readSum_88 rfl (by decide) (by decide) rfl (ll' := [some (.ref h), some (.int (ks (i1 + 1))), some (.int (nI (it + 1)))]) rfl ?_
                refine g_goto (tgt := 6) C dX5_readSum_91 (by decide) ?_
                exact ih6 (it + 1) ((i1 + 1) + 1) (f1 - 1) (ks (i1 + 1)) (C1 ++ [ks i1] ++ sgL sg) (by omega) (hn3) (by omega) (by omega) (hlen2) (hnx) (fun _ => hlen3)
              · refine g_iconst (v := nI 1) C dX5_readSum_82 (by decide) ?_
                exact g_zret C Rt dX5_readSum_83 (by decide) (by decide) (by decide) (⟨true, _, _, _, _, _, rfl, rfl, rdQ_ok (by rw [g5, show f1 = f1 - 1 + 1 by omega, suL, if_pos hv, if_neg (fun z => z.elim c72 c79)]) (by omega) hn2 (by omega) rfl rfl⟩)
        · have hbad : pSum ks i = .error (1, i1) := by rw [g5, show f1 = f1 - 1 + 1 by omega, suL, if_neg (by rw [b2i_f.mp c24]; decide)]
          refine g_aload_n C dX5_readSum_27 rfl ?_
          refine g_iconst (v := nI 1) C dX5_readSum_28 (by decide) ?_
          refine g_callV C (c_X5_refuse E h tk c0 c1 cn dr a0 a1 a2 a3 nr (us + C1.length) i1 ks ps sa sk st (cdW co us C1) fk fp 1 (by omega) (by omega)) gX5_readSum_X5_refuse rfl 1 (by decide +kernel) ⟨by decide, by decide⟩ ⟨by decide, by decide⟩ 0 rfl rfl [0, 1, 2, 3, 4, 5, 6, 7, 8] [] (wr := []) rfl (by decide) rfl (by decide) (by decide) rfl rfl (Nat.le_of_ble_eq_true rfl) dX5_readSum_29 ?_
          rintro _ _ ⟨rfl, rfl⟩
          show gg E _ 3 X 0 0 32 [some (.ref h), some (.int sg), some (.int (nI it))] [.int (nI 0)] [gO h 5 [.ref tk, .ref dr, .int (nI i1), .int (ks i1), .int (nI 1), .int (ps i1)], gO tk 8 [.ref c0, .ref c1, .int (nI cn)], gA E c0 601 ks, gA E c1 601 ps, gO dr 4 [.ref a0, .ref a1, .ref a2, .ref a3, .int (nI nr), .int (nI (us + C1.length))], gA E a0 12 sa, gA E a1 12 sk, gA E a2 13 st, gA E a3 600 (cdW co us C1)]
          exact g_zret C Rt dX5_readSum_32 (by decide) (by decide) (by decide) (⟨false, _, _, _, _, _, rfl, rfl, rdQ_er hbad (by omega) g1 g4 g1⟩)
  exact L6 _ 0 i 601 (nI 1012) ([]) (Nat.lt_succ_self _) (by omega) (by omega) (by omega) (by simp) (rfl) (fun z => absurd rfl z)

