/-! SMALL CLASSES: Tape, Out, Page, RuleBook, Judge's pile, Texts -/
/-- four bytes of a number, from its top -/
def tk4 (t : Nat → Int32) (n : Nat) (x : Int32) : Nat → Int32 := upd (upd (upd (upd t n ((x >>> (nI 24 &&& 31)) &&& nI 255)) (n + 1) ((x >>> (nI 16 &&& 31)) &&& nI 255)) (n + 1 + 1) ((x >>> (nI 8 &&& 31)) &&& nI 255)) (n + 1 + 1 + 1) ((x >>> (nI 0 &&& 31)) &&& nI 255)
/-- a page of n lines has one of the skill and the sort -/
def hsS (sa sk : Nat → Int32) (s t : Int32) : Nat → Bool
  | 0 => false
  | i + 1 => hsS sa sk s t i || decide (sk i = s ∧ sa i / nI 10 = t)
theorem hsS_true {sa sk : Nat → Int32} {s t : Int32} {j : Nat} (h : sk j = s ∧ sa j / nI 10 = t) : ∀ {n : Nat}, j < n → hsS sa sk s t n = true
  | 0, q => absurd q (Nat.not_lt_zero j)
  | n + 1, q => by
    rw [hsS]
    by_cases e : j = n
    · subst e
      simp [h]
    · rw [hsS_true h (show j < n by omega)]
      rfl
/-- two pages' first n lines are the same -/
def smL (sa sk sa2 sk2 : Nat → Int32) : Nat → Bool
  | 0 => true
  | i + 1 => smL sa sk sa2 sk2 i && decide (sa i = sa2 i ∧ sk i = sk2 i)
theorem smL_false {sa sk sa2 sk2 : Nat → Int32} {j : Nat} (h : ¬ (sa j = sa2 j ∧ sk j = sk2 j)) : ∀ {n : Nat}, j < n → smL sa sk sa2 sk2 n = false
  | 0, q => absurd q (Nat.not_lt_zero j)
  | n + 1, q => by
    rw [smL]
    by_cases e : j = n
    · subst e
      simp [h]
    · rw [smL_false h (show j < n by omega)]
      rfl

abbrev rm_c_X6_take : Room := { frames := 0, cells := 0, slots := 0, locals := 0 }
set_option maxHeartbeats 4000000 in
set_option maxRecDepth 100000 in
theorem c_X6_take (E : gE) (h b n : Nat) (t : Nat → Int32) (x : Int32) (hn : n + 4 ≤ 600) : MM E yX6_take wsX6_take rm_c_X6_take [.ref h, .int x] [gO h 6 [.ref b, .int (nI n)], gA E b 600 t] (fun rv_ ru_ => rv_ = none ∧ ru_ = [gO h 6 [.ref b, .int (nI (n + 4))], gA E b 600 (tk4 t n x)]) := by
  refine MM.ofG (cc := cX6_take) (maxL := 3) (ret := none) (by decide) rfl (Nat.le_of_ble_eq_true rfl) (ll := [some (.ref h), some (.int x), none]) rfl ?_
  intro X C Rt
  have C : gx E X cX6_take 3 wsX6_take RX6 := C
  have i_X6 : ∀ w ∈ u_ws RX6 TX6 2, w ∈ wsX6_take := by decide +kernel
  have f_15 : Cond.fieldLink RX6 15 "MarkPages$Tape" "count" "I" ∈ wsX6_take := by decide +kernel
  have f_9 : Cond.fieldLink RX6 9 "MarkPages$Tape" "bytes" "[I" ∈ wsX6_take := by decide +kernel
  refine g_bipush (v := nI 24) C dX6_take_0 (by decide) ?_
  refine g_istore_n C dX6_take_2 (by decide) rfl (ll' := [some (.ref h), some (.int x), some (.int (nI 24))]) rfl ?_
  refine g_iload_n C dX6_take_3 rfl ?_
  refine g_if_lt (tgt := 49) C dX6_take_4 (by decide) (fun c4 => absurd c4 (by decide)) (fun c4 => ?_)
  refine g_aload_n C dX6_take_7 rfl ?_
  refine g_get C i_X6 0 1 f_15 rfl rfl (by decide) rfl rfl dX6_take_8 ?_
  refine g_sipush (v := nI 600) C dX6_take_11 (by decide) ?_
  refine g_icmp_ge_n (tgt := 49) C dX6_take_14 (by decide) (by omega) (by omega) (fun c14 => ?_) (fun c14 => ?_)
  · exact absurd c14 (by omega)
  · refine g_aload_n C dX6_take_17 rfl ?_
    refine g_get C i_X6 0 0 f_9 rfl rfl (by decide) rfl rfl dX6_take_18 ?_
    refine g_aload_n C dX6_take_21 rfl ?_
    refine g_get C i_X6 0 1 f_15 rfl rfl (by decide) rfl rfl dX6_take_22 ?_
    refine g_iload_n C dX6_take_25 rfl ?_
    refine g_iload_n C dX6_take_26 rfl ?_
    refine g_ishr C dX6_take_27 ?_
    refine g_sipush (v := nI 255) C dX6_take_28 (by decide) ?_
    refine g_iand C dX6_take_31 ?_
    refine g_iast C 1 n rfl rfl (by omega) (by decide) dX6_take_32 (ws' := [gO h 6 [.ref b, .int (nI n)], gA E b 600 (upd t n ((x >>> ((nI 24) &&& 31)) &&& (nI 255)))]) rfl ?_
    refine g_aload_n C dX6_take_33 rfl ?_
    refine g_dup C dX6_take_34 rfl ?_
    refine g_get C i_X6 0 1 f_15 rfl rfl (by decide) rfl rfl dX6_take_35 ?_
    refine g_iconst (v := nI 1) C dX6_take_38 (by decide) ?_
    refine g_iadd_n C dX6_take_39 ?_
    refine g_put C i_X6 tyX6 tyX6_ok nmX6 0 1 f_15 rfl rfl (by decide) rfl rfl rfl rfl rfl (Nat.le_of_ble_eq_true rfl) dX6_take_40 (ws' := [gO h 6 [.ref b, .int (nI (n + 1))], gA E b 600 (upd t n ((x >>> ((nI 24) &&& 31)) &&& (nI 255)))]) rfl ?_
    refine g_iinc (v := nI 16) C dX6_take_43 rfl (by decide) (by decide) rfl (ll' := [some (.ref h), some (.int x), some (.int (nI 16))]) rfl ?_
    refine g_goto (tgt := 3) C dX6_take_46 (by decide) ?_
    refine g_iload_n C dX6_take_3 rfl ?_
    refine g_if_lt (tgt := 49) C dX6_take_4 (by decide) (fun c4 => absurd c4 (by decide)) (fun c4 => ?_)
    refine g_aload_n C dX6_take_7 rfl ?_
    refine g_get C i_X6 0 1 f_15 rfl rfl (by decide) rfl rfl dX6_take_8 ?_
    refine g_sipush (v := nI 600) C dX6_take_11 (by decide) ?_
    refine g_icmp_ge_n (tgt := 49) C dX6_take_14 (by decide) (by omega) (by omega) (fun c14 => ?_) (fun c14 => ?_)
    · exact absurd c14 (by omega)
    · refine g_aload_n C dX6_take_17 rfl ?_
      refine g_get C i_X6 0 0 f_9 rfl rfl (by decide) rfl rfl dX6_take_18 ?_
      refine g_aload_n C dX6_take_21 rfl ?_
      refine g_get C i_X6 0 1 f_15 rfl rfl (by decide) rfl rfl dX6_take_22 ?_
      refine g_iload_n C dX6_take_25 rfl ?_
      refine g_iload_n C dX6_take_26 rfl ?_
      refine g_ishr C dX6_take_27 ?_
      refine g_sipush (v := nI 255) C dX6_take_28 (by decide) ?_
      refine g_iand C dX6_take_31 ?_
      refine g_iast C 1 (n + 1) rfl rfl (by omega) (by decide) dX6_take_32 (ws' := [gO h 6 [.ref b, .int (nI (n + 1))], gA E b 600 (upd (upd t n ((x >>> ((nI 24) &&& 31)) &&& (nI 255))) (n + 1) ((x >>> ((nI 16) &&& 31)) &&& (nI 255)))]) rfl ?_
      refine g_aload_n C dX6_take_33 rfl ?_
      refine g_dup C dX6_take_34 rfl ?_
      refine g_get C i_X6 0 1 f_15 rfl rfl (by decide) rfl rfl dX6_take_35 ?_
      refine g_iconst (v := nI 1) C dX6_take_38 (by decide) ?_
      refine g_iadd_n C dX6_take_39 ?_
      refine g_put C i_X6 tyX6 tyX6_ok nmX6 0 1 f_15 rfl rfl (by decide) rfl rfl rfl rfl rfl (Nat.le_of_ble_eq_true rfl) dX6_take_40 (ws' := [gO h 6 [.ref b, .int (nI ((n + 1) + 1))], gA E b 600 (upd (upd t n ((x >>> ((nI 24) &&& 31)) &&& (nI 255))) (n + 1) ((x >>> ((nI 16) &&& 31)) &&& (nI 255)))]) rfl ?_
      refine g_iinc (v := nI 8) C dX6_take_43 rfl (by decide) (by decide) rfl (ll' := [some (.ref h), some (.int x), some (.int (nI 8))]) rfl ?_
      refine g_goto (tgt := 3) C dX6_take_46 (by decide) ?_
      refine g_iload_n C dX6_take_3 rfl ?_
      refine g_if_lt (tgt := 49) C dX6_take_4 (by decide) (fun c4 => absurd c4 (by decide)) (fun c4 => ?_)
      refine g_aload_n C dX6_take_7 rfl ?_
      refine g_get C i_X6 0 1 f_15 rfl rfl (by decide) rfl rfl dX6_take_8 ?_
      refine g_sipush (v := nI 600) C dX6_take_11 (by decide) ?_
      refine g_icmp_ge_n (tgt := 49) C dX6_take_14 (by decide) (by omega) (by omega) (fun c14 => ?_) (fun c14 => ?_)
      · exact absurd c14 (by omega)
      · refine g_aload_n C dX6_take_17 rfl ?_
        refine g_get C i_X6 0 0 f_9 rfl rfl (by decide) rfl rfl dX6_take_18 ?_
        refine g_aload_n C dX6_take_21 rfl ?_
        refine g_get C i_X6 0 1 f_15 rfl rfl (by decide) rfl rfl dX6_take_22 ?_
        refine g_iload_n C dX6_take_25 rfl ?_
        refine g_iload_n C dX6_take_26 rfl ?_
        refine g_ishr C dX6_take_27 ?_
        refine g_sipush (v := nI 255) C dX6_take_28 (by decide) ?_
        refine g_iand C dX6_take_31 ?_
        refine g_iast C 1 ((n + 1) + 1) rfl rfl (by omega) (by decide) dX6_take_32 (ws' := [gO h 6 [.ref b, .int (nI ((n + 1) + 1))], gA E b 600 (upd (upd (upd t n ((x >>> ((nI 24) &&& 31)) &&& (nI 255))) (n + 1) ((x >>> ((nI 16) &&& 31)) &&& (nI 255))) ((n + 1) + 1) ((x >>> ((nI 8) &&& 31)) &&& (nI 255)))]) rfl ?_
        refine g_aload_n C dX6_take_33 rfl ?_
        refine g_dup C dX6_take_34 rfl ?_
        refine g_get C i_X6 0 1 f_15 rfl rfl (by decide) rfl rfl dX6_take_35 ?_
        refine g_iconst (v := nI 1) C dX6_take_38 (by decide) ?_
        refine g_iadd_n C dX6_take_39 ?_
        refine g_put C i_X6 tyX6 tyX6_ok nmX6 0 1 f_15 rfl rfl (by decide) rfl rfl rfl rfl rfl (Nat.le_of_ble_eq_true rfl) dX6_take_40 (ws' := [gO h 6 [.ref b, .int (nI (((n + 1) + 1) + 1))], gA E b 600 (upd (upd (upd t n ((x >>> ((nI 24) &&& 31)) &&& (nI 255))) (n + 1) ((x >>> ((nI 16) &&& 31)) &&& (nI 255))) ((n + 1) + 1) ((x >>> ((nI 8) &&& 31)) &&& (nI 255)))]) rfl ?_
        refine g_iinc (v := nI 0) C dX6_take_43 rfl (by decide) (by decide) rfl (ll' := [some (.ref h), some (.int x), some (.int (nI 0))]) rfl ?_
        refine g_goto (tgt := 3) C dX6_take_46 (by decide) ?_
        refine g_iload_n C dX6_take_3 rfl ?_
        refine g_if_lt (tgt := 49) C dX6_take_4 (by decide) (fun c4 => absurd c4 (by decide)) (fun c4 => ?_)
        refine g_aload_n C dX6_take_7 rfl ?_
        refine g_get C i_X6 0 1 f_15 rfl rfl (by decide) rfl rfl dX6_take_8 ?_
        refine g_sipush (v := nI 600) C dX6_take_11 (by decide) ?_
        refine g_icmp_ge_n (tgt := 49) C dX6_take_14 (by decide) (by omega) (by omega) (fun c14 => ?_) (fun c14 => ?_)
        · exact absurd c14 (by omega)
        · refine g_aload_n C dX6_take_17 rfl ?_
          refine g_get C i_X6 0 0 f_9 rfl rfl (by decide) rfl rfl dX6_take_18 ?_
          refine g_aload_n C dX6_take_21 rfl ?_
          refine g_get C i_X6 0 1 f_15 rfl rfl (by decide) rfl rfl dX6_take_22 ?_
          refine g_iload_n C dX6_take_25 rfl ?_
          refine g_iload_n C dX6_take_26 rfl ?_
          refine g_ishr C dX6_take_27 ?_
          refine g_sipush (v := nI 255) C dX6_take_28 (by decide) ?_
          refine g_iand C dX6_take_31 ?_
          refine g_iast C 1 (((n + 1) + 1) + 1) rfl rfl (by omega) (by decide) dX6_take_32 (ws' := [gO h 6 [.ref b, .int (nI (((n + 1) + 1) + 1))], gA E b 600 (upd (upd (upd (upd t n ((x >>> ((nI 24) &&& 31)) &&& (nI 255))) (n + 1) ((x >>> ((nI 16) &&& 31)) &&& (nI 255))) ((n + 1) + 1) ((x >>> ((nI 8) &&& 31)) &&& (nI 255))) (((n + 1) + 1) + 1) ((x >>> ((nI 0) &&& 31)) &&& (nI 255)))]) rfl ?_
          refine g_aload_n C dX6_take_33 rfl ?_
          refine g_dup C dX6_take_34 rfl ?_
          refine g_get C i_X6 0 1 f_15 rfl rfl (by decide) rfl rfl dX6_take_35 ?_
          refine g_iconst (v := nI 1) C dX6_take_38 (by decide) ?_
          refine g_iadd_n C dX6_take_39 ?_
          refine g_put C i_X6 tyX6 tyX6_ok nmX6 0 1 f_15 rfl rfl (by decide) rfl rfl rfl rfl rfl (Nat.le_of_ble_eq_true rfl) dX6_take_40 (ws' := [gO h 6 [.ref b, .int (nI ((((n + 1) + 1) + 1) + 1))], gA E b 600 (upd (upd (upd (upd t n ((x >>> ((nI 24) &&& 31)) &&& (nI 255))) (n + 1) ((x >>> ((nI 16) &&& 31)) &&& (nI 255))) ((n + 1) + 1) ((x >>> ((nI 8) &&& 31)) &&& (nI 255))) (((n + 1) + 1) + 1) ((x >>> ((nI 0) &&& 31)) &&& (nI 255)))]) rfl ?_
          refine g_iinc (v := (-8)) C dX6_take_43 rfl (by decide) (by decide) rfl (ll' := [some (.ref h), some (.int x), some (.int (-8))]) rfl ?_
          refine g_goto (tgt := 3) C dX6_take_46 (by decide) ?_
          refine g_iload_n C dX6_take_3 rfl ?_
          refine g_if_lt (tgt := 49) C dX6_take_4 (by decide) (fun c4 => ?_) (fun c4 => absurd c4 (by decide))
          exact g_vret C Rt dX6_take_49 (by decide) (by decide) (⟨rfl, rfl⟩)

abbrev rm_c_X1_put : Room := { frames := 0, cells := 0, slots := 0, locals := 0 }
set_option maxHeartbeats 4000000 in
set_option maxRecDepth 100000 in
theorem c_X1_put (E : gE) (h b n : Nat) (o : Nat → Int32) (x : Int32) (hn : n < 2412) : MM E yX1_put wsX1_put rm_c_X1_put [.ref h, .int x] [gO h 1 [.ref b, .int (nI n)], gA E b 2412 o] (fun rv_ ru_ => rv_ = none ∧ ru_ = [gO h 1 [.ref b, .int (nI (n + 1))], gA E b 2412 (upd o n x)]) := by
  refine MM.ofG (cc := cX1_put) (maxL := 2) (ret := none) (by decide) rfl (Nat.le_of_ble_eq_true rfl) (ll := [some (.ref h), some (.int x)]) rfl ?_
  intro X C Rt
  have C : gx E X cX1_put 2 wsX1_put RX1 := C
  have i_X1 : ∀ w ∈ u_ws RX1 TX1 2, w ∈ wsX1_put := by decide +kernel
  have f_15 : Cond.fieldLink RX1 15 "MarkPages$Out" "count" "I" ∈ wsX1_put := by decide +kernel
  have f_9 : Cond.fieldLink RX1 9 "MarkPages$Out" "bytes" "[I" ∈ wsX1_put := by decide +kernel
  refine g_aload_n C dX1_put_0 rfl ?_
  refine g_get C i_X1 0 1 f_15 rfl rfl (by decide) rfl rfl dX1_put_1 ?_
  refine g_sipush (v := nI 2412) C dX1_put_4 (by decide) ?_
  refine g_icmp_ge_n (tgt := 30) C dX1_put_7 (by decide) (by omega) (by omega) (fun c7 => ?_) (fun c7 => ?_)
  · exact absurd c7 (by omega)
  · refine g_aload_n C dX1_put_10 rfl ?_
    refine g_get C i_X1 0 0 f_9 rfl rfl (by decide) rfl rfl dX1_put_11 ?_
    refine g_aload_n C dX1_put_14 rfl ?_
    refine g_get C i_X1 0 1 f_15 rfl rfl (by decide) rfl rfl dX1_put_15 ?_
    refine g_iload_n C dX1_put_18 rfl ?_
    refine g_iast C 1 n rfl rfl (by omega) (by decide) dX1_put_19 (ws' := [gO h 1 [.ref b, .int (nI n)], gA E b 2412 (upd o n x)]) rfl ?_
    refine g_aload_n C dX1_put_20 rfl ?_
    refine g_dup C dX1_put_21 rfl ?_
    refine g_get C i_X1 0 1 f_15 rfl rfl (by decide) rfl rfl dX1_put_22 ?_
    refine g_iconst (v := nI 1) C dX1_put_25 (by decide) ?_
    refine g_iadd_n C dX1_put_26 ?_
    refine g_put C i_X1 tyX1 tyX1_ok nmX1 0 1 f_15 rfl rfl (by decide) rfl rfl rfl rfl rfl (Nat.le_of_ble_eq_true rfl) dX1_put_27 (ws' := [gO h 1 [.ref b, .int (nI (n + 1))], gA E b 2412 (upd o n x)]) rfl ?_
    exact g_vret C Rt dX1_put_30 (by decide) (by decide) (⟨rfl, rfl⟩)

abbrev rm_c_X2_add : Room := { frames := 0, cells := 0, slots := 0, locals := 0 }
set_option maxHeartbeats 4000000 in
set_option maxRecDepth 100000 in
theorem c_X2_add (E : gE) (h a0 a1 a2 n : Nat) (sa sk ru : Nat → Int32) (x y z : Int32) (hn : n ≤ 12) : MM E yX2_add wsX2_add rm_c_X2_add [.ref h, .int x, .int y, .int z] [gO h 2 [.ref a0, .ref a1, .ref a2, .int (nI n)], gA E a0 12 sa, gA E a1 12 sk, gA E a2 12 ru] (fun rv_ ru_ => rv_ = none ∧ ru_ = [gO h 2 [.ref a0, .ref a1, .ref a2, .int (nI (if n < 12 then n + 1 else n))], gA E a0 12 (if n < 12 then upd sa n x else sa), gA E a1 12 (if n < 12 then upd sk n y else sk), gA E a2 12 (if n < 12 then upd ru n z else ru)]) := by
  refine MM.ofG (cc := cX2_add) (maxL := 4) (ret := none) (by decide) rfl (Nat.le_of_ble_eq_true rfl) (ll := [some (.ref h), some (.int x), some (.int y), some (.int z)]) rfl ?_
  intro X C Rt
  have C : gx E X cX2_add 4 wsX2_add RX2 := C
  have i_X2 : ∀ w ∈ u_ws RX2 TX2 4, w ∈ wsX2_add := by decide +kernel
  have f_15 : Cond.fieldLink RX2 15 "MarkPages$Page" "skills" "[I" ∈ wsX2_add := by decide +kernel
  have f_18 : Cond.fieldLink RX2 18 "MarkPages$Page" "ruleNumbers" "[I" ∈ wsX2_add := by decide +kernel
  have f_21 : Cond.fieldLink RX2 21 "MarkPages$Page" "count" "I" ∈ wsX2_add := by decide +kernel
  have f_9 : Cond.fieldLink RX2 9 "MarkPages$Page" "sayings" "[I" ∈ wsX2_add := by decide +kernel
  refine g_aload_n C dX2_add_0 rfl ?_
  refine g_get C i_X2 0 3 f_21 rfl rfl (by decide) rfl rfl dX2_add_1 ?_
  refine g_bipush (v := nI 12) C dX2_add_4 (by decide) ?_
  refine g_icmp_ge_n (tgt := 49) C dX2_add_6 (by decide) (by omega) (by omega) (fun c6 => ?_) (fun c6 => ?_)
  · exact g_vret C Rt dX2_add_49 (by decide) (by decide) (⟨rfl, by rw [if_neg (Nat.not_lt.mpr c6), if_neg (Nat.not_lt.mpr c6), if_neg (Nat.not_lt.mpr c6), if_neg (Nat.not_lt.mpr c6)]⟩)
  · refine g_aload_n C dX2_add_9 rfl ?_
    refine g_get C i_X2 0 0 f_9 rfl rfl (by decide) rfl rfl dX2_add_10 ?_
    refine g_aload_n C dX2_add_13 rfl ?_
    refine g_get C i_X2 0 3 f_21 rfl rfl (by decide) rfl rfl dX2_add_14 ?_
    refine g_iload_n C dX2_add_17 rfl ?_
    refine g_iast C 1 n rfl rfl (by omega) (by decide) dX2_add_18 (ws' := [gO h 2 [.ref a0, .ref a1, .ref a2, .int (nI n)], gA E a0 12 (upd sa n x), gA E a1 12 sk, gA E a2 12 ru]) rfl ?_
    refine g_aload_n C dX2_add_19 rfl ?_
    refine g_get C i_X2 0 1 f_15 rfl rfl (by decide) rfl rfl dX2_add_20 ?_
    refine g_aload_n C dX2_add_23 rfl ?_
    refine g_get C i_X2 0 3 f_21 rfl rfl (by decide) rfl rfl dX2_add_24 ?_
    refine g_iload_n C dX2_add_27 rfl ?_
    refine g_iast C 2 n rfl rfl (by omega) (by decide) dX2_add_28 (ws' := [gO h 2 [.ref a0, .ref a1, .ref a2, .int (nI n)], gA E a0 12 (upd sa n x), gA E a1 12 (upd sk n y), gA E a2 12 ru]) rfl ?_
    refine g_aload_n C dX2_add_29 rfl ?_
    refine g_get C i_X2 0 2 f_18 rfl rfl (by decide) rfl rfl dX2_add_30 ?_
    refine g_aload_n C dX2_add_33 rfl ?_
    refine g_get C i_X2 0 3 f_21 rfl rfl (by decide) rfl rfl dX2_add_34 ?_
    refine g_iload_n C dX2_add_37 rfl ?_
    refine g_iast C 3 n rfl rfl (by omega) (by decide) dX2_add_38 (ws' := [gO h 2 [.ref a0, .ref a1, .ref a2, .int (nI n)], gA E a0 12 (upd sa n x), gA E a1 12 (upd sk n y), gA E a2 12 (upd ru n z)]) rfl ?_
    refine g_aload_n C dX2_add_39 rfl ?_
    refine g_dup C dX2_add_40 rfl ?_
    refine g_get C i_X2 0 3 f_21 rfl rfl (by decide) rfl rfl dX2_add_41 ?_
    refine g_iconst (v := nI 1) C dX2_add_44 (by decide) ?_
    refine g_iadd_n C dX2_add_45 ?_
    refine g_put C i_X2 tyX2 tyX2_ok nmX2 0 3 f_21 rfl rfl (by decide) rfl rfl rfl rfl rfl (Nat.le_of_ble_eq_true rfl) dX2_add_46 (ws' := [gO h 2 [.ref a0, .ref a1, .ref a2, .int (nI (n + 1))], gA E a0 12 (upd sa n x), gA E a1 12 (upd sk n y), gA E a2 12 (upd ru n z)]) rfl ?_
    exact g_vret C Rt dX2_add_49 (by decide) (by decide) (⟨rfl, by rw [if_pos c6, if_pos c6, if_pos c6, if_pos c6]⟩)

abbrev rm_c_X2_hasSort : Room := { frames := 0, cells := 0, slots := 0, locals := 0 }
set_option maxHeartbeats 4000000 in
set_option maxRecDepth 100000 in
theorem c_X2_hasSort (E : gE) (h a0 a1 a2 n : Nat) (sa sk ru : Nat → Int32) (s t : Int32) (hn : n ≤ 12) : MM E yX2_hasSort wsX2_hasSort rm_c_X2_hasSort [.ref h, .int s, .int t] [gO h 2 [.ref a0, .ref a1, .ref a2, .int (nI n)], gA E a0 12 sa, gA E a1 12 sk, gA E a2 12 ru] (fun rv_ ru_ => rv_ = some (.int (b2i (hsS sa sk s t n))) ∧ ru_ = [gO h 2 [.ref a0, .ref a1, .ref a2, .int (nI n)], gA E a0 12 sa, gA E a1 12 sk, gA E a2 12 ru]) := by
  refine MM.ofG (cc := cX2_hasSort) (maxL := 4) (ret := (some .boolean)) (by decide) rfl (Nat.le_of_ble_eq_true rfl) (ll := [some (.ref h), some (.int s), some (.int t), none]) rfl ?_
  intro X C Rt
  have C : gx E X cX2_hasSort 4 wsX2_hasSort RX2 := C
  have i_X2 : ∀ w ∈ u_ws RX2 TX2 4, w ∈ wsX2_hasSort := by decide +kernel
  have f_15 : Cond.fieldLink RX2 15 "MarkPages$Page" "skills" "[I" ∈ wsX2_hasSort := by decide +kernel
  have f_21 : Cond.fieldLink RX2 21 "MarkPages$Page" "count" "I" ∈ wsX2_hasSort := by decide +kernel
  have f_9 : Cond.fieldLink RX2 9 "MarkPages$Page" "sayings" "[I" ∈ wsX2_hasSort := by decide +kernel
  refine g_iconst (v := nI 0) C dX2_hasSort_0 (by decide) ?_
  refine g_istore_n C dX2_hasSort_1 (by decide) rfl (ll' := [some (.ref h), some (.int s), some (.int t), some (.int (nI 0))]) rfl ?_
  have L2 : ∀ (n2 : Nat) (j : Nat), n - j < n2 → (j ≤ n) → (hsS sa sk s t j = false) → gg E rm_c_X2_hasSort 4 X 0 0 2 [some (.ref h), some (.int s), some (.int t), some (.int (nI j))] [] [gO h 2 [.ref a0, .ref a1, .ref a2, .int (nI n)], gA E a0 12 sa, gA E a1 12 sk, gA E a2 12 ru] := by
    intro n2
    induction n2 with
    | zero => intro j hm2; exact absurd hm2 (Nat.not_lt_zero _)
    | succ n2 ih2 =>
      intro j hm2 hj hh
      refine g_iload_n C dX2_hasSort_2 rfl ?_
      refine g_aload_n C dX2_hasSort_3 rfl ?_
      refine g_get C i_X2 0 3 f_21 rfl rfl (by decide) rfl rfl dX2_hasSort_4 ?_
      refine g_icmp_ge_n (tgt := 41) C dX2_hasSort_7 (by decide) (by omega) (by omega) (fun c7 => ?_) (fun c7 => ?_)
      · refine g_iconst (v := nI 0) C dX2_hasSort_41 (by decide) ?_
        exact g_zret C Rt dX2_hasSort_42 (by decide) (by decide) (by decide) (⟨by rw [show n = j by omega, hh]; rfl, rfl⟩)
      · refine g_aload_n C dX2_hasSort_10 rfl ?_
        refine g_get C i_X2 0 1 f_15 rfl rfl (by decide) rfl rfl dX2_hasSort_11 ?_
        refine g_iload_n C dX2_hasSort_14 rfl ?_
        refine g_iald C 2 j rfl rfl (by omega) (by decide) dX2_hasSort_15 ?_
        refine g_iload_n C dX2_hasSort_16 rfl ?_
        refine g_icmp_ne (tgt := 35) C dX2_hasSort_17 (by decide) (fun c17 => ?_) (fun c17 => ?_)
        · refine g_iinc_n (y := 1) C dX2_hasSort_35 rfl (by decide) (by decide) rfl (ll' := [some (.ref h), some (.int s), some (.int t), some (.int (nI (j + 1)))]) rfl ?_
          refine g_goto (tgt := 2) C dX2_hasSort_38 (by decide) ?_
          exact ih2 (j + 1) (by omega) (by omega) (by rw [hsS, hh, Bool.false_or]; exact decide_eq_false (fun z => c17 z.1))
        · refine g_aload_n C dX2_hasSort_20 rfl ?_
          refine g_get C i_X2 0 0 f_9 rfl rfl (by decide) rfl rfl dX2_hasSort_21 ?_
          refine g_iload_n C dX2_hasSort_24 rfl ?_
          refine g_iald C 1 j rfl rfl (by omega) (by decide) dX2_hasSort_25 ?_
          refine g_bipush (v := nI 10) C dX2_hasSort_26 (by decide) ?_
          refine g_idiv C dX2_hasSort_28 (by decide) ?_
          refine g_iload_n C dX2_hasSort_29 rfl ?_
          refine g_icmp_ne (tgt := 35) C dX2_hasSort_30 (by decide) (fun c30 => ?_) (fun c30 => ?_)
          · refine g_iinc_n (y := 1) C dX2_hasSort_35 rfl (by decide) (by decide) rfl (ll' := [some (.ref h), some (.int s), some (.int t), some (.int (nI (j + 1)))]) rfl ?_
            refine g_goto (tgt := 2) C dX2_hasSort_38 (by decide) ?_
            exact ih2 (j + 1) (by omega) (by omega) (by rw [hsS, hh, Bool.false_or]; exact decide_eq_false (fun z => c30 z.2))
          · refine g_iconst (v := nI 1) C dX2_hasSort_33 (by decide) ?_
            exact g_zret C Rt dX2_hasSort_34 (by decide) (by decide) (by decide) (⟨by rw [hsS_true ⟨c17, c30⟩ c7]; rfl, rfl⟩)
  exact L2 _ 0 (Nat.lt_succ_self _) (by omega) (rfl)

abbrev rm_c_X2_sameLines : Room := { frames := 0, cells := 0, slots := 0, locals := 0 }
set_option maxHeartbeats 4000000 in
set_option maxRecDepth 100000 in
theorem c_X2_sameLines (E : gE) (h a0 a1 a2 n h2 b0 b1 b2 n2 : Nat) (sa sk ru sa2 sk2 ru2 : Nat → Int32) (hn : n ≤ 12) (hn2 : n2 ≤ 12) : MM E yX2_sameLines wsX2_sameLines rm_c_X2_sameLines [.ref h, .ref h2] [gO h 2 [.ref a0, .ref a1, .ref a2, .int (nI n)], gA E a0 12 sa, gA E a1 12 sk, gA E a2 12 ru, gO h2 2 [.ref b0, .ref b1, .ref b2, .int (nI n2)], gA E b0 12 sa2, gA E b1 12 sk2, gA E b2 12 ru2] (fun rv_ ru_ => rv_ = some (.int (b2i (decide (n = n2) && smL sa sk sa2 sk2 n))) ∧ ru_ = [gO h 2 [.ref a0, .ref a1, .ref a2, .int (nI n)], gA E a0 12 sa, gA E a1 12 sk, gA E a2 12 ru, gO h2 2 [.ref b0, .ref b1, .ref b2, .int (nI n2)], gA E b0 12 sa2, gA E b1 12 sk2, gA E b2 12 ru2]) := by
  refine MM.ofG (cc := cX2_sameLines) (maxL := 3) (ret := (some .boolean)) (by decide) rfl (Nat.le_of_ble_eq_true rfl) (ll := [some (.ref h), some (.ref h2), none]) rfl ?_
  intro X C Rt
  have C : gx E X cX2_sameLines 3 wsX2_sameLines RX2 := C
  have i_X2 : ∀ w ∈ u_ws RX2 TX2 4, w ∈ wsX2_sameLines := by decide +kernel
  have f_15 : Cond.fieldLink RX2 15 "MarkPages$Page" "skills" "[I" ∈ wsX2_sameLines := by decide +kernel
  have f_21 : Cond.fieldLink RX2 21 "MarkPages$Page" "count" "I" ∈ wsX2_sameLines := by decide +kernel
  have f_9 : Cond.fieldLink RX2 9 "MarkPages$Page" "sayings" "[I" ∈ wsX2_sameLines := by decide +kernel
  refine g_aload_n C dX2_sameLines_0 rfl ?_
  refine g_get C i_X2 0 3 f_21 rfl rfl (by decide) rfl rfl dX2_sameLines_1 ?_
  refine g_aload_n C dX2_sameLines_4 rfl ?_
  refine g_get C i_X2 4 3 f_21 rfl rfl (by decide) rfl rfl dX2_sameLines_5 ?_
  refine g_icmp_eq_n (tgt := 13) C dX2_sameLines_8 (by decide) (by omega) (by omega) (fun c8 => ?_) (fun c8 => ?_)
  · refine g_iconst (v := nI 0) C dX2_sameLines_13 (by decide) ?_
    refine g_istore_n C dX2_sameLines_14 (by decide) rfl (ll' := [some (.ref h), some (.ref h2), some (.int (nI 0))]) rfl ?_
    have L15 : ∀ (n15 : Nat) (j : Nat), n - j < n15 → (j ≤ n) → (smL sa sk sa2 sk2 j = true) → gg E rm_c_X2_sameLines 3 X 0 0 15 [some (.ref h), some (.ref h2), some (.int (nI j))] [] [gO h 2 [.ref a0, .ref a1, .ref a2, .int (nI n)], gA E a0 12 sa, gA E a1 12 sk, gA E a2 12 ru, gO h2 2 [.ref b0, .ref b1, .ref b2, .int (nI n2)], gA E b0 12 sa2, gA E b1 12 sk2, gA E b2 12 ru2] := by
      intro n15
      induction n15 with
      | zero => intro j hm15; exact absurd hm15 (Nat.not_lt_zero _)
      | succ n15 ih15 =>
        intro j hm15 hj hh
        refine g_iload_n C dX2_sameLines_15 rfl ?_
        refine g_aload_n C dX2_sameLines_16 rfl ?_
        refine g_get C i_X2 0 3 f_21 rfl rfl (by decide) rfl rfl dX2_sameLines_17 ?_
        refine g_icmp_ge_n (tgt := 61) C dX2_sameLines_20 (by decide) (by omega) (by omega) (fun c20 => ?_) (fun c20 => ?_)
        · refine g_iconst (v := nI 1) C dX2_sameLines_61 (by decide) ?_
          exact g_zret C Rt dX2_sameLines_62 (by decide) (by decide) (by decide) (⟨by rw [decide_eq_true c8, show n = j by omega, hh]; rfl, rfl⟩)
        · refine g_aload_n C dX2_sameLines_23 rfl ?_
          refine g_get C i_X2 0 0 f_9 rfl rfl (by decide) rfl rfl dX2_sameLines_24 ?_
          refine g_iload_n C dX2_sameLines_27 rfl ?_
          refine g_iald C 1 j rfl rfl (by omega) (by decide) dX2_sameLines_28 ?_
          refine g_aload_n C dX2_sameLines_29 rfl ?_
          refine g_get C i_X2 4 0 f_9 rfl rfl (by decide) rfl rfl dX2_sameLines_30 ?_
          refine g_iload_n C dX2_sameLines_33 rfl ?_
          refine g_iald C 5 j rfl rfl (by omega) (by decide) dX2_sameLines_34 ?_
          refine g_icmp_ne (tgt := 53) C dX2_sameLines_35 (by decide) (fun c35 => ?_) (fun c35 => ?_)
          · refine g_iconst (v := nI 0) C dX2_sameLines_53 (by decide) ?_
            exact g_zret C Rt dX2_sameLines_54 (by decide) (by decide) (by decide) (⟨by rw [smL_false (fun z => c35 z.1) c20, Bool.and_false]; rfl, rfl⟩)
          · refine g_aload_n C dX2_sameLines_38 rfl ?_
            refine g_get C i_X2 0 1 f_15 rfl rfl (by decide) rfl rfl dX2_sameLines_39 ?_
            refine g_iload_n C dX2_sameLines_42 rfl ?_
            refine g_iald C 2 j rfl rfl (by omega) (by decide) dX2_sameLines_43 ?_
            refine g_aload_n C dX2_sameLines_44 rfl ?_
            refine g_get C i_X2 4 1 f_15 rfl rfl (by decide) rfl rfl dX2_sameLines_45 ?_
            refine g_iload_n C dX2_sameLines_48 rfl ?_
            refine g_iald C 6 j rfl rfl (by omega) (by decide) dX2_sameLines_49 ?_
            refine g_icmp_eq (tgt := 55) C dX2_sameLines_50 (by decide) (fun c50 => ?_) (fun c50 => ?_)
            · refine g_iinc_n (y := 1) C dX2_sameLines_55 rfl (by decide) (by decide) rfl (ll' := [some (.ref h), some (.ref h2), some (.int (nI (j + 1)))]) rfl ?_
              refine g_goto (tgt := 15) C dX2_sameLines_58 (by decide) ?_
              exact ih15 (j + 1) (by omega) (by omega) (by rw [smL, hh, Bool.true_and]; exact decide_eq_true ⟨c35, c50⟩)
            · refine g_iconst (v := nI 0) C dX2_sameLines_53 (by decide) ?_
              exact g_zret C Rt dX2_sameLines_54 (by decide) (by decide) (by decide) (⟨by rw [smL_false (fun z => c50 z.2) c20, Bool.and_false]; rfl, rfl⟩)
    exact L15 _ 0 (Nat.lt_succ_self _) (by omega) (rfl)
  · refine g_iconst (v := nI 0) C dX2_sameLines_11 (by decide) ?_
    exact g_zret C Rt dX2_sameLines_12 (by decide) (by decide) (by decide) (⟨by rw [decide_eq_false c8]; rfl, rfl⟩)

abbrev rm_c_X4_clear : Room := { frames := 0, cells := 0, slots := 0, locals := 0 }
set_option maxHeartbeats 4000000 in
set_option maxRecDepth 100000 in
theorem c_X4_clear (E : gE) (h a0 a1 a2 a3 n us : Nat) (sa sk st co : Nat → Int32)  : MM E yX4_clear wsX4_clear rm_c_X4_clear [.ref h] [gO h 4 [.ref a0, .ref a1, .ref a2, .ref a3, .int (nI n), .int (nI us)], gA E a0 12 sa, gA E a1 12 sk, gA E a2 13 st, gA E a3 600 co] (fun rv_ ru_ => rv_ = none ∧ ru_ = [gO h 4 [.ref a0, .ref a1, .ref a2, .ref a3, .int (nI 0), .int (nI 0)], gA E a0 12 sa, gA E a1 12 sk, gA E a2 13 st, gA E a3 600 co]) := by
  refine MM.ofG (cc := cX4_clear) (maxL := 1) (ret := none) (by decide) rfl (Nat.le_of_ble_eq_true rfl) (ll := [some (.ref h)]) rfl ?_
  intro X C Rt
  have C : gx E X cX4_clear 1 wsX4_clear RX4 := C
  have i_X4 : ∀ w ∈ u_ws RX4 TX4 6, w ∈ wsX4_clear := by decide +kernel
  have f_24 : Cond.fieldLink RX4 24 "MarkPages$RuleBook" "count" "I" ∈ wsX4_clear := by decide +kernel
  have f_28 : Cond.fieldLink RX4 28 "MarkPages$RuleBook" "used" "I" ∈ wsX4_clear := by decide +kernel
  refine g_aload_n C dX4_clear_0 rfl ?_
  refine g_iconst (v := nI 0) C dX4_clear_1 (by decide) ?_
  refine g_put C i_X4 tyX4 tyX4_ok nmX4 0 4 f_24 rfl rfl (by decide) rfl rfl rfl rfl rfl (Nat.le_of_ble_eq_true rfl) dX4_clear_2 (ws' := [gO h 4 [.ref a0, .ref a1, .ref a2, .ref a3, .int (nI 0), .int (nI us)], gA E a0 12 sa, gA E a1 12 sk, gA E a2 13 st, gA E a3 600 co]) rfl ?_
  refine g_aload_n C dX4_clear_5 rfl ?_
  refine g_iconst (v := nI 0) C dX4_clear_6 (by decide) ?_
  refine g_put C i_X4 tyX4 tyX4_ok nmX4 0 5 f_28 rfl rfl (by decide) rfl rfl rfl rfl rfl (Nat.le_of_ble_eq_true rfl) dX4_clear_7 (ws' := [gO h 4 [.ref a0, .ref a1, .ref a2, .ref a3, .int (nI 0), .int (nI 0)], gA E a0 12 sa, gA E a1 12 sk, gA E a2 13 st, gA E a3 600 co]) rfl ?_
  exact g_vret C Rt dX4_clear_10 (by decide) (by decide) (⟨rfl, rfl⟩)

abbrev rm_c_X4_append : Room := { frames := 0, cells := 0, slots := 0, locals := 0 }
set_option maxHeartbeats 4000000 in
set_option maxRecDepth 100000 in
theorem c_X4_append (E : gE) (h a0 a1 a2 a3 n us : Nat) (sa sk st co : Nat → Int32) (x : Int32) (hu : us < 600) : MM E yX4_append wsX4_append rm_c_X4_append [.ref h, .int x] [gO h 4 [.ref a0, .ref a1, .ref a2, .ref a3, .int (nI n), .int (nI us)], gA E a0 12 sa, gA E a1 12 sk, gA E a2 13 st, gA E a3 600 co] (fun rv_ ru_ => rv_ = none ∧ ru_ = [gO h 4 [.ref a0, .ref a1, .ref a2, .ref a3, .int (nI n), .int (nI (us + 1))], gA E a0 12 sa, gA E a1 12 sk, gA E a2 13 st, gA E a3 600 (upd co us x)]) := by
  refine MM.ofG (cc := cX4_append) (maxL := 2) (ret := none) (by decide) rfl (Nat.le_of_ble_eq_true rfl) (ll := [some (.ref h), some (.int x)]) rfl ?_
  intro X C Rt
  have C : gx E X cX4_append 2 wsX4_append RX4 := C
  have i_X4 : ∀ w ∈ u_ws RX4 TX4 6, w ∈ wsX4_append := by decide +kernel
  have f_21 : Cond.fieldLink RX4 21 "MarkPages$RuleBook" "code" "[I" ∈ wsX4_append := by decide +kernel
  have f_28 : Cond.fieldLink RX4 28 "MarkPages$RuleBook" "used" "I" ∈ wsX4_append := by decide +kernel
  refine g_aload_n C dX4_append_0 rfl ?_
  refine g_get C i_X4 0 5 f_28 rfl rfl (by decide) rfl rfl dX4_append_1 ?_
  refine g_sipush (v := nI 600) C dX4_append_4 (by decide) ?_
  refine g_icmp_ge_n (tgt := 30) C dX4_append_7 (by decide) (by omega) (by omega) (fun c7 => ?_) (fun c7 => ?_)
  · exact absurd c7 (by omega)
  · refine g_aload_n C dX4_append_10 rfl ?_
    refine g_get C i_X4 0 3 f_21 rfl rfl (by decide) rfl rfl dX4_append_11 ?_
    refine g_aload_n C dX4_append_14 rfl ?_
    refine g_get C i_X4 0 5 f_28 rfl rfl (by decide) rfl rfl dX4_append_15 ?_
    refine g_iload_n C dX4_append_18 rfl ?_
    refine g_iast C 4 us rfl rfl (by omega) (by decide) dX4_append_19 (ws' := [gO h 4 [.ref a0, .ref a1, .ref a2, .ref a3, .int (nI n), .int (nI us)], gA E a0 12 sa, gA E a1 12 sk, gA E a2 13 st, gA E a3 600 (upd co us x)]) rfl ?_
    refine g_aload_n C dX4_append_20 rfl ?_
    refine g_dup C dX4_append_21 rfl ?_
    refine g_get C i_X4 0 5 f_28 rfl rfl (by decide) rfl rfl dX4_append_22 ?_
    refine g_iconst (v := nI 1) C dX4_append_25 (by decide) ?_
    refine g_iadd_n C dX4_append_26 ?_
    refine g_put C i_X4 tyX4 tyX4_ok nmX4 0 5 f_28 rfl rfl (by decide) rfl rfl rfl rfl rfl (Nat.le_of_ble_eq_true rfl) dX4_append_27 (ws' := [gO h 4 [.ref a0, .ref a1, .ref a2, .ref a3, .int (nI n), .int (nI (us + 1))], gA E a0 12 sa, gA E a1 12 sk, gA E a2 13 st, gA E a3 600 (upd co us x)]) rfl ?_
    exact g_vret C Rt dX4_append_30 (by decide) (by decide) (⟨rfl, rfl⟩)

abbrev rm_c_X4_closeRule : Room := { frames := 0, cells := 0, slots := 0, locals := 0 }
set_option maxHeartbeats 4000000 in
set_option maxRecDepth 100000 in
theorem c_X4_closeRule (E : gE) (h a0 a1 a2 a3 n us : Nat) (sa sk st co : Nat → Int32) (x y : Int32) (hn : n < 12) (hu : us ≤ 600) : MM E yX4_closeRule wsX4_closeRule rm_c_X4_closeRule [.ref h, .int x, .int y] [gO h 4 [.ref a0, .ref a1, .ref a2, .ref a3, .int (nI n), .int (nI us)], gA E a0 12 sa, gA E a1 12 sk, gA E a2 13 st, gA E a3 600 co] (fun rv_ ru_ => rv_ = none ∧ ru_ = [gO h 4 [.ref a0, .ref a1, .ref a2, .ref a3, .int (nI (n + 1)), .int (nI us)], gA E a0 12 (upd sa n x), gA E a1 12 (upd sk n y), gA E a2 13 (upd st (n + 1) (nI us)), gA E a3 600 co]) := by
  refine MM.ofG (cc := cX4_closeRule) (maxL := 3) (ret := none) (by decide) rfl (Nat.le_of_ble_eq_true rfl) (ll := [some (.ref h), some (.int x), some (.int y)]) rfl ?_
  intro X C Rt
  have C : gx E X cX4_closeRule 3 wsX4_closeRule RX4 := C
  have i_X4 : ∀ w ∈ u_ws RX4 TX4 6, w ∈ wsX4_closeRule := by decide +kernel
  have f_15 : Cond.fieldLink RX4 15 "MarkPages$RuleBook" "skills" "[I" ∈ wsX4_closeRule := by decide +kernel
  have f_18 : Cond.fieldLink RX4 18 "MarkPages$RuleBook" "starts" "[I" ∈ wsX4_closeRule := by decide +kernel
  have f_24 : Cond.fieldLink RX4 24 "MarkPages$RuleBook" "count" "I" ∈ wsX4_closeRule := by decide +kernel
  have f_28 : Cond.fieldLink RX4 28 "MarkPages$RuleBook" "used" "I" ∈ wsX4_closeRule := by decide +kernel
  have f_9 : Cond.fieldLink RX4 9 "MarkPages$RuleBook" "sayings" "[I" ∈ wsX4_closeRule := by decide +kernel
  refine g_aload_n C dX4_closeRule_0 rfl ?_
  refine g_get C i_X4 0 4 f_24 rfl rfl (by decide) rfl rfl dX4_closeRule_1 ?_
  refine g_bipush (v := nI 12) C dX4_closeRule_4 (by decide) ?_
  refine g_icmp_ge_n (tgt := 52) C dX4_closeRule_6 (by decide) (by omega) (by omega) (fun c6 => ?_) (fun c6 => ?_)
  · exact absurd c6 (by omega)
  · refine g_aload_n C dX4_closeRule_9 rfl ?_
    refine g_get C i_X4 0 0 f_9 rfl rfl (by decide) rfl rfl dX4_closeRule_10 ?_
    refine g_aload_n C dX4_closeRule_13 rfl ?_
    refine g_get C i_X4 0 4 f_24 rfl rfl (by decide) rfl rfl dX4_closeRule_14 ?_
    refine g_iload_n C dX4_closeRule_17 rfl ?_
    refine g_iast C 1 n rfl rfl (by omega) (by decide) dX4_closeRule_18 (ws' := [gO h 4 [.ref a0, .ref a1, .ref a2, .ref a3, .int (nI n), .int (nI us)], gA E a0 12 (upd sa n x), gA E a1 12 sk, gA E a2 13 st, gA E a3 600 co]) rfl ?_
    refine g_aload_n C dX4_closeRule_19 rfl ?_
    refine g_get C i_X4 0 1 f_15 rfl rfl (by decide) rfl rfl dX4_closeRule_20 ?_
    refine g_aload_n C dX4_closeRule_23 rfl ?_
    refine g_get C i_X4 0 4 f_24 rfl rfl (by decide) rfl rfl dX4_closeRule_24 ?_
    refine g_iload_n C dX4_closeRule_27 rfl ?_
    refine g_iast C 2 n rfl rfl (by omega) (by decide) dX4_closeRule_28 (ws' := [gO h 4 [.ref a0, .ref a1, .ref a2, .ref a3, .int (nI n), .int (nI us)], gA E a0 12 (upd sa n x), gA E a1 12 (upd sk n y), gA E a2 13 st, gA E a3 600 co]) rfl ?_
    refine g_aload_n C dX4_closeRule_29 rfl ?_
    refine g_dup C dX4_closeRule_30 rfl ?_
    refine g_get C i_X4 0 4 f_24 rfl rfl (by decide) rfl rfl dX4_closeRule_31 ?_
    refine g_iconst (v := nI 1) C dX4_closeRule_34 (by decide) ?_
    refine g_iadd_n C dX4_closeRule_35 ?_
    refine g_put C i_X4 tyX4 tyX4_ok nmX4 0 4 f_24 rfl rfl (by decide) rfl rfl rfl rfl rfl (Nat.le_of_ble_eq_true rfl) dX4_closeRule_36 (ws' := [gO h 4 [.ref a0, .ref a1, .ref a2, .ref a3, .int (nI (n + 1)), .int (nI us)], gA E a0 12 (upd sa n x), gA E a1 12 (upd sk n y), gA E a2 13 st, gA E a3 600 co]) rfl ?_
    refine g_aload_n C dX4_closeRule_39 rfl ?_
    refine g_get C i_X4 0 2 f_18 rfl rfl (by decide) rfl rfl dX4_closeRule_40 ?_
    refine g_aload_n C dX4_closeRule_43 rfl ?_
    refine g_get C i_X4 0 4 f_24 rfl rfl (by decide) rfl rfl dX4_closeRule_44 ?_
    refine g_aload_n C dX4_closeRule_47 rfl ?_
    refine g_get C i_X4 0 5 f_28 rfl rfl (by decide) rfl rfl dX4_closeRule_48 ?_
    refine g_iast C 3 (n + 1) rfl rfl (by omega) (by decide) dX4_closeRule_51 (ws' := [gO h 4 [.ref a0, .ref a1, .ref a2, .ref a3, .int (nI (n + 1)), .int (nI us)], gA E a0 12 (upd sa n x), gA E a1 12 (upd sk n y), gA E a2 13 (upd st (n + 1) (nI us)), gA E a3 600 co]) rfl ?_
    exact g_vret C Rt dX4_closeRule_52 (by decide) (by decide) (⟨rfl, rfl⟩)

abbrev rm_c_X4_isFor : Room := { frames := 0, cells := 0, slots := 0, locals := 0 }
set_option maxHeartbeats 4000000 in
set_option maxRecDepth 100000 in
theorem c_X4_isFor (E : gE) (h a0 a1 a2 a3 n us : Nat) (sa sk st co : Nat → Int32) (r : Nat) (s : Int32) (hr : r < 12) : MM E yX4_isFor wsX4_isFor rm_c_X4_isFor [.ref h, .int (nI r), .int s] [gO h 4 [.ref a0, .ref a1, .ref a2, .ref a3, .int (nI n), .int (nI us)], gA E a0 12 sa, gA E a1 12 sk, gA E a2 13 st, gA E a3 600 co] (fun rv_ ru_ => rv_ = some (.int (b2i (decide (sk r = -1 ∨ sk r = s)))) ∧ ru_ = [gO h 4 [.ref a0, .ref a1, .ref a2, .ref a3, .int (nI n), .int (nI us)], gA E a0 12 sa, gA E a1 12 sk, gA E a2 13 st, gA E a3 600 co]) := by
  refine MM.ofG (cc := cX4_isFor) (maxL := 3) (ret := (some .boolean)) (by decide) rfl (Nat.le_of_ble_eq_true rfl) (ll := [some (.ref h), some (.int (nI r)), some (.int s)]) rfl ?_
  intro X C Rt
  have C : gx E X cX4_isFor 3 wsX4_isFor RX4 := C
  have i_X4 : ∀ w ∈ u_ws RX4 TX4 6, w ∈ wsX4_isFor := by decide +kernel
  have f_15 : Cond.fieldLink RX4 15 "MarkPages$RuleBook" "skills" "[I" ∈ wsX4_isFor := by decide +kernel
  refine g_aload_n C dX4_isFor_0 rfl ?_
  refine g_get C i_X4 0 1 f_15 rfl rfl (by decide) rfl rfl dX4_isFor_1 ?_
  refine g_iload_n C dX4_isFor_4 rfl ?_
  refine g_iald C 2 r rfl rfl (by omega) (by decide) dX4_isFor_5 ?_
  refine g_iconst (v := -1) C dX4_isFor_6 (by decide) ?_
  refine g_icmp_eq (tgt := 20) C dX4_isFor_7 (by decide) (fun c7 => ?_) (fun c7 => ?_)
  · refine g_iconst (v := nI 1) C dX4_isFor_20 (by decide) ?_
    refine g_goto (tgt := 25) C dX4_isFor_21 (by decide) ?_
    exact g_zret C Rt dX4_isFor_25 (by decide) (by decide) (by decide) (⟨by simp [b2i, *], rfl⟩)
  · refine g_aload_n C dX4_isFor_10 rfl ?_
    refine g_get C i_X4 0 1 f_15 rfl rfl (by decide) rfl rfl dX4_isFor_11 ?_
    refine g_iload_n C dX4_isFor_14 rfl ?_
    refine g_iald C 2 r rfl rfl (by omega) (by decide) dX4_isFor_15 ?_
    refine g_iload_n C dX4_isFor_16 rfl ?_
    refine g_icmp_ne (tgt := 24) C dX4_isFor_17 (by decide) (fun c17 => ?_) (fun c17 => ?_)
    · refine g_iconst (v := nI 0) C dX4_isFor_24 (by decide) ?_
      exact g_zret C Rt dX4_isFor_25 (by decide) (by decide) (by decide) (⟨by simp [b2i, *], rfl⟩)
    · refine g_iconst (v := nI 1) C dX4_isFor_20 (by decide) ?_
      refine g_goto (tgt := 25) C dX4_isFor_21 (by decide) ?_
      exact g_zret C Rt dX4_isFor_25 (by decide) (by decide) (by decide) (⟨by simp [b2i, *], rfl⟩)

abbrev rm_c_X0_push : Room := { frames := 0, cells := 0, slots := 0, locals := 0 }
set_option maxHeartbeats 4000000 in
set_option maxRecDepth 100000 in
theorem c_X0_push (E : gE) (h b n : Nat) (pi : Nat → Int32) (x : Int32) (hn : n < 32) : MM E yX0_push wsX0_push rm_c_X0_push [.ref h, .int x] [gO h 0 [.ref b, .int (nI n)], gA E b 32 pi] (fun rv_ ru_ => rv_ = none ∧ ru_ = [gO h 0 [.ref b, .int (nI (n + 1))], gA E b 32 (upd pi n x)]) := by
  refine MM.ofG (cc := cX0_push) (maxL := 2) (ret := none) (by decide) rfl (Nat.le_of_ble_eq_true rfl) (ll := [some (.ref h), some (.int x)]) rfl ?_
  intro X C Rt
  have C : gx E X cX0_push 2 wsX0_push RX0 := C
  have i_X0 : ∀ w ∈ u_ws RX0 TX0 2, w ∈ wsX0_push := by decide +kernel
  have f_15 : Cond.fieldLink RX0 15 "MarkPages$Judge" "height" "I" ∈ wsX0_push := by decide +kernel
  have f_9 : Cond.fieldLink RX0 9 "MarkPages$Judge" "pile" "[I" ∈ wsX0_push := by decide +kernel
  refine g_aload_n C dX0_push_0 rfl ?_
  refine g_get C i_X0 0 1 f_15 rfl rfl (by decide) rfl rfl dX0_push_1 ?_
  refine g_bipush (v := nI 32) C dX0_push_4 (by decide) ?_
  refine g_icmp_ge_n (tgt := 29) C dX0_push_6 (by decide) (by omega) (by omega) (fun c6 => ?_) (fun c6 => ?_)
  · exact absurd c6 (by omega)
  · refine g_aload_n C dX0_push_9 rfl ?_
    refine g_get C i_X0 0 0 f_9 rfl rfl (by decide) rfl rfl dX0_push_10 ?_
    refine g_aload_n C dX0_push_13 rfl ?_
    refine g_get C i_X0 0 1 f_15 rfl rfl (by decide) rfl rfl dX0_push_14 ?_
    refine g_iload_n C dX0_push_17 rfl ?_
    refine g_iast C 1 n rfl rfl (by omega) (by decide) dX0_push_18 (ws' := [gO h 0 [.ref b, .int (nI n)], gA E b 32 (upd pi n x)]) rfl ?_
    refine g_aload_n C dX0_push_19 rfl ?_
    refine g_dup C dX0_push_20 rfl ?_
    refine g_get C i_X0 0 1 f_15 rfl rfl (by decide) rfl rfl dX0_push_21 ?_
    refine g_iconst (v := nI 1) C dX0_push_24 (by decide) ?_
    refine g_iadd_n C dX0_push_25 ?_
    refine g_put C i_X0 tyX0 tyX0_ok nmX0 0 1 f_15 rfl rfl (by decide) rfl rfl rfl rfl rfl (Nat.le_of_ble_eq_true rfl) dX0_push_26 (ws' := [gO h 0 [.ref b, .int (nI (n + 1))], gA E b 32 (upd pi n x)]) rfl ?_
    exact g_vret C Rt dX0_push_29 (by decide) (by decide) (⟨rfl, rfl⟩)

abbrev rm_c_X0_pop : Room := { frames := 0, cells := 0, slots := 0, locals := 0 }
set_option maxHeartbeats 4000000 in
set_option maxRecDepth 100000 in
theorem c_X0_pop (E : gE) (h b n : Nat) (pi : Nat → Int32) (hn : 0 < n) (hn2 : n ≤ 32) : MM E yX0_pop wsX0_pop rm_c_X0_pop [.ref h] [gO h 0 [.ref b, .int (nI n)], gA E b 32 pi] (fun rv_ ru_ => rv_ = some (.int (pi (n - 1))) ∧ ru_ = [gO h 0 [.ref b, .int (nI (n - 1))], gA E b 32 pi]) := by
  refine MM.ofG (cc := cX0_pop) (maxL := 1) (ret := (some .int)) (by decide) rfl (Nat.le_of_ble_eq_true rfl) (ll := [some (.ref h)]) rfl ?_
  intro X C Rt
  have C : gx E X cX0_pop 1 wsX0_pop RX0 := C
  have i_X0 : ∀ w ∈ u_ws RX0 TX0 2, w ∈ wsX0_pop := by decide +kernel
  have f_15 : Cond.fieldLink RX0 15 "MarkPages$Judge" "height" "I" ∈ wsX0_pop := by decide +kernel
  have f_9 : Cond.fieldLink RX0 9 "MarkPages$Judge" "pile" "[I" ∈ wsX0_pop := by decide +kernel
  refine g_aload_n C dX0_pop_0 rfl ?_
  refine g_get C i_X0 0 1 f_15 rfl rfl (by decide) rfl rfl dX0_pop_1 ?_
  refine g_if_ne_n (tgt := 9) C dX0_pop_4 (by decide) (by omega) (fun c4 => ?_) (fun c4 => ?_)
  · refine g_aload_n C dX0_pop_9 rfl ?_
    refine g_dup C dX0_pop_10 rfl ?_
    refine g_get C i_X0 0 1 f_15 rfl rfl (by decide) rfl rfl dX0_pop_11 ?_
    refine g_iconst (v := nI 1) C dX0_pop_14 (by decide) ?_
    refine g_isub_n C dX0_pop_15 (by omega) ?_
    refine g_put C i_X0 tyX0 tyX0_ok nmX0 0 1 f_15 rfl rfl (by decide) rfl rfl rfl rfl rfl (Nat.le_of_ble_eq_true rfl) dX0_pop_16 (ws' := [gO h 0 [.ref b, .int (nI (n - 1))], gA E b 32 pi]) rfl ?_
    refine g_aload_n C dX0_pop_19 rfl ?_
    refine g_get C i_X0 0 0 f_9 rfl rfl (by decide) rfl rfl dX0_pop_20 ?_
    refine g_aload_n C dX0_pop_23 rfl ?_
    refine g_get C i_X0 0 1 f_15 rfl rfl (by decide) rfl rfl dX0_pop_24 ?_
    refine g_iald C 1 (n - 1) rfl rfl (by omega) (by decide) dX0_pop_27 ?_
    exact g_iret C Rt dX0_pop_28 (by decide) (by decide) (⟨rfl, rfl⟩)
  · exact absurd c4 (by omega)

abbrev rm_c_X0_truth : Room := { frames := 0, cells := 0, slots := 0, locals := 0 }
set_option maxHeartbeats 4000000 in
set_option maxRecDepth 100000 in
theorem c_X0_truth (E : gE) (b : Bool)  : MM E yX0_truth wsX0_truth rm_c_X0_truth [.int (b2i b)] [] (fun rv_ ru_ => rv_ = some (.int (b2i b)) ∧ ru_ = []) := by
  refine MM.ofG (cc := cX0_truth) (maxL := 1) (ret := (some .int)) (by decide) rfl (Nat.le_of_ble_eq_true rfl) (ll := [some (.int (b2i b))]) rfl ?_
  intro X C Rt
  have C : gx E X cX0_truth 1 wsX0_truth RX0 := C
  refine g_iload_n C dX0_truth_0 rfl ?_
  refine g_if_eq (tgt := 8) C dX0_truth_1 (by decide) (fun c1 => ?_) (fun c1 => ?_)
  · refine g_iconst (v := nI 0) C dX0_truth_8 (by decide) ?_
    exact g_iret C Rt dX0_truth_9 (by decide) (by decide) (⟨by cases b <;> first | rfl | exact absurd c1 (by decide), rfl⟩)
  · refine g_iconst (v := nI 1) C dX0_truth_4 (by decide) ?_
    refine g_goto (tgt := 9) C dX0_truth_5 (by decide) ?_
    exact g_iret C Rt dX0_truth_9 (by decide) (by decide) (⟨by cases b <;> first | rfl | exact absurd c1 (by decide), rfl⟩)

abbrev rm_c_X7_byteAt : Room := { frames := 0, cells := 0, slots := 0, locals := 0 }
set_option maxHeartbeats 4000000 in
set_option maxRecDepth 100000 in
theorem c_X7_byteAt (E : gE) (h a0 a1 w rows nb : Nat) (le by_ : Nat → Int32) (r i : Nat) (hi : r * w + i < nb) (hnb : nb < 2147483648) : MM E yX7_byteAt wsX7_byteAt rm_c_X7_byteAt [.ref h, .int (nI r), .int (nI i)] [gO h 7 [.int (nI w), .ref a0, .ref a1], gA E a0 rows le, gA E a1 nb by_] (fun rv_ ru_ => rv_ = some (.int (by_ (r * w + i))) ∧ ru_ = [gO h 7 [.int (nI w), .ref a0, .ref a1], gA E a0 rows le, gA E a1 nb by_]) := by
  refine MM.ofG (cc := cX7_byteAt) (maxL := 3) (ret := (some .int)) (by decide) rfl (Nat.le_of_ble_eq_true rfl) (ll := [some (.ref h), some (.int (nI r)), some (.int (nI i))]) rfl ?_
  intro X C Rt
  have C : gx E X cX7_byteAt 3 wsX7_byteAt RX7 := C
  have i_X7 : ∀ w ∈ u_ws RX7 TX7 3, w ∈ wsX7_byteAt := by decide +kernel
  have f_17 : Cond.fieldLink RX7 17 "MarkPages$Texts" "bytes" "[I" ∈ wsX7_byteAt := by decide +kernel
  have f_7 : Cond.fieldLink RX7 7 "MarkPages$Texts" "width" "I" ∈ wsX7_byteAt := by decide +kernel
  refine g_aload_n C dX7_byteAt_0 rfl ?_
  refine g_get C i_X7 0 2 f_17 rfl rfl (by decide) rfl rfl dX7_byteAt_1 ?_
  refine g_iload_n C dX7_byteAt_4 rfl ?_
  refine g_aload_n C dX7_byteAt_5 rfl ?_
  refine g_get C i_X7 0 0 f_7 rfl rfl (by decide) rfl rfl dX7_byteAt_6 ?_
  refine g_imul_n C dX7_byteAt_9 ?_
  refine g_iload_n C dX7_byteAt_10 rfl ?_
  refine g_iadd_n C dX7_byteAt_11 ?_
  refine g_iald C 2 ((r * w) + i) rfl rfl (by omega) (by omega) dX7_byteAt_12 ?_
  exact g_iret C Rt dX7_byteAt_13 (by decide) (by decide) (⟨rfl, rfl⟩)

