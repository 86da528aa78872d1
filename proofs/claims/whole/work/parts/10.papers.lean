/-! PAPERS: contracts of MarkPages$Papers (world: the object, mosts, skillSets, points, medians, rising) -/
theorem haM_true {pt : Nat → Int32} {P j : Nat} (hp : ¬ pt (10 * P + j) = -1) : ∀ {n : Nat}, j < n → haM pt P n = true
  | 0, h => absurd h (Nat.not_lt_zero j)
  | n + 1, h => by
    rw [haM]
    by_cases e : j = n
    · subst e
      simp [hp]
    · rw [haM_true hp (show j < n by omega)]
      rfl
theorem ins_stop {v : Int32} {r : Nat → Int32} {i : Nat} (h0 : 0 < i) (h : r (i - 1) ≤ v) : upd r i v = insL v r i := by
  obtain ⟨k, rfl⟩ : ∃ k, i = k + 1 := ⟨i - 1, by omega⟩
  rw [insL, if_neg]
  exact Int32.not_lt.mpr h
theorem ins_go {v : Int32} {r : Nat → Int32} {i : Nat} (h0 : 0 < i) (h : ¬ r (i - 1) ≤ v) : insL v (upd r i (r (i - 1))) (i - 1) = insL v r i := by
  obtain ⟨k, rfl⟩ : ∃ k, i = k + 1 := ⟨i - 1, by omega⟩
  show _ = insL v r (k + 1)
  rw [insL, if_pos]
  · rfl
  · exact Int32.not_le.mp h
def bcF1 (x : Int32) : Int32 := x - ((x.toUInt32 >>> ((nI 1).toUInt32 &&& Int32.toUInt32 31)).toInt32 &&& (1431655765))
def bcF2 (x : Int32) : Int32 := (x &&& (858993459)) + ((x.toUInt32 >>> ((nI 2).toUInt32 &&& Int32.toUInt32 31)).toInt32 &&& (858993459))
def bcF3 (x : Int32) : Int32 := (x + (x.toUInt32 >>> ((nI 4).toUInt32 &&& Int32.toUInt32 31)).toInt32) &&& (252645135)
def bcF4 (x : Int32) : Int32 := x + (x.toUInt32 >>> ((nI 8).toUInt32 &&& Int32.toUInt32 31)).toInt32
def bcF5 (x : Int32) : Int32 := x + (x.toUInt32 >>> ((nI 16).toUInt32 &&& Int32.toUInt32 31)).toInt32
theorem bcF_ok : ∀ M, M < 1024 → bcF5 (bcF4 (bcF3 (bcF2 (bcF1 (nI M))))) &&& nI 63 = nI (bcN M 10) := by decide +kernel
/-- the five measures in a row of five -/
def msr (io : Nat → Int32) (b s m l c : Int32) : Nat → Int32 := upd (upd (upd (upd (upd io 0 b) 1 s) 2 m) 3 l) 4 c

abbrev rm_c_J6_bitCount_0f7a4 : Room := { frames := 0, cells := 0, slots := 0, locals := 0 }
set_option maxHeartbeats 4000000 in
set_option maxRecDepth 100000 in
theorem c_J6_bitCount_0f7a4 (E : gE) (M : Nat) (hM : M < 1024) : MM E yJ6_bitCount_0f7a4 wsJ6_bitCount_0f7a4 rm_c_J6_bitCount_0f7a4 [.int (nI M)] [] (fun rv_ ru_ => rv_ = some (.int (nI (bcN M 10))) ∧ ru_ = []) := by
  refine MM.ofG (cc := cJ6_bitCount_0f7a4) (maxL := 1) (ret := (some .int)) (by decide) rfl (Nat.le_of_ble_eq_true rfl) (ll := [some (.int (nI M))]) rfl ?_
  intro X C Rt
  have C : gx E X cJ6_bitCount_0f7a4 1 wsJ6_bitCount_0f7a4 RJ6 := C
  have k_265 : Cond.constant RJ6 265 (1431655765) ∈ wsJ6_bitCount_0f7a4 := by decide +kernel
  have k_266 : Cond.constant RJ6 266 (858993459) ∈ wsJ6_bitCount_0f7a4 := by decide +kernel
  have k_267 : Cond.constant RJ6 267 (252645135) ∈ wsJ6_bitCount_0f7a4 := by decide +kernel
  refine g_iload_n C dJ6_bitCount_0f7a4_0 rfl ?_
  refine g_iload_n C dJ6_bitCount_0f7a4_1 rfl ?_
  refine g_iconst (v := nI 1) C dJ6_bitCount_0f7a4_2 (by decide) ?_
  refine g_iushr C dJ6_bitCount_0f7a4_3 rfl ?_
  refine g_ldcw C k_265 dJ6_bitCount_0f7a4_4 ?_
  refine g_iand C dJ6_bitCount_0f7a4_7 ?_
  refine g_isub C dJ6_bitCount_0f7a4_8 ?_
  refine g_istore_n C dJ6_bitCount_0f7a4_9 (by decide) rfl (ll' := [some (.int ((nI M) - ((((nI M).toUInt32 >>> ((nI 1).toUInt32 &&& Int32.toUInt32 31)).toInt32) &&& (1431655765))))]) rfl ?_
  show gg E _ 1 X 0 0 10 [some (.int (bcF1 (nI M)))] [] []
  generalize e10 : bcF1 (nI M) = y10
  refine g_iload_n C dJ6_bitCount_0f7a4_10 rfl ?_
  refine g_ldcw C k_266 dJ6_bitCount_0f7a4_11 ?_
  refine g_iand C dJ6_bitCount_0f7a4_14 ?_
  refine g_iload_n C dJ6_bitCount_0f7a4_15 rfl ?_
  refine g_iconst (v := nI 2) C dJ6_bitCount_0f7a4_16 (by decide) ?_
  refine g_iushr C dJ6_bitCount_0f7a4_17 rfl ?_
  refine g_ldcw C k_266 dJ6_bitCount_0f7a4_18 ?_
  refine g_iand C dJ6_bitCount_0f7a4_21 ?_
  refine g_iadd C dJ6_bitCount_0f7a4_22 ?_
  refine g_istore_n C dJ6_bitCount_0f7a4_23 (by decide) rfl (ll' := [some (.int ((y10 &&& (858993459)) + ((((y10).toUInt32 >>> ((nI 2).toUInt32 &&& Int32.toUInt32 31)).toInt32) &&& (858993459))))]) rfl ?_
  show gg E _ 1 X 0 0 24 [some (.int (bcF2 y10))] [] []
  generalize e24 : bcF2 y10 = y24
  refine g_iload_n C dJ6_bitCount_0f7a4_24 rfl ?_
  refine g_iload_n C dJ6_bitCount_0f7a4_25 rfl ?_
  refine g_iconst (v := nI 4) C dJ6_bitCount_0f7a4_26 (by decide) ?_
  refine g_iushr C dJ6_bitCount_0f7a4_27 rfl ?_
  refine g_iadd C dJ6_bitCount_0f7a4_28 ?_
  refine g_ldcw C k_267 dJ6_bitCount_0f7a4_29 ?_
  refine g_iand C dJ6_bitCount_0f7a4_32 ?_
  refine g_istore_n C dJ6_bitCount_0f7a4_33 (by decide) rfl (ll' := [some (.int ((y24 + (((y24).toUInt32 >>> ((nI 4).toUInt32 &&& Int32.toUInt32 31)).toInt32)) &&& (252645135)))]) rfl ?_
  show gg E _ 1 X 0 0 34 [some (.int (bcF3 y24))] [] []
  generalize e34 : bcF3 y24 = y34
  refine g_iload_n C dJ6_bitCount_0f7a4_34 rfl ?_
  refine g_iload_n C dJ6_bitCount_0f7a4_35 rfl ?_
  refine g_bipush (v := nI 8) C dJ6_bitCount_0f7a4_36 (by decide) ?_
  refine g_iushr C dJ6_bitCount_0f7a4_38 rfl ?_
  refine g_iadd C dJ6_bitCount_0f7a4_39 ?_
  refine g_istore_n C dJ6_bitCount_0f7a4_40 (by decide) rfl (ll' := [some (.int (y34 + (((y34).toUInt32 >>> ((nI 8).toUInt32 &&& Int32.toUInt32 31)).toInt32)))]) rfl ?_
  show gg E _ 1 X 0 0 41 [some (.int (bcF4 y34))] [] []
  generalize e41 : bcF4 y34 = y41
  refine g_iload_n C dJ6_bitCount_0f7a4_41 rfl ?_
  refine g_iload_n C dJ6_bitCount_0f7a4_42 rfl ?_
  refine g_bipush (v := nI 16) C dJ6_bitCount_0f7a4_43 (by decide) ?_
  refine g_iushr C dJ6_bitCount_0f7a4_45 rfl ?_
  refine g_iadd C dJ6_bitCount_0f7a4_46 ?_
  refine g_istore_n C dJ6_bitCount_0f7a4_47 (by decide) rfl (ll' := [some (.int (y41 + (((y41).toUInt32 >>> ((nI 16).toUInt32 &&& Int32.toUInt32 31)).toInt32)))]) rfl ?_
  show gg E _ 1 X 0 0 48 [some (.int (bcF5 y41))] [] []
  generalize e48 : bcF5 y41 = y48
  refine g_iload_n C dJ6_bitCount_0f7a4_48 rfl ?_
  refine g_bipush (v := nI 63) C dJ6_bitCount_0f7a4_49 (by decide) ?_
  refine g_iand C dJ6_bitCount_0f7a4_51 ?_
  exact g_iret C Rt dJ6_bitCount_0f7a4_52 (by decide) (by decide) (⟨by rw [← e48, ← e41, ← e34, ← e24, ← e10, bcF_ok M hM], rfl⟩)

abbrev rm_c_X3_pointsOf : Room := { frames := 0, cells := 0, slots := 0, locals := 0 }
set_option maxHeartbeats 4000000 in
set_option maxRecDepth 100000 in
theorem c_X3_pointsOf (E : gE) (h a0 a1 a2 a3 a4 : Nat) (cnt : Nat) (ms sk pt md ri : Nat → Int32) (P Q : Nat) (hP : P < 8) (hQ : Q < 10) : MM E yX3_pointsOf wsX3_pointsOf rm_c_X3_pointsOf [.ref h, .int (nI P), .int (nI Q)] [gO h 3 [.ref a0, .ref a1, .ref a2, .ref a3, .ref a4, .int (nI cnt)], gA E a0 10 ms, gA E a1 10 sk, gA E a2 80 pt, gA E a3 5 md, gA E a4 8 ri] (fun rv_ ru_ => rv_ = some (.int (pt (10 * P + Q))) ∧ ru_ = [gO h 3 [.ref a0, .ref a1, .ref a2, .ref a3, .ref a4, .int (nI cnt)], gA E a0 10 ms, gA E a1 10 sk, gA E a2 80 pt, gA E a3 5 md, gA E a4 8 ri]) := by
  refine MM.ofG (cc := cX3_pointsOf) (maxL := 3) (ret := (some .int)) (by decide) rfl (Nat.le_of_ble_eq_true rfl) (ll := [some (.ref h), some (.int (nI P)), some (.int (nI Q))]) rfl ?_
  intro X C Rt
  have C : gx E X cX3_pointsOf 3 wsX3_pointsOf RX3 := C
  have i_X3 : ∀ w ∈ u_ws RX3 TX3 6, w ∈ wsX3_pointsOf := by decide +kernel
  have f_18 : Cond.fieldLink RX3 18 "MarkPages$Papers" "points" "[I" ∈ wsX3_pointsOf := by decide +kernel
  refine g_aload_n C dX3_pointsOf_0 rfl ?_
  refine g_get C i_X3 0 2 f_18 rfl rfl (by decide) rfl rfl dX3_pointsOf_1 ?_
  refine g_iload_n C dX3_pointsOf_4 rfl ?_
  refine g_bipush (v := nI 10) C dX3_pointsOf_5 (by decide) ?_
  refine g_imul_n C dX3_pointsOf_7 ?_
  refine g_iload_n C dX3_pointsOf_8 rfl ?_
  refine g_iadd_n C dX3_pointsOf_9 ?_
  refine g_iald C 3 ((P * 10) + Q) rfl rfl (by omega) (by decide) dX3_pointsOf_10 ?_
  exact g_iret C Rt dX3_pointsOf_11 (by decide) (by decide) (⟨by rw [Nat.mul_comm P 10], rfl⟩)

abbrev rm_c_X3_hasQuestion : Room := { frames := 0, cells := 0, slots := 0, locals := 0 }
set_option maxHeartbeats 4000000 in
set_option maxRecDepth 100000 in
theorem c_X3_hasQuestion (E : gE) (h a0 a1 a2 a3 a4 : Nat) (cnt : Nat) (ms sk pt md ri : Nat → Int32) (q : Int32)  : MM E yX3_hasQuestion wsX3_hasQuestion rm_c_X3_hasQuestion [.ref h, .int q] [gO h 3 [.ref a0, .ref a1, .ref a2, .ref a3, .ref a4, .int (nI cnt)], gA E a0 10 ms, gA E a1 10 sk, gA E a2 80 pt, gA E a3 5 md, gA E a4 8 ri] (fun rv_ ru_ => rv_ = some (.int (b2i (decide (¬ q < 0 ∧ ¬ nI cnt ≤ q)))) ∧ ru_ = [gO h 3 [.ref a0, .ref a1, .ref a2, .ref a3, .ref a4, .int (nI cnt)], gA E a0 10 ms, gA E a1 10 sk, gA E a2 80 pt, gA E a3 5 md, gA E a4 8 ri]) := by
  refine MM.ofG (cc := cX3_hasQuestion) (maxL := 2) (ret := (some .boolean)) (by decide) rfl (Nat.le_of_ble_eq_true rfl) (ll := [some (.ref h), some (.int q)]) rfl ?_
  intro X C Rt
  have C : gx E X cX3_hasQuestion 2 wsX3_hasQuestion RX3 := C
  have i_X3 : ∀ w ∈ u_ws RX3 TX3 6, w ∈ wsX3_hasQuestion := by decide +kernel
  have f_33 : Cond.fieldLink RX3 33 "MarkPages$Papers" "count" "I" ∈ wsX3_hasQuestion := by decide +kernel
  refine g_iload_n C dX3_hasQuestion_0 rfl ?_
  refine g_if_lt (tgt := 16) C dX3_hasQuestion_1 (by decide) (fun c1 => ?_) (fun c1 => ?_)
  · refine g_iconst (v := nI 0) C dX3_hasQuestion_16 (by decide) ?_
    exact g_zret C Rt dX3_hasQuestion_17 (by decide) (by decide) (by decide) (⟨by simp [b2i, *], rfl⟩)
  · refine g_iload_n C dX3_hasQuestion_4 rfl ?_
    refine g_aload_n C dX3_hasQuestion_5 rfl ?_
    refine g_get C i_X3 0 5 f_33 rfl rfl (by decide) rfl rfl dX3_hasQuestion_6 ?_
    refine g_icmp_ge (tgt := 16) C dX3_hasQuestion_9 (by decide) (fun c9 => ?_) (fun c9 => ?_)
    · refine g_iconst (v := nI 0) C dX3_hasQuestion_16 (by decide) ?_
      exact g_zret C Rt dX3_hasQuestion_17 (by decide) (by decide) (by decide) (⟨by simp [b2i, *], rfl⟩)
    · refine g_iconst (v := nI 1) C dX3_hasQuestion_12 (by decide) ?_
      refine g_goto (tgt := 17) C dX3_hasQuestion_13 (by decide) ?_
      exact g_zret C Rt dX3_hasQuestion_17 (by decide) (by decide) (by decide) (⟨by simp [b2i, *], rfl⟩)

abbrev rm_c_X3_addQuestion : Room := { frames := 0, cells := 0, slots := 0, locals := 0 }
set_option maxHeartbeats 4000000 in
set_option maxRecDepth 100000 in
theorem c_X3_addQuestion (E : gE) (h a0 a1 a2 a3 a4 : Nat) (cnt : Nat) (ms sk pt md ri : Nat → Int32) (m s : Int32) (hcnt : cnt ≤ 10) : MM E yX3_addQuestion wsX3_addQuestion rm_c_X3_addQuestion [.ref h, .int m, .int s] [gO h 3 [.ref a0, .ref a1, .ref a2, .ref a3, .ref a4, .int (nI cnt)], gA E a0 10 ms, gA E a1 10 sk, gA E a2 80 pt, gA E a3 5 md, gA E a4 8 ri] (fun rv_ ru_ => rv_ = some (.int (if cnt < 10 then nI cnt else -1)) ∧ ru_ = [gO h 3 [.ref a0, .ref a1, .ref a2, .ref a3, .ref a4, .int (nI (if cnt < 10 then cnt + 1 else cnt))], gA E a0 10 (if cnt < 10 then upd ms cnt m else ms), gA E a1 10 (if cnt < 10 then upd sk cnt s else sk), gA E a2 80 pt, gA E a3 5 md, gA E a4 8 ri]) := by
  refine MM.ofG (cc := cX3_addQuestion) (maxL := 3) (ret := (some .int)) (by decide) rfl (Nat.le_of_ble_eq_true rfl) (ll := [some (.ref h), some (.int m), some (.int s)]) rfl ?_
  intro X C Rt
  have C : gx E X cX3_addQuestion 3 wsX3_addQuestion RX3 := C
  have i_X3 : ∀ w ∈ u_ws RX3 TX3 6, w ∈ wsX3_addQuestion := by decide +kernel
  have f_15 : Cond.fieldLink RX3 15 "MarkPages$Papers" "skillSets" "[I" ∈ wsX3_addQuestion := by decide +kernel
  have f_33 : Cond.fieldLink RX3 33 "MarkPages$Papers" "count" "I" ∈ wsX3_addQuestion := by decide +kernel
  have f_9 : Cond.fieldLink RX3 9 "MarkPages$Papers" "mosts" "[I" ∈ wsX3_addQuestion := by decide +kernel
  refine g_aload_n C dX3_addQuestion_0 rfl ?_
  refine g_get C i_X3 0 5 f_33 rfl rfl (by decide) rfl rfl dX3_addQuestion_1 ?_
  refine g_bipush (v := nI 10) C dX3_addQuestion_4 (by decide) ?_
  refine g_icmp_lt_n (tgt := 11) C dX3_addQuestion_6 (by decide) (by omega) (by omega) (fun c6 => ?_) (fun c6 => ?_)
  · refine g_aload_n C dX3_addQuestion_11 rfl ?_
    refine g_get C i_X3 0 0 f_9 rfl rfl (by decide) rfl rfl dX3_addQuestion_12 ?_
    refine g_aload_n C dX3_addQuestion_15 rfl ?_
    refine g_get C i_X3 0 5 f_33 rfl rfl (by decide) rfl rfl dX3_addQuestion_16 ?_
    refine g_iload_n C dX3_addQuestion_19 rfl ?_
    refine g_iast C 1 cnt rfl rfl (by omega) (by decide) dX3_addQuestion_20 (ws' := [gO h 3 [.ref a0, .ref a1, .ref a2, .ref a3, .ref a4, .int (nI cnt)], gA E a0 10 (upd ms cnt m), gA E a1 10 sk, gA E a2 80 pt, gA E a3 5 md, gA E a4 8 ri]) rfl ?_
    refine g_aload_n C dX3_addQuestion_21 rfl ?_
    refine g_get C i_X3 0 1 f_15 rfl rfl (by decide) rfl rfl dX3_addQuestion_22 ?_
    refine g_aload_n C dX3_addQuestion_25 rfl ?_
    refine g_get C i_X3 0 5 f_33 rfl rfl (by decide) rfl rfl dX3_addQuestion_26 ?_
    refine g_iload_n C dX3_addQuestion_29 rfl ?_
    refine g_iast C 2 cnt rfl rfl (by omega) (by decide) dX3_addQuestion_30 (ws' := [gO h 3 [.ref a0, .ref a1, .ref a2, .ref a3, .ref a4, .int (nI cnt)], gA E a0 10 (upd ms cnt m), gA E a1 10 (upd sk cnt s), gA E a2 80 pt, gA E a3 5 md, gA E a4 8 ri]) rfl ?_
    refine g_aload_n C dX3_addQuestion_31 rfl ?_
    refine g_dup C dX3_addQuestion_32 rfl ?_
    refine g_get C i_X3 0 5 f_33 rfl rfl (by decide) rfl rfl dX3_addQuestion_33 ?_
    refine g_iconst (v := nI 1) C dX3_addQuestion_36 (by decide) ?_
    refine g_iadd_n C dX3_addQuestion_37 ?_
    refine g_put C i_X3 tyX3 tyX3_ok nmX3 0 5 f_33 rfl rfl (by decide) rfl rfl rfl rfl rfl (Nat.le_of_ble_eq_true rfl) dX3_addQuestion_38 (ws' := [gO h 3 [.ref a0, .ref a1, .ref a2, .ref a3, .ref a4, .int (nI (cnt + 1))], gA E a0 10 (upd ms cnt m), gA E a1 10 (upd sk cnt s), gA E a2 80 pt, gA E a3 5 md, gA E a4 8 ri]) rfl ?_
    refine g_aload_n C dX3_addQuestion_41 rfl ?_
    refine g_get C i_X3 0 5 f_33 rfl rfl (by decide) rfl rfl dX3_addQuestion_42 ?_
    refine g_iconst (v := nI 1) C dX3_addQuestion_45 (by decide) ?_
    refine g_isub_n C dX3_addQuestion_46 (by omega) ?_
    exact g_iret C Rt dX3_addQuestion_47 (by decide) (by decide) (⟨by rw [if_pos c6, Nat.add_sub_cancel], by rw [if_pos c6, if_pos c6, if_pos c6]⟩)
  · refine g_iconst (v := -1) C dX3_addQuestion_9 (by decide) ?_
    exact g_iret C Rt dX3_addQuestion_10 (by decide) (by decide) (⟨by rw [if_neg (Nat.not_lt.mpr c6)], by rw [if_neg (Nat.not_lt.mpr c6), if_neg (Nat.not_lt.mpr c6), if_neg (Nat.not_lt.mpr c6)]⟩)

abbrev rm_c_X3_markedOf : Room := { frames := 1, cells := 0, slots := 0, locals := 22 }
set_option maxHeartbeats 4000000 in
set_option maxRecDepth 100000 in
theorem c_X3_markedOf (E : gE) (h a0 a1 a2 a3 a4 : Nat) (cnt : Nat) (ms sk pt md ri : Nat → Int32) (P S : Nat) (hcnt : cnt ≤ 10) (hP : P < 8) (hS : S < 5) : MM E yX3_markedOf wsX3_markedOf rm_c_X3_markedOf [.ref h, .int (nI P), .int (nI S)] [gO h 3 [.ref a0, .ref a1, .ref a2, .ref a3, .ref a4, .int (nI cnt)], gA E a0 10 ms, gA E a1 10 sk, gA E a2 80 pt, gA E a3 5 md, gA E a4 8 ri] (fun rv_ ru_ => rv_ = some (.int (nI (mkN sk pt P S cnt))) ∧ ru_ = [gO h 3 [.ref a0, .ref a1, .ref a2, .ref a3, .ref a4, .int (nI cnt)], gA E a0 10 ms, gA E a1 10 sk, gA E a2 80 pt, gA E a3 5 md, gA E a4 8 ri]) := by
  refine MM.ofG (cc := cX3_markedOf) (maxL := 5) (ret := (some .int)) (by decide) rfl (Nat.le_of_ble_eq_true rfl) (ll := [some (.ref h), some (.int (nI P)), some (.int (nI S)), none, none]) rfl ?_
  intro X C Rt
  have C : gx E X cX3_markedOf 5 wsX3_markedOf RX3 := C
  have i_X3 : ∀ w ∈ u_ws RX3 TX3 6, w ∈ wsX3_markedOf := by decide +kernel
  have f_15 : Cond.fieldLink RX3 15 "MarkPages$Papers" "skillSets" "[I" ∈ wsX3_markedOf := by decide +kernel
  have f_33 : Cond.fieldLink RX3 33 "MarkPages$Papers" "count" "I" ∈ wsX3_markedOf := by decide +kernel
  refine g_iconst (v := nI 0) C dX3_markedOf_0 (by decide) ?_
  refine g_istore_n C dX3_markedOf_1 (by decide) rfl (ll' := [some (.ref h), some (.int (nI P)), some (.int (nI S)), some (.int (nI 0)), none]) rfl ?_
  refine g_iconst (v := nI 0) C dX3_markedOf_2 (by decide) ?_
  refine g_istore C dX3_markedOf_3 (by decide) rfl (ll' := [some (.ref h), some (.int (nI P)), some (.int (nI S)), some (.int (nI 0)), some (.int (nI 0))]) rfl ?_
  have L5 : ∀ (n5 : Nat) (j acc : Nat), cnt - j < n5 → (j ≤ cnt) → (acc = mkN sk pt P S j) → gg E rm_c_X3_markedOf 5 X 0 0 5 [some (.ref h), some (.int (nI P)), some (.int (nI S)), some (.int (nI acc)), some (.int (nI j))] [] [gO h 3 [.ref a0, .ref a1, .ref a2, .ref a3, .ref a4, .int (nI cnt)], gA E a0 10 ms, gA E a1 10 sk, gA E a2 80 pt, gA E a3 5 md, gA E a4 8 ri] := by
    intro n5
    induction n5 with
    | zero => intro j acc hm5; exact absurd hm5 (Nat.not_lt_zero _)
    | succ n5 ih5 =>
      intro j acc hm5 hj ha
      refine g_iload C dX3_markedOf_5 rfl ?_
      refine g_aload_n C dX3_markedOf_7 rfl ?_
      refine g_get C i_X3 0 5 f_33 rfl rfl (by decide) rfl rfl dX3_markedOf_8 ?_
      refine g_icmp_ge_n (tgt := 53) C dX3_markedOf_11 (by decide) (by omega) (by omega) (fun c11 => ?_) (fun c11 => ?_)
      · have ej : j = cnt := by omega
        rw [ej] at ha
        refine g_iload_n C dX3_markedOf_53 rfl ?_
        exact g_iret C Rt dX3_markedOf_54 (by decide) (by decide) (⟨by rw [ha], rfl⟩)
      · refine g_aload_n C dX3_markedOf_14 rfl ?_
        refine g_get C i_X3 0 1 f_15 rfl rfl (by decide) rfl rfl dX3_markedOf_15 ?_
        refine g_iload C dX3_markedOf_18 rfl ?_
        refine g_iald C 2 j rfl rfl (by omega) (by decide) dX3_markedOf_20 ?_
        refine g_iload_n C dX3_markedOf_21 rfl ?_
        refine g_ishr C dX3_markedOf_22 ?_
        refine g_iconst (v := nI 1) C dX3_markedOf_23 (by decide) ?_
        refine g_iand C dX3_markedOf_24 ?_
        refine g_iconst (v := nI 1) C dX3_markedOf_25 (by decide) ?_
        refine g_icmp_ne (tgt := 47) C dX3_markedOf_26 (by decide) (fun c26 => ?_) (fun c26 => ?_)
        · refine g_iinc_n (y := 1) C dX3_markedOf_47 rfl (by decide) (by decide) rfl (ll' := [some (.ref h), some (.int (nI P)), some (.int (nI S)), some (.int (nI acc)), some (.int (nI (j + 1)))]) rfl ?_
          refine g_goto (tgt := 5) C dX3_markedOf_50 (by decide) ?_
          exact ih5 (j + 1) acc (by omega) (by omega) (by rw [mkN, if_neg (fun z => c26 z.1), ha])
        · refine g_aload_n C dX3_markedOf_29 rfl ?_
          refine g_iload_n C dX3_markedOf_30 rfl ?_
          refine g_iload C dX3_markedOf_31 rfl ?_
          refine g_callV C (c_X3_pointsOf E h a0 a1 a2 a3 a4 cnt ms sk pt md ri P j (by omega) (by omega)) gX3_markedOf_X3_pointsOf rfl 2 (by decide +kernel) ⟨by decide, by decide⟩ ⟨by decide, by decide⟩ 0 rfl rfl [0, 1, 2, 3, 4, 5] [] (wr := []) rfl (by decide) rfl (by decide) (by decide) rfl rfl (Nat.le_of_ble_eq_true rfl) dX3_markedOf_33 ?_
          rintro _ _ ⟨rfl, rfl⟩
          show gg E _ 5 X 0 0 36 [some (.ref h), some (.int (nI P)), some (.int (nI S)), some (.int (nI acc)), some (.int (nI j))] [.int (pt (10 * P + j))] [gO h 3 [.ref a0, .ref a1, .ref a2, .ref a3, .ref a4, .int (nI cnt)], gA E a0 10 ms, gA E a1 10 sk, gA E a2 80 pt, gA E a3 5 md, gA E a4 8 ri]
          refine g_iconst (v := -1) C dX3_markedOf_36 (by decide) ?_
          refine g_icmp_eq (tgt := 47) C dX3_markedOf_37 (by decide) (fun c37 => ?_) (fun c37 => ?_)
          · refine g_iinc_n (y := 1) C dX3_markedOf_47 rfl (by decide) (by decide) rfl (ll' := [some (.ref h), some (.int (nI P)), some (.int (nI S)), some (.int (nI acc)), some (.int (nI (j + 1)))]) rfl ?_
            refine g_goto (tgt := 5) C dX3_markedOf_50 (by decide) ?_
            exact ih5 (j + 1) acc (by omega) (by omega) (by rw [mkN, if_neg (fun z => z.2 c37), ha])
          · refine g_iload_n C dX3_markedOf_40 rfl ?_
            refine g_iconst (v := nI 1) C dX3_markedOf_41 (by decide) ?_
            refine g_iload C dX3_markedOf_42 rfl ?_
            refine g_ishl_n C dX3_markedOf_44 (by omega) (by have := pw_le (show j ≤ 10 by omega); omega) ?_
            refine g_ior_n C dX3_markedOf_45 ?_
            refine g_istore_n C dX3_markedOf_46 (by decide) rfl (ll' := [some (.ref h), some (.int (nI P)), some (.int (nI S)), some (.int (nI (acc ||| (1 * 2 ^ j)))), some (.int (nI j))]) rfl ?_
            refine g_iinc_n (y := 1) C dX3_markedOf_47 rfl (by decide) (by decide) rfl (ll' := [some (.ref h), some (.int (nI P)), some (.int (nI S)), some (.int (nI (acc ||| (1 * 2 ^ j)))), some (.int (nI (j + 1)))]) rfl ?_
            refine g_goto (tgt := 5) C dX3_markedOf_50 (by decide) ?_
            exact ih5 (j + 1) (acc ||| (1 * 2 ^ j)) (by omega) (by omega) (by rw [mkN, if_pos ⟨c26, c37⟩, ha, Nat.one_mul])
  exact L5 _ 0 0 (Nat.lt_succ_self _) (by omega) (rfl)

abbrev rm_c_X3_shareBy : Room := { frames := 1, cells := 0, slots := 0, locals := 22 }
set_option maxHeartbeats 4000000 in
set_option maxRecDepth 100000 in
theorem c_X3_shareBy (E : gE) (h a0 a1 a2 a3 a4 : Nat) (cnt : Nat) (ms sk pt md ri : Nat → Int32) (P M : Nat) (hcnt : cnt ≤ 10) (hP : P < 8) (hM : M < 1024) (hms : okM ms cnt) : MM E yX3_shareBy wsX3_shareBy rm_c_X3_shareBy [.ref h, .int (nI P), .int (nI M)] [gO h 3 [.ref a0, .ref a1, .ref a2, .ref a3, .ref a4, .int (nI cnt)], gA E a0 10 ms, gA E a1 10 sk, gA E a2 80 pt, gA E a3 5 md, gA E a4 8 ri] (fun rv_ ru_ => rv_ = some (.int (shV ms pt P M cnt)) ∧ ru_ = [gO h 3 [.ref a0, .ref a1, .ref a2, .ref a3, .ref a4, .int (nI cnt)], gA E a0 10 ms, gA E a1 10 sk, gA E a2 80 pt, gA E a3 5 md, gA E a4 8 ri]) := by
  refine MM.ofG (cc := cX3_shareBy) (maxL := 6) (ret := (some .int)) (by decide) rfl (Nat.le_of_ble_eq_true rfl) (ll := [some (.ref h), some (.int (nI P)), some (.int (nI M)), none, none, none]) rfl ?_
  intro X C Rt
  have C : gx E X cX3_shareBy 6 wsX3_shareBy RX3 := C
  have i_X3 : ∀ w ∈ u_ws RX3 TX3 6, w ∈ wsX3_shareBy := by decide +kernel
  have f_33 : Cond.fieldLink RX3 33 "MarkPages$Papers" "count" "I" ∈ wsX3_shareBy := by decide +kernel
  have f_9 : Cond.fieldLink RX3 9 "MarkPages$Papers" "mosts" "[I" ∈ wsX3_shareBy := by decide +kernel
  refine g_iconst (v := nI 0) C dX3_shareBy_0 (by decide) ?_
  refine g_istore_n C dX3_shareBy_1 (by decide) rfl (ll' := [some (.ref h), some (.int (nI P)), some (.int (nI M)), some (.int (nI 0)), none, none]) rfl ?_
  refine g_iconst (v := nI 0) C dX3_shareBy_2 (by decide) ?_
  refine g_istore C dX3_shareBy_3 (by decide) rfl (ll' := [some (.ref h), some (.int (nI P)), some (.int (nI M)), some (.int (nI 0)), some (.int (nI 0)), none]) rfl ?_
  refine g_iconst (v := nI 0) C dX3_shareBy_5 (by decide) ?_
  refine g_istore C dX3_shareBy_6 (by decide) rfl (ll' := [some (.ref h), some (.int (nI P)), some (.int (nI M)), some (.int (nI 0)), some (.int (nI 0)), some (.int (nI 0))]) rfl ?_
  have L8 : ∀ (n8 : Nat) (j : Nat) (got all : Int32), cnt - j < n8 → (j ≤ cnt) → (got = shG pt P M j) → (all = shA ms M j) → gg E rm_c_X3_shareBy 6 X 0 0 8 [some (.ref h), some (.int (nI P)), some (.int (nI M)), some (.int got), some (.int all), some (.int (nI j))] [] [gO h 3 [.ref a0, .ref a1, .ref a2, .ref a3, .ref a4, .int (nI cnt)], gA E a0 10 ms, gA E a1 10 sk, gA E a2 80 pt, gA E a3 5 md, gA E a4 8 ri] := by
    intro n8
    induction n8 with
    | zero => intro j got all hm8; exact absurd hm8 (Nat.not_lt_zero _)
    | succ n8 ih8 =>
      intro j got all hm8 hj hg ha
      refine g_iload C dX3_shareBy_8 rfl ?_
      refine g_aload_n C dX3_shareBy_10 rfl ?_
      refine g_get C i_X3 0 5 f_33 rfl rfl (by decide) rfl rfl dX3_shareBy_11 ?_
      refine g_icmp_ge_n (tgt := 55) C dX3_shareBy_14 (by decide) (by omega) (by omega) (fun c14 => ?_) (fun c14 => ?_)
      · have ej : j = cnt := by omega
        rw [ej] at hg ha
        refine g_iload C dX3_shareBy_55 rfl ?_
        refine g_if_le (tgt := 70) C dX3_shareBy_57 (by decide) (fun c57 => ?_) (fun c57 => ?_)
        · refine g_iconst (v := nI 0) C dX3_shareBy_70 (by decide) ?_
          exact g_iret C Rt dX3_shareBy_71 (by decide) (by decide) (⟨by rw [shV, if_pos ((shA_le0 hcnt hms).mp (ha ▸ c57))], rfl⟩)
        · refine g_bipush (v := nI 100) C dX3_shareBy_60 (by decide) ?_
          refine g_iload_n C dX3_shareBy_62 rfl ?_
          refine g_imul C dX3_shareBy_63 ?_
          refine g_iload C dX3_shareBy_64 rfl ?_
          refine g_idiv C dX3_shareBy_66 (fun z => c57 (by rw [z]; decide)) ?_
          refine g_goto (tgt := 71) C dX3_shareBy_67 (by decide) ?_
          exact g_iret C Rt dX3_shareBy_71 (by decide) (by decide) (⟨by rw [shV, if_neg (fun z => c57 (by rw [ha, z]; decide)), hg, ha], rfl⟩)
      · refine g_iload_n C dX3_shareBy_17 rfl ?_
        refine g_iload C dX3_shareBy_18 rfl ?_
        refine g_ishr_n C dX3_shareBy_20 (by omega) (by omega) ?_
        refine g_iconst (v := nI 1) C dX3_shareBy_21 (by decide) ?_
        refine g_iand1_n C dX3_shareBy_22 ?_
        refine g_iconst (v := nI 1) C dX3_shareBy_23 (by decide) ?_
        refine g_icmp_ne_n (tgt := 49) C dX3_shareBy_24 (by decide) (by omega) (by omega) (fun c24 => ?_) (fun c24 => ?_)
        · refine g_iinc_n (y := 1) C dX3_shareBy_49 rfl (by decide) (by decide) rfl (ll' := [some (.ref h), some (.int (nI P)), some (.int (nI M)), some (.int got), some (.int all), some (.int (nI (j + 1)))]) rfl ?_
          refine g_goto (tgt := 8) C dX3_shareBy_52 (by decide) ?_
          exact ih8 (j + 1) got all (by omega) (by omega) (by rw [shG, if_neg c24, hg]) (by rw [shA, if_neg c24, ha])
        · refine g_iload_n C dX3_shareBy_27 rfl ?_
          refine g_aload_n C dX3_shareBy_28 rfl ?_
          refine g_iload_n C dX3_shareBy_29 rfl ?_
          refine g_iload C dX3_shareBy_30 rfl ?_
          refine g_callV C (c_X3_pointsOf E h a0 a1 a2 a3 a4 cnt ms sk pt md ri P j (by omega) (by omega)) gX3_shareBy_X3_pointsOf rfl 2 (by decide +kernel) ⟨by decide, by decide⟩ ⟨by decide, by decide⟩ 0 rfl rfl [0, 1, 2, 3, 4, 5] [] (wr := []) rfl (by decide) rfl (by decide) (by decide) rfl rfl (Nat.le_of_ble_eq_true rfl) dX3_shareBy_32 ?_
          rintro _ _ ⟨rfl, rfl⟩
          show gg E _ 6 X 0 0 35 [some (.ref h), some (.int (nI P)), some (.int (nI M)), some (.int got), some (.int all), some (.int (nI j))] [.int (pt (10 * P + j)), .int got] [gO h 3 [.ref a0, .ref a1, .ref a2, .ref a3, .ref a4, .int (nI cnt)], gA E a0 10 ms, gA E a1 10 sk, gA E a2 80 pt, gA E a3 5 md, gA E a4 8 ri]
          refine g_iadd C dX3_shareBy_35 ?_
          refine g_istore_n C dX3_shareBy_36 (by decide) rfl (ll' := [some (.ref h), some (.int (nI P)), some (.int (nI M)), some (.int (got + (pt (10 * P + j)))), some (.int all), some (.int (nI j))]) rfl ?_
          refine g_iload C dX3_shareBy_37 rfl ?_
          refine g_aload_n C dX3_shareBy_39 rfl ?_
          refine g_get C i_X3 0 0 f_9 rfl rfl (by decide) rfl rfl dX3_shareBy_40 ?_
          refine g_iload C dX3_shareBy_43 rfl ?_
          refine g_iald C 1 j rfl rfl (by omega) (by decide) dX3_shareBy_45 ?_
          refine g_iadd C dX3_shareBy_46 ?_
          refine g_istore C dX3_shareBy_47 (by decide) rfl (ll' := [some (.ref h), some (.int (nI P)), some (.int (nI M)), some (.int (got + (pt (10 * P + j)))), some (.int (all + (ms j))), some (.int (nI j))]) rfl ?_
          refine g_iinc_n (y := 1) C dX3_shareBy_49 rfl (by decide) (by decide) rfl (ll' := [some (.ref h), some (.int (nI P)), some (.int (nI M)), some (.int (got + (pt (10 * P + j)))), some (.int (all + (ms j))), some (.int (nI (j + 1)))]) rfl ?_
          refine g_goto (tgt := 8) C dX3_shareBy_52 (by decide) ?_
          exact ih8 (j + 1) (got + (pt (10 * P + j))) (all + (ms j)) (by omega) (by omega) (by rw [shG, if_pos c24, hg]) (by rw [shA, if_pos c24, ha])
  exact L8 _ 0 (nI 0) (nI 0) (Nat.lt_succ_self _) (by omega) (rfl) (rfl)

abbrev rm_c_X3_lastOf : Room := { frames := 0, cells := 0, slots := 0, locals := 0 }
set_option maxHeartbeats 4000000 in
set_option maxRecDepth 100000 in
theorem c_X3_lastOf (E : gE) (h a0 a1 a2 a3 a4 : Nat) (cnt : Nat) (ms sk pt md ri : Nat → Int32) (M : Nat) (hcnt : cnt ≤ 10) (hM : M < 1024) : MM E yX3_lastOf wsX3_lastOf rm_c_X3_lastOf [.ref h, .int (nI M)] [gO h 3 [.ref a0, .ref a1, .ref a2, .ref a3, .ref a4, .int (nI cnt)], gA E a0 10 ms, gA E a1 10 sk, gA E a2 80 pt, gA E a3 5 md, gA E a4 8 ri] (fun rv_ ru_ => rv_ = some (.int (nI (laS M cnt))) ∧ ru_ = [gO h 3 [.ref a0, .ref a1, .ref a2, .ref a3, .ref a4, .int (nI cnt)], gA E a0 10 ms, gA E a1 10 sk, gA E a2 80 pt, gA E a3 5 md, gA E a4 8 ri]) := by
  refine MM.ofG (cc := cX3_lastOf) (maxL := 4) (ret := (some .int)) (by decide) rfl (Nat.le_of_ble_eq_true rfl) (ll := [some (.ref h), some (.int (nI M)), none, none]) rfl ?_
  intro X C Rt
  have C : gx E X cX3_lastOf 4 wsX3_lastOf RX3 := C
  have i_X3 : ∀ w ∈ u_ws RX3 TX3 6, w ∈ wsX3_lastOf := by decide +kernel
  have f_33 : Cond.fieldLink RX3 33 "MarkPages$Papers" "count" "I" ∈ wsX3_lastOf := by decide +kernel
  refine g_iconst (v := nI 0) C dX3_lastOf_0 (by decide) ?_
  refine g_istore_n C dX3_lastOf_1 (by decide) rfl (ll' := [some (.ref h), some (.int (nI M)), some (.int (nI 0)), none]) rfl ?_
  refine g_iconst (v := nI 0) C dX3_lastOf_2 (by decide) ?_
  refine g_istore_n C dX3_lastOf_3 (by decide) rfl (ll' := [some (.ref h), some (.int (nI M)), some (.int (nI 0)), some (.int (nI 0))]) rfl ?_
  have L4 : ∀ (n4 : Nat) (j la : Nat), cnt - j < n4 → (j ≤ cnt) → (la = laS M j) → gg E rm_c_X3_lastOf 4 X 0 0 4 [some (.ref h), some (.int (nI M)), some (.int (nI la)), some (.int (nI j))] [] [gO h 3 [.ref a0, .ref a1, .ref a2, .ref a3, .ref a4, .int (nI cnt)], gA E a0 10 ms, gA E a1 10 sk, gA E a2 80 pt, gA E a3 5 md, gA E a4 8 ri] := by
    intro n4
    induction n4 with
    | zero => intro j la hm4; exact absurd hm4 (Nat.not_lt_zero _)
    | succ n4 ih4 =>
      intro j la hm4 hj hl
      refine g_iload_n C dX3_lastOf_4 rfl ?_
      refine g_aload_n C dX3_lastOf_5 rfl ?_
      refine g_get C i_X3 0 5 f_33 rfl rfl (by decide) rfl rfl dX3_lastOf_6 ?_
      refine g_icmp_ge_n (tgt := 31) C dX3_lastOf_9 (by decide) (by omega) (by omega) (fun c9 => ?_) (fun c9 => ?_)
      · have ej : j = cnt := by omega
        rw [ej] at hl
        refine g_iload_n C dX3_lastOf_31 rfl ?_
        exact g_iret C Rt dX3_lastOf_32 (by decide) (by decide) (⟨by rw [hl], rfl⟩)
      · refine g_iload_n C dX3_lastOf_12 rfl ?_
        refine g_iload_n C dX3_lastOf_13 rfl ?_
        refine g_ishr_n C dX3_lastOf_14 (by omega) (by omega) ?_
        refine g_iconst (v := nI 1) C dX3_lastOf_15 (by decide) ?_
        refine g_iand1_n C dX3_lastOf_16 ?_
        refine g_iconst (v := nI 1) C dX3_lastOf_17 (by decide) ?_
        refine g_icmp_ne_n (tgt := 25) C dX3_lastOf_18 (by decide) (by omega) (by omega) (fun c18 => ?_) (fun c18 => ?_)
        · refine g_iinc_n (y := 1) C dX3_lastOf_25 rfl (by decide) (by decide) rfl (ll' := [some (.ref h), some (.int (nI M)), some (.int (nI la)), some (.int (nI (j + 1)))]) rfl ?_
          refine g_goto (tgt := 4) C dX3_lastOf_28 (by decide) ?_
          exact ih4 (j + 1) la (by omega) (by omega) (by rw [laS, if_neg c18, hl])
        · refine g_iconst (v := nI 1) C dX3_lastOf_21 (by decide) ?_
          refine g_iload_n C dX3_lastOf_22 rfl ?_
          refine g_ishl_n C dX3_lastOf_23 (by omega) (by have := pw_le (show j ≤ 10 by omega); omega) ?_
          refine g_istore_n C dX3_lastOf_24 (by decide) rfl (ll' := [some (.ref h), some (.int (nI M)), some (.int (nI (1 * 2 ^ j))), some (.int (nI j))]) rfl ?_
          refine g_iinc_n (y := 1) C dX3_lastOf_25 rfl (by decide) (by decide) rfl (ll' := [some (.ref h), some (.int (nI M)), some (.int (nI (1 * 2 ^ j))), some (.int (nI (j + 1)))]) rfl ?_
          refine g_goto (tgt := 4) C dX3_lastOf_28 (by decide) ?_
          exact ih4 (j + 1) (1 * 2 ^ j) (by omega) (by omega) (by rw [laS, if_pos c18, Nat.one_mul])
  exact L4 _ 0 0 (Nat.lt_succ_self _) (by omega) (rfl)

abbrev rm_c_X3_missedBy : Room := { frames := 1, cells := 0, slots := 0, locals := 22 }
set_option maxHeartbeats 4000000 in
set_option maxRecDepth 100000 in
theorem c_X3_missedBy (E : gE) (h a0 a1 a2 a3 a4 : Nat) (cnt : Nat) (ms sk pt md ri : Nat → Int32) (P M : Nat) (hcnt : cnt ≤ 10) (hP : P < 8) (hM : M < 1024) : MM E yX3_missedBy wsX3_missedBy rm_c_X3_missedBy [.ref h, .int (nI P), .int (nI M)] [gO h 3 [.ref a0, .ref a1, .ref a2, .ref a3, .ref a4, .int (nI cnt)], gA E a0 10 ms, gA E a1 10 sk, gA E a2 80 pt, gA E a3 5 md, gA E a4 8 ri] (fun rv_ ru_ => rv_ = some (.int (nI (miN pt P M cnt))) ∧ ru_ = [gO h 3 [.ref a0, .ref a1, .ref a2, .ref a3, .ref a4, .int (nI cnt)], gA E a0 10 ms, gA E a1 10 sk, gA E a2 80 pt, gA E a3 5 md, gA E a4 8 ri]) := by
  refine MM.ofG (cc := cX3_missedBy) (maxL := 5) (ret := (some .int)) (by decide) rfl (Nat.le_of_ble_eq_true rfl) (ll := [some (.ref h), some (.int (nI P)), some (.int (nI M)), none, none]) rfl ?_
  intro X C Rt
  have C : gx E X cX3_missedBy 5 wsX3_missedBy RX3 := C
  have i_X3 : ∀ w ∈ u_ws RX3 TX3 6, w ∈ wsX3_missedBy := by decide +kernel
  have f_33 : Cond.fieldLink RX3 33 "MarkPages$Papers" "count" "I" ∈ wsX3_missedBy := by decide +kernel
  refine g_iconst (v := nI 0) C dX3_missedBy_0 (by decide) ?_
  refine g_istore_n C dX3_missedBy_1 (by decide) rfl (ll' := [some (.ref h), some (.int (nI P)), some (.int (nI M)), some (.int (nI 0)), none]) rfl ?_
  refine g_iconst (v := nI 0) C dX3_missedBy_2 (by decide) ?_
  refine g_istore C dX3_missedBy_3 (by decide) rfl (ll' := [some (.ref h), some (.int (nI P)), some (.int (nI M)), some (.int (nI 0)), some (.int (nI 0))]) rfl ?_
  have L5 : ∀ (n5 : Nat) (j mi : Nat), cnt - j < n5 → (j ≤ cnt) → (mi = miN pt P M j) → gg E rm_c_X3_missedBy 5 X 0 0 5 [some (.ref h), some (.int (nI P)), some (.int (nI M)), some (.int (nI mi)), some (.int (nI j))] [] [gO h 3 [.ref a0, .ref a1, .ref a2, .ref a3, .ref a4, .int (nI cnt)], gA E a0 10 ms, gA E a1 10 sk, gA E a2 80 pt, gA E a3 5 md, gA E a4 8 ri] := by
    intro n5
    induction n5 with
    | zero => intro j mi hm5; exact absurd hm5 (Nat.not_lt_zero _)
    | succ n5 ih5 =>
      intro j mi hm5 hj hi
      refine g_iload C dX3_missedBy_5 rfl ?_
      refine g_aload_n C dX3_missedBy_7 rfl ?_
      refine g_get C i_X3 0 5 f_33 rfl rfl (by decide) rfl rfl dX3_missedBy_8 ?_
      refine g_icmp_ge_n (tgt := 43) C dX3_missedBy_11 (by decide) (by omega) (by omega) (fun c11 => ?_) (fun c11 => ?_)
      · have ej : j = cnt := by omega
        rw [ej] at hi
        refine g_iload_n C dX3_missedBy_43 rfl ?_
        exact g_iret C Rt dX3_missedBy_44 (by decide) (by decide) (⟨by rw [hi], rfl⟩)
      · refine g_iload_n C dX3_missedBy_14 rfl ?_
        refine g_iload C dX3_missedBy_15 rfl ?_
        refine g_ishr_n C dX3_missedBy_17 (by omega) (by omega) ?_
        refine g_iconst (v := nI 1) C dX3_missedBy_18 (by decide) ?_
        refine g_iand1_n C dX3_missedBy_19 ?_
        refine g_iconst (v := nI 1) C dX3_missedBy_20 (by decide) ?_
        refine g_icmp_ne_n (tgt := 37) C dX3_missedBy_21 (by decide) (by omega) (by omega) (fun c21 => ?_) (fun c21 => ?_)
        · refine g_iinc_n (y := 1) C dX3_missedBy_37 rfl (by decide) (by decide) rfl (ll' := [some (.ref h), some (.int (nI P)), some (.int (nI M)), some (.int (nI mi)), some (.int (nI (j + 1)))]) rfl ?_
          refine g_goto (tgt := 5) C dX3_missedBy_40 (by decide) ?_
          exact ih5 (j + 1) mi (by omega) (by omega) (by rw [miN, if_neg (fun z => c21 z.1), hi])
        · refine g_aload_n C dX3_missedBy_24 rfl ?_
          refine g_iload_n C dX3_missedBy_25 rfl ?_
          refine g_iload C dX3_missedBy_26 rfl ?_
          refine g_callV C (c_X3_pointsOf E h a0 a1 a2 a3 a4 cnt ms sk pt md ri P j (by omega) (by omega)) gX3_missedBy_X3_pointsOf rfl 2 (by decide +kernel) ⟨by decide, by decide⟩ ⟨by decide, by decide⟩ 0 rfl rfl [0, 1, 2, 3, 4, 5] [] (wr := []) rfl (by decide) rfl (by decide) (by decide) rfl rfl (Nat.le_of_ble_eq_true rfl) dX3_missedBy_28 ?_
          rintro _ _ ⟨rfl, rfl⟩
          show gg E _ 5 X 0 0 31 [some (.ref h), some (.int (nI P)), some (.int (nI M)), some (.int (nI mi)), some (.int (nI j))] [.int (pt (10 * P + j))] [gO h 3 [.ref a0, .ref a1, .ref a2, .ref a3, .ref a4, .int (nI cnt)], gA E a0 10 ms, gA E a1 10 sk, gA E a2 80 pt, gA E a3 5 md, gA E a4 8 ri]
          refine g_if_ne (tgt := 37) C dX3_missedBy_31 (by decide) (fun c31 => ?_) (fun c31 => ?_)
          · refine g_iinc_n (y := 1) C dX3_missedBy_37 rfl (by decide) (by decide) rfl (ll' := [some (.ref h), some (.int (nI P)), some (.int (nI M)), some (.int (nI mi)), some (.int (nI (j + 1)))]) rfl ?_
            refine g_goto (tgt := 5) C dX3_missedBy_40 (by decide) ?_
            exact ih5 (j + 1) mi (by omega) (by omega) (by rw [miN, if_neg (fun z => c31 z.2), hi])
          · refine g_iinc_n (y := 1) C dX3_missedBy_34 rfl (by decide) (by decide) rfl (ll' := [some (.ref h), some (.int (nI P)), some (.int (nI M)), some (.int (nI (mi + 1))), some (.int (nI j))]) rfl ?_
            refine g_iinc_n (y := 1) C dX3_missedBy_37 rfl (by decide) (by decide) rfl (ll' := [some (.ref h), some (.int (nI P)), some (.int (nI M)), some (.int (nI (mi + 1))), some (.int (nI (j + 1)))]) rfl ?_
            refine g_goto (tgt := 5) C dX3_missedBy_40 (by decide) ?_
            exact ih5 (j + 1) (mi + 1) (by omega) (by omega) (by rw [miN, if_pos ⟨c21, c31⟩, hi])
  exact L5 _ 0 0 (Nat.lt_succ_self _) (by omega) (rfl)

abbrev rm_c_X3_hasMark : Room := { frames := 1, cells := 0, slots := 0, locals := 22 }
set_option maxHeartbeats 4000000 in
set_option maxRecDepth 100000 in
theorem c_X3_hasMark (E : gE) (h a0 a1 a2 a3 a4 : Nat) (cnt : Nat) (ms sk pt md ri : Nat → Int32) (P : Nat) (hcnt : cnt ≤ 10) (hP : P < 8) : MM E yX3_hasMark wsX3_hasMark rm_c_X3_hasMark [.ref h, .int (nI P)] [gO h 3 [.ref a0, .ref a1, .ref a2, .ref a3, .ref a4, .int (nI cnt)], gA E a0 10 ms, gA E a1 10 sk, gA E a2 80 pt, gA E a3 5 md, gA E a4 8 ri] (fun rv_ ru_ => rv_ = some (.int (b2i (haM pt P cnt))) ∧ ru_ = [gO h 3 [.ref a0, .ref a1, .ref a2, .ref a3, .ref a4, .int (nI cnt)], gA E a0 10 ms, gA E a1 10 sk, gA E a2 80 pt, gA E a3 5 md, gA E a4 8 ri]) := by
  refine MM.ofG (cc := cX3_hasMark) (maxL := 3) (ret := (some .boolean)) (by decide) rfl (Nat.le_of_ble_eq_true rfl) (ll := [some (.ref h), some (.int (nI P)), none]) rfl ?_
  intro X C Rt
  have C : gx E X cX3_hasMark 3 wsX3_hasMark RX3 := C
  have i_X3 : ∀ w ∈ u_ws RX3 TX3 6, w ∈ wsX3_hasMark := by decide +kernel
  have f_33 : Cond.fieldLink RX3 33 "MarkPages$Papers" "count" "I" ∈ wsX3_hasMark := by decide +kernel
  refine g_iconst (v := nI 0) C dX3_hasMark_0 (by decide) ?_
  refine g_istore_n C dX3_hasMark_1 (by decide) rfl (ll' := [some (.ref h), some (.int (nI P)), some (.int (nI 0))]) rfl ?_
  have L2 : ∀ (n2 : Nat) (j : Nat), cnt - j < n2 → (j ≤ cnt) → (haM pt P j = false) → gg E rm_c_X3_hasMark 3 X 0 0 2 [some (.ref h), some (.int (nI P)), some (.int (nI j))] [] [gO h 3 [.ref a0, .ref a1, .ref a2, .ref a3, .ref a4, .int (nI cnt)], gA E a0 10 ms, gA E a1 10 sk, gA E a2 80 pt, gA E a3 5 md, gA E a4 8 ri] := by
    intro n2
    induction n2 with
    | zero => intro j hm2; exact absurd hm2 (Nat.not_lt_zero _)
    | succ n2 ih2 =>
      intro j hm2 hj hh
      refine g_iload_n C dX3_hasMark_2 rfl ?_
      refine g_aload_n C dX3_hasMark_3 rfl ?_
      refine g_get C i_X3 0 5 f_33 rfl rfl (by decide) rfl rfl dX3_hasMark_4 ?_
      refine g_icmp_ge_n (tgt := 28) C dX3_hasMark_7 (by decide) (by omega) (by omega) (fun c7 => ?_) (fun c7 => ?_)
      · refine g_iconst (v := nI 0) C dX3_hasMark_28 (by decide) ?_
        exact g_zret C Rt dX3_hasMark_29 (by decide) (by decide) (by decide) (⟨by rw [show cnt = j by omega, hh]; rfl, rfl⟩)
      · refine g_aload_n C dX3_hasMark_10 rfl ?_
        refine g_iload_n C dX3_hasMark_11 rfl ?_
        refine g_iload_n C dX3_hasMark_12 rfl ?_
        refine g_callV C (c_X3_pointsOf E h a0 a1 a2 a3 a4 cnt ms sk pt md ri P j (by omega) (by omega)) gX3_hasMark_X3_pointsOf rfl 2 (by decide +kernel) ⟨by decide, by decide⟩ ⟨by decide, by decide⟩ 0 rfl rfl [0, 1, 2, 3, 4, 5] [] (wr := []) rfl (by decide) rfl (by decide) (by decide) rfl rfl (Nat.le_of_ble_eq_true rfl) dX3_hasMark_13 ?_
        rintro _ _ ⟨rfl, rfl⟩
        show gg E _ 3 X 0 0 16 [some (.ref h), some (.int (nI P)), some (.int (nI j))] [.int (pt (10 * P + j))] [gO h 3 [.ref a0, .ref a1, .ref a2, .ref a3, .ref a4, .int (nI cnt)], gA E a0 10 ms, gA E a1 10 sk, gA E a2 80 pt, gA E a3 5 md, gA E a4 8 ri]
        refine g_iconst (v := -1) C dX3_hasMark_16 (by decide) ?_
        refine g_icmp_eq (tgt := 22) C dX3_hasMark_17 (by decide) (fun c17 => ?_) (fun c17 => ?_)
        · refine g_iinc_n (y := 1) C dX3_hasMark_22 rfl (by decide) (by decide) rfl (ll' := [some (.ref h), some (.int (nI P)), some (.int (nI (j + 1)))]) rfl ?_
          refine g_goto (tgt := 2) C dX3_hasMark_25 (by decide) ?_
          exact ih2 (j + 1) (by omega) (by omega) (by rw [haM, hh, c17]; rfl)
        · refine g_iconst (v := nI 1) C dX3_hasMark_20 (by decide) ?_
          exact g_zret C Rt dX3_hasMark_21 (by decide) (by decide) (by decide) (⟨by rw [haM_true c17 c7]; rfl, rfl⟩)
  exact L2 _ 0 (Nat.lt_succ_self _) (by omega) (rfl)

abbrev rm_c_X3_insertRising : Room := { frames := 0, cells := 0, slots := 0, locals := 0 }
set_option maxHeartbeats 4000000 in
set_option maxRecDepth 100000 in
theorem c_X3_insertRising (E : gE) (h a0 a1 a2 a3 a4 : Nat) (cnt : Nat) (ms sk pt md ri : Nat → Int32) (K : Nat) (v : Int32) (hK : K < 8) : MM E yX3_insertRising wsX3_insertRising rm_c_X3_insertRising [.ref h, .int (nI K), .int v] [gO h 3 [.ref a0, .ref a1, .ref a2, .ref a3, .ref a4, .int (nI cnt)], gA E a0 10 ms, gA E a1 10 sk, gA E a2 80 pt, gA E a3 5 md, gA E a4 8 ri] (fun rv_ ru_ => rv_ = none ∧ ru_ = [gO h 3 [.ref a0, .ref a1, .ref a2, .ref a3, .ref a4, .int (nI cnt)], gA E a0 10 ms, gA E a1 10 sk, gA E a2 80 pt, gA E a3 5 md, gA E a4 8 (insL v ri K)]) := by
  refine MM.ofG (cc := cX3_insertRising) (maxL := 5) (ret := none) (by decide) rfl (Nat.le_of_ble_eq_true rfl) (ll := [some (.ref h), some (.int (nI K)), some (.int v), none, none]) rfl ?_
  intro X C Rt
  have C : gx E X cX3_insertRising 5 wsX3_insertRising RX3 := C
  have i_X3 : ∀ w ∈ u_ws RX3 TX3 6, w ∈ wsX3_insertRising := by decide +kernel
  have f_24 : Cond.fieldLink RX3 24 "MarkPages$Papers" "rising" "[I" ∈ wsX3_insertRising := by decide +kernel
  refine g_iload_n C dX3_insertRising_0 rfl ?_
  refine g_istore_n C dX3_insertRising_1 (by decide) rfl (ll' := [some (.ref h), some (.int (nI K)), some (.int v), some (.int (nI K)), none]) rfl ?_
  refine g_iload_n C dX3_insertRising_2 rfl ?_
  refine g_istore C dX3_insertRising_3 (by decide) rfl (ll' := [some (.ref h), some (.int (nI K)), some (.int v), some (.int (nI K)), some (.int (nI K))]) rfl ?_
  have L5 : ∀ (n5 : Nat) (i : Nat) (r : Nat → Int32), i < n5 → (i ≤ K) → (insL v r i = insL v ri K) → gg E rm_c_X3_insertRising 5 X 0 0 5 [some (.ref h), some (.int (nI K)), some (.int v), some (.int (nI i)), some (.int (nI i))] [] [gO h 3 [.ref a0, .ref a1, .ref a2, .ref a3, .ref a4, .int (nI cnt)], gA E a0 10 ms, gA E a1 10 sk, gA E a2 80 pt, gA E a3 5 md, gA E a4 8 r] := by
    intro n5
    induction n5 with
    | zero => intro i r hm5; exact absurd hm5 (Nat.not_lt_zero _)
    | succ n5 ih5 =>
      intro i r hm5 hi hr
      refine g_iload C dX3_insertRising_5 rfl ?_
      refine g_if_le_n (tgt := 50) C dX3_insertRising_7 (by decide) (by omega) (fun c7 => ?_) (fun c7 => ?_)
      · have hf : upd r i v = insL v ri K := by
          rw [← hr]
          subst c7; rfl
        refine g_aload_n C dX3_insertRising_50 rfl ?_
        refine g_get C i_X3 0 4 f_24 rfl rfl (by decide) rfl rfl dX3_insertRising_51 ?_
        refine g_iload_n C dX3_insertRising_54 rfl ?_
        refine g_iload_n C dX3_insertRising_55 rfl ?_
        refine g_iast C 5 i rfl rfl (by omega) (by decide) dX3_insertRising_56 (ws' := [gO h 3 [.ref a0, .ref a1, .ref a2, .ref a3, .ref a4, .int (nI cnt)], gA E a0 10 ms, gA E a1 10 sk, gA E a2 80 pt, gA E a3 5 md, gA E a4 8 (upd r i v)]) rfl ?_
        exact g_vret C Rt dX3_insertRising_57 (by decide) (by decide) (⟨rfl, by rw [hf]⟩)
      · refine g_aload_n C dX3_insertRising_10 rfl ?_
        refine g_get C i_X3 0 4 f_24 rfl rfl (by decide) rfl rfl dX3_insertRising_11 ?_
        refine g_iload C dX3_insertRising_14 rfl ?_
        refine g_iconst (v := nI 1) C dX3_insertRising_16 (by decide) ?_
        refine g_isub_n C dX3_insertRising_17 (by omega) ?_
        refine g_iald C 5 (i - 1) rfl rfl (by omega) (by decide) dX3_insertRising_18 ?_
        refine g_iload_n C dX3_insertRising_19 rfl ?_
        refine g_icmp_le (tgt := 50) C dX3_insertRising_20 (by decide) (fun c20 => ?_) (fun c20 => ?_)
        · have hf : upd r i v = insL v ri K := by
            rw [← hr]
            exact ins_stop c7 c20
          refine g_aload_n C dX3_insertRising_50 rfl ?_
          refine g_get C i_X3 0 4 f_24 rfl rfl (by decide) rfl rfl dX3_insertRising_51 ?_
          refine g_iload_n C dX3_insertRising_54 rfl ?_
          refine g_iload_n C dX3_insertRising_55 rfl ?_
          refine g_iast C 5 i rfl rfl (by omega) (by decide) dX3_insertRising_56 (ws' := [gO h 3 [.ref a0, .ref a1, .ref a2, .ref a3, .ref a4, .int (nI cnt)], gA E a0 10 ms, gA E a1 10 sk, gA E a2 80 pt, gA E a3 5 md, gA E a4 8 (upd r i v)]) rfl ?_
          exact g_vret C Rt dX3_insertRising_57 (by decide) (by decide) (⟨rfl, by rw [hf]⟩)
        · refine g_aload_n C dX3_insertRising_23 rfl ?_
          refine g_get C i_X3 0 4 f_24 rfl rfl (by decide) rfl rfl dX3_insertRising_24 ?_
          refine g_iload C dX3_insertRising_27 rfl ?_
          refine g_aload_n C dX3_insertRising_29 rfl ?_
          refine g_get C i_X3 0 4 f_24 rfl rfl (by decide) rfl rfl dX3_insertRising_30 ?_
          refine g_iload C dX3_insertRising_33 rfl ?_
          refine g_iconst (v := nI 1) C dX3_insertRising_35 (by decide) ?_
          refine g_isub_n C dX3_insertRising_36 (by omega) ?_
          refine g_iald C 5 (i - 1) rfl rfl (by omega) (by decide) dX3_insertRising_37 ?_
          refine g_iast C 5 i rfl rfl (by omega) (by decide) dX3_insertRising_38 (ws' := [gO h 3 [.ref a0, .ref a1, .ref a2, .ref a3, .ref a4, .int (nI cnt)], gA E a0 10 ms, gA E a1 10 sk, gA E a2 80 pt, gA E a3 5 md, gA E a4 8 (upd r i (r (i - 1)))]) rfl ?_
          refine g_iload C dX3_insertRising_39 rfl ?_
          refine g_iconst (v := nI 1) C dX3_insertRising_41 (by decide) ?_
          refine g_isub_n C dX3_insertRising_42 (by omega) ?_
          refine g_istore_n C dX3_insertRising_43 (by decide) rfl (ll' := [some (.ref h), some (.int (nI K)), some (.int v), some (.int (nI (i - 1))), some (.int (nI i))]) rfl ?_
          refine g_idec_n (y := 1) C dX3_insertRising_44 rfl (by decide) (by omega) (by decide) rfl (ll' := [some (.ref h), some (.int (nI K)), some (.int v), some (.int (nI (i - 1))), some (.int (nI (i - 1)))]) rfl ?_
          refine g_goto (tgt := 5) C dX3_insertRising_47 (by decide) ?_
          exact ih5 (i - 1) (upd r i (r (i - 1))) (by omega) (by omega) (by rw [ins_go c7 c20, hr])
  exact L5 _ K ri (Nat.lt_succ_self _) (by omega) (rfl)

abbrev rm_c_X3_medianOf : Room := { frames := 2, cells := 0, slots := 0, locals := 47 }
set_option maxHeartbeats 4000000 in
set_option maxRecDepth 100000 in
theorem c_X3_medianOf (E : gE) (h a0 a1 a2 a3 a4 : Nat) (cnt : Nat) (ms sk pt md ri : Nat → Int32) (S : Nat) (hcnt : cnt ≤ 10) (hS : S < 5) (hms : okM ms cnt) : MM E yX3_medianOf wsX3_medianOf rm_c_X3_medianOf [.ref h, .int (nI S)] [gO h 3 [.ref a0, .ref a1, .ref a2, .ref a3, .ref a4, .int (nI cnt)], gA E a0 10 ms, gA E a1 10 sk, gA E a2 80 pt, gA E a3 5 md, gA E a4 8 ri] (fun rv_ ru_ => ∃ (ri2 : Nat → Int32), rv_ = some (.int (meV ms sk pt cnt S)) ∧ ru_ = [gO h 3 [.ref a0, .ref a1, .ref a2, .ref a3, .ref a4, .int (nI cnt)], gA E a0 10 ms, gA E a1 10 sk, gA E a2 80 pt, gA E a3 5 md, gA E a4 8 ri2]) := by
  refine MM.ofG (cc := cX3_medianOf) (maxL := 5) (ret := (some .int)) (by decide) rfl (Nat.le_of_ble_eq_true rfl) (ll := [some (.ref h), some (.int (nI S)), none, none, none]) rfl ?_
  intro X C Rt
  have C : gx E X cX3_medianOf 5 wsX3_medianOf RX3 := C
  have i_X3 : ∀ w ∈ u_ws RX3 TX3 6, w ∈ wsX3_medianOf := by decide +kernel
  have f_24 : Cond.fieldLink RX3 24 "MarkPages$Papers" "rising" "[I" ∈ wsX3_medianOf := by decide +kernel
  refine g_iconst (v := nI 0) C dX3_medianOf_0 (by decide) ?_
  refine g_istore_n C dX3_medianOf_1 (by decide) rfl (ll' := [some (.ref h), some (.int (nI S)), some (.int (nI 0)), none, none]) rfl ?_
  refine g_iconst (v := nI 0) C dX3_medianOf_2 (by decide) ?_
  refine g_istore_n C dX3_medianOf_3 (by decide) rfl (ll' := [some (.ref h), some (.int (nI S)), some (.int (nI 0)), some (.int (nI 0)), none]) rfl ?_
  have L4 : ∀ (n4 : Nat) (p nn : Nat) (r : Nat → Int32), 8 - p < n4 → (p ≤ 8) → (nn ≤ p) → ((r, nn) = mdR ms sk pt cnt S ri p) → gg E rm_c_X3_medianOf 5 X 0 0 4 [some (.ref h), some (.int (nI S)), some (.int (nI nn)), some (.int (nI p)), none] [] [gO h 3 [.ref a0, .ref a1, .ref a2, .ref a3, .ref a4, .int (nI cnt)], gA E a0 10 ms, gA E a1 10 sk, gA E a2 80 pt, gA E a3 5 md, gA E a4 8 r] := by
    intro n4
    induction n4 with
    | zero => intro p nn r hm4; exact absurd hm4 (Nat.not_lt_zero _)
    | succ n4 ih4 =>
      intro p nn r hm4 hp hn hr
      refine g_iload_n C dX3_medianOf_4 rfl ?_
      refine g_bipush (v := nI 8) C dX3_medianOf_5 (by decide) ?_
      refine g_icmp_ge_n (tgt := 44) C dX3_medianOf_7 (by decide) (by omega) (by omega) (fun c7 => ?_) (fun c7 => ?_)
      · have ep : p = 8 := by omega
        rw [ep] at hr
        refine g_iload_n C dX3_medianOf_44 rfl ?_
        refine g_if_le_n (tgt := 61) C dX3_medianOf_45 (by decide) (by omega) (fun c45 => ?_) (fun c45 => ?_)
        · refine g_iconst (v := nI 0) C dX3_medianOf_61 (by decide) ?_
          exact g_iret C Rt dX3_medianOf_62 (by decide) (by decide) (⟨_, by rw [meV_any ms sk pt cnt S ri, ← hr, if_pos c45], rfl⟩)
        · refine g_aload_n C dX3_medianOf_48 rfl ?_
          refine g_get C i_X3 0 4 f_24 rfl rfl (by decide) rfl rfl dX3_medianOf_49 ?_
          refine g_iload_n C dX3_medianOf_52 rfl ?_
          refine g_iconst (v := nI 1) C dX3_medianOf_53 (by decide) ?_
          refine g_isub_n C dX3_medianOf_54 (by omega) ?_
          refine g_iconst (v := nI 2) C dX3_medianOf_55 (by decide) ?_
          refine g_idiv_n C dX3_medianOf_56 (by omega) (by omega) (by omega) ?_
          refine g_iald C 5 ((nn - 1) / 2) rfl rfl (by omega) (by decide) dX3_medianOf_57 ?_
          refine g_goto (tgt := 62) C dX3_medianOf_58 (by decide) ?_
          exact g_iret C Rt dX3_medianOf_62 (by decide) (by decide) (⟨_, by rw [meV_any ms sk pt cnt S ri, ← hr, if_neg (Nat.pos_iff_ne_zero.mp c45)], rfl⟩)
      · refine g_aload_n C dX3_medianOf_10 rfl ?_
        refine g_iload_n C dX3_medianOf_11 rfl ?_
        refine g_iload_n C dX3_medianOf_12 rfl ?_
        refine g_callV C (c_X3_markedOf E h a0 a1 a2 a3 a4 cnt ms sk pt md r p S (by omega) (by omega) (by omega)) gX3_medianOf_X3_markedOf rfl 2 (by decide +kernel) ⟨by decide, by decide⟩ ⟨by decide, by decide⟩ 0 rfl rfl [0, 1, 2, 3, 4, 5] [] (wr := []) rfl (by decide) rfl (by decide) (by decide) rfl rfl (Nat.le_of_ble_eq_true rfl) dX3_medianOf_13 ?_
        rintro _ _ ⟨rfl, rfl⟩
        show gg E _ 5 X 0 0 16 [some (.ref h), some (.int (nI S)), some (.int (nI nn)), some (.int (nI p)), none] [.int (nI (mkN sk pt p S cnt))] [gO h 3 [.ref a0, .ref a1, .ref a2, .ref a3, .ref a4, .int (nI cnt)], gA E a0 10 ms, gA E a1 10 sk, gA E a2 80 pt, gA E a3 5 md, gA E a4 8 r]
        refine g_istore C dX3_medianOf_16 (by decide) rfl (ll' := [some (.ref h), some (.int (nI S)), some (.int (nI nn)), some (.int (nI p)), some (.int (nI (mkN sk pt p S cnt)))]) rfl ?_
        refine g_iload C dX3_medianOf_18 rfl ?_
        refine g_if_eq_n (tgt := 38) C dX3_medianOf_20 (by decide) (by have := mkN_1024 sk pt p S hcnt; omega) (fun c20 => ?_) (fun c20 => ?_)
        · refine gg.less (ll' := [some (.ref h), some (.int (nI S)), some (.int (nI nn)), some (.int (nI p)), none]) (by intro i v h; match i, h with | 0, h => exact h | 1, h => exact h | 2, h => exact h | 3, h => exact h | 4, h => exact absurd h (by simp) | (i + 5), h => exact absurd h (by simp)) ?_
          refine g_iinc_n (y := 1) C dX3_medianOf_38 rfl (by decide) (by decide) rfl (ll' := [some (.ref h), some (.int (nI S)), some (.int (nI nn)), some (.int (nI (p + 1))), none]) rfl ?_
          refine g_goto (tgt := 4) C dX3_medianOf_41 (by decide) ?_
          exact ih4 (p + 1) nn r (by omega) (by omega) (by omega) (by rw [mdR, if_pos c20, hr])
        · refine g_aload_n C dX3_medianOf_23 rfl ?_
          refine g_iload_n C dX3_medianOf_24 rfl ?_
          refine g_aload_n C dX3_medianOf_25 rfl ?_
          refine g_iload_n C dX3_medianOf_26 rfl ?_
          refine g_iload C dX3_medianOf_27 rfl ?_
          refine g_callV C (c_X3_shareBy E h a0 a1 a2 a3 a4 cnt ms sk pt md r p (mkN sk pt p S cnt) (by omega) (by omega) (mkN_1024 sk pt p S hcnt) (hms)) gX3_medianOf_X3_shareBy rfl 2 (by decide +kernel) ⟨by decide, by decide⟩ ⟨by decide, by decide⟩ 0 rfl rfl [0, 1, 2, 3, 4, 5] [] (wr := []) rfl (by decide) rfl (by decide) (by decide) rfl rfl (Nat.le_of_ble_eq_true rfl) dX3_medianOf_29 ?_
          rintro _ _ ⟨rfl, rfl⟩
          show gg E _ 5 X 0 0 32 [some (.ref h), some (.int (nI S)), some (.int (nI nn)), some (.int (nI p)), some (.int (nI (mkN sk pt p S cnt)))] [.int (shV ms pt p (mkN sk pt p S cnt) cnt), .int (nI nn), .ref h] [gO h 3 [.ref a0, .ref a1, .ref a2, .ref a3, .ref a4, .int (nI cnt)], gA E a0 10 ms, gA E a1 10 sk, gA E a2 80 pt, gA E a3 5 md, gA E a4 8 r]
          refine g_callV C (c_X3_insertRising E h a0 a1 a2 a3 a4 cnt ms sk pt md r nn (shV ms pt p (mkN sk pt p S cnt) cnt) (by omega)) gX3_medianOf_X3_insertRising rfl 2 (by decide +kernel) ⟨by decide, by decide⟩ ⟨by decide, by decide⟩ 0 rfl rfl [0, 1, 2, 3, 4, 5] [] (wr := []) rfl (by decide) rfl (by decide) (by decide) rfl rfl (Nat.le_of_ble_eq_true rfl) dX3_medianOf_32 ?_
          rintro _ _ ⟨rfl, rfl⟩
          show gg E _ 5 X 0 0 35 [some (.ref h), some (.int (nI S)), some (.int (nI nn)), some (.int (nI p)), some (.int (nI (mkN sk pt p S cnt)))] [] [gO h 3 [.ref a0, .ref a1, .ref a2, .ref a3, .ref a4, .int (nI cnt)], gA E a0 10 ms, gA E a1 10 sk, gA E a2 80 pt, gA E a3 5 md, gA E a4 8 (insL (shV ms pt p (mkN sk pt p S cnt) cnt) r nn)]
          refine g_iinc_n (y := 1) C dX3_medianOf_35 rfl (by decide) (by decide) rfl (ll' := [some (.ref h), some (.int (nI S)), some (.int (nI (nn + 1))), some (.int (nI p)), some (.int (nI (mkN sk pt p S cnt)))]) rfl ?_
          refine gg.less (ll' := [some (.ref h), some (.int (nI S)), some (.int (nI (nn + 1))), some (.int (nI p)), none]) (by intro i v h; match i, h with | 0, h => exact h | 1, h => exact h | 2, h => exact h | 3, h => exact h | 4, h => exact absurd h (by simp) | (i + 5), h => exact absurd h (by simp)) ?_
          refine g_iinc_n (y := 1) C dX3_medianOf_38 rfl (by decide) (by decide) rfl (ll' := [some (.ref h), some (.int (nI S)), some (.int (nI (nn + 1))), some (.int (nI (p + 1))), none]) rfl ?_
          refine g_goto (tgt := 4) C dX3_medianOf_41 (by decide) ?_
          exact ih4 (p + 1) (nn + 1) (insL (shV ms pt p (mkN sk pt p S cnt) cnt) r nn) (by omega) (by omega) (by omega) (by rw [mdR, if_neg (Nat.pos_iff_ne_zero.mp c20), ← hr])
  exact L4 _ 0 0 ri (Nat.lt_succ_self _) (by omega) (by omega) (rfl)

abbrev rm_c_X3_setPoints : Room := { frames := 3, cells := 0, slots := 0, locals := 71 }
set_option maxHeartbeats 4000000 in
set_option maxRecDepth 100000 in
theorem c_X3_setPoints (E : gE) (h a0 a1 a2 a3 a4 : Nat) (cnt : Nat) (ms sk pt md ri : Nat → Int32) (P Q : Nat) (v : Int32) (hcnt : cnt ≤ 10) (hP : P < 8) (hQ : Q < 10) (hms : okM ms cnt) : MM E yX3_setPoints wsX3_setPoints rm_c_X3_setPoints [.ref h, .int (nI P), .int (nI Q), .int v] [gO h 3 [.ref a0, .ref a1, .ref a2, .ref a3, .ref a4, .int (nI cnt)], gA E a0 10 ms, gA E a1 10 sk, gA E a2 80 pt, gA E a3 5 md, gA E a4 8 ri] (fun rv_ ru_ => ∃ (md2 ri2 : Nat → Int32), rv_ = none ∧ ru_ = [gO h 3 [.ref a0, .ref a1, .ref a2, .ref a3, .ref a4, .int (nI cnt)], gA E a0 10 ms, gA E a1 10 sk, gA E a2 80 (upd pt (10 * P + Q) v), gA E a3 5 md2, gA E a4 8 ri2] ∧ (∀ i, i < 5 → md2 i = meV ms sk (upd pt (10 * P + Q) v) cnt i)) := by
  refine MM.ofG (cc := cX3_setPoints) (maxL := 5) (ret := none) (by decide) rfl (Nat.le_of_ble_eq_true rfl) (ll := [some (.ref h), some (.int (nI P)), some (.int (nI Q)), some (.int v), none]) rfl ?_
  intro X C Rt
  have C : gx E X cX3_setPoints 5 wsX3_setPoints RX3 := C
  have i_X3 : ∀ w ∈ u_ws RX3 TX3 6, w ∈ wsX3_setPoints := by decide +kernel
  have f_18 : Cond.fieldLink RX3 18 "MarkPages$Papers" "points" "[I" ∈ wsX3_setPoints := by decide +kernel
  have f_21 : Cond.fieldLink RX3 21 "MarkPages$Papers" "medians" "[I" ∈ wsX3_setPoints := by decide +kernel
  refine g_aload_n C dX3_setPoints_0 rfl ?_
  refine g_get C i_X3 0 2 f_18 rfl rfl (by decide) rfl rfl dX3_setPoints_1 ?_
  refine g_iload_n C dX3_setPoints_4 rfl ?_
  refine g_bipush (v := nI 10) C dX3_setPoints_5 (by decide) ?_
  refine g_imul_n C dX3_setPoints_7 ?_
  refine g_iload_n C dX3_setPoints_8 rfl ?_
  refine g_iadd_n C dX3_setPoints_9 ?_
  refine g_iload_n C dX3_setPoints_10 rfl ?_
  refine g_iast C 3 ((P * 10) + Q) rfl rfl (by omega) (by decide) dX3_setPoints_11 (ws' := [gO h 3 [.ref a0, .ref a1, .ref a2, .ref a3, .ref a4, .int (nI cnt)], gA E a0 10 ms, gA E a1 10 sk, gA E a2 80 (upd pt ((P * 10) + Q) v), gA E a3 5 md, gA E a4 8 ri]) rfl ?_
  rw [show P * 10 + Q = 10 * P + Q by omega]
  refine g_iconst (v := nI 0) C dX3_setPoints_12 (by decide) ?_
  refine g_istore C dX3_setPoints_13 (by decide) rfl (ll' := [some (.ref h), some (.int (nI P)), some (.int (nI Q)), some (.int v), some (.int (nI 0))]) rfl ?_
  have L15 : ∀ (n15 : Nat) (j : Nat) (m r : Nat → Int32), 5 - j < n15 → (j ≤ 5) → (∀ i, i < j → m i = meV ms sk (upd pt (10 * P + Q) v) cnt i) → gg E rm_c_X3_setPoints 5 X 0 0 15 [some (.ref h), some (.int (nI P)), some (.int (nI Q)), some (.int v), some (.int (nI j))] [] [gO h 3 [.ref a0, .ref a1, .ref a2, .ref a3, .ref a4, .int (nI cnt)], gA E a0 10 ms, gA E a1 10 sk, gA E a2 80 (upd pt (10 * P + Q) v), gA E a3 5 m, gA E a4 8 r] := by
    intro n15
    induction n15 with
    | zero => intro j m r hm15; exact absurd hm15 (Nat.not_lt_zero _)
    | succ n15 ih15 =>
      intro j m r hm15 hj hm
      refine g_iload C dX3_setPoints_15 rfl ?_
      refine g_iconst (v := nI 5) C dX3_setPoints_17 (by decide) ?_
      refine g_icmp_ge_n (tgt := 40) C dX3_setPoints_18 (by decide) (by omega) (by omega) (fun c18 => ?_) (fun c18 => ?_)
      · exact g_vret C Rt dX3_setPoints_40 (by decide) (by decide) (⟨_, _, rfl, rfl, fun i hi => hm i (by omega)⟩)
      · refine g_aload_n C dX3_setPoints_21 rfl ?_
        refine g_get C i_X3 0 3 f_21 rfl rfl (by decide) rfl rfl dX3_setPoints_22 ?_
        refine g_iload C dX3_setPoints_25 rfl ?_
        refine g_aload_n C dX3_setPoints_27 rfl ?_
        refine g_iload C dX3_setPoints_28 rfl ?_
        refine g_callV C (c_X3_medianOf E h a0 a1 a2 a3 a4 cnt ms sk (upd pt (10 * P + Q) v) m r j (by omega) (by omega) (hms)) gX3_setPoints_X3_medianOf rfl 1 (by decide +kernel) ⟨by decide, by decide⟩ ⟨by decide, by decide⟩ 0 rfl rfl [0, 1, 2, 3, 4, 5] [] (wr := []) rfl (by decide) rfl (by decide) (by decide) rfl rfl (Nat.le_of_ble_eq_true rfl) dX3_setPoints_30 ?_
        rintro _ _ ⟨ri2_30, rfl, rfl⟩
        show gg E _ 5 X 0 0 33 [some (.ref h), some (.int (nI P)), some (.int (nI Q)), some (.int v), some (.int (nI j))] [.int (meV ms sk (upd pt (10 * P + Q) v) cnt j), .int (nI j), .ref a3] [gO h 3 [.ref a0, .ref a1, .ref a2, .ref a3, .ref a4, .int (nI cnt)], gA E a0 10 ms, gA E a1 10 sk, gA E a2 80 (upd pt (10 * P + Q) v), gA E a3 5 m, gA E a4 8 ri2_30]
        refine g_iast C 4 j rfl rfl (by omega) (by decide) dX3_setPoints_33 (ws' := [gO h 3 [.ref a0, .ref a1, .ref a2, .ref a3, .ref a4, .int (nI cnt)], gA E a0 10 ms, gA E a1 10 sk, gA E a2 80 (upd pt (10 * P + Q) v), gA E a3 5 (upd m j (meV ms sk (upd pt (10 * P + Q) v) cnt j)), gA E a4 8 ri2_30]) rfl ?_
        refine g_iinc_n (y := 1) C dX3_setPoints_34 rfl (by decide) (by decide) rfl (ll' := [some (.ref h), some (.int (nI P)), some (.int (nI Q)), some (.int v), some (.int (nI (j + 1)))]) rfl ?_
        refine g_goto (tgt := 15) C dX3_setPoints_37 (by decide) ?_
        exact ih15 (j + 1) (upd m j (meV ms sk (upd pt (10 * P + Q) v) cnt j)) ri2_30 (by omega) (by omega) (fun i hi => by
        by_cases e : i = j
        · rw [e]; simp [upd]
        · simp only [upd, if_neg e]; exact hm i (by omega))
  exact L15 _ 0 md ri (Nat.lt_succ_self _) (by omega) (fun i hi => absurd hi (Nat.not_lt_zero i))

abbrev rm_c_X3_measure : Room := { frames := 2, cells := 0, slots := 0, locals := 47 }
set_option maxHeartbeats 4000000 in
set_option maxRecDepth 100000 in
theorem c_X3_measure (E : gE) (h a0 a1 a2 a3 a4 : Nat) (cnt : Nat) (ms sk pt md ri : Nat → Int32) (a5 : Nat) (io : Nat → Int32) (P S M : Nat) (hcnt : cnt ≤ 10) (hP : P < 8) (hS : S < 5) (hM : M < 1024) (hms : okM ms cnt) : MM E yX3_measure wsX3_measure rm_c_X3_measure [.ref h, .int (nI P), .int (nI S), .int (nI M), .ref a5] [gO h 3 [.ref a0, .ref a1, .ref a2, .ref a3, .ref a4, .int (nI cnt)], gA E a0 10 ms, gA E a1 10 sk, gA E a2 80 pt, gA E a3 5 md, gA E a4 8 ri, gA E a5 5 io] (fun rv_ ru_ => rv_ = none ∧ ru_ = [gO h 3 [.ref a0, .ref a1, .ref a2, .ref a3, .ref a4, .int (nI cnt)], gA E a0 10 ms, gA E a1 10 sk, gA E a2 80 pt, gA E a3 5 md, gA E a4 8 ri, gA E a5 5 (msr io (nI (bcN M 10)) (shV ms pt P M cnt) (nI (miN pt P M cnt)) (shV ms pt P (laS M cnt) cnt) (md S))]) := by
  refine MM.ofG (cc := cX3_measure) (maxL := 5) (ret := none) (by decide) rfl (Nat.le_of_ble_eq_true rfl) (ll := [some (.ref h), some (.int (nI P)), some (.int (nI S)), some (.int (nI M)), some (.ref a5)]) rfl ?_
  intro X C Rt
  have C : gx E X cX3_measure 5 wsX3_measure RX3 := C
  have i_X3 : ∀ w ∈ u_ws RX3 TX3 6, w ∈ wsX3_measure := by decide +kernel
  have f_21 : Cond.fieldLink RX3 21 "MarkPages$Papers" "medians" "[I" ∈ wsX3_measure := by decide +kernel
  refine g_aload C dX3_measure_0 rfl ?_
  refine g_iconst (v := nI 0) C dX3_measure_2 (by decide) ?_
  refine g_iload_n C dX3_measure_3 rfl ?_
  refine g_callS C (c_J6_bitCount_0f7a4 E M (by omega)) gX3_measure_J6_bitCount_0f7a4 rfl 1 (by decide +kernel) ⟨by decide, by decide⟩ ⟨by decide, by decide⟩ [] [0, 1, 2, 3, 4, 5, 6] (wr := [gO h 3 [.ref a0, .ref a1, .ref a2, .ref a3, .ref a4, .int (nI cnt)], gA E a0 10 ms, gA E a1 10 sk, gA E a2 80 pt, gA E a3 5 md, gA E a4 8 ri, gA E a5 5 io]) rfl (by decide) rfl (by decide) (by decide) rfl rfl (Nat.le_of_ble_eq_true rfl) dX3_measure_4 ?_
  rintro _ _ ⟨rfl, rfl⟩
  show gg E _ 5 X 0 0 7 [some (.ref h), some (.int (nI P)), some (.int (nI S)), some (.int (nI M)), some (.ref a5)] [.int (nI (bcN M 10)), .int (nI 0), .ref a5] [gO h 3 [.ref a0, .ref a1, .ref a2, .ref a3, .ref a4, .int (nI cnt)], gA E a0 10 ms, gA E a1 10 sk, gA E a2 80 pt, gA E a3 5 md, gA E a4 8 ri, gA E a5 5 io]
  refine g_iast C 6 0 rfl rfl (by omega) (by decide) dX3_measure_7 (ws' := [gO h 3 [.ref a0, .ref a1, .ref a2, .ref a3, .ref a4, .int (nI cnt)], gA E a0 10 ms, gA E a1 10 sk, gA E a2 80 pt, gA E a3 5 md, gA E a4 8 ri, gA E a5 5 (upd io 0 (nI (bcN M 10)))]) rfl ?_
  refine g_aload C dX3_measure_8 rfl ?_
  refine g_iconst (v := nI 1) C dX3_measure_10 (by decide) ?_
  refine g_aload_n C dX3_measure_11 rfl ?_
  refine g_iload_n C dX3_measure_12 rfl ?_
  refine g_iload_n C dX3_measure_13 rfl ?_
  refine g_callV C (c_X3_shareBy E h a0 a1 a2 a3 a4 cnt ms sk pt md ri P M (by omega) (by omega) (by omega) (hms)) gX3_measure_X3_shareBy rfl 2 (by decide +kernel) ⟨by decide, by decide⟩ ⟨by decide, by decide⟩ 0 rfl rfl [0, 1, 2, 3, 4, 5] [6] (wr := [gA E a5 5 (upd io 0 (nI (bcN M 10)))]) rfl (by decide) rfl (by decide) (by decide) rfl rfl (Nat.le_of_ble_eq_true rfl) dX3_measure_14 ?_
  rintro _ _ ⟨rfl, rfl⟩
  refine gg.perm (ws' := [gO h 3 [.ref a0, .ref a1, .ref a2, .ref a3, .ref a4, .int (nI cnt)], gA E a0 10 ms, gA E a1 10 sk, gA E a2 80 pt, gA E a3 5 md, gA E a4 8 ri, gA E a5 5 (upd io 0 (nI (bcN M 10)))]) [1, 2, 3, 4, 5, 6, 0] (by decide) rfl ?_
  show gg E _ 5 X 0 0 17 [some (.ref h), some (.int (nI P)), some (.int (nI S)), some (.int (nI M)), some (.ref a5)] [.int (shV ms pt P M cnt), .int (nI 1), .ref a5] [gO h 3 [.ref a0, .ref a1, .ref a2, .ref a3, .ref a4, .int (nI cnt)], gA E a0 10 ms, gA E a1 10 sk, gA E a2 80 pt, gA E a3 5 md, gA E a4 8 ri, gA E a5 5 (upd io 0 (nI (bcN M 10)))]
  refine g_iast C 6 1 rfl rfl (by omega) (by decide) dX3_measure_17 (ws' := [gO h 3 [.ref a0, .ref a1, .ref a2, .ref a3, .ref a4, .int (nI cnt)], gA E a0 10 ms, gA E a1 10 sk, gA E a2 80 pt, gA E a3 5 md, gA E a4 8 ri, gA E a5 5 (upd (upd io 0 (nI (bcN M 10))) 1 (shV ms pt P M cnt))]) rfl ?_
  refine g_aload C dX3_measure_18 rfl ?_
  refine g_iconst (v := nI 2) C dX3_measure_20 (by decide) ?_
  refine g_aload_n C dX3_measure_21 rfl ?_
  refine g_iload_n C dX3_measure_22 rfl ?_
  refine g_iload_n C dX3_measure_23 rfl ?_
  refine g_callV C (c_X3_missedBy E h a0 a1 a2 a3 a4 cnt ms sk pt md ri P M (by omega) (by omega) (by omega)) gX3_measure_X3_missedBy rfl 2 (by decide +kernel) ⟨by decide, by decide⟩ ⟨by decide, by decide⟩ 0 rfl rfl [0, 1, 2, 3, 4, 5] [6] (wr := [gA E a5 5 (upd (upd io 0 (nI (bcN M 10))) 1 (shV ms pt P M cnt))]) rfl (by decide) rfl (by decide) (by decide) rfl rfl (Nat.le_of_ble_eq_true rfl) dX3_measure_24 ?_
  rintro _ _ ⟨rfl, rfl⟩
  refine gg.perm (ws' := [gO h 3 [.ref a0, .ref a1, .ref a2, .ref a3, .ref a4, .int (nI cnt)], gA E a0 10 ms, gA E a1 10 sk, gA E a2 80 pt, gA E a3 5 md, gA E a4 8 ri, gA E a5 5 (upd (upd io 0 (nI (bcN M 10))) 1 (shV ms pt P M cnt))]) [1, 2, 3, 4, 5, 6, 0] (by decide) rfl ?_
  show gg E _ 5 X 0 0 27 [some (.ref h), some (.int (nI P)), some (.int (nI S)), some (.int (nI M)), some (.ref a5)] [.int (nI (miN pt P M cnt)), .int (nI 2), .ref a5] [gO h 3 [.ref a0, .ref a1, .ref a2, .ref a3, .ref a4, .int (nI cnt)], gA E a0 10 ms, gA E a1 10 sk, gA E a2 80 pt, gA E a3 5 md, gA E a4 8 ri, gA E a5 5 (upd (upd io 0 (nI (bcN M 10))) 1 (shV ms pt P M cnt))]
  refine g_iast C 6 2 rfl rfl (by omega) (by decide) dX3_measure_27 (ws' := [gO h 3 [.ref a0, .ref a1, .ref a2, .ref a3, .ref a4, .int (nI cnt)], gA E a0 10 ms, gA E a1 10 sk, gA E a2 80 pt, gA E a3 5 md, gA E a4 8 ri, gA E a5 5 (upd (upd (upd io 0 (nI (bcN M 10))) 1 (shV ms pt P M cnt)) 2 (nI (miN pt P M cnt)))]) rfl ?_
  refine g_aload C dX3_measure_28 rfl ?_
  refine g_iconst (v := nI 3) C dX3_measure_30 (by decide) ?_
  refine g_aload_n C dX3_measure_31 rfl ?_
  refine g_iload_n C dX3_measure_32 rfl ?_
  refine g_aload_n C dX3_measure_33 rfl ?_
  refine g_iload_n C dX3_measure_34 rfl ?_
  refine g_callV C (c_X3_lastOf E h a0 a1 a2 a3 a4 cnt ms sk pt md ri M (by omega) (by omega)) gX3_measure_X3_lastOf rfl 1 (by decide +kernel) ⟨by decide, by decide⟩ ⟨by decide, by decide⟩ 0 rfl rfl [0, 1, 2, 3, 4, 5] [6] (wr := [gA E a5 5 (upd (upd (upd io 0 (nI (bcN M 10))) 1 (shV ms pt P M cnt)) 2 (nI (miN pt P M cnt)))]) rfl (by decide) rfl (by decide) (by decide) rfl rfl (Nat.le_of_ble_eq_true rfl) dX3_measure_35 ?_
  rintro _ _ ⟨rfl, rfl⟩
  refine gg.perm (ws' := [gO h 3 [.ref a0, .ref a1, .ref a2, .ref a3, .ref a4, .int (nI cnt)], gA E a0 10 ms, gA E a1 10 sk, gA E a2 80 pt, gA E a3 5 md, gA E a4 8 ri, gA E a5 5 (upd (upd (upd io 0 (nI (bcN M 10))) 1 (shV ms pt P M cnt)) 2 (nI (miN pt P M cnt)))]) [1, 2, 3, 4, 5, 6, 0] (by decide) rfl ?_
  show gg E _ 5 X 0 0 38 [some (.ref h), some (.int (nI P)), some (.int (nI S)), some (.int (nI M)), some (.ref a5)] [.int (nI (laS M cnt)), .int (nI P), .ref h, .int (nI 3), .ref a5] [gO h 3 [.ref a0, .ref a1, .ref a2, .ref a3, .ref a4, .int (nI cnt)], gA E a0 10 ms, gA E a1 10 sk, gA E a2 80 pt, gA E a3 5 md, gA E a4 8 ri, gA E a5 5 (upd (upd (upd io 0 (nI (bcN M 10))) 1 (shV ms pt P M cnt)) 2 (nI (miN pt P M cnt)))]
  refine g_callV C (c_X3_shareBy E h a0 a1 a2 a3 a4 cnt ms sk pt md ri P (laS M cnt) (by omega) (by omega) (Nat.lt_of_lt_of_le (laS_lt M cnt) (pw_le hcnt)) (hms)) gX3_measure_X3_shareBy rfl 2 (by decide +kernel) ⟨by decide, by decide⟩ ⟨by decide, by decide⟩ 0 rfl rfl [0, 1, 2, 3, 4, 5] [6] (wr := [gA E a5 5 (upd (upd (upd io 0 (nI (bcN M 10))) 1 (shV ms pt P M cnt)) 2 (nI (miN pt P M cnt)))]) rfl (by decide) rfl (by decide) (by decide) rfl rfl (Nat.le_of_ble_eq_true rfl) dX3_measure_38 ?_
  rintro _ _ ⟨rfl, rfl⟩
  refine gg.perm (ws' := [gO h 3 [.ref a0, .ref a1, .ref a2, .ref a3, .ref a4, .int (nI cnt)], gA E a0 10 ms, gA E a1 10 sk, gA E a2 80 pt, gA E a3 5 md, gA E a4 8 ri, gA E a5 5 (upd (upd (upd io 0 (nI (bcN M 10))) 1 (shV ms pt P M cnt)) 2 (nI (miN pt P M cnt)))]) [1, 2, 3, 4, 5, 6, 0] (by decide) rfl ?_
  show gg E _ 5 X 0 0 41 [some (.ref h), some (.int (nI P)), some (.int (nI S)), some (.int (nI M)), some (.ref a5)] [.int (shV ms pt P (laS M cnt) cnt), .int (nI 3), .ref a5] [gO h 3 [.ref a0, .ref a1, .ref a2, .ref a3, .ref a4, .int (nI cnt)], gA E a0 10 ms, gA E a1 10 sk, gA E a2 80 pt, gA E a3 5 md, gA E a4 8 ri, gA E a5 5 (upd (upd (upd io 0 (nI (bcN M 10))) 1 (shV ms pt P M cnt)) 2 (nI (miN pt P M cnt)))]
  refine g_iast C 6 3 rfl rfl (by omega) (by decide) dX3_measure_41 (ws' := [gO h 3 [.ref a0, .ref a1, .ref a2, .ref a3, .ref a4, .int (nI cnt)], gA E a0 10 ms, gA E a1 10 sk, gA E a2 80 pt, gA E a3 5 md, gA E a4 8 ri, gA E a5 5 (upd (upd (upd (upd io 0 (nI (bcN M 10))) 1 (shV ms pt P M cnt)) 2 (nI (miN pt P M cnt))) 3 (shV ms pt P (laS M cnt) cnt))]) rfl ?_
  refine g_aload C dX3_measure_42 rfl ?_
  refine g_iconst (v := nI 4) C dX3_measure_44 (by decide) ?_
  refine g_aload_n C dX3_measure_45 rfl ?_
  refine g_get C i_X3 0 3 f_21 rfl rfl (by decide) rfl rfl dX3_measure_46 ?_
  refine g_iload_n C dX3_measure_49 rfl ?_
  refine g_iald C 4 S rfl rfl (by omega) (by decide) dX3_measure_50 ?_
  refine g_iast C 6 4 rfl rfl (by omega) (by decide) dX3_measure_51 (ws' := [gO h 3 [.ref a0, .ref a1, .ref a2, .ref a3, .ref a4, .int (nI cnt)], gA E a0 10 ms, gA E a1 10 sk, gA E a2 80 pt, gA E a3 5 md, gA E a4 8 ri, gA E a5 5 (upd (upd (upd (upd (upd io 0 (nI (bcN M 10))) 1 (shV ms pt P M cnt)) 2 (nI (miN pt P M cnt))) 3 (shV ms pt P (laS M cnt) cnt)) 4 (md S))]) rfl ?_
  exact g_vret C Rt dX3_measure_52 (by decide) (by decide) (⟨rfl, rfl⟩)

