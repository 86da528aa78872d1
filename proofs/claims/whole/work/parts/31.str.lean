/-! STRING CONSTANTS: length, charAt -/

abbrev rm_c_J0_coder_7d493 : Room := { frames := 0, cells := 0, slots := 0, locals := 0 }
set_option maxHeartbeats 4000000 in
set_option maxRecDepth 100000 in
theorem c_J0_coder_7d493 (E : gE) (q : Nat) (hq : q < 11) : MM E yJ0_coder_7d493 wsJ0_coder_7d493 rm_c_J0_coder_7d493 [.ref (E.2.2.2.1 q)] [] (fun rv_ ru_ => rv_ = some (.int (nI 0)) ∧ ru_ = []) := by
  refine MM.ofG (cc := cJ0_coder_7d493) (maxL := 1) (ret := (some .byte)) (by decide) rfl (Nat.le_of_ble_eq_true rfl) (ll := [some (.ref (E.2.2.2.1 q))]) rfl ?_
  intro X C Rt
  have C : gx E X cJ0_coder_7d493 1 wsJ0_coder_7d493 RJ0 := C
  have f_15 : Cond.fieldLink RJ0 15 "java/lang/String" "coder" "B" ∈ wsJ0_coder_7d493 := by decide +kernel
  have f_38 : Cond.fieldLink RJ0 38 "java/lang/String" "COMPACT_STRINGS" "Z" ∈ wsJ0_coder_7d493 := by decide +kernel
  refine g_getc C f_38 dJ0_coder_7d493_0 ?_
  refine g_if_eq (tgt := 13) C dJ0_coder_7d493_3 (by decide) (fun c3 => absurd c3 (by decide)) (fun c3 => ?_)
  refine g_aload_n C dJ0_coder_7d493_6 rfl ?_
  refine g_scod C hq f_15 dJ0_coder_7d493_7 ?_
  refine g_goto (tgt := 14) C dJ0_coder_7d493_10 (by decide) ?_
  exact g_nret C Rt dJ0_coder_7d493_14 (by decide) (by decide) (by rfl) (⟨rfl, rfl⟩)

abbrev rm_c_J0_isLatin1_aae02 : Room := { frames := 0, cells := 0, slots := 0, locals := 0 }
set_option maxHeartbeats 4000000 in
set_option maxRecDepth 100000 in
theorem c_J0_isLatin1_aae02 (E : gE) (q : Nat) (hq : q < 11) : MM E yJ0_isLatin1_aae02 wsJ0_isLatin1_aae02 rm_c_J0_isLatin1_aae02 [.ref (E.2.2.2.1 q)] [] (fun rv_ ru_ => rv_ = some (.int (nI 1)) ∧ ru_ = []) := by
  refine MM.ofG (cc := cJ0_isLatin1_aae02) (maxL := 1) (ret := (some .boolean)) (by decide) rfl (Nat.le_of_ble_eq_true rfl) (ll := [some (.ref (E.2.2.2.1 q))]) rfl ?_
  intro X C Rt
  have C : gx E X cJ0_isLatin1_aae02 1 wsJ0_isLatin1_aae02 RJ0 := C
  have f_15 : Cond.fieldLink RJ0 15 "java/lang/String" "coder" "B" ∈ wsJ0_isLatin1_aae02 := by decide +kernel
  have f_38 : Cond.fieldLink RJ0 38 "java/lang/String" "COMPACT_STRINGS" "Z" ∈ wsJ0_isLatin1_aae02 := by decide +kernel
  refine g_getc C f_38 dJ0_isLatin1_aae02_0 ?_
  refine g_if_eq (tgt := 17) C dJ0_isLatin1_aae02_3 (by decide) (fun c3 => absurd c3 (by decide)) (fun c3 => ?_)
  refine g_aload_n C dJ0_isLatin1_aae02_6 rfl ?_
  refine g_scod C hq f_15 dJ0_isLatin1_aae02_7 ?_
  refine g_if_ne (tgt := 17) C dJ0_isLatin1_aae02_10 (by decide) (fun c10 => absurd c10 (by decide)) (fun c10 => ?_)
  refine g_iconst (v := nI 1) C dJ0_isLatin1_aae02_13 (by decide) ?_
  refine g_goto (tgt := 18) C dJ0_isLatin1_aae02_14 (by decide) ?_
  exact g_zret C Rt dJ0_isLatin1_aae02_18 (by decide) (by decide) (by decide) (⟨rfl, rfl⟩)

abbrev rm_c_J0_length_8abf5 : Room := { frames := 1, cells := 0, slots := 0, locals := 20 }
set_option maxHeartbeats 4000000 in
set_option maxRecDepth 100000 in
theorem c_J0_length_8abf5 (E : gE) (q : Nat) (hq : q < 11) : MM E yJ0_length_8abf5 wsJ0_length_8abf5 rm_c_J0_length_8abf5 [.ref (E.2.2.2.1 q)] [] (fun rv_ ru_ => rv_ = some (.int (nI (gz_len.getD q 0))) ∧ ru_ = []) := by
  refine MM.ofG (cc := cJ0_length_8abf5) (maxL := 1) (ret := (some .int)) (by decide) rfl (Nat.le_of_ble_eq_true rfl) (ll := [some (.ref (E.2.2.2.1 q))]) rfl ?_
  intro X C Rt
  have C : gx E X cJ0_length_8abf5 1 wsJ0_length_8abf5 RJ0 := C
  have f_9 : Cond.fieldLink RJ0 9 "java/lang/String" "value" "[B" ∈ wsJ0_length_8abf5 := by decide +kernel
  refine g_aload_n C dJ0_length_8abf5_0 rfl ?_
  refine g_sval C hq f_9 dJ0_length_8abf5_1 ?_
  refine g_slen C hq dJ0_length_8abf5_4 ?_
  refine g_aload_n C dJ0_length_8abf5_5 rfl ?_
  refine g_callVS C hq (c_J0_coder_7d493 E q (hq)) gJ0_length_8abf5_J0_coder_7d493 rfl 0 (by decide +kernel) ⟨by decide, by decide⟩ ⟨by decide, by decide⟩ [] [] (wr := []) rfl (by decide) rfl (by decide) (by decide) rfl rfl (Nat.le_of_ble_eq_true rfl) dJ0_length_8abf5_6 ?_
  rintro _ _ ⟨rfl, rfl⟩
  show gg E _ 1 X 0 0 9 [some (.ref (E.2.2.2.1 q))] [.int (nI 0), .int (nI (gz_len.getD q 0))] []
  refine g_ishr_n C dJ0_length_8abf5_9 (by have := gz_small _ hq; omega) (by omega) ?_
  exact g_iret C Rt dJ0_length_8abf5_10 (by decide) (by decide) (⟨by rw [Nat.pow_zero, Nat.div_one], rfl⟩)

abbrev rm_c_J3_checkIndex_n : Room := { frames := 1, cells := 0, slots := 0, locals := 30 }
set_option maxHeartbeats 4000000 in
set_option maxRecDepth 100000 in
theorem c_J3_checkIndex_n (E : gE) (i n : Nat) (h : i < n) (hn : n < 2147483648) : MM E yJ3_checkIndex_8e157 wsJ3_checkIndex_8e157 rm_c_J3_checkIndex_n [.int (nI i), .int (nI n), .null] [] (fun rv_ ru_ => rv_ = some (.int (nI i)) ∧ ru_ = []) := by
  refine MM.ofG (cc := cJ3_checkIndex_8e157) (maxL := 3) (ret := (some .int)) (by decide) rfl (Nat.le_of_ble_eq_true rfl) (ll := [some (.int (nI i)), some (.int (nI n)), some (.null)]) rfl ?_
  intro X C Rt
  have C : gx E X cJ3_checkIndex_8e157 3 wsJ3_checkIndex_8e157 RJ3 := C
  refine g_iload_n C dJ3_checkIndex_8e157_0 rfl ?_
  refine g_if_lt_n (tgt := 9) C dJ3_checkIndex_8e157_1 (by decide) (by omega) ?_
  refine g_iload_n C dJ3_checkIndex_8e157_4 rfl ?_
  refine g_iload_n C dJ3_checkIndex_8e157_5 rfl ?_
  refine g_icmp_lt_n (tgt := 16) C dJ3_checkIndex_8e157_6 (by decide) (by omega) (by omega) (fun c6 => ?_) (fun c6 => ?_)
  · refine g_iload_n C dJ3_checkIndex_8e157_16 rfl ?_
    exact g_iret C Rt dJ3_checkIndex_8e157_17 (by decide) (by decide) (⟨rfl, rfl⟩)
  · exact absurd h (by omega)

abbrev rm_c_J3_checkIndex_r : Room := { frames := 1, cells := 0, slots := 0, locals := 30 }
set_option maxHeartbeats 4000000 in
set_option maxRecDepth 100000 in
theorem c_J3_checkIndex_r (E : gE) (i n t : Nat) (h : i < n) (hn : n < 2147483648) : MM E yJ3_checkIndex_8e157 wsJ3_checkIndex_8e157 rm_c_J3_checkIndex_r [.int (nI i), .int (nI n), .ref t] [] (fun rv_ ru_ => rv_ = some (.int (nI i)) ∧ ru_ = []) := by
  refine MM.ofG (cc := cJ3_checkIndex_8e157) (maxL := 3) (ret := (some .int)) (by decide) rfl (Nat.le_of_ble_eq_true rfl) (ll := [some (.int (nI i)), some (.int (nI n)), some (.ref t)]) rfl ?_
  intro X C Rt
  have C : gx E X cJ3_checkIndex_8e157 3 wsJ3_checkIndex_8e157 RJ3 := C
  refine g_iload_n C dJ3_checkIndex_8e157_0 rfl ?_
  refine g_if_lt_n (tgt := 9) C dJ3_checkIndex_8e157_1 (by decide) (by omega) ?_
  refine g_iload_n C dJ3_checkIndex_8e157_4 rfl ?_
  refine g_iload_n C dJ3_checkIndex_8e157_5 rfl ?_
  refine g_icmp_lt_n (tgt := 16) C dJ3_checkIndex_8e157_6 (by decide) (by omega) (by omega) (fun c6 => ?_) (fun c6 => ?_)
  · refine g_iload_n C dJ3_checkIndex_8e157_16 rfl ?_
    exact g_iret C Rt dJ3_checkIndex_8e157_17 (by decide) (by decide) (⟨rfl, rfl⟩)
  · exact absurd h (by omega)

abbrev rm_c_J0_checkIndex_df160 : Room := { frames := 2, cells := 0, slots := 0, locals := 52 }
set_option maxHeartbeats 4000000 in
set_option maxRecDepth 100000 in
theorem c_J0_checkIndex_df160 (E : gE) (i n : Nat) (h : i < n) (hn : n < 2147483648) : MM E yJ0_checkIndex_df160 wsJ0_checkIndex_df160 rm_c_J0_checkIndex_df160 [.int (nI i), .int (nI n)] [] (fun rv_ ru_ => rv_ = none ∧ ru_ = []) := by
  refine MM.ofG (cc := cJ0_checkIndex_df160) (maxL := 2) (ret := none) (by decide) rfl (Nat.le_of_ble_eq_true rfl) (ll := [some (.int (nI i)), some (.int (nI n))]) rfl ?_
  intro X C Rt
  have C : gx E X cJ0_checkIndex_df160 2 wsJ0_checkIndex_df160 RJ0 := C
  have f_1053 : Cond.fieldLink RJ0 1053 "jdk/internal/util/Preconditions" "SIOOBE_FORMATTER" "Ljava/util/function/BiFunction;" ∈ wsJ0_checkIndex_df160 := by decide +kernel
  refine g_iload_n C dJ0_checkIndex_df160_0 rfl ?_
  refine g_iload_n C dJ0_checkIndex_df160_1 rfl ?_
  refine g_getf C f_1053 dJ0_checkIndex_df160_2 ?_ (fun t_ => ?_)
  · refine g_callS C (c_J3_checkIndex_n E i n (by omega) (by omega)) gJ0_checkIndex_df160_J3_checkIndex_8e157 rfl 3 (by decide +kernel) ⟨by decide, by decide⟩ ⟨by decide, by decide⟩ [] [] (wr := []) rfl (by decide) rfl (by decide) (by decide) rfl rfl (Nat.le_of_ble_eq_true rfl) dJ0_checkIndex_df160_5 ?_
    rintro _ _ ⟨rfl, rfl⟩
    show gg E _ 2 X 0 0 8 [some (.int (nI i)), some (.int (nI n))] [.int (nI i)] []
    refine g_pop C dJ0_checkIndex_df160_8 rfl ?_
    exact g_vret C Rt dJ0_checkIndex_df160_9 (by decide) (by decide) (⟨rfl, rfl⟩)
  · refine g_callS C (c_J3_checkIndex_r E i n t_ (by omega) (by omega)) gJ0_checkIndex_df160_J3_checkIndex_8e157 rfl 3 (by decide +kernel) ⟨by decide, by decide⟩ ⟨by decide, by decide⟩ [] [] (wr := []) rfl (by decide) rfl (by decide) (by decide) rfl rfl (Nat.le_of_ble_eq_true rfl) dJ0_checkIndex_df160_5 ?_
    rintro _ _ ⟨rfl, rfl⟩
    show gg E _ 2 X 0 0 8 [some (.int (nI i)), some (.int (nI n))] [.int (nI i)] []
    refine g_pop C dJ0_checkIndex_df160_8 rfl ?_
    exact g_vret C Rt dJ0_checkIndex_df160_9 (by decide) (by decide) (⟨rfl, rfl⟩)

abbrev rm_c_J1_charAt_3b067 : Room := { frames := 3, cells := 0, slots := 0, locals := 73 }
set_option maxHeartbeats 4000000 in
set_option maxRecDepth 100000 in
theorem c_J1_charAt_3b067 (E : gE) (q j : Nat) (hq : q < 11) (hj : j < gz_len.getD q 0) : MM E yJ1_charAt_3b067 wsJ1_charAt_3b067 rm_c_J1_charAt_3b067 [.ref (E.2.2.2.2 q), .int (nI j)] [] (fun rv_ ru_ => rv_ = some (.int ((gz_byt.getD q []).getD j 0)) ∧ ru_ = []) := by
  refine MM.ofG (cc := cJ1_charAt_3b067) (maxL := 2) (ret := (some .char)) (by decide) rfl (Nat.le_of_ble_eq_true rfl) (ll := [some (.ref (E.2.2.2.2 q)), some (.int (nI j))]) rfl ?_
  intro X C Rt
  have C : gx E X cJ1_charAt_3b067 2 wsJ1_charAt_3b067 RJ1 := C
  refine g_iload_n C dJ1_charAt_3b067_0 rfl ?_
  refine g_aload_n C dJ1_charAt_3b067_1 rfl ?_
  refine g_slen C hq dJ1_charAt_3b067_2 ?_
  refine g_callS C (c_J0_checkIndex_df160 E j (gz_len.getD q 0) (by omega) (by have := gz_small _ hq; omega)) gJ1_charAt_3b067_J0_checkIndex_df160 rfl 2 (by decide +kernel) ⟨by decide, by decide⟩ ⟨by decide, by decide⟩ [] [] (wr := []) rfl (by decide) rfl (by decide) (by decide) rfl rfl (Nat.le_of_ble_eq_true rfl) dJ1_charAt_3b067_3 ?_
  rintro _ _ ⟨rfl, rfl⟩
  show gg E _ 2 X 0 0 6 [some (.ref (E.2.2.2.2 q)), some (.int (nI j))] [] []
  refine g_aload_n C dJ1_charAt_3b067_6 rfl ?_
  refine g_iload_n C dJ1_charAt_3b067_7 rfl ?_
  refine g_sbyte C j hq rfl (by omega) (by have := gz_small _ hq; omega) dJ1_charAt_3b067_8 ?_
  refine g_sipush (v := nI 255) C dJ1_charAt_3b067_9 (by decide) ?_
  refine g_iand C dJ1_charAt_3b067_12 ?_
  refine g_i2c C dJ1_charAt_3b067_13 ?_
  exact g_nret C Rt dJ1_charAt_3b067_14 (by decide) (by decide) (by rw [(gz_char q hq j hj).1]; exact (gz_char q hq j hj).2) (⟨by rw [(gz_char q hq j hj).1], rfl⟩)

abbrev rm_c_J0_charAt_5068e : Room := { frames := 4, cells := 0, slots := 0, locals := 94 }
set_option maxHeartbeats 4000000 in
set_option maxRecDepth 100000 in
theorem c_J0_charAt_5068e (E : gE) (q j : Nat) (hq : q < 11) (hj : j < gz_len.getD q 0) : MM E yJ0_charAt_5068e wsJ0_charAt_5068e rm_c_J0_charAt_5068e [.ref (E.2.2.2.1 q), .int (nI j)] [] (fun rv_ ru_ => rv_ = some (.int ((gz_byt.getD q []).getD j 0)) ∧ ru_ = []) := by
  refine MM.ofG (cc := cJ0_charAt_5068e) (maxL := 2) (ret := (some .char)) (by decide) rfl (Nat.le_of_ble_eq_true rfl) (ll := [some (.ref (E.2.2.2.1 q)), some (.int (nI j))]) rfl ?_
  intro X C Rt
  have C : gx E X cJ0_charAt_5068e 2 wsJ0_charAt_5068e RJ0 := C
  have f_9 : Cond.fieldLink RJ0 9 "java/lang/String" "value" "[B" ∈ wsJ0_charAt_5068e := by decide +kernel
  refine g_aload_n C dJ0_charAt_5068e_0 rfl ?_
  refine g_callVS C hq (c_J0_isLatin1_aae02 E q (hq)) gJ0_charAt_5068e_J0_isLatin1_aae02 rfl 0 (by decide +kernel) ⟨by decide, by decide⟩ ⟨by decide, by decide⟩ [] [] (wr := []) rfl (by decide) rfl (by decide) (by decide) rfl rfl (Nat.le_of_ble_eq_true rfl) dJ0_charAt_5068e_1 ?_
  rintro _ _ ⟨rfl, rfl⟩
  show gg E _ 2 X 0 0 4 [some (.ref (E.2.2.2.1 q)), some (.int (nI j))] [.int (nI 1)] []
  refine g_if_eq (tgt := 16) C dJ0_charAt_5068e_4 (by decide) (fun c4 => absurd c4 (by decide)) (fun c4 => ?_)
  refine g_aload_n C dJ0_charAt_5068e_7 rfl ?_
  refine g_sval C hq f_9 dJ0_charAt_5068e_8 ?_
  refine g_iload_n C dJ0_charAt_5068e_11 rfl ?_
  refine g_callS C (c_J1_charAt_3b067 E q j (hq) (hj)) gJ0_charAt_5068e_J1_charAt_3b067 rfl 2 (by decide +kernel) ⟨by decide, by decide⟩ ⟨by decide, by decide⟩ [] [] (wr := []) rfl (by decide) rfl (by decide) (by decide) rfl rfl (Nat.le_of_ble_eq_true rfl) dJ0_charAt_5068e_12 ?_
  rintro _ _ ⟨rfl, rfl⟩
  show gg E _ 2 X 0 0 15 [some (.ref (E.2.2.2.1 q)), some (.int (nI j))] [.int ((gz_byt.getD q []).getD j 0)] []
  exact g_nret C Rt dJ0_charAt_5068e_15 (by decide) (by decide) ((gz_char q hq j hj).2) (⟨rfl, rfl⟩)

