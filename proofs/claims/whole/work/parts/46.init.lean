/-! CONSTRUCTORS -/
def flF (v : Int32) (f : Nat → Int32) (j : Nat) : Nat → Int32 := fun q => if q < j then v else f q
theorem flF_succ (v : Int32) (f : Nat → Int32) (j : Nat) : upd (flF v f j) j v = flF v f (j + 1) := by
  funext q
  simp only [upd, flF]
  by_cases h : q = j
  · rw [if_pos h, if_pos (by omega)]
  · rw [if_neg h]
    by_cases h2 : q < j
    · rw [if_pos h2, if_pos (by omega)]
    · rw [if_neg h2, if_neg (by omega)]
theorem flF_zero (v : Int32) (f : Nat → Int32) : flF v f 0 = f := by
  funext q
  rw [flF, if_neg (Nat.not_lt_zero q)]

abbrev rm_c_J7_fill_53178 : Room := { frames := 0, cells := 0, slots := 0, locals := 0 }
set_option maxHeartbeats 4000000 in
set_option maxRecDepth 100000 in
theorem c_J7_fill_53178 (E : gE) (a N : Nat) (f : Nat → Int32) (v : Int32) (hN : N < 1000000) : MM E yJ7_fill_53178 wsJ7_fill_53178 rm_c_J7_fill_53178 [.ref a, .int v] [gA E a N f] (fun rv_ ru_ => rv_ = none ∧ ru_ = [gA E a N (flF v f N)]) := by
  refine MM.ofG (cc := cJ7_fill_53178) (maxL := 4) (ret := none) (by decide) rfl (Nat.le_of_ble_eq_true rfl) (ll := [some (.ref a), some (.int v), none, none]) rfl ?_
  intro X C Rt
  have C : gx E X cJ7_fill_53178 4 wsJ7_fill_53178 RJ7 := C
  refine g_iconst (v := nI 0) C dJ7_fill_53178_0 (by decide) ?_
  refine g_istore_n C dJ7_fill_53178_1 (by decide) rfl (ll' := [some (.ref a), some (.int v), some (.int (nI 0)), none]) rfl ?_
  refine g_aload_n C dJ7_fill_53178_2 rfl ?_
  refine g_alen C 0 rfl dJ7_fill_53178_3 ?_
  refine g_istore_n C dJ7_fill_53178_4 (by decide) rfl (ll' := [some (.ref a), some (.int v), some (.int (nI 0)), some (.int (nI N))]) rfl ?_
  have L5 : ∀ (n5 : Nat) (j : Nat) (f1 : Nat → Int32), N - j < n5 → (j ≤ N) → (f1 = flF v f j) → gg E rm_c_J7_fill_53178 4 X 0 0 5 [some (.ref a), some (.int v), some (.int (nI j)), some (.int (nI N))] [] [gA E a N f1] := by
    intro n5
    induction n5 with
    | zero => intro j f1 hm5; exact absurd hm5 (Nat.not_lt_zero _)
    | succ n5 ih5 =>
      intro j f1 hm5 hj hf
      refine g_iload_n C dJ7_fill_53178_5 rfl ?_
      refine g_iload_n C dJ7_fill_53178_6 rfl ?_
      refine g_icmp_ge_n (tgt := 20) C dJ7_fill_53178_7 (by decide) (by omega) (by omega) (fun c7 => ?_) (fun c7 => ?_)
      · exact g_vret C Rt dJ7_fill_53178_20 (by decide) (by decide) (⟨rfl, by rw [hf, show j = N by omega]⟩)
      · refine g_aload_n C dJ7_fill_53178_10 rfl ?_
        refine g_iload_n C dJ7_fill_53178_11 rfl ?_
        refine g_iload_n C dJ7_fill_53178_12 rfl ?_
        refine g_iast C 0 j rfl rfl (by omega) (by omega) dJ7_fill_53178_13 (ws' := [gA E a N (upd f1 j v)]) rfl ?_
        refine g_iinc_n (y := 1) C dJ7_fill_53178_14 rfl (by decide) (by decide) rfl (ll' := [some (.ref a), some (.int v), some (.int (nI (j + 1))), some (.int (nI N))]) rfl ?_
        refine g_goto (tgt := 5) C dJ7_fill_53178_17 (by decide) ?_
        exact ih5 (j + 1) (upd f1 j v) (by omega) (by omega) (by rw [hf, flF_succ])
  exact L5 _ 0 f (Nat.lt_succ_self _) (by omega) ((flF_zero v f).symm)

abbrev rm_c_X0_init : Room := { frames := 1, cells := 1, slots := 32, locals := 32 }
set_option maxHeartbeats 4000000 in
set_option maxRecDepth 100000 in
theorem c_X0_init (E : gE) (h : Nat)  : MI E yX0_init wsX0_init rm_c_X0_init [.ref h] [gO h 0 [.null, .int (nI 0)]] (fun rv_ ru_ => ∃ (r0 : Nat), rv_ = none ∧ ru_ = [gO h 0 [.ref r0, .int (nI 0)], gA E r0 32 (fun _ => 0)]) := by
  refine MI.ofG (cc := cX0_init) (maxL := 1) (ret := none) (by decide) rfl (Nat.le_of_ble_eq_true rfl) (ll := [some (.ref h)]) rfl ?_
  intro X C Rt hnm Y
  have C : gx E X cX0_init 1 wsX0_init RX0 := C
  have i_X0 : ∀ w ∈ u_ws RX0 TX0 2, w ∈ wsX0_init := by decide +kernel
  have ar_int : Cond.arrayClass .int ∈ wsX0_init := by decide +kernel
  have f_9 : Cond.fieldLink RX0 9 "MarkPages$Judge" "pile" "[I" ∈ wsX0_init := by decide +kernel
  have oi_c : Cond.code objectInit ⟨#[0xb1]⟩ 1 none ∈ wsX0_init := by decide +kernel
  have oi_i : Cond.instanceMethod objectInit ∈ wsX0_init := by decide +kernel
  have oi_l : Cond.methodLink RX0 3 objectInit ∈ wsX0_init := by decide +kernel
  refine g_aload_n C dX0_init_0 rfl ?_
  refine g_objInit C oi_l oi_i oi_c (by decide) (by decide) dX0_init_1 ?_
  refine g_aload_n C dX0_init_4 rfl ?_
  refine g_bipush (v := nI 32) C dX0_init_5 (by decide) ?_
  refine g_newi (N := 32) C ar_int (by decide) (by decide) (by decide) dX0_init_7 (fun q7 => ?_)
  show gg E _ 1 X 1 32 9 [some (.ref h)] [.ref q7, .ref h] [gO h 0 [.null, .int (nI 0)], gA E q7 32 (fun _ => 0)]
  refine g_putF C hnm i_X0 tyX0 tyX0_ok nmX0 0 0 f_9 rfl rfl (by decide) rfl rfl rfl rfl rfl rfl (Nat.le_of_ble_eq_true rfl) dX0_init_9 (ws' := [gO h 0 [.ref q7, .int (nI 0)], gA E q7 32 (fun _ => 0)]) rfl ?_
  exact g_vret C Rt dX0_init_12 (by decide) (by decide) (⟨_, rfl, rfl⟩)

abbrev rm_c_X1_init : Room := { frames := 1, cells := 1, slots := 2412, locals := 32 }
set_option maxHeartbeats 4000000 in
set_option maxRecDepth 100000 in
theorem c_X1_init (E : gE) (h : Nat)  : MI E yX1_init wsX1_init rm_c_X1_init [.ref h] [gO h 1 [.null, .int (nI 0)]] (fun rv_ ru_ => ∃ (r0 : Nat), rv_ = none ∧ ru_ = [gO h 1 [.ref r0, .int (nI 0)], gA E r0 2412 (fun _ => 0)]) := by
  refine MI.ofG (cc := cX1_init) (maxL := 1) (ret := none) (by decide) rfl (Nat.le_of_ble_eq_true rfl) (ll := [some (.ref h)]) rfl ?_
  intro X C Rt hnm Y
  have C : gx E X cX1_init 1 wsX1_init RX1 := C
  have i_X1 : ∀ w ∈ u_ws RX1 TX1 2, w ∈ wsX1_init := by decide +kernel
  have ar_int : Cond.arrayClass .int ∈ wsX1_init := by decide +kernel
  have f_9 : Cond.fieldLink RX1 9 "MarkPages$Out" "bytes" "[I" ∈ wsX1_init := by decide +kernel
  have oi_c : Cond.code objectInit ⟨#[0xb1]⟩ 1 none ∈ wsX1_init := by decide +kernel
  have oi_i : Cond.instanceMethod objectInit ∈ wsX1_init := by decide +kernel
  have oi_l : Cond.methodLink RX1 3 objectInit ∈ wsX1_init := by decide +kernel
  refine g_aload_n C dX1_init_0 rfl ?_
  refine g_objInit C oi_l oi_i oi_c (by decide) (by decide) dX1_init_1 ?_
  refine g_aload_n C dX1_init_4 rfl ?_
  refine g_sipush (v := nI 2412) C dX1_init_5 (by decide) ?_
  refine g_newi (N := 2412) C ar_int (by decide) (by decide) (by decide) dX1_init_8 (fun q8 => ?_)
  show gg E _ 1 X 1 2412 10 [some (.ref h)] [.ref q8, .ref h] [gO h 1 [.null, .int (nI 0)], gA E q8 2412 (fun _ => 0)]
  refine g_putF C hnm i_X1 tyX1 tyX1_ok nmX1 0 0 f_9 rfl rfl (by decide) rfl rfl rfl rfl rfl rfl (Nat.le_of_ble_eq_true rfl) dX1_init_10 (ws' := [gO h 1 [.ref q8, .int (nI 0)], gA E q8 2412 (fun _ => 0)]) rfl ?_
  exact g_vret C Rt dX1_init_13 (by decide) (by decide) (⟨_, rfl, rfl⟩)

abbrev rm_c_X2_init : Room := { frames := 1, cells := 3, slots := 36, locals := 32 }
set_option maxHeartbeats 4000000 in
set_option maxRecDepth 100000 in
theorem c_X2_init (E : gE) (h : Nat)  : MI E yX2_init wsX2_init rm_c_X2_init [.ref h] [gO h 2 [.null, .null, .null, .int (nI 0)]] (fun rv_ ru_ => ∃ (r0 r1 r2 : Nat), rv_ = none ∧ ru_ = [gO h 2 [.ref r0, .ref r1, .ref r2, .int (nI 0)], gA E r0 12 (fun _ => 0), gA E r1 12 (fun _ => 0), gA E r2 12 (fun _ => 0)]) := by
  refine MI.ofG (cc := cX2_init) (maxL := 1) (ret := none) (by decide) rfl (Nat.le_of_ble_eq_true rfl) (ll := [some (.ref h)]) rfl ?_
  intro X C Rt hnm Y
  have C : gx E X cX2_init 1 wsX2_init RX2 := C
  have i_X2 : ∀ w ∈ u_ws RX2 TX2 4, w ∈ wsX2_init := by decide +kernel
  have ar_int : Cond.arrayClass .int ∈ wsX2_init := by decide +kernel
  have f_15 : Cond.fieldLink RX2 15 "MarkPages$Page" "skills" "[I" ∈ wsX2_init := by decide +kernel
  have f_18 : Cond.fieldLink RX2 18 "MarkPages$Page" "ruleNumbers" "[I" ∈ wsX2_init := by decide +kernel
  have f_9 : Cond.fieldLink RX2 9 "MarkPages$Page" "sayings" "[I" ∈ wsX2_init := by decide +kernel
  have oi_c : Cond.code objectInit ⟨#[0xb1]⟩ 1 none ∈ wsX2_init := by decide +kernel
  have oi_i : Cond.instanceMethod objectInit ∈ wsX2_init := by decide +kernel
  have oi_l : Cond.methodLink RX2 3 objectInit ∈ wsX2_init := by decide +kernel
  refine g_aload_n C dX2_init_0 rfl ?_
  refine g_objInit C oi_l oi_i oi_c (by decide) (by decide) dX2_init_1 ?_
  refine g_aload_n C dX2_init_4 rfl ?_
  refine g_bipush (v := nI 12) C dX2_init_5 (by decide) ?_
  refine g_newi (N := 12) C ar_int (by decide) (by decide) (by decide) dX2_init_7 (fun q7 => ?_)
  show gg E _ 1 X 1 12 9 [some (.ref h)] [.ref q7, .ref h] [gO h 2 [.null, .null, .null, .int (nI 0)], gA E q7 12 (fun _ => 0)]
  refine g_putF C hnm i_X2 tyX2 tyX2_ok nmX2 0 0 f_9 rfl rfl (by decide) rfl rfl rfl rfl rfl rfl (Nat.le_of_ble_eq_true rfl) dX2_init_9 (ws' := [gO h 2 [.ref q7, .null, .null, .int (nI 0)], gA E q7 12 (fun _ => 0)]) rfl ?_
  refine g_aload_n C dX2_init_12 rfl ?_
  refine g_bipush (v := nI 12) C dX2_init_13 (by decide) ?_
  refine g_newi (N := 12) C ar_int (by decide) (by decide) (by decide) dX2_init_15 (fun q15 => ?_)
  show gg E _ 1 X 2 24 17 [some (.ref h)] [.ref q15, .ref h] [gO h 2 [.ref q7, .null, .null, .int (nI 0)], gA E q7 12 (fun _ => 0), gA E q15 12 (fun _ => 0)]
  refine g_putF C hnm i_X2 tyX2 tyX2_ok nmX2 0 1 f_15 rfl rfl (by decide) rfl rfl rfl rfl rfl rfl (Nat.le_of_ble_eq_true rfl) dX2_init_17 (ws' := [gO h 2 [.ref q7, .ref q15, .null, .int (nI 0)], gA E q7 12 (fun _ => 0), gA E q15 12 (fun _ => 0)]) rfl ?_
  refine g_aload_n C dX2_init_20 rfl ?_
  refine g_bipush (v := nI 12) C dX2_init_21 (by decide) ?_
  refine g_newi (N := 12) C ar_int (by decide) (by decide) (by decide) dX2_init_23 (fun q23 => ?_)
  show gg E _ 1 X 3 36 25 [some (.ref h)] [.ref q23, .ref h] [gO h 2 [.ref q7, .ref q15, .null, .int (nI 0)], gA E q7 12 (fun _ => 0), gA E q15 12 (fun _ => 0), gA E q23 12 (fun _ => 0)]
  refine g_putF C hnm i_X2 tyX2 tyX2_ok nmX2 0 2 f_18 rfl rfl (by decide) rfl rfl rfl rfl rfl rfl (Nat.le_of_ble_eq_true rfl) dX2_init_25 (ws' := [gO h 2 [.ref q7, .ref q15, .ref q23, .int (nI 0)], gA E q7 12 (fun _ => 0), gA E q15 12 (fun _ => 0), gA E q23 12 (fun _ => 0)]) rfl ?_
  exact g_vret C Rt dX2_init_28 (by decide) (by decide) (⟨_, _, _, rfl, rfl⟩)

abbrev rm_c_X4_init : Room := { frames := 1, cells := 4, slots := 637, locals := 32 }
set_option maxHeartbeats 4000000 in
set_option maxRecDepth 100000 in
theorem c_X4_init (E : gE) (h : Nat)  : MI E yX4_init wsX4_init rm_c_X4_init [.ref h] [gO h 4 [.null, .null, .null, .null, .int (nI 0), .int (nI 0)]] (fun rv_ ru_ => ∃ (r0 r1 r2 r3 : Nat), rv_ = none ∧ ru_ = [gO h 4 [.ref r0, .ref r1, .ref r2, .ref r3, .int (nI 0), .int (nI 0)], gA E r0 12 (fun _ => 0), gA E r1 12 (fun _ => 0), gA E r2 13 (fun _ => 0), gA E r3 600 (fun _ => 0)]) := by
  refine MI.ofG (cc := cX4_init) (maxL := 1) (ret := none) (by decide) rfl (Nat.le_of_ble_eq_true rfl) (ll := [some (.ref h)]) rfl ?_
  intro X C Rt hnm Y
  have C : gx E X cX4_init 1 wsX4_init RX4 := C
  have i_X4 : ∀ w ∈ u_ws RX4 TX4 6, w ∈ wsX4_init := by decide +kernel
  have ar_int : Cond.arrayClass .int ∈ wsX4_init := by decide +kernel
  have f_15 : Cond.fieldLink RX4 15 "MarkPages$RuleBook" "skills" "[I" ∈ wsX4_init := by decide +kernel
  have f_18 : Cond.fieldLink RX4 18 "MarkPages$RuleBook" "starts" "[I" ∈ wsX4_init := by decide +kernel
  have f_21 : Cond.fieldLink RX4 21 "MarkPages$RuleBook" "code" "[I" ∈ wsX4_init := by decide +kernel
  have f_9 : Cond.fieldLink RX4 9 "MarkPages$RuleBook" "sayings" "[I" ∈ wsX4_init := by decide +kernel
  have oi_c : Cond.code objectInit ⟨#[0xb1]⟩ 1 none ∈ wsX4_init := by decide +kernel
  have oi_i : Cond.instanceMethod objectInit ∈ wsX4_init := by decide +kernel
  have oi_l : Cond.methodLink RX4 3 objectInit ∈ wsX4_init := by decide +kernel
  refine g_aload_n C dX4_init_0 rfl ?_
  refine g_objInit C oi_l oi_i oi_c (by decide) (by decide) dX4_init_1 ?_
  refine g_aload_n C dX4_init_4 rfl ?_
  refine g_bipush (v := nI 12) C dX4_init_5 (by decide) ?_
  refine g_newi (N := 12) C ar_int (by decide) (by decide) (by decide) dX4_init_7 (fun q7 => ?_)
  show gg E _ 1 X 1 12 9 [some (.ref h)] [.ref q7, .ref h] [gO h 4 [.null, .null, .null, .null, .int (nI 0), .int (nI 0)], gA E q7 12 (fun _ => 0)]
  refine g_putF C hnm i_X4 tyX4 tyX4_ok nmX4 0 0 f_9 rfl rfl (by decide) rfl rfl rfl rfl rfl rfl (Nat.le_of_ble_eq_true rfl) dX4_init_9 (ws' := [gO h 4 [.ref q7, .null, .null, .null, .int (nI 0), .int (nI 0)], gA E q7 12 (fun _ => 0)]) rfl ?_
  refine g_aload_n C dX4_init_12 rfl ?_
  refine g_bipush (v := nI 12) C dX4_init_13 (by decide) ?_
  refine g_newi (N := 12) C ar_int (by decide) (by decide) (by decide) dX4_init_15 (fun q15 => ?_)
  show gg E _ 1 X 2 24 17 [some (.ref h)] [.ref q15, .ref h] [gO h 4 [.ref q7, .null, .null, .null, .int (nI 0), .int (nI 0)], gA E q7 12 (fun _ => 0), gA E q15 12 (fun _ => 0)]
  refine g_putF C hnm i_X4 tyX4 tyX4_ok nmX4 0 1 f_15 rfl rfl (by decide) rfl rfl rfl rfl rfl rfl (Nat.le_of_ble_eq_true rfl) dX4_init_17 (ws' := [gO h 4 [.ref q7, .ref q15, .null, .null, .int (nI 0), .int (nI 0)], gA E q7 12 (fun _ => 0), gA E q15 12 (fun _ => 0)]) rfl ?_
  refine g_aload_n C dX4_init_20 rfl ?_
  refine g_bipush (v := nI 13) C dX4_init_21 (by decide) ?_
  refine g_newi (N := 13) C ar_int (by decide) (by decide) (by decide) dX4_init_23 (fun q23 => ?_)
  show gg E _ 1 X 3 37 25 [some (.ref h)] [.ref q23, .ref h] [gO h 4 [.ref q7, .ref q15, .null, .null, .int (nI 0), .int (nI 0)], gA E q7 12 (fun _ => 0), gA E q15 12 (fun _ => 0), gA E q23 13 (fun _ => 0)]
  refine g_putF C hnm i_X4 tyX4 tyX4_ok nmX4 0 2 f_18 rfl rfl (by decide) rfl rfl rfl rfl rfl rfl (Nat.le_of_ble_eq_true rfl) dX4_init_25 (ws' := [gO h 4 [.ref q7, .ref q15, .ref q23, .null, .int (nI 0), .int (nI 0)], gA E q7 12 (fun _ => 0), gA E q15 12 (fun _ => 0), gA E q23 13 (fun _ => 0)]) rfl ?_
  refine g_aload_n C dX4_init_28 rfl ?_
  refine g_sipush (v := nI 600) C dX4_init_29 (by decide) ?_
  refine g_newi (N := 600) C ar_int (by decide) (by decide) (by decide) dX4_init_32 (fun q32 => ?_)
  show gg E _ 1 X 4 637 34 [some (.ref h)] [.ref q32, .ref h] [gO h 4 [.ref q7, .ref q15, .ref q23, .null, .int (nI 0), .int (nI 0)], gA E q7 12 (fun _ => 0), gA E q15 12 (fun _ => 0), gA E q23 13 (fun _ => 0), gA E q32 600 (fun _ => 0)]
  refine g_putF C hnm i_X4 tyX4 tyX4_ok nmX4 0 3 f_21 rfl rfl (by decide) rfl rfl rfl rfl rfl rfl (Nat.le_of_ble_eq_true rfl) dX4_init_34 (ws' := [gO h 4 [.ref q7, .ref q15, .ref q23, .ref q32, .int (nI 0), .int (nI 0)], gA E q7 12 (fun _ => 0), gA E q15 12 (fun _ => 0), gA E q23 13 (fun _ => 0), gA E q32 600 (fun _ => 0)]) rfl ?_
  exact g_vret C Rt dX4_init_37 (by decide) (by decide) (⟨_, _, _, _, rfl, rfl⟩)

abbrev rm_c_X6_init : Room := { frames := 1, cells := 1, slots := 600, locals := 32 }
set_option maxHeartbeats 4000000 in
set_option maxRecDepth 100000 in
theorem c_X6_init (E : gE) (h : Nat)  : MI E yX6_init wsX6_init rm_c_X6_init [.ref h] [gO h 6 [.null, .int (nI 0)]] (fun rv_ ru_ => ∃ (r0 : Nat), rv_ = none ∧ ru_ = [gO h 6 [.ref r0, .int (nI 0)], gA E r0 600 (fun _ => 0)]) := by
  refine MI.ofG (cc := cX6_init) (maxL := 1) (ret := none) (by decide) rfl (Nat.le_of_ble_eq_true rfl) (ll := [some (.ref h)]) rfl ?_
  intro X C Rt hnm Y
  have C : gx E X cX6_init 1 wsX6_init RX6 := C
  have i_X6 : ∀ w ∈ u_ws RX6 TX6 2, w ∈ wsX6_init := by decide +kernel
  have ar_int : Cond.arrayClass .int ∈ wsX6_init := by decide +kernel
  have f_9 : Cond.fieldLink RX6 9 "MarkPages$Tape" "bytes" "[I" ∈ wsX6_init := by decide +kernel
  have oi_c : Cond.code objectInit ⟨#[0xb1]⟩ 1 none ∈ wsX6_init := by decide +kernel
  have oi_i : Cond.instanceMethod objectInit ∈ wsX6_init := by decide +kernel
  have oi_l : Cond.methodLink RX6 3 objectInit ∈ wsX6_init := by decide +kernel
  refine g_aload_n C dX6_init_0 rfl ?_
  refine g_objInit C oi_l oi_i oi_c (by decide) (by decide) dX6_init_1 ?_
  refine g_aload_n C dX6_init_4 rfl ?_
  refine g_sipush (v := nI 600) C dX6_init_5 (by decide) ?_
  refine g_newi (N := 600) C ar_int (by decide) (by decide) (by decide) dX6_init_8 (fun q8 => ?_)
  show gg E _ 1 X 1 600 10 [some (.ref h)] [.ref q8, .ref h] [gO h 6 [.null, .int (nI 0)], gA E q8 600 (fun _ => 0)]
  refine g_putF C hnm i_X6 tyX6 tyX6_ok nmX6 0 0 f_9 rfl rfl (by decide) rfl rfl rfl rfl rfl rfl (Nat.le_of_ble_eq_true rfl) dX6_init_10 (ws' := [gO h 6 [.ref q8, .int (nI 0)], gA E q8 600 (fun _ => 0)]) rfl ?_
  exact g_vret C Rt dX6_init_13 (by decide) (by decide) (⟨_, rfl, rfl⟩)

abbrev rm_c_X8_init : Room := { frames := 1, cells := 2, slots := 1202, locals := 32 }
set_option maxHeartbeats 4000000 in
set_option maxRecDepth 100000 in
theorem c_X8_init (E : gE) (h : Nat)  : MI E yX8_init wsX8_init rm_c_X8_init [.ref h] [gO h 8 [.null, .null, .int (nI 0)]] (fun rv_ ru_ => ∃ (r0 r1 : Nat), rv_ = none ∧ ru_ = [gO h 8 [.ref r0, .ref r1, .int (nI 0)], gA E r0 601 (fun _ => 0), gA E r1 601 (fun _ => 0)]) := by
  refine MI.ofG (cc := cX8_init) (maxL := 1) (ret := none) (by decide) rfl (Nat.le_of_ble_eq_true rfl) (ll := [some (.ref h)]) rfl ?_
  intro X C Rt hnm Y
  have C : gx E X cX8_init 1 wsX8_init RX8 := C
  have i_X8 : ∀ w ∈ u_ws RX8 TX8 3, w ∈ wsX8_init := by decide +kernel
  have ar_int : Cond.arrayClass .int ∈ wsX8_init := by decide +kernel
  have f_15 : Cond.fieldLink RX8 15 "MarkPages$Tokens" "places" "[I" ∈ wsX8_init := by decide +kernel
  have f_9 : Cond.fieldLink RX8 9 "MarkPages$Tokens" "kinds" "[I" ∈ wsX8_init := by decide +kernel
  have oi_c : Cond.code objectInit ⟨#[0xb1]⟩ 1 none ∈ wsX8_init := by decide +kernel
  have oi_i : Cond.instanceMethod objectInit ∈ wsX8_init := by decide +kernel
  have oi_l : Cond.methodLink RX8 3 objectInit ∈ wsX8_init := by decide +kernel
  refine g_aload_n C dX8_init_0 rfl ?_
  refine g_objInit C oi_l oi_i oi_c (by decide) (by decide) dX8_init_1 ?_
  refine g_aload_n C dX8_init_4 rfl ?_
  refine g_sipush (v := nI 601) C dX8_init_5 (by decide) ?_
  refine g_newi (N := 601) C ar_int (by decide) (by decide) (by decide) dX8_init_8 (fun q8 => ?_)
  show gg E _ 1 X 1 601 10 [some (.ref h)] [.ref q8, .ref h] [gO h 8 [.null, .null, .int (nI 0)], gA E q8 601 (fun _ => 0)]
  refine g_putF C hnm i_X8 tyX8 tyX8_ok nmX8 0 0 f_9 rfl rfl (by decide) rfl rfl rfl rfl rfl rfl (Nat.le_of_ble_eq_true rfl) dX8_init_10 (ws' := [gO h 8 [.ref q8, .null, .int (nI 0)], gA E q8 601 (fun _ => 0)]) rfl ?_
  refine g_aload_n C dX8_init_13 rfl ?_
  refine g_sipush (v := nI 601) C dX8_init_14 (by decide) ?_
  refine g_newi (N := 601) C ar_int (by decide) (by decide) (by decide) dX8_init_17 (fun q17 => ?_)
  show gg E _ 1 X 2 1202 19 [some (.ref h)] [.ref q17, .ref h] [gO h 8 [.ref q8, .null, .int (nI 0)], gA E q8 601 (fun _ => 0), gA E q17 601 (fun _ => 0)]
  refine g_putF C hnm i_X8 tyX8 tyX8_ok nmX8 0 1 f_15 rfl rfl (by decide) rfl rfl rfl rfl rfl rfl (Nat.le_of_ble_eq_true rfl) dX8_init_19 (ws' := [gO h 8 [.ref q8, .ref q17, .int (nI 0)], gA E q8 601 (fun _ => 0), gA E q17 601 (fun _ => 0)]) rfl ?_
  exact g_vret C Rt dX8_init_22 (by decide) (by decide) (⟨_, _, rfl, rfl⟩)

abbrev rm_c_X7_init_p : Room := { frames := 1, cells := 2, slots := 2520, locals := 32 }
set_option maxHeartbeats 4000000 in
set_option maxRecDepth 100000 in
theorem c_X7_init_p (E : gE) (h : Nat)  : MI E yX7_init wsX7_init rm_c_X7_init_p [.ref h, .int (nI 120), .int (nI 20)] [gO h 7 [.int (nI 0), .null, .null]] (fun rv_ ru_ => ∃ (r1 r2 : Nat), rv_ = none ∧ ru_ = [gO h 7 [.int (nI 20), .ref r1, .ref r2], gA E r1 120 (fun _ => 0), gA E r2 2400 (fun _ => 0)]) := by
  refine MI.ofG (cc := cX7_init) (maxL := 3) (ret := none) (by decide) rfl (Nat.le_of_ble_eq_true rfl) (ll := [some (.ref h), some (.int (nI 120)), some (.int (nI 20))]) rfl ?_
  intro X C Rt hnm Y
  have C : gx E X cX7_init 3 wsX7_init RX7 := C
  have i_X7 : ∀ w ∈ u_ws RX7 TX7 3, w ∈ wsX7_init := by decide +kernel
  have ar_int : Cond.arrayClass .int ∈ wsX7_init := by decide +kernel
  have f_13 : Cond.fieldLink RX7 13 "MarkPages$Texts" "lengths" "[I" ∈ wsX7_init := by decide +kernel
  have f_17 : Cond.fieldLink RX7 17 "MarkPages$Texts" "bytes" "[I" ∈ wsX7_init := by decide +kernel
  have f_7 : Cond.fieldLink RX7 7 "MarkPages$Texts" "width" "I" ∈ wsX7_init := by decide +kernel
  have oi_c : Cond.code objectInit ⟨#[0xb1]⟩ 1 none ∈ wsX7_init := by decide +kernel
  have oi_i : Cond.instanceMethod objectInit ∈ wsX7_init := by decide +kernel
  have oi_l : Cond.methodLink RX7 1 objectInit ∈ wsX7_init := by decide +kernel
  refine g_aload_n C dX7_init_0 rfl ?_
  refine g_objInit C oi_l oi_i oi_c (by decide) (by decide) dX7_init_1 ?_
  refine g_aload_n C dX7_init_4 rfl ?_
  refine g_iload_n C dX7_init_5 rfl ?_
  refine g_putF C hnm i_X7 tyX7 tyX7_ok nmX7 0 0 f_7 rfl rfl (by decide) rfl rfl rfl rfl rfl rfl (Nat.le_of_ble_eq_true rfl) dX7_init_6 (ws' := [gO h 7 [.int (nI 20), .null, .null]]) rfl ?_
  refine g_aload_n C dX7_init_9 rfl ?_
  refine g_iload_n C dX7_init_10 rfl ?_
  refine g_newi (N := 120) C ar_int (by decide) (by decide) (by decide) dX7_init_11 (fun q11 => ?_)
  show gg E _ 3 X 1 120 13 [some (.ref h), some (.int (nI 120)), some (.int (nI 20))] [.ref q11, .ref h] [gO h 7 [.int (nI 20), .null, .null], gA E q11 120 (fun _ => 0)]
  refine g_putF C hnm i_X7 tyX7 tyX7_ok nmX7 0 1 f_13 rfl rfl (by decide) rfl rfl rfl rfl rfl rfl (Nat.le_of_ble_eq_true rfl) dX7_init_13 (ws' := [gO h 7 [.int (nI 20), .ref q11, .null], gA E q11 120 (fun _ => 0)]) rfl ?_
  refine g_aload_n C dX7_init_16 rfl ?_
  refine g_iload_n C dX7_init_17 rfl ?_
  refine g_iload_n C dX7_init_18 rfl ?_
  refine g_imul C dX7_init_19 (g_top (x' := nI 2400) (by decide) ?_)
  refine g_newi (N := 2400) C ar_int (by decide) (by decide) (by decide) dX7_init_20 (fun q20 => ?_)
  show gg E _ 3 X 2 2520 22 [some (.ref h), some (.int (nI 120)), some (.int (nI 20))] [.ref q20, .ref h] [gO h 7 [.int (nI 20), .ref q11, .null], gA E q11 120 (fun _ => 0), gA E q20 2400 (fun _ => 0)]
  refine g_putF C hnm i_X7 tyX7 tyX7_ok nmX7 0 2 f_17 rfl rfl (by decide) rfl rfl rfl rfl rfl rfl (Nat.le_of_ble_eq_true rfl) dX7_init_22 (ws' := [gO h 7 [.int (nI 20), .ref q11, .ref q20], gA E q11 120 (fun _ => 0), gA E q20 2400 (fun _ => 0)]) rfl ?_
  exact g_vret C Rt dX7_init_25 (by decide) (by decide) (⟨_, _, rfl, rfl⟩)

abbrev rm_c_X7_init_n : Room := { frames := 1, cells := 2, slots := 165, locals := 32 }
set_option maxHeartbeats 4000000 in
set_option maxRecDepth 100000 in
theorem c_X7_init_n (E : gE) (h : Nat)  : MI E yX7_init wsX7_init rm_c_X7_init_n [.ref h, .int (nI 15), .int (nI 10)] [gO h 7 [.int (nI 0), .null, .null]] (fun rv_ ru_ => ∃ (r1 r2 : Nat), rv_ = none ∧ ru_ = [gO h 7 [.int (nI 10), .ref r1, .ref r2], gA E r1 15 (fun _ => 0), gA E r2 150 (fun _ => 0)]) := by
  refine MI.ofG (cc := cX7_init) (maxL := 3) (ret := none) (by decide) rfl (Nat.le_of_ble_eq_true rfl) (ll := [some (.ref h), some (.int (nI 15)), some (.int (nI 10))]) rfl ?_
  intro X C Rt hnm Y
  have C : gx E X cX7_init 3 wsX7_init RX7 := C
  have i_X7 : ∀ w ∈ u_ws RX7 TX7 3, w ∈ wsX7_init := by decide +kernel
  have ar_int : Cond.arrayClass .int ∈ wsX7_init := by decide +kernel
  have f_13 : Cond.fieldLink RX7 13 "MarkPages$Texts" "lengths" "[I" ∈ wsX7_init := by decide +kernel
  have f_17 : Cond.fieldLink RX7 17 "MarkPages$Texts" "bytes" "[I" ∈ wsX7_init := by decide +kernel
  have f_7 : Cond.fieldLink RX7 7 "MarkPages$Texts" "width" "I" ∈ wsX7_init := by decide +kernel
  have oi_c : Cond.code objectInit ⟨#[0xb1]⟩ 1 none ∈ wsX7_init := by decide +kernel
  have oi_i : Cond.instanceMethod objectInit ∈ wsX7_init := by decide +kernel
  have oi_l : Cond.methodLink RX7 1 objectInit ∈ wsX7_init := by decide +kernel
  refine g_aload_n C dX7_init_0 rfl ?_
  refine g_objInit C oi_l oi_i oi_c (by decide) (by decide) dX7_init_1 ?_
  refine g_aload_n C dX7_init_4 rfl ?_
  refine g_iload_n C dX7_init_5 rfl ?_
  refine g_putF C hnm i_X7 tyX7 tyX7_ok nmX7 0 0 f_7 rfl rfl (by decide) rfl rfl rfl rfl rfl rfl (Nat.le_of_ble_eq_true rfl) dX7_init_6 (ws' := [gO h 7 [.int (nI 10), .null, .null]]) rfl ?_
  refine g_aload_n C dX7_init_9 rfl ?_
  refine g_iload_n C dX7_init_10 rfl ?_
  refine g_newi (N := 15) C ar_int (by decide) (by decide) (by decide) dX7_init_11 (fun q11 => ?_)
  show gg E _ 3 X 1 15 13 [some (.ref h), some (.int (nI 15)), some (.int (nI 10))] [.ref q11, .ref h] [gO h 7 [.int (nI 10), .null, .null], gA E q11 15 (fun _ => 0)]
  refine g_putF C hnm i_X7 tyX7 tyX7_ok nmX7 0 1 f_13 rfl rfl (by decide) rfl rfl rfl rfl rfl rfl (Nat.le_of_ble_eq_true rfl) dX7_init_13 (ws' := [gO h 7 [.int (nI 10), .ref q11, .null], gA E q11 15 (fun _ => 0)]) rfl ?_
  refine g_aload_n C dX7_init_16 rfl ?_
  refine g_iload_n C dX7_init_17 rfl ?_
  refine g_iload_n C dX7_init_18 rfl ?_
  refine g_imul C dX7_init_19 (g_top (x' := nI 150) (by decide) ?_)
  refine g_newi (N := 150) C ar_int (by decide) (by decide) (by decide) dX7_init_20 (fun q20 => ?_)
  show gg E _ 3 X 2 165 22 [some (.ref h), some (.int (nI 15)), some (.int (nI 10))] [.ref q20, .ref h] [gO h 7 [.int (nI 10), .ref q11, .null], gA E q11 15 (fun _ => 0), gA E q20 150 (fun _ => 0)]
  refine g_putF C hnm i_X7 tyX7 tyX7_ok nmX7 0 2 f_17 rfl rfl (by decide) rfl rfl rfl rfl rfl rfl (Nat.le_of_ble_eq_true rfl) dX7_init_22 (ws' := [gO h 7 [.int (nI 10), .ref q11, .ref q20], gA E q11 15 (fun _ => 0), gA E q20 150 (fun _ => 0)]) rfl ?_
  exact g_vret C Rt dX7_init_25 (by decide) (by decide) (⟨_, _, rfl, rfl⟩)

abbrev rm_c_X3_init : Room := { frames := 1, cells := 5, slots := 113, locals := 32 }
set_option maxHeartbeats 4000000 in
set_option maxRecDepth 100000 in
theorem c_X3_init (E : gE) (h : Nat)  : MI E yX3_init wsX3_init rm_c_X3_init [.ref h] [gO h 3 [.null, .null, .null, .null, .null, .int (nI 0)]] (fun rv_ ru_ => ∃ (r0 r1 r2 r3 r4 : Nat), rv_ = none ∧ ru_ = [gO h 3 [.ref r0, .ref r1, .ref r2, .ref r3, .ref r4, .int (nI 0)], gA E r0 10 (fun _ => 0), gA E r1 10 (fun _ => 0), gA E r2 80 (flF (-1) (fun _ => 0) 80), gA E r3 5 (fun _ => 0), gA E r4 8 (fun _ => 0)]) := by
  refine MI.ofG (cc := cX3_init) (maxL := 1) (ret := none) (by decide) rfl (Nat.le_of_ble_eq_true rfl) (ll := [some (.ref h)]) rfl ?_
  intro X C Rt hnm Y
  have C : gx E X cX3_init 1 wsX3_init RX3 := C
  have i_X3 : ∀ w ∈ u_ws RX3 TX3 6, w ∈ wsX3_init := by decide +kernel
  have ar_int : Cond.arrayClass .int ∈ wsX3_init := by decide +kernel
  have f_15 : Cond.fieldLink RX3 15 "MarkPages$Papers" "skillSets" "[I" ∈ wsX3_init := by decide +kernel
  have f_18 : Cond.fieldLink RX3 18 "MarkPages$Papers" "points" "[I" ∈ wsX3_init := by decide +kernel
  have f_21 : Cond.fieldLink RX3 21 "MarkPages$Papers" "medians" "[I" ∈ wsX3_init := by decide +kernel
  have f_24 : Cond.fieldLink RX3 24 "MarkPages$Papers" "rising" "[I" ∈ wsX3_init := by decide +kernel
  have f_9 : Cond.fieldLink RX3 9 "MarkPages$Papers" "mosts" "[I" ∈ wsX3_init := by decide +kernel
  have oi_c : Cond.code objectInit ⟨#[0xb1]⟩ 1 none ∈ wsX3_init := by decide +kernel
  have oi_i : Cond.instanceMethod objectInit ∈ wsX3_init := by decide +kernel
  have oi_l : Cond.methodLink RX3 3 objectInit ∈ wsX3_init := by decide +kernel
  refine g_aload_n C dX3_init_0 rfl ?_
  refine g_objInit C oi_l oi_i oi_c (by decide) (by decide) dX3_init_1 ?_
  refine g_aload_n C dX3_init_4 rfl ?_
  refine g_bipush (v := nI 10) C dX3_init_5 (by decide) ?_
  refine g_newi (N := 10) C ar_int (by decide) (by decide) (by decide) dX3_init_7 (fun q7 => ?_)
  show gg E _ 1 X 1 10 9 [some (.ref h)] [.ref q7, .ref h] [gO h 3 [.null, .null, .null, .null, .null, .int (nI 0)], gA E q7 10 (fun _ => 0)]
  refine g_putF C hnm i_X3 tyX3 tyX3_ok nmX3 0 0 f_9 rfl rfl (by decide) rfl rfl rfl rfl rfl rfl (Nat.le_of_ble_eq_true rfl) dX3_init_9 (ws' := [gO h 3 [.ref q7, .null, .null, .null, .null, .int (nI 0)], gA E q7 10 (fun _ => 0)]) rfl ?_
  refine g_aload_n C dX3_init_12 rfl ?_
  refine g_bipush (v := nI 10) C dX3_init_13 (by decide) ?_
  refine g_newi (N := 10) C ar_int (by decide) (by decide) (by decide) dX3_init_15 (fun q15 => ?_)
  show gg E _ 1 X 2 20 17 [some (.ref h)] [.ref q15, .ref h] [gO h 3 [.ref q7, .null, .null, .null, .null, .int (nI 0)], gA E q7 10 (fun _ => 0), gA E q15 10 (fun _ => 0)]
  refine g_putF C hnm i_X3 tyX3 tyX3_ok nmX3 0 1 f_15 rfl rfl (by decide) rfl rfl rfl rfl rfl rfl (Nat.le_of_ble_eq_true rfl) dX3_init_17 (ws' := [gO h 3 [.ref q7, .ref q15, .null, .null, .null, .int (nI 0)], gA E q7 10 (fun _ => 0), gA E q15 10 (fun _ => 0)]) rfl ?_
  refine g_aload_n C dX3_init_20 rfl ?_
  refine g_bipush (v := nI 80) C dX3_init_21 (by decide) ?_
  refine g_newi (N := 80) C ar_int (by decide) (by decide) (by decide) dX3_init_23 (fun q23 => ?_)
  show gg E _ 1 X 3 100 25 [some (.ref h)] [.ref q23, .ref h] [gO h 3 [.ref q7, .ref q15, .null, .null, .null, .int (nI 0)], gA E q7 10 (fun _ => 0), gA E q15 10 (fun _ => 0), gA E q23 80 (fun _ => 0)]
  refine g_putF C hnm i_X3 tyX3 tyX3_ok nmX3 0 2 f_18 rfl rfl (by decide) rfl rfl rfl rfl rfl rfl (Nat.le_of_ble_eq_true rfl) dX3_init_25 (ws' := [gO h 3 [.ref q7, .ref q15, .ref q23, .null, .null, .int (nI 0)], gA E q7 10 (fun _ => 0), gA E q15 10 (fun _ => 0), gA E q23 80 (fun _ => 0)]) rfl ?_
  refine g_aload_n C dX3_init_28 rfl ?_
  refine g_iconst (v := nI 5) C dX3_init_29 (by decide) ?_
  refine g_newi (N := 5) C ar_int (by decide) (by decide) (by decide) dX3_init_30 (fun q30 => ?_)
  show gg E _ 1 X 4 105 32 [some (.ref h)] [.ref q30, .ref h] [gO h 3 [.ref q7, .ref q15, .ref q23, .null, .null, .int (nI 0)], gA E q7 10 (fun _ => 0), gA E q15 10 (fun _ => 0), gA E q23 80 (fun _ => 0), gA E q30 5 (fun _ => 0)]
  refine g_putF C hnm i_X3 tyX3 tyX3_ok nmX3 0 3 f_21 rfl rfl (by decide) rfl rfl rfl rfl rfl rfl (Nat.le_of_ble_eq_true rfl) dX3_init_32 (ws' := [gO h 3 [.ref q7, .ref q15, .ref q23, .ref q30, .null, .int (nI 0)], gA E q7 10 (fun _ => 0), gA E q15 10 (fun _ => 0), gA E q23 80 (fun _ => 0), gA E q30 5 (fun _ => 0)]) rfl ?_
  refine g_aload_n C dX3_init_35 rfl ?_
  refine g_bipush (v := nI 8) C dX3_init_36 (by decide) ?_
  refine g_newi (N := 8) C ar_int (by decide) (by decide) (by decide) dX3_init_38 (fun q38 => ?_)
  show gg E _ 1 X 5 113 40 [some (.ref h)] [.ref q38, .ref h] [gO h 3 [.ref q7, .ref q15, .ref q23, .ref q30, .null, .int (nI 0)], gA E q7 10 (fun _ => 0), gA E q15 10 (fun _ => 0), gA E q23 80 (fun _ => 0), gA E q30 5 (fun _ => 0), gA E q38 8 (fun _ => 0)]
  refine g_putF C hnm i_X3 tyX3 tyX3_ok nmX3 0 4 f_24 rfl rfl (by decide) rfl rfl rfl rfl rfl rfl (Nat.le_of_ble_eq_true rfl) dX3_init_40 (ws' := [gO h 3 [.ref q7, .ref q15, .ref q23, .ref q30, .ref q38, .int (nI 0)], gA E q7 10 (fun _ => 0), gA E q15 10 (fun _ => 0), gA E q23 80 (fun _ => 0), gA E q30 5 (fun _ => 0), gA E q38 8 (fun _ => 0)]) rfl ?_
  refine g_aload_n C dX3_init_43 rfl ?_
  refine g_get C i_X3 0 2 f_18 rfl rfl (by decide) rfl rfl dX3_init_44 ?_
  refine g_iconst (v := -1) C dX3_init_47 (by decide) ?_
  refine g_callS C (c_J7_fill_53178 E q23 80 (fun _ => 0) (-1) (by omega)) gX3_init_J7_fill_53178 rfl 2 (by decide +kernel) ⟨by decide, by decide⟩ ⟨by decide, by decide⟩ [3] [0, 1, 2, 4, 5] (wr := [gO h 3 [.ref q7, .ref q15, .ref q23, .ref q30, .ref q38, .int (nI 0)], gA E q7 10 (fun _ => 0), gA E q15 10 (fun _ => 0), gA E q30 5 (fun _ => 0), gA E q38 8 (fun _ => 0)]) rfl (by decide) rfl (by decide) (by decide) rfl rfl (Nat.le_of_ble_eq_true rfl) dX3_init_48 ?_
  rintro _ _ ⟨rfl, rfl⟩
  refine gg.perm (ws' := [gO h 3 [.ref q7, .ref q15, .ref q23, .ref q30, .ref q38, .int (nI 0)], gA E q7 10 (fun _ => 0), gA E q15 10 (fun _ => 0), gA E q23 80 (flF (-1) (fun _ => 0) 80), gA E q30 5 (fun _ => 0), gA E q38 8 (fun _ => 0)]) [0, 1, 2, 5, 3, 4] (by decide) rfl ?_
  show gg E _ 1 X 5 113 51 [some (.ref h)] [] [gO h 3 [.ref q7, .ref q15, .ref q23, .ref q30, .ref q38, .int (nI 0)], gA E q7 10 (fun _ => 0), gA E q15 10 (fun _ => 0), gA E q23 80 (flF (-1) (fun _ => 0) 80), gA E q30 5 (fun _ => 0), gA E q38 8 (fun _ => 0)]
  exact g_vret C Rt dX3_init_51 (by decide) (by decide) (⟨_, _, _, _, _, rfl, rfl⟩)

abbrev rm_c_X5_init : Room := { frames := 2, cells := 8, slots := 1848, locals := 52 }
set_option maxHeartbeats 4000000 in
set_option maxRecDepth 100000 in
theorem c_X5_init (E : gE) (h : Nat)  : MI E yX5_init wsX5_init rm_c_X5_init [.ref h] [gO h 5 [.null, .null, .int (nI 0), .int (nI 0), .int (nI 0), .int (nI 0)]] (fun rv_ ru_ => ∃ (t t0 t1 b b0 b1 b2 b3 : Nat), rv_ = none ∧ ru_ = [gO h 5 [.ref t, .ref b, .int (nI 0), .int (nI 1011), .int (nI 0), .int (-1)], gO t 8 [.ref t0, .ref t1, .int (nI 0)], gA E t0 601 (fun _ => 0), gA E t1 601 (fun _ => 0), gO b 4 [.ref b0, .ref b1, .ref b2, .ref b3, .int (nI 0), .int (nI 0)], gA E b0 12 (fun _ => 0), gA E b1 12 (fun _ => 0), gA E b2 13 (fun _ => 0), gA E b3 600 (fun _ => 0)]) := by
  refine MI.ofG (cc := cX5_init) (maxL := 1) (ret := none) (by decide) rfl (Nat.le_of_ble_eq_true rfl) (ll := [some (.ref h)]) rfl ?_
  intro X C Rt hnm Y
  have C : gx E X cX5_init 1 wsX5_init RX5 := C
  have i_X4 : ∀ w ∈ u_ws RX4 TX4 6, w ∈ wsX5_init := by decide +kernel
  have i_X5 : ∀ w ∈ u_ws RX5 TX5 6, w ∈ wsX5_init := by decide +kernel
  have i_X8 : ∀ w ∈ u_ws RX8 TX8 3, w ∈ wsX5_init := by decide +kernel
  have ci_X4 : Cond.initialized RX4 ∈ wsX5_init := by decide +kernel
  have ci_X8 : Cond.initialized RX8 ∈ wsX5_init := by decide +kernel
  have cl_18 : Cond.classLink RX5 18 RX4 ∈ wsX5_init := by decide +kernel
  have cl_9 : Cond.classLink RX5 9 RX8 ∈ wsX5_init := by decide +kernel
  have cm_X4 : Cond.instanceMethod yX4_init ∈ wsX5_init := by decide +kernel
  have cm_X8 : Cond.instanceMethod yX8_init ∈ wsX5_init := by decide +kernel
  have f_12 : Cond.fieldLink RX5 12 "MarkPages$RuleReader" "tokens" "LMarkPages$Tokens;" ∈ wsX5_init := by decide +kernel
  have f_21 : Cond.fieldLink RX5 21 "MarkPages$RuleReader" "draft" "LMarkPages$RuleBook;" ∈ wsX5_init := by decide +kernel
  have f_25 : Cond.fieldLink RX5 25 "MarkPages$RuleReader" "now" "I" ∈ wsX5_init := by decide +kernel
  have f_29 : Cond.fieldLink RX5 29 "MarkPages$RuleReader" "faultKind" "I" ∈ wsX5_init := by decide +kernel
  have f_32 : Cond.fieldLink RX5 32 "MarkPages$RuleReader" "faultPlace" "I" ∈ wsX5_init := by decide +kernel
  have ii_4 : Cond.initialized RX4 ∈ wsX5_init := by decide +kernel
  have ii_8 : Cond.initialized RX8 ∈ wsX5_init := by decide +kernel
  have in_4 : Cond.instantiable RX4 6 ∈ wsX5_init := by decide +kernel
  have in_8 : Cond.instantiable RX8 3 ∈ wsX5_init := by decide +kernel
  have oi_c : Cond.code objectInit ⟨#[0xb1]⟩ 1 none ∈ wsX5_init := by decide +kernel
  have oi_i : Cond.instanceMethod objectInit ∈ wsX5_init := by decide +kernel
  have oi_l : Cond.methodLink RX5 3 objectInit ∈ wsX5_init := by decide +kernel
  refine g_aload_n C dX5_init_0 rfl ?_
  refine g_objInit C oi_l oi_i oi_c (by decide) (by decide) dX5_init_1 ?_
  refine g_aload_n C dX5_init_4 rfl ?_
  refine g_newo (ci := 8) (fs := [.null, .null, .int (nI 0)]) C i_X8 tyX8 tyX8_ok cl_9 in_8 ii_8 rfl (fun j hj => by rcases (show j = 0 ∨ j = 1 ∨ j = 2 by omega) with rfl | rfl | rfl <;> rfl) (by decide) (by decide) dX5_init_5 (fun q5 => ?_)
  show gg E _ 1 X 1 3 8 [some (.ref h)] [.ref q5, .ref h] [gO h 5 [.null, .null, .int (nI 0), .int (nI 0), .int (nI 0), .int (nI 0)], gO q5 8 [.null, .null, .int (nI 0)]]
  refine g_dup C dX5_init_8 rfl ?_
  refine g_callIN C Y (c_X8_init E q5) gX5_init_X8_init_n11 rfl ci_X8 (by decide +kernel) cm_X8 (by decide) 0 ⟨by decide, by decide, by decide⟩ ⟨by decide, by decide⟩ ⟨by decide, by decide⟩ [1] [0] (wr := [gO h 5 [.null, .null, .int (nI 0), .int (nI 0), .int (nI 0), .int (nI 0)]]) rfl (by decide) rfl (by decide) (by decide) rfl rfl (Nat.le_of_ble_eq_true rfl) dX5_init_9 ?_
  rintro _ _ ⟨r0_9, r1_9, rfl, rfl⟩
  show gg E _ 1 X 3 1205 12 [some (.ref h)] [.ref q5, .ref h] [gO h 5 [.null, .null, .int (nI 0), .int (nI 0), .int (nI 0), .int (nI 0)], gO q5 8 [.ref r0_9, .ref r1_9, .int (nI 0)], gA E r0_9 601 (fun _ => 0), gA E r1_9 601 (fun _ => 0)]
  refine g_putF C hnm i_X5 tyX5 tyX5_ok nmX5 0 0 f_12 rfl rfl (by decide) rfl rfl rfl rfl rfl rfl (Nat.le_of_ble_eq_true rfl) dX5_init_12 (ws' := [gO h 5 [.ref q5, .null, .int (nI 0), .int (nI 0), .int (nI 0), .int (nI 0)], gO q5 8 [.ref r0_9, .ref r1_9, .int (nI 0)], gA E r0_9 601 (fun _ => 0), gA E r1_9 601 (fun _ => 0)]) rfl ?_
  refine g_aload_n C dX5_init_15 rfl ?_
  refine g_newo (ci := 4) (fs := [.null, .null, .null, .null, .int (nI 0), .int (nI 0)]) C i_X4 tyX4 tyX4_ok cl_18 in_4 ii_4 rfl (fun j hj => by rcases (show j = 0 ∨ j = 1 ∨ j = 2 ∨ j = 3 ∨ j = 4 ∨ j = 5 by omega) with rfl | rfl | rfl | rfl | rfl | rfl <;> rfl) (by decide) (by decide) dX5_init_16 (fun q16 => ?_)
  show gg E _ 1 X 4 1211 19 [some (.ref h)] [.ref q16, .ref h] [gO h 5 [.ref q5, .null, .int (nI 0), .int (nI 0), .int (nI 0), .int (nI 0)], gO q5 8 [.ref r0_9, .ref r1_9, .int (nI 0)], gA E r0_9 601 (fun _ => 0), gA E r1_9 601 (fun _ => 0), gO q16 4 [.null, .null, .null, .null, .int (nI 0), .int (nI 0)]]
  refine g_dup C dX5_init_19 rfl ?_
  refine g_callIN C Y (c_X4_init E q16) gX5_init_X4_init_n20 rfl ci_X4 (by decide +kernel) cm_X4 (by decide) 0 ⟨by decide, by decide, by decide⟩ ⟨by decide, by decide⟩ ⟨by decide, by decide⟩ [4] [0, 1, 2, 3] (wr := [gO h 5 [.ref q5, .null, .int (nI 0), .int (nI 0), .int (nI 0), .int (nI 0)], gO q5 8 [.ref r0_9, .ref r1_9, .int (nI 0)], gA E r0_9 601 (fun _ => 0), gA E r1_9 601 (fun _ => 0)]) rfl (by decide) rfl (by decide) (by decide) rfl rfl (Nat.le_of_ble_eq_true rfl) dX5_init_20 ?_
  rintro _ _ ⟨r0_20, r1_20, r2_20, r3_20, rfl, rfl⟩
  show gg E _ 1 X 8 1848 23 [some (.ref h)] [.ref q16, .ref h] [gO h 5 [.ref q5, .null, .int (nI 0), .int (nI 0), .int (nI 0), .int (nI 0)], gO q5 8 [.ref r0_9, .ref r1_9, .int (nI 0)], gA E r0_9 601 (fun _ => 0), gA E r1_9 601 (fun _ => 0), gO q16 4 [.ref r0_20, .ref r1_20, .ref r2_20, .ref r3_20, .int (nI 0), .int (nI 0)], gA E r0_20 12 (fun _ => 0), gA E r1_20 12 (fun _ => 0), gA E r2_20 13 (fun _ => 0), gA E r3_20 600 (fun _ => 0)]
  refine g_put C i_X5 tyX5 tyX5_ok nmX5 0 1 f_21 rfl rfl (by decide) rfl rfl rfl rfl rfl (Nat.le_of_ble_eq_true rfl) dX5_init_23 (ws' := [gO h 5 [.ref q5, .ref q16, .int (nI 0), .int (nI 0), .int (nI 0), .int (nI 0)], gO q5 8 [.ref r0_9, .ref r1_9, .int (nI 0)], gA E r0_9 601 (fun _ => 0), gA E r1_9 601 (fun _ => 0), gO q16 4 [.ref r0_20, .ref r1_20, .ref r2_20, .ref r3_20, .int (nI 0), .int (nI 0)], gA E r0_20 12 (fun _ => 0), gA E r1_20 12 (fun _ => 0), gA E r2_20 13 (fun _ => 0), gA E r3_20 600 (fun _ => 0)]) rfl ?_
  refine g_aload_n C dX5_init_26 rfl ?_
  refine g_sipush (v := nI 1011) C dX5_init_27 (by decide) ?_
  refine g_put C i_X5 tyX5 tyX5_ok nmX5 0 3 f_25 rfl rfl (by decide) rfl rfl rfl rfl rfl (Nat.le_of_ble_eq_true rfl) dX5_init_30 (ws' := [gO h 5 [.ref q5, .ref q16, .int (nI 0), .int (nI 1011), .int (nI 0), .int (nI 0)], gO q5 8 [.ref r0_9, .ref r1_9, .int (nI 0)], gA E r0_9 601 (fun _ => 0), gA E r1_9 601 (fun _ => 0), gO q16 4 [.ref r0_20, .ref r1_20, .ref r2_20, .ref r3_20, .int (nI 0), .int (nI 0)], gA E r0_20 12 (fun _ => 0), gA E r1_20 12 (fun _ => 0), gA E r2_20 13 (fun _ => 0), gA E r3_20 600 (fun _ => 0)]) rfl ?_
  refine g_aload_n C dX5_init_33 rfl ?_
  refine g_iconst (v := nI 0) C dX5_init_34 (by decide) ?_
  refine g_put C i_X5 tyX5 tyX5_ok nmX5 0 4 f_29 rfl rfl (by decide) rfl rfl rfl rfl rfl (Nat.le_of_ble_eq_true rfl) dX5_init_35 (ws' := [gO h 5 [.ref q5, .ref q16, .int (nI 0), .int (nI 1011), .int (nI 0), .int (nI 0)], gO q5 8 [.ref r0_9, .ref r1_9, .int (nI 0)], gA E r0_9 601 (fun _ => 0), gA E r1_9 601 (fun _ => 0), gO q16 4 [.ref r0_20, .ref r1_20, .ref r2_20, .ref r3_20, .int (nI 0), .int (nI 0)], gA E r0_20 12 (fun _ => 0), gA E r1_20 12 (fun _ => 0), gA E r2_20 13 (fun _ => 0), gA E r3_20 600 (fun _ => 0)]) rfl ?_
  refine g_aload_n C dX5_init_38 rfl ?_
  refine g_iconst (v := -1) C dX5_init_39 (by decide) ?_
  refine g_put C i_X5 tyX5 tyX5_ok nmX5 0 5 f_32 rfl rfl (by decide) rfl rfl rfl rfl rfl (Nat.le_of_ble_eq_true rfl) dX5_init_40 (ws' := [gO h 5 [.ref q5, .ref q16, .int (nI 0), .int (nI 1011), .int (nI 0), .int (-1)], gO q5 8 [.ref r0_9, .ref r1_9, .int (nI 0)], gA E r0_9 601 (fun _ => 0), gA E r1_9 601 (fun _ => 0), gO q16 4 [.ref r0_20, .ref r1_20, .ref r2_20, .ref r3_20, .int (nI 0), .int (nI 0)], gA E r0_20 12 (fun _ => 0), gA E r1_20 12 (fun _ => 0), gA E r2_20 13 (fun _ => 0), gA E r3_20 600 (fun _ => 0)]) rfl ?_
  exact g_vret C Rt dX5_init_43 (by decide) (by decide) (⟨_, _, _, _, _, _, _, _, rfl, rfl⟩)

abbrev rm_c_X10_init : Room := { frames := 1, cells := 23, slots := 7875, locals := 32 }
set_option maxHeartbeats 4000000 in
set_option maxRecDepth 100000 in
theorem c_X10_init (E : gE) (h : Nat)  : MI E yX10_init wsX10_init rm_c_X10_init [.ref h] [gO h 10 [.int (nI 0), .null, .null, .null, .null, .int (nI 0), .int (nI 0), .int (nI 0), .null, .null, .null, .null, .null, .null, .null, .null, .null, .null, .int (nI 0), .int (nI 0), .int (nI 0), .int (nI 0), .int (nI 0), .int (nI 0), .int (nI 0), .int (nI 0), .int (nI 0), .int (nI 0), .int (nI 0), .null, .null, .int (nI 0), .null, .null, .null, .null, .null, .int (nI 0), .null, .null]] (fun rv_ ru_ => ∃ (r1 r2 r3 r4 r8 r9 r10 r11 r12 r13 r14 r15 r16 r17 r29 r30 r32 r33 r34 r35 r36 r38 r39 : Nat), rv_ = none ∧ ru_ = [gO h 10 [.int (nI 0), .ref r1, .ref r2, .ref r3, .ref r4, .int (nI 0), .int (nI 0), .int (nI 0), .ref r8, .ref r9, .ref r10, .ref r11, .ref r12, .ref r13, .ref r14, .ref r15, .ref r16, .ref r17, .int (nI 0), .int (nI 0), .int (nI 0), .int (nI 0), .int (nI 0), .int (nI 0), .int (nI 0), .int (nI 0), .int (nI 0), .int (nI 0), .int (-1), .ref r29, .ref r30, .int (nI 0), .ref r32, .ref r33, .ref r34, .ref r35, .ref r36, .int (nI 0), .ref r38, .ref r39], gA E r1 10 (fun _ => 0), gA E r2 10 (fun _ => 0), gA E r3 80 (flF (-1) (fun _ => 0) 80), gA E r4 8 (fun _ => 0), gA E r8 12 (fun _ => 0), gA E r9 12 (fun _ => 0), gA E r10 13 (fun _ => 0), gA E r11 620 (fun _ => 0), gA E r12 12 (fun _ => 0), gA E r13 12 (fun _ => 0), gA E r14 13 (fun _ => 0), gA E r15 620 (fun _ => 0), gA E r16 620 (fun _ => 0), gA E r17 600 (fun _ => 0), gA E r29 12 (fun _ => 0), gA E r30 12 (fun _ => 0), gA E r32 120 (fun _ => 0), gA E r33 2400 (fun _ => 0), gA E r34 15 (fun _ => 0), gA E r35 150 (fun _ => 0), gA E r36 2500 (fun _ => 0), gA E r38 12 (fun _ => 0), gA E r39 12 (fun _ => 0)]) := by
  refine MI.ofG (cc := cX10_init) (maxL := 2) (ret := none) (by decide) rfl (Nat.le_of_ble_eq_true rfl) (ll := [some (.ref h), none]) rfl ?_
  intro X C Rt hnm Y
  have C : gx E X cX10_init 2 wsX10_init RX10 := C
  have i_X10 : ∀ w ∈ u_ws RX10 TX10 40, w ∈ wsX10_init := by decide +kernel
  have ar_int : Cond.arrayClass .int ∈ wsX10_init := by decide +kernel
  have f_13 : Cond.fieldLink RX10 13 "MarkPagesModel" "skills" "[I" ∈ wsX10_init := by decide +kernel
  have f_16 : Cond.fieldLink RX10 16 "MarkPagesModel" "points" "[I" ∈ wsX10_init := by decide +kernel
  have f_19 : Cond.fieldLink RX10 19 "MarkPagesModel" "row" "[I" ∈ wsX10_init := by decide +kernel
  have f_22 : Cond.fieldLink RX10 22 "MarkPagesModel" "saying" "[I" ∈ wsX10_init := by decide +kernel
  have f_25 : Cond.fieldLink RX10 25 "MarkPagesModel" "skillOf" "[I" ∈ wsX10_init := by decide +kernel
  have f_28 : Cond.fieldLink RX10 28 "MarkPagesModel" "from" "[I" ∈ wsX10_init := by decide +kernel
  have f_31 : Cond.fieldLink RX10 31 "MarkPagesModel" "step" "[I" ∈ wsX10_init := by decide +kernel
  have f_34 : Cond.fieldLink RX10 34 "MarkPagesModel" "freshSaying" "[I" ∈ wsX10_init := by decide +kernel
  have f_37 : Cond.fieldLink RX10 37 "MarkPagesModel" "freshSkill" "[I" ∈ wsX10_init := by decide +kernel
  have f_40 : Cond.fieldLink RX10 40 "MarkPagesModel" "freshFrom" "[I" ∈ wsX10_init := by decide +kernel
  have f_43 : Cond.fieldLink RX10 43 "MarkPagesModel" "fresh" "[I" ∈ wsX10_init := by decide +kernel
  have f_46 : Cond.fieldLink RX10 46 "MarkPagesModel" "pile" "[I" ∈ wsX10_init := by decide +kernel
  have f_49 : Cond.fieldLink RX10 49 "MarkPagesModel" "tape" "[I" ∈ wsX10_init := by decide +kernel
  have f_52 : Cond.fieldLink RX10 52 "MarkPagesModel" "faultPlace" "I" ∈ wsX10_init := by decide +kernel
  have f_56 : Cond.fieldLink RX10 56 "MarkPagesModel" "lineRule" "[I" ∈ wsX10_init := by decide +kernel
  have f_59 : Cond.fieldLink RX10 59 "MarkPagesModel" "lineSkill" "[I" ∈ wsX10_init := by decide +kernel
  have f_62 : Cond.fieldLink RX10 62 "MarkPagesModel" "phraseLong" "[I" ∈ wsX10_init := by decide +kernel
  have f_65 : Cond.fieldLink RX10 65 "MarkPagesModel" "phrase" "[I" ∈ wsX10_init := by decide +kernel
  have f_68 : Cond.fieldLink RX10 68 "MarkPagesModel" "nameLong" "[I" ∈ wsX10_init := by decide +kernel
  have f_7 : Cond.fieldLink RX10 7 "MarkPagesModel" "most" "[I" ∈ wsX10_init := by decide +kernel
  have f_71 : Cond.fieldLink RX10 71 "MarkPagesModel" "name" "[I" ∈ wsX10_init := by decide +kernel
  have f_74 : Cond.fieldLink RX10 74 "MarkPagesModel" "out" "[I" ∈ wsX10_init := by decide +kernel
  have f_77 : Cond.fieldLink RX10 77 "MarkPagesModel" "sayings" "[I" ∈ wsX10_init := by decide +kernel
  have f_80 : Cond.fieldLink RX10 80 "MarkPagesModel" "others" "[I" ∈ wsX10_init := by decide +kernel
  have oi_c : Cond.code objectInit ⟨#[0xb1]⟩ 1 none ∈ wsX10_init := by decide +kernel
  have oi_i : Cond.instanceMethod objectInit ∈ wsX10_init := by decide +kernel
  have oi_l : Cond.methodLink RX10 1 objectInit ∈ wsX10_init := by decide +kernel
  refine g_aload_n C dX10_init_0 rfl ?_
  refine g_objInit C oi_l oi_i oi_c (by decide) (by decide) dX10_init_1 ?_
  refine g_aload_n C dX10_init_4 rfl ?_
  refine g_bipush (v := nI 10) C dX10_init_5 (by decide) ?_
  refine g_newi (N := 10) C ar_int (by decide) (by decide) (by decide) dX10_init_7 (fun q7 => ?_)
  show gg E _ 2 X 1 10 9 [some (.ref h), none] [.ref q7, .ref h] [gO h 10 [.int (nI 0), .null, .null, .null, .null, .int (nI 0), .int (nI 0), .int (nI 0), .null, .null, .null, .null, .null, .null, .null, .null, .null, .null, .int (nI 0), .int (nI 0), .int (nI 0), .int (nI 0), .int (nI 0), .int (nI 0), .int (nI 0), .int (nI 0), .int (nI 0), .int (nI 0), .int (nI 0), .null, .null, .int (nI 0), .null, .null, .null, .null, .null, .int (nI 0), .null, .null], gA E q7 10 (fun _ => 0)]
  refine g_putF C hnm i_X10 tyX10 tyX10_ok nmX10 0 1 f_7 rfl rfl (by decide) rfl rfl rfl rfl rfl rfl (Nat.le_of_ble_eq_true rfl) dX10_init_9 (ws' := [gO h 10 [.int (nI 0), .ref q7, .null, .null, .null, .int (nI 0), .int (nI 0), .int (nI 0), .null, .null, .null, .null, .null, .null, .null, .null, .null, .null, .int (nI 0), .int (nI 0), .int (nI 0), .int (nI 0), .int (nI 0), .int (nI 0), .int (nI 0), .int (nI 0), .int (nI 0), .int (nI 0), .int (nI 0), .null, .null, .int (nI 0), .null, .null, .null, .null, .null, .int (nI 0), .null, .null], gA E q7 10 (fun _ => 0)]) rfl ?_
  refine g_aload_n C dX10_init_12 rfl ?_
  refine g_bipush (v := nI 10) C dX10_init_13 (by decide) ?_
  refine g_newi (N := 10) C ar_int (by decide) (by decide) (by decide) dX10_init_15 (fun q15 => ?_)
  show gg E _ 2 X 2 20 17 [some (.ref h), none] [.ref q15, .ref h] [gO h 10 [.int (nI 0), .ref q7, .null, .null, .null, .int (nI 0), .int (nI 0), .int (nI 0), .null, .null, .null, .null, .null, .null, .null, .null, .null, .null, .int (nI 0), .int (nI 0), .int (nI 0), .int (nI 0), .int (nI 0), .int (nI 0), .int (nI 0), .int (nI 0), .int (nI 0), .int (nI 0), .int (nI 0), .null, .null, .int (nI 0), .null, .null, .null, .null, .null, .int (nI 0), .null, .null], gA E q7 10 (fun _ => 0), gA E q15 10 (fun _ => 0)]
  refine g_putF C hnm i_X10 tyX10 tyX10_ok nmX10 0 2 f_13 rfl rfl (by decide) rfl rfl rfl rfl rfl rfl (Nat.le_of_ble_eq_true rfl) dX10_init_17 (ws' := [gO h 10 [.int (nI 0), .ref q7, .ref q15, .null, .null, .int (nI 0), .int (nI 0), .int (nI 0), .null, .null, .null, .null, .null, .null, .null, .null, .null, .null, .int (nI 0), .int (nI 0), .int (nI 0), .int (nI 0), .int (nI 0), .int (nI 0), .int (nI 0), .int (nI 0), .int (nI 0), .int (nI 0), .int (nI 0), .null, .null, .int (nI 0), .null, .null, .null, .null, .null, .int (nI 0), .null, .null], gA E q7 10 (fun _ => 0), gA E q15 10 (fun _ => 0)]) rfl ?_
  refine g_aload_n C dX10_init_20 rfl ?_
  refine g_bipush (v := nI 80) C dX10_init_21 (by decide) ?_
  refine g_newi (N := 80) C ar_int (by decide) (by decide) (by decide) dX10_init_23 (fun q23 => ?_)
  show gg E _ 2 X 3 100 25 [some (.ref h), none] [.ref q23, .ref h] [gO h 10 [.int (nI 0), .ref q7, .ref q15, .null, .null, .int (nI 0), .int (nI 0), .int (nI 0), .null, .null, .null, .null, .null, .null, .null, .null, .null, .null, .int (nI 0), .int (nI 0), .int (nI 0), .int (nI 0), .int (nI 0), .int (nI 0), .int (nI 0), .int (nI 0), .int (nI 0), .int (nI 0), .int (nI 0), .null, .null, .int (nI 0), .null, .null, .null, .null, .null, .int (nI 0), .null, .null], gA E q7 10 (fun _ => 0), gA E q15 10 (fun _ => 0), gA E q23 80 (fun _ => 0)]
  refine g_putF C hnm i_X10 tyX10 tyX10_ok nmX10 0 3 f_16 rfl rfl (by decide) rfl rfl rfl rfl rfl rfl (Nat.le_of_ble_eq_true rfl) dX10_init_25 (ws' := [gO h 10 [.int (nI 0), .ref q7, .ref q15, .ref q23, .null, .int (nI 0), .int (nI 0), .int (nI 0), .null, .null, .null, .null, .null, .null, .null, .null, .null, .null, .int (nI 0), .int (nI 0), .int (nI 0), .int (nI 0), .int (nI 0), .int (nI 0), .int (nI 0), .int (nI 0), .int (nI 0), .int (nI 0), .int (nI 0), .null, .null, .int (nI 0), .null, .null, .null, .null, .null, .int (nI 0), .null, .null], gA E q7 10 (fun _ => 0), gA E q15 10 (fun _ => 0), gA E q23 80 (fun _ => 0)]) rfl ?_
  refine g_aload_n C dX10_init_28 rfl ?_
  refine g_bipush (v := nI 8) C dX10_init_29 (by decide) ?_
  refine g_newi (N := 8) C ar_int (by decide) (by decide) (by decide) dX10_init_31 (fun q31 => ?_)
  show gg E _ 2 X 4 108 33 [some (.ref h), none] [.ref q31, .ref h] [gO h 10 [.int (nI 0), .ref q7, .ref q15, .ref q23, .null, .int (nI 0), .int (nI 0), .int (nI 0), .null, .null, .null, .null, .null, .null, .null, .null, .null, .null, .int (nI 0), .int (nI 0), .int (nI 0), .int (nI 0), .int (nI 0), .int (nI 0), .int (nI 0), .int (nI 0), .int (nI 0), .int (nI 0), .int (nI 0), .null, .null, .int (nI 0), .null, .null, .null, .null, .null, .int (nI 0), .null, .null], gA E q7 10 (fun _ => 0), gA E q15 10 (fun _ => 0), gA E q23 80 (fun _ => 0), gA E q31 8 (fun _ => 0)]
  refine g_putF C hnm i_X10 tyX10 tyX10_ok nmX10 0 4 f_19 rfl rfl (by decide) rfl rfl rfl rfl rfl rfl (Nat.le_of_ble_eq_true rfl) dX10_init_33 (ws' := [gO h 10 [.int (nI 0), .ref q7, .ref q15, .ref q23, .ref q31, .int (nI 0), .int (nI 0), .int (nI 0), .null, .null, .null, .null, .null, .null, .null, .null, .null, .null, .int (nI 0), .int (nI 0), .int (nI 0), .int (nI 0), .int (nI 0), .int (nI 0), .int (nI 0), .int (nI 0), .int (nI 0), .int (nI 0), .int (nI 0), .null, .null, .int (nI 0), .null, .null, .null, .null, .null, .int (nI 0), .null, .null], gA E q7 10 (fun _ => 0), gA E q15 10 (fun _ => 0), gA E q23 80 (fun _ => 0), gA E q31 8 (fun _ => 0)]) rfl ?_
  refine g_aload_n C dX10_init_36 rfl ?_
  refine g_bipush (v := nI 12) C dX10_init_37 (by decide) ?_
  refine g_newi (N := 12) C ar_int (by decide) (by decide) (by decide) dX10_init_39 (fun q39 => ?_)
  show gg E _ 2 X 5 120 41 [some (.ref h), none] [.ref q39, .ref h] [gO h 10 [.int (nI 0), .ref q7, .ref q15, .ref q23, .ref q31, .int (nI 0), .int (nI 0), .int (nI 0), .null, .null, .null, .null, .null, .null, .null, .null, .null, .null, .int (nI 0), .int (nI 0), .int (nI 0), .int (nI 0), .int (nI 0), .int (nI 0), .int (nI 0), .int (nI 0), .int (nI 0), .int (nI 0), .int (nI 0), .null, .null, .int (nI 0), .null, .null, .null, .null, .null, .int (nI 0), .null, .null], gA E q7 10 (fun _ => 0), gA E q15 10 (fun _ => 0), gA E q23 80 (fun _ => 0), gA E q31 8 (fun _ => 0), gA E q39 12 (fun _ => 0)]
  refine g_putF C hnm i_X10 tyX10 tyX10_ok nmX10 0 8 f_22 rfl rfl (by decide) rfl rfl rfl rfl rfl rfl (Nat.le_of_ble_eq_true rfl) dX10_init_41 (ws' := [gO h 10 [.int (nI 0), .ref q7, .ref q15, .ref q23, .ref q31, .int (nI 0), .int (nI 0), .int (nI 0), .ref q39, .null, .null, .null, .null, .null, .null, .null, .null, .null, .int (nI 0), .int (nI 0), .int (nI 0), .int (nI 0), .int (nI 0), .int (nI 0), .int (nI 0), .int (nI 0), .int (nI 0), .int (nI 0), .int (nI 0), .null, .null, .int (nI 0), .null, .null, .null, .null, .null, .int (nI 0), .null, .null], gA E q7 10 (fun _ => 0), gA E q15 10 (fun _ => 0), gA E q23 80 (fun _ => 0), gA E q31 8 (fun _ => 0), gA E q39 12 (fun _ => 0)]) rfl ?_
  refine g_aload_n C dX10_init_44 rfl ?_
  refine g_bipush (v := nI 12) C dX10_init_45 (by decide) ?_
  refine g_newi (N := 12) C ar_int (by decide) (by decide) (by decide) dX10_init_47 (fun q47 => ?_)
  show gg E _ 2 X 6 132 49 [some (.ref h), none] [.ref q47, .ref h] [gO h 10 [.int (nI 0), .ref q7, .ref q15, .ref q23, .ref q31, .int (nI 0), .int (nI 0), .int (nI 0), .ref q39, .null, .null, .null, .null, .null, .null, .null, .null, .null, .int (nI 0), .int (nI 0), .int (nI 0), .int (nI 0), .int (nI 0), .int (nI 0), .int (nI 0), .int (nI 0), .int (nI 0), .int (nI 0), .int (nI 0), .null, .null, .int (nI 0), .null, .null, .null, .null, .null, .int (nI 0), .null, .null], gA E q7 10 (fun _ => 0), gA E q15 10 (fun _ => 0), gA E q23 80 (fun _ => 0), gA E q31 8 (fun _ => 0), gA E q39 12 (fun _ => 0), gA E q47 12 (fun _ => 0)]
  refine g_putF C hnm i_X10 tyX10 tyX10_ok nmX10 0 9 f_25 rfl rfl (by decide) rfl rfl rfl rfl rfl rfl (Nat.le_of_ble_eq_true rfl) dX10_init_49 (ws' := [gO h 10 [.int (nI 0), .ref q7, .ref q15, .ref q23, .ref q31, .int (nI 0), .int (nI 0), .int (nI 0), .ref q39, .ref q47, .null, .null, .null, .null, .null, .null, .null, .null, .int (nI 0), .int (nI 0), .int (nI 0), .int (nI 0), .int (nI 0), .int (nI 0), .int (nI 0), .int (nI 0), .int (nI 0), .int (nI 0), .int (nI 0), .null, .null, .int (nI 0), .null, .null, .null, .null, .null, .int (nI 0), .null, .null], gA E q7 10 (fun _ => 0), gA E q15 10 (fun _ => 0), gA E q23 80 (fun _ => 0), gA E q31 8 (fun _ => 0), gA E q39 12 (fun _ => 0), gA E q47 12 (fun _ => 0)]) rfl ?_
  refine g_aload_n C dX10_init_52 rfl ?_
  refine g_bipush (v := nI 13) C dX10_init_53 (by decide) ?_
  refine g_newi (N := 13) C ar_int (by decide) (by decide) (by decide) dX10_init_55 (fun q55 => ?_)
  show gg E _ 2 X 7 145 57 [some (.ref h), none] [.ref q55, .ref h] [gO h 10 [.int (nI 0), .ref q7, .ref q15, .ref q23, .ref q31, .int (nI 0), .int (nI 0), .int (nI 0), .ref q39, .ref q47, .null, .null, .null, .null, .null, .null, .null, .null, .int (nI 0), .int (nI 0), .int (nI 0), .int (nI 0), .int (nI 0), .int (nI 0), .int (nI 0), .int (nI 0), .int (nI 0), .int (nI 0), .int (nI 0), .null, .null, .int (nI 0), .null, .null, .null, .null, .null, .int (nI 0), .null, .null], gA E q7 10 (fun _ => 0), gA E q15 10 (fun _ => 0), gA E q23 80 (fun _ => 0), gA E q31 8 (fun _ => 0), gA E q39 12 (fun _ => 0), gA E q47 12 (fun _ => 0), gA E q55 13 (fun _ => 0)]
  refine g_putF C hnm i_X10 tyX10 tyX10_ok nmX10 0 10 f_28 rfl rfl (by decide) rfl rfl rfl rfl rfl rfl (Nat.le_of_ble_eq_true rfl) dX10_init_57 (ws' := [gO h 10 [.int (nI 0), .ref q7, .ref q15, .ref q23, .ref q31, .int (nI 0), .int (nI 0), .int (nI 0), .ref q39, .ref q47, .ref q55, .null, .null, .null, .null, .null, .null, .null, .int (nI 0), .int (nI 0), .int (nI 0), .int (nI 0), .int (nI 0), .int (nI 0), .int (nI 0), .int (nI 0), .int (nI 0), .int (nI 0), .int (nI 0), .null, .null, .int (nI 0), .null, .null, .null, .null, .null, .int (nI 0), .null, .null], gA E q7 10 (fun _ => 0), gA E q15 10 (fun _ => 0), gA E q23 80 (fun _ => 0), gA E q31 8 (fun _ => 0), gA E q39 12 (fun _ => 0), gA E q47 12 (fun _ => 0), gA E q55 13 (fun _ => 0)]) rfl ?_
  refine g_aload_n C dX10_init_60 rfl ?_
  refine g_sipush (v := nI 620) C dX10_init_61 (by decide) ?_
  refine g_newi (N := 620) C ar_int (by decide) (by decide) (by decide) dX10_init_64 (fun q64 => ?_)
  show gg E _ 2 X 8 765 66 [some (.ref h), none] [.ref q64, .ref h] [gO h 10 [.int (nI 0), .ref q7, .ref q15, .ref q23, .ref q31, .int (nI 0), .int (nI 0), .int (nI 0), .ref q39, .ref q47, .ref q55, .null, .null, .null, .null, .null, .null, .null, .int (nI 0), .int (nI 0), .int (nI 0), .int (nI 0), .int (nI 0), .int (nI 0), .int (nI 0), .int (nI 0), .int (nI 0), .int (nI 0), .int (nI 0), .null, .null, .int (nI 0), .null, .null, .null, .null, .null, .int (nI 0), .null, .null], gA E q7 10 (fun _ => 0), gA E q15 10 (fun _ => 0), gA E q23 80 (fun _ => 0), gA E q31 8 (fun _ => 0), gA E q39 12 (fun _ => 0), gA E q47 12 (fun _ => 0), gA E q55 13 (fun _ => 0), gA E q64 620 (fun _ => 0)]
  refine g_putF C hnm i_X10 tyX10 tyX10_ok nmX10 0 11 f_31 rfl rfl (by decide) rfl rfl rfl rfl rfl rfl (Nat.le_of_ble_eq_true rfl) dX10_init_66 (ws' := [gO h 10 [.int (nI 0), .ref q7, .ref q15, .ref q23, .ref q31, .int (nI 0), .int (nI 0), .int (nI 0), .ref q39, .ref q47, .ref q55, .ref q64, .null, .null, .null, .null, .null, .null, .int (nI 0), .int (nI 0), .int (nI 0), .int (nI 0), .int (nI 0), .int (nI 0), .int (nI 0), .int (nI 0), .int (nI 0), .int (nI 0), .int (nI 0), .null, .null, .int (nI 0), .null, .null, .null, .null, .null, .int (nI 0), .null, .null], gA E q7 10 (fun _ => 0), gA E q15 10 (fun _ => 0), gA E q23 80 (fun _ => 0), gA E q31 8 (fun _ => 0), gA E q39 12 (fun _ => 0), gA E q47 12 (fun _ => 0), gA E q55 13 (fun _ => 0), gA E q64 620 (fun _ => 0)]) rfl ?_
  refine g_aload_n C dX10_init_69 rfl ?_
  refine g_bipush (v := nI 12) C dX10_init_70 (by decide) ?_
  refine g_newi (N := 12) C ar_int (by decide) (by decide) (by decide) dX10_init_72 (fun q72 => ?_)
  show gg E _ 2 X 9 777 74 [some (.ref h), none] [.ref q72, .ref h] [gO h 10 [.int (nI 0), .ref q7, .ref q15, .ref q23, .ref q31, .int (nI 0), .int (nI 0), .int (nI 0), .ref q39, .ref q47, .ref q55, .ref q64, .null, .null, .null, .null, .null, .null, .int (nI 0), .int (nI 0), .int (nI 0), .int (nI 0), .int (nI 0), .int (nI 0), .int (nI 0), .int (nI 0), .int (nI 0), .int (nI 0), .int (nI 0), .null, .null, .int (nI 0), .null, .null, .null, .null, .null, .int (nI 0), .null, .null], gA E q7 10 (fun _ => 0), gA E q15 10 (fun _ => 0), gA E q23 80 (fun _ => 0), gA E q31 8 (fun _ => 0), gA E q39 12 (fun _ => 0), gA E q47 12 (fun _ => 0), gA E q55 13 (fun _ => 0), gA E q64 620 (fun _ => 0), gA E q72 12 (fun _ => 0)]
  refine g_putF C hnm i_X10 tyX10 tyX10_ok nmX10 0 12 f_34 rfl rfl (by decide) rfl rfl rfl rfl rfl rfl (Nat.le_of_ble_eq_true rfl) dX10_init_74 (ws' := [gO h 10 [.int (nI 0), .ref q7, .ref q15, .ref q23, .ref q31, .int (nI 0), .int (nI 0), .int (nI 0), .ref q39, .ref q47, .ref q55, .ref q64, .ref q72, .null, .null, .null, .null, .null, .int (nI 0), .int (nI 0), .int (nI 0), .int (nI 0), .int (nI 0), .int (nI 0), .int (nI 0), .int (nI 0), .int (nI 0), .int (nI 0), .int (nI 0), .null, .null, .int (nI 0), .null, .null, .null, .null, .null, .int (nI 0), .null, .null], gA E q7 10 (fun _ => 0), gA E q15 10 (fun _ => 0), gA E q23 80 (fun _ => 0), gA E q31 8 (fun _ => 0), gA E q39 12 (fun _ => 0), gA E q47 12 (fun _ => 0), gA E q55 13 (fun _ => 0), gA E q64 620 (fun _ => 0), gA E q72 12 (fun _ => 0)]) rfl ?_
  refine g_aload_n C dX10_init_77 rfl ?_
  refine g_bipush (v := nI 12) C dX10_init_78 (by decide) ?_
  refine g_newi (N := 12) C ar_int (by decide) (by decide) (by decide) dX10_init_80 (fun q80 => ?_)
  show gg E _ 2 X 10 789 82 [some (.ref h), none] [.ref q80, .ref h] [gO h 10 [.int (nI 0), .ref q7, .ref q15, .ref q23, .ref q31, .int (nI 0), .int (nI 0), .int (nI 0), .ref q39, .ref q47, .ref q55, .ref q64, .ref q72, .null, .null, .null, .null, .null, .int (nI 0), .int (nI 0), .int (nI 0), .int (nI 0), .int (nI 0), .int (nI 0), .int (nI 0), .int (nI 0), .int (nI 0), .int (nI 0), .int (nI 0), .null, .null, .int (nI 0), .null, .null, .null, .null, .null, .int (nI 0), .null, .null], gA E q7 10 (fun _ => 0), gA E q15 10 (fun _ => 0), gA E q23 80 (fun _ => 0), gA E q31 8 (fun _ => 0), gA E q39 12 (fun _ => 0), gA E q47 12 (fun _ => 0), gA E q55 13 (fun _ => 0), gA E q64 620 (fun _ => 0), gA E q72 12 (fun _ => 0), gA E q80 12 (fun _ => 0)]
  refine g_putF C hnm i_X10 tyX10 tyX10_ok nmX10 0 13 f_37 rfl rfl (by decide) rfl rfl rfl rfl rfl rfl (Nat.le_of_ble_eq_true rfl) dX10_init_82 (ws' := [gO h 10 [.int (nI 0), .ref q7, .ref q15, .ref q23, .ref q31, .int (nI 0), .int (nI 0), .int (nI 0), .ref q39, .ref q47, .ref q55, .ref q64, .ref q72, .ref q80, .null, .null, .null, .null, .int (nI 0), .int (nI 0), .int (nI 0), .int (nI 0), .int (nI 0), .int (nI 0), .int (nI 0), .int (nI 0), .int (nI 0), .int (nI 0), .int (nI 0), .null, .null, .int (nI 0), .null, .null, .null, .null, .null, .int (nI 0), .null, .null], gA E q7 10 (fun _ => 0), gA E q15 10 (fun _ => 0), gA E q23 80 (fun _ => 0), gA E q31 8 (fun _ => 0), gA E q39 12 (fun _ => 0), gA E q47 12 (fun _ => 0), gA E q55 13 (fun _ => 0), gA E q64 620 (fun _ => 0), gA E q72 12 (fun _ => 0), gA E q80 12 (fun _ => 0)]) rfl ?_
  refine g_aload_n C dX10_init_85 rfl ?_
  refine g_bipush (v := nI 13) C dX10_init_86 (by decide) ?_
  refine g_newi (N := 13) C ar_int (by decide) (by decide) (by decide) dX10_init_88 (fun q88 => ?_)
  show gg E _ 2 X 11 802 90 [some (.ref h), none] [.ref q88, .ref h] [gO h 10 [.int (nI 0), .ref q7, .ref q15, .ref q23, .ref q31, .int (nI 0), .int (nI 0), .int (nI 0), .ref q39, .ref q47, .ref q55, .ref q64, .ref q72, .ref q80, .null, .null, .null, .null, .int (nI 0), .int (nI 0), .int (nI 0), .int (nI 0), .int (nI 0), .int (nI 0), .int (nI 0), .int (nI 0), .int (nI 0), .int (nI 0), .int (nI 0), .null, .null, .int (nI 0), .null, .null, .null, .null, .null, .int (nI 0), .null, .null], gA E q7 10 (fun _ => 0), gA E q15 10 (fun _ => 0), gA E q23 80 (fun _ => 0), gA E q31 8 (fun _ => 0), gA E q39 12 (fun _ => 0), gA E q47 12 (fun _ => 0), gA E q55 13 (fun _ => 0), gA E q64 620 (fun _ => 0), gA E q72 12 (fun _ => 0), gA E q80 12 (fun _ => 0), gA E q88 13 (fun _ => 0)]
  refine g_putF C hnm i_X10 tyX10 tyX10_ok nmX10 0 14 f_40 rfl rfl (by decide) rfl rfl rfl rfl rfl rfl (Nat.le_of_ble_eq_true rfl) dX10_init_90 (ws' := [gO h 10 [.int (nI 0), .ref q7, .ref q15, .ref q23, .ref q31, .int (nI 0), .int (nI 0), .int (nI 0), .ref q39, .ref q47, .ref q55, .ref q64, .ref q72, .ref q80, .ref q88, .null, .null, .null, .int (nI 0), .int (nI 0), .int (nI 0), .int (nI 0), .int (nI 0), .int (nI 0), .int (nI 0), .int (nI 0), .int (nI 0), .int (nI 0), .int (nI 0), .null, .null, .int (nI 0), .null, .null, .null, .null, .null, .int (nI 0), .null, .null], gA E q7 10 (fun _ => 0), gA E q15 10 (fun _ => 0), gA E q23 80 (fun _ => 0), gA E q31 8 (fun _ => 0), gA E q39 12 (fun _ => 0), gA E q47 12 (fun _ => 0), gA E q55 13 (fun _ => 0), gA E q64 620 (fun _ => 0), gA E q72 12 (fun _ => 0), gA E q80 12 (fun _ => 0), gA E q88 13 (fun _ => 0)]) rfl ?_
  refine g_aload_n C dX10_init_93 rfl ?_
  refine g_sipush (v := nI 620) C dX10_init_94 (by decide) ?_
  refine g_newi (N := 620) C ar_int (by decide) (by decide) (by decide) dX10_init_97 (fun q97 => ?_)
  show gg E _ 2 X 12 1422 99 [some (.ref h), none] [.ref q97, .ref h] [gO h 10 [.int (nI 0), .ref q7, .ref q15, .ref q23, .ref q31, .int (nI 0), .int (nI 0), .int (nI 0), .ref q39, .ref q47, .ref q55, .ref q64, .ref q72, .ref q80, .ref q88, .null, .null, .null, .int (nI 0), .int (nI 0), .int (nI 0), .int (nI 0), .int (nI 0), .int (nI 0), .int (nI 0), .int (nI 0), .int (nI 0), .int (nI 0), .int (nI 0), .null, .null, .int (nI 0), .null, .null, .null, .null, .null, .int (nI 0), .null, .null], gA E q7 10 (fun _ => 0), gA E q15 10 (fun _ => 0), gA E q23 80 (fun _ => 0), gA E q31 8 (fun _ => 0), gA E q39 12 (fun _ => 0), gA E q47 12 (fun _ => 0), gA E q55 13 (fun _ => 0), gA E q64 620 (fun _ => 0), gA E q72 12 (fun _ => 0), gA E q80 12 (fun _ => 0), gA E q88 13 (fun _ => 0), gA E q97 620 (fun _ => 0)]
  refine g_putF C hnm i_X10 tyX10 tyX10_ok nmX10 0 15 f_43 rfl rfl (by decide) rfl rfl rfl rfl rfl rfl (Nat.le_of_ble_eq_true rfl) dX10_init_99 (ws' := [gO h 10 [.int (nI 0), .ref q7, .ref q15, .ref q23, .ref q31, .int (nI 0), .int (nI 0), .int (nI 0), .ref q39, .ref q47, .ref q55, .ref q64, .ref q72, .ref q80, .ref q88, .ref q97, .null, .null, .int (nI 0), .int (nI 0), .int (nI 0), .int (nI 0), .int (nI 0), .int (nI 0), .int (nI 0), .int (nI 0), .int (nI 0), .int (nI 0), .int (nI 0), .null, .null, .int (nI 0), .null, .null, .null, .null, .null, .int (nI 0), .null, .null], gA E q7 10 (fun _ => 0), gA E q15 10 (fun _ => 0), gA E q23 80 (fun _ => 0), gA E q31 8 (fun _ => 0), gA E q39 12 (fun _ => 0), gA E q47 12 (fun _ => 0), gA E q55 13 (fun _ => 0), gA E q64 620 (fun _ => 0), gA E q72 12 (fun _ => 0), gA E q80 12 (fun _ => 0), gA E q88 13 (fun _ => 0), gA E q97 620 (fun _ => 0)]) rfl ?_
  refine g_aload_n C dX10_init_102 rfl ?_
  refine g_sipush (v := nI 620) C dX10_init_103 (by decide) ?_
  refine g_newi (N := 620) C ar_int (by decide) (by decide) (by decide) dX10_init_106 (fun q106 => ?_)
  show gg E _ 2 X 13 2042 108 [some (.ref h), none] [.ref q106, .ref h] [gO h 10 [.int (nI 0), .ref q7, .ref q15, .ref q23, .ref q31, .int (nI 0), .int (nI 0), .int (nI 0), .ref q39, .ref q47, .ref q55, .ref q64, .ref q72, .ref q80, .ref q88, .ref q97, .null, .null, .int (nI 0), .int (nI 0), .int (nI 0), .int (nI 0), .int (nI 0), .int (nI 0), .int (nI 0), .int (nI 0), .int (nI 0), .int (nI 0), .int (nI 0), .null, .null, .int (nI 0), .null, .null, .null, .null, .null, .int (nI 0), .null, .null], gA E q7 10 (fun _ => 0), gA E q15 10 (fun _ => 0), gA E q23 80 (fun _ => 0), gA E q31 8 (fun _ => 0), gA E q39 12 (fun _ => 0), gA E q47 12 (fun _ => 0), gA E q55 13 (fun _ => 0), gA E q64 620 (fun _ => 0), gA E q72 12 (fun _ => 0), gA E q80 12 (fun _ => 0), gA E q88 13 (fun _ => 0), gA E q97 620 (fun _ => 0), gA E q106 620 (fun _ => 0)]
  refine g_putF C hnm i_X10 tyX10 tyX10_ok nmX10 0 16 f_46 rfl rfl (by decide) rfl rfl rfl rfl rfl rfl (Nat.le_of_ble_eq_true rfl) dX10_init_108 (ws' := [gO h 10 [.int (nI 0), .ref q7, .ref q15, .ref q23, .ref q31, .int (nI 0), .int (nI 0), .int (nI 0), .ref q39, .ref q47, .ref q55, .ref q64, .ref q72, .ref q80, .ref q88, .ref q97, .ref q106, .null, .int (nI 0), .int (nI 0), .int (nI 0), .int (nI 0), .int (nI 0), .int (nI 0), .int (nI 0), .int (nI 0), .int (nI 0), .int (nI 0), .int (nI 0), .null, .null, .int (nI 0), .null, .null, .null, .null, .null, .int (nI 0), .null, .null], gA E q7 10 (fun _ => 0), gA E q15 10 (fun _ => 0), gA E q23 80 (fun _ => 0), gA E q31 8 (fun _ => 0), gA E q39 12 (fun _ => 0), gA E q47 12 (fun _ => 0), gA E q55 13 (fun _ => 0), gA E q64 620 (fun _ => 0), gA E q72 12 (fun _ => 0), gA E q80 12 (fun _ => 0), gA E q88 13 (fun _ => 0), gA E q97 620 (fun _ => 0), gA E q106 620 (fun _ => 0)]) rfl ?_
  refine g_aload_n C dX10_init_111 rfl ?_
  refine g_sipush (v := nI 600) C dX10_init_112 (by decide) ?_
  refine g_newi (N := 600) C ar_int (by decide) (by decide) (by decide) dX10_init_115 (fun q115 => ?_)
  show gg E _ 2 X 14 2642 117 [some (.ref h), none] [.ref q115, .ref h] [gO h 10 [.int (nI 0), .ref q7, .ref q15, .ref q23, .ref q31, .int (nI 0), .int (nI 0), .int (nI 0), .ref q39, .ref q47, .ref q55, .ref q64, .ref q72, .ref q80, .ref q88, .ref q97, .ref q106, .null, .int (nI 0), .int (nI 0), .int (nI 0), .int (nI 0), .int (nI 0), .int (nI 0), .int (nI 0), .int (nI 0), .int (nI 0), .int (nI 0), .int (nI 0), .null, .null, .int (nI 0), .null, .null, .null, .null, .null, .int (nI 0), .null, .null], gA E q7 10 (fun _ => 0), gA E q15 10 (fun _ => 0), gA E q23 80 (fun _ => 0), gA E q31 8 (fun _ => 0), gA E q39 12 (fun _ => 0), gA E q47 12 (fun _ => 0), gA E q55 13 (fun _ => 0), gA E q64 620 (fun _ => 0), gA E q72 12 (fun _ => 0), gA E q80 12 (fun _ => 0), gA E q88 13 (fun _ => 0), gA E q97 620 (fun _ => 0), gA E q106 620 (fun _ => 0), gA E q115 600 (fun _ => 0)]
  refine g_putF C hnm i_X10 tyX10 tyX10_ok nmX10 0 17 f_49 rfl rfl (by decide) rfl rfl rfl rfl rfl rfl (Nat.le_of_ble_eq_true rfl) dX10_init_117 (ws' := [gO h 10 [.int (nI 0), .ref q7, .ref q15, .ref q23, .ref q31, .int (nI 0), .int (nI 0), .int (nI 0), .ref q39, .ref q47, .ref q55, .ref q64, .ref q72, .ref q80, .ref q88, .ref q97, .ref q106, .ref q115, .int (nI 0), .int (nI 0), .int (nI 0), .int (nI 0), .int (nI 0), .int (nI 0), .int (nI 0), .int (nI 0), .int (nI 0), .int (nI 0), .int (nI 0), .null, .null, .int (nI 0), .null, .null, .null, .null, .null, .int (nI 0), .null, .null], gA E q7 10 (fun _ => 0), gA E q15 10 (fun _ => 0), gA E q23 80 (fun _ => 0), gA E q31 8 (fun _ => 0), gA E q39 12 (fun _ => 0), gA E q47 12 (fun _ => 0), gA E q55 13 (fun _ => 0), gA E q64 620 (fun _ => 0), gA E q72 12 (fun _ => 0), gA E q80 12 (fun _ => 0), gA E q88 13 (fun _ => 0), gA E q97 620 (fun _ => 0), gA E q106 620 (fun _ => 0), gA E q115 600 (fun _ => 0)]) rfl ?_
  refine g_aload_n C dX10_init_120 rfl ?_
  refine g_iconst (v := -1) C dX10_init_121 (by decide) ?_
  refine g_put C i_X10 tyX10 tyX10_ok nmX10 0 28 f_52 rfl rfl (by decide) rfl rfl rfl rfl rfl (Nat.le_of_ble_eq_true rfl) dX10_init_122 (ws' := [gO h 10 [.int (nI 0), .ref q7, .ref q15, .ref q23, .ref q31, .int (nI 0), .int (nI 0), .int (nI 0), .ref q39, .ref q47, .ref q55, .ref q64, .ref q72, .ref q80, .ref q88, .ref q97, .ref q106, .ref q115, .int (nI 0), .int (nI 0), .int (nI 0), .int (nI 0), .int (nI 0), .int (nI 0), .int (nI 0), .int (nI 0), .int (nI 0), .int (nI 0), .int (-1), .null, .null, .int (nI 0), .null, .null, .null, .null, .null, .int (nI 0), .null, .null], gA E q7 10 (fun _ => 0), gA E q15 10 (fun _ => 0), gA E q23 80 (fun _ => 0), gA E q31 8 (fun _ => 0), gA E q39 12 (fun _ => 0), gA E q47 12 (fun _ => 0), gA E q55 13 (fun _ => 0), gA E q64 620 (fun _ => 0), gA E q72 12 (fun _ => 0), gA E q80 12 (fun _ => 0), gA E q88 13 (fun _ => 0), gA E q97 620 (fun _ => 0), gA E q106 620 (fun _ => 0), gA E q115 600 (fun _ => 0)]) rfl ?_
  refine g_aload_n C dX10_init_125 rfl ?_
  refine g_bipush (v := nI 12) C dX10_init_126 (by decide) ?_
  refine g_newi (N := 12) C ar_int (by decide) (by decide) (by decide) dX10_init_128 (fun q128 => ?_)
  show gg E _ 2 X 15 2654 130 [some (.ref h), none] [.ref q128, .ref h] [gO h 10 [.int (nI 0), .ref q7, .ref q15, .ref q23, .ref q31, .int (nI 0), .int (nI 0), .int (nI 0), .ref q39, .ref q47, .ref q55, .ref q64, .ref q72, .ref q80, .ref q88, .ref q97, .ref q106, .ref q115, .int (nI 0), .int (nI 0), .int (nI 0), .int (nI 0), .int (nI 0), .int (nI 0), .int (nI 0), .int (nI 0), .int (nI 0), .int (nI 0), .int (-1), .null, .null, .int (nI 0), .null, .null, .null, .null, .null, .int (nI 0), .null, .null], gA E q7 10 (fun _ => 0), gA E q15 10 (fun _ => 0), gA E q23 80 (fun _ => 0), gA E q31 8 (fun _ => 0), gA E q39 12 (fun _ => 0), gA E q47 12 (fun _ => 0), gA E q55 13 (fun _ => 0), gA E q64 620 (fun _ => 0), gA E q72 12 (fun _ => 0), gA E q80 12 (fun _ => 0), gA E q88 13 (fun _ => 0), gA E q97 620 (fun _ => 0), gA E q106 620 (fun _ => 0), gA E q115 600 (fun _ => 0), gA E q128 12 (fun _ => 0)]
  refine g_putF C hnm i_X10 tyX10 tyX10_ok nmX10 0 29 f_56 rfl rfl (by decide) rfl rfl rfl rfl rfl rfl (Nat.le_of_ble_eq_true rfl) dX10_init_130 (ws' := [gO h 10 [.int (nI 0), .ref q7, .ref q15, .ref q23, .ref q31, .int (nI 0), .int (nI 0), .int (nI 0), .ref q39, .ref q47, .ref q55, .ref q64, .ref q72, .ref q80, .ref q88, .ref q97, .ref q106, .ref q115, .int (nI 0), .int (nI 0), .int (nI 0), .int (nI 0), .int (nI 0), .int (nI 0), .int (nI 0), .int (nI 0), .int (nI 0), .int (nI 0), .int (-1), .ref q128, .null, .int (nI 0), .null, .null, .null, .null, .null, .int (nI 0), .null, .null], gA E q7 10 (fun _ => 0), gA E q15 10 (fun _ => 0), gA E q23 80 (fun _ => 0), gA E q31 8 (fun _ => 0), gA E q39 12 (fun _ => 0), gA E q47 12 (fun _ => 0), gA E q55 13 (fun _ => 0), gA E q64 620 (fun _ => 0), gA E q72 12 (fun _ => 0), gA E q80 12 (fun _ => 0), gA E q88 13 (fun _ => 0), gA E q97 620 (fun _ => 0), gA E q106 620 (fun _ => 0), gA E q115 600 (fun _ => 0), gA E q128 12 (fun _ => 0)]) rfl ?_
  refine g_aload_n C dX10_init_133 rfl ?_
  refine g_bipush (v := nI 12) C dX10_init_134 (by decide) ?_
  refine g_newi (N := 12) C ar_int (by decide) (by decide) (by decide) dX10_init_136 (fun q136 => ?_)
  show gg E _ 2 X 16 2666 138 [some (.ref h), none] [.ref q136, .ref h] [gO h 10 [.int (nI 0), .ref q7, .ref q15, .ref q23, .ref q31, .int (nI 0), .int (nI 0), .int (nI 0), .ref q39, .ref q47, .ref q55, .ref q64, .ref q72, .ref q80, .ref q88, .ref q97, .ref q106, .ref q115, .int (nI 0), .int (nI 0), .int (nI 0), .int (nI 0), .int (nI 0), .int (nI 0), .int (nI 0), .int (nI 0), .int (nI 0), .int (nI 0), .int (-1), .ref q128, .null, .int (nI 0), .null, .null, .null, .null, .null, .int (nI 0), .null, .null], gA E q7 10 (fun _ => 0), gA E q15 10 (fun _ => 0), gA E q23 80 (fun _ => 0), gA E q31 8 (fun _ => 0), gA E q39 12 (fun _ => 0), gA E q47 12 (fun _ => 0), gA E q55 13 (fun _ => 0), gA E q64 620 (fun _ => 0), gA E q72 12 (fun _ => 0), gA E q80 12 (fun _ => 0), gA E q88 13 (fun _ => 0), gA E q97 620 (fun _ => 0), gA E q106 620 (fun _ => 0), gA E q115 600 (fun _ => 0), gA E q128 12 (fun _ => 0), gA E q136 12 (fun _ => 0)]
  refine g_putF C hnm i_X10 tyX10 tyX10_ok nmX10 0 30 f_59 rfl rfl (by decide) rfl rfl rfl rfl rfl rfl (Nat.le_of_ble_eq_true rfl) dX10_init_138 (ws' := [gO h 10 [.int (nI 0), .ref q7, .ref q15, .ref q23, .ref q31, .int (nI 0), .int (nI 0), .int (nI 0), .ref q39, .ref q47, .ref q55, .ref q64, .ref q72, .ref q80, .ref q88, .ref q97, .ref q106, .ref q115, .int (nI 0), .int (nI 0), .int (nI 0), .int (nI 0), .int (nI 0), .int (nI 0), .int (nI 0), .int (nI 0), .int (nI 0), .int (nI 0), .int (-1), .ref q128, .ref q136, .int (nI 0), .null, .null, .null, .null, .null, .int (nI 0), .null, .null], gA E q7 10 (fun _ => 0), gA E q15 10 (fun _ => 0), gA E q23 80 (fun _ => 0), gA E q31 8 (fun _ => 0), gA E q39 12 (fun _ => 0), gA E q47 12 (fun _ => 0), gA E q55 13 (fun _ => 0), gA E q64 620 (fun _ => 0), gA E q72 12 (fun _ => 0), gA E q80 12 (fun _ => 0), gA E q88 13 (fun _ => 0), gA E q97 620 (fun _ => 0), gA E q106 620 (fun _ => 0), gA E q115 600 (fun _ => 0), gA E q128 12 (fun _ => 0), gA E q136 12 (fun _ => 0)]) rfl ?_
  refine g_aload_n C dX10_init_141 rfl ?_
  refine g_bipush (v := nI 120) C dX10_init_142 (by decide) ?_
  refine g_newi (N := 120) C ar_int (by decide) (by decide) (by decide) dX10_init_144 (fun q144 => ?_)
  show gg E _ 2 X 17 2786 146 [some (.ref h), none] [.ref q144, .ref h] [gO h 10 [.int (nI 0), .ref q7, .ref q15, .ref q23, .ref q31, .int (nI 0), .int (nI 0), .int (nI 0), .ref q39, .ref q47, .ref q55, .ref q64, .ref q72, .ref q80, .ref q88, .ref q97, .ref q106, .ref q115, .int (nI 0), .int (nI 0), .int (nI 0), .int (nI 0), .int (nI 0), .int (nI 0), .int (nI 0), .int (nI 0), .int (nI 0), .int (nI 0), .int (-1), .ref q128, .ref q136, .int (nI 0), .null, .null, .null, .null, .null, .int (nI 0), .null, .null], gA E q7 10 (fun _ => 0), gA E q15 10 (fun _ => 0), gA E q23 80 (fun _ => 0), gA E q31 8 (fun _ => 0), gA E q39 12 (fun _ => 0), gA E q47 12 (fun _ => 0), gA E q55 13 (fun _ => 0), gA E q64 620 (fun _ => 0), gA E q72 12 (fun _ => 0), gA E q80 12 (fun _ => 0), gA E q88 13 (fun _ => 0), gA E q97 620 (fun _ => 0), gA E q106 620 (fun _ => 0), gA E q115 600 (fun _ => 0), gA E q128 12 (fun _ => 0), gA E q136 12 (fun _ => 0), gA E q144 120 (fun _ => 0)]
  refine g_putF C hnm i_X10 tyX10 tyX10_ok nmX10 0 32 f_62 rfl rfl (by decide) rfl rfl rfl rfl rfl rfl (Nat.le_of_ble_eq_true rfl) dX10_init_146 (ws' := [gO h 10 [.int (nI 0), .ref q7, .ref q15, .ref q23, .ref q31, .int (nI 0), .int (nI 0), .int (nI 0), .ref q39, .ref q47, .ref q55, .ref q64, .ref q72, .ref q80, .ref q88, .ref q97, .ref q106, .ref q115, .int (nI 0), .int (nI 0), .int (nI 0), .int (nI 0), .int (nI 0), .int (nI 0), .int (nI 0), .int (nI 0), .int (nI 0), .int (nI 0), .int (-1), .ref q128, .ref q136, .int (nI 0), .ref q144, .null, .null, .null, .null, .int (nI 0), .null, .null], gA E q7 10 (fun _ => 0), gA E q15 10 (fun _ => 0), gA E q23 80 (fun _ => 0), gA E q31 8 (fun _ => 0), gA E q39 12 (fun _ => 0), gA E q47 12 (fun _ => 0), gA E q55 13 (fun _ => 0), gA E q64 620 (fun _ => 0), gA E q72 12 (fun _ => 0), gA E q80 12 (fun _ => 0), gA E q88 13 (fun _ => 0), gA E q97 620 (fun _ => 0), gA E q106 620 (fun _ => 0), gA E q115 600 (fun _ => 0), gA E q128 12 (fun _ => 0), gA E q136 12 (fun _ => 0), gA E q144 120 (fun _ => 0)]) rfl ?_
  refine g_aload_n C dX10_init_149 rfl ?_
  refine g_sipush (v := nI 2400) C dX10_init_150 (by decide) ?_
  refine g_newi (N := 2400) C ar_int (by decide) (by decide) (by decide) dX10_init_153 (fun q153 => ?_)
  show gg E _ 2 X 18 5186 155 [some (.ref h), none] [.ref q153, .ref h] [gO h 10 [.int (nI 0), .ref q7, .ref q15, .ref q23, .ref q31, .int (nI 0), .int (nI 0), .int (nI 0), .ref q39, .ref q47, .ref q55, .ref q64, .ref q72, .ref q80, .ref q88, .ref q97, .ref q106, .ref q115, .int (nI 0), .int (nI 0), .int (nI 0), .int (nI 0), .int (nI 0), .int (nI 0), .int (nI 0), .int (nI 0), .int (nI 0), .int (nI 0), .int (-1), .ref q128, .ref q136, .int (nI 0), .ref q144, .null, .null, .null, .null, .int (nI 0), .null, .null], gA E q7 10 (fun _ => 0), gA E q15 10 (fun _ => 0), gA E q23 80 (fun _ => 0), gA E q31 8 (fun _ => 0), gA E q39 12 (fun _ => 0), gA E q47 12 (fun _ => 0), gA E q55 13 (fun _ => 0), gA E q64 620 (fun _ => 0), gA E q72 12 (fun _ => 0), gA E q80 12 (fun _ => 0), gA E q88 13 (fun _ => 0), gA E q97 620 (fun _ => 0), gA E q106 620 (fun _ => 0), gA E q115 600 (fun _ => 0), gA E q128 12 (fun _ => 0), gA E q136 12 (fun _ => 0), gA E q144 120 (fun _ => 0), gA E q153 2400 (fun _ => 0)]
  refine g_putF C hnm i_X10 tyX10 tyX10_ok nmX10 0 33 f_65 rfl rfl (by decide) rfl rfl rfl rfl rfl rfl (Nat.le_of_ble_eq_true rfl) dX10_init_155 (ws' := [gO h 10 [.int (nI 0), .ref q7, .ref q15, .ref q23, .ref q31, .int (nI 0), .int (nI 0), .int (nI 0), .ref q39, .ref q47, .ref q55, .ref q64, .ref q72, .ref q80, .ref q88, .ref q97, .ref q106, .ref q115, .int (nI 0), .int (nI 0), .int (nI 0), .int (nI 0), .int (nI 0), .int (nI 0), .int (nI 0), .int (nI 0), .int (nI 0), .int (nI 0), .int (-1), .ref q128, .ref q136, .int (nI 0), .ref q144, .ref q153, .null, .null, .null, .int (nI 0), .null, .null], gA E q7 10 (fun _ => 0), gA E q15 10 (fun _ => 0), gA E q23 80 (fun _ => 0), gA E q31 8 (fun _ => 0), gA E q39 12 (fun _ => 0), gA E q47 12 (fun _ => 0), gA E q55 13 (fun _ => 0), gA E q64 620 (fun _ => 0), gA E q72 12 (fun _ => 0), gA E q80 12 (fun _ => 0), gA E q88 13 (fun _ => 0), gA E q97 620 (fun _ => 0), gA E q106 620 (fun _ => 0), gA E q115 600 (fun _ => 0), gA E q128 12 (fun _ => 0), gA E q136 12 (fun _ => 0), gA E q144 120 (fun _ => 0), gA E q153 2400 (fun _ => 0)]) rfl ?_
  refine g_aload_n C dX10_init_158 rfl ?_
  refine g_bipush (v := nI 15) C dX10_init_159 (by decide) ?_
  refine g_newi (N := 15) C ar_int (by decide) (by decide) (by decide) dX10_init_161 (fun q161 => ?_)
  show gg E _ 2 X 19 5201 163 [some (.ref h), none] [.ref q161, .ref h] [gO h 10 [.int (nI 0), .ref q7, .ref q15, .ref q23, .ref q31, .int (nI 0), .int (nI 0), .int (nI 0), .ref q39, .ref q47, .ref q55, .ref q64, .ref q72, .ref q80, .ref q88, .ref q97, .ref q106, .ref q115, .int (nI 0), .int (nI 0), .int (nI 0), .int (nI 0), .int (nI 0), .int (nI 0), .int (nI 0), .int (nI 0), .int (nI 0), .int (nI 0), .int (-1), .ref q128, .ref q136, .int (nI 0), .ref q144, .ref q153, .null, .null, .null, .int (nI 0), .null, .null], gA E q7 10 (fun _ => 0), gA E q15 10 (fun _ => 0), gA E q23 80 (fun _ => 0), gA E q31 8 (fun _ => 0), gA E q39 12 (fun _ => 0), gA E q47 12 (fun _ => 0), gA E q55 13 (fun _ => 0), gA E q64 620 (fun _ => 0), gA E q72 12 (fun _ => 0), gA E q80 12 (fun _ => 0), gA E q88 13 (fun _ => 0), gA E q97 620 (fun _ => 0), gA E q106 620 (fun _ => 0), gA E q115 600 (fun _ => 0), gA E q128 12 (fun _ => 0), gA E q136 12 (fun _ => 0), gA E q144 120 (fun _ => 0), gA E q153 2400 (fun _ => 0), gA E q161 15 (fun _ => 0)]
  refine g_putF C hnm i_X10 tyX10 tyX10_ok nmX10 0 34 f_68 rfl rfl (by decide) rfl rfl rfl rfl rfl rfl (Nat.le_of_ble_eq_true rfl) dX10_init_163 (ws' := [gO h 10 [.int (nI 0), .ref q7, .ref q15, .ref q23, .ref q31, .int (nI 0), .int (nI 0), .int (nI 0), .ref q39, .ref q47, .ref q55, .ref q64, .ref q72, .ref q80, .ref q88, .ref q97, .ref q106, .ref q115, .int (nI 0), .int (nI 0), .int (nI 0), .int (nI 0), .int (nI 0), .int (nI 0), .int (nI 0), .int (nI 0), .int (nI 0), .int (nI 0), .int (-1), .ref q128, .ref q136, .int (nI 0), .ref q144, .ref q153, .ref q161, .null, .null, .int (nI 0), .null, .null], gA E q7 10 (fun _ => 0), gA E q15 10 (fun _ => 0), gA E q23 80 (fun _ => 0), gA E q31 8 (fun _ => 0), gA E q39 12 (fun _ => 0), gA E q47 12 (fun _ => 0), gA E q55 13 (fun _ => 0), gA E q64 620 (fun _ => 0), gA E q72 12 (fun _ => 0), gA E q80 12 (fun _ => 0), gA E q88 13 (fun _ => 0), gA E q97 620 (fun _ => 0), gA E q106 620 (fun _ => 0), gA E q115 600 (fun _ => 0), gA E q128 12 (fun _ => 0), gA E q136 12 (fun _ => 0), gA E q144 120 (fun _ => 0), gA E q153 2400 (fun _ => 0), gA E q161 15 (fun _ => 0)]) rfl ?_
  refine g_aload_n C dX10_init_166 rfl ?_
  refine g_sipush (v := nI 150) C dX10_init_167 (by decide) ?_
  refine g_newi (N := 150) C ar_int (by decide) (by decide) (by decide) dX10_init_170 (fun q170 => ?_)
  show gg E _ 2 X 20 5351 172 [some (.ref h), none] [.ref q170, .ref h] [gO h 10 [.int (nI 0), .ref q7, .ref q15, .ref q23, .ref q31, .int (nI 0), .int (nI 0), .int (nI 0), .ref q39, .ref q47, .ref q55, .ref q64, .ref q72, .ref q80, .ref q88, .ref q97, .ref q106, .ref q115, .int (nI 0), .int (nI 0), .int (nI 0), .int (nI 0), .int (nI 0), .int (nI 0), .int (nI 0), .int (nI 0), .int (nI 0), .int (nI 0), .int (-1), .ref q128, .ref q136, .int (nI 0), .ref q144, .ref q153, .ref q161, .null, .null, .int (nI 0), .null, .null], gA E q7 10 (fun _ => 0), gA E q15 10 (fun _ => 0), gA E q23 80 (fun _ => 0), gA E q31 8 (fun _ => 0), gA E q39 12 (fun _ => 0), gA E q47 12 (fun _ => 0), gA E q55 13 (fun _ => 0), gA E q64 620 (fun _ => 0), gA E q72 12 (fun _ => 0), gA E q80 12 (fun _ => 0), gA E q88 13 (fun _ => 0), gA E q97 620 (fun _ => 0), gA E q106 620 (fun _ => 0), gA E q115 600 (fun _ => 0), gA E q128 12 (fun _ => 0), gA E q136 12 (fun _ => 0), gA E q144 120 (fun _ => 0), gA E q153 2400 (fun _ => 0), gA E q161 15 (fun _ => 0), gA E q170 150 (fun _ => 0)]
  refine g_putF C hnm i_X10 tyX10 tyX10_ok nmX10 0 35 f_71 rfl rfl (by decide) rfl rfl rfl rfl rfl rfl (Nat.le_of_ble_eq_true rfl) dX10_init_172 (ws' := [gO h 10 [.int (nI 0), .ref q7, .ref q15, .ref q23, .ref q31, .int (nI 0), .int (nI 0), .int (nI 0), .ref q39, .ref q47, .ref q55, .ref q64, .ref q72, .ref q80, .ref q88, .ref q97, .ref q106, .ref q115, .int (nI 0), .int (nI 0), .int (nI 0), .int (nI 0), .int (nI 0), .int (nI 0), .int (nI 0), .int (nI 0), .int (nI 0), .int (nI 0), .int (-1), .ref q128, .ref q136, .int (nI 0), .ref q144, .ref q153, .ref q161, .ref q170, .null, .int (nI 0), .null, .null], gA E q7 10 (fun _ => 0), gA E q15 10 (fun _ => 0), gA E q23 80 (fun _ => 0), gA E q31 8 (fun _ => 0), gA E q39 12 (fun _ => 0), gA E q47 12 (fun _ => 0), gA E q55 13 (fun _ => 0), gA E q64 620 (fun _ => 0), gA E q72 12 (fun _ => 0), gA E q80 12 (fun _ => 0), gA E q88 13 (fun _ => 0), gA E q97 620 (fun _ => 0), gA E q106 620 (fun _ => 0), gA E q115 600 (fun _ => 0), gA E q128 12 (fun _ => 0), gA E q136 12 (fun _ => 0), gA E q144 120 (fun _ => 0), gA E q153 2400 (fun _ => 0), gA E q161 15 (fun _ => 0), gA E q170 150 (fun _ => 0)]) rfl ?_
  refine g_aload_n C dX10_init_175 rfl ?_
  refine g_sipush (v := nI 2500) C dX10_init_176 (by decide) ?_
  refine g_newi (N := 2500) C ar_int (by decide) (by decide) (by decide) dX10_init_179 (fun q179 => ?_)
  show gg E _ 2 X 21 7851 181 [some (.ref h), none] [.ref q179, .ref h] [gO h 10 [.int (nI 0), .ref q7, .ref q15, .ref q23, .ref q31, .int (nI 0), .int (nI 0), .int (nI 0), .ref q39, .ref q47, .ref q55, .ref q64, .ref q72, .ref q80, .ref q88, .ref q97, .ref q106, .ref q115, .int (nI 0), .int (nI 0), .int (nI 0), .int (nI 0), .int (nI 0), .int (nI 0), .int (nI 0), .int (nI 0), .int (nI 0), .int (nI 0), .int (-1), .ref q128, .ref q136, .int (nI 0), .ref q144, .ref q153, .ref q161, .ref q170, .null, .int (nI 0), .null, .null], gA E q7 10 (fun _ => 0), gA E q15 10 (fun _ => 0), gA E q23 80 (fun _ => 0), gA E q31 8 (fun _ => 0), gA E q39 12 (fun _ => 0), gA E q47 12 (fun _ => 0), gA E q55 13 (fun _ => 0), gA E q64 620 (fun _ => 0), gA E q72 12 (fun _ => 0), gA E q80 12 (fun _ => 0), gA E q88 13 (fun _ => 0), gA E q97 620 (fun _ => 0), gA E q106 620 (fun _ => 0), gA E q115 600 (fun _ => 0), gA E q128 12 (fun _ => 0), gA E q136 12 (fun _ => 0), gA E q144 120 (fun _ => 0), gA E q153 2400 (fun _ => 0), gA E q161 15 (fun _ => 0), gA E q170 150 (fun _ => 0), gA E q179 2500 (fun _ => 0)]
  refine g_putF C hnm i_X10 tyX10 tyX10_ok nmX10 0 36 f_74 rfl rfl (by decide) rfl rfl rfl rfl rfl rfl (Nat.le_of_ble_eq_true rfl) dX10_init_181 (ws' := [gO h 10 [.int (nI 0), .ref q7, .ref q15, .ref q23, .ref q31, .int (nI 0), .int (nI 0), .int (nI 0), .ref q39, .ref q47, .ref q55, .ref q64, .ref q72, .ref q80, .ref q88, .ref q97, .ref q106, .ref q115, .int (nI 0), .int (nI 0), .int (nI 0), .int (nI 0), .int (nI 0), .int (nI 0), .int (nI 0), .int (nI 0), .int (nI 0), .int (nI 0), .int (-1), .ref q128, .ref q136, .int (nI 0), .ref q144, .ref q153, .ref q161, .ref q170, .ref q179, .int (nI 0), .null, .null], gA E q7 10 (fun _ => 0), gA E q15 10 (fun _ => 0), gA E q23 80 (fun _ => 0), gA E q31 8 (fun _ => 0), gA E q39 12 (fun _ => 0), gA E q47 12 (fun _ => 0), gA E q55 13 (fun _ => 0), gA E q64 620 (fun _ => 0), gA E q72 12 (fun _ => 0), gA E q80 12 (fun _ => 0), gA E q88 13 (fun _ => 0), gA E q97 620 (fun _ => 0), gA E q106 620 (fun _ => 0), gA E q115 600 (fun _ => 0), gA E q128 12 (fun _ => 0), gA E q136 12 (fun _ => 0), gA E q144 120 (fun _ => 0), gA E q153 2400 (fun _ => 0), gA E q161 15 (fun _ => 0), gA E q170 150 (fun _ => 0), gA E q179 2500 (fun _ => 0)]) rfl ?_
  refine g_aload_n C dX10_init_184 rfl ?_
  refine g_bipush (v := nI 12) C dX10_init_185 (by decide) ?_
  refine g_newi (N := 12) C ar_int (by decide) (by decide) (by decide) dX10_init_187 (fun q187 => ?_)
  show gg E _ 2 X 22 7863 189 [some (.ref h), none] [.ref q187, .ref h] [gO h 10 [.int (nI 0), .ref q7, .ref q15, .ref q23, .ref q31, .int (nI 0), .int (nI 0), .int (nI 0), .ref q39, .ref q47, .ref q55, .ref q64, .ref q72, .ref q80, .ref q88, .ref q97, .ref q106, .ref q115, .int (nI 0), .int (nI 0), .int (nI 0), .int (nI 0), .int (nI 0), .int (nI 0), .int (nI 0), .int (nI 0), .int (nI 0), .int (nI 0), .int (-1), .ref q128, .ref q136, .int (nI 0), .ref q144, .ref q153, .ref q161, .ref q170, .ref q179, .int (nI 0), .null, .null], gA E q7 10 (fun _ => 0), gA E q15 10 (fun _ => 0), gA E q23 80 (fun _ => 0), gA E q31 8 (fun _ => 0), gA E q39 12 (fun _ => 0), gA E q47 12 (fun _ => 0), gA E q55 13 (fun _ => 0), gA E q64 620 (fun _ => 0), gA E q72 12 (fun _ => 0), gA E q80 12 (fun _ => 0), gA E q88 13 (fun _ => 0), gA E q97 620 (fun _ => 0), gA E q106 620 (fun _ => 0), gA E q115 600 (fun _ => 0), gA E q128 12 (fun _ => 0), gA E q136 12 (fun _ => 0), gA E q144 120 (fun _ => 0), gA E q153 2400 (fun _ => 0), gA E q161 15 (fun _ => 0), gA E q170 150 (fun _ => 0), gA E q179 2500 (fun _ => 0), gA E q187 12 (fun _ => 0)]
  refine g_putF C hnm i_X10 tyX10 tyX10_ok nmX10 0 38 f_77 rfl rfl (by decide) rfl rfl rfl rfl rfl rfl (Nat.le_of_ble_eq_true rfl) dX10_init_189 (ws' := [gO h 10 [.int (nI 0), .ref q7, .ref q15, .ref q23, .ref q31, .int (nI 0), .int (nI 0), .int (nI 0), .ref q39, .ref q47, .ref q55, .ref q64, .ref q72, .ref q80, .ref q88, .ref q97, .ref q106, .ref q115, .int (nI 0), .int (nI 0), .int (nI 0), .int (nI 0), .int (nI 0), .int (nI 0), .int (nI 0), .int (nI 0), .int (nI 0), .int (nI 0), .int (-1), .ref q128, .ref q136, .int (nI 0), .ref q144, .ref q153, .ref q161, .ref q170, .ref q179, .int (nI 0), .ref q187, .null], gA E q7 10 (fun _ => 0), gA E q15 10 (fun _ => 0), gA E q23 80 (fun _ => 0), gA E q31 8 (fun _ => 0), gA E q39 12 (fun _ => 0), gA E q47 12 (fun _ => 0), gA E q55 13 (fun _ => 0), gA E q64 620 (fun _ => 0), gA E q72 12 (fun _ => 0), gA E q80 12 (fun _ => 0), gA E q88 13 (fun _ => 0), gA E q97 620 (fun _ => 0), gA E q106 620 (fun _ => 0), gA E q115 600 (fun _ => 0), gA E q128 12 (fun _ => 0), gA E q136 12 (fun _ => 0), gA E q144 120 (fun _ => 0), gA E q153 2400 (fun _ => 0), gA E q161 15 (fun _ => 0), gA E q170 150 (fun _ => 0), gA E q179 2500 (fun _ => 0), gA E q187 12 (fun _ => 0)]) rfl ?_
  refine g_aload_n C dX10_init_192 rfl ?_
  refine g_bipush (v := nI 12) C dX10_init_193 (by decide) ?_
  refine g_newi (N := 12) C ar_int (by decide) (by decide) (by decide) dX10_init_195 (fun q195 => ?_)
  show gg E _ 2 X 23 7875 197 [some (.ref h), none] [.ref q195, .ref h] [gO h 10 [.int (nI 0), .ref q7, .ref q15, .ref q23, .ref q31, .int (nI 0), .int (nI 0), .int (nI 0), .ref q39, .ref q47, .ref q55, .ref q64, .ref q72, .ref q80, .ref q88, .ref q97, .ref q106, .ref q115, .int (nI 0), .int (nI 0), .int (nI 0), .int (nI 0), .int (nI 0), .int (nI 0), .int (nI 0), .int (nI 0), .int (nI 0), .int (nI 0), .int (-1), .ref q128, .ref q136, .int (nI 0), .ref q144, .ref q153, .ref q161, .ref q170, .ref q179, .int (nI 0), .ref q187, .null], gA E q7 10 (fun _ => 0), gA E q15 10 (fun _ => 0), gA E q23 80 (fun _ => 0), gA E q31 8 (fun _ => 0), gA E q39 12 (fun _ => 0), gA E q47 12 (fun _ => 0), gA E q55 13 (fun _ => 0), gA E q64 620 (fun _ => 0), gA E q72 12 (fun _ => 0), gA E q80 12 (fun _ => 0), gA E q88 13 (fun _ => 0), gA E q97 620 (fun _ => 0), gA E q106 620 (fun _ => 0), gA E q115 600 (fun _ => 0), gA E q128 12 (fun _ => 0), gA E q136 12 (fun _ => 0), gA E q144 120 (fun _ => 0), gA E q153 2400 (fun _ => 0), gA E q161 15 (fun _ => 0), gA E q170 150 (fun _ => 0), gA E q179 2500 (fun _ => 0), gA E q187 12 (fun _ => 0), gA E q195 12 (fun _ => 0)]
  refine g_putF C hnm i_X10 tyX10 tyX10_ok nmX10 0 39 f_80 rfl rfl (by decide) rfl rfl rfl rfl rfl rfl (Nat.le_of_ble_eq_true rfl) dX10_init_197 (ws' := [gO h 10 [.int (nI 0), .ref q7, .ref q15, .ref q23, .ref q31, .int (nI 0), .int (nI 0), .int (nI 0), .ref q39, .ref q47, .ref q55, .ref q64, .ref q72, .ref q80, .ref q88, .ref q97, .ref q106, .ref q115, .int (nI 0), .int (nI 0), .int (nI 0), .int (nI 0), .int (nI 0), .int (nI 0), .int (nI 0), .int (nI 0), .int (nI 0), .int (nI 0), .int (-1), .ref q128, .ref q136, .int (nI 0), .ref q144, .ref q153, .ref q161, .ref q170, .ref q179, .int (nI 0), .ref q187, .ref q195], gA E q7 10 (fun _ => 0), gA E q15 10 (fun _ => 0), gA E q23 80 (fun _ => 0), gA E q31 8 (fun _ => 0), gA E q39 12 (fun _ => 0), gA E q47 12 (fun _ => 0), gA E q55 13 (fun _ => 0), gA E q64 620 (fun _ => 0), gA E q72 12 (fun _ => 0), gA E q80 12 (fun _ => 0), gA E q88 13 (fun _ => 0), gA E q97 620 (fun _ => 0), gA E q106 620 (fun _ => 0), gA E q115 600 (fun _ => 0), gA E q128 12 (fun _ => 0), gA E q136 12 (fun _ => 0), gA E q144 120 (fun _ => 0), gA E q153 2400 (fun _ => 0), gA E q161 15 (fun _ => 0), gA E q170 150 (fun _ => 0), gA E q179 2500 (fun _ => 0), gA E q187 12 (fun _ => 0), gA E q195 12 (fun _ => 0)]) rfl ?_
  refine g_iconst (v := nI 0) C dX10_init_200 (by decide) ?_
  refine g_istore_n C dX10_init_201 (by decide) rfl (ll' := [some (.ref h), some (.int (nI 0))]) rfl ?_
  have L202 : ∀ (n202 : Nat) (j : Nat) (f1 : Nat → Int32), 80 - j < n202 → (j ≤ 80) → (f1 = flF (-1) (fun _ => 0) j) → gg E rm_c_X10_init 2 X 23 7875 202 [some (.ref h), some (.int (nI j))] [] [gO h 10 [.int (nI 0), .ref q7, .ref q15, .ref q23, .ref q31, .int (nI 0), .int (nI 0), .int (nI 0), .ref q39, .ref q47, .ref q55, .ref q64, .ref q72, .ref q80, .ref q88, .ref q97, .ref q106, .ref q115, .int (nI 0), .int (nI 0), .int (nI 0), .int (nI 0), .int (nI 0), .int (nI 0), .int (nI 0), .int (nI 0), .int (nI 0), .int (nI 0), .int (-1), .ref q128, .ref q136, .int (nI 0), .ref q144, .ref q153, .ref q161, .ref q170, .ref q179, .int (nI 0), .ref q187, .ref q195], gA E q7 10 (fun _ => 0), gA E q15 10 (fun _ => 0), gA E q23 80 f1, gA E q31 8 (fun _ => 0), gA E q39 12 (fun _ => 0), gA E q47 12 (fun _ => 0), gA E q55 13 (fun _ => 0), gA E q64 620 (fun _ => 0), gA E q72 12 (fun _ => 0), gA E q80 12 (fun _ => 0), gA E q88 13 (fun _ => 0), gA E q97 620 (fun _ => 0), gA E q106 620 (fun _ => 0), gA E q115 600 (fun _ => 0), gA E q128 12 (fun _ => 0), gA E q136 12 (fun _ => 0), gA E q144 120 (fun _ => 0), gA E q153 2400 (fun _ => 0), gA E q161 15 (fun _ => 0), gA E q170 150 (fun _ => 0), gA E q179 2500 (fun _ => 0), gA E q187 12 (fun _ => 0), gA E q195 12 (fun _ => 0)] := by
    intro n202
    induction n202 with
    | zero => intro j f1 hm202; exact absurd hm202 (Nat.not_lt_zero _)
    | succ n202 ih202 =>
      intro j f1 hm202 hj hf
      refine g_iload_n C dX10_init_202 rfl ?_
      refine g_bipush (v := nI 80) C dX10_init_203 (by decide) ?_
      refine g_icmp_ge_n (tgt := 221) C dX10_init_205 (by decide) (by omega) (by omega) (fun c205 => ?_) (fun c205 => ?_)
      · exact g_vret C Rt dX10_init_221 (by decide) (by decide) (⟨_, _, _, _, _, _, _, _, _, _, _, _, _, _, _, _, _, _, _, _, _, _, _, rfl, by rw [hf, show j = 80 by omega]⟩)
      · refine g_aload_n C dX10_init_208 rfl ?_
        refine g_get C i_X10 0 3 f_16 rfl rfl (by decide) rfl rfl dX10_init_209 ?_
        refine g_iload_n C dX10_init_212 rfl ?_
        refine g_iconst (v := -1) C dX10_init_213 (by decide) ?_
        refine g_iast C 3 j rfl rfl (by omega) (by decide) dX10_init_214 (ws' := [gO h 10 [.int (nI 0), .ref q7, .ref q15, .ref q23, .ref q31, .int (nI 0), .int (nI 0), .int (nI 0), .ref q39, .ref q47, .ref q55, .ref q64, .ref q72, .ref q80, .ref q88, .ref q97, .ref q106, .ref q115, .int (nI 0), .int (nI 0), .int (nI 0), .int (nI 0), .int (nI 0), .int (nI 0), .int (nI 0), .int (nI 0), .int (nI 0), .int (nI 0), .int (-1), .ref q128, .ref q136, .int (nI 0), .ref q144, .ref q153, .ref q161, .ref q170, .ref q179, .int (nI 0), .ref q187, .ref q195], gA E q7 10 (fun _ => 0), gA E q15 10 (fun _ => 0), gA E q23 80 (upd f1 j (-1)), gA E q31 8 (fun _ => 0), gA E q39 12 (fun _ => 0), gA E q47 12 (fun _ => 0), gA E q55 13 (fun _ => 0), gA E q64 620 (fun _ => 0), gA E q72 12 (fun _ => 0), gA E q80 12 (fun _ => 0), gA E q88 13 (fun _ => 0), gA E q97 620 (fun _ => 0), gA E q106 620 (fun _ => 0), gA E q115 600 (fun _ => 0), gA E q128 12 (fun _ => 0), gA E q136 12 (fun _ => 0), gA E q144 120 (fun _ => 0), gA E q153 2400 (fun _ => 0), gA E q161 15 (fun _ => 0), gA E q170 150 (fun _ => 0), gA E q179 2500 (fun _ => 0), gA E q187 12 (fun _ => 0), gA E q195 12 (fun _ => 0)]) rfl ?_
        refine g_iinc_n (y := 1) C dX10_init_215 rfl (by decide) (by decide) rfl (ll' := [some (.ref h), some (.int (nI (j + 1)))]) rfl ?_
        refine g_goto (tgt := 202) C dX10_init_218 (by decide) ?_
        exact ih202 (j + 1) (upd f1 j (-1)) (by omega) (by omega) (by rw [hf, flF_succ])
  exact L202 _ 0 (fun _ => 0) (Nat.lt_succ_self _) (by omega) ((flF_zero _ _).symm)

