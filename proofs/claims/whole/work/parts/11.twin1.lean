/-! THE REFERENCE, papers: contracts of MarkPagesModel (world: the object, and the rows that a method touches) -/
abbrev tF (ad : Nat → Nat) (iv : Nat → Int32) : List Value := [.int (iv 0), .ref (ad 1), .ref (ad 2), .ref (ad 3), .ref (ad 4), .int (iv 5), .int (iv 6), .int (iv 7), .ref (ad 8), .ref (ad 9), .ref (ad 10), .ref (ad 11), .ref (ad 12), .ref (ad 13), .ref (ad 14), .ref (ad 15), .ref (ad 16), .ref (ad 17), .int (iv 18), .int (iv 19), .int (iv 20), .int (iv 21), .int (iv 22), .int (iv 23), .int (iv 24), .int (iv 25), .int (iv 26), .int (iv 27), .int (iv 28), .ref (ad 29), .ref (ad 30), .int (iv 31), .ref (ad 32), .ref (ad 33), .ref (ad 34), .ref (ad 35), .ref (ad 36), .int (iv 37), .ref (ad 38), .ref (ad 39)]
theorem b2i_01 (b : Bool) : b2i b = 0 ∨ b2i b = 1 := by cases b <;> decide
theorem b2i_t {b : Bool} : ¬ b2i b = 0 ↔ b = true := by cases b <;> decide
theorem b2i_f {b : Bool} : b2i b = 0 ↔ b = false := by cases b <;> decide

abbrev rm_c_X10_isIn : Room := { frames := 0, cells := 0, slots := 0, locals := 0 }
set_option maxHeartbeats 4000000 in
set_option maxRecDepth 100000 in
theorem c_X10_isIn (E : gE) (v lo hi : Int32)  : MM E yX10_isIn wsX10_isIn rm_c_X10_isIn [.int v, .int lo, .int hi] [] (fun rv_ ru_ => rv_ = some (.int (b2i (decide (¬ v < lo ∧ ¬ hi < v)))) ∧ ru_ = []) := by
  refine MM.ofG (cc := cX10_isIn) (maxL := 3) (ret := (some .boolean)) (by decide) rfl (Nat.le_of_ble_eq_true rfl) (ll := [some (.int v), some (.int lo), some (.int hi)]) rfl ?_
  intro X C Rt
  have C : gx E X cX10_isIn 3 wsX10_isIn RX10 := C
  refine g_iload_n C dX10_isIn_0 rfl ?_
  refine g_iload_n C dX10_isIn_1 rfl ?_
  refine g_icmp_lt (tgt := 14) C dX10_isIn_2 (by decide) (fun c2 => ?_) (fun c2 => ?_)
  · refine g_iconst (v := nI 0) C dX10_isIn_14 (by decide) ?_
    exact g_zret C Rt dX10_isIn_15 (by decide) (by decide) (by decide) (⟨by simp [b2i, *], rfl⟩)
  · refine g_iload_n C dX10_isIn_5 rfl ?_
    refine g_iload_n C dX10_isIn_6 rfl ?_
    refine g_icmp_gt (tgt := 14) C dX10_isIn_7 (by decide) (fun c7 => ?_) (fun c7 => ?_)
    · refine g_iconst (v := nI 0) C dX10_isIn_14 (by decide) ?_
      exact g_zret C Rt dX10_isIn_15 (by decide) (by decide) (by decide) (⟨by simp [b2i, *], rfl⟩)
    · refine g_iconst (v := nI 1) C dX10_isIn_10 (by decide) ?_
      refine g_goto (tgt := 15) C dX10_isIn_11 (by decide) ?_
      exact g_zret C Rt dX10_isIn_15 (by decide) (by decide) (by decide) (⟨by simp [b2i, *], rfl⟩)

abbrev rm_c_X10_isPupil : Room := { frames := 1, cells := 0, slots := 0, locals := 22 }
set_option maxHeartbeats 4000000 in
set_option maxRecDepth 100000 in
theorem c_X10_isPupil (E : gE) (p : Int32)  : MM E yX10_isPupil wsX10_isPupil rm_c_X10_isPupil [.int p] [] (fun rv_ ru_ => rv_ = some (.int (b2i (decide (¬ p < nI 0 ∧ ¬ nI 7 < p)))) ∧ ru_ = []) := by
  refine MM.ofG (cc := cX10_isPupil) (maxL := 1) (ret := (some .boolean)) (by decide) rfl (Nat.le_of_ble_eq_true rfl) (ll := [some (.int p)]) rfl ?_
  intro X C Rt
  have C : gx E X cX10_isPupil 1 wsX10_isPupil RX10 := C
  refine g_iload_n C dX10_isPupil_0 rfl ?_
  refine g_iconst (v := nI 0) C dX10_isPupil_1 (by decide) ?_
  refine g_bipush (v := nI 7) C dX10_isPupil_2 (by decide) ?_
  refine g_callS C (c_X10_isIn E p (nI 0) (nI 7) ) gX10_isPupil_X10_isIn rfl 3 (by decide +kernel) ⟨by decide, by decide⟩ ⟨by decide, by decide⟩ [] [] (wr := []) rfl (by decide) rfl (by decide) (by decide) rfl rfl (Nat.le_of_ble_eq_true rfl) dX10_isPupil_4 ?_
  rintro _ _ ⟨rfl, rfl⟩
  show gg E _ 1 X 0 0 7 [some (.int p)] [.int (b2i (decide (¬ p < (nI 0) ∧ ¬ (nI 7) < p)))] []
  exact g_zret C Rt dX10_isPupil_7 (by decide) (by decide) (b2i_01 _) (⟨rfl, rfl⟩)

abbrev rm_c_X10_isSkill : Room := { frames := 1, cells := 0, slots := 0, locals := 22 }
set_option maxHeartbeats 4000000 in
set_option maxRecDepth 100000 in
theorem c_X10_isSkill (E : gE) (p : Int32)  : MM E yX10_isSkill wsX10_isSkill rm_c_X10_isSkill [.int p] [] (fun rv_ ru_ => rv_ = some (.int (b2i (decide (¬ p < nI 0 ∧ ¬ nI 4 < p)))) ∧ ru_ = []) := by
  refine MM.ofG (cc := cX10_isSkill) (maxL := 1) (ret := (some .boolean)) (by decide) rfl (Nat.le_of_ble_eq_true rfl) (ll := [some (.int p)]) rfl ?_
  intro X C Rt
  have C : gx E X cX10_isSkill 1 wsX10_isSkill RX10 := C
  refine g_iload_n C dX10_isSkill_0 rfl ?_
  refine g_iconst (v := nI 0) C dX10_isSkill_1 (by decide) ?_
  refine g_iconst (v := nI 4) C dX10_isSkill_2 (by decide) ?_
  refine g_callS C (c_X10_isIn E p (nI 0) (nI 4) ) gX10_isSkill_X10_isIn rfl 3 (by decide +kernel) ⟨by decide, by decide⟩ ⟨by decide, by decide⟩ [] [] (wr := []) rfl (by decide) rfl (by decide) (by decide) rfl rfl (Nat.le_of_ble_eq_true rfl) dX10_isSkill_3 ?_
  rintro _ _ ⟨rfl, rfl⟩
  show gg E _ 1 X 0 0 6 [some (.int p)] [.int (b2i (decide (¬ p < (nI 0) ∧ ¬ (nI 4) < p)))] []
  exact g_zret C Rt dX10_isSkill_6 (by decide) (by decide) (b2i_01 _) (⟨rfl, rfl⟩)

abbrev rm_c_X10_isTongue : Room := { frames := 1, cells := 0, slots := 0, locals := 22 }
set_option maxHeartbeats 4000000 in
set_option maxRecDepth 100000 in
theorem c_X10_isTongue (E : gE) (p : Int32)  : MM E yX10_isTongue wsX10_isTongue rm_c_X10_isTongue [.int p] [] (fun rv_ ru_ => rv_ = some (.int (b2i (decide (¬ p < nI 0 ∧ ¬ nI 2 < p)))) ∧ ru_ = []) := by
  refine MM.ofG (cc := cX10_isTongue) (maxL := 1) (ret := (some .boolean)) (by decide) rfl (Nat.le_of_ble_eq_true rfl) (ll := [some (.int p)]) rfl ?_
  intro X C Rt
  have C : gx E X cX10_isTongue 1 wsX10_isTongue RX10 := C
  refine g_iload_n C dX10_isTongue_0 rfl ?_
  refine g_iconst (v := nI 0) C dX10_isTongue_1 (by decide) ?_
  refine g_iconst (v := nI 2) C dX10_isTongue_2 (by decide) ?_
  refine g_callS C (c_X10_isIn E p (nI 0) (nI 2) ) gX10_isTongue_X10_isIn rfl 3 (by decide +kernel) ⟨by decide, by decide⟩ ⟨by decide, by decide⟩ [] [] (wr := []) rfl (by decide) rfl (by decide) (by decide) rfl rfl (Nat.le_of_ble_eq_true rfl) dX10_isTongue_3 ?_
  rintro _ _ ⟨rfl, rfl⟩
  show gg E _ 1 X 0 0 6 [some (.int p)] [.int (b2i (decide (¬ p < (nI 0) ∧ ¬ (nI 2) < p)))] []
  exact g_zret C Rt dX10_isTongue_6 (by decide) (by decide) (b2i_01 _) (⟨rfl, rfl⟩)

abbrev rm_c_X10_isQuestion : Room := { frames := 1, cells := 0, slots := 0, locals := 22 }
set_option maxHeartbeats 4000000 in
set_option maxRecDepth 100000 in
theorem c_X10_isQuestion (E : gE) (h : Nat) (ad : Nat → Nat) (iv : Nat → Int32) (cnt : Nat) (q : Int32)  : MM E yX10_isQuestion wsX10_isQuestion rm_c_X10_isQuestion [.ref h, .int q] [gO h 10 (tF ad (upd iv 0 (nI cnt)))] (fun rv_ ru_ => rv_ = some (.int (b2i (decide (¬ q < nI 0 ∧ ¬ nI cnt - nI 1 < q)))) ∧ ru_ = [gO h 10 (tF ad (upd iv 0 (nI cnt)))]) := by
  refine MM.ofG (cc := cX10_isQuestion) (maxL := 2) (ret := (some .boolean)) (by decide) rfl (Nat.le_of_ble_eq_true rfl) (ll := [some (.ref h), some (.int q)]) rfl ?_
  intro X C Rt
  have C : gx E X cX10_isQuestion 2 wsX10_isQuestion RX10 := C
  have i_X10 : ∀ w ∈ u_ws RX10 TX10 40, w ∈ wsX10_isQuestion := by decide +kernel
  have f_87 : Cond.fieldLink RX10 87 "MarkPagesModel" "questions" "I" ∈ wsX10_isQuestion := by decide +kernel
  refine g_iload_n C dX10_isQuestion_0 rfl ?_
  refine g_iconst (v := nI 0) C dX10_isQuestion_1 (by decide) ?_
  refine g_aload_n C dX10_isQuestion_2 rfl ?_
  refine g_get C i_X10 0 0 f_87 rfl rfl (by decide) rfl rfl dX10_isQuestion_3 ?_
  refine g_iconst (v := nI 1) C dX10_isQuestion_6 (by decide) ?_
  refine g_isub C dX10_isQuestion_7 ?_
  refine g_callS C (c_X10_isIn E q (nI 0) ((nI cnt) - (nI 1)) ) gX10_isQuestion_X10_isIn rfl 3 (by decide +kernel) ⟨by decide, by decide⟩ ⟨by decide, by decide⟩ [] [0] (wr := [gO h 10 (tF ad (upd iv 0 (nI cnt)))]) rfl (by decide) rfl (by decide) (by decide) rfl rfl (Nat.le_of_ble_eq_true rfl) dX10_isQuestion_8 ?_
  rintro _ _ ⟨rfl, rfl⟩
  show gg E _ 2 X 0 0 11 [some (.ref h), some (.int q)] [.int (b2i (decide (¬ q < (nI 0) ∧ ¬ ((nI cnt) - (nI 1)) < q)))] [gO h 10 (tF ad (upd iv 0 (nI cnt)))]
  exact g_zret C Rt dX10_isQuestion_11 (by decide) (by decide) (b2i_01 _) (⟨rfl, rfl⟩)

abbrev rm_c_X10_markedOf : Room := { frames := 0, cells := 0, slots := 0, locals := 0 }
set_option maxHeartbeats 4000000 in
set_option maxRecDepth 100000 in
theorem c_X10_markedOf (E : gE) (h : Nat) (ad : Nat → Nat) (iv : Nat → Int32) (cnt : Nat) (sk pt : Nat → Int32) (P S : Nat) (hcnt : cnt ≤ 10) (hP : P < 8) (hS : S < 5) : MM E yX10_markedOf wsX10_markedOf rm_c_X10_markedOf [.ref h, .int (nI P), .int (nI S)] [gO h 10 (tF ad (upd iv 0 (nI cnt))), gA E (ad 2) 10 sk, gA E (ad 3) 80 pt] (fun rv_ ru_ => rv_ = some (.int (nI (mkN sk pt P S cnt))) ∧ ru_ = [gO h 10 (tF ad (upd iv 0 (nI cnt))), gA E (ad 2) 10 sk, gA E (ad 3) 80 pt]) := by
  refine MM.ofG (cc := cX10_markedOf) (maxL := 5) (ret := (some .int)) (by decide) rfl (Nat.le_of_ble_eq_true rfl) (ll := [some (.ref h), some (.int (nI P)), some (.int (nI S)), none, none]) rfl ?_
  intro X C Rt
  have C : gx E X cX10_markedOf 5 wsX10_markedOf RX10 := C
  have i_X10 : ∀ w ∈ u_ws RX10 TX10 40, w ∈ wsX10_markedOf := by decide +kernel
  have f_13 : Cond.fieldLink RX10 13 "MarkPagesModel" "skills" "[I" ∈ wsX10_markedOf := by decide +kernel
  have f_16 : Cond.fieldLink RX10 16 "MarkPagesModel" "points" "[I" ∈ wsX10_markedOf := by decide +kernel
  have f_87 : Cond.fieldLink RX10 87 "MarkPagesModel" "questions" "I" ∈ wsX10_markedOf := by decide +kernel
  refine g_iconst (v := nI 0) C dX10_markedOf_0 (by decide) ?_
  refine g_istore_n C dX10_markedOf_1 (by decide) rfl (ll' := [some (.ref h), some (.int (nI P)), some (.int (nI S)), some (.int (nI 0)), none]) rfl ?_
  refine g_iconst (v := nI 0) C dX10_markedOf_2 (by decide) ?_
  refine g_istore C dX10_markedOf_3 (by decide) rfl (ll' := [some (.ref h), some (.int (nI P)), some (.int (nI S)), some (.int (nI 0)), some (.int (nI 0))]) rfl ?_
  have L5 : ∀ (n5 : Nat) (j acc : Nat), cnt - j < n5 → (j ≤ cnt) → (acc = mkN sk pt P S j) → gg E rm_c_X10_markedOf 5 X 0 0 5 [some (.ref h), some (.int (nI P)), some (.int (nI S)), some (.int (nI acc)), some (.int (nI j))] [] [gO h 10 (tF ad (upd iv 0 (nI cnt))), gA E (ad 2) 10 sk, gA E (ad 3) 80 pt] := by
    intro n5
    induction n5 with
    | zero => intro j acc hm5; exact absurd hm5 (Nat.not_lt_zero _)
    | succ n5 ih5 =>
      intro j acc hm5 hj ha
      refine g_iload C dX10_markedOf_5 rfl ?_
      refine g_aload_n C dX10_markedOf_7 rfl ?_
      refine g_get C i_X10 0 0 f_87 rfl rfl (by decide) rfl rfl dX10_markedOf_8 ?_
      refine g_icmp_ge_n (tgt := 58) C dX10_markedOf_11 (by decide) (by omega) (by omega) (fun c11 => ?_) (fun c11 => ?_)
      · have ej : j = cnt := by omega
        rw [ej] at ha
        refine g_iload_n C dX10_markedOf_58 rfl ?_
        exact g_iret C Rt dX10_markedOf_59 (by decide) (by decide) (⟨by rw [ha], rfl⟩)
      · refine g_aload_n C dX10_markedOf_14 rfl ?_
        refine g_get C i_X10 0 2 f_13 rfl rfl (by decide) rfl rfl dX10_markedOf_15 ?_
        refine g_iload C dX10_markedOf_18 rfl ?_
        refine g_iald C 1 j rfl rfl (by omega) (by decide) dX10_markedOf_20 ?_
        refine g_iload_n C dX10_markedOf_21 rfl ?_
        refine g_ishr C dX10_markedOf_22 ?_
        refine g_iconst (v := nI 1) C dX10_markedOf_23 (by decide) ?_
        refine g_iand C dX10_markedOf_24 ?_
        refine g_iconst (v := nI 1) C dX10_markedOf_25 (by decide) ?_
        refine g_icmp_ne (tgt := 52) C dX10_markedOf_26 (by decide) (fun c26 => ?_) (fun c26 => ?_)
        · refine g_iinc_n (y := 1) C dX10_markedOf_52 rfl (by decide) (by decide) rfl (ll' := [some (.ref h), some (.int (nI P)), some (.int (nI S)), some (.int (nI acc)), some (.int (nI (j + 1)))]) rfl ?_
          refine g_goto (tgt := 5) C dX10_markedOf_55 (by decide) ?_
          exact ih5 (j + 1) acc (by omega) (by omega) (by rw [mkN, if_neg (fun z => c26 z.1), ha])
        · refine g_aload_n C dX10_markedOf_29 rfl ?_
          refine g_get C i_X10 0 3 f_16 rfl rfl (by decide) rfl rfl dX10_markedOf_30 ?_
          refine g_bipush (v := nI 10) C dX10_markedOf_33 (by decide) ?_
          refine g_iload_n C dX10_markedOf_35 rfl ?_
          refine g_imul_n C dX10_markedOf_36 ?_
          refine g_iload C dX10_markedOf_37 rfl ?_
          refine g_iadd_n C dX10_markedOf_39 ?_
          refine g_iald C 2 ((10 * P) + j) rfl rfl (by omega) (by decide) dX10_markedOf_40 ?_
          refine g_iconst (v := -1) C dX10_markedOf_41 (by decide) ?_
          refine g_icmp_eq (tgt := 52) C dX10_markedOf_42 (by decide) (fun c42 => ?_) (fun c42 => ?_)
          · refine g_iinc_n (y := 1) C dX10_markedOf_52 rfl (by decide) (by decide) rfl (ll' := [some (.ref h), some (.int (nI P)), some (.int (nI S)), some (.int (nI acc)), some (.int (nI (j + 1)))]) rfl ?_
            refine g_goto (tgt := 5) C dX10_markedOf_55 (by decide) ?_
            exact ih5 (j + 1) acc (by omega) (by omega) (by rw [mkN, if_neg (fun z => z.2 c42), ha])
          · refine g_iload_n C dX10_markedOf_45 rfl ?_
            refine g_iconst (v := nI 1) C dX10_markedOf_46 (by decide) ?_
            refine g_iload C dX10_markedOf_47 rfl ?_
            refine g_ishl_n C dX10_markedOf_49 (by omega) (by have := pw_le (show j ≤ 10 by omega); omega) ?_
            refine g_ior_n C dX10_markedOf_50 ?_
            refine g_istore_n C dX10_markedOf_51 (by decide) rfl (ll' := [some (.ref h), some (.int (nI P)), some (.int (nI S)), some (.int (nI (acc ||| (1 * 2 ^ j)))), some (.int (nI j))]) rfl ?_
            refine g_iinc_n (y := 1) C dX10_markedOf_52 rfl (by decide) (by decide) rfl (ll' := [some (.ref h), some (.int (nI P)), some (.int (nI S)), some (.int (nI (acc ||| (1 * 2 ^ j)))), some (.int (nI (j + 1)))]) rfl ?_
            refine g_goto (tgt := 5) C dX10_markedOf_55 (by decide) ?_
            exact ih5 (j + 1) (acc ||| (1 * 2 ^ j)) (by omega) (by omega) (by rw [mkN, if_pos ⟨c26, c42⟩, ha, Nat.one_mul])
  exact L5 _ 0 0 (Nat.lt_succ_self _) (by omega) (rfl)

abbrev rm_c_X10_bits : Room := { frames := 0, cells := 0, slots := 0, locals := 0 }
set_option maxHeartbeats 4000000 in
set_option maxRecDepth 100000 in
theorem c_X10_bits (E : gE) (M : Nat) (hM : M < 1024) : MM E yX10_bits wsX10_bits rm_c_X10_bits [.int (nI M)] [] (fun rv_ ru_ => rv_ = some (.int (nI (bcN M 10))) ∧ ru_ = []) := by
  refine MM.ofG (cc := cX10_bits) (maxL := 3) (ret := (some .int)) (by decide) rfl (Nat.le_of_ble_eq_true rfl) (ll := [some (.int (nI M)), none, none]) rfl ?_
  intro X C Rt
  have C : gx E X cX10_bits 3 wsX10_bits RX10 := C
  refine g_iconst (v := nI 0) C dX10_bits_0 (by decide) ?_
  refine g_istore_n C dX10_bits_1 (by decide) rfl (ll' := [some (.int (nI M)), some (.int (nI 0)), none]) rfl ?_
  refine g_iconst (v := nI 0) C dX10_bits_2 (by decide) ?_
  refine g_istore_n C dX10_bits_3 (by decide) rfl (ll' := [some (.int (nI M)), some (.int (nI 0)), some (.int (nI 0))]) rfl ?_
  have L4 : ∀ (n4 : Nat) (j n : Nat), 10 - j < n4 → (j ≤ 10) → (n = bcN M j) → gg E rm_c_X10_bits 3 X 0 0 4 [some (.int (nI M)), some (.int (nI n)), some (.int (nI j))] [] [] := by
    intro n4
    induction n4 with
    | zero => intro j n hm4; exact absurd hm4 (Nat.not_lt_zero _)
    | succ n4 ih4 =>
      intro j n hm4 hj hn
      refine g_iload_n C dX10_bits_4 rfl ?_
      refine g_bipush (v := nI 10) C dX10_bits_5 (by decide) ?_
      refine g_icmp_ge_n (tgt := 24) C dX10_bits_7 (by decide) (by omega) (by omega) (fun c7 => ?_) (fun c7 => ?_)
      · have ej : j = 10 := by omega
        rw [ej] at hn
        refine g_iload_n C dX10_bits_24 rfl ?_
        exact g_iret C Rt dX10_bits_25 (by decide) (by decide) (⟨by rw [hn], rfl⟩)
      · refine g_iload_n C dX10_bits_10 rfl ?_
        refine g_iload_n C dX10_bits_11 rfl ?_
        refine g_iload_n C dX10_bits_12 rfl ?_
        refine g_ishr_n C dX10_bits_13 (by omega) (by omega) ?_
        refine g_iconst (v := nI 1) C dX10_bits_14 (by decide) ?_
        refine g_iand1_n C dX10_bits_15 ?_
        refine g_iadd_n C dX10_bits_16 ?_
        refine g_istore_n C dX10_bits_17 (by decide) rfl (ll' := [some (.int (nI M)), some (.int (nI (n + ((M / 2 ^ j) % 2)))), some (.int (nI j))]) rfl ?_
        refine g_iinc_n (y := 1) C dX10_bits_18 rfl (by decide) (by decide) rfl (ll' := [some (.int (nI M)), some (.int (nI (n + ((M / 2 ^ j) % 2)))), some (.int (nI (j + 1)))]) rfl ?_
        refine g_goto (tgt := 4) C dX10_bits_21 (by decide) ?_
        exact ih4 (j + 1) (n + ((M / 2 ^ j) % 2)) (by omega) (by omega) (by rw [bcN, hn])
  exact L4 _ 0 0 (Nat.lt_succ_self _) (by omega) (rfl)

abbrev rm_c_X10_share : Room := { frames := 0, cells := 0, slots := 0, locals := 0 }
set_option maxHeartbeats 4000000 in
set_option maxRecDepth 100000 in
theorem c_X10_share (E : gE) (h : Nat) (ad : Nat → Nat) (iv : Nat → Int32) (cnt : Nat) (ms pt : Nat → Int32) (P M : Nat) (hcnt : cnt ≤ 10) (hP : P < 8) (hM : M < 1024) : MM E yX10_share wsX10_share rm_c_X10_share [.ref h, .int (nI P), .int (nI M)] [gO h 10 (tF ad (upd iv 0 (nI cnt))), gA E (ad 1) 10 ms, gA E (ad 3) 80 pt] (fun rv_ ru_ => rv_ = some (.int (shV ms pt P M cnt)) ∧ ru_ = [gO h 10 (tF ad (upd iv 0 (nI cnt))), gA E (ad 1) 10 ms, gA E (ad 3) 80 pt]) := by
  refine MM.ofG (cc := cX10_share) (maxL := 6) (ret := (some .int)) (by decide) rfl (Nat.le_of_ble_eq_true rfl) (ll := [some (.ref h), some (.int (nI P)), some (.int (nI M)), none, none, none]) rfl ?_
  intro X C Rt
  have C : gx E X cX10_share 6 wsX10_share RX10 := C
  have i_X10 : ∀ w ∈ u_ws RX10 TX10 40, w ∈ wsX10_share := by decide +kernel
  have f_16 : Cond.fieldLink RX10 16 "MarkPagesModel" "points" "[I" ∈ wsX10_share := by decide +kernel
  have f_7 : Cond.fieldLink RX10 7 "MarkPagesModel" "most" "[I" ∈ wsX10_share := by decide +kernel
  have f_87 : Cond.fieldLink RX10 87 "MarkPagesModel" "questions" "I" ∈ wsX10_share := by decide +kernel
  refine g_iconst (v := nI 0) C dX10_share_0 (by decide) ?_
  refine g_istore_n C dX10_share_1 (by decide) rfl (ll' := [some (.ref h), some (.int (nI P)), some (.int (nI M)), some (.int (nI 0)), none, none]) rfl ?_
  refine g_iconst (v := nI 0) C dX10_share_2 (by decide) ?_
  refine g_istore C dX10_share_3 (by decide) rfl (ll' := [some (.ref h), some (.int (nI P)), some (.int (nI M)), some (.int (nI 0)), some (.int (nI 0)), none]) rfl ?_
  refine g_iconst (v := nI 0) C dX10_share_5 (by decide) ?_
  refine g_istore C dX10_share_6 (by decide) rfl (ll' := [some (.ref h), some (.int (nI P)), some (.int (nI M)), some (.int (nI 0)), some (.int (nI 0)), some (.int (nI 0))]) rfl ?_
  have L8 : ∀ (n8 : Nat) (j : Nat) (got all : Int32), cnt - j < n8 → (j ≤ cnt) → (got = shG pt P M j) → (all = shA ms M j) → gg E rm_c_X10_share 6 X 0 0 8 [some (.ref h), some (.int (nI P)), some (.int (nI M)), some (.int got), some (.int all), some (.int (nI j))] [] [gO h 10 (tF ad (upd iv 0 (nI cnt))), gA E (ad 1) 10 ms, gA E (ad 3) 80 pt] := by
    intro n8
    induction n8 with
    | zero => intro j got all hm8; exact absurd hm8 (Nat.not_lt_zero _)
    | succ n8 ih8 =>
      intro j got all hm8 hj hg ha
      refine g_iload C dX10_share_8 rfl ?_
      refine g_aload_n C dX10_share_10 rfl ?_
      refine g_get C i_X10 0 0 f_87 rfl rfl (by decide) rfl rfl dX10_share_11 ?_
      refine g_icmp_ge_n (tgt := 62) C dX10_share_14 (by decide) (by omega) (by omega) (fun c14 => ?_) (fun c14 => ?_)
      · have ej : j = cnt := by omega
        rw [ej] at hg ha
        refine g_iload C dX10_share_62 rfl ?_
        refine g_if_ne (tgt := 71) C dX10_share_64 (by decide) (fun c64 => ?_) (fun c64 => ?_)
        · refine g_bipush (v := nI 100) C dX10_share_71 (by decide) ?_
          refine g_iload_n C dX10_share_73 rfl ?_
          refine g_imul C dX10_share_74 ?_
          refine g_iload C dX10_share_75 rfl ?_
          refine g_idiv C dX10_share_77 (c64) ?_
          exact g_iret C Rt dX10_share_78 (by decide) (by decide) (⟨by rw [shV, if_neg (fun z => c64 (ha.trans z)), hg, ha], rfl⟩)
        · refine g_iconst (v := nI 0) C dX10_share_67 (by decide) ?_
          refine g_goto (tgt := 78) C dX10_share_68 (by decide) ?_
          exact g_iret C Rt dX10_share_78 (by decide) (by decide) (⟨by rw [shV, if_pos (ha ▸ c64)], rfl⟩)
      · refine g_iload_n C dX10_share_17 rfl ?_
        refine g_iload C dX10_share_18 rfl ?_
        refine g_ishr_n C dX10_share_20 (by omega) (by omega) ?_
        refine g_iconst (v := nI 1) C dX10_share_21 (by decide) ?_
        refine g_iand1_n C dX10_share_22 ?_
        refine g_if_ne_n (tgt := 29) C dX10_share_23 (by decide) (by omega) (fun c23 => ?_) (fun c23 => ?_)
        · have e23 : M / 2 ^ j % 2 = 1 := by omega
          refine g_iload_n C dX10_share_29 rfl ?_
          refine g_aload_n C dX10_share_30 rfl ?_
          refine g_get C i_X10 0 3 f_16 rfl rfl (by decide) rfl rfl dX10_share_31 ?_
          refine g_bipush (v := nI 10) C dX10_share_34 (by decide) ?_
          refine g_iload_n C dX10_share_36 rfl ?_
          refine g_imul_n C dX10_share_37 ?_
          refine g_iload C dX10_share_38 rfl ?_
          refine g_iadd_n C dX10_share_40 ?_
          refine g_iald C 2 ((10 * P) + j) rfl rfl (by omega) (by decide) dX10_share_41 ?_
          refine g_iadd C dX10_share_42 ?_
          refine g_istore_n C dX10_share_43 (by decide) rfl (ll' := [some (.ref h), some (.int (nI P)), some (.int (nI M)), some (.int (got + (pt ((10 * P) + j)))), some (.int all), some (.int (nI j))]) rfl ?_
          refine g_iload C dX10_share_44 rfl ?_
          refine g_aload_n C dX10_share_46 rfl ?_
          refine g_get C i_X10 0 1 f_7 rfl rfl (by decide) rfl rfl dX10_share_47 ?_
          refine g_iload C dX10_share_50 rfl ?_
          refine g_iald C 1 j rfl rfl (by omega) (by decide) dX10_share_52 ?_
          refine g_iadd C dX10_share_53 ?_
          refine g_istore C dX10_share_54 (by decide) rfl (ll' := [some (.ref h), some (.int (nI P)), some (.int (nI M)), some (.int (got + (pt ((10 * P) + j)))), some (.int (all + (ms j))), some (.int (nI j))]) rfl ?_
          refine g_iinc_n (y := 1) C dX10_share_56 rfl (by decide) (by decide) rfl (ll' := [some (.ref h), some (.int (nI P)), some (.int (nI M)), some (.int (got + (pt ((10 * P) + j)))), some (.int (all + (ms j))), some (.int (nI (j + 1)))]) rfl ?_
          refine g_goto (tgt := 8) C dX10_share_59 (by decide) ?_
          exact ih8 (j + 1) (got + (pt ((10 * P) + j))) (all + (ms j)) (by omega) (by omega) (by rw [shG, if_pos e23, hg]) (by rw [shA, if_pos e23, ha])
        · have e23 : ¬ M / 2 ^ j % 2 = 1 := by omega
          refine g_goto (tgt := 56) C dX10_share_26 (by decide) ?_
          refine g_iinc_n (y := 1) C dX10_share_56 rfl (by decide) (by decide) rfl (ll' := [some (.ref h), some (.int (nI P)), some (.int (nI M)), some (.int got), some (.int all), some (.int (nI (j + 1)))]) rfl ?_
          refine g_goto (tgt := 8) C dX10_share_59 (by decide) ?_
          exact ih8 (j + 1) got all (by omega) (by omega) (by rw [shG, if_neg e23, hg]) (by rw [shA, if_neg e23, ha])
  exact L8 _ 0 (nI 0) (nI 0) (Nat.lt_succ_self _) (by omega) (rfl) (rfl)

abbrev rm_c_X10_missed : Room := { frames := 0, cells := 0, slots := 0, locals := 0 }
set_option maxHeartbeats 4000000 in
set_option maxRecDepth 100000 in
theorem c_X10_missed (E : gE) (h : Nat) (ad : Nat → Nat) (iv : Nat → Int32) (cnt : Nat) (pt : Nat → Int32) (P M : Nat) (hcnt : cnt ≤ 10) (hP : P < 8) (hM : M < 1024) : MM E yX10_missed wsX10_missed rm_c_X10_missed [.ref h, .int (nI P), .int (nI M)] [gO h 10 (tF ad (upd iv 0 (nI cnt))), gA E (ad 3) 80 pt] (fun rv_ ru_ => rv_ = some (.int (nI (miN pt P M cnt))) ∧ ru_ = [gO h 10 (tF ad (upd iv 0 (nI cnt))), gA E (ad 3) 80 pt]) := by
  refine MM.ofG (cc := cX10_missed) (maxL := 5) (ret := (some .int)) (by decide) rfl (Nat.le_of_ble_eq_true rfl) (ll := [some (.ref h), some (.int (nI P)), some (.int (nI M)), none, none]) rfl ?_
  intro X C Rt
  have C : gx E X cX10_missed 5 wsX10_missed RX10 := C
  have i_X10 : ∀ w ∈ u_ws RX10 TX10 40, w ∈ wsX10_missed := by decide +kernel
  have f_16 : Cond.fieldLink RX10 16 "MarkPagesModel" "points" "[I" ∈ wsX10_missed := by decide +kernel
  have f_87 : Cond.fieldLink RX10 87 "MarkPagesModel" "questions" "I" ∈ wsX10_missed := by decide +kernel
  refine g_iconst (v := nI 0) C dX10_missed_0 (by decide) ?_
  refine g_istore_n C dX10_missed_1 (by decide) rfl (ll' := [some (.ref h), some (.int (nI P)), some (.int (nI M)), some (.int (nI 0)), none]) rfl ?_
  refine g_iconst (v := nI 0) C dX10_missed_2 (by decide) ?_
  refine g_istore C dX10_missed_3 (by decide) rfl (ll' := [some (.ref h), some (.int (nI P)), some (.int (nI M)), some (.int (nI 0)), some (.int (nI 0))]) rfl ?_
  have L5 : ∀ (n5 : Nat) (j mi : Nat), cnt - j < n5 → (j ≤ cnt) → (mi = miN pt P M j) → gg E rm_c_X10_missed 5 X 0 0 5 [some (.ref h), some (.int (nI P)), some (.int (nI M)), some (.int (nI mi)), some (.int (nI j))] [] [gO h 10 (tF ad (upd iv 0 (nI cnt))), gA E (ad 3) 80 pt] := by
    intro n5
    induction n5 with
    | zero => intro j mi hm5; exact absurd hm5 (Nat.not_lt_zero _)
    | succ n5 ih5 =>
      intro j mi hm5 hj hi
      refine g_iload C dX10_missed_5 rfl ?_
      refine g_aload_n C dX10_missed_7 rfl ?_
      refine g_get C i_X10 0 0 f_87 rfl rfl (by decide) rfl rfl dX10_missed_8 ?_
      refine g_icmp_ge_n (tgt := 53) C dX10_missed_11 (by decide) (by omega) (by omega) (fun c11 => ?_) (fun c11 => ?_)
      · have ej : j = cnt := by omega
        rw [ej] at hi
        refine g_iload_n C dX10_missed_53 rfl ?_
        exact g_iret C Rt dX10_missed_54 (by decide) (by decide) (⟨by rw [hi], rfl⟩)
      · refine g_iload_n C dX10_missed_14 rfl ?_
        refine g_iload_n C dX10_missed_15 rfl ?_
        refine g_iload C dX10_missed_16 rfl ?_
        refine g_ishr_n C dX10_missed_18 (by omega) (by omega) ?_
        refine g_iconst (v := nI 1) C dX10_missed_19 (by decide) ?_
        refine g_iand1_n C dX10_missed_20 ?_
        refine g_iconst (v := nI 1) C dX10_missed_21 (by decide) ?_
        refine g_icmp_ne_n (tgt := 44) C dX10_missed_22 (by decide) (by omega) (by omega) (fun c22 => ?_) (fun c22 => ?_)
        · refine g_iconst (v := nI 0) C dX10_missed_44 (by decide) ?_
          refine g_iadd_n C dX10_missed_45 ?_
          refine g_istore_n C dX10_missed_46 (by decide) rfl (ll' := [some (.ref h), some (.int (nI P)), some (.int (nI M)), some (.int (nI (mi + 0))), some (.int (nI j))]) rfl ?_
          refine g_iinc_n (y := 1) C dX10_missed_47 rfl (by decide) (by decide) rfl (ll' := [some (.ref h), some (.int (nI P)), some (.int (nI M)), some (.int (nI (mi + 0))), some (.int (nI (j + 1)))]) rfl ?_
          refine g_goto (tgt := 5) C dX10_missed_50 (by decide) ?_
          exact ih5 (j + 1) (mi + 0) (by omega) (by omega) (by rw [miN, if_neg (fun z => c22 z.1), hi, Nat.add_zero])
        · refine g_aload_n C dX10_missed_25 rfl ?_
          refine g_get C i_X10 0 3 f_16 rfl rfl (by decide) rfl rfl dX10_missed_26 ?_
          refine g_bipush (v := nI 10) C dX10_missed_29 (by decide) ?_
          refine g_iload_n C dX10_missed_31 rfl ?_
          refine g_imul_n C dX10_missed_32 ?_
          refine g_iload C dX10_missed_33 rfl ?_
          refine g_iadd_n C dX10_missed_35 ?_
          refine g_iald C 1 ((10 * P) + j) rfl rfl (by omega) (by decide) dX10_missed_36 ?_
          refine g_if_ne (tgt := 44) C dX10_missed_37 (by decide) (fun c37 => ?_) (fun c37 => ?_)
          · refine g_iconst (v := nI 0) C dX10_missed_44 (by decide) ?_
            refine g_iadd_n C dX10_missed_45 ?_
            refine g_istore_n C dX10_missed_46 (by decide) rfl (ll' := [some (.ref h), some (.int (nI P)), some (.int (nI M)), some (.int (nI (mi + 0))), some (.int (nI j))]) rfl ?_
            refine g_iinc_n (y := 1) C dX10_missed_47 rfl (by decide) (by decide) rfl (ll' := [some (.ref h), some (.int (nI P)), some (.int (nI M)), some (.int (nI (mi + 0))), some (.int (nI (j + 1)))]) rfl ?_
            refine g_goto (tgt := 5) C dX10_missed_50 (by decide) ?_
            exact ih5 (j + 1) (mi + 0) (by omega) (by omega) (by rw [miN, if_neg (fun z => c37 z.2), hi, Nat.add_zero])
          · refine g_iconst (v := nI 1) C dX10_missed_40 (by decide) ?_
            refine g_goto (tgt := 45) C dX10_missed_41 (by decide) ?_
            refine g_iadd_n C dX10_missed_45 ?_
            refine g_istore_n C dX10_missed_46 (by decide) rfl (ll' := [some (.ref h), some (.int (nI P)), some (.int (nI M)), some (.int (nI (mi + 1))), some (.int (nI j))]) rfl ?_
            refine g_iinc_n (y := 1) C dX10_missed_47 rfl (by decide) (by decide) rfl (ll' := [some (.ref h), some (.int (nI P)), some (.int (nI M)), some (.int (nI (mi + 1))), some (.int (nI (j + 1)))]) rfl ?_
            refine g_goto (tgt := 5) C dX10_missed_50 (by decide) ?_
            exact ih5 (j + 1) (mi + 1) (by omega) (by omega) (by rw [miN, if_pos ⟨c22, c37⟩, hi])
  exact L5 _ 0 0 (Nat.lt_succ_self _) (by omega) (rfl)

theorem nI_pm (j : Nat) : nI j - nI 1 = nI j + (-1) := by
  rw [Int32.sub_eq_add_neg]
  rfl
theorem nI_mn {j : Nat} (hj : j < 2147483648) : nI j + (-1) < 0 ↔ j = 0 := by
  cases j with
  | zero => decide
  | succ k =>
    rw [pk_m1]
    constructor
    · intro h
      exact absurd h (nI_pos (by omega))
    · intro h
      omega
theorem okM_ne {ms : Nat → Int32} {n q : Nat} (h : okM ms n) (hq : q < n) : ¬ ms q = 0 := fun e => by
  have h1 := (h q hq).1
  rw [e] at h1
  exact absurd h1 (by decide)

abbrev rm_c_X10_last : Room := { frames := 0, cells := 0, slots := 0, locals := 0 }
set_option maxHeartbeats 4000000 in
set_option maxRecDepth 100000 in
theorem c_X10_last (E : gE) (h : Nat) (ad : Nat → Nat) (iv : Nat → Int32) (cnt : Nat) (ms pt : Nat → Int32) (P M : Nat) (hcnt : cnt ≤ 10) (hP : P < 8) (hM : M < 1024) (hms : okM ms cnt) : MM E yX10_last wsX10_last rm_c_X10_last [.ref h, .int (nI P), .int (nI M)] [gO h 10 (tF ad (upd iv 0 (nI cnt))), gA E (ad 1) 10 ms, gA E (ad 3) 80 pt] (fun rv_ ru_ => rv_ = some (.int (laV ms pt P M cnt)) ∧ ru_ = [gO h 10 (tF ad (upd iv 0 (nI cnt))), gA E (ad 1) 10 ms, gA E (ad 3) 80 pt]) := by
  refine MM.ofG (cc := cX10_last) (maxL := 4) (ret := (some .int)) (by decide) rfl (Nat.le_of_ble_eq_true rfl) (ll := [some (.ref h), some (.int (nI P)), some (.int (nI M)), none]) rfl ?_
  intro X C Rt
  have C : gx E X cX10_last 4 wsX10_last RX10 := C
  have i_X10 : ∀ w ∈ u_ws RX10 TX10 40, w ∈ wsX10_last := by decide +kernel
  have f_16 : Cond.fieldLink RX10 16 "MarkPagesModel" "points" "[I" ∈ wsX10_last := by decide +kernel
  have f_7 : Cond.fieldLink RX10 7 "MarkPagesModel" "most" "[I" ∈ wsX10_last := by decide +kernel
  have f_87 : Cond.fieldLink RX10 87 "MarkPagesModel" "questions" "I" ∈ wsX10_last := by decide +kernel
  refine g_aload_n C dX10_last_0 rfl ?_
  refine g_get C i_X10 0 0 f_87 rfl rfl (by decide) rfl rfl dX10_last_1 ?_
  refine g_iconst (v := nI 1) C dX10_last_4 (by decide) ?_
  refine g_isub C dX10_last_5 ?_
  refine g_top (nI_pm cnt) ?_
  refine g_istore_n C dX10_last_6 (by decide) rfl (ll' := [some (.ref h), some (.int (nI P)), some (.int (nI M)), some (.int (nI cnt + (-1)))]) rfl ?_
  have L7 : ∀ (n7 : Nat) (j : Nat), j < n7 → (j ≤ cnt) → (laV ms pt P M cnt = laV ms pt P M j) → gg E rm_c_X10_last 4 X 0 0 7 [some (.ref h), some (.int (nI P)), some (.int (nI M)), some (.int (nI j + (-1)))] [] [gO h 10 (tF ad (upd iv 0 (nI cnt))), gA E (ad 1) 10 ms, gA E (ad 3) 80 pt] := by
    intro n7
    induction n7 with
    | zero => intro j hm7; exact absurd hm7 (Nat.not_lt_zero _)
    | succ n7 ih7 =>
      intro j hm7 hj hl
      refine g_iload_n C dX10_last_7 rfl ?_
      refine g_if_lt (tgt := 48) C dX10_last_8 (by decide) (fun c8 => ?_) (fun c8 => ?_)
      · refine g_iconst (v := nI 0) C dX10_last_48 (by decide) ?_
        exact g_iret C Rt dX10_last_49 (by decide) (by decide) (⟨by rw [hl, (nI_mn (by omega)).mp c8]; rfl, rfl⟩)
      · obtain ⟨k, rfl⟩ : ∃ k, j = k + 1 := ⟨j - 1, by have : ¬ j = 0 := fun z => c8 ((nI_mn (by omega)).mpr z); omega⟩
        rw [pk_m1 k]
        refine g_iload_n C dX10_last_11 rfl ?_
        refine g_iload_n C dX10_last_12 rfl ?_
        refine g_ishr_n C dX10_last_13 (by omega) (by omega) ?_
        refine g_iconst (v := nI 1) C dX10_last_14 (by decide) ?_
        refine g_iand1_n C dX10_last_15 ?_
        refine g_iconst (v := nI 1) C dX10_last_16 (by decide) ?_
        refine g_icmp_ne_n (tgt := 42) C dX10_last_17 (by decide) (by omega) (by omega) (fun c17 => ?_) (fun c17 => ?_)
        · refine g_iinc (v := (nI k) + (-1)) C dX10_last_42 rfl rfl (by decide) rfl (ll' := [some (.ref h), some (.int (nI P)), some (.int (nI M)), some (.int ((nI k) + (-1)))]) rfl ?_
          refine g_goto (tgt := 7) C dX10_last_45 (by decide) ?_
          exact ih7 k (by omega) (by omega) (by rw [hl, laV, if_neg c17])
        · refine g_bipush (v := nI 100) C dX10_last_20 (by decide) ?_
          refine g_aload_n C dX10_last_22 rfl ?_
          refine g_get C i_X10 0 3 f_16 rfl rfl (by decide) rfl rfl dX10_last_23 ?_
          refine g_bipush (v := nI 10) C dX10_last_26 (by decide) ?_
          refine g_iload_n C dX10_last_28 rfl ?_
          refine g_imul_n C dX10_last_29 ?_
          refine g_iload_n C dX10_last_30 rfl ?_
          refine g_iadd_n C dX10_last_31 ?_
          refine g_iald C 2 ((10 * P) + k) rfl rfl (by omega) (by decide) dX10_last_32 ?_
          refine g_imul C dX10_last_33 ?_
          refine g_aload_n C dX10_last_34 rfl ?_
          refine g_get C i_X10 0 1 f_7 rfl rfl (by decide) rfl rfl dX10_last_35 ?_
          refine g_iload_n C dX10_last_38 rfl ?_
          refine g_iald C 1 k rfl rfl (by omega) (by decide) dX10_last_39 ?_
          refine g_idiv C dX10_last_40 (okM_ne hms (by omega)) ?_
          exact g_iret C Rt dX10_last_41 (by decide) (by decide) (⟨by rw [hl, laV, if_pos c17], rfl⟩)
  exact L7 _ cnt (Nat.lt_succ_self _) (by omega) (rfl)

abbrev rm_c_X10_classOf : Room := { frames := 1, cells := 0, slots := 0, locals := 25 }
set_option maxHeartbeats 4000000 in
set_option maxRecDepth 100000 in
theorem c_X10_classOf (E : gE) (h : Nat) (ad : Nat → Nat) (iv : Nat → Int32) (cnt : Nat) (ms sk pt : Nat → Int32) (ri : Nat → Int32) (S : Nat) (hcnt : cnt ≤ 10) (hS : S < 5) : MM E yX10_classOf wsX10_classOf rm_c_X10_classOf [.ref h, .int (nI S)] [gO h 10 (tF ad (upd iv 0 (nI cnt))), gA E (ad 1) 10 ms, gA E (ad 2) 10 sk, gA E (ad 3) 80 pt, gA E (ad 4) 8 ri] (fun rv_ ru_ => ∃ (ri2 : Nat → Int32), rv_ = some (.int (meV ms sk pt cnt S)) ∧ ru_ = [gO h 10 (tF ad (upd iv 0 (nI cnt))), gA E (ad 1) 10 ms, gA E (ad 2) 10 sk, gA E (ad 3) 80 pt, gA E (ad 4) 8 ri2]) := by
  refine MM.ofG (cc := cX10_classOf) (maxL := 7) (ret := (some .int)) (by decide) rfl (Nat.le_of_ble_eq_true rfl) (ll := [some (.ref h), some (.int (nI S)), none, none, none, none, none]) rfl ?_
  intro X C Rt
  have C : gx E X cX10_classOf 7 wsX10_classOf RX10 := C
  have i_X10 : ∀ w ∈ u_ws RX10 TX10 40, w ∈ wsX10_classOf := by decide +kernel
  have f_19 : Cond.fieldLink RX10 19 "MarkPagesModel" "row" "[I" ∈ wsX10_classOf := by decide +kernel
  refine g_iconst (v := nI 0) C dX10_classOf_0 (by decide) ?_
  refine g_istore_n C dX10_classOf_1 (by decide) rfl (ll' := [some (.ref h), some (.int (nI S)), some (.int (nI 0)), none, none, none, none]) rfl ?_
  refine g_iconst (v := nI 0) C dX10_classOf_2 (by decide) ?_
  refine g_istore_n C dX10_classOf_3 (by decide) rfl (ll' := [some (.ref h), some (.int (nI S)), some (.int (nI 0)), some (.int (nI 0)), none, none, none]) rfl ?_
  have L4 : ∀ (n4 : Nat) (p nn : Nat) (r : Nat → Int32), 8 - p < n4 → (p ≤ 8) → (nn ≤ p) → ((r, nn) = mdR ms sk pt cnt S ri p) → gg E rm_c_X10_classOf 7 X 0 0 4 [some (.ref h), some (.int (nI S)), some (.int (nI nn)), some (.int (nI p)), none, none, none] [] [gO h 10 (tF ad (upd iv 0 (nI cnt))), gA E (ad 1) 10 ms, gA E (ad 2) 10 sk, gA E (ad 3) 80 pt, gA E (ad 4) 8 r] := by
    intro n4
    induction n4 with
    | zero => intro p nn r hm4; exact absurd hm4 (Nat.not_lt_zero _)
    | succ n4 ih4 =>
      intro p nn r hm4 hp hn hr
      refine g_iload_n C dX10_classOf_4 rfl ?_
      refine g_bipush (v := nI 8) C dX10_classOf_5 (by decide) ?_
      refine g_icmp_ge_n (tgt := 97) C dX10_classOf_7 (by decide) (by omega) (by omega) (fun c7 => ?_) (fun c7 => ?_)
      · have ep : p = 8 := by omega
        rw [ep] at hr
        refine g_iload_n C dX10_classOf_97 rfl ?_
        refine g_if_ne_n (tgt := 105) C dX10_classOf_98 (by decide) (by omega) (fun c98 => ?_) (fun c98 => ?_)
        · refine g_aload_n C dX10_classOf_105 rfl ?_
          refine g_get C i_X10 0 4 f_19 rfl rfl (by decide) rfl rfl dX10_classOf_106 ?_
          refine g_iload_n C dX10_classOf_109 rfl ?_
          refine g_iconst (v := nI 1) C dX10_classOf_110 (by decide) ?_
          refine g_isub_n C dX10_classOf_111 (by omega) ?_
          refine g_iconst (v := nI 2) C dX10_classOf_112 (by decide) ?_
          refine g_idiv_n C dX10_classOf_113 (by omega) (by omega) (by omega) ?_
          refine g_iald C 4 ((nn - 1) / 2) rfl rfl (by omega) (by decide) dX10_classOf_114 ?_
          exact g_iret C Rt dX10_classOf_115 (by decide) (by decide) (⟨_, by rw [meV_any ms sk pt cnt S ri, ← hr, if_neg (Nat.pos_iff_ne_zero.mp c98)], rfl⟩)
        · refine g_iconst (v := nI 0) C dX10_classOf_101 (by decide) ?_
          refine g_goto (tgt := 115) C dX10_classOf_102 (by decide) ?_
          exact g_iret C Rt dX10_classOf_115 (by decide) (by decide) (⟨_, by rw [meV_any ms sk pt cnt S ri, ← hr, if_pos c98], rfl⟩)
      · refine g_aload_n C dX10_classOf_10 rfl ?_
        refine g_iload_n C dX10_classOf_11 rfl ?_
        refine g_iload_n C dX10_classOf_12 rfl ?_
        refine g_callV C (c_X10_markedOf E h ad iv cnt sk pt p S (by omega) (by omega) (by omega)) gX10_classOf_X10_markedOf rfl 2 (by decide +kernel) ⟨by decide, by decide⟩ ⟨by decide, by decide⟩ 0 rfl rfl [0, 2, 3] [1, 4] (wr := [gA E (ad 1) 10 ms, gA E (ad 4) 8 r]) rfl (by decide) rfl (by decide) (by decide) rfl rfl (Nat.le_of_ble_eq_true rfl) dX10_classOf_13 ?_
        rintro _ _ ⟨rfl, rfl⟩
        refine gg.perm (ws' := [gO h 10 (tF ad (upd iv 0 (nI cnt))), gA E (ad 1) 10 ms, gA E (ad 2) 10 sk, gA E (ad 3) 80 pt, gA E (ad 4) 8 r]) [2, 0, 3, 4, 1] (by decide) rfl ?_
        show gg E _ 7 X 0 0 16 [some (.ref h), some (.int (nI S)), some (.int (nI nn)), some (.int (nI p)), none, none, none] [.int (nI (mkN sk pt p S cnt))] [gO h 10 (tF ad (upd iv 0 (nI cnt))), gA E (ad 1) 10 ms, gA E (ad 2) 10 sk, gA E (ad 3) 80 pt, gA E (ad 4) 8 r]
        refine g_istore C dX10_classOf_16 (by decide) rfl (ll' := [some (.ref h), some (.int (nI S)), some (.int (nI nn)), some (.int (nI p)), some (.int (nI (mkN sk pt p S cnt))), none, none]) rfl ?_
        refine g_iload C dX10_classOf_18 rfl ?_
        refine g_if_ne_n (tgt := 26) C dX10_classOf_20 (by decide) (by have := mkN_1024 sk pt p S hcnt; omega) (fun c20 => ?_) (fun c20 => ?_)
        · refine g_aload_n C dX10_classOf_26 rfl ?_
          refine g_iload_n C dX10_classOf_27 rfl ?_
          refine g_iload C dX10_classOf_28 rfl ?_
          refine g_callV C (c_X10_share E h ad iv cnt ms pt p (mkN sk pt p S cnt) (by omega) (by omega) (mkN_1024 sk pt p S hcnt)) gX10_classOf_X10_share rfl 2 (by decide +kernel) ⟨by decide, by decide⟩ ⟨by decide, by decide⟩ 0 rfl rfl [0, 1, 3] [2, 4] (wr := [gA E (ad 2) 10 sk, gA E (ad 4) 8 r]) rfl (by decide) rfl (by decide) (by decide) rfl rfl (Nat.le_of_ble_eq_true rfl) dX10_classOf_30 ?_
          rintro _ _ ⟨rfl, rfl⟩
          refine gg.perm (ws' := [gO h 10 (tF ad (upd iv 0 (nI cnt))), gA E (ad 1) 10 ms, gA E (ad 2) 10 sk, gA E (ad 3) 80 pt, gA E (ad 4) 8 r]) [2, 3, 0, 4, 1] (by decide) rfl ?_
          show gg E _ 7 X 0 0 33 [some (.ref h), some (.int (nI S)), some (.int (nI nn)), some (.int (nI p)), some (.int (nI (mkN sk pt p S cnt))), none, none] [.int (shV ms pt p (mkN sk pt p S cnt) cnt)] [gO h 10 (tF ad (upd iv 0 (nI cnt))), gA E (ad 1) 10 ms, gA E (ad 2) 10 sk, gA E (ad 3) 80 pt, gA E (ad 4) 8 r]
          refine g_istore C dX10_classOf_33 (by decide) rfl (ll' := [some (.ref h), some (.int (nI S)), some (.int (nI nn)), some (.int (nI p)), some (.int (nI (mkN sk pt p S cnt))), some (.int (shV ms pt p (mkN sk pt p S cnt) cnt)), none]) rfl ?_
          refine g_iload_n C dX10_classOf_35 rfl ?_
          refine g_istore C dX10_classOf_36 (by decide) rfl (ll' := [some (.ref h), some (.int (nI S)), some (.int (nI nn)), some (.int (nI p)), some (.int (nI (mkN sk pt p S cnt))), some (.int (shV ms pt p (mkN sk pt p S cnt) cnt)), some (.int (nI nn))]) rfl ?_
          have L38 : ∀ (n38 : Nat) (i : Nat) (r2 : Nat → Int32), i < n38 → (i ≤ nn) → (insL (shV ms pt p (mkN sk pt p S cnt) cnt) r2 i = insL (shV ms pt p (mkN sk pt p S cnt) cnt) r nn) → gg E rm_c_X10_classOf 7 X 0 0 38 [some (.ref h), some (.int (nI S)), some (.int (nI nn)), some (.int (nI p)), some (.int (nI (mkN sk pt p S cnt))), some (.int (shV ms pt p (mkN sk pt p S cnt) cnt)), some (.int (nI i))] [] [gO h 10 (tF ad (upd iv 0 (nI cnt))), gA E (ad 1) 10 ms, gA E (ad 2) 10 sk, gA E (ad 3) 80 pt, gA E (ad 4) 8 r2] := by
            intro n38
            induction n38 with
            | zero => intro i r2 hm38; exact absurd hm38 (Nat.not_lt_zero _)
            | succ n38 ih38 =>
              intro i r2 hm38 hi hr2
              refine g_iload C dX10_classOf_38 rfl ?_
              refine g_if_le_n (tgt := 79) C dX10_classOf_40 (by decide) (by omega) (fun c40 => ?_) (fun c40 => ?_)
              · have hf : upd r2 i (shV ms pt p (mkN sk pt p S cnt) cnt) = insL (shV ms pt p (mkN sk pt p S cnt) cnt) r nn := by
                  rw [← hr2]
                  subst c40; rfl
                refine g_aload_n C dX10_classOf_79 rfl ?_
                refine g_get C i_X10 0 4 f_19 rfl rfl (by decide) rfl rfl dX10_classOf_80 ?_
                refine g_iload C dX10_classOf_83 rfl ?_
                refine g_iload C dX10_classOf_85 rfl ?_
                refine g_iast C 4 i rfl rfl (by omega) (by decide) dX10_classOf_87 (ws' := [gO h 10 (tF ad (upd iv 0 (nI cnt))), gA E (ad 1) 10 ms, gA E (ad 2) 10 sk, gA E (ad 3) 80 pt, gA E (ad 4) 8 (upd r2 i (shV ms pt p (mkN sk pt p S cnt) cnt))]) rfl ?_
                rw [hf]
                refine g_iinc_n (y := 1) C dX10_classOf_88 rfl (by decide) (by decide) rfl (ll' := [some (.ref h), some (.int (nI S)), some (.int (nI (nn + 1))), some (.int (nI p)), some (.int (nI (mkN sk pt p S cnt))), some (.int (shV ms pt p (mkN sk pt p S cnt) cnt)), some (.int (nI i))]) rfl ?_
                refine gg.less (ll' := [some (.ref h), some (.int (nI S)), some (.int (nI (nn + 1))), some (.int (nI p)), none, none, none]) (by intro i v h; match i, h with | 0, h => exact h | 1, h => exact h | 2, h => exact h | 3, h => exact h | 4, h => exact absurd h (by simp) | 5, h => exact absurd h (by simp) | 6, h => exact absurd h (by simp) | (i + 7), h => exact absurd h (by simp)) ?_
                refine g_iinc_n (y := 1) C dX10_classOf_91 rfl (by decide) (by decide) rfl (ll' := [some (.ref h), some (.int (nI S)), some (.int (nI (nn + 1))), some (.int (nI (p + 1))), none, none, none]) rfl ?_
                refine g_goto (tgt := 4) C dX10_classOf_94 (by decide) ?_
                exact ih4 (p + 1) (nn + 1) (insL (shV ms pt p (mkN sk pt p S cnt) cnt) r nn) (by omega) (by omega) (by omega) (by rw [mdR, if_neg (Nat.pos_iff_ne_zero.mp c20), ← hr])
              · refine g_aload_n C dX10_classOf_43 rfl ?_
                refine g_get C i_X10 0 4 f_19 rfl rfl (by decide) rfl rfl dX10_classOf_44 ?_
                refine g_iload C dX10_classOf_47 rfl ?_
                refine g_iconst (v := nI 1) C dX10_classOf_49 (by decide) ?_
                refine g_isub_n C dX10_classOf_50 (by omega) ?_
                refine g_iald C 4 (i - 1) rfl rfl (by omega) (by decide) dX10_classOf_51 ?_
                refine g_iload C dX10_classOf_52 rfl ?_
                refine g_icmp_le (tgt := 79) C dX10_classOf_54 (by decide) (fun c54 => ?_) (fun c54 => ?_)
                · have hf : upd r2 i (shV ms pt p (mkN sk pt p S cnt) cnt) = insL (shV ms pt p (mkN sk pt p S cnt) cnt) r nn := by
                    rw [← hr2]
                    exact ins_stop c40 c54
                  refine g_aload_n C dX10_classOf_79 rfl ?_
                  refine g_get C i_X10 0 4 f_19 rfl rfl (by decide) rfl rfl dX10_classOf_80 ?_
                  refine g_iload C dX10_classOf_83 rfl ?_
                  refine g_iload C dX10_classOf_85 rfl ?_
                  refine g_iast C 4 i rfl rfl (by omega) (by decide) dX10_classOf_87 (ws' := [gO h 10 (tF ad (upd iv 0 (nI cnt))), gA E (ad 1) 10 ms, gA E (ad 2) 10 sk, gA E (ad 3) 80 pt, gA E (ad 4) 8 (upd r2 i (shV ms pt p (mkN sk pt p S cnt) cnt))]) rfl ?_
                  rw [hf]
                  refine g_iinc_n (y := 1) C dX10_classOf_88 rfl (by decide) (by decide) rfl (ll' := [some (.ref h), some (.int (nI S)), some (.int (nI (nn + 1))), some (.int (nI p)), some (.int (nI (mkN sk pt p S cnt))), some (.int (shV ms pt p (mkN sk pt p S cnt) cnt)), some (.int (nI i))]) rfl ?_
                  refine gg.less (ll' := [some (.ref h), some (.int (nI S)), some (.int (nI (nn + 1))), some (.int (nI p)), none, none, none]) (by intro i v h; match i, h with | 0, h => exact h | 1, h => exact h | 2, h => exact h | 3, h => exact h | 4, h => exact absurd h (by simp) | 5, h => exact absurd h (by simp) | 6, h => exact absurd h (by simp) | (i + 7), h => exact absurd h (by simp)) ?_
                  refine g_iinc_n (y := 1) C dX10_classOf_91 rfl (by decide) (by decide) rfl (ll' := [some (.ref h), some (.int (nI S)), some (.int (nI (nn + 1))), some (.int (nI (p + 1))), none, none, none]) rfl ?_
                  refine g_goto (tgt := 4) C dX10_classOf_94 (by decide) ?_
                  exact ih4 (p + 1) (nn + 1) (insL (shV ms pt p (mkN sk pt p S cnt) cnt) r nn) (by omega) (by omega) (by omega) (by rw [mdR, if_neg (Nat.pos_iff_ne_zero.mp c20), ← hr])
                · refine g_aload_n C dX10_classOf_57 rfl ?_
                  refine g_get C i_X10 0 4 f_19 rfl rfl (by decide) rfl rfl dX10_classOf_58 ?_
                  refine g_iload C dX10_classOf_61 rfl ?_
                  refine g_aload_n C dX10_classOf_63 rfl ?_
                  refine g_get C i_X10 0 4 f_19 rfl rfl (by decide) rfl rfl dX10_classOf_64 ?_
                  refine g_iload C dX10_classOf_67 rfl ?_
                  refine g_iconst (v := nI 1) C dX10_classOf_69 (by decide) ?_
                  refine g_isub_n C dX10_classOf_70 (by omega) ?_
                  refine g_iald C 4 (i - 1) rfl rfl (by omega) (by decide) dX10_classOf_71 ?_
                  refine g_iast C 4 i rfl rfl (by omega) (by decide) dX10_classOf_72 (ws' := [gO h 10 (tF ad (upd iv 0 (nI cnt))), gA E (ad 1) 10 ms, gA E (ad 2) 10 sk, gA E (ad 3) 80 pt, gA E (ad 4) 8 (upd r2 i (r2 (i - 1)))]) rfl ?_
                  refine g_idec_n (y := 1) C dX10_classOf_73 rfl (by decide) (by omega) (by decide) rfl (ll' := [some (.ref h), some (.int (nI S)), some (.int (nI nn)), some (.int (nI p)), some (.int (nI (mkN sk pt p S cnt))), some (.int (shV ms pt p (mkN sk pt p S cnt) cnt)), some (.int (nI (i - 1)))]) rfl ?_
                  refine g_goto (tgt := 38) C dX10_classOf_76 (by decide) ?_
                  exact ih38 (i - 1) (upd r2 i (r2 (i - 1))) (by omega) (by omega) (by rw [ins_go c40 c54, hr2])
          exact L38 _ nn r (Nat.lt_succ_self _) (by omega) (rfl)
        · refine g_goto (tgt := 91) C dX10_classOf_23 (by decide) ?_
          refine gg.less (ll' := [some (.ref h), some (.int (nI S)), some (.int (nI nn)), some (.int (nI p)), none, none, none]) (by intro i v h; match i, h with | 0, h => exact h | 1, h => exact h | 2, h => exact h | 3, h => exact h | 4, h => exact absurd h (by simp) | 5, h => exact absurd h (by simp) | 6, h => exact absurd h (by simp) | (i + 7), h => exact absurd h (by simp)) ?_
          refine g_iinc_n (y := 1) C dX10_classOf_91 rfl (by decide) (by decide) rfl (ll' := [some (.ref h), some (.int (nI S)), some (.int (nI nn)), some (.int (nI (p + 1))), none, none, none]) rfl ?_
          refine g_goto (tgt := 4) C dX10_classOf_94 (by decide) ?_
          exact ih4 (p + 1) nn r (by omega) (by omega) (by omega) (by rw [mdR, if_pos c20, hr])
  exact L4 _ 0 0 ri (Nat.lt_succ_self _) (by omega) (by omega) (rfl)

