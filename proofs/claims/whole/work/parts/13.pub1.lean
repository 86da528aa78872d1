/-! PUBLIC METHODS, first: question, mark, of (class and reference); _ok: arguments in range; _bad: not so, nothing changes -/

abbrev rm_c_X10_isIn_y : Room := { frames := 0, cells := 0, slots := 0, locals := 0 }
theorem c_X10_isIn_y (E : gE) (v lo hi : Int32) (h1 : ¬ v < lo) (h2 : ¬ hi < v) : MM E yX10_isIn wsX10_isIn rm_c_X10_isIn_y [.int v, .int lo, .int hi] [] (fun rv_ ru_ => rv_ = some (.int (nI 1)) ∧ ru_ = []) := by
  refine (c_X10_isIn E v lo hi).post ?_
  rintro v u ⟨rfl, rfl⟩
  exact ⟨by rw [decide_eq_true ⟨h1, h2⟩]; rfl, rfl⟩

abbrev rm_c_X10_isPupil_y : Room := { frames := 1, cells := 0, slots := 0, locals := 22 }
theorem c_X10_isPupil_y (E : gE) (P : Nat) (hP : P ≤ 7) : MM E yX10_isPupil wsX10_isPupil rm_c_X10_isPupil_y [.int (nI P)] [] (fun rv_ ru_ => rv_ = some (.int (nI 1)) ∧ ru_ = []) := by
  refine (c_X10_isPupil E (nI P)).post ?_
  rintro v u ⟨rfl, rfl⟩
  exact ⟨by rw [decide_eq_true ⟨nI_nlt (Nat.zero_le P) (by omega), nI_nlt (by omega) (by omega)⟩]; rfl, rfl⟩

abbrev rm_c_X10_isSkill_y : Room := { frames := 1, cells := 0, slots := 0, locals := 22 }
theorem c_X10_isSkill_y (E : gE) (P : Nat) (hP : P ≤ 4) : MM E yX10_isSkill wsX10_isSkill rm_c_X10_isSkill_y [.int (nI P)] [] (fun rv_ ru_ => rv_ = some (.int (nI 1)) ∧ ru_ = []) := by
  refine (c_X10_isSkill E (nI P)).post ?_
  rintro v u ⟨rfl, rfl⟩
  exact ⟨by rw [decide_eq_true ⟨nI_nlt (Nat.zero_le P) (by omega), nI_nlt (by omega) (by omega)⟩]; rfl, rfl⟩

abbrev rm_c_X10_isTongue_y : Room := { frames := 1, cells := 0, slots := 0, locals := 22 }
theorem c_X10_isTongue_y (E : gE) (P : Nat) (hP : P ≤ 2) : MM E yX10_isTongue wsX10_isTongue rm_c_X10_isTongue_y [.int (nI P)] [] (fun rv_ ru_ => rv_ = some (.int (nI 1)) ∧ ru_ = []) := by
  refine (c_X10_isTongue E (nI P)).post ?_
  rintro v u ⟨rfl, rfl⟩
  exact ⟨by rw [decide_eq_true ⟨nI_nlt (Nat.zero_le P) (by omega), nI_nlt (by omega) (by omega)⟩]; rfl, rfl⟩

abbrev rm_c_X10_isQuestion_y : Room := { frames := 1, cells := 0, slots := 0, locals := 22 }
theorem c_X10_isQuestion_y (E : gE) (h : Nat) (ad : Nat → Nat) (iv : Nat → Int32) (cnt Q : Nat) (hQ : Q < cnt) (hcnt : cnt ≤ 10) : MM E yX10_isQuestion wsX10_isQuestion rm_c_X10_isQuestion_y [.ref h, .int (nI Q)] [gO h 10 (tF ad (upd iv 0 (nI cnt)))] (fun rv_ ru_ => rv_ = some (.int (nI 1)) ∧ ru_ = [gO h 10 (tF ad (upd iv 0 (nI cnt)))]) := by
  refine (c_X10_isQuestion E h ad iv cnt (nI Q)).post ?_
  rintro v u ⟨rfl, rfl⟩
  exact ⟨by rw [decide_eq_true ⟨nI_nlt (Nat.zero_le Q) (by omega), by rw [pk_sub (by omega)]; exact nI_nlt (by omega) (by omega)⟩]; rfl, rfl⟩

abbrev rm_c_X9_isPupil : Room := { frames := 0, cells := 0, slots := 0, locals := 0 }
set_option maxHeartbeats 4000000 in
set_option maxRecDepth 100000 in
theorem c_X9_isPupil (E : gE) (p : Int32)  : MM E yX9_isPupil wsX9_isPupil rm_c_X9_isPupil [.int p] [] (fun rv_ ru_ => rv_ = some (.int (b2i (decide (¬ p < 0 ∧ ¬ nI 8 ≤ p)))) ∧ ru_ = []) := by
  refine MM.ofG (cc := cX9_isPupil) (maxL := 1) (ret := (some .boolean)) (by decide) rfl (Nat.le_of_ble_eq_true rfl) (ll := [some (.int p)]) rfl ?_
  intro X C Rt
  have C : gx E X cX9_isPupil 1 wsX9_isPupil RX9 := C
  refine g_iload_n C dX9_isPupil_0 rfl ?_
  refine g_if_lt (tgt := 14) C dX9_isPupil_1 (by decide) (fun c1 => ?_) (fun c1 => ?_)
  · refine g_iconst (v := nI 0) C dX9_isPupil_14 (by decide) ?_
    exact g_zret C Rt dX9_isPupil_15 (by decide) (by decide) (by decide) (⟨by simp [b2i, *], rfl⟩)
  · refine g_iload_n C dX9_isPupil_4 rfl ?_
    refine g_bipush (v := nI 8) C dX9_isPupil_5 (by decide) ?_
    refine g_icmp_ge (tgt := 14) C dX9_isPupil_7 (by decide) (fun c7 => ?_) (fun c7 => ?_)
    · refine g_iconst (v := nI 0) C dX9_isPupil_14 (by decide) ?_
      exact g_zret C Rt dX9_isPupil_15 (by decide) (by decide) (by decide) (⟨by simp [b2i, *], rfl⟩)
    · refine g_iconst (v := nI 1) C dX9_isPupil_10 (by decide) ?_
      refine g_goto (tgt := 15) C dX9_isPupil_11 (by decide) ?_
      exact g_zret C Rt dX9_isPupil_15 (by decide) (by decide) (by decide) (⟨by simp [b2i, *], rfl⟩)

abbrev rm_c_X9_isPupil_y : Room := { frames := 0, cells := 0, slots := 0, locals := 0 }
theorem c_X9_isPupil_y (E : gE) (P : Nat) (hP : P < 8) : MM E yX9_isPupil wsX9_isPupil rm_c_X9_isPupil_y [.int (nI P)] [] (fun rv_ ru_ => rv_ = some (.int (nI 1)) ∧ ru_ = []) := by
  refine (c_X9_isPupil E (nI P)).post ?_
  rintro v u ⟨rfl, rfl⟩
  exact ⟨by rw [decide_eq_true ⟨nI_pos (by omega), nI_ge (by omega) (by omega)⟩]; rfl, rfl⟩

abbrev rm_c_X9_isSkill : Room := { frames := 0, cells := 0, slots := 0, locals := 0 }
set_option maxHeartbeats 4000000 in
set_option maxRecDepth 100000 in
theorem c_X9_isSkill (E : gE) (p : Int32)  : MM E yX9_isSkill wsX9_isSkill rm_c_X9_isSkill [.int p] [] (fun rv_ ru_ => rv_ = some (.int (b2i (decide (¬ p < 0 ∧ ¬ nI 5 ≤ p)))) ∧ ru_ = []) := by
  refine MM.ofG (cc := cX9_isSkill) (maxL := 1) (ret := (some .boolean)) (by decide) rfl (Nat.le_of_ble_eq_true rfl) (ll := [some (.int p)]) rfl ?_
  intro X C Rt
  have C : gx E X cX9_isSkill 1 wsX9_isSkill RX9 := C
  refine g_iload_n C dX9_isSkill_0 rfl ?_
  refine g_if_lt (tgt := 13) C dX9_isSkill_1 (by decide) (fun c1 => ?_) (fun c1 => ?_)
  · refine g_iconst (v := nI 0) C dX9_isSkill_13 (by decide) ?_
    exact g_zret C Rt dX9_isSkill_14 (by decide) (by decide) (by decide) (⟨by simp [b2i, *], rfl⟩)
  · refine g_iload_n C dX9_isSkill_4 rfl ?_
    refine g_iconst (v := nI 5) C dX9_isSkill_5 (by decide) ?_
    refine g_icmp_ge (tgt := 13) C dX9_isSkill_6 (by decide) (fun c6 => ?_) (fun c6 => ?_)
    · refine g_iconst (v := nI 0) C dX9_isSkill_13 (by decide) ?_
      exact g_zret C Rt dX9_isSkill_14 (by decide) (by decide) (by decide) (⟨by simp [b2i, *], rfl⟩)
    · refine g_iconst (v := nI 1) C dX9_isSkill_9 (by decide) ?_
      refine g_goto (tgt := 14) C dX9_isSkill_10 (by decide) ?_
      exact g_zret C Rt dX9_isSkill_14 (by decide) (by decide) (by decide) (⟨by simp [b2i, *], rfl⟩)

abbrev rm_c_X9_isSkill_y : Room := { frames := 0, cells := 0, slots := 0, locals := 0 }
theorem c_X9_isSkill_y (E : gE) (P : Nat) (hP : P < 5) : MM E yX9_isSkill wsX9_isSkill rm_c_X9_isSkill_y [.int (nI P)] [] (fun rv_ ru_ => rv_ = some (.int (nI 1)) ∧ ru_ = []) := by
  refine (c_X9_isSkill E (nI P)).post ?_
  rintro v u ⟨rfl, rfl⟩
  exact ⟨by rw [decide_eq_true ⟨nI_pos (by omega), nI_ge (by omega) (by omega)⟩]; rfl, rfl⟩

abbrev rm_c_X9_isTongue : Room := { frames := 0, cells := 0, slots := 0, locals := 0 }
set_option maxHeartbeats 4000000 in
set_option maxRecDepth 100000 in
theorem c_X9_isTongue (E : gE) (p : Int32)  : MM E yX9_isTongue wsX9_isTongue rm_c_X9_isTongue [.int p] [] (fun rv_ ru_ => rv_ = some (.int (b2i (decide (¬ p < 0 ∧ ¬ nI 3 ≤ p)))) ∧ ru_ = []) := by
  refine MM.ofG (cc := cX9_isTongue) (maxL := 1) (ret := (some .boolean)) (by decide) rfl (Nat.le_of_ble_eq_true rfl) (ll := [some (.int p)]) rfl ?_
  intro X C Rt
  have C : gx E X cX9_isTongue 1 wsX9_isTongue RX9 := C
  refine g_iload_n C dX9_isTongue_0 rfl ?_
  refine g_if_lt (tgt := 13) C dX9_isTongue_1 (by decide) (fun c1 => ?_) (fun c1 => ?_)
  · refine g_iconst (v := nI 0) C dX9_isTongue_13 (by decide) ?_
    exact g_zret C Rt dX9_isTongue_14 (by decide) (by decide) (by decide) (⟨by simp [b2i, *], rfl⟩)
  · refine g_iload_n C dX9_isTongue_4 rfl ?_
    refine g_iconst (v := nI 3) C dX9_isTongue_5 (by decide) ?_
    refine g_icmp_ge (tgt := 13) C dX9_isTongue_6 (by decide) (fun c6 => ?_) (fun c6 => ?_)
    · refine g_iconst (v := nI 0) C dX9_isTongue_13 (by decide) ?_
      exact g_zret C Rt dX9_isTongue_14 (by decide) (by decide) (by decide) (⟨by simp [b2i, *], rfl⟩)
    · refine g_iconst (v := nI 1) C dX9_isTongue_9 (by decide) ?_
      refine g_goto (tgt := 14) C dX9_isTongue_10 (by decide) ?_
      exact g_zret C Rt dX9_isTongue_14 (by decide) (by decide) (by decide) (⟨by simp [b2i, *], rfl⟩)

abbrev rm_c_X9_isTongue_y : Room := { frames := 0, cells := 0, slots := 0, locals := 0 }
theorem c_X9_isTongue_y (E : gE) (P : Nat) (hP : P < 3) : MM E yX9_isTongue wsX9_isTongue rm_c_X9_isTongue_y [.int (nI P)] [] (fun rv_ ru_ => rv_ = some (.int (nI 1)) ∧ ru_ = []) := by
  refine (c_X9_isTongue E (nI P)).post ?_
  rintro v u ⟨rfl, rfl⟩
  exact ⟨by rw [decide_eq_true ⟨nI_pos (by omega), nI_ge (by omega) (by omega)⟩]; rfl, rfl⟩

abbrev rm_c_X3_hasQuestion_y : Room := { frames := 0, cells := 0, slots := 0, locals := 0 }
theorem c_X3_hasQuestion_y (E : gE) (h a0 a1 a2 a3 a4 : Nat) (cnt : Nat) (ms sk pt md ri : Nat → Int32) (Q : Nat) (hQ : Q < cnt) (hcnt : cnt ≤ 10) : MM E yX3_hasQuestion wsX3_hasQuestion rm_c_X3_hasQuestion_y [.ref h, .int (nI Q)] [gO h 3 [.ref a0, .ref a1, .ref a2, .ref a3, .ref a4, .int (nI cnt)], gA E a0 10 ms, gA E a1 10 sk, gA E a2 80 pt, gA E a3 5 md, gA E a4 8 ri] (fun rv_ ru_ => rv_ = some (.int (nI 1)) ∧ ru_ = [gO h 3 [.ref a0, .ref a1, .ref a2, .ref a3, .ref a4, .int (nI cnt)], gA E a0 10 ms, gA E a1 10 sk, gA E a2 80 pt, gA E a3 5 md, gA E a4 8 ri]) := by
  refine (c_X3_hasQuestion E h a0 a1 a2 a3 a4 cnt ms sk pt md ri (nI Q)).post ?_
  rintro v u ⟨rfl, rfl⟩
  exact ⟨by rw [decide_eq_true ⟨nI_pos (by omega), nI_ge hQ (by omega)⟩]; rfl, rfl⟩

abbrev rm_c_X9_question_ok : Room := { frames := 1, cells := 0, slots := 0, locals := 22 }
set_option maxHeartbeats 4000000 in
set_option maxRecDepth 100000 in
theorem c_X9_question_ok (E : gE) (m f0 f1 f2 f3 f4 f5 f6 f7 f8 f9 f10 : Nat) (a0 a1 a2 a3 a4 : Nat) (cnt : Nat) (ms sk pt md ri : Nat → Int32) (x y : Int32) (hcnt : cnt ≤ 10) (h1 : ¬ x < nI 1) (h2 : ¬ nI 20 < x) (h3 : ¬ y < nI 1) (h4 : ¬ nI 32 ≤ y) : MM E yX9_question wsX9_question rm_c_X9_question_ok [.ref m, .int x, .int y] [gO m 9 [.ref f0, .ref f1, .ref f2, .ref f3, .ref f4, .ref f5, .ref f6, .ref f7, .ref f8, .ref f9, .ref f10], gO f0 3 [.ref a0, .ref a1, .ref a2, .ref a3, .ref a4, .int (nI cnt)], gA E a0 10 ms, gA E a1 10 sk, gA E a2 80 pt, gA E a3 5 md, gA E a4 8 ri] (fun rv_ ru_ => rv_ = some (.int (if cnt < 10 then nI cnt else -1)) ∧ ru_ = [gO m 9 [.ref f0, .ref f1, .ref f2, .ref f3, .ref f4, .ref f5, .ref f6, .ref f7, .ref f8, .ref f9, .ref f10], gO f0 3 [.ref a0, .ref a1, .ref a2, .ref a3, .ref a4, .int (nI (if cnt < 10 then cnt + 1 else cnt))], gA E a0 10 (if cnt < 10 then upd ms cnt x else ms), gA E a1 10 (if cnt < 10 then upd sk cnt y else sk), gA E a2 80 pt, gA E a3 5 md, gA E a4 8 ri]) := by
  refine MM.ofG (cc := cX9_question) (maxL := 4) (ret := (some .int)) (by decide) rfl (Nat.le_of_ble_eq_true rfl) (ll := [some (.ref m), some (.int x), some (.int y), none]) rfl ?_
  intro X C Rt
  have C : gx E X cX9_question 4 wsX9_question RX9 := C
  have i_X9 : ∀ w ∈ u_ws RX9 TX9 11, w ∈ wsX9_question := by decide +kernel
  have f_12 : Cond.fieldLink RX9 12 "MarkPages" "papers" "LMarkPages$Papers;" ∈ wsX9_question := by decide +kernel
  refine g_iload_n C dX9_question_0 rfl ?_
  refine g_iconst (v := nI 1) C dX9_question_1 (by decide) ?_
  refine g_icmp_lt (tgt := 26) C dX9_question_2 (by decide) (fun c2 => ?_) (fun c2 => ?_)
  · exact absurd c2 h1
  · refine g_iload_n C dX9_question_5 rfl ?_
    refine g_bipush (v := nI 20) C dX9_question_6 (by decide) ?_
    refine g_icmp_gt (tgt := 26) C dX9_question_8 (by decide) (fun c8 => ?_) (fun c8 => ?_)
    · exact absurd c8 h2
    · refine g_iload_n C dX9_question_11 rfl ?_
      refine g_iconst (v := nI 1) C dX9_question_12 (by decide) ?_
      refine g_icmp_lt (tgt := 26) C dX9_question_13 (by decide) (fun c13 => ?_) (fun c13 => ?_)
      · exact absurd c13 h3
      · refine g_iload_n C dX9_question_16 rfl ?_
        refine g_bipush (v := nI 32) C dX9_question_17 (by decide) ?_
        refine g_icmp_ge (tgt := 26) C dX9_question_19 (by decide) (fun c19 => ?_) (fun c19 => ?_)
        · exact absurd c19 h4
        · refine g_iconst (v := nI 1) C dX9_question_22 (by decide) ?_
          refine g_goto (tgt := 27) C dX9_question_23 (by decide) ?_
          refine g_istore_n C dX9_question_27 (by decide) rfl (ll' := [some (.ref m), some (.int x), some (.int y), some (.int (nI 1))]) rfl ?_
          refine g_iload_n C dX9_question_28 rfl ?_
          refine g_if_eq (tgt := 44) C dX9_question_29 (by decide) (fun c29 => absurd c29 (by decide)) (fun c29 => ?_)
          refine g_aload_n C dX9_question_32 rfl ?_
          refine g_get C i_X9 0 0 f_12 rfl rfl (by decide) rfl rfl dX9_question_33 ?_
          refine g_iload_n C dX9_question_36 rfl ?_
          refine g_iload_n C dX9_question_37 rfl ?_
          refine g_callV C (c_X3_addQuestion E f0 a0 a1 a2 a3 a4 cnt ms sk pt md ri x y (by omega)) gX9_question_X3_addQuestion rfl 2 (by decide +kernel) ⟨by decide, by decide⟩ ⟨by decide, by decide⟩ 1 rfl rfl [1, 2, 3, 4, 5, 6] [0] (wr := [gO m 9 [.ref f0, .ref f1, .ref f2, .ref f3, .ref f4, .ref f5, .ref f6, .ref f7, .ref f8, .ref f9, .ref f10]]) rfl (by decide) rfl (by decide) (by decide) rfl rfl (Nat.le_of_ble_eq_true rfl) dX9_question_38 ?_
          rintro _ _ ⟨rfl, rfl⟩
          show gg E _ 4 X 0 0 41 [some (.ref m), some (.int x), some (.int y), some (.int (nI 1))] [.int (if cnt < 10 then nI cnt else -1)] [gO m 9 [.ref f0, .ref f1, .ref f2, .ref f3, .ref f4, .ref f5, .ref f6, .ref f7, .ref f8, .ref f9, .ref f10], gO f0 3 [.ref a0, .ref a1, .ref a2, .ref a3, .ref a4, .int (nI (if cnt < 10 then cnt + 1 else cnt))], gA E a0 10 (if cnt < 10 then upd ms cnt x else ms), gA E a1 10 (if cnt < 10 then upd sk cnt y else sk), gA E a2 80 pt, gA E a3 5 md, gA E a4 8 ri]
          refine g_goto (tgt := 45) C dX9_question_41 (by decide) ?_
          exact g_iret C Rt dX9_question_45 (by decide) (by decide) (⟨rfl, rfl⟩)

abbrev rm_c_X9_question_bad : Room := { frames := 1, cells := 0, slots := 0, locals := 22 }
set_option maxHeartbeats 4000000 in
set_option maxRecDepth 100000 in
theorem c_X9_question_bad (E : gE) (m f0 f1 f2 f3 f4 f5 f6 f7 f8 f9 f10 : Nat) (a0 a1 a2 a3 a4 : Nat) (cnt : Nat) (ms sk pt md ri : Nat → Int32) (x y : Int32) (hb : x < nI 1 ∨ nI 20 < x ∨ y < nI 1 ∨ nI 32 ≤ y) : MM E yX9_question wsX9_question rm_c_X9_question_bad [.ref m, .int x, .int y] [gO m 9 [.ref f0, .ref f1, .ref f2, .ref f3, .ref f4, .ref f5, .ref f6, .ref f7, .ref f8, .ref f9, .ref f10], gO f0 3 [.ref a0, .ref a1, .ref a2, .ref a3, .ref a4, .int (nI cnt)], gA E a0 10 ms, gA E a1 10 sk, gA E a2 80 pt, gA E a3 5 md, gA E a4 8 ri] (fun rv_ ru_ => rv_ = some (.int (-1)) ∧ ru_ = [gO m 9 [.ref f0, .ref f1, .ref f2, .ref f3, .ref f4, .ref f5, .ref f6, .ref f7, .ref f8, .ref f9, .ref f10], gO f0 3 [.ref a0, .ref a1, .ref a2, .ref a3, .ref a4, .int (nI cnt)], gA E a0 10 ms, gA E a1 10 sk, gA E a2 80 pt, gA E a3 5 md, gA E a4 8 ri]) := by
  refine MM.ofG (cc := cX9_question) (maxL := 4) (ret := (some .int)) (by decide) rfl (Nat.le_of_ble_eq_true rfl) (ll := [some (.ref m), some (.int x), some (.int y), none]) rfl ?_
  intro X C Rt
  have C : gx E X cX9_question 4 wsX9_question RX9 := C
  refine g_iload_n C dX9_question_0 rfl ?_
  refine g_iconst (v := nI 1) C dX9_question_1 (by decide) ?_
  refine g_icmp_lt (tgt := 26) C dX9_question_2 (by decide) (fun c2 => ?_) (fun c2 => ?_)
  · refine g_iconst (v := nI 0) C dX9_question_26 (by decide) ?_
    refine g_istore_n C dX9_question_27 (by decide) rfl (ll' := [some (.ref m), some (.int x), some (.int y), some (.int (nI 0))]) rfl ?_
    refine g_iload_n C dX9_question_28 rfl ?_
    refine g_if_eq (tgt := 44) C dX9_question_29 (by decide) (fun c29 => ?_) (fun c29 => absurd c29 (by decide))
    refine g_iconst (v := -1) C dX9_question_44 (by decide) ?_
    exact g_iret C Rt dX9_question_45 (by decide) (by decide) (⟨rfl, rfl⟩)
  · refine g_iload_n C dX9_question_5 rfl ?_
    refine g_bipush (v := nI 20) C dX9_question_6 (by decide) ?_
    refine g_icmp_gt (tgt := 26) C dX9_question_8 (by decide) (fun c8 => ?_) (fun c8 => ?_)
    · refine g_iconst (v := nI 0) C dX9_question_26 (by decide) ?_
      refine g_istore_n C dX9_question_27 (by decide) rfl (ll' := [some (.ref m), some (.int x), some (.int y), some (.int (nI 0))]) rfl ?_
      refine g_iload_n C dX9_question_28 rfl ?_
      refine g_if_eq (tgt := 44) C dX9_question_29 (by decide) (fun c29 => ?_) (fun c29 => absurd c29 (by decide))
      refine g_iconst (v := -1) C dX9_question_44 (by decide) ?_
      exact g_iret C Rt dX9_question_45 (by decide) (by decide) (⟨rfl, rfl⟩)
    · refine g_iload_n C dX9_question_11 rfl ?_
      refine g_iconst (v := nI 1) C dX9_question_12 (by decide) ?_
      refine g_icmp_lt (tgt := 26) C dX9_question_13 (by decide) (fun c13 => ?_) (fun c13 => ?_)
      · refine g_iconst (v := nI 0) C dX9_question_26 (by decide) ?_
        refine g_istore_n C dX9_question_27 (by decide) rfl (ll' := [some (.ref m), some (.int x), some (.int y), some (.int (nI 0))]) rfl ?_
        refine g_iload_n C dX9_question_28 rfl ?_
        refine g_if_eq (tgt := 44) C dX9_question_29 (by decide) (fun c29 => ?_) (fun c29 => absurd c29 (by decide))
        refine g_iconst (v := -1) C dX9_question_44 (by decide) ?_
        exact g_iret C Rt dX9_question_45 (by decide) (by decide) (⟨rfl, rfl⟩)
      · refine g_iload_n C dX9_question_16 rfl ?_
        refine g_bipush (v := nI 32) C dX9_question_17 (by decide) ?_
        refine g_icmp_ge (tgt := 26) C dX9_question_19 (by decide) (fun c19 => ?_) (fun c19 => ?_)
        · refine g_iconst (v := nI 0) C dX9_question_26 (by decide) ?_
          refine g_istore_n C dX9_question_27 (by decide) rfl (ll' := [some (.ref m), some (.int x), some (.int y), some (.int (nI 0))]) rfl ?_
          refine g_iload_n C dX9_question_28 rfl ?_
          refine g_if_eq (tgt := 44) C dX9_question_29 (by decide) (fun c29 => ?_) (fun c29 => absurd c29 (by decide))
          refine g_iconst (v := -1) C dX9_question_44 (by decide) ?_
          exact g_iret C Rt dX9_question_45 (by decide) (by decide) (⟨rfl, rfl⟩)
        · exact hb.elim (fun z => absurd z c2) (fun z => z.elim (fun z => absurd z c8) (fun z => z.elim (fun z => absurd z c13) (fun z => absurd z c19)))

abbrev rm_c_X10_question_ok : Room := { frames := 1, cells := 0, slots := 0, locals := 22 }
set_option maxHeartbeats 4000000 in
set_option maxRecDepth 100000 in
theorem c_X10_question_ok (E : gE) (h : Nat) (ad : Nat → Nat) (iv : Nat → Int32) (cnt : Nat) (ms sk : Nat → Int32) (x y : Int32) (hcnt : cnt ≤ 10) (h1 : ¬ x < nI 1) (h2 : ¬ nI 20 < x) (h3 : ¬ y < nI 1) (h4 : ¬ nI 31 < y) : MM E yX10_question wsX10_question rm_c_X10_question_ok [.ref h, .int x, .int y] [gO h 10 (tF ad (upd iv 0 (nI cnt))), gA E (ad 1) 10 ms, gA E (ad 2) 10 sk] (fun rv_ ru_ => rv_ = some (.int (if cnt < 10 then nI cnt else -1)) ∧ ru_ = [gO h 10 (tF ad (upd iv 0 (nI (if cnt < 10 then cnt + 1 else cnt)))), gA E (ad 1) 10 (if cnt < 10 then upd ms cnt x else ms), gA E (ad 2) 10 (if cnt < 10 then upd sk cnt y else sk)]) := by
  refine MM.ofG (cc := cX10_question) (maxL := 3) (ret := (some .int)) (by decide) rfl (Nat.le_of_ble_eq_true rfl) (ll := [some (.ref h), some (.int x), some (.int y)]) rfl ?_
  intro X C Rt
  have C : gx E X cX10_question 3 wsX10_question RX10 := C
  have i_X10 : ∀ w ∈ u_ws RX10 TX10 40, w ∈ wsX10_question := by decide +kernel
  have f_13 : Cond.fieldLink RX10 13 "MarkPagesModel" "skills" "[I" ∈ wsX10_question := by decide +kernel
  have f_7 : Cond.fieldLink RX10 7 "MarkPagesModel" "most" "[I" ∈ wsX10_question := by decide +kernel
  have f_87 : Cond.fieldLink RX10 87 "MarkPagesModel" "questions" "I" ∈ wsX10_question := by decide +kernel
  refine g_iload_n C dX10_question_0 rfl ?_
  refine g_iconst (v := nI 1) C dX10_question_1 (by decide) ?_
  refine g_bipush (v := nI 20) C dX10_question_2 (by decide) ?_
  refine g_callS C (c_X10_isIn_y E x (nI 1) (nI 20) (h1) (h2)) gX10_question_X10_isIn rfl 3 (by decide +kernel) ⟨by decide, by decide⟩ ⟨by decide, by decide⟩ [] [0, 1, 2] (wr := [gO h 10 (tF ad (upd iv 0 (nI cnt))), gA E (ad 1) 10 ms, gA E (ad 2) 10 sk]) rfl (by decide) rfl (by decide) (by decide) rfl rfl (Nat.le_of_ble_eq_true rfl) dX10_question_4 ?_
  rintro _ _ ⟨rfl, rfl⟩
  show gg E _ 3 X 0 0 7 [some (.ref h), some (.int x), some (.int y)] [.int (nI 1)] [gO h 10 (tF ad (upd iv 0 (nI cnt))), gA E (ad 1) 10 ms, gA E (ad 2) 10 sk]
  refine g_if_eq (tgt := 29) C dX10_question_7 (by decide) (fun c7 => absurd c7 (by decide)) (fun c7 => ?_)
  refine g_iload_n C dX10_question_10 rfl ?_
  refine g_iconst (v := nI 1) C dX10_question_11 (by decide) ?_
  refine g_bipush (v := nI 31) C dX10_question_12 (by decide) ?_
  refine g_callS C (c_X10_isIn_y E y (nI 1) (nI 31) (h3) (h4)) gX10_question_X10_isIn rfl 3 (by decide +kernel) ⟨by decide, by decide⟩ ⟨by decide, by decide⟩ [] [0, 1, 2] (wr := [gO h 10 (tF ad (upd iv 0 (nI cnt))), gA E (ad 1) 10 ms, gA E (ad 2) 10 sk]) rfl (by decide) rfl (by decide) (by decide) rfl rfl (Nat.le_of_ble_eq_true rfl) dX10_question_14 ?_
  rintro _ _ ⟨rfl, rfl⟩
  show gg E _ 3 X 0 0 17 [some (.ref h), some (.int x), some (.int y)] [.int (nI 1)] [gO h 10 (tF ad (upd iv 0 (nI cnt))), gA E (ad 1) 10 ms, gA E (ad 2) 10 sk]
  refine g_if_eq (tgt := 29) C dX10_question_17 (by decide) (fun c17 => absurd c17 (by decide)) (fun c17 => ?_)
  refine g_aload_n C dX10_question_20 rfl ?_
  refine g_get C i_X10 0 0 f_87 rfl rfl (by decide) rfl rfl dX10_question_21 ?_
  refine g_bipush (v := nI 10) C dX10_question_24 (by decide) ?_
  refine g_icmp_ne_n (tgt := 31) C dX10_question_26 (by decide) (by omega) (by omega) (fun c26 => ?_) (fun c26 => ?_)
  · refine g_aload_n C dX10_question_31 rfl ?_
    refine g_get C i_X10 0 1 f_7 rfl rfl (by decide) rfl rfl dX10_question_32 ?_
    refine g_aload_n C dX10_question_35 rfl ?_
    refine g_get C i_X10 0 0 f_87 rfl rfl (by decide) rfl rfl dX10_question_36 ?_
    refine g_iload_n C dX10_question_39 rfl ?_
    refine g_iast C 1 cnt rfl rfl (by omega) (by decide) dX10_question_40 (ws' := [gO h 10 (tF ad (upd iv 0 (nI cnt))), gA E (ad 1) 10 (upd ms cnt x), gA E (ad 2) 10 sk]) rfl ?_
    refine g_aload_n C dX10_question_41 rfl ?_
    refine g_get C i_X10 0 2 f_13 rfl rfl (by decide) rfl rfl dX10_question_42 ?_
    refine g_aload_n C dX10_question_45 rfl ?_
    refine g_get C i_X10 0 0 f_87 rfl rfl (by decide) rfl rfl dX10_question_46 ?_
    refine g_iload_n C dX10_question_49 rfl ?_
    refine g_iast C 2 cnt rfl rfl (by omega) (by decide) dX10_question_50 (ws' := [gO h 10 (tF ad (upd iv 0 (nI cnt))), gA E (ad 1) 10 (upd ms cnt x), gA E (ad 2) 10 (upd sk cnt y)]) rfl ?_
    refine g_aload_n C dX10_question_51 rfl ?_
    refine g_dup C dX10_question_52 rfl ?_
    refine g_get C i_X10 0 0 f_87 rfl rfl (by decide) rfl rfl dX10_question_53 ?_
    refine g_iconst (v := nI 1) C dX10_question_56 (by decide) ?_
    refine g_iadd_n C dX10_question_57 ?_
    refine g_put C i_X10 tyX10 tyX10_ok nmX10 0 0 f_87 rfl rfl (by decide) rfl rfl rfl rfl rfl (Nat.le_of_ble_eq_true rfl) dX10_question_58 (ws' := [gO h 10 (tF ad (upd iv 0 (nI (cnt + 1)))), gA E (ad 1) 10 (upd ms cnt x), gA E (ad 2) 10 (upd sk cnt y)]) rfl ?_
    refine g_aload_n C dX10_question_61 rfl ?_
    refine g_get C i_X10 0 0 f_87 rfl rfl (by decide) rfl rfl dX10_question_62 ?_
    refine g_iconst (v := nI 1) C dX10_question_65 (by decide) ?_
    refine g_isub_n C dX10_question_66 (by omega) ?_
    exact g_iret C Rt dX10_question_67 (by decide) (by decide) (⟨by rw [if_pos (by omega), Nat.add_sub_cancel], by rw [if_pos (by omega), if_pos (by omega), if_pos (by omega)]⟩)
  · refine g_iconst (v := -1) C dX10_question_29 (by decide) ?_
    exact g_iret C Rt dX10_question_30 (by decide) (by decide) (⟨by rw [if_neg (by omega)], by rw [if_neg (by omega), if_neg (by omega), if_neg (by omega)]⟩)

abbrev rm_c_X10_question_bad : Room := { frames := 1, cells := 0, slots := 0, locals := 22 }
set_option maxHeartbeats 4000000 in
set_option maxRecDepth 100000 in
theorem c_X10_question_bad (E : gE) (h : Nat) (ad : Nat → Nat) (iv : Nat → Int32) (cnt : Nat) (ms sk : Nat → Int32) (x y : Int32) (hb : x < nI 1 ∨ nI 20 < x ∨ y < nI 1 ∨ nI 31 < y) : MM E yX10_question wsX10_question rm_c_X10_question_bad [.ref h, .int x, .int y] [gO h 10 (tF ad (upd iv 0 (nI cnt))), gA E (ad 1) 10 ms, gA E (ad 2) 10 sk] (fun rv_ ru_ => rv_ = some (.int (-1)) ∧ ru_ = [gO h 10 (tF ad (upd iv 0 (nI cnt))), gA E (ad 1) 10 ms, gA E (ad 2) 10 sk]) := by
  refine MM.ofG (cc := cX10_question) (maxL := 3) (ret := (some .int)) (by decide) rfl (Nat.le_of_ble_eq_true rfl) (ll := [some (.ref h), some (.int x), some (.int y)]) rfl ?_
  intro X C Rt
  have C : gx E X cX10_question 3 wsX10_question RX10 := C
  refine g_iload_n C dX10_question_0 rfl ?_
  refine g_iconst (v := nI 1) C dX10_question_1 (by decide) ?_
  refine g_bipush (v := nI 20) C dX10_question_2 (by decide) ?_
  refine g_callS C (c_X10_isIn E x (nI 1) (nI 20) ) gX10_question_X10_isIn rfl 3 (by decide +kernel) ⟨by decide, by decide⟩ ⟨by decide, by decide⟩ [] [0, 1, 2] (wr := [gO h 10 (tF ad (upd iv 0 (nI cnt))), gA E (ad 1) 10 ms, gA E (ad 2) 10 sk]) rfl (by decide) rfl (by decide) (by decide) rfl rfl (Nat.le_of_ble_eq_true rfl) dX10_question_4 ?_
  rintro _ _ ⟨rfl, rfl⟩
  show gg E _ 3 X 0 0 7 [some (.ref h), some (.int x), some (.int y)] [.int (b2i (decide (¬ x < (nI 1) ∧ ¬ (nI 20) < x)))] [gO h 10 (tF ad (upd iv 0 (nI cnt))), gA E (ad 1) 10 ms, gA E (ad 2) 10 sk]
  refine g_if_eq (tgt := 29) C dX10_question_7 (by decide) (fun c7 => ?_) (fun c7 => ?_)
  · refine g_iconst (v := -1) C dX10_question_29 (by decide) ?_
    exact g_iret C Rt dX10_question_30 (by decide) (by decide) (⟨rfl, rfl⟩)
  · refine g_iload_n C dX10_question_10 rfl ?_
    refine g_iconst (v := nI 1) C dX10_question_11 (by decide) ?_
    refine g_bipush (v := nI 31) C dX10_question_12 (by decide) ?_
    refine g_callS C (c_X10_isIn E y (nI 1) (nI 31) ) gX10_question_X10_isIn rfl 3 (by decide +kernel) ⟨by decide, by decide⟩ ⟨by decide, by decide⟩ [] [0, 1, 2] (wr := [gO h 10 (tF ad (upd iv 0 (nI cnt))), gA E (ad 1) 10 ms, gA E (ad 2) 10 sk]) rfl (by decide) rfl (by decide) (by decide) rfl rfl (Nat.le_of_ble_eq_true rfl) dX10_question_14 ?_
    rintro _ _ ⟨rfl, rfl⟩
    show gg E _ 3 X 0 0 17 [some (.ref h), some (.int x), some (.int y)] [.int (b2i (decide (¬ y < (nI 1) ∧ ¬ (nI 31) < y)))] [gO h 10 (tF ad (upd iv 0 (nI cnt))), gA E (ad 1) 10 ms, gA E (ad 2) 10 sk]
    refine g_if_eq (tgt := 29) C dX10_question_17 (by decide) (fun c17 => ?_) (fun c17 => ?_)
    · refine g_iconst (v := -1) C dX10_question_29 (by decide) ?_
      exact g_iret C Rt dX10_question_30 (by decide) (by decide) (⟨rfl, rfl⟩)
    · exact (have q1 := of_decide_eq_true (b2i_t.mp c7); have q2 := of_decide_eq_true (b2i_t.mp c17); hb.elim (fun z => absurd z q1.1) (fun z => z.elim (fun z => absurd z q1.2) (fun z => z.elim (fun z => absurd z q2.1) (fun z => absurd z q2.2))))

abbrev rm_c_X9_mark_ok : Room := { frames := 4, cells := 0, slots := 0, locals := 95 }
set_option maxHeartbeats 4000000 in
set_option maxRecDepth 100000 in
theorem c_X9_mark_ok (E : gE) (m f0 f1 f2 f3 f4 f5 f6 f7 f8 f9 f10 : Nat) (a0 a1 a2 a3 a4 : Nat) (cnt : Nat) (ms sk pt md ri : Nat → Int32) (P Q : Nat) (v : Int32) (hcnt : cnt ≤ 10) (hP : P < 8) (hQ : Q < cnt) (h1 : ¬ v < -1) (h2 : ¬ ms Q < v) (hms : okM ms cnt) : MM E yX9_mark wsX9_mark rm_c_X9_mark_ok [.ref m, .int (nI P), .int (nI Q), .int v] [gO m 9 [.ref f0, .ref f1, .ref f2, .ref f3, .ref f4, .ref f5, .ref f6, .ref f7, .ref f8, .ref f9, .ref f10], gO f0 3 [.ref a0, .ref a1, .ref a2, .ref a3, .ref a4, .int (nI cnt)], gA E a0 10 ms, gA E a1 10 sk, gA E a2 80 pt, gA E a3 5 md, gA E a4 8 ri] (fun rv_ ru_ => ∃ (md2 ri2 : Nat → Int32), rv_ = some (.int (nI 1)) ∧ ru_ = [gO m 9 [.ref f0, .ref f1, .ref f2, .ref f3, .ref f4, .ref f5, .ref f6, .ref f7, .ref f8, .ref f9, .ref f10], gO f0 3 [.ref a0, .ref a1, .ref a2, .ref a3, .ref a4, .int (nI cnt)], gA E a0 10 ms, gA E a1 10 sk, gA E a2 80 (upd pt (10 * P + Q) v), gA E a3 5 md2, gA E a4 8 ri2] ∧ (∀ i, i < 5 → md2 i = meV ms sk (upd pt (10 * P + Q) v) cnt i)) := by
  refine MM.ofG (cc := cX9_mark) (maxL := 4) (ret := (some .boolean)) (by decide) rfl (Nat.le_of_ble_eq_true rfl) (ll := [some (.ref m), some (.int (nI P)), some (.int (nI Q)), some (.int v)]) rfl ?_
  intro X C Rt
  have C : gx E X cX9_mark 4 wsX9_mark RX9 := C
  have i_X3 : ∀ w ∈ u_ws RX3 TX3 6, w ∈ wsX9_mark := by decide +kernel
  have i_X9 : ∀ w ∈ u_ws RX9 TX9 11, w ∈ wsX9_mark := by decide +kernel
  have f_12 : Cond.fieldLink RX9 12 "MarkPages" "papers" "LMarkPages$Papers;" ∈ wsX9_mark := by decide +kernel
  have f_90 : Cond.fieldLink RX9 90 "MarkPages$Papers" "mosts" "[I" ∈ wsX9_mark := by decide +kernel
  refine g_iload_n C dX9_mark_0 rfl ?_
  refine g_callS C (c_X9_isPupil_y E P (by omega)) gX9_mark_X9_isPupil rfl 1 (by decide +kernel) ⟨by decide, by decide⟩ ⟨by decide, by decide⟩ [] [0, 1, 2, 3, 4, 5, 6] (wr := [gO m 9 [.ref f0, .ref f1, .ref f2, .ref f3, .ref f4, .ref f5, .ref f6, .ref f7, .ref f8, .ref f9, .ref f10], gO f0 3 [.ref a0, .ref a1, .ref a2, .ref a3, .ref a4, .int (nI cnt)], gA E a0 10 ms, gA E a1 10 sk, gA E a2 80 pt, gA E a3 5 md, gA E a4 8 ri]) rfl (by decide) rfl (by decide) (by decide) rfl rfl (Nat.le_of_ble_eq_true rfl) dX9_mark_1 ?_
  rintro _ _ ⟨rfl, rfl⟩
  show gg E _ 4 X 0 0 4 [some (.ref m), some (.int (nI P)), some (.int (nI Q)), some (.int v)] [.int (nI 1)] [gO m 9 [.ref f0, .ref f1, .ref f2, .ref f3, .ref f4, .ref f5, .ref f6, .ref f7, .ref f8, .ref f9, .ref f10], gO f0 3 [.ref a0, .ref a1, .ref a2, .ref a3, .ref a4, .int (nI cnt)], gA E a0 10 ms, gA E a1 10 sk, gA E a2 80 pt, gA E a3 5 md, gA E a4 8 ri]
  refine g_if_eq (tgt := 36) C dX9_mark_4 (by decide) (fun c4 => absurd c4 (by decide)) (fun c4 => ?_)
  refine g_aload_n C dX9_mark_7 rfl ?_
  refine g_get C i_X9 0 0 f_12 rfl rfl (by decide) rfl rfl dX9_mark_8 ?_
  refine g_iload_n C dX9_mark_11 rfl ?_
  refine g_callV C (c_X3_hasQuestion_y E f0 a0 a1 a2 a3 a4 cnt ms sk pt md ri Q (by omega) (by omega)) gX9_mark_X3_hasQuestion rfl 1 (by decide +kernel) ⟨by decide, by decide⟩ ⟨by decide, by decide⟩ 1 rfl rfl [1, 2, 3, 4, 5, 6] [0] (wr := [gO m 9 [.ref f0, .ref f1, .ref f2, .ref f3, .ref f4, .ref f5, .ref f6, .ref f7, .ref f8, .ref f9, .ref f10]]) rfl (by decide) rfl (by decide) (by decide) rfl rfl (Nat.le_of_ble_eq_true rfl) dX9_mark_12 ?_
  rintro _ _ ⟨rfl, rfl⟩
  show gg E _ 4 X 0 0 15 [some (.ref m), some (.int (nI P)), some (.int (nI Q)), some (.int v)] [.int (nI 1)] [gO m 9 [.ref f0, .ref f1, .ref f2, .ref f3, .ref f4, .ref f5, .ref f6, .ref f7, .ref f8, .ref f9, .ref f10], gO f0 3 [.ref a0, .ref a1, .ref a2, .ref a3, .ref a4, .int (nI cnt)], gA E a0 10 ms, gA E a1 10 sk, gA E a2 80 pt, gA E a3 5 md, gA E a4 8 ri]
  refine g_if_eq (tgt := 36) C dX9_mark_15 (by decide) (fun c15 => absurd c15 (by decide)) (fun c15 => ?_)
  refine g_iload_n C dX9_mark_18 rfl ?_
  refine g_iconst (v := -1) C dX9_mark_19 (by decide) ?_
  refine g_icmp_lt (tgt := 36) C dX9_mark_20 (by decide) (fun c20 => ?_) (fun c20 => ?_)
  · exact absurd c20 h1
  · refine g_iload_n C dX9_mark_23 rfl ?_
    refine g_aload_n C dX9_mark_24 rfl ?_
    refine g_get C i_X9 0 0 f_12 rfl rfl (by decide) rfl rfl dX9_mark_25 ?_
    refine g_get C i_X3 1 0 f_90 rfl rfl (by decide) rfl rfl dX9_mark_28 ?_
    refine g_iload_n C dX9_mark_31 rfl ?_
    refine g_iald C 2 Q rfl rfl (by omega) (by decide) dX9_mark_32 ?_
    refine g_icmp_le (tgt := 38) C dX9_mark_33 (by decide) (fun c33 => ?_) (fun c33 => ?_)
    · refine g_aload_n C dX9_mark_38 rfl ?_
      refine g_get C i_X9 0 0 f_12 rfl rfl (by decide) rfl rfl dX9_mark_39 ?_
      refine g_iload_n C dX9_mark_42 rfl ?_
      refine g_iload_n C dX9_mark_43 rfl ?_
      refine g_iload_n C dX9_mark_44 rfl ?_
      refine g_callV C (c_X3_setPoints E f0 a0 a1 a2 a3 a4 cnt ms sk pt md ri P Q v (by omega) (by omega) (by omega) (hms)) gX9_mark_X3_setPoints rfl 3 (by decide +kernel) ⟨by decide, by decide⟩ ⟨by decide, by decide⟩ 1 rfl rfl [1, 2, 3, 4, 5, 6] [0] (wr := [gO m 9 [.ref f0, .ref f1, .ref f2, .ref f3, .ref f4, .ref f5, .ref f6, .ref f7, .ref f8, .ref f9, .ref f10]]) rfl (by decide) rfl (by decide) (by decide) rfl rfl (Nat.le_of_ble_eq_true rfl) dX9_mark_45 ?_
      rintro _ _ ⟨md2_45, ri2_45, rfl, rfl, hm_45⟩
      show gg E _ 4 X 0 0 48 [some (.ref m), some (.int (nI P)), some (.int (nI Q)), some (.int v)] [] [gO m 9 [.ref f0, .ref f1, .ref f2, .ref f3, .ref f4, .ref f5, .ref f6, .ref f7, .ref f8, .ref f9, .ref f10], gO f0 3 [.ref a0, .ref a1, .ref a2, .ref a3, .ref a4, .int (nI cnt)], gA E a0 10 ms, gA E a1 10 sk, gA E a2 80 (upd pt (10 * P + Q) v), gA E a3 5 md2_45, gA E a4 8 ri2_45]
      refine g_iconst (v := nI 1) C dX9_mark_48 (by decide) ?_
      exact g_zret C Rt dX9_mark_49 (by decide) (by decide) (by decide) (⟨_, _, rfl, rfl, hm_45⟩)
    · exact absurd (Int32.not_lt.mp h2) c33

abbrev rm_c_X10_mark_ok : Room := { frames := 2, cells := 0, slots := 0, locals := 43 }
set_option maxHeartbeats 4000000 in
set_option maxRecDepth 100000 in
theorem c_X10_mark_ok (E : gE) (h : Nat) (ad : Nat → Nat) (iv : Nat → Int32) (cnt : Nat) (ms pt : Nat → Int32) (P Q : Nat) (v : Int32) (hcnt : cnt ≤ 10) (hP : P < 8) (hQ : Q < cnt) (h1 : ¬ v < -1) (h2 : ¬ ms Q < v) : MM E yX10_mark wsX10_mark rm_c_X10_mark_ok [.ref h, .int (nI P), .int (nI Q), .int v] [gO h 10 (tF ad (upd iv 0 (nI cnt))), gA E (ad 1) 10 ms, gA E (ad 3) 80 pt] (fun rv_ ru_ => rv_ = some (.int (nI 1)) ∧ ru_ = [gO h 10 (tF ad (upd iv 0 (nI cnt))), gA E (ad 1) 10 ms, gA E (ad 3) 80 (upd pt (10 * P + Q) v)]) := by
  refine MM.ofG (cc := cX10_mark) (maxL := 4) (ret := (some .boolean)) (by decide) rfl (Nat.le_of_ble_eq_true rfl) (ll := [some (.ref h), some (.int (nI P)), some (.int (nI Q)), some (.int v)]) rfl ?_
  intro X C Rt
  have C : gx E X cX10_mark 4 wsX10_mark RX10 := C
  have i_X10 : ∀ w ∈ u_ws RX10 TX10 40, w ∈ wsX10_mark := by decide +kernel
  have f_16 : Cond.fieldLink RX10 16 "MarkPagesModel" "points" "[I" ∈ wsX10_mark := by decide +kernel
  have f_7 : Cond.fieldLink RX10 7 "MarkPagesModel" "most" "[I" ∈ wsX10_mark := by decide +kernel
  refine g_iload_n C dX10_mark_0 rfl ?_
  refine g_callS C (c_X10_isPupil_y E P (by omega)) gX10_mark_X10_isPupil rfl 1 (by decide +kernel) ⟨by decide, by decide⟩ ⟨by decide, by decide⟩ [] [0, 1, 2] (wr := [gO h 10 (tF ad (upd iv 0 (nI cnt))), gA E (ad 1) 10 ms, gA E (ad 3) 80 pt]) rfl (by decide) rfl (by decide) (by decide) rfl rfl (Nat.le_of_ble_eq_true rfl) dX10_mark_1 ?_
  rintro _ _ ⟨rfl, rfl⟩
  show gg E _ 4 X 0 0 4 [some (.ref h), some (.int (nI P)), some (.int (nI Q)), some (.int v)] [.int (nI 1)] [gO h 10 (tF ad (upd iv 0 (nI cnt))), gA E (ad 1) 10 ms, gA E (ad 3) 80 pt]
  refine g_if_eq (tgt := 29) C dX10_mark_4 (by decide) (fun c4 => absurd c4 (by decide)) (fun c4 => ?_)
  refine g_aload_n C dX10_mark_7 rfl ?_
  refine g_iload_n C dX10_mark_8 rfl ?_
  refine g_callV C (c_X10_isQuestion_y E h ad iv cnt Q (by omega) (by omega)) gX10_mark_X10_isQuestion rfl 1 (by decide +kernel) ⟨by decide, by decide⟩ ⟨by decide, by decide⟩ 0 rfl rfl [0] [1, 2] (wr := [gA E (ad 1) 10 ms, gA E (ad 3) 80 pt]) rfl (by decide) rfl (by decide) (by decide) rfl rfl (Nat.le_of_ble_eq_true rfl) dX10_mark_9 ?_
  rintro _ _ ⟨rfl, rfl⟩
  refine gg.perm (ws' := [gO h 10 (tF ad (upd iv 0 (nI cnt))), gA E (ad 1) 10 ms, gA E (ad 3) 80 pt]) [2, 0, 1] (by decide) rfl ?_
  show gg E _ 4 X 0 0 12 [some (.ref h), some (.int (nI P)), some (.int (nI Q)), some (.int v)] [.int (nI 1)] [gO h 10 (tF ad (upd iv 0 (nI cnt))), gA E (ad 1) 10 ms, gA E (ad 3) 80 pt]
  refine g_if_eq (tgt := 29) C dX10_mark_12 (by decide) (fun c12 => absurd c12 (by decide)) (fun c12 => ?_)
  refine g_iload_n C dX10_mark_15 rfl ?_
  refine g_iconst (v := -1) C dX10_mark_16 (by decide) ?_
  refine g_aload_n C dX10_mark_17 rfl ?_
  refine g_get C i_X10 0 1 f_7 rfl rfl (by decide) rfl rfl dX10_mark_18 ?_
  refine g_iload_n C dX10_mark_21 rfl ?_
  refine g_iald C 1 Q rfl rfl (by omega) (by decide) dX10_mark_22 ?_
  refine g_callS C (c_X10_isIn_y E v (-1) (ms Q) (h1) (h2)) gX10_mark_X10_isIn rfl 3 (by decide +kernel) ⟨by decide, by decide⟩ ⟨by decide, by decide⟩ [] [0, 1, 2] (wr := [gO h 10 (tF ad (upd iv 0 (nI cnt))), gA E (ad 1) 10 ms, gA E (ad 3) 80 pt]) rfl (by decide) rfl (by decide) (by decide) rfl rfl (Nat.le_of_ble_eq_true rfl) dX10_mark_23 ?_
  rintro _ _ ⟨rfl, rfl⟩
  show gg E _ 4 X 0 0 26 [some (.ref h), some (.int (nI P)), some (.int (nI Q)), some (.int v)] [.int (nI 1)] [gO h 10 (tF ad (upd iv 0 (nI cnt))), gA E (ad 1) 10 ms, gA E (ad 3) 80 pt]
  refine g_if_ne (tgt := 31) C dX10_mark_26 (by decide) (fun c26 => ?_) (fun c26 => absurd c26 (by decide))
  refine g_aload_n C dX10_mark_31 rfl ?_
  refine g_get C i_X10 0 3 f_16 rfl rfl (by decide) rfl rfl dX10_mark_32 ?_
  refine g_bipush (v := nI 10) C dX10_mark_35 (by decide) ?_
  refine g_iload_n C dX10_mark_37 rfl ?_
  refine g_imul_n C dX10_mark_38 ?_
  refine g_iload_n C dX10_mark_39 rfl ?_
  refine g_iadd_n C dX10_mark_40 ?_
  refine g_iload_n C dX10_mark_41 rfl ?_
  refine g_iast C 2 ((10 * P) + Q) rfl rfl (by omega) (by decide) dX10_mark_42 (ws' := [gO h 10 (tF ad (upd iv 0 (nI cnt))), gA E (ad 1) 10 ms, gA E (ad 3) 80 (upd pt ((10 * P) + Q) v)]) rfl ?_
  refine g_iconst (v := nI 1) C dX10_mark_43 (by decide) ?_
  exact g_zret C Rt dX10_mark_44 (by decide) (by decide) (by decide) (⟨rfl, rfl⟩)

