/-! WRITING: Out.putNumber, rowOf, writeName, writeLine, write; the reference: puts, writes, write -/

abbrev rm_c_X1_put_l : Room := { frames := 0, cells := 0, slots := 0, locals := 0 }
theorem c_X1_put_l (E : gE) (h b : Nat) (o : Nat → Int32) (W : List Int32) (x : Int32) (hn : W.length < 2412) (ho : oR W o) : MM E yX1_put wsX1_put rm_c_X1_put_l [.ref h, .int x] [gO h 1 [.ref b, .int (nI ((W).length))], gA E b 2412 o] (fun rv_ ru_ => ∃ (o2 : Nat → Int32), rv_ = none ∧ ru_ = [gO h 1 [.ref b, .int (nI ((W ++ [x]).length))], gA E b 2412 o2] ∧ (oR (W ++ [x]) o2)) := by
  refine (c_X1_put E h b W.length o x hn).post ?_
  rintro v u ⟨rfl, rfl⟩
  exact ⟨_, rfl, by rw [len1 W x], ho.put x⟩

abbrev rm_c_X1_putNumber : Room := { frames := 1, cells := 0, slots := 0, locals := 21 }
set_option maxHeartbeats 4000000 in
set_option maxRecDepth 100000 in
theorem c_X1_putNumber (E : gE) (h b : Nat) (o : Nat → Int32) (W : List Int32) (v : Int32) (hn : W.length + 3 ≤ 2412) (ho : oR W o) : MM E yX1_putNumber wsX1_putNumber rm_c_X1_putNumber [.ref h, .int v] [gO h 1 [.ref b, .int (nI ((W).length))], gA E b 2412 o] (fun rv_ ru_ => ∃ (o2 : Nat → Int32), rv_ = none ∧ ru_ = [gO h 1 [.ref b, .int (nI ((W ++ (wD1 v ++ wD2 v ++ [wD3 v])).length))], gA E b 2412 o2] ∧ (oR (W ++ (wD1 v ++ wD2 v ++ [wD3 v])) o2)) := by
  refine MM.ofG (cc := cX1_putNumber) (maxL := 2) (ret := none) (by decide) rfl (Nat.le_of_ble_eq_true rfl) (ll := [some (.ref h), some (.int v)]) rfl ?_
  intro X C Rt
  have C : gx E X cX1_putNumber 2 wsX1_putNumber RX1 := C
  refine g_iload_n C dX1_putNumber_0 rfl ?_
  refine g_bipush (v := nI 100) C dX1_putNumber_1 (by decide) ?_
  refine g_icmp_lt (tgt := 17) C dX1_putNumber_3 (by decide) (fun c3 => ?_) (fun c3 => ?_)
  · have e1 : W = W ++ wD1 v := by rw [wD1, if_pos c3, List.append_nil]
    have ho1 : oR (W ++ wD1 v) o := by rw [← e1]; exact ho
    rw [show W.length = (W ++ wD1 v).length from congrArg List.length e1]
    refine g_iload_n C dX1_putNumber_17 rfl ?_
    refine g_bipush (v := nI 10) C dX1_putNumber_18 (by decide) ?_
    refine g_icmp_lt (tgt := 37) C dX1_putNumber_20 (by decide) (fun c20 => ?_) (fun c20 => ?_)
    · have e2 : W ++ wD1 v = W ++ wD1 v ++ wD2 v := by rw [wD2, if_pos c20, List.append_nil]
      have ho2 : oR (W ++ wD1 v ++ wD2 v) o := by rw [← e2]; exact ho1
      rw [show (W ++ wD1 v).length = (W ++ wD1 v ++ wD2 v).length from congrArg List.length e2]
      refine g_aload_n C dX1_putNumber_37 rfl ?_
      refine g_bipush (v := nI 48) C dX1_putNumber_38 (by decide) ?_
      refine g_iload_n C dX1_putNumber_40 rfl ?_
      refine g_bipush (v := nI 10) C dX1_putNumber_41 (by decide) ?_
      refine g_irem C dX1_putNumber_43 (by decide) ?_
      refine g_iadd C dX1_putNumber_44 ?_
      refine g_callV C (c_X1_put_l E h b o (W ++ wD1 v ++ wD2 v) ((nI 48) + (v - v / (nI 10) * (nI 10))) (by have := wD1_len v; have := wD2_len v; simp only [List.length_append] at *; omega) (ho2)) gX1_putNumber_X1_put rfl 1 (by decide +kernel) ⟨by decide, by decide⟩ ⟨by decide, by decide⟩ 0 rfl rfl [0, 1] [] (wr := []) rfl (by decide) rfl (by decide) (by decide) rfl rfl (Nat.le_of_ble_eq_true rfl) dX1_putNumber_45 ?_
      rintro _ _ ⟨o2_45, rfl, rfl, ho2_45⟩
      show gg E _ 2 X 0 0 48 [some (.ref h), some (.int v)] [] [gO h 1 [.ref b, .int (nI (((W ++ wD1 v ++ wD2 v) ++ [((nI 48) + (v - v / (nI 10) * (nI 10)))]).length))], gA E b 2412 o2_45]
      exact g_vret C Rt dX1_putNumber_48 (by decide) (by decide) (⟨_, rfl, by rw [List.append_assoc, List.append_assoc, List.append_assoc]; rfl, by rw [show W ++ (wD1 v ++ wD2 v ++ [wD3 v]) = W ++ wD1 v ++ wD2 v ++ [wD3 v] by simp only [List.append_assoc]]; exact ho2_45⟩)
    · refine g_aload_n C dX1_putNumber_23 rfl ?_
      refine g_bipush (v := nI 48) C dX1_putNumber_24 (by decide) ?_
      refine g_iload_n C dX1_putNumber_26 rfl ?_
      refine g_bipush (v := nI 10) C dX1_putNumber_27 (by decide) ?_
      refine g_idiv C dX1_putNumber_29 (by decide) ?_
      refine g_bipush (v := nI 10) C dX1_putNumber_30 (by decide) ?_
      refine g_irem C dX1_putNumber_32 (by decide) ?_
      refine g_iadd C dX1_putNumber_33 ?_
      refine g_callV C (c_X1_put_l E h b o (W ++ wD1 v) ((nI 48) + ((v / (nI 10)) - (v / (nI 10)) / (nI 10) * (nI 10))) (by have := wD1_len v; have := wD2_len v; simp only [List.length_append] at *; omega) (ho1)) gX1_putNumber_X1_put rfl 1 (by decide +kernel) ⟨by decide, by decide⟩ ⟨by decide, by decide⟩ 0 rfl rfl [0, 1] [] (wr := []) rfl (by decide) rfl (by decide) (by decide) rfl rfl (Nat.le_of_ble_eq_true rfl) dX1_putNumber_34 ?_
      rintro _ _ ⟨o2_34, rfl, rfl, ho2_34⟩
      show gg E _ 2 X 0 0 37 [some (.ref h), some (.int v)] [] [gO h 1 [.ref b, .int (nI (((W ++ wD1 v) ++ [((nI 48) + ((v / (nI 10)) - (v / (nI 10)) / (nI 10) * (nI 10)))]).length))], gA E b 2412 o2_34]
      have e2 : W ++ wD1 v ++ [nI 48 + (v / nI 10 - v / nI 10 / nI 10 * nI 10)] = W ++ wD1 v ++ wD2 v := by rw [wD2, if_neg c20]
      have ho2 : oR (W ++ wD1 v ++ wD2 v) o2_34 := by rw [← e2]; exact ho2_34
      rw [e2]
      refine g_aload_n C dX1_putNumber_37 rfl ?_
      refine g_bipush (v := nI 48) C dX1_putNumber_38 (by decide) ?_
      refine g_iload_n C dX1_putNumber_40 rfl ?_
      refine g_bipush (v := nI 10) C dX1_putNumber_41 (by decide) ?_
      refine g_irem C dX1_putNumber_43 (by decide) ?_
      refine g_iadd C dX1_putNumber_44 ?_
      refine g_callV C (c_X1_put_l E h b o2_34 (W ++ wD1 v ++ wD2 v) ((nI 48) + (v - v / (nI 10) * (nI 10))) (by have := wD1_len v; have := wD2_len v; simp only [List.length_append] at *; omega) (ho2)) gX1_putNumber_X1_put rfl 1 (by decide +kernel) ⟨by decide, by decide⟩ ⟨by decide, by decide⟩ 0 rfl rfl [0, 1] [] (wr := []) rfl (by decide) rfl (by decide) (by decide) rfl rfl (Nat.le_of_ble_eq_true rfl) dX1_putNumber_45 ?_
      rintro _ _ ⟨o2_45, rfl, rfl, ho2_45⟩
      show gg E _ 2 X 0 0 48 [some (.ref h), some (.int v)] [] [gO h 1 [.ref b, .int (nI (((W ++ wD1 v ++ wD2 v) ++ [((nI 48) + (v - v / (nI 10) * (nI 10)))]).length))], gA E b 2412 o2_45]
      exact g_vret C Rt dX1_putNumber_48 (by decide) (by decide) (⟨_, rfl, by rw [List.append_assoc, List.append_assoc, List.append_assoc]; rfl, by rw [show W ++ (wD1 v ++ wD2 v ++ [wD3 v]) = W ++ wD1 v ++ wD2 v ++ [wD3 v] by simp only [List.append_assoc]]; exact ho2_45⟩)
  · refine g_aload_n C dX1_putNumber_6 rfl ?_
    refine g_bipush (v := nI 48) C dX1_putNumber_7 (by decide) ?_
    refine g_iload_n C dX1_putNumber_9 rfl ?_
    refine g_bipush (v := nI 100) C dX1_putNumber_10 (by decide) ?_
    refine g_idiv C dX1_putNumber_12 (by decide) ?_
    refine g_iadd C dX1_putNumber_13 ?_
    refine g_callV C (c_X1_put_l E h b o W ((nI 48) + (v / (nI 100))) (by omega) (ho)) gX1_putNumber_X1_put rfl 1 (by decide +kernel) ⟨by decide, by decide⟩ ⟨by decide, by decide⟩ 0 rfl rfl [0, 1] [] (wr := []) rfl (by decide) rfl (by decide) (by decide) rfl rfl (Nat.le_of_ble_eq_true rfl) dX1_putNumber_14 ?_
    rintro _ _ ⟨o2_14, rfl, rfl, ho2_14⟩
    show gg E _ 2 X 0 0 17 [some (.ref h), some (.int v)] [] [gO h 1 [.ref b, .int (nI ((W ++ [((nI 48) + (v / (nI 100)))]).length))], gA E b 2412 o2_14]
    have e1 : W ++ [nI 48 + v / nI 100] = W ++ wD1 v := by rw [wD1, if_neg c3]
    have ho1 : oR (W ++ wD1 v) o2_14 := by rw [← e1]; exact ho2_14
    rw [e1]
    refine g_iload_n C dX1_putNumber_17 rfl ?_
    refine g_bipush (v := nI 10) C dX1_putNumber_18 (by decide) ?_
    refine g_icmp_lt (tgt := 37) C dX1_putNumber_20 (by decide) (fun c20 => ?_) (fun c20 => ?_)
    · have e2 : W ++ wD1 v = W ++ wD1 v ++ wD2 v := by rw [wD2, if_pos c20, List.append_nil]
      have ho2 : oR (W ++ wD1 v ++ wD2 v) o2_14 := by rw [← e2]; exact ho1
      rw [show (W ++ wD1 v).length = (W ++ wD1 v ++ wD2 v).length from congrArg List.length e2]
      refine g_aload_n C dX1_putNumber_37 rfl ?_
      refine g_bipush (v := nI 48) C dX1_putNumber_38 (by decide) ?_
      refine g_iload_n C dX1_putNumber_40 rfl ?_
      refine g_bipush (v := nI 10) C dX1_putNumber_41 (by decide) ?_
      refine g_irem C dX1_putNumber_43 (by decide) ?_
      refine g_iadd C dX1_putNumber_44 ?_
      refine g_callV C (c_X1_put_l E h b o2_14 (W ++ wD1 v ++ wD2 v) ((nI 48) + (v - v / (nI 10) * (nI 10))) (by have := wD1_len v; have := wD2_len v; simp only [List.length_append] at *; omega) (ho2)) gX1_putNumber_X1_put rfl 1 (by decide +kernel) ⟨by decide, by decide⟩ ⟨by decide, by decide⟩ 0 rfl rfl [0, 1] [] (wr := []) rfl (by decide) rfl (by decide) (by decide) rfl rfl (Nat.le_of_ble_eq_true rfl) dX1_putNumber_45 ?_
      rintro _ _ ⟨o2_45, rfl, rfl, ho2_45⟩
      show gg E _ 2 X 0 0 48 [some (.ref h), some (.int v)] [] [gO h 1 [.ref b, .int (nI (((W ++ wD1 v ++ wD2 v) ++ [((nI 48) + (v - v / (nI 10) * (nI 10)))]).length))], gA E b 2412 o2_45]
      exact g_vret C Rt dX1_putNumber_48 (by decide) (by decide) (⟨_, rfl, by rw [List.append_assoc, List.append_assoc, List.append_assoc]; rfl, by rw [show W ++ (wD1 v ++ wD2 v ++ [wD3 v]) = W ++ wD1 v ++ wD2 v ++ [wD3 v] by simp only [List.append_assoc]]; exact ho2_45⟩)
    · refine g_aload_n C dX1_putNumber_23 rfl ?_
      refine g_bipush (v := nI 48) C dX1_putNumber_24 (by decide) ?_
      refine g_iload_n C dX1_putNumber_26 rfl ?_
      refine g_bipush (v := nI 10) C dX1_putNumber_27 (by decide) ?_
      refine g_idiv C dX1_putNumber_29 (by decide) ?_
      refine g_bipush (v := nI 10) C dX1_putNumber_30 (by decide) ?_
      refine g_irem C dX1_putNumber_32 (by decide) ?_
      refine g_iadd C dX1_putNumber_33 ?_
      refine g_callV C (c_X1_put_l E h b o2_14 (W ++ wD1 v) ((nI 48) + ((v / (nI 10)) - (v / (nI 10)) / (nI 10) * (nI 10))) (by have := wD1_len v; have := wD2_len v; simp only [List.length_append] at *; omega) (ho1)) gX1_putNumber_X1_put rfl 1 (by decide +kernel) ⟨by decide, by decide⟩ ⟨by decide, by decide⟩ 0 rfl rfl [0, 1] [] (wr := []) rfl (by decide) rfl (by decide) (by decide) rfl rfl (Nat.le_of_ble_eq_true rfl) dX1_putNumber_34 ?_
      rintro _ _ ⟨o2_34, rfl, rfl, ho2_34⟩
      show gg E _ 2 X 0 0 37 [some (.ref h), some (.int v)] [] [gO h 1 [.ref b, .int (nI (((W ++ wD1 v) ++ [((nI 48) + ((v / (nI 10)) - (v / (nI 10)) / (nI 10) * (nI 10)))]).length))], gA E b 2412 o2_34]
      have e2 : W ++ wD1 v ++ [nI 48 + (v / nI 10 - v / nI 10 / nI 10 * nI 10)] = W ++ wD1 v ++ wD2 v := by rw [wD2, if_neg c20]
      have ho2 : oR (W ++ wD1 v ++ wD2 v) o2_34 := by rw [← e2]; exact ho2_34
      rw [e2]
      refine g_aload_n C dX1_putNumber_37 rfl ?_
      refine g_bipush (v := nI 48) C dX1_putNumber_38 (by decide) ?_
      refine g_iload_n C dX1_putNumber_40 rfl ?_
      refine g_bipush (v := nI 10) C dX1_putNumber_41 (by decide) ?_
      refine g_irem C dX1_putNumber_43 (by decide) ?_
      refine g_iadd C dX1_putNumber_44 ?_
      refine g_callV C (c_X1_put_l E h b o2_34 (W ++ wD1 v ++ wD2 v) ((nI 48) + (v - v / (nI 10) * (nI 10))) (by have := wD1_len v; have := wD2_len v; simp only [List.length_append] at *; omega) (ho2)) gX1_putNumber_X1_put rfl 1 (by decide +kernel) ⟨by decide, by decide⟩ ⟨by decide, by decide⟩ 0 rfl rfl [0, 1] [] (wr := []) rfl (by decide) rfl (by decide) (by decide) rfl rfl (Nat.le_of_ble_eq_true rfl) dX1_putNumber_45 ?_
      rintro _ _ ⟨o2_45, rfl, rfl, ho2_45⟩
      show gg E _ 2 X 0 0 48 [some (.ref h), some (.int v)] [] [gO h 1 [.ref b, .int (nI (((W ++ wD1 v ++ wD2 v) ++ [((nI 48) + (v - v / (nI 10) * (nI 10)))]).length))], gA E b 2412 o2_45]
      exact g_vret C Rt dX1_putNumber_48 (by decide) (by decide) (⟨_, rfl, by rw [List.append_assoc, List.append_assoc, List.append_assoc]; rfl, by rw [show W ++ (wD1 v ++ wD2 v ++ [wD3 v]) = W ++ wD1 v ++ wD2 v ++ [wD3 v] by simp only [List.append_assoc]]; exact ho2_45⟩)

abbrev rm_c_X9_rowOf : Room := { frames := 0, cells := 0, slots := 0, locals := 0 }
set_option maxHeartbeats 4000000 in
set_option maxRecDepth 100000 in
theorem c_X9_rowOf (E : gE) (a b : Nat)  : MM E yX9_rowOf wsX9_rowOf rm_c_X9_rowOf [.int (nI a), .int (nI b)] [] (fun rv_ ru_ => rv_ = some (.int (nI (3 * a + b))) ∧ ru_ = []) := by
  refine MM.ofG (cc := cX9_rowOf) (maxL := 2) (ret := (some .int)) (by decide) rfl (Nat.le_of_ble_eq_true rfl) (ll := [some (.int (nI a)), some (.int (nI b))]) rfl ?_
  intro X C Rt
  have C : gx E X cX9_rowOf 2 wsX9_rowOf RX9 := C
  refine g_iload_n C dX9_rowOf_0 rfl ?_
  refine g_iconst (v := nI 3) C dX9_rowOf_1 (by decide) ?_
  refine g_imul_n C dX9_rowOf_2 ?_
  refine g_iload_n C dX9_rowOf_3 rfl ?_
  refine g_iadd_n C dX9_rowOf_4 ?_
  exact g_iret C Rt dX9_rowOf_5 (by decide) (by decide) (⟨by rw [Nat.mul_comm], rfl⟩)

abbrev rm_c_X9_writeName : Room := { frames := 1, cells := 0, slots := 0, locals := 22 }
set_option maxHeartbeats 4000000 in
set_option maxRecDepth 100000 in
theorem c_X9_writeName (E : gE) (m f0 f1 f2 f3 f4 f5 f6 f7 f8 f9 f10 : Nat) (e0 e1 ob : Nat) (nl nb o : Nat → Int32) (nml : Nat → Nat) (W : List Int32) (r : Nat) (hr : r < 15) (hnl : okT nl 15 10 nml) (hn : W.length + 10 ≤ 2412) (ho : oR W o) : MM E yX9_writeName wsX9_writeName rm_c_X9_writeName [.ref m, .int (nI r)] [gO m 9 [.ref f0, .ref f1, .ref f2, .ref f3, .ref f4, .ref f5, .ref f6, .ref f7, .ref f8, .ref f9, .ref f10], gO f5 7 [.int (nI 10), .ref e0, .ref e1], gA E e0 15 nl, gA E e1 150 nb, gO f9 1 [.ref ob, .int (nI ((W).length))], gA E ob 2412 o] (fun rv_ ru_ => ∃ (o2 : Nat → Int32), rv_ = none ∧ ru_ = [gO m 9 [.ref f0, .ref f1, .ref f2, .ref f3, .ref f4, .ref f5, .ref f6, .ref f7, .ref f8, .ref f9, .ref f10], gO f5 7 [.int (nI 10), .ref e0, .ref e1], gA E e0 15 nl, gA E e1 150 nb, gO f9 1 [.ref ob, .int (nI ((W ++ wN nb (10 * r) (nml r)).length))], gA E ob 2412 o2] ∧ (oR (W ++ wN nb (10 * r) (nml r)) o2)) := by
  refine MM.ofG (cc := cX9_writeName) (maxL := 3) (ret := none) (by decide) rfl (Nat.le_of_ble_eq_true rfl) (ll := [some (.ref m), some (.int (nI r)), none]) rfl ?_
  intro X C Rt
  have C : gx E X cX9_writeName 3 wsX9_writeName RX9 := C
  have i_X7 : ∀ w ∈ u_ws RX7 TX7 3, w ∈ wsX9_writeName := by decide +kernel
  have i_X9 : ∀ w ∈ u_ws RX9 TX9 11, w ∈ wsX9_writeName := by decide +kernel
  have f_223 : Cond.fieldLink RX9 223 "MarkPages$Texts" "lengths" "[I" ∈ wsX9_writeName := by decide +kernel
  have f_46 : Cond.fieldLink RX9 46 "MarkPages" "names" "LMarkPages$Texts;" ∈ wsX9_writeName := by decide +kernel
  have f_67 : Cond.fieldLink RX9 67 "MarkPages" "written" "LMarkPages$Out;" ∈ wsX9_writeName := by decide +kernel
  have hq := hnl r hr
  rw [show W.length = (W ++ wN nb (10 * r) 0).length by rw [wN, List.append_nil]]
  refine g_iconst (v := nI 0) C dX9_writeName_0 (by decide) ?_
  refine g_istore_n C dX9_writeName_1 (by decide) rfl (ll' := [some (.ref m), some (.int (nI r)), some (.int (nI 0))]) rfl ?_
  have L2 : ∀ (n2 : Nat) (j : Nat) (o1 : Nat → Int32), nml r - j < n2 → (j ≤ nml r) → (oR (W ++ wN nb (10 * r) j) o1) → gg E rm_c_X9_writeName 3 X 0 0 2 [some (.ref m), some (.int (nI r)), some (.int (nI j))] [] [gO m 9 [.ref f0, .ref f1, .ref f2, .ref f3, .ref f4, .ref f5, .ref f6, .ref f7, .ref f8, .ref f9, .ref f10], gO f5 7 [.int (nI 10), .ref e0, .ref e1], gA E e0 15 nl, gA E e1 150 nb, gO f9 1 [.ref ob, .int (nI ((W ++ wN nb (10 * r) j).length))], gA E ob 2412 o1] := by
    intro n2
    induction n2 with
    | zero => intro j o1 hm2; exact absurd hm2 (Nat.not_lt_zero _)
    | succ n2 ih2 =>
      intro j o1 hm2 hj ho1
      refine g_iload_n C dX9_writeName_2 rfl ?_
      refine g_aload_n C dX9_writeName_3 rfl ?_
      refine g_get C i_X9 0 5 f_46 rfl rfl (by decide) rfl rfl dX9_writeName_4 ?_
      refine g_get C i_X7 1 1 f_223 rfl rfl (by decide) rfl rfl dX9_writeName_7 ?_
      refine g_iload_n C dX9_writeName_10 rfl ?_
      refine g_iald C 2 r rfl rfl (by omega) (by decide) dX9_writeName_11 ?_
      refine g_top (hq.1) ?_
      refine g_icmp_ge_n (tgt := 37) C dX9_writeName_12 (by decide) (by omega) (by omega) (fun c12 => ?_) (fun c12 => ?_)
      · have ej : j = nml r := by omega
        rw [ej]
        exact g_vret C Rt dX9_writeName_37 (by decide) (by decide) (⟨_, rfl, rfl, by rw [← ej]; exact ho1⟩)
      · refine g_aload_n C dX9_writeName_15 rfl ?_
        refine g_get C i_X9 0 9 f_67 rfl rfl (by decide) rfl rfl dX9_writeName_16 ?_
        refine g_aload_n C dX9_writeName_19 rfl ?_
        refine g_get C i_X9 0 5 f_46 rfl rfl (by decide) rfl rfl dX9_writeName_20 ?_
        refine g_iload_n C dX9_writeName_23 rfl ?_
        refine g_iload_n C dX9_writeName_24 rfl ?_
        refine g_callV C (c_X7_byteAt E f5 e0 e1 10 15 150 nl nb r j (by omega) (by omega)) gX9_writeName_X7_byteAt rfl 2 (by decide +kernel) ⟨by decide, by decide⟩ ⟨by decide, by decide⟩ 1 rfl rfl [1, 2, 3] [0, 4, 5] (wr := [gO m 9 [.ref f0, .ref f1, .ref f2, .ref f3, .ref f4, .ref f5, .ref f6, .ref f7, .ref f8, .ref f9, .ref f10], gO f9 1 [.ref ob, .int (nI ((W ++ wN nb (10 * r) j).length))], gA E ob 2412 o1]) rfl (by decide) rfl (by decide) (by decide) rfl rfl (Nat.le_of_ble_eq_true rfl) dX9_writeName_25 ?_
        rintro _ _ ⟨rfl, rfl⟩
        refine gg.perm (ws' := [gO m 9 [.ref f0, .ref f1, .ref f2, .ref f3, .ref f4, .ref f5, .ref f6, .ref f7, .ref f8, .ref f9, .ref f10], gO f5 7 [.int (nI 10), .ref e0, .ref e1], gA E e0 15 nl, gA E e1 150 nb, gO f9 1 [.ref ob, .int (nI ((W ++ wN nb (10 * r) j).length))], gA E ob 2412 o1]) [0, 3, 4, 5, 1, 2] (by decide) rfl ?_
        show gg E _ 3 X 0 0 28 [some (.ref m), some (.int (nI r)), some (.int (nI j))] [.int (nb (r * 10 + j)), .ref f9] [gO m 9 [.ref f0, .ref f1, .ref f2, .ref f3, .ref f4, .ref f5, .ref f6, .ref f7, .ref f8, .ref f9, .ref f10], gO f5 7 [.int (nI 10), .ref e0, .ref e1], gA E e0 15 nl, gA E e1 150 nb, gO f9 1 [.ref ob, .int (nI ((W ++ wN nb (10 * r) j).length))], gA E ob 2412 o1]
        refine g_top (x' := nb (10 * r + j)) (by rw [Nat.mul_comm r 10]) ?_
        refine g_callV C (c_X1_put_l E f9 ob o1 (W ++ wN nb (10 * r) j) (nb (10 * r + j)) (by rw [List.length_append, wN_len]; omega) (ho1)) gX9_writeName_X1_put rfl 1 (by decide +kernel) ⟨by decide, by decide⟩ ⟨by decide, by decide⟩ 4 rfl rfl [4, 5] [0, 1, 2, 3] (wr := [gO m 9 [.ref f0, .ref f1, .ref f2, .ref f3, .ref f4, .ref f5, .ref f6, .ref f7, .ref f8, .ref f9, .ref f10], gO f5 7 [.int (nI 10), .ref e0, .ref e1], gA E e0 15 nl, gA E e1 150 nb]) rfl (by decide) rfl (by decide) (by decide) rfl rfl (Nat.le_of_ble_eq_true rfl) dX9_writeName_28 ?_
        rintro _ _ ⟨o2_28, rfl, rfl, ho2_28⟩
        show gg E _ 3 X 0 0 31 [some (.ref m), some (.int (nI r)), some (.int (nI j))] [] [gO m 9 [.ref f0, .ref f1, .ref f2, .ref f3, .ref f4, .ref f5, .ref f6, .ref f7, .ref f8, .ref f9, .ref f10], gO f5 7 [.int (nI 10), .ref e0, .ref e1], gA E e0 15 nl, gA E e1 150 nb, gO f9 1 [.ref ob, .int (nI (((W ++ wN nb (10 * r) j) ++ [(nb (10 * r + j))]).length))], gA E ob 2412 o2_28]
        rw [List.append_assoc, show wN nb (10 * r) j ++ [nb (10 * r + j)] = wN nb (10 * r) (j + 1) from rfl]
        refine g_iinc_n (y := 1) C dX9_writeName_31 rfl (by decide) (by decide) rfl (ll' := [some (.ref m), some (.int (nI r)), some (.int (nI (j + 1)))]) rfl ?_
        refine g_goto (tgt := 2) C dX9_writeName_34 (by decide) ?_
        exact ih2 (j + 1) o2_28 (by omega) (by omega) (by rw [wN, ← List.append_assoc]; exact ho2_28)
  exact L2 _ 0 o (Nat.lt_succ_self _) (by omega) (by rw [wN, List.append_nil]; exact ho)

abbrev rm_c_X9_writeLine : Room := { frames := 2, cells := 0, slots := 0, locals := 44 }
set_option maxHeartbeats 4000000 in
set_option maxRecDepth 100000 in
theorem c_X9_writeLine (E : gE) (m f0 f1 f2 f3 f4 f5 f6 f7 f8 f9 f10 : Nat) (q0 q1 e0 e1 ob : Nat) (pl pb nl nb o : Nat → Int32) (phl nml : Nat → Nat) (W : List Int32) (gr : Nat → Nat) (w0 w1 w2 w3 w4 : Nat → Int32) (sh : Nat → Int32) (y s t : Nat) (hy : y < 40) (hs : s < 5) (ht : t < 3) (hpl : okT pl 120 20 phl) (hnl : okT nl 15 10 nml) (hn : W.length + 201 ≤ 2412) (ho : oR W o) (hv0 : w0 1 = sh 0) (hv1 : w1 1 = sh 1) (hv2 : w2 1 = sh 2) (hv3 : w3 1 = sh 3) (hv4 : w4 1 = sh 4) : MM E yX9_writeLine wsX9_writeLine rm_c_X9_writeLine [.ref m, .int (nI y), .int (nI s), .int (nI t)] [gO m 9 [.ref f0, .ref f1, .ref f2, .ref f3, .ref f4, .ref f5, .ref f6, .ref f7, .ref f8, .ref f9, .ref f10], gO f4 7 [.int (nI 20), .ref q0, .ref q1], gA E q0 120 pl, gA E q1 2400 pb, gO f5 7 [.int (nI 10), .ref e0, .ref e1], gA E e0 15 nl, gA E e1 150 nb, gO f9 1 [.ref ob, .int (nI ((W).length))], gA E ob 2412 o, gGrid E f7 5 (fun i => some (gr i)), gA E (gr 0) 5 w0, gA E (gr 1) 5 w1, gA E (gr 2) 5 w2, gA E (gr 3) 5 w3, gA E (gr 4) 5 w4] (fun rv_ ru_ => ∃ (o2 : Nat → Int32), rv_ = none ∧ ru_ = [gO m 9 [.ref f0, .ref f1, .ref f2, .ref f3, .ref f4, .ref f5, .ref f6, .ref f7, .ref f8, .ref f9, .ref f10], gO f4 7 [.int (nI 20), .ref q0, .ref q1], gA E q0 120 pl, gA E q1 2400 pb, gO f5 7 [.int (nI 10), .ref e0, .ref e1], gA E e0 15 nl, gA E e1 150 nb, gO f9 1 [.ref ob, .int (nI ((W ++ wLn phl nml pb nb (sh s) y s t).length))], gA E ob 2412 o2, gGrid E f7 5 (fun i => some (gr i)), gA E (gr 0) 5 w0, gA E (gr 1) 5 w1, gA E (gr 2) 5 w2, gA E (gr 3) 5 w3, gA E (gr 4) 5 w4] ∧ (oR (W ++ wLn phl nml pb nb (sh s) y s t) o2)) := by
  refine MM.ofG (cc := cX9_writeLine) (maxL := 7) (ret := none) (by decide) rfl (Nat.le_of_ble_eq_true rfl) (ll := [some (.ref m), some (.int (nI y)), some (.int (nI s)), some (.int (nI t)), none, none, none]) rfl ?_
  intro X C Rt
  have C : gx E X cX9_writeLine 7 wsX9_writeLine RX9 := C
  have i_X7 : ∀ w ∈ u_ws RX7 TX7 3, w ∈ wsX9_writeLine := by decide +kernel
  have i_X9 : ∀ w ∈ u_ws RX9 TX9 11, w ∈ wsX9_writeLine := by decide +kernel
  have f_223 : Cond.fieldLink RX9 223 "MarkPages$Texts" "lengths" "[I" ∈ wsX9_writeLine := by decide +kernel
  have f_42 : Cond.fieldLink RX9 42 "MarkPages" "phrases" "LMarkPages$Texts;" ∈ wsX9_writeLine := by decide +kernel
  have f_57 : Cond.fieldLink RX9 57 "MarkPages" "measures" "[[I" ∈ wsX9_writeLine := by decide +kernel
  have f_67 : Cond.fieldLink RX9 67 "MarkPages" "written" "LMarkPages$Out;" ∈ wsX9_writeLine := by decide +kernel
  have hq := hpl (3 * y + t) (by omega)
  have hq2 := hnl (3 * s + t) (by omega)
  refine g_iload_n C dX9_writeLine_0 rfl ?_
  refine g_iload_n C dX9_writeLine_1 rfl ?_
  refine g_callS C (c_X9_rowOf E y t ) gX9_writeLine_X9_rowOf rfl 2 (by decide +kernel) ⟨by decide, by decide⟩ ⟨by decide, by decide⟩ [] [0, 1, 2, 3, 4, 5, 6, 7, 8, 9, 10, 11, 12, 13, 14] (wr := [gO m 9 [.ref f0, .ref f1, .ref f2, .ref f3, .ref f4, .ref f5, .ref f6, .ref f7, .ref f8, .ref f9, .ref f10], gO f4 7 [.int (nI 20), .ref q0, .ref q1], gA E q0 120 pl, gA E q1 2400 pb, gO f5 7 [.int (nI 10), .ref e0, .ref e1], gA E e0 15 nl, gA E e1 150 nb, gO f9 1 [.ref ob, .int (nI ((W).length))], gA E ob 2412 o, gGrid E f7 5 (fun i => some (gr i)), gA E (gr 0) 5 w0, gA E (gr 1) 5 w1, gA E (gr 2) 5 w2, gA E (gr 3) 5 w3, gA E (gr 4) 5 w4]) rfl (by decide) rfl (by decide) (by decide) rfl rfl (Nat.le_of_ble_eq_true rfl) dX9_writeLine_2 ?_
  rintro _ _ ⟨rfl, rfl⟩
  show gg E _ 7 X 0 0 5 [some (.ref m), some (.int (nI y)), some (.int (nI s)), some (.int (nI t)), none, none, none] [.int (nI (3 * y + t))] [gO m 9 [.ref f0, .ref f1, .ref f2, .ref f3, .ref f4, .ref f5, .ref f6, .ref f7, .ref f8, .ref f9, .ref f10], gO f4 7 [.int (nI 20), .ref q0, .ref q1], gA E q0 120 pl, gA E q1 2400 pb, gO f5 7 [.int (nI 10), .ref e0, .ref e1], gA E e0 15 nl, gA E e1 150 nb, gO f9 1 [.ref ob, .int (nI ((W).length))], gA E ob 2412 o, gGrid E f7 5 (fun i => some (gr i)), gA E (gr 0) 5 w0, gA E (gr 1) 5 w1, gA E (gr 2) 5 w2, gA E (gr 3) 5 w3, gA E (gr 4) 5 w4]
  refine g_istore C dX9_writeLine_5 (by decide) rfl (ll' := [some (.ref m), some (.int (nI y)), some (.int (nI s)), some (.int (nI t)), some (.int (nI (3 * y + t))), none, none]) rfl ?_
  refine g_aload_n C dX9_writeLine_7 rfl ?_
  refine g_get C i_X9 0 4 f_42 rfl rfl (by decide) rfl rfl dX9_writeLine_8 ?_
  refine g_get C i_X7 1 1 f_223 rfl rfl (by decide) rfl rfl dX9_writeLine_11 ?_
  refine g_iload C dX9_writeLine_14 rfl ?_
  refine g_iald C 2 (3 * y + t) rfl rfl (by omega) (by decide) dX9_writeLine_16 ?_
  refine g_top (hq.1) ?_
  refine g_if_ne_n (tgt := 21) C dX9_writeLine_17 (by decide) (by omega) (fun c17 => ?_) (fun c17 => ?_)
  · rw [show W.length = (W ++ wP pb (wN nb (10 * (3 * s + t)) (nml (3 * s + t))) (sh s) (20 * (3 * y + t)) 0).length by rw [wP, List.append_nil]]
    refine g_iconst (v := nI 0) C dX9_writeLine_21 (by decide) ?_
    refine g_istore C dX9_writeLine_22 (by decide) rfl (ll' := [some (.ref m), some (.int (nI y)), some (.int (nI s)), some (.int (nI t)), some (.int (nI (3 * y + t))), some (.int (nI 0)), none]) rfl ?_
    have L24 : ∀ (n24 : Nat) (j : Nat) (o1 : Nat → Int32), phl (3 * y + t) - j < n24 → (j ≤ phl (3 * y + t)) → (oR (W ++ wP pb (wN nb (10 * (3 * s + t)) (nml (3 * s + t))) (sh s) (20 * (3 * y + t)) j) o1) → gg E rm_c_X9_writeLine 7 X 0 0 24 [some (.ref m), some (.int (nI y)), some (.int (nI s)), some (.int (nI t)), some (.int (nI (3 * y + t))), some (.int (nI j)), none] [] [gO m 9 [.ref f0, .ref f1, .ref f2, .ref f3, .ref f4, .ref f5, .ref f6, .ref f7, .ref f8, .ref f9, .ref f10], gO f4 7 [.int (nI 20), .ref q0, .ref q1], gA E q0 120 pl, gA E q1 2400 pb, gO f5 7 [.int (nI 10), .ref e0, .ref e1], gA E e0 15 nl, gA E e1 150 nb, gO f9 1 [.ref ob, .int (nI ((W ++ wP pb (wN nb (10 * (3 * s + t)) (nml (3 * s + t))) (sh s) (20 * (3 * y + t)) j).length))], gA E ob 2412 o1, gGrid E f7 5 (fun i => some (gr i)), gA E (gr 0) 5 w0, gA E (gr 1) 5 w1, gA E (gr 2) 5 w2, gA E (gr 3) 5 w3, gA E (gr 4) 5 w4] := by
      intro n24
      induction n24 with
      | zero => intro j o1 hm24; exact absurd hm24 (Nat.not_lt_zero _)
      | succ n24 ih24 =>
        intro j o1 hm24 hj ho1
        refine g_iload C dX9_writeLine_24 rfl ?_
        refine g_aload_n C dX9_writeLine_26 rfl ?_
        refine g_get C i_X9 0 4 f_42 rfl rfl (by decide) rfl rfl dX9_writeLine_27 ?_
        refine g_get C i_X7 1 1 f_223 rfl rfl (by decide) rfl rfl dX9_writeLine_30 ?_
        refine g_iload C dX9_writeLine_33 rfl ?_
        refine g_iald C 2 (3 * y + t) rfl rfl (by omega) (by decide) dX9_writeLine_35 ?_
        refine g_top (hq.1) ?_
        refine g_icmp_ge_n (tgt := 111) C dX9_writeLine_36 (by decide) (by omega) (by omega) (fun c36 => ?_) (fun c36 => ?_)
        · refine g_aload_n C dX9_writeLine_111 rfl ?_
          refine g_get C i_X9 0 9 f_67 rfl rfl (by decide) rfl rfl dX9_writeLine_112 ?_
          refine g_bipush (v := nI 10) C dX9_writeLine_115 (by decide) ?_
          refine g_callV C (c_X1_put_l E f9 ob o1 (W ++ wP pb (wN nb (10 * (3 * s + t)) (nml (3 * s + t))) (sh s) (20 * (3 * y + t)) j) (nI 10) (by rw [List.length_append]; have := wP_len (pb := pb) (v := sh s) (b := 20 * (3 * y + t)) (N := (wN nb (10 * (3 * s + t)) (nml (3 * s + t)))) (by rw [wN_len]; exact (hnl _ (by omega)).2) j; omega) (ho1)) gX9_writeLine_X1_put rfl 1 (by decide +kernel) ⟨by decide, by decide⟩ ⟨by decide, by decide⟩ 7 rfl rfl [7, 8] [0, 1, 2, 3, 4, 5, 6, 9, 10, 11, 12, 13, 14] (wr := [gO m 9 [.ref f0, .ref f1, .ref f2, .ref f3, .ref f4, .ref f5, .ref f6, .ref f7, .ref f8, .ref f9, .ref f10], gO f4 7 [.int (nI 20), .ref q0, .ref q1], gA E q0 120 pl, gA E q1 2400 pb, gO f5 7 [.int (nI 10), .ref e0, .ref e1], gA E e0 15 nl, gA E e1 150 nb, gGrid E f7 5 (fun i => some (gr i)), gA E (gr 0) 5 w0, gA E (gr 1) 5 w1, gA E (gr 2) 5 w2, gA E (gr 3) 5 w3, gA E (gr 4) 5 w4]) rfl (by decide) rfl (by decide) (by decide) rfl rfl (Nat.le_of_ble_eq_true rfl) dX9_writeLine_117 ?_
          rintro _ _ ⟨o2_117, rfl, rfl, ho2_117⟩
          refine gg.perm (ws' := [gO m 9 [.ref f0, .ref f1, .ref f2, .ref f3, .ref f4, .ref f5, .ref f6, .ref f7, .ref f8, .ref f9, .ref f10], gO f4 7 [.int (nI 20), .ref q0, .ref q1], gA E q0 120 pl, gA E q1 2400 pb, gO f5 7 [.int (nI 10), .ref e0, .ref e1], gA E e0 15 nl, gA E e1 150 nb, gO f9 1 [.ref ob, .int (nI (((W ++ wP pb (wN nb (10 * (3 * s + t)) (nml (3 * s + t))) (sh s) (20 * (3 * y + t)) j) ++ [(nI 10)]).length))], gA E ob 2412 o2_117, gGrid E f7 5 (fun i => some (gr i)), gA E (gr 0) 5 w0, gA E (gr 1) 5 w1, gA E (gr 2) 5 w2, gA E (gr 3) 5 w3, gA E (gr 4) 5 w4]) [0, 1, 2, 3, 4, 5, 6, 13, 14, 7, 8, 9, 10, 11, 12] (by decide) rfl ?_
          show gg E _ 7 X 0 0 120 [some (.ref m), some (.int (nI y)), some (.int (nI s)), some (.int (nI t)), some (.int (nI (3 * y + t))), some (.int (nI j)), none] [] [gO m 9 [.ref f0, .ref f1, .ref f2, .ref f3, .ref f4, .ref f5, .ref f6, .ref f7, .ref f8, .ref f9, .ref f10], gO f4 7 [.int (nI 20), .ref q0, .ref q1], gA E q0 120 pl, gA E q1 2400 pb, gO f5 7 [.int (nI 10), .ref e0, .ref e1], gA E e0 15 nl, gA E e1 150 nb, gO f9 1 [.ref ob, .int (nI (((W ++ wP pb (wN nb (10 * (3 * s + t)) (nml (3 * s + t))) (sh s) (20 * (3 * y + t)) j) ++ [(nI 10)]).length))], gA E ob 2412 o2_117, gGrid E f7 5 (fun i => some (gr i)), gA E (gr 0) 5 w0, gA E (gr 1) 5 w1, gA E (gr 2) 5 w2, gA E (gr 3) 5 w3, gA E (gr 4) 5 w4]
          exact g_vret C Rt dX9_writeLine_120 (by decide) (by decide) (⟨_, rfl, by rw [wLn, if_neg (Nat.pos_iff_ne_zero.mp c17), ← show j = phl (3 * y + t) by omega, List.append_assoc], by rw [wLn, if_neg (Nat.pos_iff_ne_zero.mp c17), ← show j = phl (3 * y + t) by omega, ← List.append_assoc]; exact ho2_117⟩)
        · refine g_aload_n C dX9_writeLine_39 rfl ?_
          refine g_get C i_X9 0 4 f_42 rfl rfl (by decide) rfl rfl dX9_writeLine_40 ?_
          refine g_iload C dX9_writeLine_43 rfl ?_
          refine g_iload C dX9_writeLine_45 rfl ?_
          refine g_callV C (c_X7_byteAt E f4 q0 q1 20 120 2400 pl pb (3 * y + t) j (by omega) (by omega)) gX9_writeLine_X7_byteAt rfl 2 (by decide +kernel) ⟨by decide, by decide⟩ ⟨by decide, by decide⟩ 1 rfl rfl [1, 2, 3] [0, 4, 5, 6, 7, 8, 9, 10, 11, 12, 13, 14] (wr := [gO m 9 [.ref f0, .ref f1, .ref f2, .ref f3, .ref f4, .ref f5, .ref f6, .ref f7, .ref f8, .ref f9, .ref f10], gO f5 7 [.int (nI 10), .ref e0, .ref e1], gA E e0 15 nl, gA E e1 150 nb, gO f9 1 [.ref ob, .int (nI ((W ++ wP pb (wN nb (10 * (3 * s + t)) (nml (3 * s + t))) (sh s) (20 * (3 * y + t)) j).length))], gA E ob 2412 o1, gGrid E f7 5 (fun i => some (gr i)), gA E (gr 0) 5 w0, gA E (gr 1) 5 w1, gA E (gr 2) 5 w2, gA E (gr 3) 5 w3, gA E (gr 4) 5 w4]) rfl (by decide) rfl (by decide) (by decide) rfl rfl (Nat.le_of_ble_eq_true rfl) dX9_writeLine_47 ?_
          rintro _ _ ⟨rfl, rfl⟩
          refine gg.perm (ws' := [gO m 9 [.ref f0, .ref f1, .ref f2, .ref f3, .ref f4, .ref f5, .ref f6, .ref f7, .ref f8, .ref f9, .ref f10], gO f4 7 [.int (nI 20), .ref q0, .ref q1], gA E q0 120 pl, gA E q1 2400 pb, gO f5 7 [.int (nI 10), .ref e0, .ref e1], gA E e0 15 nl, gA E e1 150 nb, gO f9 1 [.ref ob, .int (nI ((W ++ wP pb (wN nb (10 * (3 * s + t)) (nml (3 * s + t))) (sh s) (20 * (3 * y + t)) j).length))], gA E ob 2412 o1, gGrid E f7 5 (fun i => some (gr i)), gA E (gr 0) 5 w0, gA E (gr 1) 5 w1, gA E (gr 2) 5 w2, gA E (gr 3) 5 w3, gA E (gr 4) 5 w4]) [0, 12, 13, 14, 1, 2, 3, 4, 5, 6, 7, 8, 9, 10, 11] (by decide) rfl ?_
          show gg E _ 7 X 0 0 50 [some (.ref m), some (.int (nI y)), some (.int (nI s)), some (.int (nI t)), some (.int (nI (3 * y + t))), some (.int (nI j)), none] [.int (pb ((3 * y + t) * 20 + j))] [gO m 9 [.ref f0, .ref f1, .ref f2, .ref f3, .ref f4, .ref f5, .ref f6, .ref f7, .ref f8, .ref f9, .ref f10], gO f4 7 [.int (nI 20), .ref q0, .ref q1], gA E q0 120 pl, gA E q1 2400 pb, gO f5 7 [.int (nI 10), .ref e0, .ref e1], gA E e0 15 nl, gA E e1 150 nb, gO f9 1 [.ref ob, .int (nI ((W ++ wP pb (wN nb (10 * (3 * s + t)) (nml (3 * s + t))) (sh s) (20 * (3 * y + t)) j).length))], gA E ob 2412 o1, gGrid E f7 5 (fun i => some (gr i)), gA E (gr 0) 5 w0, gA E (gr 1) 5 w1, gA E (gr 2) 5 w2, gA E (gr 3) 5 w3, gA E (gr 4) 5 w4]
          refine g_top (x' := pb (20 * (3 * y + t) + j)) (by rw [Nat.mul_comm (3 * y + t) 20]) ?_
          refine g_istore C dX9_writeLine_50 (by decide) rfl (ll' := [some (.ref m), some (.int (nI y)), some (.int (nI s)), some (.int (nI t)), some (.int (nI (3 * y + t))), some (.int (nI j)), some (.int (pb (20 * (3 * y + t) + j)))]) rfl ?_
          refine g_iload C dX9_writeLine_52 rfl ?_
          refine g_bipush (v := nI 37) C dX9_writeLine_54 (by decide) ?_
          refine g_icmp_ne (tgt := 71) C dX9_writeLine_56 (by decide) (fun c56 => ?_) (fun c56 => ?_)
          · refine g_iload C dX9_writeLine_71 rfl ?_
            refine g_bipush (v := nI 35) C dX9_writeLine_73 (by decide) ?_
            refine g_icmp_ne (tgt := 96) C dX9_writeLine_75 (by decide) (fun c75 => ?_) (fun c75 => ?_)
            · refine g_aload_n C dX9_writeLine_96 rfl ?_
              refine g_get C i_X9 0 9 f_67 rfl rfl (by decide) rfl rfl dX9_writeLine_97 ?_
              refine g_iload C dX9_writeLine_100 rfl ?_
              refine g_callV C (c_X1_put_l E f9 ob o1 (W ++ wP pb (wN nb (10 * (3 * s + t)) (nml (3 * s + t))) (sh s) (20 * (3 * y + t)) j) (pb (20 * (3 * y + t) + j)) (by rw [List.length_append]; have := wP_len (pb := pb) (v := sh s) (b := 20 * (3 * y + t)) (N := (wN nb (10 * (3 * s + t)) (nml (3 * s + t)))) (by rw [wN_len]; exact (hnl _ (by omega)).2) j; omega) (ho1)) gX9_writeLine_X1_put rfl 1 (by decide +kernel) ⟨by decide, by decide⟩ ⟨by decide, by decide⟩ 7 rfl rfl [7, 8] [0, 1, 2, 3, 4, 5, 6, 9, 10, 11, 12, 13, 14] (wr := [gO m 9 [.ref f0, .ref f1, .ref f2, .ref f3, .ref f4, .ref f5, .ref f6, .ref f7, .ref f8, .ref f9, .ref f10], gO f4 7 [.int (nI 20), .ref q0, .ref q1], gA E q0 120 pl, gA E q1 2400 pb, gO f5 7 [.int (nI 10), .ref e0, .ref e1], gA E e0 15 nl, gA E e1 150 nb, gGrid E f7 5 (fun i => some (gr i)), gA E (gr 0) 5 w0, gA E (gr 1) 5 w1, gA E (gr 2) 5 w2, gA E (gr 3) 5 w3, gA E (gr 4) 5 w4]) rfl (by decide) rfl (by decide) (by decide) rfl rfl (Nat.le_of_ble_eq_true rfl) dX9_writeLine_102 ?_
              rintro _ _ ⟨o2_102, rfl, rfl, ho2_102⟩
              refine gg.perm (ws' := [gO m 9 [.ref f0, .ref f1, .ref f2, .ref f3, .ref f4, .ref f5, .ref f6, .ref f7, .ref f8, .ref f9, .ref f10], gO f4 7 [.int (nI 20), .ref q0, .ref q1], gA E q0 120 pl, gA E q1 2400 pb, gO f5 7 [.int (nI 10), .ref e0, .ref e1], gA E e0 15 nl, gA E e1 150 nb, gO f9 1 [.ref ob, .int (nI (((W ++ wP pb (wN nb (10 * (3 * s + t)) (nml (3 * s + t))) (sh s) (20 * (3 * y + t)) j) ++ [(pb (20 * (3 * y + t) + j))]).length))], gA E ob 2412 o2_102, gGrid E f7 5 (fun i => some (gr i)), gA E (gr 0) 5 w0, gA E (gr 1) 5 w1, gA E (gr 2) 5 w2, gA E (gr 3) 5 w3, gA E (gr 4) 5 w4]) [0, 1, 2, 3, 4, 5, 6, 13, 14, 7, 8, 9, 10, 11, 12] (by decide) rfl ?_
              show gg E _ 7 X 0 0 105 [some (.ref m), some (.int (nI y)), some (.int (nI s)), some (.int (nI t)), some (.int (nI (3 * y + t))), some (.int (nI j)), some (.int (pb (20 * (3 * y + t) + j)))] [] [gO m 9 [.ref f0, .ref f1, .ref f2, .ref f3, .ref f4, .ref f5, .ref f6, .ref f7, .ref f8, .ref f9, .ref f10], gO f4 7 [.int (nI 20), .ref q0, .ref q1], gA E q0 120 pl, gA E q1 2400 pb, gO f5 7 [.int (nI 10), .ref e0, .ref e1], gA E e0 15 nl, gA E e1 150 nb, gO f9 1 [.ref ob, .int (nI (((W ++ wP pb (wN nb (10 * (3 * s + t)) (nml (3 * s + t))) (sh s) (20 * (3 * y + t)) j) ++ [(pb (20 * (3 * y + t) + j))]).length))], gA E ob 2412 o2_102, gGrid E f7 5 (fun i => some (gr i)), gA E (gr 0) 5 w0, gA E (gr 1) 5 w1, gA E (gr 2) 5 w2, gA E (gr 3) 5 w3, gA E (gr 4) 5 w4]
              refine gg.less (ll' := [some (.ref m), some (.int (nI y)), some (.int (nI s)), some (.int (nI t)), some (.int (nI (3 * y + t))), some (.int (nI j)), none]) (by intro i v h; match i, h with | 0, h => exact h | 1, h => exact h | 2, h => exact h | 3, h => exact h | 4, h => exact h | 5, h => exact h | 6, h => exact absurd h (by simp) | (i + 7), h => exact absurd h (by simp)) ?_
              have hw_ : W ++ wP pb (wN nb (10 * (3 * s + t)) (nml (3 * s + t))) (sh s) (20 * (3 * y + t)) j ++ [pb (20 * (3 * y + t) + j)] = W ++ wP pb (wN nb (10 * (3 * s + t)) (nml (3 * s + t))) (sh s) (20 * (3 * y + t)) (j + 1) := by rw [List.append_assoc, wP, wC, if_neg c56, if_neg c75]
              rw [hw_]
              refine g_iinc_n (y := 1) C dX9_writeLine_105 rfl (by decide) (by decide) rfl (ll' := [some (.ref m), some (.int (nI y)), some (.int (nI s)), some (.int (nI t)), some (.int (nI (3 * y + t))), some (.int (nI (j + 1))), none]) rfl ?_
              refine g_goto (tgt := 24) C dX9_writeLine_108 (by decide) ?_
              exact ih24 (j + 1) o2_102 (by omega) (by omega) (by rw [← hw_]; exact ho2_102)
            · rcases (show s = 0 ∨ s = 1 ∨ s = 2 ∨ s = 3 ∨ s = 4 by omega) with rfl | rfl | rfl | rfl | rfl
              · refine g_aload_n C dX9_writeLine_78 rfl ?_
                refine g_get C i_X9 0 9 f_67 rfl rfl (by decide) rfl rfl dX9_writeLine_79 ?_
                refine g_aload_n C dX9_writeLine_82 rfl ?_
                refine g_get C i_X9 0 7 f_57 rfl rfl (by decide) rfl rfl dX9_writeLine_83 ?_
                refine g_iload_n C dX9_writeLine_86 rfl ?_
                refine g_aaldG C 9 0 rfl rfl (by omega) (by decide) rfl dX9_writeLine_87 ?_
                refine g_iconst (v := nI 1) C dX9_writeLine_88 (by decide) ?_
                refine g_iald C 10 1 rfl rfl (by omega) (by decide) dX9_writeLine_89 ?_
                refine g_top hv0 ?_
                refine g_callV C (c_X1_putNumber E f9 ob o1 (W ++ wP pb (wN nb (10 * (3 * 0 + t)) (nml (3 * 0 + t))) (sh 0) (20 * (3 * y + t)) j) (sh 0) (by rw [List.length_append]; have := wP_len (pb := pb) (v := sh 0) (b := 20 * (3 * y + t)) (N := (wN nb (10 * (3 * 0 + t)) (nml (3 * 0 + t)))) (by rw [wN_len]; exact (hnl _ (by omega)).2) j; omega) (ho1)) gX9_writeLine_X1_putNumber rfl 1 (by decide +kernel) ⟨by decide, by decide⟩ ⟨by decide, by decide⟩ 7 rfl rfl [7, 8] [0, 1, 2, 3, 4, 5, 6, 9, 10, 11, 12, 13, 14] (wr := [gO m 9 [.ref f0, .ref f1, .ref f2, .ref f3, .ref f4, .ref f5, .ref f6, .ref f7, .ref f8, .ref f9, .ref f10], gO f4 7 [.int (nI 20), .ref q0, .ref q1], gA E q0 120 pl, gA E q1 2400 pb, gO f5 7 [.int (nI 10), .ref e0, .ref e1], gA E e0 15 nl, gA E e1 150 nb, gGrid E f7 5 (fun i => some (gr i)), gA E (gr 0) 5 w0, gA E (gr 1) 5 w1, gA E (gr 2) 5 w2, gA E (gr 3) 5 w3, gA E (gr 4) 5 w4]) rfl (by decide) rfl (by decide) (by decide) rfl rfl (Nat.le_of_ble_eq_true rfl) dX9_writeLine_90 ?_
                rintro _ _ ⟨o2_90, rfl, rfl, ho2_90⟩
                refine gg.perm (ws' := [gO m 9 [.ref f0, .ref f1, .ref f2, .ref f3, .ref f4, .ref f5, .ref f6, .ref f7, .ref f8, .ref f9, .ref f10], gO f4 7 [.int (nI 20), .ref q0, .ref q1], gA E q0 120 pl, gA E q1 2400 pb, gO f5 7 [.int (nI 10), .ref e0, .ref e1], gA E e0 15 nl, gA E e1 150 nb, gO f9 1 [.ref ob, .int (nI (((W ++ wP pb (wN nb (10 * (3 * 0 + t)) (nml (3 * 0 + t))) (sh 0) (20 * (3 * y + t)) j) ++ (wD1 (sh 0) ++ wD2 (sh 0) ++ [wD3 (sh 0)])).length))], gA E ob 2412 o2_90, gGrid E f7 5 (fun i => some (gr i)), gA E (gr 0) 5 w0, gA E (gr 1) 5 w1, gA E (gr 2) 5 w2, gA E (gr 3) 5 w3, gA E (gr 4) 5 w4]) [0, 1, 2, 3, 4, 5, 6, 13, 14, 7, 8, 9, 10, 11, 12] (by decide) rfl ?_
                show gg E _ 7 X 0 0 93 [some (.ref m), some (.int (nI y)), some (.int (nI 0)), some (.int (nI t)), some (.int (nI (3 * y + t))), some (.int (nI j)), some (.int (pb (20 * (3 * y + t) + j)))] [] [gO m 9 [.ref f0, .ref f1, .ref f2, .ref f3, .ref f4, .ref f5, .ref f6, .ref f7, .ref f8, .ref f9, .ref f10], gO f4 7 [.int (nI 20), .ref q0, .ref q1], gA E q0 120 pl, gA E q1 2400 pb, gO f5 7 [.int (nI 10), .ref e0, .ref e1], gA E e0 15 nl, gA E e1 150 nb, gO f9 1 [.ref ob, .int (nI (((W ++ wP pb (wN nb (10 * (3 * 0 + t)) (nml (3 * 0 + t))) (sh 0) (20 * (3 * y + t)) j) ++ (wD1 (sh 0) ++ wD2 (sh 0) ++ [wD3 (sh 0)])).length))], gA E ob 2412 o2_90, gGrid E f7 5 (fun i => some (gr i)), gA E (gr 0) 5 w0, gA E (gr 1) 5 w1, gA E (gr 2) 5 w2, gA E (gr 3) 5 w3, gA E (gr 4) 5 w4]
                refine g_goto (tgt := 105) C dX9_writeLine_93 (by decide) ?_
                refine gg.less (ll' := [some (.ref m), some (.int (nI y)), some (.int (nI 0)), some (.int (nI t)), some (.int (nI (3 * y + t))), some (.int (nI j)), none]) (by intro i v h; match i, h with | 0, h => exact h | 1, h => exact h | 2, h => exact h | 3, h => exact h | 4, h => exact h | 5, h => exact h | 6, h => exact absurd h (by simp) | (i + 7), h => exact absurd h (by simp)) ?_
                have hw_ : W ++ wP pb (wN nb (10 * (3 * 0 + t)) (nml (3 * 0 + t))) (sh 0) (20 * (3 * y + t)) j ++ (wD1 (sh 0) ++ wD2 (sh 0) ++ [wD3 (sh 0)]) = W ++ wP pb (wN nb (10 * (3 * 0 + t)) (nml (3 * 0 + t))) (sh 0) (20 * (3 * y + t)) (j + 1) := by rw [List.append_assoc, wP, wC, if_neg c56, if_pos c75]
                rw [hw_]
                refine g_iinc_n (y := 1) C dX9_writeLine_105 rfl (by decide) (by decide) rfl (ll' := [some (.ref m), some (.int (nI y)), some (.int (nI 0)), some (.int (nI t)), some (.int (nI (3 * y + t))), some (.int (nI (j + 1))), none]) rfl ?_
                refine g_goto (tgt := 24) C dX9_writeLine_108 (by decide) ?_
                exact ih24 (j + 1) o2_90 (by omega) (by omega) (by rw [← hw_]; exact ho2_90)
              · refine g_aload_n C dX9_writeLine_78 rfl ?_
                refine g_get C i_X9 0 9 f_67 rfl rfl (by decide) rfl rfl dX9_writeLine_79 ?_
                refine g_aload_n C dX9_writeLine_82 rfl ?_
                refine g_get C i_X9 0 7 f_57 rfl rfl (by decide) rfl rfl dX9_writeLine_83 ?_
                refine g_iload_n C dX9_writeLine_86 rfl ?_
                refine g_aaldG C 9 1 rfl rfl (by omega) (by decide) rfl dX9_writeLine_87 ?_
                refine g_iconst (v := nI 1) C dX9_writeLine_88 (by decide) ?_
                refine g_iald C 11 1 rfl rfl (by omega) (by decide) dX9_writeLine_89 ?_
                refine g_top hv1 ?_
                refine g_callV C (c_X1_putNumber E f9 ob o1 (W ++ wP pb (wN nb (10 * (3 * 1 + t)) (nml (3 * 1 + t))) (sh 1) (20 * (3 * y + t)) j) (sh 1) (by rw [List.length_append]; have := wP_len (pb := pb) (v := sh 1) (b := 20 * (3 * y + t)) (N := (wN nb (10 * (3 * 1 + t)) (nml (3 * 1 + t)))) (by rw [wN_len]; exact (hnl _ (by omega)).2) j; omega) (ho1)) gX9_writeLine_X1_putNumber rfl 1 (by decide +kernel) ⟨by decide, by decide⟩ ⟨by decide, by decide⟩ 7 rfl rfl [7, 8] [0, 1, 2, 3, 4, 5, 6, 9, 10, 11, 12, 13, 14] (wr := [gO m 9 [.ref f0, .ref f1, .ref f2, .ref f3, .ref f4, .ref f5, .ref f6, .ref f7, .ref f8, .ref f9, .ref f10], gO f4 7 [.int (nI 20), .ref q0, .ref q1], gA E q0 120 pl, gA E q1 2400 pb, gO f5 7 [.int (nI 10), .ref e0, .ref e1], gA E e0 15 nl, gA E e1 150 nb, gGrid E f7 5 (fun i => some (gr i)), gA E (gr 0) 5 w0, gA E (gr 1) 5 w1, gA E (gr 2) 5 w2, gA E (gr 3) 5 w3, gA E (gr 4) 5 w4]) rfl (by decide) rfl (by decide) (by decide) rfl rfl (Nat.le_of_ble_eq_true rfl) dX9_writeLine_90 ?_
                rintro _ _ ⟨o2_90, rfl, rfl, ho2_90⟩
                refine gg.perm (ws' := [gO m 9 [.ref f0, .ref f1, .ref f2, .ref f3, .ref f4, .ref f5, .ref f6, .ref f7, .ref f8, .ref f9, .ref f10], gO f4 7 [.int (nI 20), .ref q0, .ref q1], gA E q0 120 pl, gA E q1 2400 pb, gO f5 7 [.int (nI 10), .ref e0, .ref e1], gA E e0 15 nl, gA E e1 150 nb, gO f9 1 [.ref ob, .int (nI (((W ++ wP pb (wN nb (10 * (3 * 1 + t)) (nml (3 * 1 + t))) (sh 1) (20 * (3 * y + t)) j) ++ (wD1 (sh 1) ++ wD2 (sh 1) ++ [wD3 (sh 1)])).length))], gA E ob 2412 o2_90, gGrid E f7 5 (fun i => some (gr i)), gA E (gr 0) 5 w0, gA E (gr 1) 5 w1, gA E (gr 2) 5 w2, gA E (gr 3) 5 w3, gA E (gr 4) 5 w4]) [0, 1, 2, 3, 4, 5, 6, 13, 14, 7, 8, 9, 10, 11, 12] (by decide) rfl ?_
                show gg E _ 7 X 0 0 93 [some (.ref m), some (.int (nI y)), some (.int (nI 1)), some (.int (nI t)), some (.int (nI (3 * y + t))), some (.int (nI j)), some (.int (pb (20 * (3 * y + t) + j)))] [] [gO m 9 [.ref f0, .ref f1, .ref f2, .ref f3, .ref f4, .ref f5, .ref f6, .ref f7, .ref f8, .ref f9, .ref f10], gO f4 7 [.int (nI 20), .ref q0, .ref q1], gA E q0 120 pl, gA E q1 2400 pb, gO f5 7 [.int (nI 10), .ref e0, .ref e1], gA E e0 15 nl, gA E e1 150 nb, gO f9 1 [.ref ob, .int (nI (((W ++ wP pb (wN nb (10 * (3 * 1 + t)) (nml (3 * 1 + t))) (sh 1) (20 * (3 * y + t)) j) ++ (wD1 (sh 1) ++ wD2 (sh 1) ++ [wD3 (sh 1)])).length))], gA E ob 2412 o2_90, gGrid E f7 5 (fun i => some (gr i)), gA E (gr 0) 5 w0, gA E (gr 1) 5 w1, gA E (gr 2) 5 w2, gA E (gr 3) 5 w3, gA E (gr 4) 5 w4]
                refine g_goto (tgt := 105) C dX9_writeLine_93 (by decide) ?_
                refine gg.less (ll' := [some (.ref m), some (.int (nI y)), some (.int (nI 1)), some (.int (nI t)), some (.int (nI (3 * y + t))), some (.int (nI j)), none]) (by intro i v h; match i, h with | 0, h => exact h | 1, h => exact h | 2, h => exact h | 3, h => exact h | 4, h => exact h | 5, h => exact h | 6, h => exact absurd h (by simp) | (i + 7), h => exact absurd h (by simp)) ?_
                have hw_ : W ++ wP pb (wN nb (10 * (3 * 1 + t)) (nml (3 * 1 + t))) (sh 1) (20 * (3 * y + t)) j ++ (wD1 (sh 1) ++ wD2 (sh 1) ++ [wD3 (sh 1)]) = W ++ wP pb (wN nb (10 * (3 * 1 + t)) (nml (3 * 1 + t))) (sh 1) (20 * (3 * y + t)) (j + 1) := by rw [List.append_assoc, wP, wC, if_neg c56, if_pos c75]
                rw [hw_]
                refine g_iinc_n (y := 1) C dX9_writeLine_105 rfl (by decide) (by decide) rfl (ll' := [some (.ref m), some (.int (nI y)), some (.int (nI 1)), some (.int (nI t)), some (.int (nI (3 * y + t))), some (.int (nI (j + 1))), none]) rfl ?_
                refine g_goto (tgt := 24) C dX9_writeLine_108 (by decide) ?_
                exact ih24 (j + 1) o2_90 (by omega) (by omega) (by rw [← hw_]; exact ho2_90)
              · refine g_aload_n C dX9_writeLine_78 rfl ?_
                refine g_get C i_X9 0 9 f_67 rfl rfl (by decide) rfl rfl dX9_writeLine_79 ?_
                refine g_aload_n C dX9_writeLine_82 rfl ?_
                refine g_get C i_X9 0 7 f_57 rfl rfl (by decide) rfl rfl dX9_writeLine_83 ?_
                refine g_iload_n C dX9_writeLine_86 rfl ?_
                refine g_aaldG C 9 2 rfl rfl (by omega) (by decide) rfl dX9_writeLine_87 ?_
                refine g_iconst (v := nI 1) C dX9_writeLine_88 (by decide) ?_
                refine g_iald C 12 1 rfl rfl (by omega) (by decide) dX9_writeLine_89 ?_
                refine g_top hv2 ?_
                refine g_callV C (c_X1_putNumber E f9 ob o1 (W ++ wP pb (wN nb (10 * (3 * 2 + t)) (nml (3 * 2 + t))) (sh 2) (20 * (3 * y + t)) j) (sh 2) (by rw [List.length_append]; have := wP_len (pb := pb) (v := sh 2) (b := 20 * (3 * y + t)) (N := (wN nb (10 * (3 * 2 + t)) (nml (3 * 2 + t)))) (by rw [wN_len]; exact (hnl _ (by omega)).2) j; omega) (ho1)) gX9_writeLine_X1_putNumber rfl 1 (by decide +kernel) ⟨by decide, by decide⟩ ⟨by decide, by decide⟩ 7 rfl rfl [7, 8] [0, 1, 2, 3, 4, 5, 6, 9, 10, 11, 12, 13, 14] (wr := [gO m 9 [.ref f0, .ref f1, .ref f2, .ref f3, .ref f4, .ref f5, .ref f6, .ref f7, .ref f8, .ref f9, .ref f10], gO f4 7 [.int (nI 20), .ref q0, .ref q1], gA E q0 120 pl, gA E q1 2400 pb, gO f5 7 [.int (nI 10), .ref e0, .ref e1], gA E e0 15 nl, gA E e1 150 nb, gGrid E f7 5 (fun i => some (gr i)), gA E (gr 0) 5 w0, gA E (gr 1) 5 w1, gA E (gr 2) 5 w2, gA E (gr 3) 5 w3, gA E (gr 4) 5 w4]) rfl (by decide) rfl (by decide) (by decide) rfl rfl (Nat.le_of_ble_eq_true rfl) dX9_writeLine_90 ?_
                rintro _ _ ⟨o2_90, rfl, rfl, ho2_90⟩
                refine gg.perm (ws' := [gO m 9 [.ref f0, .ref f1, .ref f2, .ref f3, .ref f4, .ref f5, .ref f6, .ref f7, .ref f8, .ref f9, .ref f10], gO f4 7 [.int (nI 20), .ref q0, .ref q1], gA E q0 120 pl, gA E q1 2400 pb, gO f5 7 [.int (nI 10), .ref e0, .ref e1], gA E e0 15 nl, gA E e1 150 nb, gO f9 1 [.ref ob, .int (nI (((W ++ wP pb (wN nb (10 * (3 * 2 + t)) (nml (3 * 2 + t))) (sh 2) (20 * (3 * y + t)) j) ++ (wD1 (sh 2) ++ wD2 (sh 2) ++ [wD3 (sh 2)])).length))], gA E ob 2412 o2_90, gGrid E f7 5 (fun i => some (gr i)), gA E (gr 0) 5 w0, gA E (gr 1) 5 w1, gA E (gr 2) 5 w2, gA E (gr 3) 5 w3, gA E (gr 4) 5 w4]) [0, 1, 2, 3, 4, 5, 6, 13, 14, 7, 8, 9, 10, 11, 12] (by decide) rfl ?_
                show gg E _ 7 X 0 0 93 [some (.ref m), some (.int (nI y)), some (.int (nI 2)), some (.int (nI t)), some (.int (nI (3 * y + t))), some (.int (nI j)), some (.int (pb (20 * (3 * y + t) + j)))] [] [gO m 9 [.ref f0, .ref f1, .ref f2, .ref f3, .ref f4, .ref f5, .ref f6, .ref f7, .ref f8, .ref f9, .ref f10], gO f4 7 [.int (nI 20), .ref q0, .ref q1], gA E q0 120 pl, gA E q1 2400 pb, gO f5 7 [.int (nI 10), .ref e0, .ref e1], gA E e0 15 nl, gA E e1 150 nb, gO f9 1 [.ref ob, .int (nI (((W ++ wP pb (wN nb (10 * (3 * 2 + t)) (nml (3 * 2 + t))) (sh 2) (20 * (3 * y + t)) j) ++ (wD1 (sh 2) ++ wD2 (sh 2) ++ [wD3 (sh 2)])).length))], gA E ob 2412 o2_90, gGrid E f7 5 (fun i => some (gr i)), gA E (gr 0) 5 w0, gA E (gr 1) 5 w1, gA E (gr 2) 5 w2, gA E (gr 3) 5 w3, gA E (gr 4) 5 w4]
                refine g_goto (tgt := 105) C dX9_writeLine_93 (by decide) ?_
                refine gg.less (ll' := [some (.ref m), some (.int (nI y)), some (.int (nI 2)), some (.int (nI t)), some (.int (nI (3 * y + t))), some (.int (nI j)), none]) (by intro i v h; match i, h with | 0, h => exact h | 1, h => exact h | 2, h => exact h | 3, h => exact h | 4, h => exact h | 5, h => exact h | 6, h => exact absurd h (by simp) | (i + 7), h => exact absurd h (by simp)) ?_
                have hw_ : W ++ wP pb (wN nb (10 * (3 * 2 + t)) (nml (3 * 2 + t))) (sh 2) (20 * (3 * y + t)) j ++ (wD1 (sh 2) ++ wD2 (sh 2) ++ [wD3 (sh 2)]) = W ++ wP pb (wN nb (10 * (3 * 2 + t)) (nml (3 * 2 + t))) (sh 2) (20 * (3 * y + t)) (j + 1) := by rw [List.append_assoc, wP, wC, if_neg c56, if_pos c75]
                rw [hw_]
                refine g_iinc_n (y := 1) C dX9_writeLine_105 rfl (by decide) (by decide) rfl (ll' := [some (.ref m), some (.int (nI y)), some (.int (nI 2)), some (.int (nI t)), some (.int (nI (3 * y + t))), some (.int (nI (j + 1))), none]) rfl ?_
                refine g_goto (tgt := 24) C dX9_writeLine_108 (by decide) ?_
                exact ih24 (j + 1) o2_90 (by omega) (by omega) (by rw [← hw_]; exact ho2_90)
              · refine g_aload_n C dX9_writeLine_78 rfl ?_
                refine g_get C i_X9 0 9 f_67 rfl rfl (by decide) rfl rfl dX9_writeLine_79 ?_
                refine g_aload_n C dX9_writeLine_82 rfl ?_
                refine g_get C i_X9 0 7 f_57 rfl rfl (by decide) rfl rfl dX9_writeLine_83 ?_
                refine g_iload_n C dX9_writeLine_86 rfl ?_
                refine g_aaldG C 9 3 rfl rfl (by omega) (by decide) rfl dX9_writeLine_87 ?_
                refine g_iconst (v := nI 1) C dX9_writeLine_88 (by decide) ?_
                refine g_iald C 13 1 rfl rfl (by omega) (by decide) dX9_writeLine_89 ?_
                refine g_top hv3 ?_
                refine g_callV C (c_X1_putNumber E f9 ob o1 (W ++ wP pb (wN nb (10 * (3 * 3 + t)) (nml (3 * 3 + t))) (sh 3) (20 * (3 * y + t)) j) (sh 3) (by rw [List.length_append]; have := wP_len (pb := pb) (v := sh 3) (b := 20 * (3 * y + t)) (N := (wN nb (10 * (3 * 3 + t)) (nml (3 * 3 + t)))) (by rw [wN_len]; exact (hnl _ (by omega)).2) j; omega) (ho1)) gX9_writeLine_X1_putNumber rfl 1 (by decide +kernel) ⟨by decide, by decide⟩ ⟨by decide, by decide⟩ 7 rfl rfl [7, 8] [0, 1, 2, 3, 4, 5, 6, 9, 10, 11, 12, 13, 14] (wr := [gO m 9 [.ref f0, .ref f1, .ref f2, .ref f3, .ref f4, .ref f5, .ref f6, .ref f7, .ref f8, .ref f9, .ref f10], gO f4 7 [.int (nI 20), .ref q0, .ref q1], gA E q0 120 pl, gA E q1 2400 pb, gO f5 7 [.int (nI 10), .ref e0, .ref e1], gA E e0 15 nl, gA E e1 150 nb, gGrid E f7 5 (fun i => some (gr i)), gA E (gr 0) 5 w0, gA E (gr 1) 5 w1, gA E (gr 2) 5 w2, gA E (gr 3) 5 w3, gA E (gr 4) 5 w4]) rfl (by decide) rfl (by decide) (by decide) rfl rfl (Nat.le_of_ble_eq_true rfl) dX9_writeLine_90 ?_
                rintro _ _ ⟨o2_90, rfl, rfl, ho2_90⟩
                refine gg.perm (ws' := [gO m 9 [.ref f0, .ref f1, .ref f2, .ref f3, .ref f4, .ref f5, .ref f6, .ref f7, .ref f8, .ref f9, .ref f10], gO f4 7 [.int (nI 20), .ref q0, .ref q1], gA E q0 120 pl, gA E q1 2400 pb, gO f5 7 [.int (nI 10), .ref e0, .ref e1], gA E e0 15 nl, gA E e1 150 nb, gO f9 1 [.ref ob, .int (nI (((W ++ wP pb (wN nb (10 * (3 * 3 + t)) (nml (3 * 3 + t))) (sh 3) (20 * (3 * y + t)) j) ++ (wD1 (sh 3) ++ wD2 (sh 3) ++ [wD3 (sh 3)])).length))], gA E ob 2412 o2_90, gGrid E f7 5 (fun i => some (gr i)), gA E (gr 0) 5 w0, gA E (gr 1) 5 w1, gA E (gr 2) 5 w2, gA E (gr 3) 5 w3, gA E (gr 4) 5 w4]) [0, 1, 2, 3, 4, 5, 6, 13, 14, 7, 8, 9, 10, 11, 12] (by decide) rfl ?_
                show gg E _ 7 X 0 0 93 [some (.ref m), some (.int (nI y)), some (.int (nI 3)), some (.int (nI t)), some (.int (nI (3 * y + t))), some (.int (nI j)), some (.int (pb (20 * (3 * y + t) + j)))] [] [gO m 9 [.ref f0, .ref f1, .ref f2, .ref f3, .ref f4, .ref f5, .ref f6, .ref f7, .ref f8, .ref f9, .ref f10], gO f4 7 [.int (nI 20), .ref q0, .ref q1], gA E q0 120 pl, gA E q1 2400 pb, gO f5 7 [.int (nI 10), .ref e0, .ref e1], gA E e0 15 nl, gA E e1 150 nb, gO f9 1 [.ref ob, .int (nI (((W ++ wP pb (wN nb (10 * (3 * 3 + t)) (nml (3 * 3 + t))) (sh 3) (20 * (3 * y + t)) j) ++ (wD1 (sh 3) ++ wD2 (sh 3) ++ [wD3 (sh 3)])).length))], gA E ob 2412 o2_90, gGrid E f7 5 (fun i => some (gr i)), gA E (gr 0) 5 w0, gA E (gr 1) 5 w1, gA E (gr 2) 5 w2, gA E (gr 3) 5 w3, gA E (gr 4) 5 w4]
                refine g_goto (tgt := 105) C dX9_writeLine_93 (by decide) ?_
                refine gg.less (ll' := [some (.ref m), some (.int (nI y)), some (.int (nI 3)), some (.int (nI t)), some (.int (nI (3 * y + t))), some (.int (nI j)), none]) (by intro i v h; match i, h with | 0, h => exact h | 1, h => exact h | 2, h => exact h | 3, h => exact h | 4, h => exact h | 5, h => exact h | 6, h => exact absurd h (by simp) | (i + 7), h => exact absurd h (by simp)) ?_
                have hw_ : W ++ wP pb (wN nb (10 * (3 * 3 + t)) (nml (3 * 3 + t))) (sh 3) (20 * (3 * y + t)) j ++ (wD1 (sh 3) ++ wD2 (sh 3) ++ [wD3 (sh 3)]) = W ++ wP pb (wN nb (10 * (3 * 3 + t)) (nml (3 * 3 + t))) (sh 3) (20 * (3 * y + t)) (j + 1) := by rw [List.append_assoc, wP, wC, if_neg c56, if_pos c75]
                rw [hw_]
                refine g_iinc_n (y := 1) C dX9_writeLine_105 rfl (by decide) (by decide) rfl (ll' := [some (.ref m), some (.int (nI y)), some (.int (nI 3)), some (.int (nI t)), some (.int (nI (3 * y + t))), some (.int (nI (j + 1))), none]) rfl ?_
                refine g_goto (tgt := 24) C dX9_writeLine_108 (by decide) ?_
                exact ih24 (j + 1) o2_90 (by omega) (by omega) (by rw [← hw_]; exact ho2_90)
              · refine g_aload_n C dX9_writeLine_78 rfl ?_
                refine g_get C i_X9 0 9 f_67 rfl rfl (by decide) rfl rfl dX9_writeLine_79 ?_
                refine g_aload_n C dX9_writeLine_82 rfl ?_
                refine g_get C i_X9 0 7 f_57 rfl rfl (by decide) rfl rfl dX9_writeLine_83 ?_
                refine g_iload_n C dX9_writeLine_86 rfl ?_
                refine g_aaldG C 9 4 rfl rfl (by omega) (by decide) rfl dX9_writeLine_87 ?_
                refine g_iconst (v := nI 1) C dX9_writeLine_88 (by decide) ?_
                refine g_iald C 14 1 rfl rfl (by omega) (by decide) dX9_writeLine_89 ?_
                refine g_top hv4 ?_
                refine g_callV C (c_X1_putNumber E f9 ob o1 (W ++ wP pb (wN nb (10 * (3 * 4 + t)) (nml (3 * 4 + t))) (sh 4) (20 * (3 * y + t)) j) (sh 4) (by rw [List.length_append]; have := wP_len (pb := pb) (v := sh 4) (b := 20 * (3 * y + t)) (N := (wN nb (10 * (3 * 4 + t)) (nml (3 * 4 + t)))) (by rw [wN_len]; exact (hnl _ (by omega)).2) j; omega) (ho1)) gX9_writeLine_X1_putNumber rfl 1 (by decide +kernel) ⟨by decide, by decide⟩ ⟨by decide, by decide⟩ 7 rfl rfl [7, 8] [0, 1, 2, 3, 4, 5, 6, 9, 10, 11, 12, 13, 14] (wr := [gO m 9 [.ref f0, .ref f1, .ref f2, .ref f3, .ref f4, .ref f5, .ref f6, .ref f7, .ref f8, .ref f9, .ref f10], gO f4 7 [.int (nI 20), .ref q0, .ref q1], gA E q0 120 pl, gA E q1 2400 pb, gO f5 7 [.int (nI 10), .ref e0, .ref e1], gA E e0 15 nl, gA E e1 150 nb, gGrid E f7 5 (fun i => some (gr i)), gA E (gr 0) 5 w0, gA E (gr 1) 5 w1, gA E (gr 2) 5 w2, gA E (gr 3) 5 w3, gA E (gr 4) 5 w4]) rfl (by decide) rfl (by decide) (by decide) rfl rfl (Nat.le_of_ble_eq_true rfl) dX9_writeLine_90 ?_
                rintro _ _ ⟨o2_90, rfl, rfl, ho2_90⟩
                refine gg.perm (ws' := [gO m 9 [.ref f0, .ref f1, .ref f2, .ref f3, .ref f4, .ref f5, .ref f6, .ref f7, .ref f8, .ref f9, .ref f10], gO f4 7 [.int (nI 20), .ref q0, .ref q1], gA E q0 120 pl, gA E q1 2400 pb, gO f5 7 [.int (nI 10), .ref e0, .ref e1], gA E e0 15 nl, gA E e1 150 nb, gO f9 1 [.ref ob, .int (nI (((W ++ wP pb (wN nb (10 * (3 * 4 + t)) (nml (3 * 4 + t))) (sh 4) (20 * (3 * y + t)) j) ++ (wD1 (sh 4) ++ wD2 (sh 4) ++ [wD3 (sh 4)])).length))], gA E ob 2412 o2_90, gGrid E f7 5 (fun i => some (gr i)), gA E (gr 0) 5 w0, gA E (gr 1) 5 w1, gA E (gr 2) 5 w2, gA E (gr 3) 5 w3, gA E (gr 4) 5 w4]) [0, 1, 2, 3, 4, 5, 6, 13, 14, 7, 8, 9, 10, 11, 12] (by decide) rfl ?_
                show gg E _ 7 X 0 0 93 [some (.ref m), some (.int (nI y)), some (.int (nI 4)), some (.int (nI t)), some (.int (nI (3 * y + t))), some (.int (nI j)), some (.int (pb (20 * (3 * y + t) + j)))] [] [gO m 9 [.ref f0, .ref f1, .ref f2, .ref f3, .ref f4, .ref f5, .ref f6, .ref f7, .ref f8, .ref f9, .ref f10], gO f4 7 [.int (nI 20), .ref q0, .ref q1], gA E q0 120 pl, gA E q1 2400 pb, gO f5 7 [.int (nI 10), .ref e0, .ref e1], gA E e0 15 nl, gA E e1 150 nb, gO f9 1 [.ref ob, .int (nI (((W ++ wP pb (wN nb (10 * (3 * 4 + t)) (nml (3 * 4 + t))) (sh 4) (20 * (3 * y + t)) j) ++ (wD1 (sh 4) ++ wD2 (sh 4) ++ [wD3 (sh 4)])).length))], gA E ob 2412 o2_90, gGrid E f7 5 (fun i => some (gr i)), gA E (gr 0) 5 w0, gA E (gr 1) 5 w1, gA E (gr 2) 5 w2, gA E (gr 3) 5 w3, gA E (gr 4) 5 w4]
                refine g_goto (tgt := 105) C dX9_writeLine_93 (by decide) ?_
                refine gg.less (ll' := [some (.ref m), some (.int (nI y)), some (.int (nI 4)), some (.int (nI t)), some (.int (nI (3 * y + t))), some (.int (nI j)), none]) (by intro i v h; match i, h with | 0, h => exact h | 1, h => exact h | 2, h => exact h | 3, h => exact h | 4, h => exact h | 5, h => exact h | 6, h => exact absurd h (by simp) | (i + 7), h => exact absurd h (by simp)) ?_
                have hw_ : W ++ wP pb (wN nb (10 * (3 * 4 + t)) (nml (3 * 4 + t))) (sh 4) (20 * (3 * y + t)) j ++ (wD1 (sh 4) ++ wD2 (sh 4) ++ [wD3 (sh 4)]) = W ++ wP pb (wN nb (10 * (3 * 4 + t)) (nml (3 * 4 + t))) (sh 4) (20 * (3 * y + t)) (j + 1) := by rw [List.append_assoc, wP, wC, if_neg c56, if_pos c75]
                rw [hw_]
                refine g_iinc_n (y := 1) C dX9_writeLine_105 rfl (by decide) (by decide) rfl (ll' := [some (.ref m), some (.int (nI y)), some (.int (nI 4)), some (.int (nI t)), some (.int (nI (3 * y + t))), some (.int (nI (j + 1))), none]) rfl ?_
                refine g_goto (tgt := 24) C dX9_writeLine_108 (by decide) ?_
                exact ih24 (j + 1) o2_90 (by omega) (by omega) (by rw [← hw_]; exact ho2_90)
          · refine g_aload_n C dX9_writeLine_59 rfl ?_
            refine g_iload_n C dX9_writeLine_60 rfl ?_
            refine g_iload_n C dX9_writeLine_61 rfl ?_
            refine g_callS C (c_X9_rowOf E s t ) gX9_writeLine_X9_rowOf rfl 2 (by decide +kernel) ⟨by decide, by decide⟩ ⟨by decide, by decide⟩ [] [0, 1, 2, 3, 4, 5, 6, 7, 8, 9, 10, 11, 12, 13, 14] (wr := [gO m 9 [.ref f0, .ref f1, .ref f2, .ref f3, .ref f4, .ref f5, .ref f6, .ref f7, .ref f8, .ref f9, .ref f10], gO f4 7 [.int (nI 20), .ref q0, .ref q1], gA E q0 120 pl, gA E q1 2400 pb, gO f5 7 [.int (nI 10), .ref e0, .ref e1], gA E e0 15 nl, gA E e1 150 nb, gO f9 1 [.ref ob, .int (nI ((W ++ wP pb (wN nb (10 * (3 * s + t)) (nml (3 * s + t))) (sh s) (20 * (3 * y + t)) j).length))], gA E ob 2412 o1, gGrid E f7 5 (fun i => some (gr i)), gA E (gr 0) 5 w0, gA E (gr 1) 5 w1, gA E (gr 2) 5 w2, gA E (gr 3) 5 w3, gA E (gr 4) 5 w4]) rfl (by decide) rfl (by decide) (by decide) rfl rfl (Nat.le_of_ble_eq_true rfl) dX9_writeLine_62 ?_
            rintro _ _ ⟨rfl, rfl⟩
            show gg E _ 7 X 0 0 65 [some (.ref m), some (.int (nI y)), some (.int (nI s)), some (.int (nI t)), some (.int (nI (3 * y + t))), some (.int (nI j)), some (.int (pb (20 * (3 * y + t) + j)))] [.int (nI (3 * s + t)), .ref m] [gO m 9 [.ref f0, .ref f1, .ref f2, .ref f3, .ref f4, .ref f5, .ref f6, .ref f7, .ref f8, .ref f9, .ref f10], gO f4 7 [.int (nI 20), .ref q0, .ref q1], gA E q0 120 pl, gA E q1 2400 pb, gO f5 7 [.int (nI 10), .ref e0, .ref e1], gA E e0 15 nl, gA E e1 150 nb, gO f9 1 [.ref ob, .int (nI ((W ++ wP pb (wN nb (10 * (3 * s + t)) (nml (3 * s + t))) (sh s) (20 * (3 * y + t)) j).length))], gA E ob 2412 o1, gGrid E f7 5 (fun i => some (gr i)), gA E (gr 0) 5 w0, gA E (gr 1) 5 w1, gA E (gr 2) 5 w2, gA E (gr 3) 5 w3, gA E (gr 4) 5 w4]
            refine g_callV C (c_X9_writeName E m f0 f1 f2 f3 f4 f5 f6 f7 f8 f9 f10 e0 e1 ob nl nb o1 nml (W ++ wP pb (wN nb (10 * (3 * s + t)) (nml (3 * s + t))) (sh s) (20 * (3 * y + t)) j) (3 * s + t) (by omega) (hnl) (by rw [List.length_append]; have := wP_len (pb := pb) (v := sh s) (b := 20 * (3 * y + t)) (N := (wN nb (10 * (3 * s + t)) (nml (3 * s + t)))) (by rw [wN_len]; exact (hnl _ (by omega)).2) j; omega) (ho1)) gX9_writeLine_X9_writeName rfl 1 (by decide +kernel) ⟨by decide, by decide⟩ ⟨by decide, by decide⟩ 0 rfl rfl [0, 4, 5, 6, 7, 8] [1, 2, 3, 9, 10, 11, 12, 13, 14] (wr := [gO f4 7 [.int (nI 20), .ref q0, .ref q1], gA E q0 120 pl, gA E q1 2400 pb, gGrid E f7 5 (fun i => some (gr i)), gA E (gr 0) 5 w0, gA E (gr 1) 5 w1, gA E (gr 2) 5 w2, gA E (gr 3) 5 w3, gA E (gr 4) 5 w4]) rfl (by decide) rfl (by decide) (by decide) rfl rfl (Nat.le_of_ble_eq_true rfl) dX9_writeLine_65 ?_
            rintro _ _ ⟨o2_65, rfl, rfl, ho2_65⟩
            refine gg.perm (ws' := [gO m 9 [.ref f0, .ref f1, .ref f2, .ref f3, .ref f4, .ref f5, .ref f6, .ref f7, .ref f8, .ref f9, .ref f10], gO f4 7 [.int (nI 20), .ref q0, .ref q1], gA E q0 120 pl, gA E q1 2400 pb, gO f5 7 [.int (nI 10), .ref e0, .ref e1], gA E e0 15 nl, gA E e1 150 nb, gO f9 1 [.ref ob, .int (nI (((W ++ wP pb (wN nb (10 * (3 * s + t)) (nml (3 * s + t))) (sh s) (20 * (3 * y + t)) j) ++ wN nb (10 * (3 * s + t)) (nml (3 * s + t))).length))], gA E ob 2412 o2_65, gGrid E f7 5 (fun i => some (gr i)), gA E (gr 0) 5 w0, gA E (gr 1) 5 w1, gA E (gr 2) 5 w2, gA E (gr 3) 5 w3, gA E (gr 4) 5 w4]) [9, 0, 1, 2, 10, 11, 12, 13, 14, 3, 4, 5, 6, 7, 8] (by decide) rfl ?_
            show gg E _ 7 X 0 0 68 [some (.ref m), some (.int (nI y)), some (.int (nI s)), some (.int (nI t)), some (.int (nI (3 * y + t))), some (.int (nI j)), some (.int (pb (20 * (3 * y + t) + j)))] [] [gO m 9 [.ref f0, .ref f1, .ref f2, .ref f3, .ref f4, .ref f5, .ref f6, .ref f7, .ref f8, .ref f9, .ref f10], gO f4 7 [.int (nI 20), .ref q0, .ref q1], gA E q0 120 pl, gA E q1 2400 pb, gO f5 7 [.int (nI 10), .ref e0, .ref e1], gA E e0 15 nl, gA E e1 150 nb, gO f9 1 [.ref ob, .int (nI (((W ++ wP pb (wN nb (10 * (3 * s + t)) (nml (3 * s + t))) (sh s) (20 * (3 * y + t)) j) ++ wN nb (10 * (3 * s + t)) (nml (3 * s + t))).length))], gA E ob 2412 o2_65, gGrid E f7 5 (fun i => some (gr i)), gA E (gr 0) 5 w0, gA E (gr 1) 5 w1, gA E (gr 2) 5 w2, gA E (gr 3) 5 w3, gA E (gr 4) 5 w4]
            refine g_goto (tgt := 105) C dX9_writeLine_68 (by decide) ?_
            refine gg.less (ll' := [some (.ref m), some (.int (nI y)), some (.int (nI s)), some (.int (nI t)), some (.int (nI (3 * y + t))), some (.int (nI j)), none]) (by intro i v h; match i, h with | 0, h => exact h | 1, h => exact h | 2, h => exact h | 3, h => exact h | 4, h => exact h | 5, h => exact h | 6, h => exact absurd h (by simp) | (i + 7), h => exact absurd h (by simp)) ?_
            have hw_ : W ++ wP pb (wN nb (10 * (3 * s + t)) (nml (3 * s + t))) (sh s) (20 * (3 * y + t)) j ++ (wN nb (10 * (3 * s + t)) (nml (3 * s + t))) = W ++ wP pb (wN nb (10 * (3 * s + t)) (nml (3 * s + t))) (sh s) (20 * (3 * y + t)) (j + 1) := by rw [List.append_assoc, wP, wC, if_pos c56]
            rw [hw_]
            refine g_iinc_n (y := 1) C dX9_writeLine_105 rfl (by decide) (by decide) rfl (ll' := [some (.ref m), some (.int (nI y)), some (.int (nI s)), some (.int (nI t)), some (.int (nI (3 * y + t))), some (.int (nI (j + 1))), none]) rfl ?_
            refine g_goto (tgt := 24) C dX9_writeLine_108 (by decide) ?_
            exact ih24 (j + 1) o2_65 (by omega) (by omega) (by rw [← hw_]; exact ho2_65)
    exact L24 _ 0 o (Nat.lt_succ_self _) (by omega) (by rw [wP, List.append_nil]; exact ho)
  · exact g_vret C Rt dX9_writeLine_20 (by decide) (by decide) (⟨_, rfl, by rw [wLn, if_pos c17, List.append_nil], by rw [wLn, if_pos c17, List.append_nil]; exact ho⟩)

abbrev rm_c_X9_write_ok : Room := { frames := 6, cells := 0, slots := 0, locals := 138 }
set_option maxHeartbeats 4000000 in
set_option maxRecDepth 100000 in
theorem c_X9_write_ok (E : gE) (m f0 f1 f2 f3 f4 f5 f6 f7 f8 f9 f10 : Nat) (a0 a1 a2 a3 a4 : Nat) (cnt : Nat) (ms sk pt md ri : Nat → Int32) (jb jh : Nat) (jp : Nat → Int32) (k0 k1 k2 k3 nr us : Nat) (bs bk st co : Nat → Int32) (pg x0 x1 x2 : Nat → Nat) (n : Nat) (sa ss ru : Nat → Int32) (gr : Nat → Nat) (w0 w1 w2 w3 w4 : Nat → Int32) (sn : Nat → Nat) (P : Nat) (q0 q1 e0 e1 ob : Nat) (pl pb nl nb o : Nat → Int32) (phl nml : Nat → Nat) (sy : Nat → Nat) (on t : Nat) (hcnt : cnt ≤ 10) (hP : P < 8) (hms : okM ms cnt) (hmd : ∀ s, s < 5 → md s = meV ms sk pt cnt s) (hnr : nr ≤ 12) (hst : ∀ q, q ≤ nr → st q = nI (sn q)) (hok : okB nr sn co) (ht : t < 3) (hpl : okT pl 120 20 phl) (hnl : okT nl 15 10 nml) (hsy : ∀ r, r < nr → bs r = nI (sy r) ∧ sy r < 40) : MM E yX9_write wsX9_write rm_c_X9_write_ok [.ref m, .int (nI P), .int (nI t)] [gO m 9 [.ref f0, .ref f1, .ref f2, .ref f3, .ref f4, .ref f5, .ref f6, .ref f7, .ref f8, .ref f9, .ref f10], gO f0 3 [.ref a0, .ref a1, .ref a2, .ref a3, .ref a4, .int (nI cnt)], gA E a0 10 ms, gA E a1 10 sk, gA E a2 80 pt, gA E a3 5 md, gA E a4 8 ri, gO f3 0 [.ref jb, .int (nI jh)], gA E jb 32 jp, gO f10 4 [.ref k0, .ref k1, .ref k2, .ref k3, .int (nI nr), .int (nI us)], gA E k0 12 bs, gA E k1 12 bk, gA E k2 13 st, gA E k3 600 co, gRow E f6 8 (fun i => some (pg i)), gO (pg P) 2 [.ref (x0 P), .ref (x1 P), .ref (x2 P), .int (nI n)], gA E (x0 P) 12 sa, gA E (x1 P) 12 ss, gA E (x2 P) 12 ru, gGrid E f7 5 (fun i => some (gr i)), gA E (gr 0) 5 w0, gA E (gr 1) 5 w1, gA E (gr 2) 5 w2, gA E (gr 3) 5 w3, gA E (gr 4) 5 w4, gO f4 7 [.int (nI 20), .ref q0, .ref q1], gA E q0 120 pl, gA E q1 2400 pb, gO f5 7 [.int (nI 10), .ref e0, .ref e1], gA E e0 15 nl, gA E e1 150 nb, gO f9 1 [.ref ob, .int (nI on)], gA E ob 2412 o] (fun rv_ ru_ => ∃ (jh2 : Nat) (jp2 sa2 ss2 ru2 v0 v1 v2 v3 v4 o2 : Nat → Int32), rv_ = some (.int (nI ((wPg phl nml sy pb nb (fun s => shV ms pt P (mkN sk pt P s cnt) cnt) (pgA bs bk (soF (ioF ms sk pt cnt P) co sn) (fun s => mkN sk pt P s cnt) nr) t ((pgA bs bk (soF (ioF ms sk pt cnt P) co sn) (fun s => mkN sk pt P s cnt) nr).length)).length))) ∧ ru_ = [gO m 9 [.ref f0, .ref f1, .ref f2, .ref f3, .ref f4, .ref f5, .ref f6, .ref f7, .ref f8, .ref f9, .ref f10], gO f0 3 [.ref a0, .ref a1, .ref a2, .ref a3, .ref a4, .int (nI cnt)], gA E a0 10 ms, gA E a1 10 sk, gA E a2 80 pt, gA E a3 5 md, gA E a4 8 ri, gO f3 0 [.ref jb, .int (nI jh2)], gA E jb 32 jp2, gO f10 4 [.ref k0, .ref k1, .ref k2, .ref k3, .int (nI nr), .int (nI us)], gA E k0 12 bs, gA E k1 12 bk, gA E k2 13 st, gA E k3 600 co, gRow E f6 8 (fun i => some (pg i)), gO (pg P) 2 [.ref (x0 P), .ref (x1 P), .ref (x2 P), .int (nI ((pgA bs bk (soF (ioF ms sk pt cnt P) co sn) (fun s => mkN sk pt P s cnt) nr).length))], gA E (x0 P) 12 sa2, gA E (x1 P) 12 ss2, gA E (x2 P) 12 ru2, gGrid E f7 5 (fun i => some (gr i)), gA E (gr 0) 5 v0, gA E (gr 1) 5 v1, gA E (gr 2) 5 v2, gA E (gr 3) 5 v3, gA E (gr 4) 5 v4, gO f4 7 [.int (nI 20), .ref q0, .ref q1], gA E q0 120 pl, gA E q1 2400 pb, gO f5 7 [.int (nI 10), .ref e0, .ref e1], gA E e0 15 nl, gA E e1 150 nb, gO f9 1 [.ref ob, .int (nI ((wPg phl nml sy pb nb (fun s => shV ms pt P (mkN sk pt P s cnt) cnt) (pgA bs bk (soF (ioF ms sk pt cnt P) co sn) (fun s => mkN sk pt P s cnt) nr) t ((pgA bs bk (soF (ioF ms sk pt cnt P) co sn) (fun s => mkN sk pt P s cnt) nr).length)).length))], gA E ob 2412 o2] ∧ (oR (wPg phl nml sy pb nb (fun s => shV ms pt P (mkN sk pt P s cnt) cnt) (pgA bs bk (soF (ioF ms sk pt cnt P) co sn) (fun s => mkN sk pt P s cnt) nr) t ((pgA bs bk (soF (ioF ms sk pt cnt P) co sn) (fun s => mkN sk pt P s cnt) nr).length)) o2)) := by
  refine MM.ofG (cc := cX9_write) (maxL := 5) (ret := (some .int)) (by decide) rfl (Nat.le_of_ble_eq_true rfl) (ll := [some (.ref m), some (.int (nI P)), some (.int (nI t)), none, none]) rfl ?_
  intro X C Rt
  have C : gx E X cX9_write 5 wsX9_write RX9 := C
  have i_X1 : ∀ w ∈ u_ws RX1 TX1 2, w ∈ wsX9_write := by decide +kernel
  have i_X2 : ∀ w ∈ u_ws RX2 TX2 4, w ∈ wsX9_write := by decide +kernel
  have i_X9 : ∀ w ∈ u_ws RX9 TX9 11, w ∈ wsX9_write := by decide +kernel
  have f_156 : Cond.fieldLink RX9 156 "MarkPages$Page" "count" "I" ∈ wsX9_write := by decide +kernel
  have f_157 : Cond.fieldLink RX9 157 "MarkPages$Page" "sayings" "[I" ∈ wsX9_write := by decide +kernel
  have f_160 : Cond.fieldLink RX9 160 "MarkPages$Page" "skills" "[I" ∈ wsX9_write := by decide +kernel
  have f_170 : Cond.fieldLink RX9 170 "MarkPages$Out" "count" "I" ∈ wsX9_write := by decide +kernel
  have f_67 : Cond.fieldLink RX9 67 "MarkPages" "written" "LMarkPages$Out;" ∈ wsX9_write := by decide +kernel
  refine g_iload_n C dX9_write_0 rfl ?_
  refine g_callS C (c_X9_isPupil_y E P (by omega)) gX9_write_X9_isPupil rfl 1 (by decide +kernel) ⟨by decide, by decide⟩ ⟨by decide, by decide⟩ [] [0, 1, 2, 3, 4, 5, 6, 7, 8, 9, 10, 11, 12, 13, 14, 15, 16, 17, 18, 19, 20, 21, 22, 23, 24, 25, 26, 27, 28, 29, 30, 31, 32] (wr := [gO m 9 [.ref f0, .ref f1, .ref f2, .ref f3, .ref f4, .ref f5, .ref f6, .ref f7, .ref f8, .ref f9, .ref f10], gO f0 3 [.ref a0, .ref a1, .ref a2, .ref a3, .ref a4, .int (nI cnt)], gA E a0 10 ms, gA E a1 10 sk, gA E a2 80 pt, gA E a3 5 md, gA E a4 8 ri, gO f3 0 [.ref jb, .int (nI jh)], gA E jb 32 jp, gO f10 4 [.ref k0, .ref k1, .ref k2, .ref k3, .int (nI nr), .int (nI us)], gA E k0 12 bs, gA E k1 12 bk, gA E k2 13 st, gA E k3 600 co, gRow E f6 8 (fun i => some (pg i)), gO (pg P) 2 [.ref (x0 P), .ref (x1 P), .ref (x2 P), .int (nI n)], gA E (x0 P) 12 sa, gA E (x1 P) 12 ss, gA E (x2 P) 12 ru, gGrid E f7 5 (fun i => some (gr i)), gA E (gr 0) 5 w0, gA E (gr 1) 5 w1, gA E (gr 2) 5 w2, gA E (gr 3) 5 w3, gA E (gr 4) 5 w4, gO f4 7 [.int (nI 20), .ref q0, .ref q1], gA E q0 120 pl, gA E q1 2400 pb, gO f5 7 [.int (nI 10), .ref e0, .ref e1], gA E e0 15 nl, gA E e1 150 nb, gO f9 1 [.ref ob, .int (nI on)], gA E ob 2412 o]) rfl (by decide) rfl (by decide) (by decide) rfl rfl (Nat.le_of_ble_eq_true rfl) dX9_write_1 ?_
  rintro _ _ ⟨rfl, rfl⟩
  show gg E _ 5 X 0 0 4 [some (.ref m), some (.int (nI P)), some (.int (nI t)), none, none] [.int (nI 1)] [gO m 9 [.ref f0, .ref f1, .ref f2, .ref f3, .ref f4, .ref f5, .ref f6, .ref f7, .ref f8, .ref f9, .ref f10], gO f0 3 [.ref a0, .ref a1, .ref a2, .ref a3, .ref a4, .int (nI cnt)], gA E a0 10 ms, gA E a1 10 sk, gA E a2 80 pt, gA E a3 5 md, gA E a4 8 ri, gO f3 0 [.ref jb, .int (nI jh)], gA E jb 32 jp, gO f10 4 [.ref k0, .ref k1, .ref k2, .ref k3, .int (nI nr), .int (nI us)], gA E k0 12 bs, gA E k1 12 bk, gA E k2 13 st, gA E k3 600 co, gRow E f6 8 (fun i => some (pg i)), gO (pg P) 2 [.ref (x0 P), .ref (x1 P), .ref (x2 P), .int (nI n)], gA E (x0 P) 12 sa, gA E (x1 P) 12 ss, gA E (x2 P) 12 ru, gGrid E f7 5 (fun i => some (gr i)), gA E (gr 0) 5 w0, gA E (gr 1) 5 w1, gA E (gr 2) 5 w2, gA E (gr 3) 5 w3, gA E (gr 4) 5 w4, gO f4 7 [.int (nI 20), .ref q0, .ref q1], gA E q0 120 pl, gA E q1 2400 pb, gO f5 7 [.int (nI 10), .ref e0, .ref e1], gA E e0 15 nl, gA E e1 150 nb, gO f9 1 [.ref ob, .int (nI on)], gA E ob 2412 o]
  refine g_if_eq (tgt := 14) C dX9_write_4 (by decide) (fun c4 => absurd c4 (by decide)) (fun c4 => ?_)
  refine g_iload_n C dX9_write_7 rfl ?_
  refine g_callS C (c_X9_isTongue_y E t (by omega)) gX9_write_X9_isTongue rfl 1 (by decide +kernel) ⟨by decide, by decide⟩ ⟨by decide, by decide⟩ [] [0, 1, 2, 3, 4, 5, 6, 7, 8, 9, 10, 11, 12, 13, 14, 15, 16, 17, 18, 19, 20, 21, 22, 23, 24, 25, 26, 27, 28, 29, 30, 31, 32] (wr := [gO m 9 [.ref f0, .ref f1, .ref f2, .ref f3, .ref f4, .ref f5, .ref f6, .ref f7, .ref f8, .ref f9, .ref f10], gO f0 3 [.ref a0, .ref a1, .ref a2, .ref a3, .ref a4, .int (nI cnt)], gA E a0 10 ms, gA E a1 10 sk, gA E a2 80 pt, gA E a3 5 md, gA E a4 8 ri, gO f3 0 [.ref jb, .int (nI jh)], gA E jb 32 jp, gO f10 4 [.ref k0, .ref k1, .ref k2, .ref k3, .int (nI nr), .int (nI us)], gA E k0 12 bs, gA E k1 12 bk, gA E k2 13 st, gA E k3 600 co, gRow E f6 8 (fun i => some (pg i)), gO (pg P) 2 [.ref (x0 P), .ref (x1 P), .ref (x2 P), .int (nI n)], gA E (x0 P) 12 sa, gA E (x1 P) 12 ss, gA E (x2 P) 12 ru, gGrid E f7 5 (fun i => some (gr i)), gA E (gr 0) 5 w0, gA E (gr 1) 5 w1, gA E (gr 2) 5 w2, gA E (gr 3) 5 w3, gA E (gr 4) 5 w4, gO f4 7 [.int (nI 20), .ref q0, .ref q1], gA E q0 120 pl, gA E q1 2400 pb, gO f5 7 [.int (nI 10), .ref e0, .ref e1], gA E e0 15 nl, gA E e1 150 nb, gO f9 1 [.ref ob, .int (nI on)], gA E ob 2412 o]) rfl (by decide) rfl (by decide) (by decide) rfl rfl (Nat.le_of_ble_eq_true rfl) dX9_write_8 ?_
  rintro _ _ ⟨rfl, rfl⟩
  show gg E _ 5 X 0 0 11 [some (.ref m), some (.int (nI P)), some (.int (nI t)), none, none] [.int (nI 1)] [gO m 9 [.ref f0, .ref f1, .ref f2, .ref f3, .ref f4, .ref f5, .ref f6, .ref f7, .ref f8, .ref f9, .ref f10], gO f0 3 [.ref a0, .ref a1, .ref a2, .ref a3, .ref a4, .int (nI cnt)], gA E a0 10 ms, gA E a1 10 sk, gA E a2 80 pt, gA E a3 5 md, gA E a4 8 ri, gO f3 0 [.ref jb, .int (nI jh)], gA E jb 32 jp, gO f10 4 [.ref k0, .ref k1, .ref k2, .ref k3, .int (nI nr), .int (nI us)], gA E k0 12 bs, gA E k1 12 bk, gA E k2 13 st, gA E k3 600 co, gRow E f6 8 (fun i => some (pg i)), gO (pg P) 2 [.ref (x0 P), .ref (x1 P), .ref (x2 P), .int (nI n)], gA E (x0 P) 12 sa, gA E (x1 P) 12 ss, gA E (x2 P) 12 ru, gGrid E f7 5 (fun i => some (gr i)), gA E (gr 0) 5 w0, gA E (gr 1) 5 w1, gA E (gr 2) 5 w2, gA E (gr 3) 5 w3, gA E (gr 4) 5 w4, gO f4 7 [.int (nI 20), .ref q0, .ref q1], gA E q0 120 pl, gA E q1 2400 pb, gO f5 7 [.int (nI 10), .ref e0, .ref e1], gA E e0 15 nl, gA E e1 150 nb, gO f9 1 [.ref ob, .int (nI on)], gA E ob 2412 o]
  refine g_if_ne (tgt := 16) C dX9_write_11 (by decide) (fun c11 => ?_) (fun c11 => absurd c11 (by decide))
  refine g_aload_n C dX9_write_16 rfl ?_
  refine g_iload_n C dX9_write_17 rfl ?_
  refine g_callV C (c_X9_freshPage E m f0 f1 f2 f3 f4 f5 f6 f7 f8 f9 f10 a0 a1 a2 a3 a4 cnt ms sk pt md ri jb jh jp k0 k1 k2 k3 nr us bs bk st co pg x0 x1 x2 n sa ss ru gr w0 w1 w2 w3 w4 sn P (by omega) (by omega) (hms) (hmd) (by omega) (hst) (hok)) gX9_write_X9_freshPage rfl 1 (by decide +kernel) ⟨by decide, by decide⟩ ⟨by decide, by decide⟩ 0 rfl rfl [0, 1, 2, 3, 4, 5, 6, 7, 8, 9, 10, 11, 12, 13, 14, 15, 16, 17, 18, 19, 20, 21, 22, 23, 24] [25, 26, 27, 28, 29, 30, 31, 32] (wr := [gO f4 7 [.int (nI 20), .ref q0, .ref q1], gA E q0 120 pl, gA E q1 2400 pb, gO f5 7 [.int (nI 10), .ref e0, .ref e1], gA E e0 15 nl, gA E e1 150 nb, gO f9 1 [.ref ob, .int (nI on)], gA E ob 2412 o]) rfl (by decide) rfl (by decide) (by decide) rfl rfl (Nat.le_of_ble_eq_true rfl) dX9_write_18 ?_
  rintro _ _ ⟨jh2_18, jp2_18, sa2_18, ss2_18, ru2_18, v0_18, v1_18, v2_18, v3_18, v4_18, rfl, rfl, hp_18, hv0_18, hv1_18, hv2_18, hv3_18, hv4_18⟩
  refine gg.perm (ws' := [gO m 9 [.ref f0, .ref f1, .ref f2, .ref f3, .ref f4, .ref f5, .ref f6, .ref f7, .ref f8, .ref f9, .ref f10], gO f0 3 [.ref a0, .ref a1, .ref a2, .ref a3, .ref a4, .int (nI cnt)], gA E a0 10 ms, gA E a1 10 sk, gA E a2 80 pt, gA E a3 5 md, gA E a4 8 ri, gO f3 0 [.ref jb, .int (nI jh2_18)], gA E jb 32 jp2_18, gO f10 4 [.ref k0, .ref k1, .ref k2, .ref k3, .int (nI nr), .int (nI us)], gA E k0 12 bs, gA E k1 12 bk, gA E k2 13 st, gA E k3 600 co, gRow E f6 8 (fun i => some (pg i)), gO (pg P) 2 [.ref (x0 P), .ref (x1 P), .ref (x2 P), .int (nI ((pgA bs bk (soF (ioF ms sk pt cnt P) co sn) (fun s => mkN sk pt P s cnt) nr).length))], gA E (x0 P) 12 sa2_18, gA E (x1 P) 12 ss2_18, gA E (x2 P) 12 ru2_18, gGrid E f7 5 (fun i => some (gr i)), gA E (gr 0) 5 v0_18, gA E (gr 1) 5 v1_18, gA E (gr 2) 5 v2_18, gA E (gr 3) 5 v3_18, gA E (gr 4) 5 v4_18, gO f4 7 [.int (nI 20), .ref q0, .ref q1], gA E q0 120 pl, gA E q1 2400 pb, gO f5 7 [.int (nI 10), .ref e0, .ref e1], gA E e0 15 nl, gA E e1 150 nb, gO f9 1 [.ref ob, .int (nI on)], gA E ob 2412 o]) [8, 9, 10, 11, 12, 13, 14, 15, 16, 17, 18, 19, 20, 21, 22, 23, 24, 25, 26, 27, 28, 29, 30, 31, 32, 0, 1, 2, 3, 4, 5, 6, 7] (by decide) rfl ?_
  show gg E _ 5 X 0 0 21 [some (.ref m), some (.int (nI P)), some (.int (nI t)), none, none] [.ref (pg P)] [gO m 9 [.ref f0, .ref f1, .ref f2, .ref f3, .ref f4, .ref f5, .ref f6, .ref f7, .ref f8, .ref f9, .ref f10], gO f0 3 [.ref a0, .ref a1, .ref a2, .ref a3, .ref a4, .int (nI cnt)], gA E a0 10 ms, gA E a1 10 sk, gA E a2 80 pt, gA E a3 5 md, gA E a4 8 ri, gO f3 0 [.ref jb, .int (nI jh2_18)], gA E jb 32 jp2_18, gO f10 4 [.ref k0, .ref k1, .ref k2, .ref k3, .int (nI nr), .int (nI us)], gA E k0 12 bs, gA E k1 12 bk, gA E k2 13 st, gA E k3 600 co, gRow E f6 8 (fun i => some (pg i)), gO (pg P) 2 [.ref (x0 P), .ref (x1 P), .ref (x2 P), .int (nI ((pgA bs bk (soF (ioF ms sk pt cnt P) co sn) (fun s => mkN sk pt P s cnt) nr).length))], gA E (x0 P) 12 sa2_18, gA E (x1 P) 12 ss2_18, gA E (x2 P) 12 ru2_18, gGrid E f7 5 (fun i => some (gr i)), gA E (gr 0) 5 v0_18, gA E (gr 1) 5 v1_18, gA E (gr 2) 5 v2_18, gA E (gr 3) 5 v3_18, gA E (gr 4) 5 v4_18, gO f4 7 [.int (nI 20), .ref q0, .ref q1], gA E q0 120 pl, gA E q1 2400 pb, gO f5 7 [.int (nI 10), .ref e0, .ref e1], gA E e0 15 nl, gA E e1 150 nb, gO f9 1 [.ref ob, .int (nI on)], gA E ob 2412 o]
  refine g_astore_n C dX9_write_21 (by decide) rfl (ll' := [some (.ref m), some (.int (nI P)), some (.int (nI t)), some (.ref (pg P)), none]) rfl ?_
  have hlen : (pgA bs bk (soF (ioF ms sk pt cnt P) co sn) (fun s => mkN sk pt P s cnt) nr).length ≤ 12 := pgA_len nr
  have hin : pgIn nr (pgA bs bk (soF (ioF ms sk pt cnt P) co sn) (fun s => mkN sk pt P s cnt) nr) := pgA_in nr (Nat.le_refl nr)
  refine g_aload_n C dX9_write_22 rfl ?_
  refine g_get C i_X9 0 9 f_67 rfl rfl (by decide) rfl rfl dX9_write_23 ?_
  refine g_iconst (v := nI 0) C dX9_write_26 (by decide) ?_
  refine g_put C i_X1 tyX1 tyX1_ok nmX1 31 1 f_170 rfl rfl (by decide) rfl rfl rfl rfl rfl (Nat.le_of_ble_eq_true rfl) dX9_write_27 (ws' := [gO m 9 [.ref f0, .ref f1, .ref f2, .ref f3, .ref f4, .ref f5, .ref f6, .ref f7, .ref f8, .ref f9, .ref f10], gO f0 3 [.ref a0, .ref a1, .ref a2, .ref a3, .ref a4, .int (nI cnt)], gA E a0 10 ms, gA E a1 10 sk, gA E a2 80 pt, gA E a3 5 md, gA E a4 8 ri, gO f3 0 [.ref jb, .int (nI jh2_18)], gA E jb 32 jp2_18, gO f10 4 [.ref k0, .ref k1, .ref k2, .ref k3, .int (nI nr), .int (nI us)], gA E k0 12 bs, gA E k1 12 bk, gA E k2 13 st, gA E k3 600 co, gRow E f6 8 (fun i => some (pg i)), gO (pg P) 2 [.ref (x0 P), .ref (x1 P), .ref (x2 P), .int (nI ((pgA bs bk (soF (ioF ms sk pt cnt P) co sn) (fun s => mkN sk pt P s cnt) nr).length))], gA E (x0 P) 12 sa2_18, gA E (x1 P) 12 ss2_18, gA E (x2 P) 12 ru2_18, gGrid E f7 5 (fun i => some (gr i)), gA E (gr 0) 5 v0_18, gA E (gr 1) 5 v1_18, gA E (gr 2) 5 v2_18, gA E (gr 3) 5 v3_18, gA E (gr 4) 5 v4_18, gO f4 7 [.int (nI 20), .ref q0, .ref q1], gA E q0 120 pl, gA E q1 2400 pb, gO f5 7 [.int (nI 10), .ref e0, .ref e1], gA E e0 15 nl, gA E e1 150 nb, gO f9 1 [.ref ob, .int (nI 0)], gA E ob 2412 o]) rfl ?_
  refine g_iconst (v := nI 0) C dX9_write_30 (by decide) ?_
  refine g_istore C dX9_write_31 (by decide) rfl (ll' := [some (.ref m), some (.int (nI P)), some (.int (nI t)), some (.ref (pg P)), some (.int (nI 0))]) rfl ?_
  have L33 : ∀ (n33 : Nat) (i : Nat) (o1 : Nat → Int32), (pgA bs bk (soF (ioF ms sk pt cnt P) co sn) (fun s => mkN sk pt P s cnt) nr).length - i < n33 → (i ≤ (pgA bs bk (soF (ioF ms sk pt cnt P) co sn) (fun s => mkN sk pt P s cnt) nr).length) → (oR (wPg phl nml sy pb nb (fun s => shV ms pt P (mkN sk pt P s cnt) cnt) (pgA bs bk (soF (ioF ms sk pt cnt P) co sn) (fun s => mkN sk pt P s cnt) nr) t i) o1) → gg E rm_c_X9_write_ok 5 X 0 0 33 [some (.ref m), some (.int (nI P)), some (.int (nI t)), some (.ref (pg P)), some (.int (nI i))] [] [gO m 9 [.ref f0, .ref f1, .ref f2, .ref f3, .ref f4, .ref f5, .ref f6, .ref f7, .ref f8, .ref f9, .ref f10], gO f0 3 [.ref a0, .ref a1, .ref a2, .ref a3, .ref a4, .int (nI cnt)], gA E a0 10 ms, gA E a1 10 sk, gA E a2 80 pt, gA E a3 5 md, gA E a4 8 ri, gO f3 0 [.ref jb, .int (nI jh2_18)], gA E jb 32 jp2_18, gO f10 4 [.ref k0, .ref k1, .ref k2, .ref k3, .int (nI nr), .int (nI us)], gA E k0 12 bs, gA E k1 12 bk, gA E k2 13 st, gA E k3 600 co, gRow E f6 8 (fun i => some (pg i)), gO (pg P) 2 [.ref (x0 P), .ref (x1 P), .ref (x2 P), .int (nI ((pgA bs bk (soF (ioF ms sk pt cnt P) co sn) (fun s => mkN sk pt P s cnt) nr).length))], gA E (x0 P) 12 sa2_18, gA E (x1 P) 12 ss2_18, gA E (x2 P) 12 ru2_18, gGrid E f7 5 (fun i => some (gr i)), gA E (gr 0) 5 v0_18, gA E (gr 1) 5 v1_18, gA E (gr 2) 5 v2_18, gA E (gr 3) 5 v3_18, gA E (gr 4) 5 v4_18, gO f4 7 [.int (nI 20), .ref q0, .ref q1], gA E q0 120 pl, gA E q1 2400 pb, gO f5 7 [.int (nI 10), .ref e0, .ref e1], gA E e0 15 nl, gA E e1 150 nb, gO f9 1 [.ref ob, .int (nI ((wPg phl nml sy pb nb (fun s => shV ms pt P (mkN sk pt P s cnt) cnt) (pgA bs bk (soF (ioF ms sk pt cnt P) co sn) (fun s => mkN sk pt P s cnt) nr) t i).length))], gA E ob 2412 o1] := by
    intro n33
    induction n33 with
    | zero => intro i o1 hm33; exact absurd hm33 (Nat.not_lt_zero _)
    | succ n33 ih33 =>
      intro i o1 hm33 hi ho1
      refine g_iload C dX9_write_33 rfl ?_
      refine g_aload_n C dX9_write_35 rfl ?_
      refine g_get C i_X2 15 3 f_156 rfl rfl (by decide) rfl rfl dX9_write_36 ?_
      refine g_icmp_ge_n (tgt := 67) C dX9_write_39 (by decide) (by omega) (by omega) (fun c39 => ?_) (fun c39 => ?_)
      · refine g_aload_n C dX9_write_67 rfl ?_
        refine g_get C i_X9 0 9 f_67 rfl rfl (by decide) rfl rfl dX9_write_68 ?_
        refine g_get C i_X1 31 1 f_170 rfl rfl (by decide) rfl rfl dX9_write_71 ?_
        exact g_iret C Rt dX9_write_74 (by decide) (by decide) (⟨_, _, _, _, _, _, _, _, _, _, _, by rw [show i = (pgA bs bk (soF (ioF ms sk pt cnt P) co sn) (fun s => mkN sk pt P s cnt) nr).length by omega], by rw [show i = (pgA bs bk (soF (ioF ms sk pt cnt P) co sn) (fun s => mkN sk pt P s cnt) nr).length by omega], by rw [← show i = (pgA bs bk (soF (ioF ms sk pt cnt P) co sn) (fun s => mkN sk pt P s cnt) nr).length by omega]; exact ho1⟩)
      · have hq := hin.at c39
        refine g_aload_n C dX9_write_42 rfl ?_
        refine g_aload_n C dX9_write_43 rfl ?_
        refine g_get C i_X2 15 0 f_157 rfl rfl (by decide) rfl rfl dX9_write_44 ?_
        refine g_iload C dX9_write_47 rfl ?_
        refine g_iald C 16 i rfl rfl (by omega) (by decide) dX9_write_49 ?_
        refine g_top ((hp_18 i c39).1.trans (hsy _ hq.1).1) ?_
        refine g_aload_n C dX9_write_50 rfl ?_
        refine g_get C i_X2 15 1 f_160 rfl rfl (by decide) rfl rfl dX9_write_51 ?_
        refine g_iload C dX9_write_54 rfl ?_
        refine g_iald C 17 i rfl rfl (by omega) (by decide) dX9_write_56 ?_
        refine g_top ((hp_18 i c39).2.1) ?_
        refine g_iload_n C dX9_write_57 rfl ?_
        refine g_callV C (c_X9_writeLine E m f0 f1 f2 f3 f4 f5 f6 f7 f8 f9 f10 q0 q1 e0 e1 ob pl pb nl nb o1 phl nml (wPg phl nml sy pb nb (fun s => shV ms pt P (mkN sk pt P s cnt) cnt) (pgA bs bk (soF (ioF ms sk pt cnt P) co sn) (fun s => mkN sk pt P s cnt) nr) t i) gr v0_18 v1_18 v2_18 v3_18 v4_18 (fun s => shV ms pt P (mkN sk pt P s cnt) cnt) (sy ((pgA bs bk (soF (ioF ms sk pt cnt P) co sn) (fun s => mkN sk pt P s cnt) nr).getD i (0, 0)).1) (((pgA bs bk (soF (ioF ms sk pt cnt P) co sn) (fun s => mkN sk pt P s cnt) nr).getD i (0, 0)).2) t ((hsy _ hq.1).2) (hq.2) (by omega) (hpl) (hnl) (by have := wPg_len (pb := pb) (nb := nb) (sh := (fun s => shV ms pt P (mkN sk pt P s cnt) cnt)) (fun q hq => (hpl q hq).2) (fun q hq => (hnl q hq).2) (fun r hr => (hsy r hr).2) hin ht i hi; omega) (ho1) (hv0_18 1 (by decide)) (hv1_18 1 (by decide)) (hv2_18 1 (by decide)) (hv3_18 1 (by decide)) (hv4_18 1 (by decide))) gX9_write_X9_writeLine rfl 3 (by decide +kernel) ⟨by decide, by decide⟩ ⟨by decide, by decide⟩ 0 rfl rfl [0, 25, 26, 27, 28, 29, 30, 31, 32, 19, 20, 21, 22, 23, 24] [1, 2, 3, 4, 5, 6, 7, 8, 9, 10, 11, 12, 13, 14, 15, 16, 17, 18] (wr := [gO f0 3 [.ref a0, .ref a1, .ref a2, .ref a3, .ref a4, .int (nI cnt)], gA E a0 10 ms, gA E a1 10 sk, gA E a2 80 pt, gA E a3 5 md, gA E a4 8 ri, gO f3 0 [.ref jb, .int (nI jh2_18)], gA E jb 32 jp2_18, gO f10 4 [.ref k0, .ref k1, .ref k2, .ref k3, .int (nI nr), .int (nI us)], gA E k0 12 bs, gA E k1 12 bk, gA E k2 13 st, gA E k3 600 co, gRow E f6 8 (fun i => some (pg i)), gO (pg P) 2 [.ref (x0 P), .ref (x1 P), .ref (x2 P), .int (nI ((pgA bs bk (soF (ioF ms sk pt cnt P) co sn) (fun s => mkN sk pt P s cnt) nr).length))], gA E (x0 P) 12 sa2_18, gA E (x1 P) 12 ss2_18, gA E (x2 P) 12 ru2_18]) rfl (by decide) rfl (by decide) (by decide) rfl rfl (Nat.le_of_ble_eq_true rfl) dX9_write_58 ?_
        rintro _ _ ⟨o2_58, rfl, rfl, ho2_58⟩
        refine gg.perm (ws' := [gO m 9 [.ref f0, .ref f1, .ref f2, .ref f3, .ref f4, .ref f5, .ref f6, .ref f7, .ref f8, .ref f9, .ref f10], gO f0 3 [.ref a0, .ref a1, .ref a2, .ref a3, .ref a4, .int (nI cnt)], gA E a0 10 ms, gA E a1 10 sk, gA E a2 80 pt, gA E a3 5 md, gA E a4 8 ri, gO f3 0 [.ref jb, .int (nI jh2_18)], gA E jb 32 jp2_18, gO f10 4 [.ref k0, .ref k1, .ref k2, .ref k3, .int (nI nr), .int (nI us)], gA E k0 12 bs, gA E k1 12 bk, gA E k2 13 st, gA E k3 600 co, gRow E f6 8 (fun i => some (pg i)), gO (pg P) 2 [.ref (x0 P), .ref (x1 P), .ref (x2 P), .int (nI ((pgA bs bk (soF (ioF ms sk pt cnt P) co sn) (fun s => mkN sk pt P s cnt) nr).length))], gA E (x0 P) 12 sa2_18, gA E (x1 P) 12 ss2_18, gA E (x2 P) 12 ru2_18, gGrid E f7 5 (fun i => some (gr i)), gA E (gr 0) 5 v0_18, gA E (gr 1) 5 v1_18, gA E (gr 2) 5 v2_18, gA E (gr 3) 5 v3_18, gA E (gr 4) 5 v4_18, gO f4 7 [.int (nI 20), .ref q0, .ref q1], gA E q0 120 pl, gA E q1 2400 pb, gO f5 7 [.int (nI 10), .ref e0, .ref e1], gA E e0 15 nl, gA E e1 150 nb, gO f9 1 [.ref ob, .int (nI (((wPg phl nml sy pb nb (fun s => shV ms pt P (mkN sk pt P s cnt) cnt) (pgA bs bk (soF (ioF ms sk pt cnt P) co sn) (fun s => mkN sk pt P s cnt) nr) t i) ++ wLn phl nml pb nb ((fun s => shV ms pt P (mkN sk pt P s cnt) cnt) (((pgA bs bk (soF (ioF ms sk pt cnt P) co sn) (fun s => mkN sk pt P s cnt) nr).getD i (0, 0)).2)) (sy ((pgA bs bk (soF (ioF ms sk pt cnt P) co sn) (fun s => mkN sk pt P s cnt) nr).getD i (0, 0)).1) (((pgA bs bk (soF (ioF ms sk pt cnt P) co sn) (fun s => mkN sk pt P s cnt) nr).getD i (0, 0)).2) t).length))], gA E ob 2412 o2_58]) [18, 0, 1, 2, 3, 4, 5, 6, 7, 8, 9, 10, 11, 12, 13, 14, 15, 16, 17, 27, 28, 29, 30, 31, 32, 19, 20, 21, 22, 23, 24, 25, 26] (by decide) rfl ?_
        show gg E _ 5 X 0 0 61 [some (.ref m), some (.int (nI P)), some (.int (nI t)), some (.ref (pg P)), some (.int (nI i))] [] [gO m 9 [.ref f0, .ref f1, .ref f2, .ref f3, .ref f4, .ref f5, .ref f6, .ref f7, .ref f8, .ref f9, .ref f10], gO f0 3 [.ref a0, .ref a1, .ref a2, .ref a3, .ref a4, .int (nI cnt)], gA E a0 10 ms, gA E a1 10 sk, gA E a2 80 pt, gA E a3 5 md, gA E a4 8 ri, gO f3 0 [.ref jb, .int (nI jh2_18)], gA E jb 32 jp2_18, gO f10 4 [.ref k0, .ref k1, .ref k2, .ref k3, .int (nI nr), .int (nI us)], gA E k0 12 bs, gA E k1 12 bk, gA E k2 13 st, gA E k3 600 co, gRow E f6 8 (fun i => some (pg i)), gO (pg P) 2 [.ref (x0 P), .ref (x1 P), .ref (x2 P), .int (nI ((pgA bs bk (soF (ioF ms sk pt cnt P) co sn) (fun s => mkN sk pt P s cnt) nr).length))], gA E (x0 P) 12 sa2_18, gA E (x1 P) 12 ss2_18, gA E (x2 P) 12 ru2_18, gGrid E f7 5 (fun i => some (gr i)), gA E (gr 0) 5 v0_18, gA E (gr 1) 5 v1_18, gA E (gr 2) 5 v2_18, gA E (gr 3) 5 v3_18, gA E (gr 4) 5 v4_18, gO f4 7 [.int (nI 20), .ref q0, .ref q1], gA E q0 120 pl, gA E q1 2400 pb, gO f5 7 [.int (nI 10), .ref e0, .ref e1], gA E e0 15 nl, gA E e1 150 nb, gO f9 1 [.ref ob, .int (nI (((wPg phl nml sy pb nb (fun s => shV ms pt P (mkN sk pt P s cnt) cnt) (pgA bs bk (soF (ioF ms sk pt cnt P) co sn) (fun s => mkN sk pt P s cnt) nr) t i) ++ wLn phl nml pb nb ((fun s => shV ms pt P (mkN sk pt P s cnt) cnt) (((pgA bs bk (soF (ioF ms sk pt cnt P) co sn) (fun s => mkN sk pt P s cnt) nr).getD i (0, 0)).2)) (sy ((pgA bs bk (soF (ioF ms sk pt cnt P) co sn) (fun s => mkN sk pt P s cnt) nr).getD i (0, 0)).1) (((pgA bs bk (soF (ioF ms sk pt cnt P) co sn) (fun s => mkN sk pt P s cnt) nr).getD i (0, 0)).2) t).length))], gA E ob 2412 o2_58]
        refine g_iinc_n (y := 1) C dX9_write_61 rfl (by decide) (by decide) rfl (ll' := [some (.ref m), some (.int (nI P)), some (.int (nI t)), some (.ref (pg P)), some (.int (nI (i + 1)))]) rfl ?_
        refine g_goto (tgt := 33) C dX9_write_64 (by decide) ?_
        exact ih33 (i + 1) o2_58 (by omega) (by omega) (ho2_58)
  exact L33 _ 0 o (Nat.lt_succ_self _) (by omega) (oR.nil)

abbrev rm_c_X9_write_bad : Room := { frames := 6, cells := 0, slots := 0, locals := 138 }
set_option maxHeartbeats 4000000 in
set_option maxRecDepth 100000 in
theorem c_X9_write_bad (E : gE) (m f0 f1 f2 f3 f4 f5 f6 f7 f8 f9 f10 : Nat) (p q : Int32) (hb : p < 0 ∨ nI 8 ≤ p ∨ q < 0 ∨ nI 3 ≤ q) : MM E yX9_write wsX9_write rm_c_X9_write_bad [.ref m, .int p, .int q] [gO m 9 [.ref f0, .ref f1, .ref f2, .ref f3, .ref f4, .ref f5, .ref f6, .ref f7, .ref f8, .ref f9, .ref f10]] (fun rv_ ru_ => rv_ = some (.int (-1)) ∧ ru_ = [gO m 9 [.ref f0, .ref f1, .ref f2, .ref f3, .ref f4, .ref f5, .ref f6, .ref f7, .ref f8, .ref f9, .ref f10]]) := by
  refine MM.ofG (cc := cX9_write) (maxL := 5) (ret := (some .int)) (by decide) rfl (Nat.le_of_ble_eq_true rfl) (ll := [some (.ref m), some (.int p), some (.int q), none, none]) rfl ?_
  intro X C Rt
  have C : gx E X cX9_write 5 wsX9_write RX9 := C
  refine g_iload_n C dX9_write_0 rfl ?_
  refine g_callS C (c_X9_isPupil E p ) gX9_write_X9_isPupil rfl 1 (by decide +kernel) ⟨by decide, by decide⟩ ⟨by decide, by decide⟩ [] [0] (wr := [gO m 9 [.ref f0, .ref f1, .ref f2, .ref f3, .ref f4, .ref f5, .ref f6, .ref f7, .ref f8, .ref f9, .ref f10]]) rfl (by decide) rfl (by decide) (by decide) rfl rfl (Nat.le_of_ble_eq_true rfl) dX9_write_1 ?_
  rintro _ _ ⟨rfl, rfl⟩
  show gg E _ 5 X 0 0 4 [some (.ref m), some (.int p), some (.int q), none, none] [.int (b2i (decide (¬ p < 0 ∧ ¬ nI 8 ≤ p)))] [gO m 9 [.ref f0, .ref f1, .ref f2, .ref f3, .ref f4, .ref f5, .ref f6, .ref f7, .ref f8, .ref f9, .ref f10]]
  refine g_if_eq (tgt := 14) C dX9_write_4 (by decide) (fun c4 => ?_) (fun c4 => ?_)
  · refine g_iconst (v := -1) C dX9_write_14 (by decide) ?_
    exact g_iret C Rt dX9_write_15 (by decide) (by decide) (⟨rfl, rfl⟩)
  · refine g_iload_n C dX9_write_7 rfl ?_
    refine g_callS C (c_X9_isTongue E q ) gX9_write_X9_isTongue rfl 1 (by decide +kernel) ⟨by decide, by decide⟩ ⟨by decide, by decide⟩ [] [0] (wr := [gO m 9 [.ref f0, .ref f1, .ref f2, .ref f3, .ref f4, .ref f5, .ref f6, .ref f7, .ref f8, .ref f9, .ref f10]]) rfl (by decide) rfl (by decide) (by decide) rfl rfl (Nat.le_of_ble_eq_true rfl) dX9_write_8 ?_
    rintro _ _ ⟨rfl, rfl⟩
    show gg E _ 5 X 0 0 11 [some (.ref m), some (.int p), some (.int q), none, none] [.int (b2i (decide (¬ q < 0 ∧ ¬ nI 3 ≤ q)))] [gO m 9 [.ref f0, .ref f1, .ref f2, .ref f3, .ref f4, .ref f5, .ref f6, .ref f7, .ref f8, .ref f9, .ref f10]]
    refine g_if_ne (tgt := 16) C dX9_write_11 (by decide) (fun c11 => ?_) (fun c11 => ?_)
    · exact (have z1 := of_decide_eq_true (b2i_t.mp c4); have z2 := of_decide_eq_true (b2i_t.mp c11); hb.elim (fun z => absurd z z1.1) (fun z => z.elim (fun z => absurd z z1.2) (fun z => z.elim (fun z => absurd z z2.1) (fun z => absurd z z2.2))))
    · refine g_iconst (v := -1) C dX9_write_14 (by decide) ?_
      exact g_iret C Rt dX9_write_15 (by decide) (by decide) (⟨rfl, rfl⟩)

