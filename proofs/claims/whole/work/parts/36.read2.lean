/-! readComparison, readCondition, readBoth, readEither, by how many more may be open -/
theorem rdQ_tw {r : pR} {ps : Nat → Int32} {cn i us : Nat} {co : Nat → Int32} {fk fp : Int32} {ok : Bool} {j us2 : Nat} {co2 : Nat → Int32} {fk2 fp2 : Int32} (h : rdQ r ps cn i us co fk fp ok j us2 co2 fk2 fp2) :
    (∃ C, r = .ok (j, C) ∧ true = ok ∧ us + C.length = us2 ∧ cdW co us C = co2 ∧ fk = fk2 ∧ fp = fp2 ∧ i ≤ j ∧ j < cn ∧ us + C.length + i ≤ us + j) ∨ (∃ kd ix, r = .error (kd, ix) ∧ false = ok ∧ nI kd = fk2 ∧ ps ix = fp2 ∧ i ≤ j ∧ j < cn ∧ us2 + i ≤ us + j ∧ ix < cn) := by
  rcases rdQ_two h with ⟨C, a1, a2, a3, a4, a5, a6, a7, a8, a9⟩ | ⟨kd, ix, a1, a2, a3, a4, a5, a6, a7, a8⟩
  · exact Or.inl ⟨C, a1, a2.symm, a3.symm, a4.symm, a5.symm, a6.symm, a7, a8, a3 ▸ a9⟩
  · exact Or.inr ⟨kd, ix, a1, a2.symm, a3.symm, a4.symm, a5, a6, a7, a8⟩
theorem cd3 (co : Nat → Int32) (u : Nat) (C D : List Int32) (x : Int32) : upd (cdW (cdW co u C) (u + C.length) D) (u + C.length + D.length) x = cdW co u (C ++ D ++ [x]) := by
  rw [cdW_snoc, cdW_app, List.length_append, Nat.add_assoc]
theorem ln3 (u : Nat) (C D : List Int32) (x : Int32) : u + C.length + D.length + 1 = u + (C ++ D ++ [x]).length := by
  rw [List.length_append, List.length_append]
  show _ = u + (C.length + D.length + 1)
  omega
theorem ln2 (u : Nat) (C : List Int32) (x : Int32) : u + C.length + 1 = u + (C ++ [x]).length := by
  rw [List.length_append]
  show _ = u + (C.length + 1)
  omega

abbrev rm_c_X5_readComparison : Room := { frames := 2, cells := 0, slots := 0, locals := 43 }
set_option maxHeartbeats 4000000 in
set_option maxRecDepth 100000 in
theorem c_X5_readComparison (E : gE) (h tk c0 c1 cn dr a0 a1 a2 a3 nr us i : Nat) (ks ps sa sk st co : Nat → Int32) (fk fp : Int32) (hi : i < cn) (hcn : cn ≤ 601) (hend : ks (cn - 1) = nI 1011) (hus : us ≤ i) : MM E yX5_readComparison wsX5_readComparison rm_c_X5_readComparison [.ref h] [gO h 5 [.ref tk, .ref dr, .int (nI i), .int (ks i), .int fk, .int fp], gO tk 8 [.ref c0, .ref c1, .int (nI cn)], gA E c0 601 ks, gA E c1 601 ps, gO dr 4 [.ref a0, .ref a1, .ref a2, .ref a3, .int (nI nr), .int (nI us)], gA E a0 12 sa, gA E a1 12 sk, gA E a2 13 st, gA E a3 600 co] (fun rv_ ru_ => ∃ (ok : Bool) (j us2 : Nat) (co2 : Nat → Int32) (fk2 fp2 : Int32), rv_ = some (.int (b2i ok)) ∧ ru_ = [gO h 5 [.ref tk, .ref dr, .int (nI j), .int (ks j), .int fk2, .int fp2], gO tk 8 [.ref c0, .ref c1, .int (nI cn)], gA E c0 601 ks, gA E c1 601 ps, gO dr 4 [.ref a0, .ref a1, .ref a2, .ref a3, .int (nI nr), .int (nI us2)], gA E a0 12 sa, gA E a1 12 sk, gA E a2 13 st, gA E a3 600 co2] ∧ (rdQ (pCmp ks i) ps cn i us co fk fp ok j us2 co2 fk2 fp2)) := by
  refine MM.ofG (cc := cX5_readComparison) (maxL := 3) (ret := (some .boolean)) (by decide) rfl (Nat.le_of_ble_eq_true rfl) (ll := [some (.ref h), none, none]) rfl ?_
  intro X C Rt
  have C : gx E X cX5_readComparison 3 wsX5_readComparison RX5 := C
  have i_X5 : ∀ w ∈ u_ws RX5 TX5 6, w ∈ wsX5_readComparison := by decide +kernel
  have f_21 : Cond.fieldLink RX5 21 "MarkPages$RuleReader" "draft" "LMarkPages$RuleBook;" ∈ wsX5_readComparison := by decide +kernel
  have f_25 : Cond.fieldLink RX5 25 "MarkPages$RuleReader" "now" "I" ∈ wsX5_readComparison := by decide +kernel
  refine g_aload_n C dX5_readComparison_0 rfl ?_
  refine g_callV C (c_X5_readSum E h tk c0 c1 cn dr a0 a1 a2 a3 nr us i ks ps sa sk st co fk fp (by omega) (by omega) (hend) (by omega)) gX5_readComparison_X5_readSum rfl 0 (by decide +kernel) ⟨by decide, by decide⟩ ⟨by decide, by decide⟩ 0 rfl rfl [0, 1, 2, 3, 4, 5, 6, 7, 8] [] (wr := []) rfl (by decide) rfl (by decide) (by decide) rfl rfl (Nat.le_of_ble_eq_true rfl) dX5_readComparison_1 ?_
  rintro _ _ ⟨ok_1, j_1, us2_1, co2_1, fk2_1, fp2_1, rfl, rfl, hq_1⟩
  show gg E _ 3 X 0 0 4 [some (.ref h), none, none] [.int (b2i ok_1)] [gO h 5 [.ref tk, .ref dr, .int (nI j_1), .int (ks j_1), .int fk2_1, .int fp2_1], gO tk 8 [.ref c0, .ref c1, .int (nI cn)], gA E c0 601 ks, gA E c1 601 ps, gO dr 4 [.ref a0, .ref a1, .ref a2, .ref a3, .int (nI nr), .int (nI us2_1)], gA E a0 12 sa, gA E a1 12 sk, gA E a2 13 st, gA E a3 600 co2_1]
  rcases rdQ_tw hq_1 with ⟨C_1, hr_1, rfl, rfl, rfl, rfl, rfl, b1_1, b2_1, b3_1⟩ | ⟨kd_1, ix_1, hr_1, rfl, rfl, rfl, b1_1, b2_1, b3_1, b4_1⟩
  · refine g_if_ne (tgt := 9) C dX5_readComparison_4 (by decide) (fun c4 => ?_) (fun c4 => absurd c4 (by decide))
    refine g_aload_n C dX5_readComparison_9 rfl ?_
    refine g_get C i_X5 0 3 f_25 rfl rfl (by decide) rfl rfl dX5_readComparison_10 ?_
    refine g_istore_n C dX5_readComparison_13 (by decide) rfl (ll' := [some (.ref h), some (.int (ks j_1)), none]) rfl ?_
    refine g_iload_n C dX5_readComparison_14 rfl ?_
    refine g_sipush (v := nI 1160) C dX5_readComparison_15 (by decide) ?_
    refine g_icmp_eq (tgt := 41) C dX5_readComparison_18 (by decide) (fun c18 => ?_) (fun c18 => ?_)
    · have hn9 := not_end hend b2_1 rfl (fun e => by rw [c18] at e; exact absurd e (by decide))
      refine g_aload_n C dX5_readComparison_41 rfl ?_
      refine g_callV C (c_X5_advance E h tk c0 c1 cn dr a0 a1 a2 a3 nr (us + C_1.length) j_1 ks ps sa sk st (cdW co us C_1) fk fp (not_end hend b2_1 rfl (fun e => by rw [c18] at e; exact absurd e (by decide))) (by omega)) gX5_readComparison_X5_advance rfl 0 (by decide +kernel) ⟨by decide, by decide⟩ ⟨by decide, by decide⟩ 0 rfl rfl [0, 1, 2, 3, 4, 5, 6, 7, 8] [] (wr := []) rfl (by decide) rfl (by decide) (by decide) rfl rfl (Nat.le_of_ble_eq_true rfl) dX5_readComparison_42 ?_
      rintro _ _ ⟨rfl, rfl⟩
      show gg E _ 3 X 0 0 45 [some (.ref h), some (.int (ks j_1)), none] [] [gO h 5 [.ref tk, .ref dr, .int (nI (j_1 + 1)), .int (ks (j_1 + 1)), .int fk, .int fp], gO tk 8 [.ref c0, .ref c1, .int (nI cn)], gA E c0 601 ks, gA E c1 601 ps, gO dr 4 [.ref a0, .ref a1, .ref a2, .ref a3, .int (nI nr), .int (nI (us + C_1.length))], gA E a0 12 sa, gA E a1 12 sk, gA E a2 13 st, gA E a3 600 (cdW co us C_1)]
      refine g_aload_n C dX5_readComparison_45 rfl ?_
      refine g_callV C (c_X5_readSum E h tk c0 c1 cn dr a0 a1 a2 a3 nr (us + C_1.length) (j_1 + 1) ks ps sa sk st (cdW co us C_1) fk fp (by omega) (by omega) (hend) (by omega)) gX5_readComparison_X5_readSum rfl 0 (by decide +kernel) ⟨by decide, by decide⟩ ⟨by decide, by decide⟩ 0 rfl rfl [0, 1, 2, 3, 4, 5, 6, 7, 8] [] (wr := []) rfl (by decide) rfl (by decide) (by decide) rfl rfl (Nat.le_of_ble_eq_true rfl) dX5_readComparison_46 ?_
      rintro _ _ ⟨ok_46, j_46, us2_46, co2_46, fk2_46, fp2_46, rfl, rfl, hq_46⟩
      show gg E _ 3 X 0 0 49 [some (.ref h), some (.int (ks j_1)), none] [.int (b2i ok_46)] [gO h 5 [.ref tk, .ref dr, .int (nI j_46), .int (ks j_46), .int fk2_46, .int fp2_46], gO tk 8 [.ref c0, .ref c1, .int (nI cn)], gA E c0 601 ks, gA E c1 601 ps, gO dr 4 [.ref a0, .ref a1, .ref a2, .ref a3, .int (nI nr), .int (nI us2_46)], gA E a0 12 sa, gA E a1 12 sk, gA E a2 13 st, gA E a3 600 co2_46]
      rcases rdQ_tw hq_46 with ⟨C_46, hr_46, rfl, rfl, rfl, rfl, rfl, b1_46, b2_46, b3_46⟩ | ⟨kd_46, ix_46, hr_46, rfl, rfl, rfl, b1_46, b2_46, b3_46, b4_46⟩
      · refine g_istore_n C dX5_readComparison_49 (by decide) rfl (ll' := [some (.ref h), some (.int (ks j_1)), some (.int (nI 1))]) rfl ?_
        refine g_aload_n C dX5_readComparison_50 rfl ?_
        refine g_get C i_X5 0 1 f_21 rfl rfl (by decide) rfl rfl dX5_readComparison_51 ?_
        refine g_iload_n C dX5_readComparison_54 rfl ?_
        refine g_callV C (c_X4_append E dr a0 a1 a2 a3 nr ((us + C_1.length) + C_46.length) sa sk st (cdW (cdW co us C_1) (us + C_1.length) C_46) (ks j_1) (by omega)) gX5_readComparison_X4_append rfl 1 (by decide +kernel) ⟨by decide, by decide⟩ ⟨by decide, by decide⟩ 4 rfl rfl [4, 5, 6, 7, 8] [0, 1, 2, 3] (wr := [gO h 5 [.ref tk, .ref dr, .int (nI j_46), .int (ks j_46), .int fk, .int fp], gO tk 8 [.ref c0, .ref c1, .int (nI cn)], gA E c0 601 ks, gA E c1 601 ps]) rfl (by decide) rfl (by decide) (by decide) rfl rfl (Nat.le_of_ble_eq_true rfl) dX5_readComparison_55 ?_
        rintro _ _ ⟨rfl, rfl⟩
        show gg E _ 3 X 0 0 58 [some (.ref h), some (.int (ks j_1)), some (.int (nI 1))] [] [gO h 5 [.ref tk, .ref dr, .int (nI j_46), .int (ks j_46), .int fk, .int fp], gO tk 8 [.ref c0, .ref c1, .int (nI cn)], gA E c0 601 ks, gA E c1 601 ps, gO dr 4 [.ref a0, .ref a1, .ref a2, .ref a3, .int (nI nr), .int (nI (((us + C_1.length) + C_46.length) + 1))], gA E a0 12 sa, gA E a1 12 sk, gA E a2 13 st, gA E a3 600 (upd (cdW (cdW co us C_1) (us + C_1.length) C_46) ((us + C_1.length) + C_46.length) (ks j_1))]
        refine g_iload_n C dX5_readComparison_58 rfl ?_
        exact g_zret C Rt dX5_readComparison_59 (by decide) (by decide) (by decide) (⟨true, _, _, _, _, _, rfl, rfl, rdQ_ok (by rw [pCmp, hr_1]; exact (if_pos (Or.inl c18)).trans (by rw [pCmp2, hr_46])) (by omega) b2_46 (by omega) (ln3 _ _ _ _) (cd3 _ _ _ _ _)⟩)
      · refine g_istore_n C dX5_readComparison_49 (by decide) rfl (ll' := [some (.ref h), some (.int (ks j_1)), some (.int (nI 0))]) rfl ?_
        refine g_aload_n C dX5_readComparison_50 rfl ?_
        refine g_get C i_X5 0 1 f_21 rfl rfl (by decide) rfl rfl dX5_readComparison_51 ?_
        refine g_iload_n C dX5_readComparison_54 rfl ?_
        refine g_callV C (c_X4_append E dr a0 a1 a2 a3 nr us2_46 sa sk st co2_46 (ks j_1) (by omega)) gX5_readComparison_X4_append rfl 1 (by decide +kernel) ⟨by decide, by decide⟩ ⟨by decide, by decide⟩ 4 rfl rfl [4, 5, 6, 7, 8] [0, 1, 2, 3] (wr := [gO h 5 [.ref tk, .ref dr, .int (nI j_46), .int (ks j_46), .int (nI kd_46), .int (ps ix_46)], gO tk 8 [.ref c0, .ref c1, .int (nI cn)], gA E c0 601 ks, gA E c1 601 ps]) rfl (by decide) rfl (by decide) (by decide) rfl rfl (Nat.le_of_ble_eq_true rfl) dX5_readComparison_55 ?_
        rintro _ _ ⟨rfl, rfl⟩
        show gg E _ 3 X 0 0 58 [some (.ref h), some (.int (ks j_1)), some (.int (nI 0))] [] [gO h 5 [.ref tk, .ref dr, .int (nI j_46), .int (ks j_46), .int (nI kd_46), .int (ps ix_46)], gO tk 8 [.ref c0, .ref c1, .int (nI cn)], gA E c0 601 ks, gA E c1 601 ps, gO dr 4 [.ref a0, .ref a1, .ref a2, .ref a3, .int (nI nr), .int (nI (us2_46 + 1))], gA E a0 12 sa, gA E a1 12 sk, gA E a2 13 st, gA E a3 600 (upd co2_46 us2_46 (ks j_1))]
        refine g_iload_n C dX5_readComparison_58 rfl ?_
        exact g_zret C Rt dX5_readComparison_59 (by decide) (by decide) (by decide) (⟨false, _, _, _, _, _, rfl, rfl, rdQ_er (by rw [pCmp, hr_1]; exact (if_pos (Or.inl c18)).trans (by rw [pCmp2, hr_46])) (by omega) b2_46 (by omega) b4_46⟩)
    · refine g_iload_n C dX5_readComparison_21 rfl ?_
      refine g_sipush (v := nI 1161) C dX5_readComparison_22 (by decide) ?_
      refine g_icmp_eq (tgt := 41) C dX5_readComparison_25 (by decide) (fun c25 => ?_) (fun c25 => ?_)
      · have hn9 := not_end hend b2_1 rfl (fun e => by rw [c25] at e; exact absurd e (by decide))
        refine g_aload_n C dX5_readComparison_41 rfl ?_
        refine g_callV C (c_X5_advance E h tk c0 c1 cn dr a0 a1 a2 a3 nr (us + C_1.length) j_1 ks ps sa sk st (cdW co us C_1) fk fp (not_end hend b2_1 rfl (fun e => by rw [c25] at e; exact absurd e (by decide))) (by omega)) gX5_readComparison_X5_advance rfl 0 (by decide +kernel) ⟨by decide, by decide⟩ ⟨by decide, by decide⟩ 0 rfl rfl [0, 1, 2, 3, 4, 5, 6, 7, 8] [] (wr := []) rfl (by decide) rfl (by decide) (by decide) rfl rfl (Nat.le_of_ble_eq_true rfl) dX5_readComparison_42 ?_
        rintro _ _ ⟨rfl, rfl⟩
        show gg E _ 3 X 0 0 45 [some (.ref h), some (.int (ks j_1)), none] [] [gO h 5 [.ref tk, .ref dr, .int (nI (j_1 + 1)), .int (ks (j_1 + 1)), .int fk, .int fp], gO tk 8 [.ref c0, .ref c1, .int (nI cn)], gA E c0 601 ks, gA E c1 601 ps, gO dr 4 [.ref a0, .ref a1, .ref a2, .ref a3, .int (nI nr), .int (nI (us + C_1.length))], gA E a0 12 sa, gA E a1 12 sk, gA E a2 13 st, gA E a3 600 (cdW co us C_1)]
        refine g_aload_n C dX5_readComparison_45 rfl ?_
        refine g_callV C (c_X5_readSum E h tk c0 c1 cn dr a0 a1 a2 a3 nr (us + C_1.length) (j_1 + 1) ks ps sa sk st (cdW co us C_1) fk fp (by omega) (by omega) (hend) (by omega)) gX5_readComparison_X5_readSum rfl 0 (by decide +kernel) ⟨by decide, by decide⟩ ⟨by decide, by decide⟩ 0 rfl rfl [0, 1, 2, 3, 4, 5, 6, 7, 8] [] (wr := []) rfl (by decide) rfl (by decide) (by decide) rfl rfl (Nat.le_of_ble_eq_true rfl) dX5_readComparison_46 ?_
        rintro _ _ ⟨ok_46, j_46, us2_46, co2_46, fk2_46, fp2_46, rfl, rfl, hq_46⟩
        show gg E _ 3 X 0 0 49 [some (.ref h), some (.int (ks j_1)), none] [.int (b2i ok_46)] [gO h 5 [.ref tk, .ref dr, .int (nI j_46), .int (ks j_46), .int fk2_46, .int fp2_46], gO tk 8 [.ref c0, .ref c1, .int (nI cn)], gA E c0 601 ks, gA E c1 601 ps, gO dr 4 [.ref a0, .ref a1, .ref a2, .ref a3, .int (nI nr), .int (nI us2_46)], gA E a0 12 sa, gA E a1 12 sk, gA E a2 13 st, gA E a3 600 co2_46]
        rcases rdQ_tw hq_46 with ⟨C_46, hr_46, rfl, rfl, rfl, rfl, rfl, b1_46, b2_46, b3_46⟩ | ⟨kd_46, ix_46, hr_46, rfl, rfl, rfl, b1_46, b2_46, b3_46, b4_46⟩
        · refine g_istore_n C dX5_readComparison_49 (by decide) rfl (ll' := [some (.ref h), some (.int (ks j_1)), some (.int (nI 1))]) rfl ?_
          refine g_aload_n C dX5_readComparison_50 rfl ?_
          refine g_get C i_X5 0 1 f_21 rfl rfl (by decide) rfl rfl dX5_readComparison_51 ?_
          refine g_iload_n C dX5_readComparison_54 rfl ?_
          refine g_callV C (c_X4_append E dr a0 a1 a2 a3 nr ((us + C_1.length) + C_46.length) sa sk st (cdW (cdW co us C_1) (us + C_1.length) C_46) (ks j_1) (by omega)) gX5_readComparison_X4_append rfl 1 (by decide +kernel) ⟨by decide, by decide⟩ ⟨by decide, by decide⟩ 4 rfl rfl [4, 5, 6, 7, 8] [0, 1, 2, 3] (wr := [gO h 5 [.ref tk, .ref dr, .int (nI j_46), .int (ks j_46), .int fk, .int fp], gO tk 8 [.ref c0, .ref c1, .int (nI cn)], gA E c0 601 ks, gA E c1 601 ps]) rfl (by decide) rfl (by decide) (by decide) rfl rfl (Nat.le_of_ble_eq_true rfl) dX5_readComparison_55 ?_
          rintro _ _ ⟨rfl, rfl⟩
          show gg E _ 3 X 0 0 58 [some (.ref h), some (.int (ks j_1)), some (.int (nI 1))] [] [gO h 5 [.ref tk, .ref dr, .int (nI j_46), .int (ks j_46), .int fk, .int fp], gO tk 8 [.ref c0, .ref c1, .int (nI cn)], gA E c0 601 ks, gA E c1 601 ps, gO dr 4 [.ref a0, .ref a1, .ref a2, .ref a3, .int (nI nr), .int (nI (((us + C_1.length) + C_46.length) + 1))], gA E a0 12 sa, gA E a1 12 sk, gA E a2 13 st, gA E a3 600 (upd (cdW (cdW co us C_1) (us + C_1.length) C_46) ((us + C_1.length) + C_46.length) (ks j_1))]
          refine g_iload_n C dX5_readComparison_58 rfl ?_
          exact g_zret C Rt dX5_readComparison_59 (by decide) (by decide) (by decide) (⟨true, _, _, _, _, _, rfl, rfl, rdQ_ok (by rw [pCmp, hr_1]; exact (if_pos (Or.inr (Or.inl c25))).trans (by rw [pCmp2, hr_46])) (by omega) b2_46 (by omega) (ln3 _ _ _ _) (cd3 _ _ _ _ _)⟩)
        · refine g_istore_n C dX5_readComparison_49 (by decide) rfl (ll' := [some (.ref h), some (.int (ks j_1)), some (.int (nI 0))]) rfl ?_
          refine g_aload_n C dX5_readComparison_50 rfl ?_
          refine g_get C i_X5 0 1 f_21 rfl rfl (by decide) rfl rfl dX5_readComparison_51 ?_
          refine g_iload_n C dX5_readComparison_54 rfl ?_
          refine g_callV C (c_X4_append E dr a0 a1 a2 a3 nr us2_46 sa sk st co2_46 (ks j_1) (by omega)) gX5_readComparison_X4_append rfl 1 (by decide +kernel) ⟨by decide, by decide⟩ ⟨by decide, by decide⟩ 4 rfl rfl [4, 5, 6, 7, 8] [0, 1, 2, 3] (wr := [gO h 5 [.ref tk, .ref dr, .int (nI j_46), .int (ks j_46), .int (nI kd_46), .int (ps ix_46)], gO tk 8 [.ref c0, .ref c1, .int (nI cn)], gA E c0 601 ks, gA E c1 601 ps]) rfl (by decide) rfl (by decide) (by decide) rfl rfl (Nat.le_of_ble_eq_true rfl) dX5_readComparison_55 ?_
          rintro _ _ ⟨rfl, rfl⟩
          show gg E _ 3 X 0 0 58 [some (.ref h), some (.int (ks j_1)), some (.int (nI 0))] [] [gO h 5 [.ref tk, .ref dr, .int (nI j_46), .int (ks j_46), .int (nI kd_46), .int (ps ix_46)], gO tk 8 [.ref c0, .ref c1, .int (nI cn)], gA E c0 601 ks, gA E c1 601 ps, gO dr 4 [.ref a0, .ref a1, .ref a2, .ref a3, .int (nI nr), .int (nI (us2_46 + 1))], gA E a0 12 sa, gA E a1 12 sk, gA E a2 13 st, gA E a3 600 (upd co2_46 us2_46 (ks j_1))]
          refine g_iload_n C dX5_readComparison_58 rfl ?_
          exact g_zret C Rt dX5_readComparison_59 (by decide) (by decide) (by decide) (⟨false, _, _, _, _, _, rfl, rfl, rdQ_er (by rw [pCmp, hr_1]; exact (if_pos (Or.inr (Or.inl c25))).trans (by rw [pCmp2, hr_46])) (by omega) b2_46 (by omega) b4_46⟩)
      · refine g_iload_n C dX5_readComparison_28 rfl ?_
        refine g_sipush (v := nI 1162) C dX5_readComparison_29 (by decide) ?_
        refine g_icmp_eq (tgt := 41) C dX5_readComparison_32 (by decide) (fun c32 => ?_) (fun c32 => ?_)
        · have hn9 := not_end hend b2_1 rfl (fun e => by rw [c32] at e; exact absurd e (by decide))
          refine g_aload_n C dX5_readComparison_41 rfl ?_
          refine g_callV C (c_X5_advance E h tk c0 c1 cn dr a0 a1 a2 a3 nr (us + C_1.length) j_1 ks ps sa sk st (cdW co us C_1) fk fp (not_end hend b2_1 rfl (fun e => by rw [c32] at e; exact absurd e (by decide))) (by omega)) gX5_readComparison_X5_advance rfl 0 (by decide +kernel) ⟨by decide, by decide⟩ ⟨by decide, by decide⟩ 0 rfl rfl [0, 1, 2, 3, 4, 5, 6, 7, 8] [] (wr := []) rfl (by decide) rfl (by decide) (by decide) rfl rfl (Nat.le_of_ble_eq_true rfl) dX5_readComparison_42 ?_
          rintro _ _ ⟨rfl, rfl⟩
          show gg E _ 3 X 0 0 45 [some (.ref h), some (.int (ks j_1)), none] [] [gO h 5 [.ref tk, .ref dr, .int (nI (j_1 + 1)), .int (ks (j_1 + 1)), .int fk, .int fp], gO tk 8 [.ref c0, .ref c1, .int (nI cn)], gA E c0 601 ks, gA E c1 601 ps, gO dr 4 [.ref a0, .ref a1, .ref a2, .ref a3, .int (nI nr), .int (nI (us + C_1.length))], gA E a0 12 sa, gA E a1 12 sk, gA E a2 13 st, gA E a3 600 (cdW co us C_1)]
          refine g_aload_n C dX5_readComparison_45 rfl ?_
          refine g_callV C (c_X5_readSum E h tk c0 c1 cn dr a0 a1 a2 a3 nr (us + C_1.length) (j_1 + 1) ks ps sa sk st (cdW co us C_1) fk fp (by omega) (by omega) (hend) (by omega)) gX5_readComparison_X5_readSum rfl 0 (by decide +kernel) ⟨by decide, by decide⟩ ⟨by decide, by decide⟩ 0 rfl rfl [0, 1, 2, 3, 4, 5, 6, 7, 8] [] (wr := []) rfl (by decide) rfl (by decide) (by decide) rfl rfl (Nat.le_of_ble_eq_true rfl) dX5_readComparison_46 ?_
          rintro _ _ ⟨ok_46, j_46, us2_46, co2_46, fk2_46, fp2_46, rfl, rfl, hq_46⟩
          show gg E _ 3 X 0 0 49 [some (.ref h), some (.int (ks j_1)), none] [.int (b2i ok_46)] [gO h 5 [.ref tk, .ref dr, .int (nI j_46), .int (ks j_46), .int fk2_46, .int fp2_46], gO tk 8 [.ref c0, .ref c1, .int (nI cn)], gA E c0 601 ks, gA E c1 601 ps, gO dr 4 [.ref a0, .ref a1, .ref a2, .ref a3, .int (nI nr), .int (nI us2_46)], gA E a0 12 sa, gA E a1 12 sk, gA E a2 13 st, gA E a3 600 co2_46]
          rcases rdQ_tw hq_46 with ⟨C_46, hr_46, rfl, rfl, rfl, rfl, rfl, b1_46, b2_46, b3_46⟩ | ⟨kd_46, ix_46, hr_46, rfl, rfl, rfl, b1_46, b2_46, b3_46, b4_46⟩
          · refine g_istore_n C dX5_readComparison_49 (by decide) rfl (ll' := [some (.ref h), some (.int (ks j_1)), some (.int (nI 1))]) rfl ?_
            refine g_aload_n C dX5_readComparison_50 rfl ?_
            refine g_get C i_X5 0 1 f_21 rfl rfl (by decide) rfl rfl dX5_readComparison_51 ?_
            refine g_iload_n C dX5_readComparison_54 rfl ?_
            refine g_callV C (c_X4_append E dr a0 a1 a2 a3 nr ((us + C_1.length) + C_46.length) sa sk st (cdW (cdW co us C_1) (us + C_1.length) C_46) (ks j_1) (by omega)) gX5_readComparison_X4_append rfl 1 (by decide +kernel) ⟨by decide, by decide⟩ ⟨by decide, by decide⟩ 4 rfl rfl [4, 5, 6, 7, 8] [0, 1, 2, 3] (wr := [gO h 5 [.ref tk, .ref dr, .int (nI j_46), .int (ks j_46), .int fk, .int fp], gO tk 8 [.ref c0, .ref c1, .int (nI cn)], gA E c0 601 ks, gA E c1 601 ps]) rfl (by decide) rfl (by decide) (by decide) rfl rfl (Nat.le_of_ble_eq_true rfl) dX5_readComparison_55 ?_
            rintro _ _ ⟨rfl, rfl⟩
            show gg E _ 3 X 0 0 58 [some (.ref h), some (.int (ks j_1)), some (.int (nI 1))] [] [gO h 5 [.ref tk, .ref dr, .int (nI j_46), .int (ks j_46), .int fk, .int fp], gO tk 8 [.ref c0, .ref c1, .int (nI cn)], gA E c0 601 ks, gA E c1 601 ps, gO dr 4 [.ref a0, .ref a1, .ref a2, .ref a3, .int (nI nr), .int (nI (((us + C_1.length) + C_46.length) + 1))], gA E a0 12 sa, gA E a1 12 sk, gA E a2 13 st, gA E a3 600 (upd (cdW (cdW co us C_1) (us + C_1.length) C_46) ((us + C_1.length) + C_46.length) (ks j_1))]
            refine g_iload_n C dX5_readComparison_58 rfl ?_
            exact g_zret C Rt dX5_readComparison_59 (by decide) (by decide) (by decide) (⟨true, _, _, _, _, _, rfl, rfl, rdQ_ok (by rw [pCmp, hr_1]; exact (if_pos (Or.inr (Or.inr c32))).trans (by rw [pCmp2, hr_46])) (by omega) b2_46 (by omega) (ln3 _ _ _ _) (cd3 _ _ _ _ _)⟩)
          · refine g_istore_n C dX5_readComparison_49 (by decide) rfl (ll' := [some (.ref h), some (.int (ks j_1)), some (.int (nI 0))]) rfl ?_
            refine g_aload_n C dX5_readComparison_50 rfl ?_
            refine g_get C i_X5 0 1 f_21 rfl rfl (by decide) rfl rfl dX5_readComparison_51 ?_
            refine g_iload_n C dX5_readComparison_54 rfl ?_
            refine g_callV C (c_X4_append E dr a0 a1 a2 a3 nr us2_46 sa sk st co2_46 (ks j_1) (by omega)) gX5_readComparison_X4_append rfl 1 (by decide +kernel) ⟨by decide, by decide⟩ ⟨by decide, by decide⟩ 4 rfl rfl [4, 5, 6, 7, 8] [0, 1, 2, 3] (wr := [gO h 5 [.ref tk, .ref dr, .int (nI j_46), .int (ks j_46), .int (nI kd_46), .int (ps ix_46)], gO tk 8 [.ref c0, .ref c1, .int (nI cn)], gA E c0 601 ks, gA E c1 601 ps]) rfl (by decide) rfl (by decide) (by decide) rfl rfl (Nat.le_of_ble_eq_true rfl) dX5_readComparison_55 ?_
            rintro _ _ ⟨rfl, rfl⟩
            show gg E _ 3 X 0 0 58 [some (.ref h), some (.int (ks j_1)), some (.int (nI 0))] [] [gO h 5 [.ref tk, .ref dr, .int (nI j_46), .int (ks j_46), .int (nI kd_46), .int (ps ix_46)], gO tk 8 [.ref c0, .ref c1, .int (nI cn)], gA E c0 601 ks, gA E c1 601 ps, gO dr 4 [.ref a0, .ref a1, .ref a2, .ref a3, .int (nI nr), .int (nI (us2_46 + 1))], gA E a0 12 sa, gA E a1 12 sk, gA E a2 13 st, gA E a3 600 (upd co2_46 us2_46 (ks j_1))]
            refine g_iload_n C dX5_readComparison_58 rfl ?_
            exact g_zret C Rt dX5_readComparison_59 (by decide) (by decide) (by decide) (⟨false, _, _, _, _, _, rfl, rfl, rdQ_er (by rw [pCmp, hr_1]; exact (if_pos (Or.inr (Or.inr c32))).trans (by rw [pCmp2, hr_46])) (by omega) b2_46 (by omega) b4_46⟩)
        · refine g_aload_n C dX5_readComparison_35 rfl ?_
          refine g_iconst (v := nI 1) C dX5_readComparison_36 (by decide) ?_
          refine g_callV C (c_X5_refuse E h tk c0 c1 cn dr a0 a1 a2 a3 nr (us + C_1.length) j_1 ks ps sa sk st (cdW co us C_1) fk fp 1 (by omega) (by omega)) gX5_readComparison_X5_refuse rfl 1 (by decide +kernel) ⟨by decide, by decide⟩ ⟨by decide, by decide⟩ 0 rfl rfl [0, 1, 2, 3, 4, 5, 6, 7, 8] [] (wr := []) rfl (by decide) rfl (by decide) (by decide) rfl rfl (Nat.le_of_ble_eq_true rfl) dX5_readComparison_37 ?_
          rintro _ _ ⟨rfl, rfl⟩
          show gg E _ 3 X 0 0 40 [some (.ref h), some (.int (ks j_1)), none] [.int (nI 0)] [gO h 5 [.ref tk, .ref dr, .int (nI j_1), .int (ks j_1), .int (nI 1), .int (ps j_1)], gO tk 8 [.ref c0, .ref c1, .int (nI cn)], gA E c0 601 ks, gA E c1 601 ps, gO dr 4 [.ref a0, .ref a1, .ref a2, .ref a3, .int (nI nr), .int (nI (us + C_1.length))], gA E a0 12 sa, gA E a1 12 sk, gA E a2 13 st, gA E a3 600 (cdW co us C_1)]
          exact g_zret C Rt dX5_readComparison_40 (by decide) (by decide) (by decide) (⟨false, _, _, _, _, _, rfl, rfl, rdQ_er (by rw [pCmp, hr_1]; exact if_neg (fun z => z.elim c18 (fun z => z.elim c25 c32))) b1_1 b2_1 b3_1 b2_1⟩)
  · refine g_if_ne (tgt := 9) C dX5_readComparison_4 (by decide) (fun c4 => absurd c4 (by decide)) (fun c4 => ?_)
    refine g_iconst (v := nI 0) C dX5_readComparison_7 (by decide) ?_
    exact g_zret C Rt dX5_readComparison_8 (by decide) (by decide) (by decide) (⟨false, _, _, _, _, _, rfl, rfl, rdQ_er (by rw [pCmp, hr_1]) b1_1 b2_1 b3_1 b4_1⟩)

abbrev rm_c_X5_readCondition_0 : Room := { frames := 3, cells := 0, slots := 0, locals := 65 }
set_option maxHeartbeats 4000000 in
set_option maxRecDepth 100000 in
theorem c_X5_readCondition_0 (E : gE) (h tk c0 c1 cn dr a0 a1 a2 a3 nr us i : Nat) (ks ps sa sk st co : Nat → Int32) (fk fp : Int32) (hi : i < cn) (hcn : cn ≤ 601) (hend : ks (cn - 1) = nI 1011) (hus : us ≤ i) : MM E yX5_readCondition wsX5_readCondition rm_c_X5_readCondition_0 [.ref h, .int (nI 8)] [gO h 5 [.ref tk, .ref dr, .int (nI i), .int (ks i), .int fk, .int fp], gO tk 8 [.ref c0, .ref c1, .int (nI cn)], gA E c0 601 ks, gA E c1 601 ps, gO dr 4 [.ref a0, .ref a1, .ref a2, .ref a3, .int (nI nr), .int (nI us)], gA E a0 12 sa, gA E a1 12 sk, gA E a2 13 st, gA E a3 600 co] (fun rv_ ru_ => ∃ (ok : Bool) (j us2 : Nat) (co2 : Nat → Int32) (fk2 fp2 : Int32), rv_ = some (.int (b2i ok)) ∧ ru_ = [gO h 5 [.ref tk, .ref dr, .int (nI j), .int (ks j), .int fk2, .int fp2], gO tk 8 [.ref c0, .ref c1, .int (nI cn)], gA E c0 601 ks, gA E c1 601 ps, gO dr 4 [.ref a0, .ref a1, .ref a2, .ref a3, .int (nI nr), .int (nI us2)], gA E a0 12 sa, gA E a1 12 sk, gA E a2 13 st, gA E a3 600 co2] ∧ (rdQ (pLv ks 0 i) ps cn i us co fk fp ok j us2 co2 fk2 fp2)) := by
  refine MM.ofG (cc := cX5_readCondition) (maxL := 4) (ret := (some .boolean)) (by decide) rfl (Nat.le_of_ble_eq_true rfl) (ll := [some (.ref h), some (.int (nI 8)), none, none]) rfl ?_
  intro X C Rt
  have C : gx E X cX5_readCondition 4 wsX5_readCondition RX5 := C
  have i_X5 : ∀ w ∈ u_ws RX5 TX5 6, w ∈ wsX5_readCondition := by decide +kernel
  have f_25 : Cond.fieldLink RX5 25 "MarkPages$RuleReader" "now" "I" ∈ wsX5_readCondition := by decide +kernel
  refine g_aload_n C dX5_readCondition_0 rfl ?_
  refine g_get C i_X5 0 3 f_25 rfl rfl (by decide) rfl rfl dX5_readCondition_1 ?_
  refine g_sipush (v := nI 1005) C dX5_readCondition_4 (by decide) ?_
  refine g_icmp_eq (tgt := 25) C dX5_readCondition_7 (by decide) (fun c7 => ?_) (fun c7 => ?_)
  · refine g_iload_n C dX5_readCondition_25 rfl ?_
    refine g_bipush (v := nI 8) C dX5_readCondition_26 (by decide) ?_
    refine g_icmp_lt (tgt := 37) C dX5_readCondition_28 (by decide) (fun c28 => absurd c28 (by decide)) (fun c28 => ?_)
    refine g_aload_n C dX5_readCondition_31 rfl ?_
    refine g_iconst (v := nI 3) C dX5_readCondition_32 (by decide) ?_
    refine g_callV C (c_X5_refuse E h tk c0 c1 cn dr a0 a1 a2 a3 nr us i ks ps sa sk st co fk fp 3 (by omega) (by omega)) gX5_readCondition_X5_refuse rfl 1 (by decide +kernel) ⟨by decide, by decide⟩ ⟨by decide, by decide⟩ 0 rfl rfl [0, 1, 2, 3, 4, 5, 6, 7, 8] [] (wr := []) rfl (by decide) rfl (by decide) (by decide) rfl rfl (Nat.le_of_ble_eq_true rfl) dX5_readCondition_33 ?_
    rintro _ _ ⟨rfl, rfl⟩
    show gg E _ 4 X 0 0 36 [some (.ref h), some (.int (nI 8)), none, none] [.int (nI 0)] [gO h 5 [.ref tk, .ref dr, .int (nI i), .int (ks i), .int (nI 3), .int (ps i)], gO tk 8 [.ref c0, .ref c1, .int (nI cn)], gA E c0 601 ks, gA E c1 601 ps, gO dr 4 [.ref a0, .ref a1, .ref a2, .ref a3, .int (nI nr), .int (nI us)], gA E a0 12 sa, gA E a1 12 sk, gA E a2 13 st, gA E a3 600 co]
    exact g_zret C Rt dX5_readCondition_36 (by decide) (by decide) (by decide) (⟨false, _, _, _, _, _, rfl, rfl, rdQ_er (by rw [pLv, if_pos (Or.inl c7)]) (Nat.le_refl i) hi (Nat.le_refl _) hi⟩)
  · refine g_aload_n C dX5_readCondition_10 rfl ?_
    refine g_get C i_X5 0 3 f_25 rfl rfl (by decide) rfl rfl dX5_readCondition_11 ?_
    refine g_sipush (v := nI 1140) C dX5_readCondition_14 (by decide) ?_
    refine g_icmp_eq (tgt := 25) C dX5_readCondition_17 (by decide) (fun c17 => ?_) (fun c17 => ?_)
    · refine g_iload_n C dX5_readCondition_25 rfl ?_
      refine g_bipush (v := nI 8) C dX5_readCondition_26 (by decide) ?_
      refine g_icmp_lt (tgt := 37) C dX5_readCondition_28 (by decide) (fun c28 => absurd c28 (by decide)) (fun c28 => ?_)
      refine g_aload_n C dX5_readCondition_31 rfl ?_
      refine g_iconst (v := nI 3) C dX5_readCondition_32 (by decide) ?_
      refine g_callV C (c_X5_refuse E h tk c0 c1 cn dr a0 a1 a2 a3 nr us i ks ps sa sk st co fk fp 3 (by omega) (by omega)) gX5_readCondition_X5_refuse rfl 1 (by decide +kernel) ⟨by decide, by decide⟩ ⟨by decide, by decide⟩ 0 rfl rfl [0, 1, 2, 3, 4, 5, 6, 7, 8] [] (wr := []) rfl (by decide) rfl (by decide) (by decide) rfl rfl (Nat.le_of_ble_eq_true rfl) dX5_readCondition_33 ?_
      rintro _ _ ⟨rfl, rfl⟩
      show gg E _ 4 X 0 0 36 [some (.ref h), some (.int (nI 8)), none, none] [.int (nI 0)] [gO h 5 [.ref tk, .ref dr, .int (nI i), .int (ks i), .int (nI 3), .int (ps i)], gO tk 8 [.ref c0, .ref c1, .int (nI cn)], gA E c0 601 ks, gA E c1 601 ps, gO dr 4 [.ref a0, .ref a1, .ref a2, .ref a3, .int (nI nr), .int (nI us)], gA E a0 12 sa, gA E a1 12 sk, gA E a2 13 st, gA E a3 600 co]
      exact g_zret C Rt dX5_readCondition_36 (by decide) (by decide) (by decide) (⟨false, _, _, _, _, _, rfl, rfl, rdQ_er (by rw [pLv, if_pos (Or.inr c17)]) (Nat.le_refl i) hi (Nat.le_refl _) hi⟩)
    · refine g_aload_n C dX5_readCondition_20 rfl ?_
      refine g_callV C (c_X5_readComparison E h tk c0 c1 cn dr a0 a1 a2 a3 nr us i ks ps sa sk st co fk fp (by omega) (by omega) (hend) (by omega)) gX5_readCondition_X5_readComparison rfl 0 (by decide +kernel) ⟨by decide, by decide⟩ ⟨by decide, by decide⟩ 0 rfl rfl [0, 1, 2, 3, 4, 5, 6, 7, 8] [] (wr := []) rfl (by decide) rfl (by decide) (by decide) rfl rfl (Nat.le_of_ble_eq_true rfl) dX5_readCondition_21 ?_
      rintro _ _ ⟨ok_21, j_21, us2_21, co2_21, fk2_21, fp2_21, rfl, rfl, hq_21⟩
      show gg E _ 4 X 0 0 24 [some (.ref h), some (.int (nI 8)), none, none] [.int (b2i ok_21)] [gO h 5 [.ref tk, .ref dr, .int (nI j_21), .int (ks j_21), .int fk2_21, .int fp2_21], gO tk 8 [.ref c0, .ref c1, .int (nI cn)], gA E c0 601 ks, gA E c1 601 ps, gO dr 4 [.ref a0, .ref a1, .ref a2, .ref a3, .int (nI nr), .int (nI us2_21)], gA E a0 12 sa, gA E a1 12 sk, gA E a2 13 st, gA E a3 600 co2_21]
      exact g_zret C Rt dX5_readCondition_24 (by decide) (by decide) (b2i_01 _) (⟨_, _, _, _, _, _, rfl, rfl, by rw [pLv, if_neg (fun z => z.elim c7 c17)]; exact hq_21⟩)

abbrev rm_c_X5_readBoth_0 : Room := { frames := 4, cells := 0, slots := 0, locals := 88 }
set_option maxHeartbeats 4000000 in
set_option maxRecDepth 100000 in
theorem c_X5_readBoth_0 (E : gE) (h tk c0 c1 cn dr a0 a1 a2 a3 nr us i : Nat) (ks ps sa sk st co : Nat → Int32) (fk fp : Int32) (hi : i < cn) (hcn : cn ≤ 601) (hend : ks (cn - 1) = nI 1011) (hus : us ≤ i) : MM E yX5_readBoth wsX5_readBoth rm_c_X5_readBoth_0 [.ref h, .int (nI 8)] [gO h 5 [.ref tk, .ref dr, .int (nI i), .int (ks i), .int fk, .int fp], gO tk 8 [.ref c0, .ref c1, .int (nI cn)], gA E c0 601 ks, gA E c1 601 ps, gO dr 4 [.ref a0, .ref a1, .ref a2, .ref a3, .int (nI nr), .int (nI us)], gA E a0 12 sa, gA E a1 12 sk, gA E a2 13 st, gA E a3 600 co] (fun rv_ ru_ => ∃ (ok : Bool) (j us2 : Nat) (co2 : Nat → Int32) (fk2 fp2 : Int32), rv_ = some (.int (b2i ok)) ∧ ru_ = [gO h 5 [.ref tk, .ref dr, .int (nI j), .int (ks j), .int fk2, .int fp2], gO tk 8 [.ref c0, .ref c1, .int (nI cn)], gA E c0 601 ks, gA E c1 601 ps, gO dr 4 [.ref a0, .ref a1, .ref a2, .ref a3, .int (nI nr), .int (nI us2)], gA E a0 12 sa, gA E a1 12 sk, gA E a2 13 st, gA E a3 600 co2] ∧ (rdQ (pAll ks (pLv ks 0) i) ps cn i us co fk fp ok j us2 co2 fk2 fp2)) := by
  refine MM.ofG (cc := cX5_readBoth) (maxL := 4) (ret := (some .boolean)) (by decide) rfl (Nat.le_of_ble_eq_true rfl) (ll := [some (.ref h), some (.int (nI 8)), none, none]) rfl ?_
  intro X C Rt
  have C : gx E X cX5_readBoth 4 wsX5_readBoth RX5 := C
  have i_X5 : ∀ w ∈ u_ws RX5 TX5 6, w ∈ wsX5_readBoth := by decide +kernel
  have i_X8 : ∀ w ∈ u_ws RX8 TX8 3, w ∈ wsX5_readBoth := by decide +kernel
  have f_12 : Cond.fieldLink RX5 12 "MarkPages$RuleReader" "tokens" "LMarkPages$Tokens;" ∈ wsX5_readBoth := by decide +kernel
  have f_21 : Cond.fieldLink RX5 21 "MarkPages$RuleReader" "draft" "LMarkPages$RuleBook;" ∈ wsX5_readBoth := by decide +kernel
  have f_25 : Cond.fieldLink RX5 25 "MarkPages$RuleReader" "now" "I" ∈ wsX5_readBoth := by decide +kernel
  have f_76 : Cond.fieldLink RX5 76 "MarkPages$Tokens" "count" "I" ∈ wsX5_readBoth := by decide +kernel
  refine g_aload_n C dX5_readBoth_0 rfl ?_
  refine g_iload_n C dX5_readBoth_1 rfl ?_
  refine g_callV C (c_X5_readCondition_0 E h tk c0 c1 cn dr a0 a1 a2 a3 nr us i ks ps sa sk st co fk fp (by omega) (by omega) (hend) (by omega)) gX5_readBoth_X5_readCondition rfl 1 (by decide +kernel) ⟨by decide, by decide⟩ ⟨by decide, by decide⟩ 0 rfl rfl [0, 1, 2, 3, 4, 5, 6, 7, 8] [] (wr := []) rfl (by decide) rfl (by decide) (by decide) rfl rfl (Nat.le_of_ble_eq_true rfl) dX5_readBoth_2 ?_
  rintro _ _ ⟨ok_2, j_2, us2_2, co2_2, fk2_2, fp2_2, rfl, rfl, hq_2⟩
  show gg E _ 4 X 0 0 5 [some (.ref h), some (.int (nI 8)), none, none] [.int (b2i ok_2)] [gO h 5 [.ref tk, .ref dr, .int (nI j_2), .int (ks j_2), .int fk2_2, .int fp2_2], gO tk 8 [.ref c0, .ref c1, .int (nI cn)], gA E c0 601 ks, gA E c1 601 ps, gO dr 4 [.ref a0, .ref a1, .ref a2, .ref a3, .int (nI nr), .int (nI us2_2)], gA E a0 12 sa, gA E a1 12 sk, gA E a2 13 st, gA E a3 600 co2_2]
  rcases rdQ_tw hq_2 with ⟨C_2, hr_2, rfl, rfl, rfl, rfl, rfl, b1_2, b2_2, b3_2⟩ | ⟨kd_2, ix_2, hr_2, rfl, rfl, rfl, b1_2, b2_2, b3_2, b4_2⟩
  · refine g_istore_n C dX5_readBoth_5 (by decide) rfl (ll' := [some (.ref h), some (.int (nI 8)), some (.int (nI 1)), none]) rfl ?_
    refine g_iconst (v := nI 0) C dX5_readBoth_6 (by decide) ?_
    refine g_istore_n C dX5_readBoth_7 (by decide) rfl (ll' := [some (.ref h), some (.int (nI 8)), some (.int (nI 1)), some (.int (nI 0))]) rfl ?_
    have L8 : ∀ (n8 : Nat) (it j1 f1 : Nat) (C1 : List Int32), cn - j1 < n8 → (j1 < cn) → (i + it ≤ j1) → (f1 + it = 601) → (C1.length + i ≤ j1) → (pAll ks (pLv ks 0) i = lpO ks (nI 1004) (pLv ks 0) f1 j1 C1) → gg E rm_c_X5_readBoth_0 4 X 0 0 8 [some (.ref h), some (.int (nI 8)), some (.int (nI 1)), some (.int (nI it))] [] [gO h 5 [.ref tk, .ref dr, .int (nI j1), .int (ks j1), .int fk, .int fp], gO tk 8 [.ref c0, .ref c1, .int (nI cn)], gA E c0 601 ks, gA E c1 601 ps, gO dr 4 [.ref a0, .ref a1, .ref a2, .ref a3, .int (nI nr), .int (nI (us + C1.length))], gA E a0 12 sa, gA E a1 12 sk, gA E a2 13 st, gA E a3 600 (cdW co us C1)] := by
      intro n8
      induction n8 with
      | zero => intro it j1 f1 C1 hm8; exact absurd hm8 (Nat.not_lt_zero _)
      | succ n8 ih8 =>
        intro it j1 f1 C1 hm8 g1 g2 g3 g4 g5
        refine g_iload_n C dX5_readBoth_8 rfl ?_
        refine g_aload_n C dX5_readBoth_9 rfl ?_
        refine g_get C i_X5 0 0 f_12 rfl rfl (by decide) rfl rfl dX5_readBoth_10 ?_
        refine g_get C i_X8 1 2 f_76 rfl rfl (by decide) rfl rfl dX5_readBoth_13 ?_
        refine g_icmp_ge_n (tgt := 59) C dX5_readBoth_16 (by decide) (by omega) (by omega) (fun c16 => ?_) (fun c16 => ?_)
        · exact absurd c16 (by omega)
        · refine g_iload_n C dX5_readBoth_19 rfl ?_
          refine g_if_eq (tgt := 59) C dX5_readBoth_20 (by decide) (fun c20 => absurd c20 (by decide)) (fun c20 => ?_)
          refine g_aload_n C dX5_readBoth_23 rfl ?_
          refine g_get C i_X5 0 3 f_25 rfl rfl (by decide) rfl rfl dX5_readBoth_24 ?_
          refine g_sipush (v := nI 1004) C dX5_readBoth_27 (by decide) ?_
          refine g_icmp_ne (tgt := 59) C dX5_readBoth_30 (by decide) (fun c30 => ?_) (fun c30 => ?_)
          · refine g_iload_n C dX5_readBoth_59 rfl ?_
            exact g_zret C Rt dX5_readBoth_60 (by decide) (by decide) (by decide) (⟨true, _, _, _, _, _, rfl, rfl, rdQ_ok (by rw [g5, show f1 = f1 - 1 + 1 by omega, lpO, if_neg c30]) (by omega) g1 (by omega) rfl rfl⟩)
          · have hn7 := not_end hend g1 c30 (by decide)
            refine g_aload_n C dX5_readBoth_33 rfl ?_
            refine g_callV C (c_X5_advance E h tk c0 c1 cn dr a0 a1 a2 a3 nr (us + C1.length) j1 ks ps sa sk st (cdW co us C1) fk fp (not_end hend g1 c30 (by decide)) (by omega)) gX5_readBoth_X5_advance rfl 0 (by decide +kernel) ⟨by decide, by decide⟩ ⟨by decide, by decide⟩ 0 rfl rfl [0, 1, 2, 3, 4, 5, 6, 7, 8] [] (wr := []) rfl (by decide) rfl (by decide) (by decide) rfl rfl (Nat.le_of_ble_eq_true rfl) dX5_readBoth_34 ?_
            rintro _ _ ⟨rfl, rfl⟩
            show gg E _ 4 X 0 0 37 [some (.ref h), some (.int (nI 8)), some (.int (nI 1)), some (.int (nI it))] [] [gO h 5 [.ref tk, .ref dr, .int (nI (j1 + 1)), .int (ks (j1 + 1)), .int fk, .int fp], gO tk 8 [.ref c0, .ref c1, .int (nI cn)], gA E c0 601 ks, gA E c1 601 ps, gO dr 4 [.ref a0, .ref a1, .ref a2, .ref a3, .int (nI nr), .int (nI (us + C1.length))], gA E a0 12 sa, gA E a1 12 sk, gA E a2 13 st, gA E a3 600 (cdW co us C1)]
            refine g_aload_n C dX5_readBoth_37 rfl ?_
            refine g_iload_n C dX5_readBoth_38 rfl ?_
            refine g_callV C (c_X5_readCondition_0 E h tk c0 c1 cn dr a0 a1 a2 a3 nr (us + C1.length) (j1 + 1) ks ps sa sk st (cdW co us C1) fk fp (by omega) (by omega) (hend) (by omega)) gX5_readBoth_X5_readCondition rfl 1 (by decide +kernel) ⟨by decide, by decide⟩ ⟨by decide, by decide⟩ 0 rfl rfl [0, 1, 2, 3, 4, 5, 6, 7, 8] [] (wr := []) rfl (by decide) rfl (by decide) (by decide) rfl rfl (Nat.le_of_ble_eq_true rfl) dX5_readBoth_39 ?_
            rintro _ _ ⟨ok_39, j_39, us2_39, co2_39, fk2_39, fp2_39, rfl, rfl, hq_39⟩
            show gg E _ 4 X 0 0 42 [some (.ref h), some (.int (nI 8)), some (.int (nI 1)), some (.int (nI it))] [.int (b2i ok_39)] [gO h 5 [.ref tk, .ref dr, .int (nI j_39), .int (ks j_39), .int fk2_39, .int fp2_39], gO tk 8 [.ref c0, .ref c1, .int (nI cn)], gA E c0 601 ks, gA E c1 601 ps, gO dr 4 [.ref a0, .ref a1, .ref a2, .ref a3, .int (nI nr), .int (nI us2_39)], gA E a0 12 sa, gA E a1 12 sk, gA E a2 13 st, gA E a3 600 co2_39]
            rcases rdQ_tw hq_39 with ⟨C_39, hr_39, rfl, rfl, rfl, rfl, rfl, b1_39, b2_39, b3_39⟩ | ⟨kd_39, ix_39, hr_39, rfl, rfl, rfl, b1_39, b2_39, b3_39, b4_39⟩
            · refine g_istore_n C dX5_readBoth_42 (by decide) rfl (ll' := [some (.ref h), some (.int (nI 8)), some (.int (nI 1)), some (.int (nI it))]) rfl ?_
              refine g_aload_n C dX5_readBoth_43 rfl ?_
              refine g_get C i_X5 0 1 f_21 rfl rfl (by decide) rfl rfl dX5_readBoth_44 ?_
              refine g_sipush (v := nI 1004) C dX5_readBoth_47 (by decide) ?_
              refine g_callV C (c_X4_append E dr a0 a1 a2 a3 nr ((us + C1.length) + C_39.length) sa sk st (cdW (cdW co us C1) (us + C1.length) C_39) (nI 1004) (by omega)) gX5_readBoth_X4_append rfl 1 (by decide +kernel) ⟨by decide, by decide⟩ ⟨by decide, by decide⟩ 4 rfl rfl [4, 5, 6, 7, 8] [0, 1, 2, 3] (wr := [gO h 5 [.ref tk, .ref dr, .int (nI j_39), .int (ks j_39), .int fk, .int fp], gO tk 8 [.ref c0, .ref c1, .int (nI cn)], gA E c0 601 ks, gA E c1 601 ps]) rfl (by decide) rfl (by decide) (by decide) rfl rfl (Nat.le_of_ble_eq_true rfl) dX5_readBoth_50 ?_
              rintro _ _ ⟨rfl, rfl⟩
              show gg E _ 4 X 0 0 53 [some (.ref h), some (.int (nI 8)), some (.int (nI 1)), some (.int (nI it))] [] [gO h 5 [.ref tk, .ref dr, .int (nI j_39), .int (ks j_39), .int fk, .int fp], gO tk 8 [.ref c0, .ref c1, .int (nI cn)], gA E c0 601 ks, gA E c1 601 ps, gO dr 4 [.ref a0, .ref a1, .ref a2, .ref a3, .int (nI nr), .int (nI (((us + C1.length) + C_39.length) + 1))], gA E a0 12 sa, gA E a1 12 sk, gA E a2 13 st, gA E a3 600 (upd (cdW (cdW co us C1) (us + C1.length) C_39) ((us + C1.length) + C_39.length) (nI 1004))]
              rw [ln3 us C1 C_39 (nI 1004), cd3 co us C1 C_39 (nI 1004)]
              refine g_iinc_n (y := 1) C dX5_readBoth_53 rfl (by decide) (by decide) rfl (ll' := [some (.ref h), some (.int (nI 8)), some (.int (nI 1)), some (.int (nI (it + 1)))]) rfl ?_
              refine g_goto (tgt := 8) C dX5_readBoth_56 (by decide) ?_
              exact ih8 (it + 1) j_39 (f1 - 1) (C1 ++ C_39 ++ [nI 1004]) (by omega) (by omega) (by omega) (by omega) (by have := ln3 us C1 C_39 (nI 1004); omega) (by rw [g5, show f1 = f1 - 1 + 1 by omega, lpO, if_pos c30, hr_39]; rfl)
            · refine g_istore_n C dX5_readBoth_42 (by decide) rfl (ll' := [some (.ref h), some (.int (nI 8)), some (.int (nI 0)), some (.int (nI it))]) rfl ?_
              refine g_aload_n C dX5_readBoth_43 rfl ?_
              refine g_get C i_X5 0 1 f_21 rfl rfl (by decide) rfl rfl dX5_readBoth_44 ?_
              refine g_sipush (v := nI 1004) C dX5_readBoth_47 (by decide) ?_
              refine g_callV C (c_X4_append E dr a0 a1 a2 a3 nr us2_39 sa sk st co2_39 (nI 1004) (by omega)) gX5_readBoth_X4_append rfl 1 (by decide +kernel) ⟨by decide, by decide⟩ ⟨by decide, by decide⟩ 4 rfl rfl [4, 5, 6, 7, 8] [0, 1, 2, 3] (wr := [gO h 5 [.ref tk, .ref dr, .int (nI j_39), .int (ks j_39), .int (nI kd_39), .int (ps ix_39)], gO tk 8 [.ref c0, .ref c1, .int (nI cn)], gA E c0 601 ks, gA E c1 601 ps]) rfl (by decide) rfl (by decide) (by decide) rfl rfl (Nat.le_of_ble_eq_true rfl) dX5_readBoth_50 ?_
              rintro _ _ ⟨rfl, rfl⟩
              show gg E _ 4 X 0 0 53 [some (.ref h), some (.int (nI 8)), some (.int (nI 0)), some (.int (nI it))] [] [gO h 5 [.ref tk, .ref dr, .int (nI j_39), .int (ks j_39), .int (nI kd_39), .int (ps ix_39)], gO tk 8 [.ref c0, .ref c1, .int (nI cn)], gA E c0 601 ks, gA E c1 601 ps, gO dr 4 [.ref a0, .ref a1, .ref a2, .ref a3, .int (nI nr), .int (nI (us2_39 + 1))], gA E a0 12 sa, gA E a1 12 sk, gA E a2 13 st, gA E a3 600 (upd co2_39 us2_39 (nI 1004))]
              refine g_iinc_n (y := 1) C dX5_readBoth_53 rfl (by decide) (by decide) rfl (ll' := [some (.ref h), some (.int (nI 8)), some (.int (nI 0)), some (.int (nI (it + 1)))]) rfl ?_
              refine g_goto (tgt := 8) C dX5_readBoth_56 (by decide) ?_
              refine g_iload_n C dX5_readBoth_8 rfl ?_
              refine g_aload_n C dX5_readBoth_9 rfl ?_
              refine g_get C i_X5 0 0 f_12 rfl rfl (by decide) rfl rfl dX5_readBoth_10 ?_
              refine g_get C i_X8 1 2 f_76 rfl rfl (by decide) rfl rfl dX5_readBoth_13 ?_
              refine g_icmp_ge_n (tgt := 59) C dX5_readBoth_16 (by decide) (by omega) (by omega) (fun c16 => ?_) (fun c16 => ?_)
              · refine g_iload_n C dX5_readBoth_59 rfl ?_
                exact g_zret C Rt dX5_readBoth_60 (by decide) (by decide) (by decide) (⟨false, _, _, _, _, _, rfl, rfl, rdQ_er (by rw [g5, show f1 = f1 - 1 + 1 by omega, lpO, if_pos c30, hr_39]) (by omega) b2_39 (by omega) b4_39⟩)
              · refine g_iload_n C dX5_readBoth_19 rfl ?_
                refine g_if_eq (tgt := 59) C dX5_readBoth_20 (by decide) (fun c20 => ?_) (fun c20 => absurd c20 (by decide))
                refine g_iload_n C dX5_readBoth_59 rfl ?_
                exact g_zret C Rt dX5_readBoth_60 (by decide) (by decide) (by decide) (⟨false, _, _, _, _, _, rfl, rfl, rdQ_er (by rw [g5, show f1 = f1 - 1 + 1 by omega, lpO, if_pos c30, hr_39]) (by omega) b2_39 (by omega) b4_39⟩)
    exact L8 _ 0 j_2 601 C_2 (Nat.lt_succ_self _) (by omega) (by omega) (by omega) (by omega) (by rw [pAll, hr_2]; rfl)
  · refine g_istore_n C dX5_readBoth_5 (by decide) rfl (ll' := [some (.ref h), some (.int (nI 8)), some (.int (nI 0)), none]) rfl ?_
    refine g_iconst (v := nI 0) C dX5_readBoth_6 (by decide) ?_
    refine g_istore_n C dX5_readBoth_7 (by decide) rfl (ll' := [some (.ref h), some (.int (nI 8)), some (.int (nI 0)), some (.int (nI 0))]) rfl ?_
    refine g_iload_n C dX5_readBoth_8 rfl ?_
    refine g_aload_n C dX5_readBoth_9 rfl ?_
    refine g_get C i_X5 0 0 f_12 rfl rfl (by decide) rfl rfl dX5_readBoth_10 ?_
    refine g_get C i_X8 1 2 f_76 rfl rfl (by decide) rfl rfl dX5_readBoth_13 ?_
    refine g_icmp_ge_n (tgt := 59) C dX5_readBoth_16 (by decide) (by omega) (by omega) (fun c16 => ?_) (fun c16 => ?_)
    · refine g_iload_n C dX5_readBoth_59 rfl ?_
      exact g_zret C Rt dX5_readBoth_60 (by decide) (by decide) (by decide) (⟨false, _, _, _, _, _, rfl, rfl, rdQ_er (by rw [pAll, hr_2]; rfl) b1_2 b2_2 b3_2 b4_2⟩)
    · refine g_iload_n C dX5_readBoth_19 rfl ?_
      refine g_if_eq (tgt := 59) C dX5_readBoth_20 (by decide) (fun c20 => ?_) (fun c20 => absurd c20 (by decide))
      refine g_iload_n C dX5_readBoth_59 rfl ?_
      exact g_zret C Rt dX5_readBoth_60 (by decide) (by decide) (by decide) (⟨false, _, _, _, _, _, rfl, rfl, rdQ_er (by rw [pAll, hr_2]; rfl) b1_2 b2_2 b3_2 b4_2⟩)

abbrev rm_c_X5_readEither_0 : Room := { frames := 5, cells := 0, slots := 0, locals := 111 }
set_option maxHeartbeats 4000000 in
set_option maxRecDepth 100000 in
theorem c_X5_readEither_0 (E : gE) (h tk c0 c1 cn dr a0 a1 a2 a3 nr us i : Nat) (ks ps sa sk st co : Nat → Int32) (fk fp : Int32) (hi : i < cn) (hcn : cn ≤ 601) (hend : ks (cn - 1) = nI 1011) (hus : us ≤ i) : MM E yX5_readEither wsX5_readEither rm_c_X5_readEither_0 [.ref h, .int (nI 8)] [gO h 5 [.ref tk, .ref dr, .int (nI i), .int (ks i), .int fk, .int fp], gO tk 8 [.ref c0, .ref c1, .int (nI cn)], gA E c0 601 ks, gA E c1 601 ps, gO dr 4 [.ref a0, .ref a1, .ref a2, .ref a3, .int (nI nr), .int (nI us)], gA E a0 12 sa, gA E a1 12 sk, gA E a2 13 st, gA E a3 600 co] (fun rv_ ru_ => ∃ (ok : Bool) (j us2 : Nat) (co2 : Nat → Int32) (fk2 fp2 : Int32), rv_ = some (.int (b2i ok)) ∧ ru_ = [gO h 5 [.ref tk, .ref dr, .int (nI j), .int (ks j), .int fk2, .int fp2], gO tk 8 [.ref c0, .ref c1, .int (nI cn)], gA E c0 601 ks, gA E c1 601 ps, gO dr 4 [.ref a0, .ref a1, .ref a2, .ref a3, .int (nI nr), .int (nI us2)], gA E a0 12 sa, gA E a1 12 sk, gA E a2 13 st, gA E a3 600 co2] ∧ (rdQ (pAny ks (pLv ks 0) i) ps cn i us co fk fp ok j us2 co2 fk2 fp2)) := by
  refine MM.ofG (cc := cX5_readEither) (maxL := 4) (ret := (some .boolean)) (by decide) rfl (Nat.le_of_ble_eq_true rfl) (ll := [some (.ref h), some (.int (nI 8)), none, none]) rfl ?_
  intro X C Rt
  have C : gx E X cX5_readEither 4 wsX5_readEither RX5 := C
  have i_X5 : ∀ w ∈ u_ws RX5 TX5 6, w ∈ wsX5_readEither := by decide +kernel
  have i_X8 : ∀ w ∈ u_ws RX8 TX8 3, w ∈ wsX5_readEither := by decide +kernel
  have f_12 : Cond.fieldLink RX5 12 "MarkPages$RuleReader" "tokens" "LMarkPages$Tokens;" ∈ wsX5_readEither := by decide +kernel
  have f_21 : Cond.fieldLink RX5 21 "MarkPages$RuleReader" "draft" "LMarkPages$RuleBook;" ∈ wsX5_readEither := by decide +kernel
  have f_25 : Cond.fieldLink RX5 25 "MarkPages$RuleReader" "now" "I" ∈ wsX5_readEither := by decide +kernel
  have f_76 : Cond.fieldLink RX5 76 "MarkPages$Tokens" "count" "I" ∈ wsX5_readEither := by decide +kernel
  refine g_aload_n C dX5_readEither_0 rfl ?_
  refine g_iload_n C dX5_readEither_1 rfl ?_
  refine g_callV C (c_X5_readBoth_0 E h tk c0 c1 cn dr a0 a1 a2 a3 nr us i ks ps sa sk st co fk fp (by omega) (by omega) (hend) (by omega)) gX5_readEither_X5_readBoth rfl 1 (by decide +kernel) ⟨by decide, by decide⟩ ⟨by decide, by decide⟩ 0 rfl rfl [0, 1, 2, 3, 4, 5, 6, 7, 8] [] (wr := []) rfl (by decide) rfl (by decide) (by decide) rfl rfl (Nat.le_of_ble_eq_true rfl) dX5_readEither_2 ?_
  rintro _ _ ⟨ok_2, j_2, us2_2, co2_2, fk2_2, fp2_2, rfl, rfl, hq_2⟩
  show gg E _ 4 X 0 0 5 [some (.ref h), some (.int (nI 8)), none, none] [.int (b2i ok_2)] [gO h 5 [.ref tk, .ref dr, .int (nI j_2), .int (ks j_2), .int fk2_2, .int fp2_2], gO tk 8 [.ref c0, .ref c1, .int (nI cn)], gA E c0 601 ks, gA E c1 601 ps, gO dr 4 [.ref a0, .ref a1, .ref a2, .ref a3, .int (nI nr), .int (nI us2_2)], gA E a0 12 sa, gA E a1 12 sk, gA E a2 13 st, gA E a3 600 co2_2]
  rcases rdQ_tw hq_2 with ⟨C_2, hr_2, rfl, rfl, rfl, rfl, rfl, b1_2, b2_2, b3_2⟩ | ⟨kd_2, ix_2, hr_2, rfl, rfl, rfl, b1_2, b2_2, b3_2, b4_2⟩
  · refine g_istore_n C dX5_readEither_5 (by decide) rfl (ll' := [some (.ref h), some (.int (nI 8)), some (.int (nI 1)), none]) rfl ?_
    refine g_iconst (v := nI 0) C dX5_readEither_6 (by decide) ?_
    refine g_istore_n C dX5_readEither_7 (by decide) rfl (ll' := [some (.ref h), some (.int (nI 8)), some (.int (nI 1)), some (.int (nI 0))]) rfl ?_
    have L8 : ∀ (n8 : Nat) (it j1 f1 : Nat) (C1 : List Int32), cn - j1 < n8 → (j1 < cn) → (i + it ≤ j1) → (f1 + it = 601) → (C1.length + i ≤ j1) → (pAny ks (pLv ks 0) i = lpO ks (nI 1003) (pAll ks (pLv ks 0)) f1 j1 C1) → gg E rm_c_X5_readEither_0 4 X 0 0 8 [some (.ref h), some (.int (nI 8)), some (.int (nI 1)), some (.int (nI it))] [] [gO h 5 [.ref tk, .ref dr, .int (nI j1), .int (ks j1), .int fk, .int fp], gO tk 8 [.ref c0, .ref c1, .int (nI cn)], gA E c0 601 ks, gA E c1 601 ps, gO dr 4 [.ref a0, .ref a1, .ref a2, .ref a3, .int (nI nr), .int (nI (us + C1.length))], gA E a0 12 sa, gA E a1 12 sk, gA E a2 13 st, gA E a3 600 (cdW co us C1)] := by
      intro n8
      induction n8 with
      | zero => intro it j1 f1 C1 hm8; exact absurd hm8 (Nat.not_lt_zero _)
      | succ n8 ih8 =>
        intro it j1 f1 C1 hm8 g1 g2 g3 g4 g5
        refine g_iload_n C dX5_readEither_8 rfl ?_
        refine g_aload_n C dX5_readEither_9 rfl ?_
        refine g_get C i_X5 0 0 f_12 rfl rfl (by decide) rfl rfl dX5_readEither_10 ?_
        refine g_get C i_X8 1 2 f_76 rfl rfl (by decide) rfl rfl dX5_readEither_13 ?_
        refine g_icmp_ge_n (tgt := 59) C dX5_readEither_16 (by decide) (by omega) (by omega) (fun c16 => ?_) (fun c16 => ?_)
        · exact absurd c16 (by omega)
        · refine g_iload_n C dX5_readEither_19 rfl ?_
          refine g_if_eq (tgt := 59) C dX5_readEither_20 (by decide) (fun c20 => absurd c20 (by decide)) (fun c20 => ?_)
          refine g_aload_n C dX5_readEither_23 rfl ?_
          refine g_get C i_X5 0 3 f_25 rfl rfl (by decide) rfl rfl dX5_readEither_24 ?_
          refine g_sipush (v := nI 1003) C dX5_readEither_27 (by decide) ?_
          refine g_icmp_ne (tgt := 59) C dX5_readEither_30 (by decide) (fun c30 => ?_) (fun c30 => ?_)
          · refine g_iload_n C dX5_readEither_59 rfl ?_
            exact g_zret C Rt dX5_readEither_60 (by decide) (by decide) (by decide) (⟨true, _, _, _, _, _, rfl, rfl, rdQ_ok (by rw [g5, show f1 = f1 - 1 + 1 by omega, lpO, if_neg c30]) (by omega) g1 (by omega) rfl rfl⟩)
          · have hn7 := not_end hend g1 c30 (by decide)
            refine g_aload_n C dX5_readEither_33 rfl ?_
            refine g_callV C (c_X5_advance E h tk c0 c1 cn dr a0 a1 a2 a3 nr (us + C1.length) j1 ks ps sa sk st (cdW co us C1) fk fp (not_end hend g1 c30 (by decide)) (by omega)) gX5_readEither_X5_advance rfl 0 (by decide +kernel) ⟨by decide, by decide⟩ ⟨by decide, by decide⟩ 0 rfl rfl [0, 1, 2, 3, 4, 5, 6, 7, 8] [] (wr := []) rfl (by decide) rfl (by decide) (by decide) rfl rfl (Nat.le_of_ble_eq_true rfl) dX5_readEither_34 ?_
            rintro _ _ ⟨rfl, rfl⟩
            show gg E _ 4 X 0 0 37 [some (.ref h), some (.int (nI 8)), some (.int (nI 1)), some (.int (nI it))] [] [gO h 5 [.ref tk, .ref dr, .int (nI (j1 + 1)), .int (ks (j1 + 1)), .int fk, .int fp], gO tk 8 [.ref c0, .ref c1, .int (nI cn)], gA E c0 601 ks, gA E c1 601 ps, gO dr 4 [.ref a0, .ref a1, .ref a2, .ref a3, .int (nI nr), .int (nI (us + C1.length))], gA E a0 12 sa, gA E a1 12 sk, gA E a2 13 st, gA E a3 600 (cdW co us C1)]
            refine g_aload_n C dX5_readEither_37 rfl ?_
            refine g_iload_n C dX5_readEither_38 rfl ?_
            refine g_callV C (c_X5_readBoth_0 E h tk c0 c1 cn dr a0 a1 a2 a3 nr (us + C1.length) (j1 + 1) ks ps sa sk st (cdW co us C1) fk fp (by omega) (by omega) (hend) (by omega)) gX5_readEither_X5_readBoth rfl 1 (by decide +kernel) ⟨by decide, by decide⟩ ⟨by decide, by decide⟩ 0 rfl rfl [0, 1, 2, 3, 4, 5, 6, 7, 8] [] (wr := []) rfl (by decide) rfl (by decide) (by decide) rfl rfl (Nat.le_of_ble_eq_true rfl) dX5_readEither_39 ?_
            rintro _ _ ⟨ok_39, j_39, us2_39, co2_39, fk2_39, fp2_39, rfl, rfl, hq_39⟩
            show gg E _ 4 X 0 0 42 [some (.ref h), some (.int (nI 8)), some (.int (nI 1)), some (.int (nI it))] [.int (b2i ok_39)] [gO h 5 [.ref tk, .ref dr, .int (nI j_39), .int (ks j_39), .int fk2_39, .int fp2_39], gO tk 8 [.ref c0, .ref c1, .int (nI cn)], gA E c0 601 ks, gA E c1 601 ps, gO dr 4 [.ref a0, .ref a1, .ref a2, .ref a3, .int (nI nr), .int (nI us2_39)], gA E a0 12 sa, gA E a1 12 sk, gA E a2 13 st, gA E a3 600 co2_39]
            rcases rdQ_tw hq_39 with ⟨C_39, hr_39, rfl, rfl, rfl, rfl, rfl, b1_39, b2_39, b3_39⟩ | ⟨kd_39, ix_39, hr_39, rfl, rfl, rfl, b1_39, b2_39, b3_39, b4_39⟩
            · refine g_istore_n C dX5_readEither_42 (by decide) rfl (ll' := [some (.ref h), some (.int (nI 8)), some (.int (nI 1)), some (.int (nI it))]) rfl ?_
              refine g_aload_n C dX5_readEither_43 rfl ?_
              refine g_get C i_X5 0 1 f_21 rfl rfl (by decide) rfl rfl dX5_readEither_44 ?_
              refine g_sipush (v := nI 1003) C dX5_readEither_47 (by decide) ?_
              refine g_callV C (c_X4_append E dr a0 a1 a2 a3 nr ((us + C1.length) + C_39.length) sa sk st (cdW (cdW co us C1) (us + C1.length) C_39) (nI 1003) (by omega)) gX5_readEither_X4_append rfl 1 (by decide +kernel) ⟨by decide, by decide⟩ ⟨by decide, by decide⟩ 4 rfl rfl [4, 5, 6, 7, 8] [0, 1, 2, 3] (wr := [gO h 5 [.ref tk, .ref dr, .int (nI j_39), .int (ks j_39), .int fk, .int fp], gO tk 8 [.ref c0, .ref c1, .int (nI cn)], gA E c0 601 ks, gA E c1 601 ps]) rfl (by decide) rfl (by decide) (by decide) rfl rfl (Nat.le_of_ble_eq_true rfl) dX5_readEither_50 ?_
              rintro _ _ ⟨rfl, rfl⟩
              show gg E _ 4 X 0 0 53 [some (.ref h), some (.int (nI 8)), some (.int (nI 1)), some (.int (nI it))] [] [gO h 5 [.ref tk, .ref dr, .int (nI j_39), .int (ks j_39), .int fk, .int fp], gO tk 8 [.ref c0, .ref c1, .int (nI cn)], gA E c0 601 ks, gA E c1 601 ps, gO dr 4 [.ref a0, .ref a1, .ref a2, .ref a3, .int (nI nr), .int (nI (((us + C1.length) + C_39.length) + 1))], gA E a0 12 sa, gA E a1 12 sk, gA E a2 13 st, gA E a3 600 (upd (cdW (cdW co us C1) (us + C1.length) C_39) ((us + C1.length) + C_39.length) (nI 1003))]
              rw [ln3 us C1 C_39 (nI 1003), cd3 co us C1 C_39 (nI 1003)]
              refine g_iinc_n (y := 1) C dX5_readEither_53 rfl (by decide) (by decide) rfl (ll' := [some (.ref h), some (.int (nI 8)), some (.int (nI 1)), some (.int (nI (it + 1)))]) rfl ?_
              refine g_goto (tgt := 8) C dX5_readEither_56 (by decide) ?_
              exact ih8 (it + 1) j_39 (f1 - 1) (C1 ++ C_39 ++ [nI 1003]) (by omega) (by omega) (by omega) (by omega) (by have := ln3 us C1 C_39 (nI 1003); omega) (by rw [g5, show f1 = f1 - 1 + 1 by omega, lpO, if_pos c30, hr_39]; rfl)
            · refine g_istore_n C dX5_readEither_42 (by decide) rfl (ll' := [some (.ref h), some (.int (nI 8)), some (.int (nI 0)), some (.int (nI it))]) rfl ?_
              refine g_aload_n C dX5_readEither_43 rfl ?_
              refine g_get C i_X5 0 1 f_21 rfl rfl (by decide) rfl rfl dX5_readEither_44 ?_
              refine g_sipush (v := nI 1003) C dX5_readEither_47 (by decide) ?_
              refine g_callV C (c_X4_append E dr a0 a1 a2 a3 nr us2_39 sa sk st co2_39 (nI 1003) (by omega)) gX5_readEither_X4_append rfl 1 (by decide +kernel) ⟨by decide, by decide⟩ ⟨by decide, by decide⟩ 4 rfl rfl [4, 5, 6, 7, 8] [0, 1, 2, 3] (wr := [gO h 5 [.ref tk, .ref dr, .int (nI j_39), .int (ks j_39), .int (nI kd_39), .int (ps ix_39)], gO tk 8 [.ref c0, .ref c1, .int (nI cn)], gA E c0 601 ks, gA E c1 601 ps]) rfl (by decide) rfl (by decide) (by decide) rfl rfl (Nat.le_of_ble_eq_true rfl) dX5_readEither_50 ?_
              rintro _ _ ⟨rfl, rfl⟩
              show gg E _ 4 X 0 0 53 [some (.ref h), some (.int (nI 8)), some (.int (nI 0)), some (.int (nI it))] [] [gO h 5 [.ref tk, .ref dr, .int (nI j_39), .int (ks j_39), .int (nI kd_39), .int (ps ix_39)], gO tk 8 [.ref c0, .ref c1, .int (nI cn)], gA E c0 601 ks, gA E c1 601 ps, gO dr 4 [.ref a0, .ref a1, .ref a2, .ref a3, .int (nI nr), .int (nI (us2_39 + 1))], gA E a0 12 sa, gA E a1 12 sk, gA E a2 13 st, gA E a3 600 (upd co2_39 us2_39 (nI 1003))]
              refine g_iinc_n (y := 1) C dX5_readEither_53 rfl (by decide) (by decide) rfl (ll' := [some (.ref h), some (.int (nI 8)), some (.int (nI 0)), some (.int (nI (it + 1)))]) rfl ?_
              refine g_goto (tgt := 8) C dX5_readEither_56 (by decide) ?_
              refine g_iload_n C dX5_readEither_8 rfl ?_
              refine g_aload_n C dX5_readEither_9 rfl ?_
              refine g_get C i_X5 0 0 f_12 rfl rfl (by decide) rfl rfl dX5_readEither_10 ?_
              refine g_get C i_X8 1 2 f_76 rfl rfl (by decide) rfl rfl dX5_readEither_13 ?_
              refine g_icmp_ge_n (tgt := 59) C dX5_readEither_16 (by decide) (by omega) (by omega) (fun c16 => ?_) (fun c16 => ?_)
              · refine g_iload_n C dX5_readEither_59 rfl ?_
                exact g_zret C Rt dX5_readEither_60 (by decide) (by decide) (by decide) (⟨false, _, _, _, _, _, rfl, rfl, rdQ_er (by rw [g5, show f1 = f1 - 1 + 1 by omega, lpO, if_pos c30, hr_39]) (by omega) b2_39 (by omega) b4_39⟩)
              · refine g_iload_n C dX5_readEither_19 rfl ?_
                refine g_if_eq (tgt := 59) C dX5_readEither_20 (by decide) (fun c20 => ?_) (fun c20 => absurd c20 (by decide))
                refine g_iload_n C dX5_readEither_59 rfl ?_
                exact g_zret C Rt dX5_readEither_60 (by decide) (by decide) (by decide) (⟨false, _, _, _, _, _, rfl, rfl, rdQ_er (by rw [g5, show f1 = f1 - 1 + 1 by omega, lpO, if_pos c30, hr_39]) (by omega) b2_39 (by omega) b4_39⟩)
    exact L8 _ 0 j_2 601 C_2 (Nat.lt_succ_self _) (by omega) (by omega) (by omega) (by omega) (by rw [pAny, hr_2]; rfl)
  · refine g_istore_n C dX5_readEither_5 (by decide) rfl (ll' := [some (.ref h), some (.int (nI 8)), some (.int (nI 0)), none]) rfl ?_
    refine g_iconst (v := nI 0) C dX5_readEither_6 (by decide) ?_
    refine g_istore_n C dX5_readEither_7 (by decide) rfl (ll' := [some (.ref h), some (.int (nI 8)), some (.int (nI 0)), some (.int (nI 0))]) rfl ?_
    refine g_iload_n C dX5_readEither_8 rfl ?_
    refine g_aload_n C dX5_readEither_9 rfl ?_
    refine g_get C i_X5 0 0 f_12 rfl rfl (by decide) rfl rfl dX5_readEither_10 ?_
    refine g_get C i_X8 1 2 f_76 rfl rfl (by decide) rfl rfl dX5_readEither_13 ?_
    refine g_icmp_ge_n (tgt := 59) C dX5_readEither_16 (by decide) (by omega) (by omega) (fun c16 => ?_) (fun c16 => ?_)
    · refine g_iload_n C dX5_readEither_59 rfl ?_
      exact g_zret C Rt dX5_readEither_60 (by decide) (by decide) (by decide) (⟨false, _, _, _, _, _, rfl, rfl, rdQ_er (by rw [pAny, hr_2]; rfl) b1_2 b2_2 b3_2 b4_2⟩)
    · refine g_iload_n C dX5_readEither_19 rfl ?_
      refine g_if_eq (tgt := 59) C dX5_readEither_20 (by decide) (fun c20 => ?_) (fun c20 => absurd c20 (by decide))
      refine g_iload_n C dX5_readEither_59 rfl ?_
      exact g_zret C Rt dX5_readEither_60 (by decide) (by decide) (by decide) (⟨false, _, _, _, _, _, rfl, rfl, rdQ_er (by rw [pAny, hr_2]; rfl) b1_2 b2_2 b3_2 b4_2⟩)

abbrev rm_c_X5_readCondition_1 : Room := { frames := 6, cells := 0, slots := 0, locals := 134 }
set_option maxHeartbeats 4000000 in
set_option maxRecDepth 100000 in
theorem c_X5_readCondition_1 (E : gE) (h tk c0 c1 cn dr a0 a1 a2 a3 nr us i : Nat) (ks ps sa sk st co : Nat → Int32) (fk fp : Int32) (hi : i < cn) (hcn : cn ≤ 601) (hend : ks (cn - 1) = nI 1011) (hus : us ≤ i) : MM E yX5_readCondition wsX5_readCondition rm_c_X5_readCondition_1 [.ref h, .int (nI 7)] [gO h 5 [.ref tk, .ref dr, .int (nI i), .int (ks i), .int fk, .int fp], gO tk 8 [.ref c0, .ref c1, .int (nI cn)], gA E c0 601 ks, gA E c1 601 ps, gO dr 4 [.ref a0, .ref a1, .ref a2, .ref a3, .int (nI nr), .int (nI us)], gA E a0 12 sa, gA E a1 12 sk, gA E a2 13 st, gA E a3 600 co] (fun rv_ ru_ => ∃ (ok : Bool) (j us2 : Nat) (co2 : Nat → Int32) (fk2 fp2 : Int32), rv_ = some (.int (b2i ok)) ∧ ru_ = [gO h 5 [.ref tk, .ref dr, .int (nI j), .int (ks j), .int fk2, .int fp2], gO tk 8 [.ref c0, .ref c1, .int (nI cn)], gA E c0 601 ks, gA E c1 601 ps, gO dr 4 [.ref a0, .ref a1, .ref a2, .ref a3, .int (nI nr), .int (nI us2)], gA E a0 12 sa, gA E a1 12 sk, gA E a2 13 st, gA E a3 600 co2] ∧ (rdQ (pLv ks 1 i) ps cn i us co fk fp ok j us2 co2 fk2 fp2)) := by
  refine MM.ofG (cc := cX5_readCondition) (maxL := 4) (ret := (some .boolean)) (by decide) rfl (Nat.le_of_ble_eq_true rfl) (ll := [some (.ref h), some (.int (nI 7)), none, none]) rfl ?_
  intro X C Rt
  have C : gx E X cX5_readCondition 4 wsX5_readCondition RX5 := C
  have i_X5 : ∀ w ∈ u_ws RX5 TX5 6, w ∈ wsX5_readCondition := by decide +kernel
  have f_21 : Cond.fieldLink RX5 21 "MarkPages$RuleReader" "draft" "LMarkPages$RuleBook;" ∈ wsX5_readCondition := by decide +kernel
  have f_25 : Cond.fieldLink RX5 25 "MarkPages$RuleReader" "now" "I" ∈ wsX5_readCondition := by decide +kernel
  refine g_aload_n C dX5_readCondition_0 rfl ?_
  refine g_get C i_X5 0 3 f_25 rfl rfl (by decide) rfl rfl dX5_readCondition_1 ?_
  refine g_sipush (v := nI 1005) C dX5_readCondition_4 (by decide) ?_
  refine g_icmp_eq (tgt := 25) C dX5_readCondition_7 (by decide) (fun c7 => ?_) (fun c7 => ?_)
  · refine g_iload_n C dX5_readCondition_25 rfl ?_
    refine g_bipush (v := nI 8) C dX5_readCondition_26 (by decide) ?_
    refine g_icmp_lt (tgt := 37) C dX5_readCondition_28 (by decide) (fun c28 => ?_) (fun c28 => absurd c28 (by decide))
    refine g_aload_n C dX5_readCondition_37 rfl ?_
    refine g_get C i_X5 0 3 f_25 rfl rfl (by decide) rfl rfl dX5_readCondition_38 ?_
    refine g_sipush (v := nI 1005) C dX5_readCondition_41 (by decide) ?_
    refine g_icmp_ne (tgt := 51) C dX5_readCondition_44 (by decide) (fun c44 => ?_) (fun c44 => ?_)
    · exact absurd c7 c44
    · refine g_iconst (v := nI 1) C dX5_readCondition_47 (by decide) ?_
      refine g_goto (tgt := 52) C dX5_readCondition_48 (by decide) ?_
      refine g_istore_n C dX5_readCondition_52 (by decide) rfl (ll' := [some (.ref h), some (.int (nI 7)), some (.int (nI 1)), none]) rfl ?_
      have hn8 := not_end hend hi c7 (by decide)
      refine g_aload_n C dX5_readCondition_53 rfl ?_
      refine g_callV C (c_X5_advance E h tk c0 c1 cn dr a0 a1 a2 a3 nr us i ks ps sa sk st co fk fp (hn8) (by omega)) gX5_readCondition_X5_advance rfl 0 (by decide +kernel) ⟨by decide, by decide⟩ ⟨by decide, by decide⟩ 0 rfl rfl [0, 1, 2, 3, 4, 5, 6, 7, 8] [] (wr := []) rfl (by decide) rfl (by decide) (by decide) rfl rfl (Nat.le_of_ble_eq_true rfl) dX5_readCondition_54 ?_
      rintro _ _ ⟨rfl, rfl⟩
      show gg E _ 4 X 0 0 57 [some (.ref h), some (.int (nI 7)), some (.int (nI 1)), none] [] [gO h 5 [.ref tk, .ref dr, .int (nI (i + 1)), .int (ks (i + 1)), .int fk, .int fp], gO tk 8 [.ref c0, .ref c1, .int (nI cn)], gA E c0 601 ks, gA E c1 601 ps, gO dr 4 [.ref a0, .ref a1, .ref a2, .ref a3, .int (nI nr), .int (nI us)], gA E a0 12 sa, gA E a1 12 sk, gA E a2 13 st, gA E a3 600 co]
      refine g_iload_n C dX5_readCondition_57 rfl ?_
      refine g_if_ne (tgt := 87) C dX5_readCondition_58 (by decide) (fun c58 => ?_) (fun c58 => absurd c58 (by decide))
      refine g_aload_n C dX5_readCondition_87 rfl ?_
      refine g_iload_n C dX5_readCondition_88 rfl ?_
      refine g_iconst (v := nI 1) C dX5_readCondition_89 (by decide) ?_
      refine g_iadd C dX5_readCondition_90 (g_top (x' := nI 8) (by decide) ?_)
      refine g_callV C (c_X5_readCondition_0 E h tk c0 c1 cn dr a0 a1 a2 a3 nr us (i + 1) ks ps sa sk st co fk fp (by omega) (by omega) (hend) (by omega)) gX5_readCondition_X5_readCondition rfl 1 (by decide +kernel) ⟨by decide, by decide⟩ ⟨by decide, by decide⟩ 0 rfl rfl [0, 1, 2, 3, 4, 5, 6, 7, 8] [] (wr := []) rfl (by decide) rfl (by decide) (by decide) rfl rfl (Nat.le_of_ble_eq_true rfl) dX5_readCondition_91 ?_
      rintro _ _ ⟨ok_91, j_91, us2_91, co2_91, fk2_91, fp2_91, rfl, rfl, hq_91⟩
      show gg E _ 4 X 0 0 94 [some (.ref h), some (.int (nI 7)), some (.int (nI 1)), none] [.int (b2i ok_91)] [gO h 5 [.ref tk, .ref dr, .int (nI j_91), .int (ks j_91), .int fk2_91, .int fp2_91], gO tk 8 [.ref c0, .ref c1, .int (nI cn)], gA E c0 601 ks, gA E c1 601 ps, gO dr 4 [.ref a0, .ref a1, .ref a2, .ref a3, .int (nI nr), .int (nI us2_91)], gA E a0 12 sa, gA E a1 12 sk, gA E a2 13 st, gA E a3 600 co2_91]
      rcases rdQ_tw hq_91 with ⟨C_91, hr_91, rfl, rfl, rfl, rfl, rfl, b1_91, b2_91, b3_91⟩ | ⟨kd_91, ix_91, hr_91, rfl, rfl, rfl, b1_91, b2_91, b3_91, b4_91⟩
      · refine g_istore_n C dX5_readCondition_94 (by decide) rfl (ll' := [some (.ref h), some (.int (nI 7)), some (.int (nI 1)), some (.int (nI 1))]) rfl ?_
        refine g_aload_n C dX5_readCondition_95 rfl ?_
        refine g_get C i_X5 0 1 f_21 rfl rfl (by decide) rfl rfl dX5_readCondition_96 ?_
        refine g_sipush (v := nI 1005) C dX5_readCondition_99 (by decide) ?_
        refine g_callV C (c_X4_append E dr a0 a1 a2 a3 nr (us + C_91.length) sa sk st (cdW co us C_91) (nI 1005) (by omega)) gX5_readCondition_X4_append rfl 1 (by decide +kernel) ⟨by decide, by decide⟩ ⟨by decide, by decide⟩ 4 rfl rfl [4, 5, 6, 7, 8] [0, 1, 2, 3] (wr := [gO h 5 [.ref tk, .ref dr, .int (nI j_91), .int (ks j_91), .int fk, .int fp], gO tk 8 [.ref c0, .ref c1, .int (nI cn)], gA E c0 601 ks, gA E c1 601 ps]) rfl (by decide) rfl (by decide) (by decide) rfl rfl (Nat.le_of_ble_eq_true rfl) dX5_readCondition_102 ?_
        rintro _ _ ⟨rfl, rfl⟩
        show gg E _ 4 X 0 0 105 [some (.ref h), some (.int (nI 7)), some (.int (nI 1)), some (.int (nI 1))] [] [gO h 5 [.ref tk, .ref dr, .int (nI j_91), .int (ks j_91), .int fk, .int fp], gO tk 8 [.ref c0, .ref c1, .int (nI cn)], gA E c0 601 ks, gA E c1 601 ps, gO dr 4 [.ref a0, .ref a1, .ref a2, .ref a3, .int (nI nr), .int (nI ((us + C_91.length) + 1))], gA E a0 12 sa, gA E a1 12 sk, gA E a2 13 st, gA E a3 600 (upd (cdW co us C_91) (us + C_91.length) (nI 1005))]
        refine g_iload_n C dX5_readCondition_105 rfl ?_
        exact g_zret C Rt dX5_readCondition_106 (by decide) (by decide) (by decide) (⟨true, _, _, _, _, _, rfl, rfl, rdQ_ok (by rw [pLv, if_pos (Or.inl c7), if_pos c7, hr_91]; rfl) (by omega) b2_91 (by omega) (ln2 _ _ _) (cdW_snoc _ _ _ _).symm⟩)
      · refine g_istore_n C dX5_readCondition_94 (by decide) rfl (ll' := [some (.ref h), some (.int (nI 7)), some (.int (nI 1)), some (.int (nI 0))]) rfl ?_
        refine g_aload_n C dX5_readCondition_95 rfl ?_
        refine g_get C i_X5 0 1 f_21 rfl rfl (by decide) rfl rfl dX5_readCondition_96 ?_
        refine g_sipush (v := nI 1005) C dX5_readCondition_99 (by decide) ?_
        refine g_callV C (c_X4_append E dr a0 a1 a2 a3 nr us2_91 sa sk st co2_91 (nI 1005) (by omega)) gX5_readCondition_X4_append rfl 1 (by decide +kernel) ⟨by decide, by decide⟩ ⟨by decide, by decide⟩ 4 rfl rfl [4, 5, 6, 7, 8] [0, 1, 2, 3] (wr := [gO h 5 [.ref tk, .ref dr, .int (nI j_91), .int (ks j_91), .int (nI kd_91), .int (ps ix_91)], gO tk 8 [.ref c0, .ref c1, .int (nI cn)], gA E c0 601 ks, gA E c1 601 ps]) rfl (by decide) rfl (by decide) (by decide) rfl rfl (Nat.le_of_ble_eq_true rfl) dX5_readCondition_102 ?_
        rintro _ _ ⟨rfl, rfl⟩
        show gg E _ 4 X 0 0 105 [some (.ref h), some (.int (nI 7)), some (.int (nI 1)), some (.int (nI 0))] [] [gO h 5 [.ref tk, .ref dr, .int (nI j_91), .int (ks j_91), .int (nI kd_91), .int (ps ix_91)], gO tk 8 [.ref c0, .ref c1, .int (nI cn)], gA E c0 601 ks, gA E c1 601 ps, gO dr 4 [.ref a0, .ref a1, .ref a2, .ref a3, .int (nI nr), .int (nI (us2_91 + 1))], gA E a0 12 sa, gA E a1 12 sk, gA E a2 13 st, gA E a3 600 (upd co2_91 us2_91 (nI 1005))]
        refine g_iload_n C dX5_readCondition_105 rfl ?_
        exact g_zret C Rt dX5_readCondition_106 (by decide) (by decide) (by decide) (⟨false, _, _, _, _, _, rfl, rfl, rdQ_er (by rw [pLv, if_pos (Or.inl c7), if_pos c7, hr_91]; rfl) (by omega) b2_91 (by omega) b4_91⟩)
  · refine g_aload_n C dX5_readCondition_10 rfl ?_
    refine g_get C i_X5 0 3 f_25 rfl rfl (by decide) rfl rfl dX5_readCondition_11 ?_
    refine g_sipush (v := nI 1140) C dX5_readCondition_14 (by decide) ?_
    refine g_icmp_eq (tgt := 25) C dX5_readCondition_17 (by decide) (fun c17 => ?_) (fun c17 => ?_)
    · refine g_iload_n C dX5_readCondition_25 rfl ?_
      refine g_bipush (v := nI 8) C dX5_readCondition_26 (by decide) ?_
      refine g_icmp_lt (tgt := 37) C dX5_readCondition_28 (by decide) (fun c28 => ?_) (fun c28 => absurd c28 (by decide))
      refine g_aload_n C dX5_readCondition_37 rfl ?_
      refine g_get C i_X5 0 3 f_25 rfl rfl (by decide) rfl rfl dX5_readCondition_38 ?_
      refine g_sipush (v := nI 1005) C dX5_readCondition_41 (by decide) ?_
      refine g_icmp_ne (tgt := 51) C dX5_readCondition_44 (by decide) (fun c44 => ?_) (fun c44 => ?_)
      · refine g_iconst (v := nI 0) C dX5_readCondition_51 (by decide) ?_
        refine g_istore_n C dX5_readCondition_52 (by decide) rfl (ll' := [some (.ref h), some (.int (nI 7)), some (.int (nI 0)), none]) rfl ?_
        have hn8 := not_end hend hi c17 (by decide)
        refine g_aload_n C dX5_readCondition_53 rfl ?_
        refine g_callV C (c_X5_advance E h tk c0 c1 cn dr a0 a1 a2 a3 nr us i ks ps sa sk st co fk fp (hn8) (by omega)) gX5_readCondition_X5_advance rfl 0 (by decide +kernel) ⟨by decide, by decide⟩ ⟨by decide, by decide⟩ 0 rfl rfl [0, 1, 2, 3, 4, 5, 6, 7, 8] [] (wr := []) rfl (by decide) rfl (by decide) (by decide) rfl rfl (Nat.le_of_ble_eq_true rfl) dX5_readCondition_54 ?_
        rintro _ _ ⟨rfl, rfl⟩
        show gg E _ 4 X 0 0 57 [some (.ref h), some (.int (nI 7)), some (.int (nI 0)), none] [] [gO h 5 [.ref tk, .ref dr, .int (nI (i + 1)), .int (ks (i + 1)), .int fk, .int fp], gO tk 8 [.ref c0, .ref c1, .int (nI cn)], gA E c0 601 ks, gA E c1 601 ps, gO dr 4 [.ref a0, .ref a1, .ref a2, .ref a3, .int (nI nr), .int (nI us)], gA E a0 12 sa, gA E a1 12 sk, gA E a2 13 st, gA E a3 600 co]
        refine g_iload_n C dX5_readCondition_57 rfl ?_
        refine g_if_ne (tgt := 87) C dX5_readCondition_58 (by decide) (fun c58 => absurd c58 (by decide)) (fun c58 => ?_)
        refine g_aload_n C dX5_readCondition_61 rfl ?_
        refine g_iload_n C dX5_readCondition_62 rfl ?_
        refine g_iconst (v := nI 1) C dX5_readCondition_63 (by decide) ?_
        refine g_iadd C dX5_readCondition_64 (g_top (x' := nI 8) (by decide) ?_)
        refine g_callV C (c_X5_readEither_0 E h tk c0 c1 cn dr a0 a1 a2 a3 nr us (i + 1) ks ps sa sk st co fk fp (by omega) (by omega) (hend) (by omega)) gX5_readCondition_X5_readEither rfl 1 (by decide +kernel) ⟨by decide, by decide⟩ ⟨by decide, by decide⟩ 0 rfl rfl [0, 1, 2, 3, 4, 5, 6, 7, 8] [] (wr := []) rfl (by decide) rfl (by decide) (by decide) rfl rfl (Nat.le_of_ble_eq_true rfl) dX5_readCondition_65 ?_
        rintro _ _ ⟨ok_65, j_65, us2_65, co2_65, fk2_65, fp2_65, rfl, rfl, hq_65⟩
        show gg E _ 4 X 0 0 68 [some (.ref h), some (.int (nI 7)), some (.int (nI 0)), none] [.int (b2i ok_65)] [gO h 5 [.ref tk, .ref dr, .int (nI j_65), .int (ks j_65), .int fk2_65, .int fp2_65], gO tk 8 [.ref c0, .ref c1, .int (nI cn)], gA E c0 601 ks, gA E c1 601 ps, gO dr 4 [.ref a0, .ref a1, .ref a2, .ref a3, .int (nI nr), .int (nI us2_65)], gA E a0 12 sa, gA E a1 12 sk, gA E a2 13 st, gA E a3 600 co2_65]
        rcases rdQ_tw hq_65 with ⟨C_65, hr_65, rfl, rfl, rfl, rfl, rfl, b1_65, b2_65, b3_65⟩ | ⟨kd_65, ix_65, hr_65, rfl, rfl, rfl, b1_65, b2_65, b3_65, b4_65⟩
        · refine g_if_eq (tgt := 85) C dX5_readCondition_68 (by decide) (fun c68 => absurd c68 (by decide)) (fun c68 => ?_)
          rcases Classical.em (ks j_65 = nI 1141) with hx | hx
          · refine g_aload_n C dX5_readCondition_71 rfl ?_
            refine g_sipush (v := nI 1141) C dX5_readCondition_72 (by decide) ?_
            refine g_callV C (c_X5_expect_y E h tk c0 c1 cn dr a0 a1 a2 a3 nr (us + C_65.length) j_65 ks ps sa sk st (cdW co us C_65) fk fp (nI 1141) (by omega) (by omega) (hend) (hx) (by decide)) gX5_readCondition_X5_expect rfl 1 (by decide +kernel) ⟨by decide, by decide⟩ ⟨by decide, by decide⟩ 0 rfl rfl [0, 1, 2, 3, 4, 5, 6, 7, 8] [] (wr := []) rfl (by decide) rfl (by decide) (by decide) rfl rfl (Nat.le_of_ble_eq_true rfl) dX5_readCondition_75 ?_
            rintro _ _ ⟨rfl, rfl⟩
            show gg E _ 4 X 0 0 78 [some (.ref h), some (.int (nI 7)), some (.int (nI 0)), none] [.int (nI 1)] [gO h 5 [.ref tk, .ref dr, .int (nI (j_65 + 1)), .int (ks (j_65 + 1)), .int fk, .int fp], gO tk 8 [.ref c0, .ref c1, .int (nI cn)], gA E c0 601 ks, gA E c1 601 ps, gO dr 4 [.ref a0, .ref a1, .ref a2, .ref a3, .int (nI nr), .int (nI (us + C_65.length))], gA E a0 12 sa, gA E a1 12 sk, gA E a2 13 st, gA E a3 600 (cdW co us C_65)]
            refine g_if_eq (tgt := 85) C dX5_readCondition_78 (by decide) (fun c78 => absurd c78 (by decide)) (fun c78 => ?_)
            refine g_iconst (v := nI 1) C dX5_readCondition_81 (by decide) ?_
            refine g_goto (tgt := 86) C dX5_readCondition_82 (by decide) ?_
            exact g_zret C Rt dX5_readCondition_86 (by decide) (by decide) (by decide) (⟨true, _, _, _, _, _, rfl, rfl, rdQ_ok (by rw [pLv, if_pos (Or.inr c17), if_neg c7, hr_65]; exact if_pos hx) (by omega) (not_end hend b2_65 hx (by decide)) (by omega) rfl rfl⟩)
          · refine g_aload_n C dX5_readCondition_71 rfl ?_
            refine g_sipush (v := nI 1141) C dX5_readCondition_72 (by decide) ?_
            refine g_callV C (c_X5_expect_n E h tk c0 c1 cn dr a0 a1 a2 a3 nr (us + C_65.length) j_65 ks ps sa sk st (cdW co us C_65) fk fp (nI 1141) (by omega) (by omega) (hx)) gX5_readCondition_X5_expect rfl 1 (by decide +kernel) ⟨by decide, by decide⟩ ⟨by decide, by decide⟩ 0 rfl rfl [0, 1, 2, 3, 4, 5, 6, 7, 8] [] (wr := []) rfl (by decide) rfl (by decide) (by decide) rfl rfl (Nat.le_of_ble_eq_true rfl) dX5_readCondition_75 ?_
            rintro _ _ ⟨rfl, rfl⟩
            show gg E _ 4 X 0 0 78 [some (.ref h), some (.int (nI 7)), some (.int (nI 0)), none] [.int (nI 0)] [gO h 5 [.ref tk, .ref dr, .int (nI j_65), .int (ks j_65), .int (nI 1), .int (ps j_65)], gO tk 8 [.ref c0, .ref c1, .int (nI cn)], gA E c0 601 ks, gA E c1 601 ps, gO dr 4 [.ref a0, .ref a1, .ref a2, .ref a3, .int (nI nr), .int (nI (us + C_65.length))], gA E a0 12 sa, gA E a1 12 sk, gA E a2 13 st, gA E a3 600 (cdW co us C_65)]
            refine g_if_eq (tgt := 85) C dX5_readCondition_78 (by decide) (fun c78 => ?_) (fun c78 => absurd c78 (by decide))
            refine g_iconst (v := nI 0) C dX5_readCondition_85 (by decide) ?_
            exact g_zret C Rt dX5_readCondition_86 (by decide) (by decide) (by decide) (⟨false, _, _, _, _, _, rfl, rfl, rdQ_er (by rw [pLv, if_pos (Or.inr c17), if_neg c7, hr_65]; exact if_neg hx) (by omega) b2_65 (by omega) b2_65⟩)
        · refine g_if_eq (tgt := 85) C dX5_readCondition_68 (by decide) (fun c68 => ?_) (fun c68 => absurd c68 (by decide))
          refine g_iconst (v := nI 0) C dX5_readCondition_85 (by decide) ?_
          exact g_zret C Rt dX5_readCondition_86 (by decide) (by decide) (by decide) (⟨false, _, _, _, _, _, rfl, rfl, rdQ_er (by rw [pLv, if_pos (Or.inr c17), if_neg c7, hr_65]; rfl) (by omega) b2_65 (by omega) b4_65⟩)
      · exact absurd c44 c7
    · refine g_aload_n C dX5_readCondition_20 rfl ?_
      refine g_callV C (c_X5_readComparison E h tk c0 c1 cn dr a0 a1 a2 a3 nr us i ks ps sa sk st co fk fp (by omega) (by omega) (hend) (by omega)) gX5_readCondition_X5_readComparison rfl 0 (by decide +kernel) ⟨by decide, by decide⟩ ⟨by decide, by decide⟩ 0 rfl rfl [0, 1, 2, 3, 4, 5, 6, 7, 8] [] (wr := []) rfl (by decide) rfl (by decide) (by decide) rfl rfl (Nat.le_of_ble_eq_true rfl) dX5_readCondition_21 ?_
      rintro _ _ ⟨ok_21, j_21, us2_21, co2_21, fk2_21, fp2_21, rfl, rfl, hq_21⟩
      show gg E _ 4 X 0 0 24 [some (.ref h), some (.int (nI 7)), none, none] [.int (b2i ok_21)] [gO h 5 [.ref tk, .ref dr, .int (nI j_21), .int (ks j_21), .int fk2_21, .int fp2_21], gO tk 8 [.ref c0, .ref c1, .int (nI cn)], gA E c0 601 ks, gA E c1 601 ps, gO dr 4 [.ref a0, .ref a1, .ref a2, .ref a3, .int (nI nr), .int (nI us2_21)], gA E a0 12 sa, gA E a1 12 sk, gA E a2 13 st, gA E a3 600 co2_21]
      exact g_zret C Rt dX5_readCondition_24 (by decide) (by decide) (b2i_01 _) (⟨_, _, _, _, _, _, rfl, rfl, by rw [pLv, if_neg (fun z => z.elim c7 c17)]; exact hq_21⟩)

abbrev rm_c_X5_readBoth_1 : Room := { frames := 7, cells := 0, slots := 0, locals := 157 }
set_option maxHeartbeats 4000000 in
set_option maxRecDepth 100000 in
theorem c_X5_readBoth_1 (E : gE) (h tk c0 c1 cn dr a0 a1 a2 a3 nr us i : Nat) (ks ps sa sk st co : Nat → Int32) (fk fp : Int32) (hi : i < cn) (hcn : cn ≤ 601) (hend : ks (cn - 1) = nI 1011) (hus : us ≤ i) : MM E yX5_readBoth wsX5_readBoth rm_c_X5_readBoth_1 [.ref h, .int (nI 7)] [gO h 5 [.ref tk, .ref dr, .int (nI i), .int (ks i), .int fk, .int fp], gO tk 8 [.ref c0, .ref c1, .int (nI cn)], gA E c0 601 ks, gA E c1 601 ps, gO dr 4 [.ref a0, .ref a1, .ref a2, .ref a3, .int (nI nr), .int (nI us)], gA E a0 12 sa, gA E a1 12 sk, gA E a2 13 st, gA E a3 600 co] (fun rv_ ru_ => ∃ (ok : Bool) (j us2 : Nat) (co2 : Nat → Int32) (fk2 fp2 : Int32), rv_ = some (.int (b2i ok)) ∧ ru_ = [gO h 5 [.ref tk, .ref dr, .int (nI j), .int (ks j), .int fk2, .int fp2], gO tk 8 [.ref c0, .ref c1, .int (nI cn)], gA E c0 601 ks, gA E c1 601 ps, gO dr 4 [.ref a0, .ref a1, .ref a2, .ref a3, .int (nI nr), .int (nI us2)], gA E a0 12 sa, gA E a1 12 sk, gA E a2 13 st, gA E a3 600 co2] ∧ (rdQ (pAll ks (pLv ks 1) i) ps cn i us co fk fp ok j us2 co2 fk2 fp2)) := by
  refine MM.ofG (cc := cX5_readBoth) (maxL := 4) (ret := (some .boolean)) (by decide) rfl (Nat.le_of_ble_eq_true rfl) (ll := [some (.ref h), some (.int (nI 7)), none, none]) rfl ?_
  intro X C Rt
  have C : gx E X cX5_readBoth 4 wsX5_readBoth RX5 := C
  have i_X5 : ∀ w ∈ u_ws RX5 TX5 6, w ∈ wsX5_readBoth := by decide +kernel
  have i_X8 : ∀ w ∈ u_ws RX8 TX8 3, w ∈ wsX5_readBoth := by decide +kernel
  have f_12 : Cond.fieldLink RX5 12 "MarkPages$RuleReader" "tokens" "LMarkPages$Tokens;" ∈ wsX5_readBoth := by decide +kernel
  have f_21 : Cond.fieldLink RX5 21 "MarkPages$RuleReader" "draft" "LMarkPages$RuleBook;" ∈ wsX5_readBoth := by decide +kernel
  have f_25 : Cond.fieldLink RX5 25 "MarkPages$RuleReader" "now" "I" ∈ wsX5_readBoth := by decide +kernel
  have f_76 : Cond.fieldLink RX5 76 "MarkPages$Tokens" "count" "I" ∈ wsX5_readBoth := by decide +kernel
  refine g_aload_n C dX5_readBoth_0 rfl ?_
  refine g_iload_n C dX5_readBoth_1 rfl ?_
  refine g_callV C (c_X5_readCondition_1 E h tk c0 c1 cn dr a0 a1 a2 a3 nr us i ks ps sa sk st co fk fp (by omega) (by omega) (hend) (by omega)) gX5_readBoth_X5_readCondition rfl 1 (by decide +kernel) ⟨by decide, by decide⟩ ⟨by decide, by decide⟩ 0 rfl rfl [0, 1, 2, 3, 4, 5, 6, 7, 8] [] (wr := []) rfl (by decide) rfl (by decide) (by decide) rfl rfl (Nat.le_of_ble_eq_true rfl) dX5_readBoth_2 ?_
  rintro _ _ ⟨ok_2, j_2, us2_2, co2_2, fk2_2, fp2_2, rfl, rfl, hq_2⟩
  show gg E _ 4 X 0 0 5 [some (.ref h), some (.int (nI 7)), none, none] [.int (b2i ok_2)] [gO h 5 [.ref tk, .ref dr, .int (nI j_2), .int (ks j_2), .int fk2_2, .int fp2_2], gO tk 8 [.ref c0, .ref c1, .int (nI cn)], gA E c0 601 ks, gA E c1 601 ps, gO dr 4 [.ref a0, .ref a1, .ref a2, .ref a3, .int (nI nr), .int (nI us2_2)], gA E a0 12 sa, gA E a1 12 sk, gA E a2 13 st, gA E a3 600 co2_2]
  rcases rdQ_tw hq_2 with ⟨C_2, hr_2, rfl, rfl, rfl, rfl, rfl, b1_2, b2_2, b3_2⟩ | ⟨kd_2, ix_2, hr_2, rfl, rfl, rfl, b1_2, b2_2, b3_2, b4_2⟩
  · refine g_istore_n C dX5_readBoth_5 (by decide) rfl (ll' := [some (.ref h), some (.int (nI 7)), some (.int (nI 1)), none]) rfl ?_
    refine g_iconst (v := nI 0) C dX5_readBoth_6 (by decide) ?_
    refine g_istore_n C dX5_readBoth_7 (by decide) rfl (ll' := [some (.ref h), some (.int (nI 7)), some (.int (nI 1)), some (.int (nI 0))]) rfl ?_
    have L8 : ∀ (n8 : Nat) (it j1 f1 : Nat) (C1 : List Int32), cn - j1 < n8 → (j1 < cn) → (i + it ≤ j1) → (f1 + it = 601) → (C1.length + i ≤ j1) → (pAll ks (pLv ks 1) i = lpO ks (nI 1004) (pLv ks 1) f1 j1 C1) → gg E rm_c_X5_readBoth_1 4 X 0 0 8 [some (.ref h), some (.int (nI 7)), some (.int (nI 1)), some (.int (nI it))] [] [gO h 5 [.ref tk, .ref dr, .int (nI j1), .int (ks j1), .int fk, .int fp], gO tk 8 [.ref c0, .ref c1, .int (nI cn)], gA E c0 601 ks, gA E c1 601 ps, gO dr 4 [.ref a0, .ref a1, .ref a2, .ref a3, .int (nI nr), .int (nI (us + C1.length))], gA E a0 12 sa, gA E a1 12 sk, gA E a2 13 st, gA E a3 600 (cdW co us C1)] := by
      intro n8
      induction n8 with
      | zero => intro it j1 f1 C1 hm8; exact absurd hm8 (Nat.not_lt_zero _)
      | succ n8 ih8 =>
        intro it j1 f1 C1 hm8 g1 g2 g3 g4 g5
        refine g_iload_n C dX5_readBoth_8 rfl ?_
        refine g_aload_n C dX5_readBoth_9 rfl ?_
        refine g_get C i_X5 0 0 f_12 rfl rfl (by decide) rfl rfl dX5_readBoth_10 ?_
        refine g_get C i_X8 1 2 f_76 rfl rfl (by decide) rfl rfl dX5_readBoth_13 ?_
        refine g_icmp_ge_n (tgt := 59) C dX5_readBoth_16 (by decide) (by omega) (by omega) (fun c16 => ?_) (fun c16 => ?_)
        · exact absurd c16 (by omega)
        · refine g_iload_n C dX5_readBoth_19 rfl ?_
          refine g_if_eq (tgt := 59) C dX5_readBoth_20 (by decide) (fun c20 => absurd c20 (by decide)) (fun c20 => ?_)
          refine g_aload_n C dX5_readBoth_23 rfl ?_
          refine g_get C i_X5 0 3 f_25 rfl rfl (by decide) rfl rfl dX5_readBoth_24 ?_
          refine g_sipush (v := nI 1004) C dX5_readBoth_27 (by decide) ?_
          refine g_icmp_ne (tgt := 59) C dX5_readBoth_30 (by decide) (fun c30 => ?_) (fun c30 => ?_)
          · refine g_iload_n C dX5_readBoth_59 rfl ?_
            exact g_zret C Rt dX5_readBoth_60 (by decide) (by decide) (by decide) (⟨true, _, _, _, _, _, rfl, rfl, rdQ_ok (by rw [g5, show f1 = f1 - 1 + 1 by omega, lpO, if_neg c30]) (by omega) g1 (by omega) rfl rfl⟩)
          · have hn7 := not_end hend g1 c30 (by decide)
            refine g_aload_n C dX5_readBoth_33 rfl ?_
            refine g_callV C (c_X5_advance E h tk c0 c1 cn dr a0 a1 a2 a3 nr (us + C1.length) j1 ks ps sa sk st (cdW co us C1) fk fp (not_end hend g1 c30 (by decide)) (by omega)) gX5_readBoth_X5_advance rfl 0 (by decide +kernel) ⟨by decide, by decide⟩ ⟨by decide, by decide⟩ 0 rfl rfl [0, 1, 2, 3, 4, 5, 6, 7, 8] [] (wr := []) rfl (by decide) rfl (by decide) (by decide) rfl rfl (Nat.le_of_ble_eq_true rfl) dX5_readBoth_34 ?_
            rintro _ _ ⟨rfl, rfl⟩
            show gg E _ 4 X 0 0 37 [some (.ref h), some (.int (nI 7)), some (.int (nI 1)), some (.int (nI it))] [] [gO h 5 [.ref tk, .ref dr, .int (nI (j1 + 1)), .int (ks (j1 + 1)), .int fk, .int fp], gO tk 8 [.ref c0, .ref c1, .int (nI cn)], gA E c0 601 ks, gA E c1 601 ps, gO dr 4 [.ref a0, .ref a1, .ref a2, .ref a3, .int (nI nr), .int (nI (us + C1.length))], gA E a0 12 sa, gA E a1 12 sk, gA E a2 13 st, gA E a3 600 (cdW co us C1)]
            refine g_aload_n C dX5_readBoth_37 rfl ?_
            refine g_iload_n C dX5_readBoth_38 rfl ?_
            refine g_callV C (c_X5_readCondition_1 E h tk c0 c1 cn dr a0 a1 a2 a3 nr (us + C1.length) (j1 + 1) ks ps sa sk st (cdW co us C1) fk fp (by omega) (by omega) (hend) (by omega)) gX5_readBoth_X5_readCondition rfl 1 (by decide +kernel) ⟨by decide, by decide⟩ ⟨by decide, by decide⟩ 0 rfl rfl [0, 1, 2, 3, 4, 5, 6, 7, 8] [] (wr := []) rfl (by decide) rfl (by decide) (by decide) rfl rfl (Nat.le_of_ble_eq_true rfl) dX5_readBoth_39 ?_
            rintro _ _ ⟨ok_39, j_39, us2_39, co2_39, fk2_39, fp2_39, rfl, rfl, hq_39⟩
            show gg E _ 4 X 0 0 42 [some (.ref h), some (.int (nI 7)), some (.int (nI 1)), some (.int (nI it))] [.int (b2i ok_39)] [gO h 5 [.ref tk, .ref dr, .int (nI j_39), .int (ks j_39), .int fk2_39, .int fp2_39], gO tk 8 [.ref c0, .ref c1, .int (nI cn)], gA E c0 601 ks, gA E c1 601 ps, gO dr 4 [.ref a0, .ref a1, .ref a2, .ref a3, .int (nI nr), .int (nI us2_39)], gA E a0 12 sa, gA E a1 12 sk, gA E a2 13 st, gA E a3 600 co2_39]
            rcases rdQ_tw hq_39 with ⟨C_39, hr_39, rfl, rfl, rfl, rfl, rfl, b1_39, b2_39, b3_39⟩ | ⟨kd_39, ix_39, hr_39, rfl, rfl, rfl, b1_39, b2_39, b3_39, b4_39⟩
            · refine g_istore_n C dX5_readBoth_42 (by decide) rfl (ll' := [some (.ref h), some (.int (nI 7)), some (.int (nI 1)), some (.int (nI it))]) rfl ?_
              refine g_aload_n C dX5_readBoth_43 rfl ?_
              refine g_get C i_X5 0 1 f_21 rfl rfl (by decide) rfl rfl dX5_readBoth_44 ?_
              refine g_sipush (v := nI 1004) C dX5_readBoth_47 (by decide) ?_
              refine g_callV C (c_X4_append E dr a0 a1 a2 a3 nr ((us + C1.length) + C_39.length) sa sk st (cdW (cdW co us C1) (us + C1.length) C_39) (nI 1004) (by omega)) gX5_readBoth_X4_append rfl 1 (by decide +kernel) ⟨by decide, by decide⟩ ⟨by decide, by decide⟩ 4 rfl rfl [4, 5, 6, 7, 8] [0, 1, 2, 3] (wr := [gO h 5 [.ref tk, .ref dr, .int (nI j_39), .int (ks j_39), .int fk, .int fp], gO tk 8 [.ref c0, .ref c1, .int (nI cn)], gA E c0 601 ks, gA E c1 601 ps]) rfl (by decide) rfl (by decide) (by decide) rfl rfl (Nat.le_of_ble_eq_true rfl) dX5_readBoth_50 ?_
              rintro _ _ ⟨rfl, rfl⟩
              show gg E _ 4 X 0 0 53 [some (.ref h), some (.int (nI 7)), some (.int (nI 1)), some (.int (nI it))] [] [gO h 5 [.ref tk, .ref dr, .int (nI j_39), .int (ks j_39), .int fk, .int fp], gO tk 8 [.ref c0, .ref c1, .int (nI cn)], gA E c0 601 ks, gA E c1 601 ps, gO dr 4 [.ref a0, .ref a1, .ref a2, .ref a3, .int (nI nr), .int (nI (((us + C1.length) + C_39.length) + 1))], gA E a0 12 sa, gA E a1 12 sk, gA E a2 13 st, gA E a3 600 (upd (cdW (cdW co us C1) (us + C1.length) C_39) ((us + C1.length) + C_39.length) (nI 1004))]
              rw [ln3 us C1 C_39 (nI 1004), cd3 co us C1 C_39 (nI 1004)]
              refine g_iinc_n (y := 1) C dX5_readBoth_53 rfl (by decide) (by decide) rfl (ll' := [some (.ref h), some (.int (nI 7)), some (.int (nI 1)), some (.int (nI (it + 1)))]) rfl ?_
              refine g_goto (tgt := 8) C dX5_readBoth_56 (by decide) ?_
              exact ih8 (it + 1) j_39 (f1 - 1) (C1 ++ C_39 ++ [nI 1004]) (by omega) (by omega) (by omega) (by omega) (by have := ln3 us C1 C_39 (nI 1004); omega) (by rw [g5, show f1 = f1 - 1 + 1 by omega, lpO, if_pos c30, hr_39]; rfl)
            · refine g_istore_n C dX5_readBoth_42 (by decide) rfl (ll' := [some (.ref h), some (.int (nI 7)), some (.int (nI 0)), some (.int (nI it))]) rfl ?_
              refine g_aload_n C dX5_readBoth_43 rfl ?_
              refine g_get C i_X5 0 1 f_21 rfl rfl (by decide) rfl rfl dX5_readBoth_44 ?_
              refine g_sipush (v := nI 1004) C dX5_readBoth_47 (by decide) ?_
              refine g_callV C (c_X4_append E dr a0 a1 a2 a3 nr us2_39 sa sk st co2_39 (nI 1004) (by omega)) gX5_readBoth_X4_append rfl 1 (by decide +kernel) ⟨by decide, by decide⟩ ⟨by decide, by decide⟩ 4 rfl rfl [4, 5, 6, 7, 8] [0, 1, 2, 3] (wr := [gO h 5 [.ref tk, .ref dr, .int (nI j_39), .int (ks j_39), .int (nI kd_39), .int (ps ix_39)], gO tk 8 [.ref c0, .ref c1, .int (nI cn)], gA E c0 601 ks, gA E c1 601 ps]) rfl (by decide) rfl (by decide) (by decide) rfl rfl (Nat.le_of_ble_eq_true rfl) dX5_readBoth_50 ?_
              rintro _ _ ⟨rfl, rfl⟩
              show gg E _ 4 X 0 0 53 [some (.ref h), some (.int (nI 7)), some (.int (nI 0)), some (.int (nI it))] [] [gO h 5 [.ref tk, .ref dr, .int (nI j_39), .int (ks j_39), .int (nI kd_39), .int (ps ix_39)], gO tk 8 [.ref c0, .ref c1, .int (nI cn)], gA E c0 601 ks, gA E c1 601 ps, gO dr 4 [.ref a0, .ref a1, .ref a2, .ref a3, .int (nI nr), .int (nI (us2_39 + 1))], gA E a0 12 sa, gA E a1 12 sk, gA E a2 13 st, gA E a3 600 (upd co2_39 us2_39 (nI 1004))]
              refine g_iinc_n (y := 1) C dX5_readBoth_53 rfl (by decide) (by decide) rfl (ll' := [some (.ref h), some (.int (nI 7)), some (.int (nI 0)), some (.int (nI (it + 1)))]) rfl ?_
              refine g_goto (tgt := 8) C dX5_readBoth_56 (by decide) ?_
              refine g_iload_n C dX5_readBoth_8 rfl ?_
              refine g_aload_n C dX5_readBoth_9 rfl ?_
              refine g_get C i_X5 0 0 f_12 rfl rfl (by decide) rfl rfl dX5_readBoth_10 ?_
              refine g_get C i_X8 1 2 f_76 rfl rfl (by decide) rfl rfl dX5_readBoth_13 ?_
              refine g_icmp_ge_n (tgt := 59) C dX5_readBoth_16 (by decide) (by omega) (by omega) (fun c16 => ?_) (fun c16 => ?_)
              · refine g_iload_n C dX5_readBoth_59 rfl ?_
                exact g_zret C Rt dX5_readBoth_60 (by decide) (by decide) (by decide) (⟨false, _, _, _, _, _, rfl, rfl, rdQ_er (by rw [g5, show f1 = f1 - 1 + 1 by omega, lpO, if_pos c30, hr_39]) (by omega) b2_39 (by omega) b4_39⟩)
              · refine g_iload_n C dX5_readBoth_19 rfl ?_
                refine g_if_eq (tgt := 59) C dX5_readBoth_20 (by decide) (fun c20 => ?_) (fun c20 => absurd c20 (by decide))
                refine g_iload_n C dX5_readBoth_59 rfl ?_
                exact g_zret C Rt dX5_readBoth_60 (by decide) (by decide) (by decide) (⟨false, _, _, _, _, _, rfl, rfl, rdQ_er (by rw [g5, show f1 = f1 - 1 + 1 by omega, lpO, if_pos c30, hr_39]) (by omega) b2_39 (by omega) b4_39⟩)
    exact L8 _ 0 j_2 601 C_2 (Nat.lt_succ_self _) (by omega) (by omega) (by omega) (by omega) (by rw [pAll, hr_2]; rfl)
  · refine g_istore_n C dX5_readBoth_5 (by decide) rfl (ll' := [some (.ref h), some (.int (nI 7)), some (.int (nI 0)), none]) rfl ?_
    refine g_iconst (v := nI 0) C dX5_readBoth_6 (by decide) ?_
    refine g_istore_n C dX5_readBoth_7 (by decide) rfl (ll' := [some (.ref h), some (.int (nI 7)), some (.int (nI 0)), some (.int (nI 0))]) rfl ?_
    refine g_iload_n C dX5_readBoth_8 rfl ?_
    refine g_aload_n C dX5_readBoth_9 rfl ?_
    refine g_get C i_X5 0 0 f_12 rfl rfl (by decide) rfl rfl dX5_readBoth_10 ?_
    refine g_get C i_X8 1 2 f_76 rfl rfl (by decide) rfl rfl dX5_readBoth_13 ?_
    refine g_icmp_ge_n (tgt := 59) C dX5_readBoth_16 (by decide) (by omega) (by omega) (fun c16 => ?_) (fun c16 => ?_)
    · refine g_iload_n C dX5_readBoth_59 rfl ?_
      exact g_zret C Rt dX5_readBoth_60 (by decide) (by decide) (by decide) (⟨false, _, _, _, _, _, rfl, rfl, rdQ_er (by rw [pAll, hr_2]; rfl) b1_2 b2_2 b3_2 b4_2⟩)
    · refine g_iload_n C dX5_readBoth_19 rfl ?_
      refine g_if_eq (tgt := 59) C dX5_readBoth_20 (by decide) (fun c20 => ?_) (fun c20 => absurd c20 (by decide))
      refine g_iload_n C dX5_readBoth_59 rfl ?_
      exact g_zret C Rt dX5_readBoth_60 (by decide) (by decide) (by decide) (⟨false, _, _, _, _, _, rfl, rfl, rdQ_er (by rw [pAll, hr_2]; rfl) b1_2 b2_2 b3_2 b4_2⟩)

abbrev rm_c_X5_readEither_1 : Room := { frames := 8, cells := 0, slots := 0, locals := 180 }
set_option maxHeartbeats 4000000 in
set_option maxRecDepth 100000 in
theorem c_X5_readEither_1 (E : gE) (h tk c0 c1 cn dr a0 a1 a2 a3 nr us i : Nat) (ks ps sa sk st co : Nat → Int32) (fk fp : Int32) (hi : i < cn) (hcn : cn ≤ 601) (hend : ks (cn - 1) = nI 1011) (hus : us ≤ i) : MM E yX5_readEither wsX5_readEither rm_c_X5_readEither_1 [.ref h, .int (nI 7)] [gO h 5 [.ref tk, .ref dr, .int (nI i), .int (ks i), .int fk, .int fp], gO tk 8 [.ref c0, .ref c1, .int (nI cn)], gA E c0 601 ks, gA E c1 601 ps, gO dr 4 [.ref a0, .ref a1, .ref a2, .ref a3, .int (nI nr), .int (nI us)], gA E a0 12 sa, gA E a1 12 sk, gA E a2 13 st, gA E a3 600 co] (fun rv_ ru_ => ∃ (ok : Bool) (j us2 : Nat) (co2 : Nat → Int32) (fk2 fp2 : Int32), rv_ = some (.int (b2i ok)) ∧ ru_ = [gO h 5 [.ref tk, .ref dr, .int (nI j), .int (ks j), .int fk2, .int fp2], gO tk 8 [.ref c0, .ref c1, .int (nI cn)], gA E c0 601 ks, gA E c1 601 ps, gO dr 4 [.ref a0, .ref a1, .ref a2, .ref a3, .int (nI nr), .int (nI us2)], gA E a0 12 sa, gA E a1 12 sk, gA E a2 13 st, gA E a3 600 co2] ∧ (rdQ (pAny ks (pLv ks 1) i) ps cn i us co fk fp ok j us2 co2 fk2 fp2)) := by
  refine MM.ofG (cc := cX5_readEither) (maxL := 4) (ret := (some .boolean)) (by decide) rfl (Nat.le_of_ble_eq_true rfl) (ll := [some (.ref h), some (.int (nI 7)), none, none]) rfl ?_
  intro X C Rt
  have C : gx E X cX5_readEither 4 wsX5_readEither RX5 := C
  have i_X5 : ∀ w ∈ u_ws RX5 TX5 6, w ∈ wsX5_readEither := by decide +kernel
  have i_X8 : ∀ w ∈ u_ws RX8 TX8 3, w ∈ wsX5_readEither := by decide +kernel
  have f_12 : Cond.fieldLink RX5 12 "MarkPages$RuleReader" "tokens" "LMarkPages$Tokens;" ∈ wsX5_readEither := by decide +kernel
  have f_21 : Cond.fieldLink RX5 21 "MarkPages$RuleReader" "draft" "LMarkPages$RuleBook;" ∈ wsX5_readEither := by decide +kernel
  have f_25 : Cond.fieldLink RX5 25 "MarkPages$RuleReader" "now" "I" ∈ wsX5_readEither := by decide +kernel
  have f_76 : Cond.fieldLink RX5 76 "MarkPages$Tokens" "count" "I" ∈ wsX5_readEither := by decide +kernel
  refine g_aload_n C dX5_readEither_0 rfl ?_
  refine g_iload_n C dX5_readEither_1 rfl ?_
  refine g_callV C (c_X5_readBoth_1 E h tk c0 c1 cn dr a0 a1 a2 a3 nr us i ks ps sa sk st co fk fp (by omega) (by omega) (hend) (by omega)) gX5_readEither_X5_readBoth rfl 1 (by decide +kernel) ⟨by decide, by decide⟩ ⟨by decide, by decide⟩ 0 rfl rfl [0, 1, 2, 3, 4, 5, 6, 7, 8] [] (wr := []) rfl (by decide) rfl (by decide) (by decide) rfl rfl (Nat.le_of_ble_eq_true rfl) dX5_readEither_2 ?_
  rintro _ _ ⟨ok_2, j_2, us2_2, co2_2, fk2_2, fp2_2, rfl, rfl, hq_2⟩
  show gg E _ 4 X 0 0 5 [some (.ref h), some (.int (nI 7)), none, none] [.int (b2i ok_2)] [gO h 5 [.ref tk, .ref dr, .int (nI j_2), .int (ks j_2), .int fk2_2, .int fp2_2], gO tk 8 [.ref c0, .ref c1, .int (nI cn)], gA E c0 601 ks, gA E c1 601 ps, gO dr 4 [.ref a0, .ref a1, .ref a2, .ref a3, .int (nI nr), .int (nI us2_2)], gA E a0 12 sa, gA E a1 12 sk, gA E a2 13 st, gA E a3 600 co2_2]
  rcases rdQ_tw hq_2 with ⟨C_2, hr_2, rfl, rfl, rfl, rfl, rfl, b1_2, b2_2, b3_2⟩ | ⟨kd_2, ix_2, hr_2, rfl, rfl, rfl, b1_2, b2_2, b3_2, b4_2⟩
  · refine g_istore_n C dX5_readEither_5 (by decide) rfl (ll' := [some (.ref h), some (.int (nI 7)), some (.int (nI 1)), none]) rfl ?_
    refine g_iconst (v := nI 0) C dX5_readEither_6 (by decide) ?_
    refine g_istore_n C dX5_readEither_7 (by decide) rfl (ll' := [some (.ref h), some (.int (nI 7)), some (.int (nI 1)), some (.int (nI 0))]) rfl ?_
    have L8 : ∀ (n8 : Nat) (it j1 f1 : Nat) (C1 : List Int32), cn - j1 < n8 → (j1 < cn) → (i + it ≤ j1) → (f1 + it = 601) → (C1.length + i ≤ j1) → (pAny ks (pLv ks 1) i = lpO ks (nI 1003) (pAll ks (pLv ks 1)) f1 j1 C1) → gg E rm_c_X5_readEither_1 4 X 0 0 8 [some (.ref h), some (.int (nI 7)), some (.int (nI 1)), some (.int (nI it))] [] [gO h 5 [.ref tk, .ref dr, .int (nI j1), .int (ks j1), .int fk, .int fp], gO tk 8 [.ref c0, .ref c1, .int (nI cn)], gA E c0 601 ks, gA E c1 601 ps, gO dr 4 [.ref a0, .ref a1, .ref a2, .ref a3, .int (nI nr), .int (nI (us + C1.length))], gA E a0 12 sa, gA E a1 12 sk, gA E a2 13 st, gA E a3 600 (cdW co us C1)] := by
      intro n8
      induction n8 with
      | zero => intro it j1 f1 C1 hm8; exact absurd hm8 (Nat.not_lt_zero _)
      | succ n8 ih8 =>
        intro it j1 f1 C1 hm8 g1 g2 g3 g4 g5
        refine g_iload_n C dX5_readEither_8 rfl ?_
        refine g_aload_n C dX5_readEither_9 rfl ?_
        refine g_get C i_X5 0 0 f_12 rfl rfl (by decide) rfl rfl dX5_readEither_10 ?_
        refine g_get C i_X8 1 2 f_76 rfl rfl (by decide) rfl rfl dX5_readEither_13 ?_
        refine g_icmp_ge_n (tgt := 59) C dX5_readEither_16 (by decide) (by omega) (by omega) (fun c16 => ?_) (fun c16 => ?_)
        · exact absurd c16 (by omega)
        · refine g_iload_n C dX5_readEither_19 rfl ?_
          refine g_if_eq (tgt := 59) C dX5_readEither_20 (by decide) (fun c20 => absurd c20 (by decide)) (fun c20 => ?_)
          refine g_aload_n C dX5_readEither_23 rfl ?_
          refine g_get C i_X5 0 3 f_25 rfl rfl (by decide) rfl rfl dX5_readEither_24 ?_
          refine g_sipush (v := nI 1003) C dX5_readEither_27 (by decide) ?_
          refine g_icmp_ne (tgt := 59) C dX5_readEither_30 (by decide) (fun c30 => ?_) (fun c30 => ?_)
          · refine g_iload_n C dX5_readEither_59 rfl ?_
            exact g_zret C Rt dX5_readEither_60 (by decide) (by decide) (by decide) (⟨true, _, _, _, _, _, rfl, rfl, rdQ_ok (by rw [g5, show f1 = f1 - 1 + 1 by omega, lpO, if_neg c30]) (by omega) g1 (by omega) rfl rfl⟩)
          · have hn7 := not_end hend g1 c30 (by decide)
            refine g_aload_n C dX5_readEither_33 rfl ?_
            refine g_callV C (c_X5_advance E h tk c0 c1 cn dr a0 a1 a2 a3 nr (us + C1.length) j1 ks ps sa sk st (cdW co us C1) fk fp (not_end hend g1 c30 (by decide)) (by omega)) gX5_readEither_X5_advance rfl 0 (by decide +kernel) ⟨by decide, by decide⟩ ⟨by decide, by decide⟩ 0 rfl rfl [0, 1, 2, 3, 4, 5, 6, 7, 8] [] (wr := []) rfl (by decide) rfl (by decide) (by decide) rfl rfl (Nat.le_of_ble_eq_true rfl) dX5_readEither_34 ?_
            rintro _ _ ⟨rfl, rfl⟩
            show gg E _ 4 X 0 0 37 [some (.ref h), some (.int (nI 7)), some (.int (nI 1)), some (.int (nI it))] [] [gO h 5 [.ref tk, .ref dr, .int (nI (j1 + 1)), .int (ks (j1 + 1)), .int fk, .int fp], gO tk 8 [.ref c0, .ref c1, .int (nI cn)], gA E c0 601 ks, gA E c1 601 ps, gO dr 4 [.ref a0, .ref a1, .ref a2, .ref a3, .int (nI nr), .int (nI (us + C1.length))], gA E a0 12 sa, gA E a1 12 sk, gA E a2 13 st, gA E a3 600 (cdW co us C1)]
            refine g_aload_n C dX5_readEither_37 rfl ?_
            refine g_iload_n C dX5_readEither_38 rfl ?_
            refine g_callV C (c_X5_readBoth_1 E h tk c0 c1 cn dr a0 a1 a2 a3 nr (us + C1.length) (j1 + 1) ks ps sa sk st (cdW co us C1) fk fp (by omega) (by omega) (hend) (by omega)) gX5_readEither_X5_readBoth rfl 1 (by decide +kernel) ⟨by decide, by decide⟩ ⟨by decide, by decide⟩ 0 rfl rfl [0, 1, 2, 3, 4, 5, 6, 7, 8] [] (wr := []) rfl (by decide) rfl (by decide) (by decide) rfl rfl (Nat.le_of_ble_eq_true rfl) dX5_readEither_39 ?_
            rintro _ _ ⟨ok_39, j_39, us2_39, co2_39, fk2_39, fp2_39, rfl, rfl, hq_39⟩
            show gg E _ 4 X 0 0 42 [some (.ref h), some (.int (nI 7)), some (.int (nI 1)), some (.int (nI it))] [.int (b2i ok_39)] [gO h 5 [.ref tk, .ref dr, .int (nI j_39), .int (ks j_39), .int fk2_39, .int fp2_39], gO tk 8 [.ref c0, .ref c1, .int (nI cn)], gA E c0 601 ks, gA E c1 601 ps, gO dr 4 [.ref a0, .ref a1, .ref a2, .ref a3, .int (nI nr), .int (nI us2_39)], gA E a0 12 sa, gA E a1 12 sk, gA E a2 13 st, gA E a3 600 co2_39]
            rcases rdQ_tw hq_39 with ⟨C_39, hr_39, rfl, rfl, rfl, rfl, rfl, b1_39, b2_39, b3_39⟩ | ⟨kd_39, ix_39, hr_39, rfl, rfl, rfl, b1_39, b2_39, b3_39, b4_39⟩
            · refine g_istore_n C dX5_readEither_42 (by decide) rfl (ll' := [some (.ref h), some (.int (nI 7)), some (.int (nI 1)), some (.int (nI it))]) rfl ?_
              refine g_aload_n C dX5_readEither_43 rfl ?_
              refine g_get C i_X5 0 1 f_21 rfl rfl (by decide) rfl rfl dX5_readEither_44 ?_
              refine g_sipush (v := nI 1003) C dX5_readEither_47 (by decide) ?_
              refine g_callV C (c_X4_append E dr a0 a1 a2 a3 nr ((us + C1.length) + C_39.length) sa sk st (cdW (cdW co us C1) (us + C1.length) C_39) (nI 1003) (by omega)) gX5_readEither_X4_append rfl 1 (by decide +kernel) ⟨by decide, by decide⟩ ⟨by decide, by decide⟩ 4 rfl rfl [4, 5, 6, 7, 8] [0, 1, 2, 3] (wr := [gO h 5 [.ref tk, .ref dr, .int (nI j_39), .int (ks j_39), .int fk, .int fp], gO tk 8 [.ref c0, .ref c1, .int (nI cn)], gA E c0 601 ks, gA E c1 601 ps]) rfl (by decide) rfl (by decide) (by decide) rfl rfl (Nat.le_of_ble_eq_true rfl) dX5_readEither_50 ?_
              rintro _ _ ⟨rfl, rfl⟩
              show gg E _ 4 X 0 0 53 [some (.ref h), some (.int (nI 7)), some (.int (nI 1)), some (.int (nI it))] [] [gO h 5 [.ref tk, .ref dr, .int (nI j_39), .int (ks j_39), .int fk, .int fp], gO tk 8 [.ref c0, .ref c1, .int (nI cn)], gA E c0 601 ks, gA E c1 601 ps, gO dr 4 [.ref a0, .ref a1, .ref a2, .ref a3, .int (nI nr), .int (nI (((us + C1.length) + C_39.length) + 1))], gA E a0 12 sa, gA E a1 12 sk, gA E a2 13 st, gA E a3 600 (upd (cdW (cdW co us C1) (us + C1.length) C_39) ((us + C1.length) + C_39.length) (nI 1003))]
              rw [ln3 us C1 C_39 (nI 1003), cd3 co us C1 C_39 (nI 1003)]
              refine g_iinc_n (y := 1) C dX5_readEither_53 rfl (by decide) (by decide) rfl (ll' := [some (.ref h), some (.int (nI 7)), some (.int (nI 1)), some (.int (nI (it + 1)))]) rfl ?_
              refine g_goto (tgt := 8) C dX5_readEither_56 (by decide) ?_
              exact ih8 (it + 1) j_39 (f1 - 1) (C1 ++ C_39 ++ [nI 1003]) (by omega) (by omega) (by omega) (by omega) (by have := ln3 us C1 C_39 (nI 1003); omega) (by rw [g5, show f1 = f1 - 1 + 1 by omega, lpO, if_pos c30, hr_39]; rfl)
            · refine g_istore_n C dX5_readEither_42 (by decide) rfl (ll' := [some (.ref h), some (.int (nI 7)), some (.int (nI 0)), some (.int (nI it))]) rfl ?_
              refine g_aload_n C dX5_readEither_43 rfl ?_
              refine g_get C i_X5 0 1 f_21 rfl rfl (by decide) rfl rfl dX5_readEither_44 ?_
              refine g_sipush (v := nI 1003) C dX5_readEither_47 (by decide) ?_
              refine g_callV C (c_X4_append E dr a0 a1 a2 a3 nr us2_39 sa sk st co2_39 (nI 1003) (by omega)) gX5_readEither_X4_append rfl 1 (by decide +kernel) ⟨by decide, by decide⟩ ⟨by decide, by decide⟩ 4 rfl rfl [4, 5, 6, 7, 8] [0, 1, 2, 3] (wr := [gO h 5 [.ref tk, .ref dr, .int (nI j_39), .int (ks j_39), .int (nI kd_39), .int (ps ix_39)], gO tk 8 [.ref c0, .ref c1, .int (nI cn)], gA E c0 601 ks, gA E c1 601 ps]) rfl (by decide) rfl (by decide) (by decide) rfl rfl (Nat.le_of_ble_eq_true rfl) dX5_readEither_50 ?_
              rintro _ _ ⟨rfl, rfl⟩
              show gg E _ 4 X 0 0 53 [some (.ref h), some (.int (nI 7)), some (.int (nI 0)), some (.int (nI it))] [] [gO h 5 [.ref tk, .ref dr, .int (nI j_39), .int (ks j_39), .int (nI kd_39), .int (ps ix_39)], gO tk 8 [.ref c0, .ref c1, .int (nI cn)], gA E c0 601 ks, gA E c1 601 ps, gO dr 4 [.ref a0, .ref a1, .ref a2, .ref a3, .int (nI nr), .int (nI (us2_39 + 1))], gA E a0 12 sa, gA E a1 12 sk, gA E a2 13 st, gA E a3 600 (upd co2_39 us2_39 (nI 1003))]
              refine g_iinc_n (y := 1) C dX5_readEither_53 rfl (by decide) (by decide) rfl (ll' := [some (.ref h), some (.int (nI 7)), some (.int (nI 0)), some (.int (nI (it + 1)))]) rfl ?_
              refine g_goto (tgt := 8) C dX5_readEither_56 (by decide) ?_
              refine g_iload_n C dX5_readEither_8 rfl ?_
              refine g_aload_n C dX5_readEither_9 rfl ?_
              refine g_get C i_X5 0 0 f_12 rfl rfl (by decide) rfl rfl dX5_readEither_10 ?_
              refine g_get C i_X8 1 2 f_76 rfl rfl (by decide) rfl rfl dX5_readEither_13 ?_
              refine g_icmp_ge_n (tgt := 59) C dX5_readEither_16 (by decide) (by omega) (by omega) (fun c16 => ?_) (fun c16 => ?_)
              · refine g_iload_n C dX5_readEither_59 rfl ?_
                exact g_zret C Rt dX5_readEither_60 (by decide) (by decide) (by decide) (⟨false, _, _, _, _, _, rfl, rfl, rdQ_er (by rw [g5, show f1 = f1 - 1 + 1 by omega, lpO, if_pos c30, hr_39]) (by omega) b2_39 (by omega) b4_39⟩)
              · refine g_iload_n C dX5_readEither_19 rfl ?_
                refine g_if_eq (tgt := 59) C dX5_readEither_20 (by decide) (fun c20 => ?_) (fun c20 => absurd c20 (by decide))
                refine g_iload_n C dX5_readEither_59 rfl ?_
                exact g_zret C Rt dX5_readEither_60 (by decide) (by decide) (by decide) (⟨false, _, _, _, _, _, rfl, rfl, rdQ_er (by rw [g5, show f1 = f1 - 1 + 1 by omega, lpO, if_pos c30, hr_39]) (by omega) b2_39 (by omega) b4_39⟩)
    exact L8 _ 0 j_2 601 C_2 (Nat.lt_succ_self _) (by omega) (by omega) (by omega) (by omega) (by rw [pAny, hr_2]; rfl)
  · refine g_istore_n C dX5_readEither_5 (by decide) rfl (ll' := [some (.ref h), some (.int (nI 7)), some (.int (nI 0)), none]) rfl ?_
    refine g_iconst (v := nI 0) C dX5_readEither_6 (by decide) ?_
    refine g_istore_n C dX5_readEither_7 (by decide) rfl (ll' := [some (.ref h), some (.int (nI 7)), some (.int (nI 0)), some (.int (nI 0))]) rfl ?_
    refine g_iload_n C dX5_readEither_8 rfl ?_
    refine g_aload_n C dX5_readEither_9 rfl ?_
    refine g_get C i_X5 0 0 f_12 rfl rfl (by decide) rfl rfl dX5_readEither_10 ?_
    refine g_get C i_X8 1 2 f_76 rfl rfl (by decide) rfl rfl dX5_readEither_13 ?_
    refine g_icmp_ge_n (tgt := 59) C dX5_readEither_16 (by decide) (by omega) (by omega) (fun c16 => ?_) (fun c16 => ?_)
    · refine g_iload_n C dX5_readEither_59 rfl ?_
      exact g_zret C Rt dX5_readEither_60 (by decide) (by decide) (by decide) (⟨false, _, _, _, _, _, rfl, rfl, rdQ_er (by rw [pAny, hr_2]; rfl) b1_2 b2_2 b3_2 b4_2⟩)
    · refine g_iload_n C dX5_readEither_19 rfl ?_
      refine g_if_eq (tgt := 59) C dX5_readEither_20 (by decide) (fun c20 => ?_) (fun c20 => absurd c20 (by decide))
      refine g_iload_n C dX5_readEither_59 rfl ?_
      exact g_zret C Rt dX5_readEither_60 (by decide) (by decide) (by decide) (⟨false, _, _, _, _, _, rfl, rfl, rdQ_er (by rw [pAny, hr_2]; rfl) b1_2 b2_2 b3_2 b4_2⟩)

abbrev rm_c_X5_readCondition_2 : Room := { frames := 9, cells := 0, slots := 0, locals := 203 }
set_option maxHeartbeats 4000000 in
set_option maxRecDepth 100000 in
theorem c_X5_readCondition_2 (E : gE) (h tk c0 c1 cn dr a0 a1 a2 a3 nr us i : Nat) (ks ps sa sk st co : Nat → Int32) (fk fp : Int32) (hi : i < cn) (hcn : cn ≤ 601) (hend : ks (cn - 1) = nI 1011) (hus : us ≤ i) : MM E yX5_readCondition wsX5_readCondition rm_c_X5_readCondition_2 [.ref h, .int (nI 6)] [gO h 5 [.ref tk, .ref dr, .int (nI i), .int (ks i), .int fk, .int fp], gO tk 8 [.ref c0, .ref c1, .int (nI cn)], gA E c0 601 ks, gA E c1 601 ps, gO dr 4 [.ref a0, .ref a1, .ref a2, .ref a3, .int (nI nr), .int (nI us)], gA E a0 12 sa, gA E a1 12 sk, gA E a2 13 st, gA E a3 600 co] (fun rv_ ru_ => ∃ (ok : Bool) (j us2 : Nat) (co2 : Nat → Int32) (fk2 fp2 : Int32), rv_ = some (.int (b2i ok)) ∧ ru_ = [gO h 5 [.ref tk, .ref dr, .int (nI j), .int (ks j), .int fk2, .int fp2], gO tk 8 [.ref c0, .ref c1, .int (nI cn)], gA E c0 601 ks, gA E c1 601 ps, gO dr 4 [.ref a0, .ref a1, .ref a2, .ref a3, .int (nI nr), .int (nI us2)], gA E a0 12 sa, gA E a1 12 sk, gA E a2 13 st, gA E a3 600 co2] ∧ (rdQ (pLv ks 2 i) ps cn i us co fk fp ok j us2 co2 fk2 fp2)) := by
  refine MM.ofG (cc := cX5_readCondition) (maxL := 4) (ret := (some .boolean)) (by decide) rfl (Nat.le_of_ble_eq_true rfl) (ll := [some (.ref h), some (.int (nI 6)), none, none]) rfl ?_
  intro X C Rt
  have C : gx E X cX5_readCondition 4 wsX5_readCondition RX5 := C
  have i_X5 : ∀ w ∈ u_ws RX5 TX5 6, w ∈ wsX5_readCondition := by decide +kernel
  have f_21 : Cond.fieldLink RX5 21 "MarkPages$RuleReader" "draft" "LMarkPages$RuleBook;" ∈ wsX5_readCondition := by decide +kernel
  have f_25 : Cond.fieldLink RX5 25 "MarkPages$RuleReader" "now" "I" ∈ wsX5_readCondition := by decide +kernel
  refine g_aload_n C dX5_readCondition_0 rfl ?_
  refine g_get C i_X5 0 3 f_25 rfl rfl (by decide) rfl rfl dX5_readCondition_1 ?_
  refine g_sipush (v := nI 1005) C dX5_readCondition_4 (by decide) ?_
  refine g_icmp_eq (tgt := 25) C dX5_readCondition_7 (by decide) (fun c7 => ?_) (fun c7 => ?_)
  · refine g_iload_n C dX5_readCondition_25 rfl ?_
    refine g_bipush (v := nI 8) C dX5_readCondition_26 (by decide) ?_
    refine g_icmp_lt (tgt := 37) C dX5_readCondition_28 (by decide) (fun c28 => ?_) (fun c28 => absurd c28 (by decide))
    refine g_aload_n C dX5_readCondition_37 rfl ?_
    refine g_get C i_X5 0 3 f_25 rfl rfl (by decide) rfl rfl dX5_readCondition_38 ?_
    refine g_sipush (v := nI 1005) C dX5_readCondition_41 (by decide) ?_
    refine g_icmp_ne (tgt := 51) C dX5_readCondition_44 (by decide) (fun c44 => ?_) (fun c44 => ?_)
    · exact absurd c7 c44
    · refine g_iconst (v := nI 1) C dX5_readCondition_47 (by decide) ?_
      refine g_goto (tgt := 52) C dX5_readCondition_48 (by decide) ?_
      refine g_istore_n C dX5_readCondition_52 (by decide) rfl (ll' := [some (.ref h), some (.int (nI 6)), some (.int (nI 1)), none]) rfl ?_
      have hn8 := not_end hend hi c7 (by decide)
      refine g_aload_n C dX5_readCondition_53 rfl ?_
      refine g_callV C (c_X5_advance E h tk c0 c1 cn dr a0 a1 a2 a3 nr us i ks ps sa sk st co fk fp (hn8) (by omega)) gX5_readCondition_X5_advance rfl 0 (by decide +kernel) ⟨by decide, by decide⟩ ⟨by decide, by decide⟩ 0 rfl rfl [0, 1, 2, 3, 4, 5, 6, 7, 8] [] (wr := []) rfl (by decide) rfl (by decide) (by decide) rfl rfl (Nat.le_of_ble_eq_true rfl) dX5_readCondition_54 ?_
      rintro _ _ ⟨rfl, rfl⟩
      show gg E _ 4 X 0 0 57 [some (.ref h), some (.int (nI 6)), some (.int (nI 1)), none] [] [gO h 5 [.ref tk, .ref dr, .int (nI (i + 1)), .int (ks (i + 1)), .int fk, .int fp], gO tk 8 [.ref c0, .ref c1, .int (nI cn)], gA E c0 601 ks, gA E c1 601 ps, gO dr 4 [.ref a0, .ref a1, .ref a2, .ref a3, .int (nI nr), .int (nI us)], gA E a0 12 sa, gA E a1 12 sk, gA E a2 13 st, gA E a3 600 co]
      refine g_iload_n C dX5_readCondition_57 rfl ?_
      refine g_if_ne (tgt := 87) C dX5_readCondition_58 (by decide) (fun c58 => ?_) (fun c58 => absurd c58 (by decide))
      refine g_aload_n C dX5_readCondition_87 rfl ?_
      refine g_iload_n C dX5_readCondition_88 rfl ?_
      refine g_iconst (v := nI 1) C dX5_readCondition_89 (by decide) ?_
      refine g_iadd C dX5_readCondition_90 (g_top (x' := nI 7) (by decide) ?_)
      refine g_callV C (c_X5_readCondition_1 E h tk c0 c1 cn dr a0 a1 a2 a3 nr us (i + 1) ks ps sa sk st co fk fp (by omega) (by omega) (hend) (by omega)) gX5_readCondition_X5_readCondition rfl 1 (by decide +kernel) ⟨by decide, by decide⟩ ⟨by decide, by decide⟩ 0 rfl rfl [0, 1, 2, 3, 4, 5, 6, 7, 8] [] (wr := []) rfl (by decide) rfl (by decide) (by decide) rfl rfl (Nat.le_of_ble_eq_true rfl) dX5_readCondition_91 ?_
      rintro _ _ ⟨ok_91, j_91, us2_91, co2_91, fk2_91, fp2_91, rfl, rfl, hq_91⟩
      show gg E _ 4 X 0 0 94 [some (.ref h), some (.int (nI 6)), some (.int (nI 1)), none] [.int (b2i ok_91)] [gO h 5 [.ref tk, .ref dr, .int (nI j_91), .int (ks j_91), .int fk2_91, .int fp2_91], gO tk 8 [.ref c0, .ref c1, .int (nI cn)], gA E c0 601 ks, gA E c1 601 ps, gO dr 4 [.ref a0, .ref a1, .ref a2, .ref a3, .int (nI nr), .int (nI us2_91)], gA E a0 12 sa, gA E a1 12 sk, gA E a2 13 st, gA E a3 600 co2_91]
      rcases rdQ_tw hq_91 with ⟨C_91, hr_91, rfl, rfl, rfl, rfl, rfl, b1_91, b2_91, b3_91⟩ | ⟨kd_91, ix_91, hr_91, rfl, rfl, rfl, b1_91, b2_91, b3_91, b4_91⟩
      · refine g_istore_n C dX5_readCondition_94 (by decide) rfl (ll' := [some (.ref h), some (.int (nI 6)), some (.int (nI 1)), some (.int (nI 1))]) rfl ?_
        refine g_aload_n C dX5_readCondition_95 rfl ?_
        refine g_get C i_X5 0 1 f_21 rfl rfl (by decide) rfl rfl dX5_readCondition_96 ?_
        refine g_sipush (v := nI 1005) C dX5_readCondition_99 (by decide) ?_
        refine g_callV C (c_X4_append E dr a0 a1 a2 a3 nr (us + C_91.length) sa sk st (cdW co us C_91) (nI 1005) (by omega)) gX5_readCondition_X4_append rfl 1 (by decide +kernel) ⟨by decide, by decide⟩ ⟨by decide, by decide⟩ 4 rfl rfl [4, 5, 6, 7, 8] [0, 1, 2, 3] (wr := [gO h 5 [.ref tk, .ref dr, .int (nI j_91), .int (ks j_91), .int fk, .int fp], gO tk 8 [.ref c0, .ref c1, .int (nI cn)], gA E c0 601 ks, gA E c1 601 ps]) rfl (by decide) rfl (by decide) (by decide) rfl rfl (Nat.le_of_ble_eq_true rfl) dX5_readCondition_102 ?_
        rintro _ _ ⟨rfl, rfl⟩
        show gg E _ 4 X 0 0 105 [some (.ref h), some (.int (nI 6)), some (.int (nI 1)), some (.int (nI 1))] [] [gO h 5 [.ref tk, .ref dr, .int (nI j_91), .int (ks j_91), .int fk, .int fp], gO tk 8 [.ref c0, .ref c1, .int (nI cn)], gA E c0 601 ks, gA E c1 601 ps, gO dr 4 [.ref a0, .ref a1, .ref a2, .ref a3, .int (nI nr), .int (nI ((us + C_91.length) + 1))], gA E a0 12 sa, gA E a1 12 sk, gA E a2 13 st, gA E a3 600 (upd (cdW co us C_91) (us + C_91.length) (nI 1005))]
        refine g_iload_n C dX5_readCondition_105 rfl ?_
        exact g_zret C Rt dX5_readCondition_106 (by decide) (by decide) (by decide) (⟨true, _, _, _, _, _, rfl, rfl, rdQ_ok (by rw [pLv, if_pos (Or.inl c7), if_pos c7, hr_91]; rfl) (by omega) b2_91 (by omega) (ln2 _ _ _) (cdW_snoc _ _ _ _).symm⟩)
      · refine g_istore_n C dX5_readCondition_94 (by decide) rfl (ll' := [some (.ref h), some (.int (nI 6)), some (.int (nI 1)), some (.int (nI 0))]) rfl ?_
        refine g_aload_n C dX5_readCondition_95 rfl ?_
        refine g_get C i_X5 0 1 f_21 rfl rfl (by decide) rfl rfl dX5_readCondition_96 ?_
        refine g_sipush (v := nI 1005) C dX5_readCondition_99 (by decide) ?_
        refine g_callV C (c_X4_append E dr a0 a1 a2 a3 nr us2_91 sa sk st co2_91 (nI 1005) (by omega)) gX5_readCondition_X4_append rfl 1 (by decide +kernel) ⟨by decide, by decide⟩ ⟨by decide, by decide⟩ 4 rfl rfl [4, 5, 6, 7, 8] [0, 1, 2, 3] (wr := [gO h 5 [.ref tk, .ref dr, .int (nI j_91), .int (ks j_91), .int (nI kd_91), .int (ps ix_91)], gO tk 8 [.ref c0, .ref c1, .int (nI cn)], gA E c0 601 ks, gA E c1 601 ps]) rfl (by decide) rfl (by decide) (by decide) rfl rfl (Nat.le_of_ble_eq_true rfl) dX5_readCondition_102 ?_
        rintro _ _ ⟨rfl, rfl⟩
        show gg E _ 4 X 0 0 105 [some (.ref h), some (.int (nI 6)), some (.int (nI 1)), some (.int (nI 0))] [] [gO h 5 [.ref tk, .ref dr, .int (nI j_91), .int (ks j_91), .int (nI kd_91), .int (ps ix_91)], gO tk 8 [.ref c0, .ref c1, .int (nI cn)], gA E c0 601 ks, gA E c1 601 ps, gO dr 4 [.ref a0, .ref a1, .ref a2, .ref a3, .int (nI nr), .int (nI (us2_91 + 1))], gA E a0 12 sa, gA E a1 12 sk, gA E a2 13 st, gA E a3 600 (upd co2_91 us2_91 (nI 1005))]
        refine g_iload_n C dX5_readCondition_105 rfl ?_
        exact g_zret C Rt dX5_readCondition_106 (by decide) (by decide) (by decide) (⟨false, _, _, _, _, _, rfl, rfl, rdQ_er (by rw [pLv, if_pos (Or.inl c7), if_pos c7, hr_91]; rfl) (by omega) b2_91 (by omega) b4_91⟩)
  · refine g_aload_n C dX5_readCondition_10 rfl ?_
    refine g_get C i_X5 0 3 f_25 rfl rfl (by decide) rfl rfl dX5_readCondition_11 ?_
    refine g_sipush (v := nI 1140) C dX5_readCondition_14 (by decide) ?_
    refine g_icmp_eq (tgt := 25) C dX5_readCondition_17 (by decide) (fun c17 => ?_) (fun c17 => ?_)
    · refine g_iload_n C dX5_readCondition_25 rfl ?_
      refine g_bipush (v := nI 8) C dX5_readCondition_26 (by decide) ?_
      refine g_icmp_lt (tgt := 37) C dX5_readCondition_28 (by decide) (fun c28 => ?_) (fun c28 => absurd c28 (by decide))
      refine g_aload_n C dX5_readCondition_37 rfl ?_
      refine g_get C i_X5 0 3 f_25 rfl rfl (by decide) rfl rfl dX5_readCondition_38 ?_
      refine g_sipush (v := nI 1005) C dX5_readCondition_41 (by decide) ?_
      refine g_icmp_ne (tgt := 51) C dX5_readCondition_44 (by decide) (fun c44 => ?_) (fun c44 => ?_)
      · refine g_iconst (v := nI 0) C dX5_readCondition_51 (by decide) ?_
        refine g_istore_n C dX5_readCondition_52 (by decide) rfl (ll' := [some (.ref h), some (.int (nI 6)), some (.int (nI 0)), none]) rfl ?_
        have hn8 := not_end hend hi c17 (by decide)
        refine g_aload_n C dX5_readCondition_53 rfl ?_
        refine g_callV C (c_X5_advance E h tk c0 c1 cn dr a0 a1 a2 a3 nr us i ks ps sa sk st co fk fp (hn8) (by omega)) gX5_readCondition_X5_advance rfl 0 (by decide +kernel) ⟨by decide, by decide⟩ ⟨by decide, by decide⟩ 0 rfl rfl [0, 1, 2, 3, 4, 5, 6, 7, 8] [] (wr := []) rfl (by decide) rfl (by decide) (by decide) rfl rfl (Nat.le_of_ble_eq_true rfl) dX5_readCondition_54 ?_
        rintro _ _ ⟨rfl, rfl⟩
        show gg E _ 4 X 0 0 57 [some (.ref h), some (.int (nI 6)), some (.int (nI 0)), none] [] [gO h 5 [.ref tk, .ref dr, .int (nI (i + 1)), .int (ks (i + 1)), .int fk, .int fp], gO tk 8 [.ref c0, .ref c1, .int (nI cn)], gA E c0 601 ks, gA E c1 601 ps, gO dr 4 [.ref a0, .ref a1, .ref a2, .ref a3, .int (nI nr), .int (nI us)], gA E a0 12 sa, gA E a1 12 sk, gA E a2 13 st, gA E a3 600 co]
        refine g_iload_n C dX5_readCondition_57 rfl ?_
        refine g_if_ne (tgt := 87) C dX5_readCondition_58 (by decide) (fun c58 => absurd c58 (by decide)) (fun c58 => ?_)
        refine g_aload_n C dX5_readCondition_61 rfl ?_
        refine g_iload_n C dX5_readCondition_62 rfl ?_
        refine g_iconst (v := nI 1) C dX5_readCondition_63 (by decide) ?_
        refine g_iadd C dX5_readCondition_64 (g_top (x' := nI 7) (by decide) ?_)
        refine g_callV C (c_X5_readEither_1 E h tk c0 c1 cn dr a0 a1 a2 a3 nr us (i + 1) ks ps sa sk st co fk fp (by omega) (by omega) (hend) (by omega)) gX5_readCondition_X5_readEither rfl 1 (by decide +kernel) ⟨by decide, by decide⟩ ⟨by decide, by decide⟩ 0 rfl rfl [0, 1, 2, 3, 4, 5, 6, 7, 8] [] (wr := []) rfl (by decide) rfl (by decide) (by decide) rfl rfl (Nat.le_of_ble_eq_true rfl) dX5_readCondition_65 ?_
        rintro _ _ ⟨ok_65, j_65, us2_65, co2_65, fk2_65, fp2_65, rfl, rfl, hq_65⟩
        show gg E _ 4 X 0 0 68 [some (.ref h), some (.int (nI 6)), some (.int (nI 0)), none] [.int (b2i ok_65)] [gO h 5 [.ref tk, .ref dr, .int (nI j_65), .int (ks j_65), .int fk2_65, .int fp2_65], gO tk 8 [.ref c0, .ref c1, .int (nI cn)], gA E c0 601 ks, gA E c1 601 ps, gO dr 4 [.ref a0, .ref a1, .ref a2, .ref a3, .int (nI nr), .int (nI us2_65)], gA E a0 12 sa, gA E a1 12 sk, gA E a2 13 st, gA E a3 600 co2_65]
        rcases rdQ_tw hq_65 with ⟨C_65, hr_65, rfl, rfl, rfl, rfl, rfl, b1_65, b2_65, b3_65⟩ | ⟨kd_65, ix_65, hr_65, rfl, rfl, rfl, b1_65, b2_65, b3_65, b4_65⟩
        · refine g_if_eq (tgt := 85) C dX5_readCondition_68 (by decide) (fun c68 => absurd c68 (by decide)) (fun c68 => ?_)
          rcases Classical.em (ks j_65 = nI 1141) with hx | hx
          · refine g_aload_n C dX5_readCondition_71 rfl ?_
            refine g_sipush (v := nI 1141) C dX5_readCondition_72 (by decide) ?_
            refine g_callV C (c_X5_expect_y E h tk c0 c1 cn dr a0 a1 a2 a3 nr (us + C_65.length) j_65 ks ps sa sk st (cdW co us C_65) fk fp (nI 1141) (by omega) (by omega) (hend) (hx) (by decide)) gX5_readCondition_X5_expect rfl 1 (by decide +kernel) ⟨by decide, by decide⟩ ⟨by decide, by decide⟩ 0 rfl rfl [0, 1, 2, 3, 4, 5, 6, 7, 8] [] (wr := []) rfl (by decide) rfl (by decide) (by decide) rfl rfl (Nat.le_of_ble_eq_true rfl) dX5_readCondition_75 ?_
            rintro _ _ ⟨rfl, rfl⟩
            show gg E _ 4 X 0 0 78 [some (.ref h), some (.int (nI 6)), some (.int (nI 0)), none] [.int (nI 1)] [gO h 5 [.ref tk, .ref dr, .int (nI (j_65 + 1)), .int (ks (j_65 + 1)), .int fk, .int fp], gO tk 8 [.ref c0, .ref c1, .int (nI cn)], gA E c0 601 ks, gA E c1 601 ps, gO dr 4 [.ref a0, .ref a1, .ref a2, .ref a3, .int (nI nr), .int (nI (us + C_65.length))], gA E a0 12 sa, gA E a1 12 sk, gA E a2 13 st, gA E a3 600 (cdW co us C_65)]
            refine g_if_eq (tgt := 85) C dX5_readCondition_78 (by decide) (fun c78 => absurd c78 (by decide)) (fun c78 => ?_)
            refine g_iconst (v := nI 1) C dX5_readCondition_81 (by decide) ?_
            refine g_goto (tgt := 86) C dX5_readCondition_82 (by decide) ?_
            exact g_zret C Rt dX5_readCondition_86 (by decide) (by decide) (by decide) (⟨true, _, _, _, _, _, rfl, rfl, rdQ_ok (by rw [pLv, if_pos (Or.inr c17), if_neg c7, hr_65]; exact if_pos hx) (by omega) (not_end hend b2_65 hx (by decide)) (by omega) rfl rfl⟩)
          · refine g_aload_n C dX5_readCondition_71 rfl ?_
            refine g_sipush (v := nI 1141) C dX5_readCondition_72 (by decide) ?_
            refine g_callV C (c_X5_expect_n E h tk c0 c1 cn dr a0 a1 a2 a3 nr (us + C_65.length) j_65 ks ps sa sk st (cdW co us C_65) fk fp (nI 1141) (by omega) (by omega) (hx)) gX5_readCondition_X5_expect rfl 1 (by decide +kernel) ⟨by decide, by decide⟩ ⟨by decide, by decide⟩ 0 rfl rfl [0, 1, 2, 3, 4, 5, 6, 7, 8] [] (wr := []) rfl (by decide) rfl (by decide) (by decide) rfl rfl (Nat.le_of_ble_eq_true rfl) dX5_readCondition_75 ?_
            rintro _ _ ⟨rfl, rfl⟩
            show gg E _ 4 X 0 0 78 [some (.ref h), some (.int (nI 6)), some (.int (nI 0)), none] [.int (nI 0)] [gO h 5 [.ref tk, .ref dr, .int (nI j_65), .int (ks j_65), .int (nI 1), .int (ps j_65)], gO tk 8 [.ref c0, .ref c1, .int (nI cn)], gA E c0 601 ks, gA E c1 601 ps, gO dr 4 [.ref a0, .ref a1, .ref a2, .ref a3, .int (nI nr), .int (nI (us + C_65.length))], gA E a0 12 sa, gA E a1 12 sk, gA E a2 13 st, gA E a3 600 (cdW co us C_65)]
            refine g_if_eq (tgt := 85) C dX5_readCondition_78 (by decide) (fun c78 => ?_) (fun c78 => absurd c78 (by decide))
            refine g_iconst (v := nI 0) C dX5_readCondition_85 (by decide) ?_
            exact g_zret C Rt dX5_readCondition_86 (by decide) (by decide) (by decide) (⟨false, _, _, _, _, _, rfl, rfl, rdQ_er (by rw [pLv, if_pos (Or.inr c17), if_neg c7, hr_65]; exact if_neg hx) (by omega) b2_65 (by omega) b2_65⟩)
        · refine g_if_eq (tgt := 85) C dX5_readCondition_68 (by decide) (fun c68 => ?_) (fun c68 => absurd c68 (by decide))
          refine g_iconst (v := nI 0) C dX5_readCondition_85 (by decide) ?_
          exact g_zret C Rt dX5_readCondition_86 (by decide) (by decide) (by decide) (⟨false, _, _, _, _, _, rfl, rfl, rdQ_er (by rw [pLv, if_pos (Or.inr c17), if_neg c7, hr_65]; rfl) (by omega) b2_65 (by omega) b4_65⟩)
      · exact absurd c44 c7
    · refine g_aload_n C dX5_readCondition_20 rfl ?_
      refine g_callV C (c_X5_readComparison E h tk c0 c1 cn dr a0 a1 a2 a3 nr us i ks ps sa sk st co fk fp (by omega) (by omega) (hend) (by omega)) gX5_readCondition_X5_readComparison rfl 0 (by decide +kernel) ⟨by decide, by decide⟩ ⟨by decide, by decide⟩ 0 rfl rfl [0, 1, 2, 3, 4, 5, 6, 7, 8] [] (wr := []) rfl (by decide) rfl (by decide) (by decide) rfl rfl (Nat.le_of_ble_eq_true rfl) dX5_readCondition_21 ?_
      rintro _ _ ⟨ok_21, j_21, us2_21, co2_21, fk2_21, fp2_21, rfl, rfl, hq_21⟩
      show gg E _ 4 X 0 0 24 [some (.ref h), some (.int (nI 6)), none, none] [.int (b2i ok_21)] [gO h 5 [.ref tk, .ref dr, .int (nI j_21), .int (ks j_21), .int fk2_21, .int fp2_21], gO tk 8 [.ref c0, .ref c1, .int (nI cn)], gA E c0 601 ks, gA E c1 601 ps, gO dr 4 [.ref a0, .ref a1, .ref a2, .ref a3, .int (nI nr), .int (nI us2_21)], gA E a0 12 sa, gA E a1 12 sk, gA E a2 13 st, gA E a3 600 co2_21]
      exact g_zret C Rt dX5_readCondition_24 (by decide) (by decide) (b2i_01 _) (⟨_, _, _, _, _, _, rfl, rfl, by rw [pLv, if_neg (fun z => z.elim c7 c17)]; exact hq_21⟩)

abbrev rm_c_X5_readBoth_2 : Room := { frames := 10, cells := 0, slots := 0, locals := 226 }
set_option maxHeartbeats 4000000 in
set_option maxRecDepth 100000 in
theorem c_X5_readBoth_2 (E : gE) (h tk c0 c1 cn dr a0 a1 a2 a3 nr us i : Nat) (ks ps sa sk st co : Nat → Int32) (fk fp : Int32) (hi : i < cn) (hcn : cn ≤ 601) (hend : ks (cn - 1) = nI 1011) (hus : us ≤ i) : MM E yX5_readBoth wsX5_readBoth rm_c_X5_readBoth_2 [.ref h, .int (nI 6)] [gO h 5 [.ref tk, .ref dr, .int (nI i), .int (ks i), .int fk, .int fp], gO tk 8 [.ref c0, .ref c1, .int (nI cn)], gA E c0 601 ks, gA E c1 601 ps, gO dr 4 [.ref a0, .ref a1, .ref a2, .ref a3, .int (nI nr), .int (nI us)], gA E a0 12 sa, gA E a1 12 sk, gA E a2 13 st, gA E a3 600 co] (fun rv_ ru_ => ∃ (ok : Bool) (j us2 : Nat) (co2 : Nat → Int32) (fk2 fp2 : Int32), rv_ = some (.int (b2i ok)) ∧ ru_ = [gO h 5 [.ref tk, .ref dr, .int (nI j), .int (ks j), .int fk2, .int fp2], gO tk 8 [.ref c0, .ref c1, .int (nI cn)], gA E c0 601 ks, gA E c1 601 ps, gO dr 4 [.ref a0, .ref a1, .ref a2, .ref a3, .int (nI nr), .int (nI us2)], gA E a0 12 sa, gA E a1 12 sk, gA E a2 13 st, gA E a3 600 co2] ∧ (rdQ (pAll ks (pLv ks 2) i) ps cn i us co fk fp ok j us2 co2 fk2 fp2)) := by
  refine MM.ofG (cc := cX5_readBoth) (maxL := 4) (ret := (some .boolean)) (by decide) rfl (Nat.le_of_ble_eq_true rfl) (ll := [some (.ref h), some (.int (nI 6)), none, none]) rfl ?_
  intro X C Rt
  have C : gx E X cX5_readBoth 4 wsX5_readBoth RX5 := C
  have i_X5 : ∀ w ∈ u_ws RX5 TX5 6, w ∈ wsX5_readBoth := by decide +kernel
  have i_X8 : ∀ w ∈ u_ws RX8 TX8 3, w ∈ wsX5_readBoth := by decide +kernel
  have f_12 : Cond.fieldLink RX5 12 "MarkPages$RuleReader" "tokens" "LMarkPages$Tokens;" ∈ wsX5_readBoth := by decide +kernel
  have f_21 : Cond.fieldLink RX5 21 "MarkPages$RuleReader" "draft" "LMarkPages$RuleBook;" ∈ wsX5_readBoth := by decide +kernel
  have f_25 : Cond.fieldLink RX5 25 "MarkPages$RuleReader" "now" "I" ∈ wsX5_readBoth := by decide +kernel
  have f_76 : Cond.fieldLink RX5 76 "MarkPages$Tokens" "count" "I" ∈ wsX5_readBoth := by decide +kernel
  refine g_aload_n C dX5_readBoth_0 rfl ?_
  refine g_iload_n C dX5_readBoth_1 rfl ?_
  refine g_callV C (c_X5_readCondition_2 E h tk c0 c1 cn dr a0 a1 a2 a3 nr us i ks ps sa sk st co fk fp (by omega) (by omega) (hend) (by omega)) gX5_readBoth_X5_readCondition rfl 1 (by decide +kernel) ⟨by decide, by decide⟩ ⟨by decide, by decide⟩ 0 rfl rfl [0, 1, 2, 3, 4, 5, 6, 7, 8] [] (wr := []) rfl (by decide) rfl (by decide) (by decide) rfl rfl (Nat.le_of_ble_eq_true rfl) dX5_readBoth_2 ?_
  rintro _ _ ⟨ok_2, j_2, us2_2, co2_2, fk2_2, fp2_2, rfl, rfl, hq_2⟩
  show gg E _ 4 X 0 0 5 [some (.ref h), some (.int (nI 6)), none, none] [.int (b2i ok_2)] [gO h 5 [.ref tk, .ref dr, .int (nI j_2), .int (ks j_2), .int fk2_2, .int fp2_2], gO tk 8 [.ref c0, .ref c1, .int (nI cn)], gA E c0 601 ks, gA E c1 601 ps, gO dr 4 [.ref a0, .ref a1, .ref a2, .ref a3, .int (nI nr), .int (nI us2_2)], gA E a0 12 sa, gA E a1 12 sk, gA E a2 13 st, gA E a3 600 co2_2]
  rcases rdQ_tw hq_2 with ⟨C_2, hr_2, rfl, rfl, rfl, rfl, rfl, b1_2, b2_2, b3_2⟩ | ⟨kd_2, ix_2, hr_2, rfl, rfl, rfl, b1_2, b2_2, b3_2, b4_2⟩
  · refine g_istore_n C dX5_readBoth_5 (by decide) rfl (ll' := [some (.ref h), some (.int (nI 6)), some (.int (nI 1)), none]) rfl ?_
    refine g_iconst (v := nI 0) C dX5_readBoth_6 (by decide) ?_
    refine g_istore_n C dX5_readBoth_7 (by decide) rfl (ll' := [some (.ref h), some (.int (nI 6)), some (.int (nI 1)), some (.int (nI 0))]) rfl ?_
    have L8 : ∀ (n8 : Nat) (it j1 f1 : Nat) (C1 : List Int32), cn - j1 < n8 → (j1 < cn) → (i + it ≤ j1) → (f1 + it = 601) → (C1.length + i ≤ j1) → (pAll ks (pLv ks 2) i = lpO ks (nI 1004) (pLv ks 2) f1 j1 C1) → gg E rm_c_X5_readBoth_2 4 X 0 0 8 [some (.ref h), some (.int (nI 6)), some (.int (nI 1)), some (.int (nI it))] [] [gO h 5 [.ref tk, .ref dr, .int (nI j1), .int (ks j1), .int fk, .int fp], gO tk 8 [.ref c0, .ref c1, .int (nI cn)], gA E c0 601 ks, gA E c1 601 ps, gO dr 4 [.ref a0, .ref a1, .ref a2, .ref a3, .int (nI nr), .int (nI (us + C1.length))], gA E a0 12 sa, gA E a1 12 sk, gA E a2 13 st, gA E a3 600 (cdW co us C1)] := by
      intro n8
      induction n8 with
      | zero => intro it j1 f1 C1 hm8; exact absurd hm8 (Nat.not_lt_zero _)
      | succ n8 ih8 =>
        intro it j1 f1 C1 hm8 g1 g2 g3 g4 g5
        refine g_iload_n C dX5_readBoth_8 rfl ?_
        refine g_aload_n C dX5_readBoth_9 rfl ?_
        refine g_get C i_X5 0 0 f_12 rfl rfl (by decide) rfl rfl dX5_readBoth_10 ?_
        refine g_get C i_X8 1 2 f_76 rfl rfl (by decide) rfl rfl dX5_readBoth_13 ?_
        refine g_icmp_ge_n (tgt := 59) C dX5_readBoth_16 (by decide) (by omega) (by omega) (fun c16 => ?_) (fun c16 => ?_)
        · exact absurd c16 (by omega)
        · refine g_iload_n C dX5_readBoth_19 rfl ?_
          refine g_if_eq (tgt := 59) C dX5_readBoth_20 (by decide) (fun c20 => absurd c20 (by decide)) (fun c20 => ?_)
          refine g_aload_n C dX5_readBoth_23 rfl ?_
          refine g_get C i_X5 0 3 f_25 rfl rfl (by decide) rfl rfl dX5_readBoth_24 ?_
          refine g_sipush (v := nI 1004) C dX5_readBoth_27 (by decide) ?_
          refine g_icmp_ne (tgt := 59) C dX5_readBoth_30 (by decide) (fun c30 => ?_) (fun c30 => ?_)
          · refine g_iload_n C dX5_readBoth_59 rfl ?_
            exact g_zret C Rt dX5_readBoth_60 (by decide) (by decide) (by decide) (⟨true, _, _, _, _, _, rfl, rfl, rdQ_ok (by rw [g5, show f1 = f1 - 1 + 1 by omega, lpO, if_neg c30]) (by omega) g1 (by omega) rfl rfl⟩)
          · have hn7 := not_end hend g1 c30 (by decide)
            refine g_aload_n C dX5_readBoth_33 rfl ?_
            refine g_callV C (c_X5_advance E h tk c0 c1 cn dr a0 a1 a2 a3 nr (us + C1.length) j1 ks ps sa sk st (cdW co us C1) fk fp (not_end hend g1 c30 (by decide)) (by omega)) gX5_readBoth_X5_advance rfl 0 (by decide +kernel) ⟨by decide, by decide⟩ ⟨by decide, by decide⟩ 0 rfl rfl [0, 1, 2, 3, 4, 5, 6, 7, 8] [] (wr := []) rfl (by decide) rfl (by decide) (by decide) rfl rfl (Nat.le_of_ble_eq_true rfl) dX5_readBoth_34 ?_
            rintro _ _ ⟨rfl, rfl⟩
            show gg E _ 4 X 0 0 37 [some (.ref h), some (.int (nI 6)), some (.int (nI 1)), some (.int (nI it))] [] [gO h 5 [.ref tk, .ref dr, .int (nI (j1 + 1)), .int (ks (j1 + 1)), .int fk, .int fp], gO tk 8 [.ref c0, .ref c1, .int (nI cn)], gA E c0 601 ks, gA E c1 601 ps, gO dr 4 [.ref a0, .ref a1, .ref a2, .ref a3, .int (nI nr), .int (nI (us + C1.length))], gA E a0 12 sa, gA E a1 12 sk, gA E a2 13 st, gA E a3 600 (cdW co us C1)]
            refine g_aload_n C dX5_readBoth_37 rfl ?_
            refine g_iload_n C dX5_readBoth_38 rfl ?_
            refine g_callV C (c_X5_readCondition_2 E h tk c0 c1 cn dr a0 a1 a2 a3 nr (us + C1.length) (j1 + 1) ks ps sa sk st (cdW co us C1) fk fp (by omega) (by omega) (hend) (by omega)) gX5_readBoth_X5_readCondition rfl 1 (by decide +kernel) ⟨by decide, by decide⟩ ⟨by decide, by decide⟩ 0 rfl rfl [0, 1, 2, 3, 4, 5, 6, 7, 8] [] (wr := []) rfl (by decide) rfl (by decide) (by decide) rfl rfl (Nat.le_of_ble_eq_true rfl) dX5_readBoth_39 ?_
            rintro _ _ ⟨ok_39, j_39, us2_39, co2_39, fk2_39, fp2_39, rfl, rfl, hq_39⟩
            show gg E _ 4 X 0 0 42 [some (.ref h), some (.int (nI 6)), some (.int (nI 1)), some (.int (nI it))] [.int (b2i ok_39)] [gO h 5 [.ref tk, .ref dr, .int (nI j_39), .int (ks j_39), .int fk2_39, .int fp2_39], gO tk 8 [.ref c0, .ref c1, .int (nI cn)], gA E c0 601 ks, gA E c1 601 ps, gO dr 4 [.ref a0, .ref a1, .ref a2, .ref a3, .int (nI nr), .int (nI us2_39)], gA E a0 12 sa, gA E a1 12 sk, gA E a2 13 st, gA E a3 600 co2_39]
            rcases rdQ_tw hq_39 with ⟨C_39, hr_39, rfl, rfl, rfl, rfl, rfl, b1_39, b2_39, b3_39⟩ | ⟨kd_39, ix_39, hr_39, rfl, rfl, rfl, b1_39, b2_39, b3_39, b4_39⟩
            · refine g_istore_n C dX5_readBoth_42 (by decide) rfl (ll' := [some (.ref h), some (.int (nI 6)), some (.int (nI 1)), some (.int (nI it))]) rfl ?_
              refine g_aload_n C dX5_readBoth_43 rfl ?_
              refine g_get C i_X5 0 1 f_21 rfl rfl (by decide) rfl rfl dX5_readBoth_44 ?_
              refine g_sipush (v := nI 1004) C dX5_readBoth_47 (by decide) ?_
              refine g_callV C (c_X4_append E dr a0 a1 a2 a3 nr ((us + C1.length) + C_39.length) sa sk st (cdW (cdW co us C1) (us + C1.length) C_39) (nI 1004) (by omega)) gX5_readBoth_X4_append rfl 1 (by decide +kernel) ⟨by decide, by decide⟩ ⟨by decide, by decide⟩ 4 rfl rfl [4, 5, 6, 7, 8] [0, 1, 2, 3] (wr := [gO h 5 [.ref tk, .ref dr, .int (nI j_39), .int (ks j_39), .int fk, .int fp], gO tk 8 [.ref c0, .ref c1, .int (nI cn)], gA E c0 601 ks, gA E c1 601 ps]) rfl (by decide) rfl (by decide) (by decide) rfl rfl (Nat.le_of_ble_eq_true rfl) dX5_readBoth_50 ?_
              rintro _ _ ⟨rfl, rfl⟩
              show gg E _ 4 X 0 0 53 [some (.ref h), some (.int (nI 6)), some (.int (nI 1)), some (.int (nI it))] [] [gO h 5 [.ref tk, .ref dr, .int (nI j_39), .int (ks j_39), .int fk, .int fp], gO tk 8 [.ref c0, .ref c1, .int (nI cn)], gA E c0 601 ks, gA E c1 601 ps, gO dr 4 [.ref a0, .ref a1, .ref a2, .ref a3, .int (nI nr), .int (nI (((us + C1.length) + C_39.length) + 1))], gA E a0 12 sa, gA E a1 12 sk, gA E a2 13 st, gA E a3 600 (upd (cdW (cdW co us C1) (us + C1.length) C_39) ((us + C1.length) + C_39.length) (nI 1004))]
              rw [ln3 us C1 C_39 (nI 1004), cd3 co us C1 C_39 (nI 1004)]
              refine g_iinc_n (y := 1) C dX5_readBoth_53 rfl (by decide) (by decide) rfl (ll' := [some (.ref h), some (.int (nI 6)), some (.int (nI 1)), some (.int (nI (it + 1)))]) rfl ?_
              refine g_goto (tgt := 8) C dX5_readBoth_56 (by decide) ?_
              exact ih8 (it + 1) j_39 (f1 - 1) (C1 ++ C_39 ++ [nI 1004]) (by omega) (by omega) (by omega) (by omega) (by have := ln3 us C1 C_39 (nI 1004); omega) (by rw [g5, show f1 = f1 - 1 + 1 by omega, lpO, if_pos c30, hr_39]; rfl)
            · refine g_istore_n C dX5_readBoth_42 (by decide) rfl (ll' := [some (.ref h), some (.int (nI 6)), some (.int (nI 0)), some (.int (nI it))]) rfl ?_
              refine g_aload_n C dX5_readBoth_43 rfl ?_
              refine g_get C i_X5 0 1 f_21 rfl rfl (by decide) rfl rfl dX5_readBoth_44 ?_
              refine g_sipush (v := nI 1004) C dX5_readBoth_47 (by decide) ?_
              refine g_callV C (c_X4_append E dr a0 a1 a2 a3 nr us2_39 sa sk st co2_39 (nI 1004) (by omega)) gX5_readBoth_X4_append rfl 1 (by decide +kernel) ⟨by decide, by decide⟩ ⟨by decide, by decide⟩ 4 rfl rfl [4, 5, 6, 7, 8] [0, 1, 2, 3] (wr := [gO h 5 [.ref tk, .ref dr, .int (nI j_39), .int (ks j_39), .int (nI kd_39), .int (ps ix_39)], gO tk 8 [.ref c0, .ref c1, .int (nI cn)], gA E c0 601 ks, gA E c1 601 ps]) rfl (by decide) rfl (by decide) (by decide) rfl rfl (Nat.le_of_ble_eq_true rfl) dX5_readBoth_50 ?_
              rintro _ _ ⟨rfl, rfl⟩
              show gg E _ 4 X 0 0 53 [some (.ref h), some (.int (nI 6)), some (.int (nI 0)), some (.int (nI it))] [] [gO h 5 [.ref tk, .ref dr, .int (nI j_39), .int (ks j_39), .int (nI kd_39), .int (ps ix_39)], gO tk 8 [.ref c0, .ref c1, .int (nI cn)], gA E c0 601 ks, gA E c1 601 ps, gO dr 4 [.ref a0, .ref a1, .ref a2, .ref a3, .int (nI nr), .int (nI (us2_39 + 1))], gA E a0 12 sa, gA E a1 12 sk, gA E a2 13 st, gA E a3 600 (upd co2_39 us2_39 (nI 1004))]
              refine g_iinc_n (y := 1) C dX5_readBoth_53 rfl (by decide) (by decide) rfl (ll' := [some (.ref h), some (.int (nI 6)), some (.int (nI 0)), some (.int (nI (it + 1)))]) rfl ?_
              refine g_goto (tgt := 8) C dX5_readBoth_56 (by decide) ?_
              refine g_iload_n C dX5_readBoth_8 rfl ?_
              refine g_aload_n C dX5_readBoth_9 rfl ?_
              refine g_get C i_X5 0 0 f_12 rfl rfl (by decide) rfl rfl dX5_readBoth_10 ?_
              refine g_get C i_X8 1 2 f_76 rfl rfl (by decide) rfl rfl dX5_readBoth_13 ?_
              refine g_icmp_ge_n (tgt := 59) C dX5_readBoth_16 (by decide) (by omega) (by omega) (fun c16 => ?_) (fun c16 => ?_)
              · refine g_iload_n C dX5_readBoth_59 rfl ?_
                exact g_zret C Rt dX5_readBoth_60 (by decide) (by decide) (by decide) (⟨false, _, _, _, _, _, rfl, rfl, rdQ_er (by rw [g5, show f1 = f1 - 1 + 1 by omega, lpO, if_pos c30, hr_39]) (by omega) b2_39 (by omega) b4_39⟩)
              · refine g_iload_n C dX5_readBoth_19 rfl ?_
                refine g_if_eq (tgt := 59) C dX5_readBoth_20 (by decide) (fun c20 => ?_) (fun c20 => absurd c20 (by decide))
                refine g_iload_n C dX5_readBoth_59 rfl ?_
                exact g_zret C Rt dX5_readBoth_60 (by decide) (by decide) (by decide) (⟨false, _, _, _, _, _, rfl, rfl, rdQ_er (by rw [g5, show f1 = f1 - 1 + 1 by omega, lpO, if_pos c30, hr_39]) (by omega) b2_39 (by omega) b4_39⟩)
    exact L8 _ 0 j_2 601 C_2 (Nat.lt_succ_self _) (by omega) (by omega) (by omega) (by omega) (by rw [pAll, hr_2]; rfl)
  · refine g_istore_n C dX5_readBoth_5 (by decide) rfl (ll' := [some (.ref h), some (.int (nI 6)), some (.int (nI 0)), none]) rfl ?_
    refine g_iconst (v := nI 0) C dX5_readBoth_6 (by decide) ?_
    refine g_istore_n C dX5_readBoth_7 (by decide) rfl (ll' := [some (.ref h), some (.int (nI 6)), some (.int (nI 0)), some (.int (nI 0))]) rfl ?_
    refine g_iload_n C dX5_readBoth_8 rfl ?_
    refine g_aload_n C dX5_readBoth_9 rfl ?_
    refine g_get C i_X5 0 0 f_12 rfl rfl (by decide) rfl rfl dX5_readBoth_10 ?_
    refine g_get C i_X8 1 2 f_76 rfl rfl (by decide) rfl rfl dX5_readBoth_13 ?_
    refine g_icmp_ge_n (tgt := 59) C dX5_readBoth_16 (by decide) (by omega) (by omega) (fun c16 => ?_) (fun c16 => ?_)
    · refine g_iload_n C dX5_readBoth_59 rfl ?_
      exact g_zret C Rt dX5_readBoth_60 (by decide) (by decide) (by decide) (⟨false, _, _, _, _, _, rfl, rfl, rdQ_er (by rw [pAll, hr_2]; rfl) b1_2 b2_2 b3_2 b4_2⟩)
    · refine g_iload_n C dX5_readBoth_19 rfl ?_
      refine g_if_eq (tgt := 59) C dX5_readBoth_20 (by decide) (fun c20 => ?_) (fun c20 => absurd c20 (by decide))
      refine g_iload_n C dX5_readBoth_59 rfl ?_
      exact g_zret C Rt dX5_readBoth_60 (by decide) (by decide) (by decide) (⟨false, _, _, _, _, _, rfl, rfl, rdQ_er (by rw [pAll, hr_2]; rfl) b1_2 b2_2 b3_2 b4_2⟩)

abbrev rm_c_X5_readEither_2 : Room := { frames := 11, cells := 0, slots := 0, locals := 249 }
set_option maxHeartbeats 4000000 in
set_option maxRecDepth 100000 in
theorem c_X5_readEither_2 (E : gE) (h tk c0 c1 cn dr a0 a1 a2 a3 nr us i : Nat) (ks ps sa sk st co : Nat → Int32) (fk fp : Int32) (hi : i < cn) (hcn : cn ≤ 601) (hend : ks (cn - 1) = nI 1011) (hus : us ≤ i) : MM E yX5_readEither wsX5_readEither rm_c_X5_readEither_2 [.ref h, .int (nI 6)] [gO h 5 [.ref tk, .ref dr, .int (nI i), .int (ks i), .int fk, .int fp], gO tk 8 [.ref c0, .ref c1, .int (nI cn)], gA E c0 601 ks, gA E c1 601 ps, gO dr 4 [.ref a0, .ref a1, .ref a2, .ref a3, .int (nI nr), .int (nI us)], gA E a0 12 sa, gA E a1 12 sk, gA E a2 13 st, gA E a3 600 co] (fun rv_ ru_ => ∃ (ok : Bool) (j us2 : Nat) (co2 : Nat → Int32) (fk2 fp2 : Int32), rv_ = some (.int (b2i ok)) ∧ ru_ = [gO h 5 [.ref tk, .ref dr, .int (nI j), .int (ks j), .int fk2, .int fp2], gO tk 8 [.ref c0, .ref c1, .int (nI cn)], gA E c0 601 ks, gA E c1 601 ps, gO dr 4 [.ref a0, .ref a1, .ref a2, .ref a3, .int (nI nr), .int (nI us2)], gA E a0 12 sa, gA E a1 12 sk, gA E a2 13 st, gA E a3 600 co2] ∧ (rdQ (pAny ks (pLv ks 2) i) ps cn i us co fk fp ok j us2 co2 fk2 fp2)) := by
  refine MM.ofG (cc := cX5_readEither) (maxL := 4) (ret := (some .boolean)) (by decide) rfl (Nat.le_of_ble_eq_true rfl) (ll := [some (.ref h), some (.int (nI 6)), none, none]) rfl ?_
  intro X C Rt
  have C : gx E X cX5_readEither 4 wsX5_readEither RX5 := C
  have i_X5 : ∀ w ∈ u_ws RX5 TX5 6, w ∈ wsX5_readEither := by decide +kernel
  have i_X8 : ∀ w ∈ u_ws RX8 TX8 3, w ∈ wsX5_readEither := by decide +kernel
  have f_12 : Cond.fieldLink RX5 12 "MarkPages$RuleReader" "tokens" "LMarkPages$Tokens;" ∈ wsX5_readEither := by decide +kernel
  have f_21 : Cond.fieldLink RX5 21 "MarkPages$RuleReader" "draft" "LMarkPages$RuleBook;" ∈ wsX5_readEither := by decide +kernel
  have f_25 : Cond.fieldLink RX5 25 "MarkPages$RuleReader" "now" "I" ∈ wsX5_readEither := by decide +kernel
  have f_76 : Cond.fieldLink RX5 76 "MarkPages$Tokens" "count" "I" ∈ wsX5_readEither := by decide +kernel
  refine g_aload_n C dX5_readEither_0 rfl ?_
  refine g_iload_n C dX5_readEither_1 rfl ?_
  refine g_callV C (c_X5_readBoth_2 E h tk c0 c1 cn dr a0 a1 a2 a3 nr us i ks ps sa sk st co fk fp (by omega) (by omega) (hend) (by omega)) gX5_readEither_X5_readBoth rfl 1 (by decide +kernel) ⟨by decide, by decide⟩ ⟨by decide, by decide⟩ 0 rfl rfl [0, 1, 2, 3, 4, 5, 6, 7, 8] [] (wr := []) rfl (by decide) rfl (by decide) (by decide) rfl rfl (Nat.le_of_ble_eq_true rfl) dX5_readEither_2 ?_
  rintro _ _ ⟨ok_2, j_2, us2_2, co2_2, fk2_2, fp2_2, rfl, rfl, hq_2⟩
  show gg E _ 4 X 0 0 5 [some (.ref h), some (.int (nI 6)), none, none] [.int (b2i ok_2)] [gO h 5 [.ref tk, .ref dr, .int (nI j_2), .int (ks j_2), .int fk2_2, .int fp2_2], gO tk 8 [.ref c0, .ref c1, .int (nI cn)], gA E c0 601 ks, gA E c1 601 ps, gO dr 4 [.ref a0, .ref a1, .ref a2, .ref a3, .int (nI nr), .int (nI us2_2)], gA E a0 12 sa, gA E a1 12 sk, gA E a2 13 st, gA E a3 600 co2_2]
  rcases rdQ_tw hq_2 with ⟨C_2, hr_2, rfl, rfl, rfl, rfl, rfl, b1_2, b2_2, b3_2⟩ | ⟨kd_2, ix_2, hr_2, rfl, rfl, rfl, b1_2, b2_2, b3_2, b4_2⟩
  · refine g_istore_n C dX5_readEither_5 (by decide) rfl (ll' := [some (.ref h), some (.int (nI 6)), some (.int (nI 1)), none]) rfl ?_
    refine g_iconst (v := nI 0) C dX5_readEither_6 (by decide) ?_
    refine g_istore_n C dX5_readEither_7 (by decide) rfl (ll' := [some (.ref h), some (.int (nI 6)), some (.int (nI 1)), some (.int (nI 0))]) rfl ?_
    have L8 : ∀ (n8 : Nat) (it j1 f1 : Nat) (C1 : List Int32), cn - j1 < n8 → (j1 < cn) → (i + it ≤ j1) → (f1 + it = 601) → (C1.length + i ≤ j1) → (pAny ks (pLv ks 2) i = lpO ks (nI 1003) (pAll ks (pLv ks 2)) f1 j1 C1) → gg E rm_c_X5_readEither_2 4 X 0 0 8 [some (.ref h), some (.int (nI 6)), some (.int (nI 1)), some (.int (nI it))] [] [gO h 5 [.ref tk, .ref dr, .int (nI j1), .int (ks j1), .int fk, .int fp], gO tk 8 [.ref c0, .ref c1, .int (nI cn)], gA E c0 601 ks, gA E c1 601 ps, gO dr 4 [.ref a0, .ref a1, .ref a2, .ref a3, .int (nI nr), .int (nI (us + C1.length))], gA E a0 12 sa, gA E a1 12 sk, gA E a2 13 st, gA E a3 600 (cdW co us C1)] := by
      intro n8
      induction n8 with
      | zero => intro it j1 f1 C1 hm8; exact absurd hm8 (Nat.not_lt_zero _)
      | succ n8 ih8 =>
        intro it j1 f1 C1 hm8 g1 g2 g3 g4 g5
        refine g_iload_n C dX5_readEither_8 rfl ?_
        refine g_aload_n C dX5_readEither_9 rfl ?_
        refine g_get C i_X5 0 0 f_12 rfl rfl (by decide) rfl rfl dX5_readEither_10 ?_
        refine g_get C i_X8 1 2 f_76 rfl rfl (by decide) rfl rfl dX5_readEither_13 ?_
        refine g_icmp_ge_n (tgt := 59) C dX5_readEither_16 (by decide) (by omega) (by omega) (fun c16 => ?_) (fun c16 => ?_)
        · exact absurd c16 (by omega)
        · refine g_iload_n C dX5_readEither_19 rfl ?_
          refine g_if_eq (tgt := 59) C dX5_readEither_20 (by decide) (fun c20 => absurd c20 (by decide)) (fun c20 => ?_)
          refine g_aload_n C dX5_readEither_23 rfl ?_
          refine g_get C i_X5 0 3 f_25 rfl rfl (by decide) rfl rfl dX5_readEither_24 ?_
          refine g_sipush (v := nI 1003) C dX5_readEither_27 (by decide) ?_
          refine g_icmp_ne (tgt := 59) C dX5_readEither_30 (by decide) (fun c30 => ?_) (fun c30 => ?_)
          · refine g_iload_n C dX5_readEither_59 rfl ?_
            exact g_zret C Rt dX5_readEither_60 (by decide) (by decide) (by decide) (⟨true, _, _, _, _, _, rfl, rfl, rdQ_ok (by rw [g5, show f1 = f1 - 1 + 1 by omega, lpO, if_neg c30]) (by omega) g1 (by omega) rfl rfl⟩)
          · have hn7 := not_end hend g1 c30 (by decide)
            refine g_aload_n C dX5_readEither_33 rfl ?_
            refine g_callV C (c_X5_advance E h tk c0 c1 cn dr a0 a1 a2 a3 nr (us + C1.length) j1 ks ps sa sk st (cdW co us C1) fk fp (not_end hend g1 c30 (by decide)) (by omega)) gX5_readEither_X5_advance rfl 0 (by decide +kernel) ⟨by decide, by decide⟩ ⟨by decide, by decide⟩ 0 rfl rfl [0, 1, 2, 3, 4, 5, 6, 7, 8] [] (wr := []) rfl (by decide) rfl (by decide) (by decide) rfl rfl (Nat.le_of_ble_eq_true rfl) dX5_readEither_34 ?_
            rintro _ _ ⟨rfl, rfl⟩
            show gg E _ 4 X 0 0 37 [some (.ref h), some (.int (nI 6)), some (.int (nI 1)), some (.int (nI it))] [] [gO h 5 [.ref tk, .ref dr, .int (nI (j1 + 1)), .int (ks (j1 + 1)), .int fk, .int fp], gO tk 8 [.ref c0, .ref c1, .int (nI cn)], gA E c0 601 ks, gA E c1 601 ps, gO dr 4 [.ref a0, .ref a1, .ref a2, .ref a3, .int (nI nr), .int (nI (us + C1.length))], gA E a0 12 sa, gA E a1 12 sk, gA E a2 13 st, gA E a3 600 (cdW co us C1)]
            refine g_aload_n C dX5_readEither_37 rfl ?_
            refine g_iload_n C dX5_readEither_38 rfl ?_
            refine g_callV C (c_X5_readBoth_2 E h tk c0 c1 cn dr a0 a1 a2 a3 nr (us + C1.length) (j1 + 1) ks ps sa sk st (cdW co us C1) fk fp (by omega) (by omega) (hend) (by omega)) gX5_readEither_X5_readBoth rfl 1 (by decide +kernel) ⟨by decide, by decide⟩ ⟨by decide, by decide⟩ 0 rfl rfl [0, 1, 2, 3, 4, 5, 6, 7, 8] [] (wr := []) rfl (by decide) rfl (by decide) (by decide) rfl rfl (Nat.le_of_ble_eq_true rfl) dX5_readEither_39 ?_
            rintro _ _ ⟨ok_39, j_39, us2_39, co2_39, fk2_39, fp2_39, rfl, rfl, hq_39⟩
            show gg E _ 4 X 0 0 42 [some (.ref h), some (.int (nI 6)), some (.int (nI 1)), some (.int (nI it))] [.int (b2i ok_39)] [gO h 5 [.ref tk, .ref dr, .int (nI j_39), .int (ks j_39), .int fk2_39, .int fp2_39], gO tk 8 [.ref c0, .ref c1, .int (nI cn)], gA E c0 601 ks, gA E c1 601 ps, gO dr 4 [.ref a0, .ref a1, .ref a2, .ref a3, .int (nI nr), .int (nI us2_39)], gA E a0 12 sa, gA E a1 12 sk, gA E a2 13 st, gA E a3 600 co2_39]
            rcases rdQ_tw hq_39 with ⟨C_39, hr_39, rfl, rfl, rfl, rfl, rfl, b1_39, b2_39, b3_39⟩ | ⟨kd_39, ix_39, hr_39, rfl, rfl, rfl, b1_39, b2_39, b3_39, b4_39⟩
            · refine g_istore_n C dX5_readEither_42 (by decide) rfl (ll' := [some (.ref h), some (.int (nI 6)), some (.int (nI 1)), some (.int (nI it))]) rfl ?_
              refine g_aload_n C dX5_readEither_43 rfl ?_
              refine g_get C i_X5 0 1 f_21 rfl rfl (by decide) rfl rfl dX5_readEither_44 ?_
              refine g_sipush (v := nI 1003) C dX5_readEither_47 (by decide) ?_
              refine g_callV C (c_X4_append E dr a0 a1 a2 a3 nr ((us + C1.length) + C_39.length) sa sk st (cdW (cdW co us C1) (us + C1.length) C_39) (nI 1003) (by omega)) gX5_readEither_X4_append rfl 1 (by decide +kernel) ⟨by decide, by decide⟩ ⟨by decide, by decide⟩ 4 rfl rfl [4, 5, 6, 7, 8] [0, 1, 2, 3] (wr := [gO h 5 [.ref tk, .ref dr, .int (nI j_39), .int (ks j_39), .int fk, .int fp], gO tk 8 [.ref c0, .ref c1, .int (nI cn)], gA E c0 601 ks, gA E c1 601 ps]) rfl (by decide) rfl (by decide) (by decide) rfl rfl (Nat.le_of_ble_eq_true rfl) dX5_readEither_50 ?_
              rintro _ _ ⟨rfl, rfl⟩
              show gg E _ 4 X 0 0 53 [some (.ref h), some (.int (nI 6)), some (.int (nI 1)), some (.int (nI it))] [] [gO h 5 [.ref tk, .ref dr, .int (nI j_39), .int (ks j_39), .int fk, .int fp], gO tk 8 [.ref c0, .ref c1, .int (nI cn)], gA E c0 601 ks, gA E c1 601 ps, gO dr 4 [.ref a0, .ref a1, .ref a2, .ref a3, .int (nI nr), .int (nI (((us + C1.length) + C_39.length) + 1))], gA E a0 12 sa, gA E a1 12 sk, gA E a2 13 st, gA E a3 600 (upd (cdW (cdW co us C1) (us + C1.length) C_39) ((us + C1.length) + C_39.length) (nI 1003))]
              rw [ln3 us C1 C_39 (nI 1003), cd3 co us C1 C_39 (nI 1003)]
              refine g_iinc_n (y := 1) C dX5_readEither_53 rfl (by decide) (by decide) rfl (ll' := [some (.ref h), some (.int (nI 6)), some (.int (nI 1)), some (.int (nI (it + 1)))]) rfl ?_
              refine g_goto (tgt := 8) C dX5_readEither_56 (by decide) ?_
              exact ih8 (it + 1) j_39 (f1 - 1) (C1 ++ C_39 ++ [nI 1003]) (by omega) (by omega) (by omega) (by omega) (by have := ln3 us C1 C_39 (nI 1003); omega) (by rw [g5, show f1 = f1 - 1 + 1 by omega, lpO, if_pos c30, hr_39]; rfl)
            · refine g_istore_n C dX5_readEither_42 (by decide) rfl (ll' := [some (.ref h), some (.int (nI 6)), some (.int (nI 0)), some (.int (nI it))]) rfl ?_
              refine g_aload_n C dX5_readEither_43 rfl ?_
              refine g_get C i_X5 0 1 f_21 rfl rfl (by decide) rfl rfl dX5_readEither_44 ?_
              refine g_sipush (v := nI 1003) C dX5_readEither_47 (by decide) ?_
              refine g_callV C (c_X4_append E dr a0 a1 a2 a3 nr us2_39 sa sk st co2_39 (nI 1003) (by omega)) gX5_readEither_X4_append rfl 1 (by decide +kernel) ⟨by decide, by decide⟩ ⟨by decide, by decide⟩ 4 rfl rfl [4, 5, 6, 7, 8] [0, 1, 2, 3] (wr := [gO h 5 [.ref tk, .ref dr, .int (nI j_39), .int (ks j_39), .int (nI kd_39), .int (ps ix_39)], gO tk 8 [.ref c0, .ref c1, .int (nI cn)], gA E c0 601 ks, gA E c1 601 ps]) rfl (by decide) rfl (by decide) (by decide) rfl rfl (Nat.le_of_ble_eq_true rfl) dX5_readEither_50 ?_
              rintro _ _ ⟨rfl, rfl⟩
              show gg E _ 4 X 0 0 53 [some (.ref h), some (.int (nI 6)), some (.int (nI 0)), some (.int (nI it))] [] [gO h 5 [.ref tk, .ref dr, .int (nI j_39), .int (ks j_39), .int (nI kd_39), .int (ps ix_39)], gO tk 8 [.ref c0, .ref c1, .int (nI cn)], gA E c0 601 ks, gA E c1 601 ps, gO dr 4 [.ref a0, .ref a1, .ref a2, .ref a3, .int (nI nr), .int (nI (us2_39 + 1))], gA E a0 12 sa, gA E a1 12 sk, gA E a2 13 st, gA E a3 600 (upd co2_39 us2_39 (nI 1003))]
              refine g_iinc_n (y := 1) C dX5_readEither_53 rfl (by decide) (by decide) rfl (ll' := [some (.ref h), some (.int (nI 6)), some (.int (nI 0)), some (.int (nI (it + 1)))]) rfl ?_
              refine g_goto (tgt := 8) C dX5_readEither_56 (by decide) ?_
              refine g_iload_n C dX5_readEither_8 rfl ?_
              refine g_aload_n C dX5_readEither_9 rfl ?_
              refine g_get C i_X5 0 0 f_12 rfl rfl (by decide) rfl rfl dX5_readEither_10 ?_
              refine g_get C i_X8 1 2 f_76 rfl rfl (by decide) rfl rfl dX5_readEither_13 ?_
              refine g_icmp_ge_n (tgt := 59) C dX5_readEither_16 (by decide) (by omega) (by omega) (fun c16 => ?_) (fun c16 => ?_)
              · refine g_iload_n C dX5_readEither_59 rfl ?_
                exact g_zret C Rt dX5_readEither_60 (by decide) (by decide) (by decide) (⟨false, _, _, _, _, _, rfl, rfl, rdQ_er (by rw [g5, show f1 = f1 - 1 + 1 by omega, lpO, if_pos c30, hr_39]) (by omega) b2_39 (by omega) b4_39⟩)
              · refine g_iload_n C dX5_readEither_19 rfl ?_
                refine g_if_eq (tgt := 59) C dX5_readEither_20 (by decide) (fun c20 => ?_) (fun c20 => absurd c20 (by decide))
                refine g_iload_n C dX5_readEither_59 rfl ?_
                exact g_zret C Rt dX5_readEither_60 (by decide) (by decide) (by decide) (⟨false, _, _, _, _, _, rfl, rfl, rdQ_er (by rw [g5, show f1 = f1 - 1 + 1 by omega, lpO, if_pos c30, hr_39]) (by omega) b2_39 (by omega) b4_39⟩)
    exact L8 _ 0 j_2 601 C_2 (Nat.lt_succ_self _) (by omega) (by omega) (by omega) (by omega) (by rw [pAny, hr_2]; rfl)
  · refine g_istore_n C dX5_readEither_5 (by decide) rfl (ll' := [some (.ref h), some (.int (nI 6)), some (.int (nI 0)), none]) rfl ?_
    refine g_iconst (v := nI 0) C dX5_readEither_6 (by decide) ?_
    refine g_istore_n C dX5_readEither_7 (by decide) rfl (ll' := [some (.ref h), some (.int (nI 6)), some (.int (nI 0)), some (.int (nI 0))]) rfl ?_
    refine g_iload_n C dX5_readEither_8 rfl ?_
    refine g_aload_n C dX5_readEither_9 rfl ?_
    refine g_get C i_X5 0 0 f_12 rfl rfl (by decide) rfl rfl dX5_readEither_10 ?_
    refine g_get C i_X8 1 2 f_76 rfl rfl (by decide) rfl rfl dX5_readEither_13 ?_
    refine g_icmp_ge_n (tgt := 59) C dX5_readEither_16 (by decide) (by omega) (by omega) (fun c16 => ?_) (fun c16 => ?_)
    · refine g_iload_n C dX5_readEither_59 rfl ?_
      exact g_zret C Rt dX5_readEither_60 (by decide) (by decide) (by decide) (⟨false, _, _, _, _, _, rfl, rfl, rdQ_er (by rw [pAny, hr_2]; rfl) b1_2 b2_2 b3_2 b4_2⟩)
    · refine g_iload_n C dX5_readEither_19 rfl ?_
      refine g_if_eq (tgt := 59) C dX5_readEither_20 (by decide) (fun c20 => ?_) (fun c20 => absurd c20 (by decide))
      refine g_iload_n C dX5_readEither_59 rfl ?_
      exact g_zret C Rt dX5_readEither_60 (by decide) (by decide) (by decide) (⟨false, _, _, _, _, _, rfl, rfl, rdQ_er (by rw [pAny, hr_2]; rfl) b1_2 b2_2 b3_2 b4_2⟩)

abbrev rm_c_X5_readCondition_3 : Room := { frames := 12, cells := 0, slots := 0, locals := 272 }
set_option maxHeartbeats 4000000 in
set_option maxRecDepth 100000 in
theorem c_X5_readCondition_3 (E : gE) (h tk c0 c1 cn dr a0 a1 a2 a3 nr us i : Nat) (ks ps sa sk st co : Nat → Int32) (fk fp : Int32) (hi : i < cn) (hcn : cn ≤ 601) (hend : ks (cn - 1) = nI 1011) (hus : us ≤ i) : MM E yX5_readCondition wsX5_readCondition rm_c_X5_readCondition_3 [.ref h, .int (nI 5)] [gO h 5 [.ref tk, .ref dr, .int (nI i), .int (ks i), .int fk, .int fp], gO tk 8 [.ref c0, .ref c1, .int (nI cn)], gA E c0 601 ks, gA E c1 601 ps, gO dr 4 [.ref a0, .ref a1, .ref a2, .ref a3, .int (nI nr), .int (nI us)], gA E a0 12 sa, gA E a1 12 sk, gA E a2 13 st, gA E a3 600 co] (fun rv_ ru_ => ∃ (ok : Bool) (j us2 : Nat) (co2 : Nat → Int32) (fk2 fp2 : Int32), rv_ = some (.int (b2i ok)) ∧ ru_ = [gO h 5 [.ref tk, .ref dr, .int (nI j), .int (ks j), .int fk2, .int fp2], gO tk 8 [.ref c0, .ref c1, .int (nI cn)], gA E c0 601 ks, gA E c1 601 ps, gO dr 4 [.ref a0, .ref a1, .ref a2, .ref a3, .int (nI nr), .int (nI us2)], gA E a0 12 sa, gA E a1 12 sk, gA E a2 13 st, gA E a3 600 co2] ∧ (rdQ (pLv ks 3 i) ps cn i us co fk fp ok j us2 co2 fk2 fp2)) := by
  refine MM.ofG (cc := cX5_readCondition) (maxL := 4) (ret := (some .boolean)) (by decide) rfl (Nat.le_of_ble_eq_true rfl) (ll := [some (.ref h), some (.int (nI 5)), none, none]) rfl ?_
  intro X C Rt
  have C : gx E X cX5_readCondition 4 wsX5_readCondition RX5 := C
  have i_X5 : ∀ w ∈ u_ws RX5 TX5 6, w ∈ wsX5_readCondition := by decide +kernel
  have f_21 : Cond.fieldLink RX5 21 "MarkPages$RuleReader" "draft" "LMarkPages$RuleBook;" ∈ wsX5_readCondition := by decide +kernel
  have f_25 : Cond.fieldLink RX5 25 "MarkPages$RuleReader" "now" "I" ∈ wsX5_readCondition := by decide +kernel
  refine g_aload_n C dX5_readCondition_0 rfl ?_
  refine g_get C i_X5 0 3 f_25 rfl rfl (by decide) rfl rfl dX5_readCondition_1 ?_
  refine g_sipush (v := nI 1005) C dX5_readCondition_4 (by decide) ?_
  refine g_icmp_eq (tgt := 25) C dX5_readCondition_7 (by decide) (fun c7 => ?_) (fun c7 => ?_)
  · refine g_iload_n C dX5_readCondition_25 rfl ?_
    refine g_bipush (v := nI 8) C dX5_readCondition_26 (by decide) ?_
    refine g_icmp_lt (tgt := 37) C dX5_readCondition_28 (by decide) (fun c28 => ?_) (fun c28 => absurd c28 (by decide))
    refine g_aload_n C dX5_readCondition_37 rfl ?_
    refine g_get C i_X5 0 3 f_25 rfl rfl (by decide) rfl rfl dX5_readCondition_38 ?_
    refine g_sipush (v := nI 1005) C dX5_readCondition_41 (by decide) ?_
    refine g_icmp_ne (tgt := 51) C dX5_readCondition_44 (by decide) (fun c44 => ?_) (fun c44 => ?_)
    · exact absurd c7 c44
    · refine g_iconst (v := nI 1) C dX5_readCondition_47 (by decide) ?_
      refine g_goto (tgt := 52) C dX5_readCondition_48 (by decide) ?_
      refine g_istore_n C dX5_readCondition_52 (by decide) rfl (ll' := [some (.ref h), some (.int (nI 5)), some (.int (nI 1)), none]) rfl ?_
      have hn8 := not_end hend hi c7 (by decide)
      refine g_aload_n C dX5_readCondition_53 rfl ?_
      refine g_callV C (c_X5_advance E h tk c0 c1 cn dr a0 a1 a2 a3 nr us i ks ps sa sk st co fk fp (hn8) (by omega)) gX5_readCondition_X5_advance rfl 0 (by decide +kernel) ⟨by decide, by decide⟩ ⟨by decide, by decide⟩ 0 rfl rfl [0, 1, 2, 3, 4, 5, 6, 7, 8] [] (wr := []) rfl (by decide) rfl (by decide) (by decide) rfl rfl (Nat.le_of_ble_eq_true rfl) dX5_readCondition_54 ?_
      rintro _ _ ⟨rfl, rfl⟩
      show gg E _ 4 X 0 0 57 [some (.ref h), some (.int (nI 5)), some (.int (nI 1)), none] [] [gO h 5 [.ref tk, .ref dr, .int (nI (i + 1)), .int (ks (i + 1)), .int fk, .int fp], gO tk 8 [.ref c0, .ref c1, .int (nI cn)], gA E c0 601 ks, gA E c1 601 ps, gO dr 4 [.ref a0, .ref a1, .ref a2, .ref a3, .int (nI nr), .int (nI us)], gA E a0 12 sa, gA E a1 12 sk, gA E a2 13 st, gA E a3 600 co]
      refine g_iload_n C dX5_readCondition_57 rfl ?_
      refine g_if_ne (tgt := 87) C dX5_readCondition_58 (by decide) (fun c58 => ?_) (fun c58 => absurd c58 (by decide))
      refine g_aload_n C dX5_readCondition_87 rfl ?_
      refine g_iload_n C dX5_readCondition_88 rfl ?_
      refine g_iconst (v := nI 1) C dX5_readCondition_89 (by decide) ?_
      refine g_iadd C dX5_readCondition_90 (g_top (x' := nI 6) (by decide) ?_)
      refine g_callV C (c_X5_readCondition_2 E h tk c0 c1 cn dr a0 a1 a2 a3 nr us (i + 1) ks ps sa sk st co fk fp (by omega) (by omega) (hend) (by omega)) gX5_readCondition_X5_readCondition rfl 1 (by decide +kernel) ⟨by decide, by decide⟩ ⟨by decide, by decide⟩ 0 rfl rfl [0, 1, 2, 3, 4, 5, 6, 7, 8] [] (wr := []) rfl (by decide) rfl (by decide) (by decide) rfl rfl (Nat.le_of_ble_eq_true rfl) dX5_readCondition_91 ?_
      rintro _ _ ⟨ok_91, j_91, us2_91, co2_91, fk2_91, fp2_91, rfl, rfl, hq_91⟩
      show gg E _ 4 X 0 0 94 [some (.ref h), some (.int (nI 5)), some (.int (nI 1)), none] [.int (b2i ok_91)] [gO h 5 [.ref tk, .ref dr, .int (nI j_91), .int (ks j_91), .int fk2_91, .int fp2_91], gO tk 8 [.ref c0, .ref c1, .int (nI cn)], gA E c0 601 ks, gA E c1 601 ps, gO dr 4 [.ref a0, .ref a1, .ref a2, .ref a3, .int (nI nr), .int (nI us2_91)], gA E a0 12 sa, gA E a1 12 sk, gA E a2 13 st, gA E a3 600 co2_91]
      rcases rdQ_tw hq_91 with ⟨C_91, hr_91, rfl, rfl, rfl, rfl, rfl, b1_91, b2_91, b3_91⟩ | ⟨kd_91, ix_91, hr_91, rfl, rfl, rfl, b1_91, b2_91, b3_91, b4_91⟩
      · refine g_istore_n C dX5_readCondition_94 (by decide) rfl (ll' := [some (.ref h), some (.int (nI 5)), some (.int (nI 1)), some (.int (nI 1))]) rfl ?_
        refine g_aload_n C dX5_readCondition_95 rfl ?_
        refine g_get C i_X5 0 1 f_21 rfl rfl (by decide) rfl rfl dX5_readCondition_96 ?_
        refine g_sipush (v := nI 1005) C dX5_readCondition_99 (by decide) ?_
        refine g_callV C (c_X4_append E dr a0 a1 a2 a3 nr (us + C_91.length) sa sk st (cdW co us C_91) (nI 1005) (by omega)) gX5_readCondition_X4_append rfl 1 (by decide +kernel) ⟨by decide, by decide⟩ ⟨by decide, by decide⟩ 4 rfl rfl [4, 5, 6, 7, 8] [0, 1, 2, 3] (wr := [gO h 5 [.ref tk, .ref dr, .int (nI j_91), .int (ks j_91), .int fk, .int fp], gO tk 8 [.ref c0, .ref c1, .int (nI cn)], gA E c0 601 ks, gA E c1 601 ps]) rfl (by decide) rfl (by decide) (by decide) rfl rfl (Nat.le_of_ble_eq_true rfl) dX5_readCondition_102 ?_
        rintro _ _ ⟨rfl, rfl⟩
        show gg E _ 4 X 0 0 105 [some (.ref h), some (.int (nI 5)), some (.int (nI 1)), some (.int (nI 1))] [] [gO h 5 [.ref tk, .ref dr, .int (nI j_91), .int (ks j_91), .int fk, .int fp], gO tk 8 [.ref c0, .ref c1, .int (nI cn)], gA E c0 601 ks, gA E c1 601 ps, gO dr 4 [.ref a0, .ref a1, .ref a2, .ref a3, .int (nI nr), .int (nI ((us + C_91.length) + 1))], gA E a0 12 sa, gA E a1 12 sk, gA E a2 13 st, gA E a3 600 (upd (cdW co us C_91) (us + C_91.length) (nI 1005))]
        refine g_iload_n C dX5_readCondition_105 rfl ?_
        exact g_zret C Rt dX5_readCondition_106 (by decide) (by decide) (by decide) (⟨true, _, _, _, _, _, rfl, rfl, rdQ_ok (by rw [pLv, if_pos (Or.inl c7), if_pos c7, hr_91]; rfl) (by omega) b2_91 (by omega) (ln2 _ _ _) (cdW_snoc _ _ _ _).symm⟩)
      · refine g_istore_n C dX5_readCondition_94 (by decide) rfl (ll' := [some (.ref h), some (.int (nI 5)), some (.int (nI 1)), some (.int (nI 0))]) rfl ?_
        refine g_aload_n C dX5_readCondition_95 rfl ?_
        refine g_get C i_X5 0 1 f_21 rfl rfl (by decide) rfl rfl dX5_readCondition_96 ?_
        refine g_sipush (v := nI 1005) C dX5_readCondition_99 (by decide) ?_
        refine g_callV C (c_X4_append E dr a0 a1 a2 a3 nr us2_91 sa sk st co2_91 (nI 1005) (by omega)) gX5_readCondition_X4_append rfl 1 (by decide +kernel) ⟨by decide, by decide⟩ ⟨by decide, by decide⟩ 4 rfl rfl [4, 5, 6, 7, 8] [0, 1, 2, 3] (wr := [gO h 5 [.ref tk, .ref dr, .int (nI j_91), .int (ks j_91), .int (nI kd_91), .int (ps ix_91)], gO tk 8 [.ref c0, .ref c1, .int (nI cn)], gA E c0 601 ks, gA E c1 601 ps]) rfl (by decide) rfl (by decide) (by decide) rfl rfl (Nat.le_of_ble_eq_true rfl) dX5_readCondition_102 ?_
        rintro _ _ ⟨rfl, rfl⟩
        show gg E _ 4 X 0 0 105 [some (.ref h), some (.int (nI 5)), some (.int (nI 1)), some (.int (nI 0))] [] [gO h 5 [.ref tk, .ref dr, .int (nI j_91), .int (ks j_91), .int (nI kd_91), .int (ps ix_91)], gO tk 8 [.ref c0, .ref c1, .int (nI cn)], gA E c0 601 ks, gA E c1 601 ps, gO dr 4 [.ref a0, .ref a1, .ref a2, .ref a3, .int (nI nr), .int (nI (us2_91 + 1))], gA E a0 12 sa, gA E a1 12 sk, gA E a2 13 st, gA E a3 600 (upd co2_91 us2_91 (nI 1005))]
        refine g_iload_n C dX5_readCondition_105 rfl ?_
        exact g_zret C Rt dX5_readCondition_106 (by decide) (by decide) (by decide) (⟨false, _, _, _, _, _, rfl, rfl, rdQ_er (by rw [pLv, if_pos (Or.inl c7), if_pos c7, hr_91]; rfl) (by omega) b2_91 (by omega) b4_91⟩)
  · refine g_aload_n C dX5_readCondition_10 rfl ?_
    refine g_get C i_X5 0 3 f_25 rfl rfl (by decide) rfl rfl dX5_readCondition_11 ?_
    refine g_sipush (v := nI 1140) C dX5_readCondition_14 (by decide) ?_
    refine g_icmp_eq (tgt := 25) C dX5_readCondition_17 (by decide) (fun c17 => ?_) (fun c17 => ?_)
    · refine g_iload_n C dX5_readCondition_25 rfl ?_
      refine g_bipush (v := nI 8) C dX5_readCondition_26 (by decide) ?_
      refine g_icmp_lt (tgt := 37) C dX5_readCondition_28 (by decide) (fun c28 => ?_) (fun c28 => absurd c28 (by decide))
      refine g_aload_n C dX5_readCondition_37 rfl ?_
      refine g_get C i_X5 0 3 f_25 rfl rfl (by decide) rfl rfl dX5_readCondition_38 ?_
      refine g_sipush (v := nI 1005) C dX5_readCondition_41 (by decide) ?_
      refine g_icmp_ne (tgt := 51) C dX5_readCondition_44 (by decide) (fun c44 => ?_) (fun c44 => ?_)
      · refine g_iconst (v := nI 0) C dX5_readCondition_51 (by decide) ?_
        refine g_istore_n C dX5_readCondition_52 (by decide) rfl (ll' := [some (.ref h), some (.int (nI 5)), some (.int (nI 0)), none]) rfl ?_
        have hn8 := not_end hend hi c17 (by decide)
        refine g_aload_n C dX5_readCondition_53 rfl ?_
        refine g_callV C (c_X5_advance E h tk c0 c1 cn dr a0 a1 a2 a3 nr us i ks ps sa sk st co fk fp (hn8) (by omega)) gX5_readCondition_X5_advance rfl 0 (by decide +kernel) ⟨by decide, by decide⟩ ⟨by decide, by decide⟩ 0 rfl rfl [0, 1, 2, 3, 4, 5, 6, 7, 8] [] (wr := []) rfl (by decide) rfl (by decide) (by decide) rfl rfl (Nat.le_of_ble_eq_true rfl) dX5_readCondition_54 ?_
        rintro _ _ ⟨rfl, rfl⟩
        show gg E _ 4 X 0 0 57 [some (.ref h), some (.int (nI 5)), some (.int (nI 0)), none] [] [gO h 5 [.ref tk, .ref dr, .int (nI (i + 1)), .int (ks (i + 1)), .int fk, .int fp], gO tk 8 [.ref c0, .ref c1, .int (nI cn)], gA E c0 601 ks, gA E c1 601 ps, gO dr 4 [.ref a0, .ref a1, .ref a2, .ref a3, .int (nI nr), .int (nI us)], gA E a0 12 sa, gA E a1 12 sk, gA E a2 13 st, gA E a3 600 co]
        refine g_iload_n C dX5_readCondition_57 rfl ?_
        refine g_if_ne (tgt := 87) C dX5_readCondition_58 (by decide) (fun c58 => absurd c58 (by decide)) (fun c58 => ?_)
        refine g_aload_n C dX5_readCondition_61 rfl ?_
        refine g_iload_n C dX5_readCondition_62 rfl ?_
        refine g_iconst (v := nI 1) C dX5_readCondition_63 (by decide) ?_
        refine g_iadd C dX5_readCondition_64 (g_top (x' := nI 6) (by decide) ?_)
        refine g_callV C (c_X5_readEither_2 E h tk c0 c1 cn dr a0 a1 a2 a3 nr us (i + 1) ks ps sa sk st co fk fp (by omega) (by omega) (hend) (by omega)) gX5_readCondition_X5_readEither rfl 1 (by decide +kernel) ⟨by decide, by decide⟩ ⟨by decide, by decide⟩ 0 rfl rfl [0, 1, 2, 3, 4, 5, 6, 7, 8] [] (wr := []) rfl (by decide) rfl (by decide) (by decide) rfl rfl (Nat.le_of_ble_eq_true rfl) dX5_readCondition_65 ?_
        rintro _ _ ⟨ok_65, j_65, us2_65, co2_65, fk2_65, fp2_65, rfl, rfl, hq_65⟩
        show gg E _ 4 X 0 0 68 [some (.ref h), some (.int (nI 5)), some (.int (nI 0)), none] [.int (b2i ok_65)] [gO h 5 [.ref tk, .ref dr, .int (nI j_65), .int (ks j_65), .int fk2_65, .int fp2_65], gO tk 8 [.ref c0, .ref c1, .int (nI cn)], gA E c0 601 ks, gA E c1 601 ps, gO dr 4 [.ref a0, .ref a1, .ref a2, .ref a3, .int (nI nr), .int (nI us2_65)], gA E a0 12 sa, gA E a1 12 sk, gA E a2 13 st, gA E a3 600 co2_65]
        rcases rdQ_tw hq_65 with ⟨C_65, hr_65, rfl, rfl, rfl, rfl, rfl, b1_65, b2_65, b3_65⟩ | ⟨kd_65, ix_65, hr_65, rfl, rfl, rfl, b1_65, b2_65, b3_65, b4_65⟩
        · refine g_if_eq (tgt := 85) C dX5_readCondition_68 (by decide) (fun c68 => absurd c68 (by decide)) (fun c68 => ?_)
          rcases Classical.em (ks j_65 = nI 1141) with hx | hx
          · refine g_aload_n C dX5_readCondition_71 rfl ?_
            refine g_sipush (v := nI 1141) C dX5_readCondition_72 (by decide) ?_
            refine g_callV C (c_X5_expect_y E h tk c0 c1 cn dr a0 a1 a2 a3 nr (us + C_65.length) j_65 ks ps sa sk st (cdW co us C_65) fk fp (nI 1141) (by omega) (by omega) (hend) (hx) (by decide)) gX5_readCondition_X5_expect rfl 1 (by decide +kernel) ⟨by decide, by decide⟩ ⟨by decide, by decide⟩ 0 rfl rfl [0, 1, 2, 3, 4, 5, 6, 7, 8] [] (wr := []) rfl (by decide) rfl (by decide) (by decide) rfl rfl (Nat.le_of_ble_eq_true rfl) dX5_readCondition_75 ?_
            rintro _ _ ⟨rfl, rfl⟩
            show gg E _ 4 X 0 0 78 [some (.ref h), some (.int (nI 5)), some (.int (nI 0)), none] [.int (nI 1)] [gO h 5 [.ref tk, .ref dr, .int (nI (j_65 + 1)), .int (ks (j_65 + 1)), .int fk, .int fp], gO tk 8 [.ref c0, .ref c1, .int (nI cn)], gA E c0 601 ks, gA E c1 601 ps, gO dr 4 [.ref a0, .ref a1, .ref a2, .ref a3, .int (nI nr), .int (nI (us + C_65.length))], gA E a0 12 sa, gA E a1 12 sk, gA E a2 13 st, gA E a3 600 (cdW co us C_65)]
            refine g_if_eq (tgt := 85) C dX5_readCondition_78 (by decide) (fun c78 => absurd c78 (by decide)) (fun c78 => ?_)
            refine g_iconst (v := nI 1) C dX5_readCondition_81 (by decide) ?_
            refine g_goto (tgt := 86) C dX5_readCondition_82 (by decide) ?_
            exact g_zret C Rt dX5_readCondition_86 (by decide) (by decide) (by decide) (⟨true, _, _, _, _, _, rfl, rfl, rdQ_ok (by rw [pLv, if_pos (Or.inr c17), if_neg c7, hr_65]; exact if_pos hx) (by omega) (not_end hend b2_65 hx (by decide)) (by omega) rfl rfl⟩)
          · refine g_aload_n C dX5_readCondition_71 rfl ?_
            refine g_sipush (v := nI 1141) C dX5_readCondition_72 (by decide) ?_
            refine g_callV C (c_X5_expect_n E h tk c0 c1 cn dr a0 a1 a2 a3 nr (us + C_65.length) j_65 ks ps sa sk st (cdW co us C_65) fk fp (nI 1141) (by omega) (by omega) (hx)) gX5_readCondition_X5_expect rfl 1 (by decide +kernel) ⟨by decide, by decide⟩ ⟨by decide, by decide⟩ 0 rfl rfl [0, 1, 2, 3, 4, 5, 6, 7, 8] [] (wr := []) rfl (by decide) rfl (by decide) (by decide) rfl rfl (Nat.le_of_ble_eq_true rfl) dX5_readCondition_75 ?_
            rintro _ _ ⟨rfl, rfl⟩
            show gg E _ 4 X 0 0 78 [some (.ref h), some (.int (nI 5)), some (.int (nI 0)), none] [.int (nI 0)] [gO h 5 [.ref tk, .ref dr, .int (nI j_65), .int (ks j_65), .int (nI 1), .int (ps j_65)], gO tk 8 [.ref c0, .ref c1, .int (nI cn)], gA E c0 601 ks, gA E c1 601 ps, gO dr 4 [.ref a0, .ref a1, .ref a2, .ref a3, .int (nI nr), .int (nI (us + C_65.length))], gA E a0 12 sa, gA E a1 12 sk, gA E a2 13 st, gA E a3 600 (cdW co us C_65)]
            refine g_if_eq (tgt := 85) C dX5_readCondition_78 (by decide) (fun c78 => ?_) (fun c78 => absurd c78 (by decide))
            refine g_iconst (v := nI 0) C dX5_readCondition_85 (by decide) ?_
            exact g_zret C Rt dX5_readCondition_86 (by decide) (by decide) (by decide) (⟨false, _, _, _, _, _, rfl, rfl, rdQ_er (by rw [pLv, if_pos (Or.inr c17), if_neg c7, hr_65]; exact if_neg hx) (by omega) b2_65 (by omega) b2_65⟩)
        · refine g_if_eq (tgt := 85) C dX5_readCondition_68 (by decide) (fun c68 => ?_) (fun c68 => absurd c68 (by decide))
          refine g_iconst (v := nI 0) C dX5_readCondition_85 (by decide) ?_
          exact g_zret C Rt dX5_readCondition_86 (by decide) (by decide) (by decide) (⟨false, _, _, _, _, _, rfl, rfl, rdQ_er (by rw [pLv, if_pos (Or.inr c17), if_neg c7, hr_65]; rfl) (by omega) b2_65 (by omega) b4_65⟩)
      · exact absurd c44 c7
    · refine g_aload_n C dX5_readCondition_20 rfl ?_
      refine g_callV C (c_X5_readComparison E h tk c0 c1 cn dr a0 a1 a2 a3 nr us i ks ps sa sk st co fk fp (by omega) (by omega) (hend) (by omega)) gX5_readCondition_X5_readComparison rfl 0 (by decide +kernel) ⟨by decide, by decide⟩ ⟨by decide, by decide⟩ 0 rfl rfl [0, 1, 2, 3, 4, 5, 6, 7, 8] [] (wr := []) rfl (by decide) rfl (by decide) (by decide) rfl rfl (Nat.le_of_ble_eq_true rfl) dX5_readCondition_21 ?_
      rintro _ _ ⟨ok_21, j_21, us2_21, co2_21, fk2_21, fp2_21, rfl, rfl, hq_21⟩
      show gg E _ 4 X 0 0 24 [some (.ref h), some (.int (nI 5)), none, none] [.int (b2i ok_21)] [gO h 5 [.ref tk, .ref dr, .int (nI j_21), .int (ks j_21), .int fk2_21, .int fp2_21], gO tk 8 [.ref c0, .ref c1, .int (nI cn)], gA E c0 601 ks, gA E c1 601 ps, gO dr 4 [.ref a0, .ref a1, .ref a2, .ref a3, .int (nI nr), .int (nI us2_21)], gA E a0 12 sa, gA E a1 12 sk, gA E a2 13 st, gA E a3 600 co2_21]
      exact g_zret C Rt dX5_readCondition_24 (by decide) (by decide) (b2i_01 _) (⟨_, _, _, _, _, _, rfl, rfl, by rw [pLv, if_neg (fun z => z.elim c7 c17)]; exact hq_21⟩)

abbrev rm_c_X5_readBoth_3 : Room := { frames := 13, cells := 0, slots := 0, locals := 295 }
set_option maxHeartbeats 4000000 in
set_option maxRecDepth 100000 in
theorem c_X5_readBoth_3 (E : gE) (h tk c0 c1 cn dr a0 a1 a2 a3 nr us i : Nat) (ks ps sa sk st co : Nat → Int32) (fk fp : Int32) (hi : i < cn) (hcn : cn ≤ 601) (hend : ks (cn - 1) = nI 1011) (hus : us ≤ i) : MM E yX5_readBoth wsX5_readBoth rm_c_X5_readBoth_3 [.ref h, .int (nI 5)] [gO h 5 [.ref tk, .ref dr, .int (nI i), .int (ks i), .int fk, .int fp], gO tk 8 [.ref c0, .ref c1, .int (nI cn)], gA E c0 601 ks, gA E c1 601 ps, gO dr 4 [.ref a0, .ref a1, .ref a2, .ref a3, .int (nI nr), .int (nI us)], gA E a0 12 sa, gA E a1 12 sk, gA E a2 13 st, gA E a3 600 co] (fun rv_ ru_ => ∃ (ok : Bool) (j us2 : Nat) (co2 : Nat → Int32) (fk2 fp2 : Int32), rv_ = some (.int (b2i ok)) ∧ ru_ = [gO h 5 [.ref tk, .ref dr, .int (nI j), .int (ks j), .int fk2, .int fp2], gO tk 8 [.ref c0, .ref c1, .int (nI cn)], gA E c0 601 ks, gA E c1 601 ps, gO dr 4 [.ref a0, .ref a1, .ref a2, .ref a3, .int (nI nr), .int (nI us2)], gA E a0 12 sa, gA E a1 12 sk, gA E a2 13 st, gA E a3 600 co2] ∧ (rdQ (pAll ks (pLv ks 3) i) ps cn i us co fk fp ok j us2 co2 fk2 fp2)) := by
  refine MM.ofG (cc := cX5_readBoth) (maxL := 4) (ret := (some .boolean)) (by decide) rfl (Nat.le_of_ble_eq_true rfl) (ll := [some (.ref h), some (.int (nI 5)), none, none]) rfl ?_
  intro X C Rt
  have C : gx E X cX5_readBoth 4 wsX5_readBoth RX5 := C
  have i_X5 : ∀ w ∈ u_ws RX5 TX5 6, w ∈ wsX5_readBoth := by decide +kernel
  have i_X8 : ∀ w ∈ u_ws RX8 TX8 3, w ∈ wsX5_readBoth := by decide +kernel
  have f_12 : Cond.fieldLink RX5 12 "MarkPages$RuleReader" "tokens" "LMarkPages$Tokens;" ∈ wsX5_readBoth := by decide +kernel
  have f_21 : Cond.fieldLink RX5 21 "MarkPages$RuleReader" "draft" "LMarkPages$RuleBook;" ∈ wsX5_readBoth := by decide +kernel
  have f_25 : Cond.fieldLink RX5 25 "MarkPages$RuleReader" "now" "I" ∈ wsX5_readBoth := by decide +kernel
  have f_76 : Cond.fieldLink RX5 76 "MarkPages$Tokens" "count" "I" ∈ wsX5_readBoth := by decide +kernel
  refine g_aload_n C dX5_readBoth_0 rfl ?_
  refine g_iload_n C dX5_readBoth_1 rfl ?_
  refine g_callV C (c_X5_readCondition_3 E h tk c0 c1 cn dr a0 a1 a2 a3 nr us i ks ps sa sk st co fk fp (by omega) (by omega) (hend) (by omega)) gX5_readBoth_X5_readCondition rfl 1 (by decide +kernel) ⟨by decide, by decide⟩ ⟨by decide, by decide⟩ 0 rfl rfl [0, 1, 2, 3, 4, 5, 6, 7, 8] [] (wr := []) rfl (by decide) rfl (by decide) (by decide) rfl rfl (Nat.le_of_ble_eq_true rfl) dX5_readBoth_2 ?_
  rintro _ _ ⟨ok_2, j_2, us2_2, co2_2, fk2_2, fp2_2, rfl, rfl, hq_2⟩
  show gg E _ 4 X 0 0 5 [some (.ref h), some (.int (nI 5)), none, none] [.int (b2i ok_2)] [gO h 5 [.ref tk, .ref dr, .int (nI j_2), .int (ks j_2), .int fk2_2, .int fp2_2], gO tk 8 [.ref c0, .ref c1, .int (nI cn)], gA E c0 601 ks, gA E c1 601 ps, gO dr 4 [.ref a0, .ref a1, .ref a2, .ref a3, .int (nI nr), .int (nI us2_2)], gA E a0 12 sa, gA E a1 12 sk, gA E a2 13 st, gA E a3 600 co2_2]
  rcases rdQ_tw hq_2 with ⟨C_2, hr_2, rfl, rfl, rfl, rfl, rfl, b1_2, b2_2, b3_2⟩ | ⟨kd_2, ix_2, hr_2, rfl, rfl, rfl, b1_2, b2_2, b3_2, b4_2⟩
  · refine g_istore_n C dX5_readBoth_5 (by decide) rfl (ll' := [some (.ref h), some (.int (nI 5)), some (.int (nI 1)), none]) rfl ?_
    refine g_iconst (v := nI 0) C dX5_readBoth_6 (by decide) ?_
    refine g_istore_n C dX5_readBoth_7 (by decide) rfl (ll' := [some (.ref h), some (.int (nI 5)), some (.int (nI 1)), some (.int (nI 0))]) rfl ?_
    have L8 : ∀ (n8 : Nat) (it j1 f1 : Nat) (C1 : List Int32), cn - j1 < n8 → (j1 < cn) → (i + it ≤ j1) → (f1 + it = 601) → (C1.length + i ≤ j1) → (pAll ks (pLv ks 3) i = lpO ks (nI 1004) (pLv ks 3) f1 j1 C1) → gg E rm_c_X5_readBoth_3 4 X 0 0 8 [some (.ref h), some (.int (nI 5)), some (.int (nI 1)), some (.int (nI it))] [] [gO h 5 [.ref tk, .ref dr, .int (nI j1), .int (ks j1), .int fk, .int fp], gO tk 8 [.ref c0, .ref c1, .int (nI cn)], gA E c0 601 ks, gA E c1 601 ps, gO dr 4 [.ref a0, .ref a1, .ref a2, .ref a3, .int (nI nr), .int (nI (us + C1.length))], gA E a0 12 sa, gA E a1 12 sk, gA E a2 13 st, gA E a3 600 (cdW co us C1)] := by
      intro n8
      induction n8 with
      | zero => intro it j1 f1 C1 hm8; exact absurd hm8 (Nat.not_lt_zero _)
      | succ n8 ih8 =>
        intro it j1 f1 C1 hm8 g1 g2 g3 g4 g5
        refine g_iload_n C dX5_readBoth_8 rfl ?_
        refine g_aload_n C dX5_readBoth_9 rfl ?_
        refine g_get C i_X5 0 0 f_12 rfl rfl (by decide) rfl rfl dX5_readBoth_10 ?_
        refine g_get C i_X8 1 2 f_76 rfl rfl (by decide) rfl rfl dX5_readBoth_13 ?_
        refine g_icmp_ge_n (tgt := 59) C dX5_readBoth_16 (by decide) (by omega) (by omega) (fun c16 => ?_) (fun c16 => ?_)
        · exact absurd c16 (by omega)
        · refine g_iload_n C dX5_readBoth_19 rfl ?_
          refine g_if_eq (tgt := 59) C dX5_readBoth_20 (by decide) (fun c20 => absurd c20 (by decide)) (fun c20 => ?_)
          refine g_aload_n C dX5_readBoth_23 rfl ?_
          refine g_get C i_X5 0 3 f_25 rfl rfl (by decide) rfl rfl dX5_readBoth_24 ?_
          refine g_sipush (v := nI 1004) C dX5_readBoth_27 (by decide) ?_
          refine g_icmp_ne (tgt := 59) C dX5_readBoth_30 (by decide) (fun c30 => ?_) (fun c30 => ?_)
          · refine g_iload_n C dX5_readBoth_59 rfl ?_
            exact g_zret C Rt dX5_readBoth_60 (by decide) (by decide) (by decide) (⟨true, _, _, _, _, _, rfl, rfl, rdQ_ok (by rw [g5, show f1 = f1 - 1 + 1 by omega, lpO, if_neg c30]) (by omega) g1 (by omega) rfl rfl⟩)
          · have hn7 := not_end hend g1 c30 (by decide)
            refine g_aload_n C dX5_readBoth_33 rfl ?_
            refine g_callV C (c_X5_advance E h tk c0 c1 cn dr a0 a1 a2 a3 nr (us + C1.length) j1 ks ps sa sk st (cdW co us C1) fk fp (not_end hend g1 c30 (by decide)) (by omega)) gX5_readBoth_X5_advance rfl 0 (by decide +kernel) ⟨by decide, by decide⟩ ⟨by decide, by decide⟩ 0 rfl rfl [0, 1, 2, 3, 4, 5, 6, 7, 8] [] (wr := []) rfl (by decide) rfl (by decide) (by decide) rfl rfl (Nat.le_of_ble_eq_true rfl) dX5_readBoth_34 ?_
            rintro _ _ ⟨rfl, rfl⟩
            show gg E _ 4 X 0 0 37 [some (.ref h), some (.int (nI 5)), some (.int (nI 1)), some (.int (nI it))] [] [gO h 5 [.ref tk, .ref dr, .int (nI (j1 + 1)), .int (ks (j1 + 1)), .int fk, .int fp], gO tk 8 [.ref c0, .ref c1, .int (nI cn)], gA E c0 601 ks, gA E c1 601 ps, gO dr 4 [.ref a0, .ref a1, .ref a2, .ref a3, .int (nI nr), .int (nI (us + C1.length))], gA E a0 12 sa, gA E a1 12 sk, gA E a2 13 st, gA E a3 600 (cdW co us C1)]
            refine g_aload_n C dX5_readBoth_37 rfl ?_
            refine g_iload_n C dX5_readBoth_38 rfl ?_
            refine g_callV C (c_X5_readCondition_3 E h tk c0 c1 cn dr a0 a1 a2 a3 nr (us + C1.length) (j1 + 1) ks ps sa sk st (cdW co us C1) fk fp (by omega) (by omega) (hend) (by omega)) gX5_readBoth_X5_readCondition rfl 1 (by decide +kernel) ⟨by decide, by decide⟩ ⟨by decide, by decide⟩ 0 rfl rfl [0, 1, 2, 3, 4, 5, 6, 7, 8] [] (wr := []) rfl (by decide) rfl (by decide) (by decide) rfl rfl (Nat.le_of_ble_eq_true rfl) dX5_readBoth_39 ?_
            rintro _ _ ⟨ok_39, j_39, us2_39, co2_39, fk2_39, fp2_39, rfl, rfl, hq_39⟩
            show gg E _ 4 X 0 0 42 [some (.ref h), some (.int (nI 5)), some (.int (nI 1)), some (.int (nI it))] [.int (b2i ok_39)] [gO h 5 [.ref tk, .ref dr, .int (nI j_39), .int (ks j_39), .int fk2_39, .int fp2_39], gO tk 8 [.ref c0, .ref c1, .int (nI cn)], gA E c0 601 ks, gA E c1 601 ps, gO dr 4 [.ref a0, .ref a1, .ref a2, .ref a3, .int (nI nr), .int (nI us2_39)], gA E a0 12 sa, gA E a1 12 sk, gA E a2 13 st, gA E a3 600 co2_39]
            rcases rdQ_tw hq_39 with ⟨C_39, hr_39, rfl, rfl, rfl, rfl, rfl, b1_39, b2_39, b3_39⟩ | ⟨kd_39, ix_39, hr_39, rfl, rfl, rfl, b1_39, b2_39, b3_39, b4_39⟩
            · refine g_istore_n C dX5_readBoth_42 (by decide) rfl (ll' := [some (.ref h), some (.int (nI 5)), some (.int (nI 1)), some (.int (nI it))]) rfl ?_
              refine g_aload_n C dX5_readBoth_43 rfl ?_
              refine g_get C i_X5 0 1 f_21 rfl rfl (by decide) rfl rfl dX5_readBoth_44 ?_
              refine g_sipush (v := nI 1004) C dX5_readBoth_47 (by decide) ?_
              refine g_callV C (c_X4_append E dr a0 a1 a2 a3 nr ((us + C1.length) + C_39.length) sa sk st (cdW (cdW co us C1) (us + C1.length) C_39) (nI 1004) (by omega)) gX5_readBoth_X4_append rfl 1 (by decide +kernel) ⟨by decide, by decide⟩ ⟨by decide, by decide⟩ 4 rfl rfl [4, 5, 6, 7, 8] [0, 1, 2, 3] (wr := [gO h 5 [.ref tk, .ref dr, .int (nI j_39), .int (ks j_39), .int fk, .int fp], gO tk 8 [.ref c0, .ref c1, .int (nI cn)], gA E c0 601 ks, gA E c1 601 ps]) rfl (by decide) rfl (by decide) (by decide) rfl rfl (Nat.le_of_ble_eq_true rfl) dX5_readBoth_50 ?_
              rintro _ _ ⟨rfl, rfl⟩
              show gg E _ 4 X 0 0 53 [some (.ref h), some (.int (nI 5)), some (.int (nI 1)), some (.int (nI it))] [] [gO h 5 [.ref tk, .ref dr, .int (nI j_39), .int (ks j_39), .int fk, .int fp], gO tk 8 [.ref c0, .ref c1, .int (nI cn)], gA E c0 601 ks, gA E c1 601 ps, gO dr 4 [.ref a0, .ref a1, .ref a2, .ref a3, .int (nI nr), .int (nI (((us + C1.length) + C_39.length) + 1))], gA E a0 12 sa, gA E a1 12 sk, gA E a2 13 st, gA E a3 600 (upd (cdW (cdW co us C1) (us + C1.length) C_39) ((us + C1.length) + C_39.length) (nI 1004))]
              rw [ln3 us C1 C_39 (nI 1004), cd3 co us C1 C_39 (nI 1004)]
              refine g_iinc_n (y := 1) C dX5_readBoth_53 rfl (by decide) (by decide) rfl (ll' := [some (.ref h), some (.int (nI 5)), some (.int (nI 1)), some (.int (nI (it + 1)))]) rfl ?_
              refine g_goto (tgt := 8) C dX5_readBoth_56 (by decide) ?_
              exact ih8 (it + 1) j_39 (f1 - 1) (C1 ++ C_39 ++ [nI 1004]) (by omega) (by omega) (by omega) (by omega) (by have := ln3 us C1 C_39 (nI 1004); omega) (by rw [g5, show f1 = f1 - 1 + 1 by omega, lpO, if_pos c30, hr_39]; rfl)
            · refine g_istore_n C dX5_readBoth_42 (by decide) rfl (ll' := [some (.ref h), some (.int (nI 5)), some (.int (nI 0)), some (.int (nI it))]) rfl ?_
              refine g_aload_n C dX5_readBoth_43 rfl ?_
              refine g_get C i_X5 0 1 f_21 rfl rfl (by decide) rfl rfl dX5_readBoth_44 ?_
              refine g_sipush (v := nI 1004) C dX5_readBoth_47 (by decide) ?_
              refine g_callV C (c_X4_append E dr a0 a1 a2 a3 nr us2_39 sa sk st co2_39 (nI 1004) (by omega)) gX5_readBoth_X4_append rfl 1 (by decide +kernel) ⟨by decide, by decide⟩ ⟨by decide, by decide⟩ 4 rfl rfl [4, 5, 6, 7, 8] [0, 1, 2, 3] (wr := [gO h 5 [.ref tk, .ref dr, .int (nI j_39), .int (ks j_39), .int (nI kd_39), .int (ps ix_39)], gO tk 8 [.ref c0, .ref c1, .int (nI cn)], gA E c0 601 ks, gA E c1 601 ps]) rfl (by decide) rfl (by decide) (by decide) rfl rfl (Nat.le_of_ble_eq_true rfl) dX5_readBoth_50 ?_
              rintro _ _ ⟨rfl, rfl⟩
              show gg E _ 4 X 0 0 53 [some (.ref h), some (.int (nI 5)), some (.int (nI 0)), some (.int (nI it))] [] [gO h 5 [.ref tk, .ref dr, .int (nI j_39), .int (ks j_39), .int (nI kd_39), .int (ps ix_39)], gO tk 8 [.ref c0, .ref c1, .int (nI cn)], gA E c0 601 ks, gA E c1 601 ps, gO dr 4 [.ref a0, .ref a1, .ref a2, .ref a3, .int (nI nr), .int (nI (us2_39 + 1))], gA E a0 12 sa, gA E a1 12 sk, gA E a2 13 st, gA E a3 600 (upd co2_39 us2_39 (nI 1004))]
              refine g_iinc_n (y := 1) C dX5_readBoth_53 rfl (by decide) (by decide) rfl (ll' := [some (.ref h), some (.int (nI 5)), some (.int (nI 0)), some (.int (nI (it + 1)))]) rfl ?_
              refine g_goto (tgt := 8) C dX5_readBoth_56 (by decide) ?_
              refine g_iload_n C dX5_readBoth_8 rfl ?_
              refine g_aload_n C dX5_readBoth_9 rfl ?_
              refine g_get C i_X5 0 0 f_12 rfl rfl (by decide) rfl rfl dX5_readBoth_10 ?_
              refine g_get C i_X8 1 2 f_76 rfl rfl (by decide) rfl rfl dX5_readBoth_13 ?_
              refine g_icmp_ge_n (tgt := 59) C dX5_readBoth_16 (by decide) (by omega) (by omega) (fun c16 => ?_) (fun c16 => ?_)
              · refine g_iload_n C dX5_readBoth_59 rfl ?_
                exact g_zret C Rt dX5_readBoth_60 (by decide) (by decide) (by decide) (⟨false, _, _, _, _, _, rfl, rfl, rdQ_er (by rw [g5, show f1 = f1 - 1 + 1 by omega, lpO, if_pos c30, hr_39]) (by omega) b2_39 (by omega) b4_39⟩)
              · refine g_iload_n C dX5_readBoth_19 rfl ?_
                refine g_if_eq (tgt := 59) C dX5_readBoth_20 (by decide) (fun c20 => ?_) (fun c20 => absurd c20 (by decide))
                refine g_iload_n C dX5_readBoth_59 rfl ?_
                exact g_zret C Rt dX5_readBoth_60 (by decide) (by decide) (by decide) (⟨false, _, _, _, _, _, rfl, rfl, rdQ_er (by rw [g5, show f1 = f1 - 1 + 1 by omega, lpO, if_pos c30, hr_39]) (by omega) b2_39 (by omega) b4_39⟩)
    exact L8 _ 0 j_2 601 C_2 (Nat.lt_succ_self _) (by omega) (by omega) (by omega) (by omega) (by rw [pAll, hr_2]; rfl)
  · refine g_istore_n C dX5_readBoth_5 (by decide) rfl (ll' := [some (.ref h), some (.int (nI 5)), some (.int (nI 0)), none]) rfl ?_
    refine g_iconst (v := nI 0) C dX5_readBoth_6 (by decide) ?_
    refine g_istore_n C dX5_readBoth_7 (by decide) rfl (ll' := [some (.ref h), some (.int (nI 5)), some (.int (nI 0)), some (.int (nI 0))]) rfl ?_
    refine g_iload_n C dX5_readBoth_8 rfl ?_
    refine g_aload_n C dX5_readBoth_9 rfl ?_
    refine g_get C i_X5 0 0 f_12 rfl rfl (by decide) rfl rfl dX5_readBoth_10 ?_
    refine g_get C i_X8 1 2 f_76 rfl rfl (by decide) rfl rfl dX5_readBoth_13 ?_
    refine g_icmp_ge_n (tgt := 59) C dX5_readBoth_16 (by decide) (by omega) (by omega) (fun c16 => ?_) (fun c16 => ?_)
    · refine g_iload_n C dX5_readBoth_59 rfl ?_
      exact g_zret C Rt dX5_readBoth_60 (by decide) (by decide) (by decide) (⟨false, _, _, _, _, _, rfl, rfl, rdQ_er (by rw [pAll, hr_2]; rfl) b1_2 b2_2 b3_2 b4_2⟩)
    · refine g_iload_n C dX5_readBoth_19 rfl ?_
      refine g_if_eq (tgt := 59) C dX5_readBoth_20 (by decide) (fun c20 => ?_) (fun c20 => absurd c20 (by decide))
      refine g_iload_n C dX5_readBoth_59 rfl ?_
      exact g_zret C Rt dX5_readBoth_60 (by decide) (by decide) (by decide) (⟨false, _, _, _, _, _, rfl, rfl, rdQ_er (by rw [pAll, hr_2]; rfl) b1_2 b2_2 b3_2 b4_2⟩)

abbrev rm_c_X5_readEither_3 : Room := { frames := 14, cells := 0, slots := 0, locals := 318 }
set_option maxHeartbeats 4000000 in
set_option maxRecDepth 100000 in
theorem c_X5_readEither_3 (E : gE) (h tk c0 c1 cn dr a0 a1 a2 a3 nr us i : Nat) (ks ps sa sk st co : Nat → Int32) (fk fp : Int32) (hi : i < cn) (hcn : cn ≤ 601) (hend : ks (cn - 1) = nI 1011) (hus : us ≤ i) : MM E yX5_readEither wsX5_readEither rm_c_X5_readEither_3 [.ref h, .int (nI 5)] [gO h 5 [.ref tk, .ref dr, .int (nI i), .int (ks i), .int fk, .int fp], gO tk 8 [.ref c0, .ref c1, .int (nI cn)], gA E c0 601 ks, gA E c1 601 ps, gO dr 4 [.ref a0, .ref a1, .ref a2, .ref a3, .int (nI nr), .int (nI us)], gA E a0 12 sa, gA E a1 12 sk, gA E a2 13 st, gA E a3 600 co] (fun rv_ ru_ => ∃ (ok : Bool) (j us2 : Nat) (co2 : Nat → Int32) (fk2 fp2 : Int32), rv_ = some (.int (b2i ok)) ∧ ru_ = [gO h 5 [.ref tk, .ref dr, .int (nI j), .int (ks j), .int fk2, .int fp2], gO tk 8 [.ref c0, .ref c1, .int (nI cn)], gA E c0 601 ks, gA E c1 601 ps, gO dr 4 [.ref a0, .ref a1, .ref a2, .ref a3, .int (nI nr), .int (nI us2)], gA E a0 12 sa, gA E a1 12 sk, gA E a2 13 st, gA E a3 600 co2] ∧ (rdQ (pAny ks (pLv ks 3) i) ps cn i us co fk fp ok j us2 co2 fk2 fp2)) := by
  refine MM.ofG (cc := cX5_readEither) (maxL := 4) (ret := (some .boolean)) (by decide) rfl (Nat.le_of_ble_eq_true rfl) (ll := [some (.ref h), some (.int (nI 5)), none, none]) rfl ?_
  intro X C Rt
  have C : gx E X cX5_readEither 4 wsX5_readEither RX5 := C
  have i_X5 : ∀ w ∈ u_ws RX5 TX5 6, w ∈ wsX5_readEither := by decide +kernel
  have i_X8 : ∀ w ∈ u_ws RX8 TX8 3, w ∈ wsX5_readEither := by decide +kernel
  have f_12 : Cond.fieldLink RX5 12 "MarkPages$RuleReader" "tokens" "LMarkPages$Tokens;" ∈ wsX5_readEither := by decide +kernel
  have f_21 : Cond.fieldLink RX5 21 "MarkPages$RuleReader" "draft" "LMarkPages$RuleBook;" ∈ wsX5_readEither := by decide +kernel
  have f_25 : Cond.fieldLink RX5 25 "MarkPages$RuleReader" "now" "I" ∈ wsX5_readEither := by decide +kernel
  have f_76 : Cond.fieldLink RX5 76 "MarkPages$Tokens" "count" "I" ∈ wsX5_readEither := by decide +kernel
  refine g_aload_n C dX5_readEither_0 rfl ?_
  refine g_iload_n C dX5_readEither_1 rfl ?_
  refine g_callV C (c_X5_readBoth_3 E h tk c0 c1 cn dr a0 a1 a2 a3 nr us i ks ps sa sk st co fk fp (by omega) (by omega) (hend) (by omega)) gX5_readEither_X5_readBoth rfl 1 (by decide +kernel) ⟨by decide, by decide⟩ ⟨by decide, by decide⟩ 0 rfl rfl [0, 1, 2, 3, 4, 5, 6, 7, 8] [] (wr := []) rfl (by decide) rfl (by decide) (by decide) rfl rfl (Nat.le_of_ble_eq_true rfl) dX5_readEither_2 ?_
  rintro _ _ ⟨ok_2, j_2, us2_2, co2_2, fk2_2, fp2_2, rfl, rfl, hq_2⟩
  show gg E _ 4 X 0 0 5 [some (.ref h), some (.int (nI 5)), none, none] [.int (b2i ok_2)] [gO h 5 [.ref tk, .ref dr, .int (nI j_2), .int (ks j_2), .int fk2_2, .int fp2_2], gO tk 8 [.ref c0, .ref c1, .int (nI cn)], gA E c0 601 ks, gA E c1 601 ps, gO dr 4 [.ref a0, .ref a1, .ref a2, .ref a3, .int (nI nr), .int (nI us2_2)], gA E a0 12 sa, gA E a1 12 sk, gA E a2 13 st, gA E a3 600 co2_2]
  rcases rdQ_tw hq_2 with ⟨C_2, hr_2, rfl, rfl, rfl, rfl, rfl, b1_2, b2_2, b3_2⟩ | ⟨kd_2, ix_2, hr_2, rfl, rfl, rfl, b1_2, b2_2, b3_2, b4_2⟩
  · refine g_istore_n C dX5_readEither_5 (by decide) rfl (ll' := [some (.ref h), some (.int (nI 5)), some (.int (nI 1)), none]) rfl ?_
    refine g_iconst (v := nI 0) C dX5_readEither_6 (by decide) ?_
    refine g_istore_n C dX5_readEither_7 (by decide) rfl (ll' := [some (.ref h), some (.int (nI 5)), some (.int (nI 1)), some (.int (nI 0))]) rfl ?_
    have L8 : ∀ (n8 : Nat) (it j1 f1 : Nat) (C1 : List Int32), cn - j1 < n8 → (j1 < cn) → (i + it ≤ j1) → (f1 + it = 601) → (C1.length + i ≤ j1) → (pAny ks (pLv ks 3) i = lpO ks (nI 1003) (pAll ks (pLv ks 3)) f1 j1 C1) → gg E rm_c_X5_readEither_3 4 X 0 0 8 [some (.ref h), some (.int (nI 5)), some (.int (nI 1)), some (.int (nI it))] [] [gO h 5 [.ref tk, .ref dr, .int (nI j1), .int (ks j1), .int fk, .int fp], gO tk 8 [.ref c0, .ref c1, .int (nI cn)], gA E c0 601 ks, gA E c1 601 ps, gO dr 4 [.ref a0, .ref a1, .ref a2, .ref a3, .int (nI nr), .int (nI (us + C1.length))], gA E a0 12 sa, gA E a1 12 sk, gA E a2 13 st, gA E a3 600 (cdW co us C1)] := by
      intro n8
      induction n8 with
      | zero => intro it j1 f1 C1 hm8; exact absurd hm8 (Nat.not_lt_zero _)
      | succ n8 ih8 =>
        intro it j1 f1 C1 hm8 g1 g2 g3 g4 g5
        refine g_iload_n C dX5_readEither_8 rfl ?_
        refine g_aload_n C dX5_readEither_9 rfl ?_
        refine g_get C i_X5 0 0 f_12 rfl rfl (by decide) rfl rfl dX5_readEither_10 ?_
        refine g_get C i_X8 1 2 f_76 rfl rfl (by decide) rfl rfl dX5_readEither_13 ?_
        refine g_icmp_ge_n (tgt := 59) C dX5_readEither_16 (by decide) (by omega) (by omega) (fun c16 => ?_) (fun c16 => ?_)
        · exact absurd c16 (by omega)
        · refine g_iload_n C dX5_readEither_19 rfl ?_
          refine g_if_eq (tgt := 59) C dX5_readEither_20 (by decide) (fun c20 => absurd c20 (by decide)) (fun c20 => ?_)
          refine g_aload_n C dX5_readEither_23 rfl ?_
          refine g_get C i_X5 0 3 f_25 rfl rfl (by decide) rfl rfl dX5_readEither_24 ?_
          refine g_sipush (v := nI 1003) C dX5_readEither_27 (by decide) ?_
          refine g_icmp_ne (tgt := 59) C dX5_readEither_30 (by decide) (fun c30 => ?_) (fun c30 => ?_)
          · refine g_iload_n C dX5_readEither_59 rfl ?_
            exact g_zret C Rt dX5_readEither_60 (by decide) (by decide) (by decide) (⟨true, _, _, _, _, _, rfl, rfl, rdQ_ok (by rw [g5, show f1 = f1 - 1 + 1 by omega, lpO, if_neg c30]) (by omega) g1 (by omega) rfl rfl⟩)
          · have hn7 := not_end hend g1 c30 (by decide)
            refine g_aload_n C dX5_readEither_33 rfl ?_
            refine g_callV C (c_X5_advance E h tk c0 c1 cn dr a0 a1 a2 a3 nr (us + C1.length) j1 ks ps sa sk st (cdW co us C1) fk fp (not_end hend g1 c30 (by decide)) (by omega)) gX5_readEither_X5_advance rfl 0 (by decide +kernel) ⟨by decide, by decide⟩ ⟨by decide, by decide⟩ 0 rfl rfl [0, 1, 2, 3, 4, 5, 6, 7, 8] [] (wr := []) rfl (by decide) rfl (by decide) (by decide) rfl rfl (Nat.le_of_ble_eq_true rfl) dX5_readEither_34 ?_
            rintro _ _ ⟨rfl, rfl⟩
            show gg E _ 4 X 0 0 37 [some (.ref h), some (.int (nI 5)), some (.int (nI 1)), some (.int (nI it))] [] [gO h 5 [.ref tk, .ref dr, .int (nI (j1 + 1)), .int (ks (j1 + 1)), .int fk, .int fp], gO tk 8 [.ref c0, .ref c1, .int (nI cn)], gA E c0 601 ks, gA E c1 601 ps, gO dr 4 [.ref a0, .ref a1, .ref a2, .ref a3, .int (nI nr), .int (nI (us + C1.length))], gA E a0 12 sa, gA E a1 12 sk, gA E a2 13 st, gA E a3 600 (cdW co us C1)]
            refine g_aload_n C dX5_readEither_37 rfl ?_
            refine g_iload_n C dX5_readEither_38 rfl ?_
            refine g_callV C (c_X5_readBoth_3 E h tk c0 c1 cn dr a0 a1 a2 a3 nr (us + C1.length) (j1 + 1) ks ps sa sk st (cdW co us C1) fk fp (by omega) (by omega) (hend) (by omega)) gX5_readEither_X5_readBoth rfl 1 (by decide +kernel) ⟨by decide, by decide⟩ ⟨by decide, by decide⟩ 0 rfl rfl [0, 1, 2, 3, 4, 5, 6, 7, 8] [] (wr := []) rfl (by decide) rfl (by decide) (by decide) rfl rfl (Nat.le_of_ble_eq_true rfl) dX5_readEither_39 ?_
            rintro _ _ ⟨ok_39, j_39, us2_39, co2_39, fk2_39, fp2_39, rfl, rfl, hq_39⟩
            show gg E _ 4 X 0 0 42 [some (.ref h), some (.int (nI 5)), some (.int (nI 1)), some (.int (nI it))] [.int (b2i ok_39)] [gO h 5 [.ref tk, .ref dr, .int (nI j_39), .int (ks j_39), .int fk2_39, .int fp2_39], gO tk 8 [.ref c0, .ref c1, .int (nI cn)], gA E c0 601 ks, gA E c1 601 ps, gO dr 4 [.ref a0, .ref a1, .ref a2, .ref a3, .int (nI nr), .int (nI us2_39)], gA E a0 12 sa, gA E a1 12 sk, gA E a2 13 st, gA E a3 600 co2_39]
            rcases rdQ_tw hq_39 with ⟨C_39, hr_39, rfl, rfl, rfl, rfl, rfl, b1_39, b2_39, b3_39⟩ | ⟨kd_39, ix_39, hr_39, rfl, rfl, rfl, b1_39, b2_39, b3_39, b4_39⟩
            · refine g_istore_n C dX5_readEither_42 (by decide) rfl (ll' := [some (.ref h), some (.int (nI 5)), some (.int (nI 1)), some (.int (nI it))]) rfl ?_
              refine g_aload_n C dX5_readEither_43 rfl ?_
              refine g_get C i_X5 0 1 f_21 rfl rfl (by decide) rfl rfl dX5_readEither_44 ?_
              refine g_sipush (v := nI 1003) C dX5_readEither_47 (by decide) ?_
              refine g_callV C (c_X4_append E dr a0 a1 a2 a3 nr ((us + C1.length) + C_39.length) sa sk st (cdW (cdW co us C1) (us + C1.length) C_39) (nI 1003) (by omega)) gX5_readEither_X4_append rfl 1 (by decide +kernel) ⟨by decide, by decide⟩ ⟨by decide, by decide⟩ 4 rfl rfl [4, 5, 6, 7, 8] [0, 1, 2, 3] (wr := [gO h 5 [.ref tk, .ref dr, .int (nI j_39), .int (ks j_39), .int fk, .int fp], gO tk 8 [.ref c0, .ref c1, .int (nI cn)], gA E c0 601 ks, gA E c1 601 ps]) rfl (by decide) rfl (by decide) (by decide) rfl rfl (Nat.le_of_ble_eq_true rfl) dX5_readEither_50 ?_
              rintro _ _ ⟨rfl, rfl⟩
              show gg E _ 4 X 0 0 53 [some (.ref h), some (.int (nI 5)), some (.int (nI 1)), some (.int (nI it))] [] [gO h 5 [.ref tk, .ref dr, .int (nI j_39), .int (ks j_39), .int fk, .int fp], gO tk 8 [.ref c0, .ref c1, .int (nI cn)], gA E c0 601 ks, gA E c1 601 ps, gO dr 4 [.ref a0, .ref a1, .ref a2, .ref a3, .int (nI nr), .int (nI (((us + C1.length) + C_39.length) + 1))], gA E a0 12 sa, gA E a1 12 sk, gA E a2 13 st, gA E a3 600 (upd (cdW (cdW co us C1) (us + C1.length) C_39) ((us + C1.length) + C_39.length) (nI 1003))]
              rw [ln3 us C1 C_39 (nI 1003), cd3 co us C1 C_39 (nI 1003)]
              refine g_iinc_n (y := 1) C dX5_readEither_53 rfl (by decide) (by decide) rfl (ll' := [some (.ref h), some (.int (nI 5)), some (.int (nI 1)), some (.int (nI (it + 1)))]) rfl ?_
              refine g_goto (tgt := 8) C dX5_readEither_56 (by decide) ?_
              exact ih8 (it + 1) j_39 (f1 - 1) (C1 ++ C_39 ++ [nI 1003]) (by omega) (by omega) (by omega) (by omega) (by have := ln3 us C1 C_39 (nI 1003); omega) (by rw [g5, show f1 = f1 - 1 + 1 by omega, lpO, if_pos c30, hr_39]; rfl)
            · refine g_istore_n C dX5_readEither_42 (by decide) rfl (ll' := [some (.ref h), some (.int (nI 5)), some (.int (nI 0)), some (.int (nI it))]) rfl ?_
              refine g_aload_n C dX5_readEither_43 rfl ?_
              refine g_get C i_X5 0 1 f_21 rfl rfl (by decide) rfl rfl dX5_readEither_44 ?_
              refine g_sipush (v := nI 1003) C dX5_readEither_47 (by decide) ?_
              refine g_callV C (c_X4_append E dr a0 a1 a2 a3 nr us2_39 sa sk st co2_39 (nI 1003) (by omega)) gX5_readEither_X4_append rfl 1 (by decide +kernel) ⟨by decide, by decide⟩ ⟨by decide, by decide⟩ 4 rfl rfl [4, 5, 6, 7, 8] [0, 1, 2, 3] (wr := [gO h 5 [.ref tk, .ref dr, .int (nI j_39), .int (ks j_39), .int (nI kd_39), .int (ps ix_39)], gO tk 8 [.ref c0, .ref c1, .int (nI cn)], gA E c0 601 ks, gA E c1 601 ps]) rfl (by decide) rfl (by decide) (by decide) rfl rfl (Nat.le_of_ble_eq_true rfl) dX5_readEither_50 ?_
              rintro _ _ ⟨rfl, rfl⟩
              show gg E _ 4 X 0 0 53 [some (.ref h), some (.int (nI 5)), some (.int (nI 0)), some (.int (nI it))] [] [gO h 5 [.ref tk, .ref dr, .int (nI j_39), .int (ks j_39), .int (nI kd_39), .int (ps ix_39)], gO tk 8 [.ref c0, .ref c1, .int (nI cn)], gA E c0 601 ks, gA E c1 601 ps, gO dr 4 [.ref a0, .ref a1, .ref a2, .ref a3, .int (nI nr), .int (nI (us2_39 + 1))], gA E a0 12 sa, gA E a1 12 sk, gA E a2 13 st, gA E a3 600 (upd co2_39 us2_39 (nI 1003))]
              refine g_iinc_n (y := 1) C dX5_readEither_53 rfl (by decide) (by decide) rfl (ll' := [some (.ref h), some (.int (nI 5)), some (.int (nI 0)), some (.int (nI (it + 1)))]) rfl ?_
              refine g_goto (tgt := 8) C dX5_readEither_56 (by decide) ?_
              refine g_iload_n C dX5_readEither_8 rfl ?_
              refine g_aload_n C dX5_readEither_9 rfl ?_
              refine g_get C i_X5 0 0 f_12 rfl rfl (by decide) rfl rfl dX5_readEither_10 ?_
              refine g_get C i_X8 1 2 f_76 rfl rfl (by decide) rfl rfl dX5_readEither_13 ?_
              refine g_icmp_ge_n (tgt := 59) C dX5_readEither_16 (by decide) (by omega) (by omega) (fun c16 => ?_) (fun c16 => ?_)
              · refine g_iload_n C dX5_readEither_59 rfl ?_
                exact g_zret C Rt dX5_readEither_60 (by decide) (by decide) (by decide) (⟨false, _, _, _, _, _, rfl, rfl, rdQ_er (by rw [g5, show f1 = f1 - 1 + 1 by omega, lpO, if_pos c30, hr_39]) (by omega) b2_39 (by omega) b4_39⟩)
              · refine g_iload_n C dX5_readEither_19 rfl ?_
                refine g_if_eq (tgt := 59) C dX5_readEither_20 (by decide) (fun c20 => ?_) (fun c20 => absurd c20 (by decide))
                refine g_iload_n C dX5_readEither_59 rfl ?_
                exact g_zret C Rt dX5_readEither_60 (by decide) (by decide) (by decide) (⟨false, _, _, _, _, _, rfl, rfl, rdQ_er (by rw [g5, show f1 = f1 - 1 + 1 by omega, lpO, if_pos c30, hr_39]) (by omega) b2_39 (by omega) b4_39⟩)
    exact L8 _ 0 j_2 601 C_2 (Nat.lt_succ_self _) (by omega) (by omega) (by omega) (by omega) (by rw [pAny, hr_2]; rfl)
  · refine g_istore_n C dX5_readEither_5 (by decide) rfl (ll' := [some (.ref h), some (.int (nI 5)), some (.int (nI 0)), none]) rfl ?_
    refine g_iconst (v := nI 0) C dX5_readEither_6 (by decide) ?_
    refine g_istore_n C dX5_readEither_7 (by decide) rfl (ll' := [some (.ref h), some (.int (nI 5)), some (.int (nI 0)), some (.int (nI 0))]) rfl ?_
    refine g_iload_n C dX5_readEither_8 rfl ?_
    refine g_aload_n C dX5_readEither_9 rfl ?_
    refine g_get C i_X5 0 0 f_12 rfl rfl (by decide) rfl rfl dX5_readEither_10 ?_
    refine g_get C i_X8 1 2 f_76 rfl rfl (by decide) rfl rfl dX5_readEither_13 ?_
    refine g_icmp_ge_n (tgt := 59) C dX5_readEither_16 (by decide) (by omega) (by omega) (fun c16 => ?_) (fun c16 => ?_)
    · refine g_iload_n C dX5_readEither_59 rfl ?_
      exact g_zret C Rt dX5_readEither_60 (by decide) (by decide) (by decide) (⟨false, _, _, _, _, _, rfl, rfl, rdQ_er (by rw [pAny, hr_2]; rfl) b1_2 b2_2 b3_2 b4_2⟩)
    · refine g_iload_n C dX5_readEither_19 rfl ?_
      refine g_if_eq (tgt := 59) C dX5_readEither_20 (by decide) (fun c20 => ?_) (fun c20 => absurd c20 (by decide))
      refine g_iload_n C dX5_readEither_59 rfl ?_
      exact g_zret C Rt dX5_readEither_60 (by decide) (by decide) (by decide) (⟨false, _, _, _, _, _, rfl, rfl, rdQ_er (by rw [pAny, hr_2]; rfl) b1_2 b2_2 b3_2 b4_2⟩)

abbrev rm_c_X5_readCondition_4 : Room := { frames := 15, cells := 0, slots := 0, locals := 341 }
set_option maxHeartbeats 4000000 in
set_option maxRecDepth 100000 in
theorem c_X5_readCondition_4 (E : gE) (h tk c0 c1 cn dr a0 a1 a2 a3 nr us i : Nat) (ks ps sa sk st co : Nat → Int32) (fk fp : Int32) (hi : i < cn) (hcn : cn ≤ 601) (hend : ks (cn - 1) = nI 1011) (hus : us ≤ i) : MM E yX5_readCondition wsX5_readCondition rm_c_X5_readCondition_4 [.ref h, .int (nI 4)] [gO h 5 [.ref tk, .ref dr, .int (nI i), .int (ks i), .int fk, .int fp], gO tk 8 [.ref c0, .ref c1, .int (nI cn)], gA E c0 601 ks, gA E c1 601 ps, gO dr 4 [.ref a0, .ref a1, .ref a2, .ref a3, .int (nI nr), .int (nI us)], gA E a0 12 sa, gA E a1 12 sk, gA E a2 13 st, gA E a3 600 co] (fun rv_ ru_ => ∃ (ok : Bool) (j us2 : Nat) (co2 : Nat → Int32) (fk2 fp2 : Int32), rv_ = some (.int (b2i ok)) ∧ ru_ = [gO h 5 [.ref tk, .ref dr, .int (nI j), .int (ks j), .int fk2, .int fp2], gO tk 8 [.ref c0, .ref c1, .int (nI cn)], gA E c0 601 ks, gA E c1 601 ps, gO dr 4 [.ref a0, .ref a1, .ref a2, .ref a3, .int (nI nr), .int (nI us2)], gA E a0 12 sa, gA E a1 12 sk, gA E a2 13 st, gA E a3 600 co2] ∧ (rdQ (pLv ks 4 i) ps cn i us co fk fp ok j us2 co2 fk2 fp2)) := by
  refine MM.ofG (cc := cX5_readCondition) (maxL := 4) (ret := (some .boolean)) (by decide) rfl (Nat.le_of_ble_eq_true rfl) (ll := [some (.ref h), some (.int (nI 4)), none, none]) rfl ?_
  intro X C Rt
  have C : gx E X cX5_readCondition 4 wsX5_readCondition RX5 := C
  have i_X5 : ∀ w ∈ u_ws RX5 TX5 6, w ∈ wsX5_readCondition := by decide +kernel
  have f_21 : Cond.fieldLink RX5 21 "MarkPages$RuleReader" "draft" "LMarkPages$RuleBook;" ∈ wsX5_readCondition := by decide +kernel
  have f_25 : Cond.fieldLink RX5 25 "MarkPages$RuleReader" "now" "I" ∈ wsX5_readCondition := by decide +kernel
  refine g_aload_n C dX5_readCondition_0 rfl ?_
  refine g_get C i_X5 0 3 f_25 rfl rfl (by decide) rfl rfl dX5_readCondition_1 ?_
  refine g_sipush (v := nI 1005) C dX5_readCondition_4 (by decide) ?_
  refine g_icmp_eq (tgt := 25) C dX5_readCondition_7 (by decide) (fun c7 => ?_) (fun c7 => ?_)
  · refine g_iload_n C dX5_readCondition_25 rfl ?_
    refine g_bipush (v := nI 8) C dX5_readCondition_26 (by decide) ?_
    refine g_icmp_lt (tgt := 37) C dX5_readCondition_28 (by decide) (fun c28 => ?_) (fun c28 => absurd c28 (by decide))
    refine g_aload_n C dX5_readCondition_37 rfl ?_
    refine g_get C i_X5 0 3 f_25 rfl rfl (by decide) rfl rfl dX5_readCondition_38 ?_
    refine g_sipush (v := nI 1005) C dX5_readCondition_41 (by decide) ?_
    refine g_icmp_ne (tgt := 51) C dX5_readCondition_44 (by decide) (fun c44 => ?_) (fun c44 => ?_)
    · exact absurd c7 c44
    · refine g_iconst (v := nI 1) C dX5_readCondition_47 (by decide) ?_
      refine g_goto (tgt := 52) C dX5_readCondition_48 (by decide) ?_
      refine g_istore_n C dX5_readCondition_52 (by decide) rfl (ll' := [some (.ref h), some (.int (nI 4)), some (.int (nI 1)), none]) rfl ?_
      have hn8 := not_end hend hi c7 (by decide)
      refine g_aload_n C dX5_readCondition_53 rfl ?_
      refine g_callV C (c_X5_advance E h tk c0 c1 cn dr a0 a1 a2 a3 nr us i ks ps sa sk st co fk fp (hn8) (by omega)) gX5_readCondition_X5_advance rfl 0 (by decide +kernel) ⟨by decide, by decide⟩ ⟨by decide, by decide⟩ 0 rfl rfl [0, 1, 2, 3, 4, 5, 6, 7, 8] [] (wr := []) rfl (by decide) rfl (by decide) (by decide) rfl rfl (Nat.le_of_ble_eq_true rfl) dX5_readCondition_54 ?_
      rintro _ _ ⟨rfl, rfl⟩
      show gg E _ 4 X 0 0 57 [some (.ref h), some (.int (nI 4)), some (.int (nI 1)), none] [] [gO h 5 [.ref tk, .ref dr, .int (nI (i + 1)), .int (ks (i + 1)), .int fk, .int fp], gO tk 8 [.ref c0, .ref c1, .int (nI cn)], gA E c0 601 ks, gA E c1 601 ps, gO dr 4 [.ref a0, .ref a1, .ref a2, .ref a3, .int (nI nr), .int (nI us)], gA E a0 12 sa, gA E a1 12 sk, gA E a2 13 st, gA E a3 600 co]
      refine g_iload_n C dX5_readCondition_57 rfl ?_
      refine g_if_ne (tgt := 87) C dX5_readCondition_58 (by decide) (fun c58 => ?_) (fun c58 => absurd c58 (by decide))
      refine g_aload_n C dX5_readCondition_87 rfl ?_
      refine g_iload_n C dX5_readCondition_88 rfl ?_
      refine g_iconst (v := nI 1) C dX5_readCondition_89 (by decide) ?_
      refine g_iadd C dX5_readCondition_90 (g_top (x' := nI 5) (by decide) ?_)
      refine g_callV C (c_X5_readCondition_3 E h tk c0 c1 cn dr a0 a1 a2 a3 nr us (i + 1) ks ps sa sk st co fk fp (by omega) (by omega) (hend) (by omega)) gX5_readCondition_X5_readCondition rfl 1 (by decide +kernel) ⟨by decide, by decide⟩ ⟨by decide, by decide⟩ 0 rfl rfl [0, 1, 2, 3, 4, 5, 6, 7, 8] [] (wr := []) rfl (by decide) rfl (by decide) (by decide) rfl rfl (Nat.le_of_ble_eq_true rfl) dX5_readCondition_91 ?_
      rintro _ _ ⟨ok_91, j_91, us2_91, co2_91, fk2_91, fp2_91, rfl, rfl, hq_91⟩
      show gg E _ 4 X 0 0 94 [some (.ref h), some (.int (nI 4)), some (.int (nI 1)), none] [.int (b2i ok_91)] [gO h 5 [.ref tk, .ref dr, .int (nI j_91), .int (ks j_91), .int fk2_91, .int fp2_91], gO tk 8 [.ref c0, .ref c1, .int (nI cn)], gA E c0 601 ks, gA E c1 601 ps, gO dr 4 [.ref a0, .ref a1, .ref a2, .ref a3, .int (nI nr), .int (nI us2_91)], gA E a0 12 sa, gA E a1 12 sk, gA E a2 13 st, gA E a3 600 co2_91]
      rcases rdQ_tw hq_91 with ⟨C_91, hr_91, rfl, rfl, rfl, rfl, rfl, b1_91, b2_91, b3_91⟩ | ⟨kd_91, ix_91, hr_91, rfl, rfl, rfl, b1_91, b2_91, b3_91, b4_91⟩
      · refine g_istore_n C dX5_readCondition_94 (by decide) rfl (ll' := [some (.ref h), some (.int (nI 4)), some (.int (nI 1)), some (.int (nI 1))]) rfl ?_
        refine g_aload_n C dX5_readCondition_95 rfl ?_
        refine g_get C i_X5 0 1 f_21 rfl rfl (by decide) rfl rfl dX5_readCondition_96 ?_
        refine g_sipush (v := nI 1005) C dX5_readCondition_99 (by decide) ?_
        refine g_callV C (c_X4_append E dr a0 a1 a2 a3 nr (us + C_91.length) sa sk st (cdW co us C_91) (nI 1005) (by omega)) gX5_readCondition_X4_append rfl 1 (by decide +kernel) ⟨by decide, by decide⟩ ⟨by decide, by decide⟩ 4 rfl rfl [4, 5, 6, 7, 8] [0, 1, 2, 3] (wr := [gO h 5 [.ref tk, .ref dr, .int (nI j_91), .int (ks j_91), .int fk, .int fp], gO tk 8 [.ref c0, .ref c1, .int (nI cn)], gA E c0 601 ks, gA E c1 601 ps]) rfl (by decide) rfl (by decide) (by decide) rfl rfl (Nat.le_of_ble_eq_true rfl) dX5_readCondition_102 ?_
        rintro _ _ ⟨rfl, rfl⟩
        show gg E _ 4 X 0 0 105 [some (.ref h), some (.int (nI 4)), some (.int (nI 1)), some (.int (nI 1))] [] [gO h 5 [.ref tk, .ref dr, .int (nI j_91), .int (ks j_91), .int fk, .int fp], gO tk 8 [.ref c0, .ref c1, .int (nI cn)], gA E c0 601 ks, gA E c1 601 ps, gO dr 4 [.ref a0, .ref a1, .ref a2, .ref a3, .int (nI nr), .int (nI ((us + C_91.length) + 1))], gA E a0 12 sa, gA E a1 12 sk, gA E a2 13 st, gA E a3 600 (upd (cdW co us C_91) (us + C_91.length) (nI 1005))]
        refine g_iload_n C dX5_readCondition_105 rfl ?_
        exact g_zret C Rt dX5_readCondition_106 (by decide) (by decide) (by decide) (⟨true, _, _, _, _, _, rfl, rfl, rdQ_ok (by rw [pLv, if_pos (Or.inl c7), if_pos c7, hr_91]; rfl) (by omega) b2_91 (by omega) (ln2 _ _ _) (cdW_snoc _ _ _ _).symm⟩)
      · refine g_istore_n C dX5_readCondition_94 (by decide) rfl (ll' := [some (.ref h), some (.int (nI 4)), some (.int (nI 1)), some (.int (nI 0))]) rfl ?_
        refine g_aload_n C dX5_readCondition_95 rfl ?_
        refine g_get C i_X5 0 1 f_21 rfl rfl (by decide) rfl rfl dX5_readCondition_96 ?_
        refine g_sipush (v := nI 1005) C dX5_readCondition_99 (by decide) ?_
        refine g_callV C (c_X4_append E dr a0 a1 a2 a3 nr us2_91 sa sk st co2_91 (nI 1005) (by omega)) gX5_readCondition_X4_append rfl 1 (by decide +kernel) ⟨by decide, by decide⟩ ⟨by decide, by decide⟩ 4 rfl rfl [4, 5, 6, 7, 8] [0, 1, 2, 3] (wr := [gO h 5 [.ref tk, .ref dr, .int (nI j_91), .int (ks j_91), .int (nI kd_91), .int (ps ix_91)], gO tk 8 [.ref c0, .ref c1, .int (nI cn)], gA E c0 601 ks, gA E c1 601 ps]) rfl (by decide) rfl (by decide) (by decide) rfl rfl (Nat.le_of_ble_eq_true rfl) dX5_readCondition_102 ?_
        rintro _ _ ⟨rfl, rfl⟩
        show gg E _ 4 X 0 0 105 [some (.ref h), some (.int (nI 4)), some (.int (nI 1)), some (.int (nI 0))] [] [gO h 5 [.ref tk, .ref dr, .int (nI j_91), .int (ks j_91), .int (nI kd_91), .int (ps ix_91)], gO tk 8 [.ref c0, .ref c1, .int (nI cn)], gA E c0 601 ks, gA E c1 601 ps, gO dr 4 [.ref a0, .ref a1, .ref a2, .ref a3, .int (nI nr), .int (nI (us2_91 + 1))], gA E a0 12 sa, gA E a1 12 sk, gA E a2 13 st, gA E a3 600 (upd co2_91 us2_91 (nI 1005))]
        refine g_iload_n C dX5_readCondition_105 rfl ?_
        exact g_zret C Rt dX5_readCondition_106 (by decide) (by decide) (by decide) (⟨false, _, _, _, _, _, rfl, rfl, rdQ_er (by rw [pLv, if_pos (Or.inl c7), if_pos c7, hr_91]; rfl) (by omega) b2_91 (by omega) b4_91⟩)
  · refine g_aload_n C dX5_readCondition_10 rfl ?_
    refine g_get C i_X5 0 3 f_25 rfl rfl (by decide) rfl rfl dX5_readCondition_11 ?_
    refine g_sipush (v := nI 1140) C dX5_readCondition_14 (by decide) ?_
    refine g_icmp_eq (tgt := 25) C dX5_readCondition_17 (by decide) (fun c17 => ?_) (fun c17 => ?_)
    · refine g_iload_n C dX5_readCondition_25 rfl ?_
      refine g_bipush (v := nI 8) C dX5_readCondition_26 (by decide) ?_
      refine g_icmp_lt (tgt := 37) C dX5_readCondition_28 (by decide) (fun c28 => ?_) (fun c28 => absurd c28 (by decide))
      refine g_aload_n C dX5_readCondition_37 rfl ?_
      refine g_get C i_X5 0 3 f_25 rfl rfl (by decide) rfl rfl dX5_readCondition_38 ?_
      refine g_sipush (v := nI 1005) C dX5_readCondition_41 (by decide) ?_
      refine g_icmp_ne (tgt := 51) C dX5_readCondition_44 (by decide) (fun c44 => ?_) (fun c44 => ?_)
      · refine g_iconst (v := nI 0) C dX5_readCondition_51 (by decide) ?_
        refine g_istore_n C dX5_readCondition_52 (by decide) rfl (ll' := [some (.ref h), some (.int (nI 4)), some (.int (nI 0)), none]) rfl ?_
        have hn8 := not_end hend hi c17 (by decide)
        refine g_aload_n C dX5_readCondition_53 rfl ?_
        refine g_callV C (c_X5_advance E h tk c0 c1 cn dr a0 a1 a2 a3 nr us i ks ps sa sk st co fk fp (hn8) (by omega)) gX5_readCondition_X5_advance rfl 0 (by decide +kernel) ⟨by decide, by decide⟩ ⟨by decide, by decide⟩ 0 rfl rfl [0, 1, 2, 3, 4, 5, 6, 7, 8] [] (wr := []) rfl (by decide) rfl (by decide) (by decide) rfl rfl (Nat.le_of_ble_eq_true rfl) dX5_readCondition_54 ?_
        rintro _ _ ⟨rfl, rfl⟩
        show gg E _ 4 X 0 0 57 [some (.ref h), some (.int (nI 4)), some (.int (nI 0)), none] [] [gO h 5 [.ref tk, .ref dr, .int (nI (i + 1)), .int (ks (i + 1)), .int fk, .int fp], gO tk 8 [.ref c0, .ref c1, .int (nI cn)], gA E c0 601 ks, gA E c1 601 ps, gO dr 4 [.ref a0, .ref a1, .ref a2, .ref a3, .int (nI nr), .int (nI us)], gA E a0 12 sa, gA E a1 12 sk, gA E a2 13 st, gA E a3 600 co]
        refine g_iload_n C dX5_readCondition_57 rfl ?_
        refine g_if_ne (tgt := 87) C dX5_readCondition_58 (by decide) (fun c58 => absurd c58 (by decide)) (fun c58 => ?_)
        refine g_aload_n C dX5_readCondition_61 rfl ?_
        refine g_iload_n C dX5_readCondition_62 rfl ?_
        refine g_iconst (v := nI 1) C dX5_readCondition_63 (by decide) ?_
        refine g_iadd C dX5_readCondition_64 (g_top (x' := nI 5) (by decide) ?_)
        refine g_callV C (c_X5_readEither_3 E h tk c0 c1 cn dr a0 a1 a2 a3 nr us (i + 1) ks ps sa sk st co fk fp (by omega) (by omega) (hend) (by omega)) gX5_readCondition_X5_readEither rfl 1 (by decide +kernel) ⟨by decide, by decide⟩ ⟨by decide, by decide⟩ 0 rfl rfl [0, 1, 2, 3, 4, 5, 6, 7, 8] [] (wr := []) rfl (by decide) rfl (by decide) (by decide) rfl rfl (Nat.le_of_ble_eq_true rfl) dX5_readCondition_65 ?_
        rintro _ _ ⟨ok_65, j_65, us2_65, co2_65, fk2_65, fp2_65, rfl, rfl, hq_65⟩
        show gg E _ 4 X 0 0 68 [some (.ref h), some (.int (nI 4)), some (.int (nI 0)), none] [.int (b2i ok_65)] [gO h 5 [.ref tk, .ref dr, .int (nI j_65), .int (ks j_65), .int fk2_65, .int fp2_65], gO tk 8 [.ref c0, .ref c1, .int (nI cn)], gA E c0 601 ks, gA E c1 601 ps, gO dr 4 [.ref a0, .ref a1, .ref a2, .ref a3, .int (nI nr), .int (nI us2_65)], gA E a0 12 sa, gA E a1 12 sk, gA E a2 13 st, gA E a3 600 co2_65]
        rcases rdQ_tw hq_65 with ⟨C_65, hr_65, rfl, rfl, rfl, rfl, rfl, b1_65, b2_65, b3_65⟩ | ⟨kd_65, ix_65, hr_65, rfl, rfl, rfl, b1_65, b2_65, b3_65, b4_65⟩
        · refine g_if_eq (tgt := 85) C dX5_readCondition_68 (by decide) (fun c68 => absurd c68 (by decide)) (fun c68 => ?_)
          rcases Classical.em (ks j_65 = nI 1141) with hx | hx
          · refine g_aload_n C dX5_readCondition_71 rfl ?_
            refine g_sipush (v := nI 1141) C dX5_readCondition_72 (by decide) ?_
            refine g_callV C (c_X5_expect_y E h tk c0 c1 cn dr a0 a1 a2 a3 nr (us + C_65.length) j_65 ks ps sa sk st (cdW co us C_65) fk fp (nI 1141) (by omega) (by omega) (hend) (hx) (by decide)) gX5_readCondition_X5_expect rfl 1 (by decide +kernel) ⟨by decide, by decide⟩ ⟨by decide, by decide⟩ 0 rfl rfl [0, 1, 2, 3, 4, 5, 6, 7, 8] [] (wr := []) rfl (by decide) rfl (by decide) (by decide) rfl rfl (Nat.le_of_ble_eq_true rfl) dX5_readCondition_75 ?_
            rintro _ _ ⟨rfl, rfl⟩
            show gg E _ 4 X 0 0 78 [some (.ref h), some (.int (nI 4)), some (.int (nI 0)), none] [.int (nI 1)] [gO h 5 [.ref tk, .ref dr, .int (nI (j_65 + 1)), .int (ks (j_65 + 1)), .int fk, .int fp], gO tk 8 [.ref c0, .ref c1, .int (nI cn)], gA E c0 601 ks, gA E c1 601 ps, gO dr 4 [.ref a0, .ref a1, .ref a2, .ref a3, .int (nI nr), .int (nI (us + C_65.length))], gA E a0 12 sa, gA E a1 12 sk, gA E a2 13 st, gA E a3 600 (cdW co us C_65)]
            refine g_if_eq (tgt := 85) C dX5_readCondition_78 (by decide) (fun c78 => absurd c78 (by decide)) (fun c78 => ?_)
            refine g_iconst (v := nI 1) C dX5_readCondition_81 (by decide) ?_
            refine g_goto (tgt := 86) C dX5_readCondition_82 (by decide) ?_
            exact g_zret C Rt dX5_readCondition_86 (by decide) (by decide) (by decide) (⟨true, _, _, _, _, _, rfl, rfl, rdQ_ok (by rw [pLv, if_pos (Or.inr c17), if_neg c7, hr_65]; exact if_pos hx) (by omega) (not_end hend b2_65 hx (by decide)) (by omega) rfl rfl⟩)
          · refine g_aload_n C dX5_readCondition_71 rfl ?_
            refine g_sipush (v := nI 1141) C dX5_readCondition_72 (by decide) ?_
            refine g_callV C (c_X5_expect_n E h tk c0 c1 cn dr a0 a1 a2 a3 nr (us + C_65.length) j_65 ks ps sa sk st (cdW co us C_65) fk fp (nI 1141) (by omega) (by omega) (hx)) gX5_readCondition_X5_expect rfl 1 (by decide +kernel) ⟨by decide, by decide⟩ ⟨by decide, by decide⟩ 0 rfl rfl [0, 1, 2, 3, 4, 5, 6, 7, 8] [] (wr := []) rfl (by decide) rfl (by decide) (by decide) rfl rfl (Nat.le_of_ble_eq_true rfl) dX5_readCondition_75 ?_
            rintro _ _ ⟨rfl, rfl⟩
            show gg E _ 4 X 0 0 78 [some (.ref h), some (.int (nI 4)), some (.int (nI 0)), none] [.int (nI 0)] [gO h 5 [.ref tk, .ref dr, .int (nI j_65), .int (ks j_65), .int (nI 1), .int (ps j_65)], gO tk 8 [.ref c0, .ref c1, .int (nI cn)], gA E c0 601 ks, gA E c1 601 ps, gO dr 4 [.ref a0, .ref a1, .ref a2, .ref a3, .int (nI nr), .int (nI (us + C_65.length))], gA E a0 12 sa, gA E a1 12 sk, gA E a2 13 st, gA E a3 600 (cdW co us C_65)]
            refine g_if_eq (tgt := 85) C dX5_readCondition_78 (by decide) (fun c78 => ?_) (fun c78 => absurd c78 (by decide))
            refine g_iconst (v := nI 0) C dX5_readCondition_85 (by decide) ?_
            exact g_zret C Rt dX5_readCondition_86 (by decide) (by decide) (by decide) (⟨false, _, _, _, _, _, rfl, rfl, rdQ_er (by rw [pLv, if_pos (Or.inr c17), if_neg c7, hr_65]; exact if_neg hx) (by omega) b2_65 (by omega) b2_65⟩)
        · refine g_if_eq (tgt := 85) C dX5_readCondition_68 (by decide) (fun c68 => ?_) (fun c68 => absurd c68 (by decide))
          refine g_iconst (v := nI 0) C dX5_readCondition_85 (by decide) ?_
          exact g_zret C Rt dX5_readCondition_86 (by decide) (by decide) (by decide) (⟨false, _, _, _, _, _, rfl, rfl, rdQ_er (by rw [pLv, if_pos (Or.inr c17), if_neg c7, hr_65]; rfl) (by omega) b2_65 (by omega) b4_65⟩)
      · exact absurd c44 c7
    · refine g_aload_n C dX5_readCondition_20 rfl ?_
      refine g_callV C (c_X5_readComparison E h tk c0 c1 cn dr a0 a1 a2 a3 nr us i ks ps sa sk st co fk fp (by omega) (by omega) (hend) (by omega)) gX5_readCondition_X5_readComparison rfl 0 (by decide +kernel) ⟨by decide, by decide⟩ ⟨by decide, by decide⟩ 0 rfl rfl [0, 1, 2, 3, 4, 5, 6, 7, 8] [] (wr := []) rfl (by decide) rfl (by decide) (by decide) rfl rfl (Nat.le_of_ble_eq_true rfl) dX5_readCondition_21 ?_
      rintro _ _ ⟨ok_21, j_21, us2_21, co2_21, fk2_21, fp2_21, rfl, rfl, hq_21⟩
      show gg E _ 4 X 0 0 24 [some (.ref h), some (.int (nI 4)), none, none] [.int (b2i ok_21)] [gO h 5 [.ref tk, .ref dr, .int (nI j_21), .int (ks j_21), .int fk2_21, .int fp2_21], gO tk 8 [.ref c0, .ref c1, .int (nI cn)], gA E c0 601 ks, gA E c1 601 ps, gO dr 4 [.ref a0, .ref a1, .ref a2, .ref a3, .int (nI nr), .int (nI us2_21)], gA E a0 12 sa, gA E a1 12 sk, gA E a2 13 st, gA E a3 600 co2_21]
      exact g_zret C Rt dX5_readCondition_24 (by decide) (by decide) (b2i_01 _) (⟨_, _, _, _, _, _, rfl, rfl, by rw [pLv, if_neg (fun z => z.elim c7 c17)]; exact hq_21⟩)

abbrev rm_c_X5_readBoth_4 : Room := { frames := 16, cells := 0, slots := 0, locals := 364 }
set_option maxHeartbeats 4000000 in
set_option maxRecDepth 100000 in
theorem c_X5_readBoth_4 (E : gE) (h tk c0 c1 cn dr a0 a1 a2 a3 nr us i : Nat) (ks ps sa sk st co : Nat → Int32) (fk fp : Int32) (hi : i < cn) (hcn : cn ≤ 601) (hend : ks (cn - 1) = nI 1011) (hus : us ≤ i) : MM E yX5_readBoth wsX5_readBoth rm_c_X5_readBoth_4 [.ref h, .int (nI 4)] [gO h 5 [.ref tk, .ref dr, .int (nI i), .int (ks i), .int fk, .int fp], gO tk 8 [.ref c0, .ref c1, .int (nI cn)], gA E c0 601 ks, gA E c1 601 ps, gO dr 4 [.ref a0, .ref a1, .ref a2, .ref a3, .int (nI nr), .int (nI us)], gA E a0 12 sa, gA E a1 12 sk, gA E a2 13 st, gA E a3 600 co] (fun rv_ ru_ => ∃ (ok : Bool) (j us2 : Nat) (co2 : Nat → Int32) (fk2 fp2 : Int32), rv_ = some (.int (b2i ok)) ∧ ru_ = [gO h 5 [.ref tk, .ref dr, .int (nI j), .int (ks j), .int fk2, .int fp2], gO tk 8 [.ref c0, .ref c1, .int (nI cn)], gA E c0 601 ks, gA E c1 601 ps, gO dr 4 [.ref a0, .ref a1, .ref a2, .ref a3, .int (nI nr), .int (nI us2)], gA E a0 12 sa, gA E a1 12 sk, gA E a2 13 st, gA E a3 600 co2] ∧ (rdQ (pAll ks (pLv ks 4) i) ps cn i us co fk fp ok j us2 co2 fk2 fp2)) := by
  refine MM.ofG (cc := cX5_readBoth) (maxL := 4) (ret := (some .boolean)) (by decide) rfl (Nat.le_of_ble_eq_true rfl) (ll := [some (.ref h), some (.int (nI 4)), none, none]) rfl ?_
  intro X C Rt
  have C : gx E X cX5_readBoth 4 wsX5_readBoth RX5 := C
  have i_X5 : ∀ w ∈ u_ws RX5 TX5 6, w ∈ wsX5_readBoth := by decide +kernel
  have i_X8 : ∀ w ∈ u_ws RX8 TX8 3, w ∈ wsX5_readBoth := by decide +kernel
  have f_12 : Cond.fieldLink RX5 12 "MarkPages$RuleReader" "tokens" "LMarkPages$Tokens;" ∈ wsX5_readBoth := by decide +kernel
  have f_21 : Cond.fieldLink RX5 21 "MarkPages$RuleReader" "draft" "LMarkPages$RuleBook;" ∈ wsX5_readBoth := by decide +kernel
  have f_25 : Cond.fieldLink RX5 25 "MarkPages$RuleReader" "now" "I" ∈ wsX5_readBoth := by decide +kernel
  have f_76 : Cond.fieldLink RX5 76 "MarkPages$Tokens" "count" "I" ∈ wsX5_readBoth := by decide +kernel
  refine g_aload_n C dX5_readBoth_0 rfl ?_
  refine g_iload_n C dX5_readBoth_1 rfl ?_
  refine g_callV C (c_X5_readCondition_4 E h tk c0 c1 cn dr a0 a1 a2 a3 nr us i ks ps sa sk st co fk fp (by omega) (by omega) (hend) (by omega)) gX5_readBoth_X5_readCondition rfl 1 (by decide +kernel) ⟨by decide, by decide⟩ ⟨by decide, by decide⟩ 0 rfl rfl [0, 1, 2, 3, 4, 5, 6, 7, 8] [] (wr := []) rfl (by decide) rfl (by decide) (by decide) rfl rfl (Nat.le_of_ble_eq_true rfl) dX5_readBoth_2 ?_
  rintro _ _ ⟨ok_2, j_2, us2_2, co2_2, fk2_2, fp2_2, rfl, rfl, hq_2⟩
  show gg E _ 4 X 0 0 5 [some (.ref h), some (.int (nI 4)), none, none] [.int (b2i ok_2)] [gO h 5 [.ref tk, .ref dr, .int (nI j_2), .int (ks j_2), .int fk2_2, .int fp2_2], gO tk 8 [.ref c0, .ref c1, .int (nI cn)], gA E c0 601 ks, gA E c1 601 ps, gO dr 4 [.ref a0, .ref a1, .ref a2, .ref a3, .int (nI nr), .int (nI us2_2)], gA E a0 12 sa, gA E a1 12 sk, gA E a2 13 st, gA E a3 600 co2_2]
  rcases rdQ_tw hq_2 with ⟨C_2, hr_2, rfl, rfl, rfl, rfl, rfl, b1_2, b2_2, b3_2⟩ | ⟨kd_2, ix_2, hr_2, rfl, rfl, rfl, b1_2, b2_2, b3_2, b4_2⟩
  · refine g_istore_n C dX5_readBoth_5 (by decide) rfl (ll' := [some (.ref h), some (.int (nI 4)), some (.int (nI 1)), none]) rfl ?_
    refine g_iconst (v := nI 0) C dX5_readBoth_6 (by decide) ?_
    refine g_istore_n C dX5_readBoth_7 (by decide) rfl (ll' := [some (.ref h), some (.int (nI 4)), some (.int (nI 1)), some (.int (nI 0))]) rfl ?_
    have L8 : ∀ (n8 : Nat) (it j1 f1 : Nat) (C1 : List Int32), cn - j1 < n8 → (j1 < cn) → (i + it ≤ j1) → (f1 + it = 601) → (C1.length + i ≤ j1) → (pAll ks (pLv ks 4) i = lpO ks (nI 1004) (pLv ks 4) f1 j1 C1) → gg E rm_c_X5_readBoth_4 4 X 0 0 8 [some (.ref h), some (.int (nI 4)), some (.int (nI 1)), some (.int (nI it))] [] [gO h 5 [.ref tk, .ref dr, .int (nI j1), .int (ks j1), .int fk, .int fp], gO tk 8 [.ref c0, .ref c1, .int (nI cn)], gA E c0 601 ks, gA E c1 601 ps, gO dr 4 [.ref a0, .ref a1, .ref a2, .ref a3, .int (nI nr), .int (nI (us + C1.length))], gA E a0 12 sa, gA E a1 12 sk, gA E a2 13 st, gA E a3 600 (cdW co us C1)] := by
      intro n8
      induction n8 with
      | zero => intro it j1 f1 C1 hm8; exact absurd hm8 (Nat.not_lt_zero _)
      | succ n8 ih8 =>
        intro it j1 f1 C1 hm8 g1 g2 g3 g4 g5
        refine g_iload_n C dX5_readBoth_8 rfl ?_
        refine g_aload_n C dX5_readBoth_9 rfl ?_
        refine g_get C i_X5 0 0 f_12 rfl rfl (by decide) rfl rfl dX5_readBoth_10 ?_
        refine g_get C i_X8 1 2 f_76 rfl rfl (by decide) rfl rfl dX5_readBoth_13 ?_
        refine g_icmp_ge_n (tgt := 59) C dX5_readBoth_16 (by decide) (by omega) (by omega) (fun c16 => ?_) (fun c16 => ?_)
        · exact absurd c16 (by omega)
        · refine g_iload_n C dX5_readBoth_19 rfl ?_
          refine g_if_eq (tgt := 59) C dX5_readBoth_20 (by decide) (fun c20 => absurd c20 (by decide)) (fun c20 => ?_)
          refine g_aload_n C dX5_readBoth_23 rfl ?_
          refine g_get C i_X5 0 3 f_25 rfl rfl (by decide) rfl rfl dX5_readBoth_24 ?_
          refine g_sipush (v := nI 1004) C dX5_readBoth_27 (by decide) ?_
          refine g_icmp_ne (tgt := 59) C dX5_readBoth_30 (by decide) (fun c30 => ?_) (fun c30 => ?_)
          · refine g_iload_n C dX5_readBoth_59 rfl ?_
            exact g_zret C Rt dX5_readBoth_60 (by decide) (by decide) (by decide) (⟨true, _, _, _, _, _, rfl, rfl, rdQ_ok (by rw [g5, show f1 = f1 - 1 + 1 by omega, lpO, if_neg c30]) (by omega) g1 (by omega) rfl rfl⟩)
          · have hn7 := not_end hend g1 c30 (by decide)
            refine g_aload_n C dX5_readBoth_33 rfl ?_
            refine g_callV C (c_X5_advance E h tk c0 c1 cn dr a0 a1 a2 a3 nr (us + C1.length) j1 ks ps sa sk st (cdW co us C1) fk fp (not_end hend g1 c30 (by decide)) (by omega)) gX5_readBoth_X5_advance rfl 0 (by decide +kernel) ⟨by decide, by decide⟩ ⟨by decide, by decide⟩ 0 rfl rfl [0, 1, 2, 3, 4, 5, 6, 7, 8] [] (wr := []) rfl (by decide) rfl (by decide) (by decide) rfl rfl (Nat.le_of_ble_eq_true rfl) dX5_readBoth_34 ?_
            rintro _ _ ⟨rfl, rfl⟩
            show gg E _ 4 X 0 0 37 [some (.ref h), some (.int (nI 4)), some (.int (nI 1)), some (.int (nI it))] [] [gO h 5 [.ref tk, .ref dr, .int (nI (j1 + 1)), .int (ks (j1 + 1)), .int fk, .int fp], gO tk 8 [.ref c0, .ref c1, .int (nI cn)], gA E c0 601 ks, gA E c1 601 ps, gO dr 4 [.ref a0, .ref a1, .ref a2, .ref a3, .int (nI nr), .int (nI (us + C1.length))], gA E a0 12 sa, gA E a1 12 sk, gA E a2 13 st, gA E a3 600 (cdW co us C1)]
            refine g_aload_n C dX5_readBoth_37 rfl ?_
            refine g_iload_n C dX5_readBoth_38 rfl ?_
            refine g_callV C (c_X5_readCondition_4 E h tk c0 c1 cn dr a0 a1 a2 a3 nr (us + C1.length) (j1 + 1) ks ps sa sk st (cdW co us C1) fk fp (by omega) (by omega) (hend) (by omega)) gX5_readBoth_X5_readCondition rfl 1 (by decide +kernel) ⟨by decide, by decide⟩ ⟨by decide, by decide⟩ 0 rfl rfl [0, 1, 2, 3, 4, 5, 6, 7, 8] [] (wr := []) rfl (by decide) rfl (by decide) (by decide) rfl rfl (Nat.le_of_ble_eq_true rfl) dX5_readBoth_39 ?_
            rintro _ _ ⟨ok_39, j_39, us2_39, co2_39, fk2_39, fp2_39, rfl, rfl, hq_39⟩
            show gg E _ 4 X 0 0 42 [some (.ref h), some (.int (nI 4)), some (.int (nI 1)), some (.int (nI it))] [.int (b2i ok_39)] [gO h 5 [.ref tk, .ref dr, .int (nI j_39), .int (ks j_39), .int fk2_39, .int fp2_39], gO tk 8 [.ref c0, .ref c1, .int (nI cn)], gA E c0 601 ks, gA E c1 601 ps, gO dr 4 [.ref a0, .ref a1, .ref a2, .ref a3, .int (nI nr), .int (nI us2_39)], gA E a0 12 sa, gA E a1 12 sk, gA E a2 13 st, gA E a3 600 co2_39]
            rcases rdQ_tw hq_39 with ⟨C_39, hr_39, rfl, rfl, rfl, rfl, rfl, b1_39, b2_39, b3_39⟩ | ⟨kd_39, ix_39, hr_39, rfl, rfl, rfl, b1_39, b2_39, b3_39, b4_39⟩
            · refine g_istore_n C dX5_readBoth_42 (by decide) rfl (ll' := [some (.ref h), some (.int (nI 4)), some (.int (nI 1)), some (.int (nI it))]) rfl ?_
              refine g_aload_n C dX5_readBoth_43 rfl ?_
              refine g_get C i_X5 0 1 f_21 rfl rfl (by decide) rfl rfl dX5_readBoth_44 ?_
              refine g_sipush (v := nI 1004) C dX5_readBoth_47 (by decide) ?_
              refine g_callV C (c_X4_append E dr a0 a1 a2 a3 nr ((us + C1.length) + C_39.length) sa sk st (cdW (cdW co us C1) (us + C1.length) C_39) (nI 1004) (by omega)) gX5_readBoth_X4_append rfl 1 (by decide +kernel) ⟨by decide, by decide⟩ ⟨by decide, by decide⟩ 4 rfl rfl [4, 5, 6, 7, 8] [0, 1, 2, 3] (wr := [gO h 5 [.ref tk, .ref dr, .int (nI j_39), .int (ks j_39), .int fk, .int fp], gO tk 8 [.ref c0, .ref c1, .int (nI cn)], gA E c0 601 ks, gA E c1 601 ps]) rfl (by decide) rfl (by decide) (by decide) rfl rfl (Nat.le_of_ble_eq_true rfl) dX5_readBoth_50 ?_
              rintro _ _ ⟨rfl, rfl⟩
              show gg E _ 4 X 0 0 53 [some (.ref h), some (.int (nI 4)), some (.int (nI 1)), some (.int (nI it))] [] [gO h 5 [.ref tk, .ref dr, .int (nI j_39), .int (ks j_39), .int fk, .int fp], gO tk 8 [.ref c0, .ref c1, .int (nI cn)], gA E c0 601 ks, gA E c1 601 ps, gO dr 4 [.ref a0, .ref a1, .ref a2, .ref a3, .int (nI nr), .int (nI (((us + C1.length) + C_39.length) + 1))], gA E a0 12 sa, gA E a1 12 sk, gA E a2 13 st, gA E a3 600 (upd (cdW (cdW co us C1) (us + C1.length) C_39) ((us + C1.length) + C_39.length) (nI 1004))]
              rw [ln3 us C1 C_39 (nI 1004), cd3 co us C1 C_39 (nI 1004)]
              refine g_iinc_n (y := 1) C dX5_readBoth_53 rfl (by decide) (by decide) rfl (ll' := [some (.ref h), some (.int (nI 4)), some (.int (nI 1)), some (.int (nI (it + 1)))]) rfl ?_
              refine g_goto (tgt := 8) C dX5_readBoth_56 (by decide) ?_
              exact ih8 (it + 1) j_39 (f1 - 1) (C1 ++ C_39 ++ [nI 1004]) (by omega) (by omega) (by omega) (by omega) (by have := ln3 us C1 C_39 (nI 1004); omega) (by rw [g5, show f1 = f1 - 1 + 1 by omega, lpO, if_pos c30, hr_39]; rfl)
            · refine g_istore_n C dX5_readBoth_42 (by decide) rfl (ll' := [some (.ref h), some (.int (nI 4)), some (.int (nI 0)), some (.int (nI it))]) rfl ?_
              refine g_aload_n C dX5_readBoth_43 rfl ?_
              refine g_get C i_X5 0 1 f_21 rfl rfl (by decide) rfl rfl dX5_readBoth_44 ?_
              refine g_sipush (v := nI 1004) C dX5_readBoth_47 (by decide) ?_
              refine g_callV C (c_X4_append E dr a0 a1 a2 a3 nr us2_39 sa sk st co2_39 (nI 1004) (by omega)) gX5_readBoth_X4_append rfl 1 (by decide +kernel) ⟨by decide, by decide⟩ ⟨by decide, by decide⟩ 4 rfl rfl [4, 5, 6, 7, 8] [0, 1, 2, 3] (wr := [gO h 5 [.ref tk, .ref dr, .int (nI j_39), .int (ks j_39), .int (nI kd_39), .int (ps ix_39)], gO tk 8 [.ref c0, .ref c1, .int (nI cn)], gA E c0 601 ks, gA E c1 601 ps]) rfl (by decide) rfl (by decide) (by decide) rfl rfl (Nat.le_of_ble_eq_true rfl) dX5_readBoth_50 ?_
              rintro _ _ ⟨rfl, rfl⟩
              show gg E _ 4 X 0 0 53 [some (.ref h), some (.int (nI 4)), some (.int (nI 0)), some (.int (nI it))] [] [gO h 5 [.ref tk, .ref dr, .int (nI j_39), .int (ks j_39), .int (nI kd_39), .int (ps ix_39)], gO tk 8 [.ref c0, .ref c1, .int (nI cn)], gA E c0 601 ks, gA E c1 601 ps, gO dr 4 [.ref a0, .ref a1, .ref a2, .ref a3, .int (nI nr), .int (nI (us2_39 + 1))], gA E a0 12 sa, gA E a1 12 sk, gA E a2 13 st, gA E a3 600 (upd co2_39 us2_39 (nI 1004))]
              refine g_iinc_n (y := 1) C dX5_readBoth_53 rfl (by decide) (by decide) rfl (ll' := [some (.ref h), some (.int (nI 4)), some (.int (nI 0)), some (.int (nI (it + 1)))]) rfl ?_
              refine g_goto (tgt := 8) C dX5_readBoth_56 (by decide) ?_
              refine g_iload_n C dX5_readBoth_8 rfl ?_
              refine g_aload_n C dX5_readBoth_9 rfl ?_
              refine g_get C i_X5 0 0 f_12 rfl rfl (by decide) rfl rfl dX5_readBoth_10 ?_
              refine g_get C i_X8 1 2 f_76 rfl rfl (by decide) rfl rfl dX5_readBoth_13 ?_
              refine g_icmp_ge_n (tgt := 59) C dX5_readBoth_16 (by decide) (by omega) (by omega) (fun c16 => ?_) (fun c16 => ?_)
              · refine g_iload_n C dX5_readBoth_59 rfl ?_
                exact g_zret C Rt dX5_readBoth_60 (by decide) (by decide) (by decide) (⟨false, _, _, _, _, _, rfl, rfl, rdQ_er (by rw [g5, show f1 = f1 - 1 + 1 by omega, lpO, if_pos c30, hr_39]) (by omega) b2_39 (by omega) b4_39⟩)
              · refine g_iload_n C dX5_readBoth_19 rfl ?_
                refine g_if_eq (tgt := 59) C dX5_readBoth_20 (by decide) (fun c20 => ?_) (fun c20 => absurd c20 (by decide))
                refine g_iload_n C dX5_readBoth_59 rfl ?_
                exact g_zret C Rt dX5_readBoth_60 (by decide) (by decide) (by decide) (⟨false, _, _, _, _, _, rfl, rfl, rdQ_er (by rw [g5, show f1 = f1 - 1 + 1 by omega, lpO, if_pos c30, hr_39]) (by omega) b2_39 (by omega) b4_39⟩)
    exact L8 _ 0 j_2 601 C_2 (Nat.lt_succ_self _) (by omega) (by omega) (by omega) (by omega) (by rw [pAll, hr_2]; rfl)
  · refine g_istore_n C dX5_readBoth_5 (by decide) rfl (ll' := [some (.ref h), some (.int (nI 4)), some (.int (nI 0)), none]) rfl ?_
    refine g_iconst (v := nI 0) C dX5_readBoth_6 (by decide) ?_
    refine g_istore_n C dX5_readBoth_7 (by decide) rfl (ll' := [some (.ref h), some (.int (nI 4)), some (.int (nI 0)), some (.int (nI 0))]) rfl ?_
    refine g_iload_n C dX5_readBoth_8 rfl ?_
    refine g_aload_n C dX5_readBoth_9 rfl ?_
    refine g_get C i_X5 0 0 f_12 rfl rfl (by decide) rfl rfl dX5_readBoth_10 ?_
    refine g_get C i_X8 1 2 f_76 rfl rfl (by decide) rfl rfl dX5_readBoth_13 ?_
    refine g_icmp_ge_n (tgt := 59) C dX5_readBoth_16 (by decide) (by omega) (by omega) (fun c16 => ?_) (fun c16 => ?_)
    · refine g_iload_n C dX5_readBoth_59 rfl ?_
      exact g_zret C Rt dX5_readBoth_60 (by decide) (by decide) (by decide) (⟨false, _, _, _, _, _, rfl, rfl, rdQ_er (by rw [pAll, hr_2]; rfl) b1_2 b2_2 b3_2 b4_2⟩)
    · refine g_iload_n C dX5_readBoth_19 rfl ?_
      refine g_if_eq (tgt := 59) C dX5_readBoth_20 (by decide) (fun c20 => ?_) (fun c20 => absurd c20 (by decide))
      refine g_iload_n C dX5_readBoth_59 rfl ?_
      exact g_zret C Rt dX5_readBoth_60 (by decide) (by decide) (by decide) (⟨false, _, _, _, _, _, rfl, rfl, rdQ_er (by rw [pAll, hr_2]; rfl) b1_2 b2_2 b3_2 b4_2⟩)

abbrev rm_c_X5_readEither_4 : Room := { frames := 17, cells := 0, slots := 0, locals := 387 }
set_option maxHeartbeats 4000000 in
set_option maxRecDepth 100000 in
theorem c_X5_readEither_4 (E : gE) (h tk c0 c1 cn dr a0 a1 a2 a3 nr us i : Nat) (ks ps sa sk st co : Nat → Int32) (fk fp : Int32) (hi : i < cn) (hcn : cn ≤ 601) (hend : ks (cn - 1) = nI 1011) (hus : us ≤ i) : MM E yX5_readEither wsX5_readEither rm_c_X5_readEither_4 [.ref h, .int (nI 4)] [gO h 5 [.ref tk, .ref dr, .int (nI i), .int (ks i), .int fk, .int fp], gO tk 8 [.ref c0, .ref c1, .int (nI cn)], gA E c0 601 ks, gA E c1 601 ps, gO dr 4 [.ref a0, .ref a1, .ref a2, .ref a3, .int (nI nr), .int (nI us)], gA E a0 12 sa, gA E a1 12 sk, gA E a2 13 st, gA E a3 600 co] (fun rv_ ru_ => ∃ (ok : Bool) (j us2 : Nat) (co2 : Nat → Int32) (fk2 fp2 : Int32), rv_ = some (.int (b2i ok)) ∧ ru_ = [gO h 5 [.ref tk, .ref dr, .int (nI j), .int (ks j), .int fk2, .int fp2], gO tk 8 [.ref c0, .ref c1, .int (nI cn)], gA E c0 601 ks, gA E c1 601 ps, gO dr 4 [.ref a0, .ref a1, .ref a2, .ref a3, .int (nI nr), .int (nI us2)], gA E a0 12 sa, gA E a1 12 sk, gA E a2 13 st, gA E a3 600 co2] ∧ (rdQ (pAny ks (pLv ks 4) i) ps cn i us co fk fp ok j us2 co2 fk2 fp2)) := by
  refine MM.ofG (cc := cX5_readEither) (maxL := 4) (ret := (some .boolean)) (by decide) rfl (Nat.le_of_ble_eq_true rfl) (ll := [some (.ref h), some (.int (nI 4)), none, none]) rfl ?_
  intro X C Rt
  have C : gx E X cX5_readEither 4 wsX5_readEither RX5 := C
  have i_X5 : ∀ w ∈ u_ws RX5 TX5 6, w ∈ wsX5_readEither := by decide +kernel
  have i_X8 : ∀ w ∈ u_ws RX8 TX8 3, w ∈ wsX5_readEither := by decide +kernel
  have f_12 : Cond.fieldLink RX5 12 "MarkPages$RuleReader" "tokens" "LMarkPages$Tokens;" ∈ wsX5_readEither := by decide +kernel
  have f_21 : Cond.fieldLink RX5 21 "MarkPages$RuleReader" "draft" "LMarkPages$RuleBook;" ∈ wsX5_readEither := by decide +kernel
  have f_25 : Cond.fieldLink RX5 25 "MarkPages$RuleReader" "now" "I" ∈ wsX5_readEither := by decide +kernel
  have f_76 : Cond.fieldLink RX5 76 "MarkPages$Tokens" "count" "I" ∈ wsX5_readEither := by decide +kernel
  refine g_aload_n C dX5_readEither_0 rfl ?_
  refine g_iload_n C dX5_readEither_1 rfl ?_
  refine g_callV C (c_X5_readBoth_4 E h tk c0 c1 cn dr a0 a1 a2 a3 nr us i ks ps sa sk st co fk fp (by omega) (by omega) (hend) (by omega)) gX5_readEither_X5_readBoth rfl 1 (by decide +kernel) ⟨by decide, by decide⟩ ⟨by decide, by decide⟩ 0 rfl rfl [0, 1, 2, 3, 4, 5, 6, 7, 8] [] (wr := []) rfl (by decide) rfl (by decide) (by decide) rfl rfl (Nat.le_of_ble_eq_true rfl) dX5_readEither_2 ?_
  rintro _ _ ⟨ok_2, j_2, us2_2, co2_2, fk2_2, fp2_2, rfl, rfl, hq_2⟩
  show gg E _ 4 X 0 0 5 [some (.ref h), some (.int (nI 4)), none, none] [.int (b2i ok_2)] [gO h 5 [.ref tk, .ref dr, .int (nI j_2), .int (ks j_2), .int fk2_2, .int fp2_2], gO tk 8 [.ref c0, .ref c1, .int (nI cn)], gA E c0 601 ks, gA E c1 601 ps, gO dr 4 [.ref a0, .ref a1, .ref a2, .ref a3, .int (nI nr), .int (nI us2_2)], gA E a0 12 sa, gA E a1 12 sk, gA E a2 13 st, gA E a3 600 co2_2]
  rcases rdQ_tw hq_2 with ⟨C_2, hr_2, rfl, rfl, rfl, rfl, rfl, b1_2, b2_2, b3_2⟩ | ⟨kd_2, ix_2, hr_2, rfl, rfl, rfl, b1_2, b2_2, b3_2, b4_2⟩
  · refine g_istore_n C dX5_readEither_5 (by decide) rfl (ll' := [some (.ref h), some (.int (nI 4)), some (.int (nI 1)), none]) rfl ?_
    refine g_iconst (v := nI 0) C dX5_readEither_6 (by decide) ?_
    refine g_istore_n C dX5_readEither_7 (by decide) rfl (ll' := [some (.ref h), some (.int (nI 4)), some (.int (nI 1)), some (.int (nI 0))]) rfl ?_
    have L8 : ∀ (n8 : Nat) (it j1 f1 : Nat) (C1 : List Int32), cn - j1 < n8 → (j1 < cn) → (i + it ≤ j1) → (f1 + it = 601) → (C1.length + i ≤ j1) → (pAny ks (pLv ks 4) i = lpO ks (nI 1003) (pAll ks (pLv ks 4)) f1 j1 C1) → gg E rm_c_X5_readEither_4 4 X 0 0 8 [some (.ref h), some (.int (nI 4)), some (.int (nI 1)), some (.int (nI it))] [] [gO h 5 [.ref tk, .ref dr, .int (nI j1), .int (ks j1), .int fk, .int fp], gO tk 8 [.ref c0, .ref c1, .int (nI cn)], gA E c0 601 ks, gA E c1 601 ps, gO dr 4 [.ref a0, .ref a1, .ref a2, .ref a3, .int (nI nr), .int (nI (us + C1.length))], gA E a0 12 sa, gA E a1 12 sk, gA E a2 13 st, gA E a3 600 (cdW co us C1)] := by
      intro n8
      induction n8 with
      | zero => intro it j1 f1 C1 hm8; exact absurd hm8 (Nat.not_lt_zero _)
      | succ n8 ih8 =>
        intro it j1 f1 C1 hm8 g1 g2 g3 g4 g5
        refine g_iload_n C dX5_readEither_8 rfl ?_
        refine g_aload_n C dX5_readEither_9 rfl ?_
        refine g_get C i_X5 0 0 f_12 rfl rfl (by decide) rfl rfl dX5_readEither_10 ?_
        refine g_get C i_X8 1 2 f_76 rfl rfl (by decide) rfl rfl dX5_readEither_13 ?_
        refine g_icmp_ge_n (tgt := 59) C dX5_readEither_16 (by decide) (by omega) (by omega) (fun c16 => ?_) (fun c16 => ?_)
        · exact absurd c16 (by omega)
        · refine g_iload_n C dX5_readEither_19 rfl ?_
          refine g_if_eq (tgt := 59) C dX5_readEither_20 (by decide) (fun c20 => absurd c20 (by decide)) (fun c20 => ?_)
          refine g_aload_n C dX5_readEither_23 rfl ?_
          refine g_get C i_X5 0 3 f_25 rfl rfl (by decide) rfl rfl dX5_readEither_24 ?_
          refine g_sipush (v := nI 1003) C dX5_readEither_27 (by decide) ?_
          refine g_icmp_ne (tgt := 59) C dX5_readEither_30 (by decide) (fun c30 => ?_) (fun c30 => ?_)
          · refine g_iload_n C dX5_readEither_59 rfl ?_
            exact g_zret C Rt dX5_readEither_60 (by decide) (by decide) (by decide) (⟨true, _, _, _, _, _, rfl, rfl, rdQ_ok (by rw [g5, show f1 = f1 - 1 + 1 by omega, lpO, if_neg c30]) (by omega) g1 (by omega) rfl rfl⟩)
          · have hn7 := not_end hend g1 c30 (by decide)
            refine g_aload_n C dX5_readEither_33 rfl ?_
            refine g_callV C (c_X5_advance E h tk c0 c1 cn dr a0 a1 a2 a3 nr (us + C1.length) j1 ks ps sa sk st (cdW co us C1) fk fp (not_end hend g1 c30 (by decide)) (by omega)) gX5_readEither_X5_advance rfl 0 (by decide +kernel) ⟨by decide, by decide⟩ ⟨by decide, by decide⟩ 0 rfl rfl [0, 1, 2, 3, 4, 5, 6, 7, 8] [] (wr := []) rfl (by decide) rfl (by decide) (by decide) rfl rfl (Nat.le_of_ble_eq_true rfl) dX5_readEither_34 ?_
            rintro _ _ ⟨rfl, rfl⟩
            show gg E _ 4 X 0 0 37 [some (.ref h), some (.int (nI 4)), some (.int (nI 1)), some (.int (nI it))] [] [gO h 5 [.ref tk, .ref dr, .int (nI (j1 + 1)), .int (ks (j1 + 1)), .int fk, .int fp], gO tk 8 [.ref c0, .ref c1, .int (nI cn)], gA E c0 601 ks, gA E c1 601 ps, gO dr 4 [.ref a0, .ref a1, .ref a2, .ref a3, .int (nI nr), .int (nI (us + C1.length))], gA E a0 12 sa, gA E a1 12 sk, gA E a2 13 st, gA E a3 600 (cdW co us C1)]
            refine g_aload_n C dX5_readEither_37 rfl ?_
            refine g_iload_n C dX5_readEither_38 rfl ?_
            refine g_callV C (c_X5_readBoth_4 E h tk c0 c1 cn dr a0 a1 a2 a3 nr (us + C1.length) (j1 + 1) ks ps sa sk st (cdW co us C1) fk fp (by omega) (by omega) (hend) (by omega)) gX5_readEither_X5_readBoth rfl 1 (by decide +kernel) ⟨by decide, by decide⟩ ⟨by decide, by decide⟩ 0 rfl rfl [0, 1, 2, 3, 4, 5, 6, 7, 8] [] (wr := []) rfl (by decide) rfl (by decide) (by decide) rfl rfl (Nat.le_of_ble_eq_true rfl) dX5_readEither_39 ?_
            rintro _ _ ⟨ok_39, j_39, us2_39, co2_39, fk2_39, fp2_39, rfl, rfl, hq_39⟩
            show gg E _ 4 X 0 0 42 [some (.ref h), some (.int (nI 4)), some (.int (nI 1)), some (.int (nI it))] [.int (b2i ok_39)] [gO h 5 [.ref tk, .ref dr, .int (nI j_39), .int (ks j_39), .int fk2_39, .int fp2_39], gO tk 8 [.ref c0, .ref c1, .int (nI cn)], gA E c0 601 ks, gA E c1 601 ps, gO dr 4 [.ref a0, .ref a1, .ref a2, .ref a3, .int (nI nr), .int (nI us2_39)], gA E a0 12 sa, gA E a1 12 sk, gA E a2 13 st, gA E a3 600 co2_39]
            rcases rdQ_tw hq_39 with ⟨C_39, hr_39, rfl, rfl, rfl, rfl, rfl, b1_39, b2_39, b3_39⟩ | ⟨kd_39, ix_39, hr_39, rfl, rfl, rfl, b1_39, b2_39, b3_39, b4_39⟩
            · refine g_istore_n C dX5_readEither_42 (by decide) rfl (ll' := [some (.ref h), some (.int (nI 4)), some (.int (nI 1)), some (.int (nI it))]) rfl ?_
              refine g_aload_n C dX5_readEither_43 rfl ?_
              refine g_get C i_X5 0 1 f_21 rfl rfl (by decide) rfl rfl dX5_readEither_44 ?_
              refine g_sipush (v := nI 1003) C dX5_readEither_47 (by decide) ?_
              refine g_callV C (c_X4_append E dr a0 a1 a2 a3 nr ((us + C1.length) + C_39.length) sa sk st (cdW (cdW co us C1) (us + C1.length) C_39) (nI 1003) (by omega)) gX5_readEither_X4_append rfl 1 (by decide +kernel) ⟨by decide, by decide⟩ ⟨by decide, by decide⟩ 4 rfl rfl [4, 5, 6, 7, 8] [0, 1, 2, 3] (wr := [gO h 5 [.ref tk, .ref dr, .int (nI j_39), .int (ks j_39), .int fk, .int fp], gO tk 8 [.ref c0, .ref c1, .int (nI cn)], gA E c0 601 ks, gA E c1 601 ps]) rfl (by decide) rfl (by decide) (by decide) rfl rfl (Nat.le_of_ble_eq_true rfl) dX5_readEither_50 ?_
              rintro _ _ ⟨rfl, rfl⟩
              show gg E _ 4 X 0 0 53 [some (.ref h), some (.int (nI 4)), some (.int (nI 1)), some (.int (nI it))] [] [gO h 5 [.ref tk, .ref dr, .int (nI j_39), .int (ks j_39), .int fk, .int fp], gO tk 8 [.ref c0, .ref c1, .int (nI cn)], gA E c0 601 ks, gA E c1 601 ps, gO dr 4 [.ref a0, .ref a1, .ref a2, .ref a3, .int (nI nr), .int (nI (((us + C1.length) + C_39.length) + 1))], gA E a0 12 sa, gA E a1 12 sk, gA E a2 13 st, gA E a3 600 (upd (cdW (cdW co us C1) (us + C1.length) C_39) ((us + C1.length) + C_39.length) (nI 1003))]
              rw [ln3 us C1 C_39 (nI 1003), cd3 co us C1 C_39 (nI 1003)]
              refine g_iinc_n (y := 1) C dX5_readEither_53 rfl (by decide) (by decide) rfl (ll' := [some (.ref h), some (.int (nI 4)), some (.int (nI 1)), some (.int (nI (it + 1)))]) rfl ?_
              refine g_goto (tgt := 8) C dX5_readEither_56 (by decide) ?_
              exact ih8 (it + 1) j_39 (f1 - 1) (C1 ++ C_39 ++ [nI 1003]) (by omega) (by omega) (by omega) (by omega) (by have := ln3 us C1 C_39 (nI 1003); omega) (by rw [g5, show f1 = f1 - 1 + 1 by omega, lpO, if_pos c30, hr_39]; rfl)
            · refine g_istore_n C dX5_readEither_42 (by decide) rfl (ll' := [some (.ref h), some (.int (nI 4)), some (.int (nI 0)), some (.int (nI it))]) rfl ?_
              refine g_aload_n C dX5_readEither_43 rfl ?_
              refine g_get C i_X5 0 1 f_21 rfl rfl (by decide) rfl rfl dX5_readEither_44 ?_
              refine g_sipush (v := nI 1003) C dX5_readEither_47 (by decide) ?_
              refine g_callV C (c_X4_append E dr a0 a1 a2 a3 nr us2_39 sa sk st co2_39 (nI 1003) (by omega)) gX5_readEither_X4_append rfl 1 (by decide +kernel) ⟨by decide, by decide⟩ ⟨by decide, by decide⟩ 4 rfl rfl [4, 5, 6, 7, 8] [0, 1, 2, 3] (wr := [gO h 5 [.ref tk, .ref dr, .int (nI j_39), .int (ks j_39), .int (nI kd_39), .int (ps ix_39)], gO tk 8 [.ref c0, .ref c1, .int (nI cn)], gA E c0 601 ks, gA E c1 601 ps]) rfl (by decide) rfl (by decide) (by decide) rfl rfl (Nat.le_of_ble_eq_true rfl) dX5_readEither_50 ?_
              rintro _ _ ⟨rfl, rfl⟩
              show gg E _ 4 X 0 0 53 [some (.ref h), some (.int (nI 4)), some (.int (nI 0)), some (.int (nI it))] [] [gO h 5 [.ref tk, .ref dr, .int (nI j_39), .int (ks j_39), .int (nI kd_39), .int (ps ix_39)], gO tk 8 [.ref c0, .ref c1, .int (nI cn)], gA E c0 601 ks, gA E c1 601 ps, gO dr 4 [.ref a0, .ref a1, .ref a2, .ref a3, .int (nI nr), .int (nI (us2_39 + 1))], gA E a0 12 sa, gA E a1 12 sk, gA E a2 13 st, gA E a3 600 (upd co2_39 us2_39 (nI 1003))]
              refine g_iinc_n (y := 1) C dX5_readEither_53 rfl (by decide) (by decide) rfl (ll' := [some (.ref h), some (.int (nI 4)), some (.int (nI 0)), some (.int (nI (it + 1)))]) rfl ?_
              refine g_goto (tgt := 8) C dX5_readEither_56 (by decide) ?_
              refine g_iload_n C dX5_readEither_8 rfl ?_
              refine g_aload_n C dX5_readEither_9 rfl ?_
              refine g_get C i_X5 0 0 f_12 rfl rfl (by decide) rfl rfl dX5_readEither_10 ?_
              refine g_get C i_X8 1 2 f_76 rfl rfl (by decide) rfl rfl dX5_readEither_13 ?_
              refine g_icmp_ge_n (tgt := 59) C dX5_readEither_16 (by decide) (by omega) (by omega) (fun c16 => ?_) (fun c16 => ?_)
              · refine g_iload_n C dX5_readEither_59 rfl ?_
                exact g_zret C Rt dX5_readEither_60 (by decide) (by decide) (by decide) (⟨false, _, _, _, _, _, rfl, rfl, rdQ_er (by rw [g5, show f1 = f1 - 1 + 1 by omega, lpO, if_pos c30, hr_39]) (by omega) b2_39 (by omega) b4_39⟩)
              · refine g_iload_n C dX5_readEither_19 rfl ?_
                refine g_if_eq (tgt := 59) C dX5_readEither_20 (by decide) (fun c20 => ?_) (fun c20 => absurd c20 (by decide))
                refine g_iload_n C dX5_readEither_59 rfl ?_
                exact g_zret C Rt dX5_readEither_60 (by decide) (by decide) (by decide) (⟨false, _, _, _, _, _, rfl, rfl, rdQ_er (by rw [g5, show f1 = f1 - 1 + 1 by omega, lpO, if_pos c30, hr_39]) (by omega) b2_39 (by omega) b4_39⟩)
    exact L8 _ 0 j_2 601 C_2 (Nat.lt_succ_self _) (by omega) (by omega) (by omega) (by omega) (by rw [pAny, hr_2]; rfl)
  · refine g_istore_n C dX5_readEither_5 (by decide) rfl (ll' := [some (.ref h), some (.int (nI 4)), some (.int (nI 0)), none]) rfl ?_
    refine g_iconst (v := nI 0) C dX5_readEither_6 (by decide) ?_
    refine g_istore_n C dX5_readEither_7 (by decide) rfl (ll' := [some (.ref h), some (.int (nI 4)), some (.int (nI 0)), some (.int (nI 0))]) rfl ?_
    refine g_iload_n C dX5_readEither_8 rfl ?_
    refine g_aload_n C dX5_readEither_9 rfl ?_
    refine g_get C i_X5 0 0 f_12 rfl rfl (by decide) rfl rfl dX5_readEither_10 ?_
    refine g_get C i_X8 1 2 f_76 rfl rfl (by decide) rfl rfl dX5_readEither_13 ?_
    refine g_icmp_ge_n (tgt := 59) C dX5_readEither_16 (by decide) (by omega) (by omega) (fun c16 => ?_) (fun c16 => ?_)
    · refine g_iload_n C dX5_readEither_59 rfl ?_
      exact g_zret C Rt dX5_readEither_60 (by decide) (by decide) (by decide) (⟨false, _, _, _, _, _, rfl, rfl, rdQ_er (by rw [pAny, hr_2]; rfl) b1_2 b2_2 b3_2 b4_2⟩)
    · refine g_iload_n C dX5_readEither_19 rfl ?_
      refine g_if_eq (tgt := 59) C dX5_readEither_20 (by decide) (fun c20 => ?_) (fun c20 => absurd c20 (by decide))
      refine g_iload_n C dX5_readEither_59 rfl ?_
      exact g_zret C Rt dX5_readEither_60 (by decide) (by decide) (by decide) (⟨false, _, _, _, _, _, rfl, rfl, rdQ_er (by rw [pAny, hr_2]; rfl) b1_2 b2_2 b3_2 b4_2⟩)

abbrev rm_c_X5_readCondition_5 : Room := { frames := 18, cells := 0, slots := 0, locals := 410 }
set_option maxHeartbeats 4000000 in
set_option maxRecDepth 100000 in
theorem c_X5_readCondition_5 (E : gE) (h tk c0 c1 cn dr a0 a1 a2 a3 nr us i : Nat) (ks ps sa sk st co : Nat → Int32) (fk fp : Int32) (hi : i < cn) (hcn : cn ≤ 601) (hend : ks (cn - 1) = nI 1011) (hus : us ≤ i) : MM E yX5_readCondition wsX5_readCondition rm_c_X5_readCondition_5 [.ref h, .int (nI 3)] [gO h 5 [.ref tk, .ref dr, .int (nI i), .int (ks i), .int fk, .int fp], gO tk 8 [.ref c0, .ref c1, .int (nI cn)], gA E c0 601 ks, gA E c1 601 ps, gO dr 4 [.ref a0, .ref a1, .ref a2, .ref a3, .int (nI nr), .int (nI us)], gA E a0 12 sa, gA E a1 12 sk, gA E a2 13 st, gA E a3 600 co] (fun rv_ ru_ => ∃ (ok : Bool) (j us2 : Nat) (co2 : Nat → Int32) (fk2 fp2 : Int32), rv_ = some (.int (b2i ok)) ∧ ru_ = [gO h 5 [.ref tk, .ref dr, .int (nI j), .int (ks j), .int fk2, .int fp2], gO tk 8 [.ref c0, .ref c1, .int (nI cn)], gA E c0 601 ks, gA E c1 601 ps, gO dr 4 [.ref a0, .ref a1, .ref a2, .ref a3, .int (nI nr), .int (nI us2)], gA E a0 12 sa, gA E a1 12 sk, gA E a2 13 st, gA E a3 600 co2] ∧ (rdQ (pLv ks 5 i) ps cn i us co fk fp ok j us2 co2 fk2 fp2)) := by
  refine MM.ofG (cc := cX5_readCondition) (maxL := 4) (ret := (some .boolean)) (by decide) rfl (Nat.le_of_ble_eq_true rfl) (ll := [some (.ref h), some (.int (nI 3)), none, none]) rfl ?_
  intro X C Rt
  have C : gx E X cX5_readCondition 4 wsX5_readCondition RX5 := C
  have i_X5 : ∀ w ∈ u_ws RX5 TX5 6, w ∈ wsX5_readCondition := by decide +kernel
  have f_21 : Cond.fieldLink RX5 21 "MarkPages$RuleReader" "draft" "LMarkPages$RuleBook;" ∈ wsX5_readCondition := by decide +kernel
  have f_25 : Cond.fieldLink RX5 25 "MarkPages$RuleReader" "now" "I" ∈ wsX5_readCondition := by decide +kernel
  refine g_aload_n C dX5_readCondition_0 rfl ?_
  refine g_get C i_X5 0 3 f_25 rfl rfl (by decide) rfl rfl dX5_readCondition_1 ?_
  refine g_sipush (v := nI 1005) C dX5_readCondition_4 (by decide) ?_
  refine g_icmp_eq (tgt := 25) C dX5_readCondition_7 (by decide) (fun c7 => ?_) (fun c7 => ?_)
  · refine g_iload_n C dX5_readCondition_25 rfl ?_
    refine g_bipush (v := nI 8) C dX5_readCondition_26 (by decide) ?_
    refine g_icmp_lt (tgt := 37) C dX5_readCondition_28 (by decide) (fun c28 => ?_) (fun c28 => absurd c28 (by decide))
    refine g_aload_n C dX5_readCondition_37 rfl ?_
    refine g_get C i_X5 0 3 f_25 rfl rfl (by decide) rfl rfl dX5_readCondition_38 ?_
    refine g_sipush (v := nI 1005) C dX5_readCondition_41 (by decide) ?_
    refine g_icmp_ne (tgt := 51) C dX5_readCondition_44 (by decide) (fun c44 => ?_) (fun c44 => ?_)
    · exact absurd c7 c44
    · refine g_iconst (v := nI 1) C dX5_readCondition_47 (by decide) ?_
      refine g_goto (tgt := 52) C dX5_readCondition_48 (by decide) ?_
      refine g_istore_n C dX5_readCondition_52 (by decide) rfl (ll' := [some (.ref h), some (.int (nI 3)), some (.int (nI 1)), none]) rfl ?_
      have hn8 := not_end hend hi c7 (by decide)
      refine g_aload_n C dX5_readCondition_53 rfl ?_
      refine g_callV C (c_X5_advance E h tk c0 c1 cn dr a0 a1 a2 a3 nr us i ks ps sa sk st co fk fp (hn8) (by omega)) gX5_readCondition_X5_advance rfl 0 (by decide +kernel) ⟨by decide, by decide⟩ ⟨by decide, by decide⟩ 0 rfl rfl [0, 1, 2, 3, 4, 5, 6, 7, 8] [] (wr := []) rfl (by decide) rfl (by decide) (by decide) rfl rfl (Nat.le_of_ble_eq_true rfl) dX5_readCondition_54 ?_
      rintro _ _ ⟨rfl, rfl⟩
      show gg E _ 4 X 0 0 57 [some (.ref h), some (.int (nI 3)), some (.int (nI 1)), none] [] [gO h 5 [.ref tk, .ref dr, .int (nI (i + 1)), .int (ks (i + 1)), .int fk, .int fp], gO tk 8 [.ref c0, .ref c1, .int (nI cn)], gA E c0 601 ks, gA E c1 601 ps, gO dr 4 [.ref a0, .ref a1, .ref a2, .ref a3, .int (nI nr), .int (nI us)], gA E a0 12 sa, gA E a1 12 sk, gA E a2 13 st, gA E a3 600 co]
      refine g_iload_n C dX5_readCondition_57 rfl ?_
      refine g_if_ne (tgt := 87) C dX5_readCondition_58 (by decide) (fun c58 => ?_) (fun c58 => absurd c58 (by decide))
      refine g_aload_n C dX5_readCondition_87 rfl ?_
      refine g_iload_n C dX5_readCondition_88 rfl ?_
      refine g_iconst (v := nI 1) C dX5_readCondition_89 (by decide) ?_
      refine g_iadd C dX5_readCondition_90 (g_top (x' := nI 4) (by decide) ?_)
      refine g_callV C (c_X5_readCondition_4 E h tk c0 c1 cn dr a0 a1 a2 a3 nr us (i + 1) ks ps sa sk st co fk fp (by omega) (by omega) (hend) (by omega)) gX5_readCondition_X5_readCondition rfl 1 (by decide +kernel) ⟨by decide, by decide⟩ ⟨by decide, by decide⟩ 0 rfl rfl [0, 1, 2, 3, 4, 5, 6, 7, 8] [] (wr := []) rfl (by decide) rfl (by decide) (by decide) rfl rfl (Nat.le_of_ble_eq_true rfl) dX5_readCondition_91 ?_
      rintro _ _ ⟨ok_91, j_91, us2_91, co2_91, fk2_91, fp2_91, rfl, rfl, hq_91⟩
      show gg E _ 4 X 0 0 94 [some (.ref h), some (.int (nI 3)), some (.int (nI 1)), none] [.int (b2i ok_91)] [gO h 5 [.ref tk, .ref dr, .int (nI j_91), .int (ks j_91), .int fk2_91, .int fp2_91], gO tk 8 [.ref c0, .ref c1, .int (nI cn)], gA E c0 601 ks, gA E c1 601 ps, gO dr 4 [.ref a0, .ref a1, .ref a2, .ref a3, .int (nI nr), .int (nI us2_91)], gA E a0 12 sa, gA E a1 12 sk, gA E a2 13 st, gA E a3 600 co2_91]
      rcases rdQ_tw hq_91 with ⟨C_91, hr_91, rfl, rfl, rfl, rfl, rfl, b1_91, b2_91, b3_91⟩ | ⟨kd_91, ix_91, hr_91, rfl, rfl, rfl, b1_91, b2_91, b3_91, b4_91⟩
      · refine g_istore_n C dX5_readCondition_94 (by decide) rfl (ll' := [some (.ref h), some (.int (nI 3)), some (.int (nI 1)), some (.int (nI 1))]) rfl ?_
        refine g_aload_n C dX5_readCondition_95 rfl ?_
        refine g_get C i_X5 0 1 f_21 rfl rfl (by decide) rfl rfl dX5_readCondition_96 ?_
        refine g_sipush (v := nI 1005) C dX5_readCondition_99 (by decide) ?_
        refine g_callV C (c_X4_append E dr a0 a1 a2 a3 nr (us + C_91.length) sa sk st (cdW co us C_91) (nI 1005) (by omega)) gX5_readCondition_X4_append rfl 1 (by decide +kernel) ⟨by decide, by decide⟩ ⟨by decide, by decide⟩ 4 rfl rfl [4, 5, 6, 7, 8] [0, 1, 2, 3] (wr := [gO h 5 [.ref tk, .ref dr, .int (nI j_91), .int (ks j_91), .int fk, .int fp], gO tk 8 [.ref c0, .ref c1, .int (nI cn)], gA E c0 601 ks, gA E c1 601 ps]) rfl (by decide) rfl (by decide) (by decide) rfl rfl (Nat.le_of_ble_eq_true rfl) dX5_readCondition_102 ?_
        rintro _ _ ⟨rfl, rfl⟩
        show gg E _ 4 X 0 0 105 [some (.ref h), some (.int (nI 3)), some (.int (nI 1)), some (.int (nI 1))] [] [gO h 5 [.ref tk, .ref dr, .int (nI j_91), .int (ks j_91), .int fk, .int fp], gO tk 8 [.ref c0, .ref c1, .int (nI cn)], gA E c0 601 ks, gA E c1 601 ps, gO dr 4 [.ref a0, .ref a1, .ref a2, .ref a3, .int (nI nr), .int (nI ((us + C_91.length) + 1))], gA E a0 12 sa, gA E a1 12 sk, gA E a2 13 st, gA E a3 600 (upd (cdW co us C_91) (us + C_91.length) (nI 1005))]
        refine g_iload_n C dX5_readCondition_105 rfl ?_
        exact g_zret C Rt dX5_readCondition_106 (by decide) (by decide) (by decide) (⟨true, _, _, _, _, _, rfl, rfl, rdQ_ok (by rw [pLv, if_pos (Or.inl c7), if_pos c7, hr_91]; rfl) (by omega) b2_91 (by omega) (ln2 _ _ _) (cdW_snoc _ _ _ _).symm⟩)
      · refine g_istore_n C dX5_readCondition_94 (by decide) rfl (ll' := [some (.ref h), some (.int (nI 3)), some (.int (nI 1)), some (.int (nI 0))]) rfl ?_
        refine g_aload_n C dX5_readCondition_95 rfl ?_
        refine g_get C i_X5 0 1 f_21 rfl rfl (by decide) rfl rfl dX5_readCondition_96 ?_
        refine g_sipush (v := nI 1005) C dX5_readCondition_99 (by decide) ?_
        refine g_callV C (c_X4_append E dr a0 a1 a2 a3 nr us2_91 sa sk st co2_91 (nI 1005) (by omega)) gX5_readCondition_X4_append rfl 1 (by decide +kernel) ⟨by decide, by decide⟩ ⟨by decide, by decide⟩ 4 rfl rfl [4, 5, 6, 7, 8] [0, 1, 2, 3] (wr := [gO h 5 [.ref tk, .ref dr, .int (nI j_91), .int (ks j_91), .int (nI kd_91), .int (ps ix_91)], gO tk 8 [.ref c0, .ref c1, .int (nI cn)], gA E c0 601 ks, gA E c1 601 ps]) rfl (by decide) rfl (by decide) (by decide) rfl rfl (Nat.le_of_ble_eq_true rfl) dX5_readCondition_102 ?_
        rintro _ _ ⟨rfl, rfl⟩
        show gg E _ 4 X 0 0 105 [some (.ref h), some (.int (nI 3)), some (.int (nI 1)), some (.int (nI 0))] [] [gO h 5 [.ref tk, .ref dr, .int (nI j_91), .int (ks j_91), .int (nI kd_91), .int (ps ix_91)], gO tk 8 [.ref c0, .ref c1, .int (nI cn)], gA E c0 601 ks, gA E c1 601 ps, gO dr 4 [.ref a0, .ref a1, .ref a2, .ref a3, .int (nI nr), .int (nI (us2_91 + 1))], gA E a0 12 sa, gA E a1 12 sk, gA E a2 13 st, gA E a3 600 (upd co2_91 us2_91 (nI 1005))]
        refine g_iload_n C dX5_readCondition_105 rfl ?_
        exact g_zret C Rt dX5_readCondition_106 (by decide) (by decide) (by decide) (⟨false, _, _, _, _, _, rfl, rfl, rdQ_er (by rw [pLv, if_pos (Or.inl c7), if_pos c7, hr_91]; rfl) (by omega) b2_91 (by omega) b4_91⟩)
  · refine g_aload_n C dX5_readCondition_10 rfl ?_
    refine g_get C i_X5 0 3 f_25 rfl rfl (by decide) rfl rfl dX5_readCondition_11 ?_
    refine g_sipush (v := nI 1140) C dX5_readCondition_14 (by decide) ?_
    refine g_icmp_eq (tgt := 25) C dX5_readCondition_17 (by decide) (fun c17 => ?_) (fun c17 => ?_)
    · refine g_iload_n C dX5_readCondition_25 rfl ?_
      refine g_bipush (v := nI 8) C dX5_readCondition_26 (by decide) ?_
      refine g_icmp_lt (tgt := 37) C dX5_readCondition_28 (by decide) (fun c28 => ?_) (fun c28 => absurd c28 (by decide))
      refine g_aload_n C dX5_readCondition_37 rfl ?_
      refine g_get C i_X5 0 3 f_25 rfl rfl (by decide) rfl rfl dX5_readCondition_38 ?_
      refine g_sipush (v := nI 1005) C dX5_readCondition_41 (by decide) ?_
      refine g_icmp_ne (tgt := 51) C dX5_readCondition_44 (by decide) (fun c44 => ?_) (fun c44 => ?_)
      · refine g_iconst (v := nI 0) C dX5_readCondition_51 (by decide) ?_
        refine g_istore_n C dX5_readCondition_52 (by decide) rfl (ll' := [some (.ref h), some (.int (nI 3)), some (.int (nI 0)), none]) rfl ?_
        have hn8 := not_end hend hi c17 (by decide)
        refine g_aload_n C dX5_readCondition_53 rfl ?_
        refine g_callV C (c_X5_advance E h tk c0 c1 cn dr a0 a1 a2 a3 nr us i ks ps sa sk st co fk fp (hn8) (by omega)) gX5_readCondition_X5_advance rfl 0 (by decide +kernel) ⟨by decide, by decide⟩ ⟨by decide, by decide⟩ 0 rfl rfl [0, 1, 2, 3, 4, 5, 6, 7, 8] [] (wr := []) rfl (by decide) rfl (by decide) (by decide) rfl rfl (Nat.le_of_ble_eq_true rfl) dX5_readCondition_54 ?_
        rintro _ _ ⟨rfl, rfl⟩
        show gg E _ 4 X 0 0 57 [some (.ref h), some (.int (nI 3)), some (.int (nI 0)), none] [] [gO h 5 [.ref tk, .ref dr, .int (nI (i + 1)), .int (ks (i + 1)), .int fk, .int fp], gO tk 8 [.ref c0, .ref c1, .int (nI cn)], gA E c0 601 ks, gA E c1 601 ps, gO dr 4 [.ref a0, .ref a1, .ref a2, .ref a3, .int (nI nr), .int (nI us)], gA E a0 12 sa, gA E a1 12 sk, gA E a2 13 st, gA E a3 600 co]
        refine g_iload_n C dX5_readCondition_57 rfl ?_
        refine g_if_ne (tgt := 87) C dX5_readCondition_58 (by decide) (fun c58 => absurd c58 (by decide)) (fun c58 => ?_)
        refine g_aload_n C dX5_readCondition_61 rfl ?_
        refine g_iload_n C dX5_readCondition_62 rfl ?_
        refine g_iconst (v := nI 1) C dX5_readCondition_63 (by decide) ?_
        refine g_iadd C dX5_readCondition_64 (g_top (x' := nI 4) (by decide) ?_)
        refine g_callV C (c_X5_readEither_4 E h tk c0 c1 cn dr a0 a1 a2 a3 nr us (i + 1) ks ps sa sk st co fk fp (by omega) (by omega) (hend) (by omega)) gX5_readCondition_X5_readEither rfl 1 (by decide +kernel) ⟨by decide, by decide⟩ ⟨by decide, by decide⟩ 0 rfl rfl [0, 1, 2, 3, 4, 5, 6, 7, 8] [] (wr := []) rfl (by decide) rfl (by decide) (by decide) rfl rfl (Nat.le_of_ble_eq_true rfl) dX5_readCondition_65 ?_
        rintro _ _ ⟨ok_65, j_65, us2_65, co2_65, fk2_65, fp2_65, rfl, rfl, hq_65⟩
        show gg E _ 4 X 0 0 68 [some (.ref h), some (.int (nI 3)), some (.int (nI 0)), none] [.int (b2i ok_65)] [gO h 5 [.ref tk, .ref dr, .int (nI j_65), .int (ks j_65), .int fk2_65, .int fp2_65], gO tk 8 [.ref c0, .ref c1, .int (nI cn)], gA E c0 601 ks, gA E c1 601 ps, gO dr 4 [.ref a0, .ref a1, .ref a2, .ref a3, .int (nI nr), .int (nI us2_65)], gA E a0 12 sa, gA E a1 12 sk, gA E a2 13 st, gA E a3 600 co2_65]
        rcases rdQ_tw hq_65 with ⟨C_65, hr_65, rfl, rfl, rfl, rfl, rfl, b1_65, b2_65, b3_65⟩ | ⟨kd_65, ix_65, hr_65, rfl, rfl, rfl, b1_65, b2_65, b3_65, b4_65⟩
        · refine g_if_eq (tgt := 85) C dX5_readCondition_68 (by decide) (fun c68 => absurd c68 (by decide)) (fun c68 => ?_)
          rcases Classical.em (ks j_65 = nI 1141) with hx | hx
          · refine g_aload_n C dX5_readCondition_71 rfl ?_
            refine g_sipush (v := nI 1141) C dX5_readCondition_72 (by decide) ?_
            refine g_callV C (c_X5_expect_y E h tk c0 c1 cn dr a0 a1 a2 a3 nr (us + C_65.length) j_65 ks ps sa sk st (cdW co us C_65) fk fp (nI 1141) (by omega) (by omega) (hend) (hx) (by decide)) gX5_readCondition_X5_expect rfl 1 (by decide +kernel) ⟨by decide, by decide⟩ ⟨by decide, by decide⟩ 0 rfl rfl [0, 1, 2, 3, 4, 5, 6, 7, 8] [] (wr := []) rfl (by decide) rfl (by decide) (by decide) rfl rfl (Nat.le_of_ble_eq_true rfl) dX5_readCondition_75 ?_
            rintro _ _ ⟨rfl, rfl⟩
            show gg E _ 4 X 0 0 78 [some (.ref h), some (.int (nI 3)), some (.int (nI 0)), none] [.int (nI 1)] [gO h 5 [.ref tk, .ref dr, .int (nI (j_65 + 1)), .int (ks (j_65 + 1)), .int fk, .int fp], gO tk 8 [.ref c0, .ref c1, .int (nI cn)], gA E c0 601 ks, gA E c1 601 ps, gO dr 4 [.ref a0, .ref a1, .ref a2, .ref a3, .int (nI nr), .int (nI (us + C_65.length))], gA E a0 12 sa, gA E a1 12 sk, gA E a2 13 st, gA E a3 600 (cdW co us C_65)]
            refine g_if_eq (tgt := 85) C dX5_readCondition_78 (by decide) (fun c78 => absurd c78 (by decide)) (fun c78 => ?_)
            refine g_iconst (v := nI 1) C dX5_readCondition_81 (by decide) ?_
            refine g_goto (tgt := 86) C dX5_readCondition_82 (by decide) ?_
            exact g_zret C Rt dX5_readCondition_86 (by decide) (by decide) (by decide) (⟨true, _, _, _, _, _, rfl, rfl, rdQ_ok (by rw [pLv, if_pos (Or.inr c17), if_neg c7, hr_65]; exact if_pos hx) (by omega) (not_end hend b2_65 hx (by decide)) (by omega) rfl rfl⟩)
          · refine g_aload_n C dX5_readCondition_71 rfl ?_
            refine g_sipush (v := nI 1141) C dX5_readCondition_72 (by decide) ?_
            refine g_callV C (c_X5_expect_n E h tk c0 c1 cn dr a0 a1 a2 a3 nr (us + C_65.length) j_65 ks ps sa sk st (cdW co us C_65) fk fp (nI 1141) (by omega) (by omega) (hx)) gX5_readCondition_X5_expect rfl 1 (by decide +kernel) ⟨by decide, by decide⟩ ⟨by decide, by decide⟩ 0 rfl rfl [0, 1, 2, 3, 4, 5, 6, 7, 8] [] (wr := []) rfl (by decide) rfl (by decide) (by decide) rfl rfl (Nat.le_of_ble_eq_true rfl) dX5_readCondition_75 ?_
            rintro _ _ ⟨rfl, rfl⟩
            show gg E _ 4 X 0 0 78 [some (.ref h), some (.int (nI 3)), some (.int (nI 0)), none] [.int (nI 0)] [gO h 5 [.ref tk, .ref dr, .int (nI j_65), .int (ks j_65), .int (nI 1), .int (ps j_65)], gO tk 8 [.ref c0, .ref c1, .int (nI cn)], gA E c0 601 ks, gA E c1 601 ps, gO dr 4 [.ref a0, .ref a1, .ref a2, .ref a3, .int (nI nr), .int (nI (us + C_65.length))], gA E a0 12 sa, gA E a1 12 sk, gA E a2 13 st, gA E a3 600 (cdW co us C_65)]
            refine g_if_eq (tgt := 85) C dX5_readCondition_78 (by decide) (fun c78 => ?_) (fun c78 => absurd c78 (by decide))
            refine g_iconst (v := nI 0) C dX5_readCondition_85 (by decide) ?_
            exact g_zret C Rt dX5_readCondition_86 (by decide) (by decide) (by decide) (⟨false, _, _, _, _, _, rfl, rfl, rdQ_er (by rw [pLv, if_pos (Or.inr c17), if_neg c7, hr_65]; exact if_neg hx) (by omega) b2_65 (by omega) b2_65⟩)
        · refine g_if_eq (tgt := 85) C dX5_readCondition_68 (by decide) (fun c68 => ?_) (fun c68 => absurd c68 (by decide))
          refine g_iconst (v := nI 0) C dX5_readCondition_85 (by decide) ?_
          exact g_zret C Rt dX5_readCondition_86 (by decide) (by decide) (by decide) (⟨false, _, _, _, _, _, rfl, rfl, rdQ_er (by rw [pLv, if_pos (Or.inr c17), if_neg c7, hr_65]; rfl) (by omega) b2_65 (by omega) b4_65⟩)
      · exact absurd c44 c7
    · refine g_aload_n C dX5_readCondition_20 rfl ?_
      refine g_callV C (c_X5_readComparison E h tk c0 c1 cn dr a0 a1 a2 a3 nr us i ks ps sa sk st co fk fp (by omega) (by omega) (hend) (by omega)) gX5_readCondition_X5_readComparison rfl 0 (by decide +kernel) ⟨by decide, by decide⟩ ⟨by decide, by decide⟩ 0 rfl rfl [0, 1, 2, 3, 4, 5, 6, 7, 8] [] (wr := []) rfl (by decide) rfl (by decide) (by decide) rfl rfl (Nat.le_of_ble_eq_true rfl) dX5_readCondition_21 ?_
      rintro _ _ ⟨ok_21, j_21, us2_21, co2_21, fk2_21, fp2_21, rfl, rfl, hq_21⟩
      show gg E _ 4 X 0 0 24 [some (.ref h), some (.int (nI 3)), none, none] [.int (b2i ok_21)] [gO h 5 [.ref tk, .ref dr, .int (nI j_21), .int (ks j_21), .int fk2_21, .int fp2_21], gO tk 8 [.ref c0, .ref c1, .int (nI cn)], gA E c0 601 ks, gA E c1 601 ps, gO dr 4 [.ref a0, .ref a1, .ref a2, .ref a3, .int (nI nr), .int (nI us2_21)], gA E a0 12 sa, gA E a1 12 sk, gA E a2 13 st, gA E a3 600 co2_21]
      exact g_zret C Rt dX5_readCondition_24 (by decide) (by decide) (b2i_01 _) (⟨_, _, _, _, _, _, rfl, rfl, by rw [pLv, if_neg (fun z => z.elim c7 c17)]; exact hq_21⟩)

abbrev rm_c_X5_readBoth_5 : Room := { frames := 19, cells := 0, slots := 0, locals := 433 }
set_option maxHeartbeats 4000000 in
set_option maxRecDepth 100000 in
theorem c_X5_readBoth_5 (E : gE) (h tk c0 c1 cn dr a0 a1 a2 a3 nr us i : Nat) (ks ps sa sk st co : Nat → Int32) (fk fp : Int32) (hi : i < cn) (hcn : cn ≤ 601) (hend : ks (cn - 1) = nI 1011) (hus : us ≤ i) : MM E yX5_readBoth wsX5_readBoth rm_c_X5_readBoth_5 [.ref h, .int (nI 3)] [gO h 5 [.ref tk, .ref dr, .int (nI i), .int (ks i), .int fk, .int fp], gO tk 8 [.ref c0, .ref c1, .int (nI cn)], gA E c0 601 ks, gA E c1 601 ps, gO dr 4 [.ref a0, .ref a1, .ref a2, .ref a3, .int (nI nr), .int (nI us)], gA E a0 12 sa, gA E a1 12 sk, gA E a2 13 st, gA E a3 600 co] (fun rv_ ru_ => ∃ (ok : Bool) (j us2 : Nat) (co2 : Nat → Int32) (fk2 fp2 : Int32), rv_ = some (.int (b2i ok)) ∧ ru_ = [gO h 5 [.ref tk, .ref dr, .int (nI j), .int (ks j), .int fk2, .int fp2], gO tk 8 [.ref c0, .ref c1, .int (nI cn)], gA E c0 601 ks, gA E c1 601 ps, gO dr 4 [.ref a0, .ref a1, .ref a2, .ref a3, .int (nI nr), .int (nI us2)], gA E a0 12 sa, gA E a1 12 sk, gA E a2 13 st, gA E a3 600 co2] ∧ (rdQ (pAll ks (pLv ks 5) i) ps cn i us co fk fp ok j us2 co2 fk2 fp2)) := by
  refine MM.ofG (cc := cX5_readBoth) (maxL := 4) (ret := (some .boolean)) (by decide) rfl (Nat.le_of_ble_eq_true rfl) (ll := [some (.ref h), some (.int (nI 3)), none, none]) rfl ?_
  intro X C Rt
  have C : gx E X cX5_readBoth 4 wsX5_readBoth RX5 := C
  have i_X5 : ∀ w ∈ u_ws RX5 TX5 6, w ∈ wsX5_readBoth := by decide +kernel
  have i_X8 : ∀ w ∈ u_ws RX8 TX8 3, w ∈ wsX5_readBoth := by decide +kernel
  have f_12 : Cond.fieldLink RX5 12 "MarkPages$RuleReader" "tokens" "LMarkPages$Tokens;" ∈ wsX5_readBoth := by decide +kernel
  have f_21 : Cond.fieldLink RX5 21 "MarkPages$RuleReader" "draft" "LMarkPages$RuleBook;" ∈ wsX5_readBoth := by decide +kernel
  have f_25 : Cond.fieldLink RX5 25 "MarkPages$RuleReader" "now" "I" ∈ wsX5_readBoth := by decide +kernel
  have f_76 : Cond.fieldLink RX5 76 "MarkPages$Tokens" "count" "I" ∈ wsX5_readBoth := by decide +kernel
  refine g_aload_n C dX5_readBoth_0 rfl ?_
  refine g_iload_n C dX5_readBoth_1 rfl ?_
  refine g_callV C (c_X5_readCondition_5 E h tk c0 c1 cn dr a0 a1 a2 a3 nr us i ks ps sa sk st co fk fp (by omega) (by omega) (hend) (by omega)) gX5_readBoth_X5_readCondition rfl 1 (by decide +kernel) ⟨by decide, by decide⟩ ⟨by decide, by decide⟩ 0 rfl rfl [0, 1, 2, 3, 4, 5, 6, 7, 8] [] (wr := []) rfl (by decide) rfl (by decide) (by decide) rfl rfl (Nat.le_of_ble_eq_true rfl) dX5_readBoth_2 ?_
  rintro _ _ ⟨ok_2, j_2, us2_2, co2_2, fk2_2, fp2_2, rfl, rfl, hq_2⟩
  show gg E _ 4 X 0 0 5 [some (.ref h), some (.int (nI 3)), none, none] [.int (b2i ok_2)] [gO h 5 [.ref tk, .ref dr, .int (nI j_2), .int (ks j_2), .int fk2_2, .int fp2_2], gO tk 8 [.ref c0, .ref c1, .int (nI cn)], gA E c0 601 ks, gA E c1 601 ps, gO dr 4 [.ref a0, .ref a1, .ref a2, .ref a3, .int (nI nr), .int (nI us2_2)], gA E a0 12 sa, gA E a1 12 sk, gA E a2 13 st, gA E a3 600 co2_2]
  rcases rdQ_tw hq_2 with ⟨C_2, hr_2, rfl, rfl, rfl, rfl, rfl, b1_2, b2_2, b3_2⟩ | ⟨kd_2, ix_2, hr_2, rfl, rfl, rfl, b1_2, b2_2, b3_2, b4_2⟩
  · refine g_istore_n C dX5_readBoth_5 (by decide) rfl (ll' := [some (.ref h), some (.int (nI 3)), some (.int (nI 1)), none]) rfl ?_
    refine g_iconst (v := nI 0) C dX5_readBoth_6 (by decide) ?_
    refine g_istore_n C dX5_readBoth_7 (by decide) rfl (ll' := [some (.ref h), some (.int (nI 3)), some (.int (nI 1)), some (.int (nI 0))]) rfl ?_
    have L8 : ∀ (n8 : Nat) (it j1 f1 : Nat) (C1 : List Int32), cn - j1 < n8 → (j1 < cn) → (i + it ≤ j1) → (f1 + it = 601) → (C1.length + i ≤ j1) → (pAll ks (pLv ks 5) i = lpO ks (nI 1004) (pLv ks 5) f1 j1 C1) → gg E rm_c_X5_readBoth_5 4 X 0 0 8 [some (.ref h), some (.int (nI 3)), some (.int (nI 1)), some (.int (nI it))] [] [gO h 5 [.ref tk, .ref dr, .int (nI j1), .int (ks j1), .int fk, .int fp], gO tk 8 [.ref c0, .ref c1, .int (nI cn)], gA E c0 601 ks, gA E c1 601 ps, gO dr 4 [.ref a0, .ref a1, .ref a2, .ref a3, .int (nI nr), .int (nI (us + C1.length))], gA E a0 12 sa, gA E a1 12 sk, gA E a2 13 st, gA E a3 600 (cdW co us C1)] := by
      intro n8
      induction n8 with
      | zero => intro it j1 f1 C1 hm8; exact absurd hm8 (Nat.not_lt_zero _)
      | succ n8 ih8 =>
        intro it j1 f1 C1 hm8 g1 g2 g3 g4 g5
        refine g_iload_n C dX5_readBoth_8 rfl ?_
        refine g_aload_n C dX5_readBoth_9 rfl ?_
        refine g_get C i_X5 0 0 f_12 rfl rfl (by decide) rfl rfl dX5_readBoth_10 ?_
        refine g_get C i_X8 1 2 f_76 rfl rfl (by decide) rfl rfl dX5_readBoth_13 ?_
        refine g_icmp_ge_n (tgt := 59) C dX5_readBoth_16 (by decide) (by omega) (by omega) (fun c16 => ?_) (fun c16 => ?_)
        · exact absurd c16 (by omega)
        · refine g_iload_n C dX5_readBoth_19 rfl ?_
          refine g_if_eq (tgt := 59) C dX5_readBoth_20 (by decide) (fun c20 => absurd c20 (by decide)) (fun c20 => ?_)
          refine g_aload_n C dX5_readBoth_23 rfl ?_
          refine g_get C i_X5 0 3 f_25 rfl rfl (by decide) rfl rfl dX5_readBoth_24 ?_
          refine g_sipush (v := nI 1004) C dX5_readBoth_27 (by decide) ?_
          refine g_icmp_ne (tgt := 59) C dX5_readBoth_30 (by decide) (fun c30 => ?_) (fun c30 => ?_)
          · refine g_iload_n C dX5_readBoth_59 rfl ?_
            exact g_zret C Rt dX5_readBoth_60 (by decide) (by decide) (by decide) (⟨true, _, _, _, _, _, rfl, rfl, rdQ_ok (by rw [g5, show f1 = f1 - 1 + 1 by omega, lpO, if_neg c30]) (by omega) g1 (by omega) rfl rfl⟩)
          · have hn7 := not_end hend g1 c30 (by decide)
            refine g_aload_n C dX5_readBoth_33 rfl ?_
            refine g_callV C (c_X5_advance E h tk c0 c1 cn dr a0 a1 a2 a3 nr (us + C1.length) j1 ks ps sa sk st (cdW co us C1) fk fp (not_end hend g1 c30 (by decide)) (by omega)) gX5_readBoth_X5_advance rfl 0 (by decide +kernel) ⟨by decide, by decide⟩ ⟨by decide, by decide⟩ 0 rfl rfl [0, 1, 2, 3, 4, 5, 6, 7, 8] [] (wr := []) rfl (by decide) rfl (by decide) (by decide) rfl rfl (Nat.le_of_ble_eq_true rfl) dX5_readBoth_34 ?_
            rintro _ _ ⟨rfl, rfl⟩
            show gg E _ 4 X 0 0 37 [some (.ref h), some (.int (nI 3)), some (.int (nI 1)), some (.int (nI it))] [] [gO h 5 [.ref tk, .ref dr, .int (nI (j1 + 1)), .int (ks (j1 + 1)), .int fk, .int fp], gO tk 8 [.ref c0, .ref c1, .int (nI cn)], gA E c0 601 ks, gA E c1 601 ps, gO dr 4 [.ref a0, .ref a1, .ref a2, .ref a3, .int (nI nr), .int (nI (us + C1.length))], gA E a0 12 sa, gA E a1 12 sk, gA E a2 13 st, gA E a3 600 (cdW co us C1)]
            refine g_aload_n C dX5_readBoth_37 rfl ?_
            refine g_iload_n C dX5_readBoth_38 rfl ?_
            refine g_callV C (c_X5_readCondition_5 E h tk c0 c1 cn dr a0 a1 a2 a3 nr (us + C1.length) (j1 + 1) ks ps sa sk st (cdW co us C1) fk fp (by omega) (by omega) (hend) (by omega)) gX5_readBoth_X5_readCondition rfl 1 (by decide +kernel) ⟨by decide, by decide⟩ ⟨by decide, by decide⟩ 0 rfl rfl [0, 1, 2, 3, 4, 5, 6, 7, 8] [] (wr := []) rfl (by decide) rfl (by decide) (by decide) rfl rfl (Nat.le_of_ble_eq_true rfl) dX5_readBoth_39 ?_
            rintro _ _ ⟨ok_39, j_39, us2_39, co2_39, fk2_39, fp2_39, rfl, rfl, hq_39⟩
            show gg E _ 4 X 0 0 42 [some (.ref h), some (.int (nI 3)), some (.int (nI 1)), some (.int (nI it))] [.int (b2i ok_39)] [gO h 5 [.ref tk, .ref dr, .int (nI j_39), .int (ks j_39), .int fk2_39, .int fp2_39], gO tk 8 [.ref c0, .ref c1, .int (nI cn)], gA E c0 601 ks, gA E c1 601 ps, gO dr 4 [.ref a0, .ref a1, .ref a2, .ref a3, .int (nI nr), .int (nI us2_39)], gA E a0 12 sa, gA E a1 12 sk, gA E a2 13 st, gA E a3 600 co2_39]
            rcases rdQ_tw hq_39 with ⟨C_39, hr_39, rfl, rfl, rfl, rfl, rfl, b1_39, b2_39, b3_39⟩ | ⟨kd_39, ix_39, hr_39, rfl, rfl, rfl, b1_39, b2_39, b3_39, b4_39⟩
            · refine g_istore_n C dX5_readBoth_42 (by decide) rfl (ll' := [some (.ref h), some (.int (nI 3)), some (.int (nI 1)), some (.int (nI it))]) rfl ?_
              refine g_aload_n C dX5_readBoth_43 rfl ?_
              refine g_get C i_X5 0 1 f_21 rfl rfl (by decide) rfl rfl dX5_readBoth_44 ?_
              refine g_sipush (v := nI 1004) C dX5_readBoth_47 (by decide) ?_
              refine g_callV C (c_X4_append E dr a0 a1 a2 a3 nr ((us + C1.length) + C_39.length) sa sk st (cdW (cdW co us C1) (us + C1.length) C_39) (nI 1004) (by omega)) gX5_readBoth_X4_append rfl 1 (by decide +kernel) ⟨by decide, by decide⟩ ⟨by decide, by decide⟩ 4 rfl rfl [4, 5, 6, 7, 8] [0, 1, 2, 3] (wr := [gO h 5 [.ref tk, .ref dr, .int (nI j_39), .int (ks j_39), .int fk, .int fp], gO tk 8 [.ref c0, .ref c1, .int (nI cn)], gA E c0 601 ks, gA E c1 601 ps]) rfl (by decide) rfl (by decide) (by decide) rfl rfl (Nat.le_of_ble_eq_true rfl) dX5_readBoth_50 ?_
              rintro _ _ ⟨rfl, rfl⟩
              show gg E _ 4 X 0 0 53 [some (.ref h), some (.int (nI 3)), some (.int (nI 1)), some (.int (nI it))] [] [gO h 5 [.ref tk, .ref dr, .int (nI j_39), .int (ks j_39), .int fk, .int fp], gO tk 8 [.ref c0, .ref c1, .int (nI cn)], gA E c0 601 ks, gA E c1 601 ps, gO dr 4 [.ref a0, .ref a1, .ref a2, .ref a3, .int (nI nr), .int (nI (((us + C1.length) + C_39.length) + 1))], gA E a0 12 sa, gA E a1 12 sk, gA E a2 13 st, gA E a3 600 (upd (cdW (cdW co us C1) (us + C1.length) C_39) ((us + C1.length) + C_39.length) (nI 1004))]
              rw [ln3 us C1 C_39 (nI 1004), cd3 co us C1 C_39 (nI 1004)]
              refine g_iinc_n (y := 1) C dX5_readBoth_53 rfl (by decide) (by decide) rfl (ll' := [some (.ref h), some (.int (nI 3)), some (.int (nI 1)), some (.int (nI (it + 1)))]) rfl ?_
              refine g_goto (tgt := 8) C dX5_readBoth_56 (by decide) ?_
              exact ih8 (it + 1) j_39 (f1 - 1) (C1 ++ C_39 ++ [nI 1004]) (by omega) (by omega) (by omega) (by omega) (by have := ln3 us C1 C_39 (nI 1004); omega) (by rw [g5, show f1 = f1 - 1 + 1 by omega, lpO, if_pos c30, hr_39]; rfl)
            · refine g_istore_n C dX5_readBoth_42 (by decide) rfl (ll' := [some (.ref h), some (.int (nI 3)), some (.int (nI 0)), some (.int (nI it))]) rfl ?_
              refine g_aload_n C dX5_readBoth_43 rfl ?_
              refine g_get C i_X5 0 1 f_21 rfl rfl (by decide) rfl rfl dX5_readBoth_44 ?_
              refine g_sipush (v := nI 1004) C dX5_readBoth_47 (by decide) ?_
              refine g_callV C (c_X4_append E dr a0 a1 a2 a3 nr us2_39 sa sk st co2_39 (nI 1004) (by omega)) gX5_readBoth_X4_append rfl 1 (by decide +kernel) ⟨by decide, by decide⟩ ⟨by decide, by decide⟩ 4 rfl rfl [4, 5, 6, 7, 8] [0, 1, 2, 3] (wr := [gO h 5 [.ref tk, .ref dr, .int (nI j_39), .int (ks j_39), .int (nI kd_39), .int (ps ix_39)], gO tk 8 [.ref c0, .ref c1, .int (nI cn)], gA E c0 601 ks, gA E c1 601 ps]) rfl (by decide) rfl (by decide) (by decide) rfl rfl (Nat.le_of_ble_eq_true rfl) dX5_readBoth_50 ?_
              rintro _ _ ⟨rfl, rfl⟩
              show gg E _ 4 X 0 0 53 [some (.ref h), some (.int (nI 3)), some (.int (nI 0)), some (.int (nI it))] [] [gO h 5 [.ref tk, .ref dr, .int (nI j_39), .int (ks j_39), .int (nI kd_39), .int (ps ix_39)], gO tk 8 [.ref c0, .ref c1, .int (nI cn)], gA E c0 601 ks, gA E c1 601 ps, gO dr 4 [.ref a0, .ref a1, .ref a2, .ref a3, .int (nI nr), .int (nI (us2_39 + 1))], gA E a0 12 sa, gA E a1 12 sk, gA E a2 13 st, gA E a3 600 (upd co2_39 us2_39 (nI 1004))]
              refine g_iinc_n (y := 1) C dX5_readBoth_53 rfl (by decide) (by decide) rfl (ll' := [some (.ref h), some (.int (nI 3)), some (.int (nI 0)), some (.int (nI (it + 1)))]) rfl ?_
              refine g_goto (tgt := 8) C dX5_readBoth_56 (by decide) ?_
              refine g_iload_n C dX5_readBoth_8 rfl ?_
              refine g_aload_n C dX5_readBoth_9 rfl ?_
              refine g_get C i_X5 0 0 f_12 rfl rfl (by decide) rfl rfl dX5_readBoth_10 ?_
              refine g_get C i_X8 1 2 f_76 rfl rfl (by decide) rfl rfl dX5_readBoth_13 ?_
              refine g_icmp_ge_n (tgt := 59) C dX5_readBoth_16 (by decide) (by omega) (by omega) (fun c16 => ?_) (fun c16 => ?_)
              · refine g_iload_n C dX5_readBoth_59 rfl ?_
                exact g_zret C Rt dX5_readBoth_60 (by decide) (by decide) (by decide) (⟨false, _, _, _, _, _, rfl, rfl, rdQ_er (by rw [g5, show f1 = f1 - 1 + 1 by omega, lpO, if_pos c30, hr_39]) (by omega) b2_39 (by omega) b4_39⟩)
              · refine g_iload_n C dX5_readBoth_19 rfl ?_
                refine g_if_eq (tgt := 59) C dX5_readBoth_20 (by decide) (fun c20 => ?_) (fun c20 => absurd c20 (by decide))
                refine g_iload_n C dX5_readBoth_59 rfl ?_
                exact g_zret C Rt dX5_readBoth_60 (by decide) (by decide) (by decide) (⟨false, _, _, _, _, _, rfl, rfl, rdQ_er (by rw [g5, show f1 = f1 - 1 + 1 by omega, lpO, if_pos c30, hr_39]) (by omega) b2_39 (by omega) b4_39⟩)
    exact L8 _ 0 j_2 601 C_2 (Nat.lt_succ_self _) (by omega) (by omega) (by omega) (by omega) (by rw [pAll, hr_2]; rfl)
  · refine g_istore_n C dX5_readBoth_5 (by decide) rfl (ll' := [some (.ref h), some (.int (nI 3)), some (.int (nI 0)), none]) rfl ?_
    refine g_iconst (v := nI 0) C dX5_readBoth_6 (by decide) ?_
    refine g_istore_n C dX5_readBoth_7 (by decide) rfl (ll' := [some (.ref h), some (.int (nI 3)), some (.int (nI 0)), some (.int (nI 0))]) rfl ?_
    refine g_iload_n C dX5_readBoth_8 rfl ?_
    refine g_aload_n C dX5_readBoth_9 rfl ?_
    refine g_get C i_X5 0 0 f_12 rfl rfl (by decide) rfl rfl dX5_readBoth_10 ?_
    refine g_get C i_X8 1 2 f_76 rfl rfl (by decide) rfl rfl dX5_readBoth_13 ?_
    refine g_icmp_ge_n (tgt := 59) C dX5_readBoth_16 (by decide) (by omega) (by omega) (fun c16 => ?_) (fun c16 => ?_)
    · refine g_iload_n C dX5_readBoth_59 rfl ?_
      exact g_zret C Rt dX5_readBoth_60 (by decide) (by decide) (by decide) (⟨false, _, _, _, _, _, rfl, rfl, rdQ_er (by rw [pAll, hr_2]; rfl) b1_2 b2_2 b3_2 b4_2⟩)
    · refine g_iload_n C dX5_readBoth_19 rfl ?_
      refine g_if_eq (tgt := 59) C dX5_readBoth_20 (by decide) (fun c20 => ?_) (fun c20 => absurd c20 (by decide))
      refine g_iload_n C dX5_readBoth_59 rfl ?_
      exact g_zret C Rt dX5_readBoth_60 (by decide) (by decide) (by decide) (⟨false, _, _, _, _, _, rfl, rfl, rdQ_er (by rw [pAll, hr_2]; rfl) b1_2 b2_2 b3_2 b4_2⟩)

abbrev rm_c_X5_readEither_5 : Room := { frames := 20, cells := 0, slots := 0, locals := 456 }
set_option maxHeartbeats 4000000 in
set_option maxRecDepth 100000 in
theorem c_X5_readEither_5 (E : gE) (h tk c0 c1 cn dr a0 a1 a2 a3 nr us i : Nat) (ks ps sa sk st co : Nat → Int32) (fk fp : Int32) (hi : i < cn) (hcn : cn ≤ 601) (hend : ks (cn - 1) = nI 1011) (hus : us ≤ i) : MM E yX5_readEither wsX5_readEither rm_c_X5_readEither_5 [.ref h, .int (nI 3)] [gO h 5 [.ref tk, .ref dr, .int (nI i), .int (ks i), .int fk, .int fp], gO tk 8 [.ref c0, .ref c1, .int (nI cn)], gA E c0 601 ks, gA E c1 601 ps, gO dr 4 [.ref a0, .ref a1, .ref a2, .ref a3, .int (nI nr), .int (nI us)], gA E a0 12 sa, gA E a1 12 sk, gA E a2 13 st, gA E a3 600 co] (fun rv_ ru_ => ∃ (ok : Bool) (j us2 : Nat) (co2 : Nat → Int32) (fk2 fp2 : Int32), rv_ = some (.int (b2i ok)) ∧ ru_ = [gO h 5 [.ref tk, .ref dr, .int (nI j), .int (ks j), .int fk2, .int fp2], gO tk 8 [.ref c0, .ref c1, .int (nI cn)], gA E c0 601 ks, gA E c1 601 ps, gO dr 4 [.ref a0, .ref a1, .ref a2, .ref a3, .int (nI nr), .int (nI us2)], gA E a0 12 sa, gA E a1 12 sk, gA E a2 13 st, gA E a3 600 co2] ∧ (rdQ (pAny ks (pLv ks 5) i) ps cn i us co fk fp ok j us2 co2 fk2 fp2)) := by
  refine MM.ofG (cc := cX5_readEither) (maxL := 4) (ret := (some .boolean)) (by decide) rfl (Nat.le_of_ble_eq_true rfl) (ll := [some (.ref h), some (.int (nI 3)), none, none]) rfl ?_
  intro X C Rt
  have C : gx E X cX5_readEither 4 wsX5_readEither RX5 := C
  have i_X5 : ∀ w ∈ u_ws RX5 TX5 6, w ∈ wsX5_readEither := by decide +kernel
  have i_X8 : ∀ w ∈ u_ws RX8 TX8 3, w ∈ wsX5_readEither := by decide +kernel
  have f_12 : Cond.fieldLink RX5 12 "MarkPages$RuleReader" "tokens" "LMarkPages$Tokens;" ∈ wsX5_readEither := by decide +kernel
  have f_21 : Cond.fieldLink RX5 21 "MarkPages$RuleReader" "draft" "LMarkPages$RuleBook;" ∈ wsX5_readEither := by decide +kernel
  have f_25 : Cond.fieldLink RX5 25 "MarkPages$RuleReader" "now" "I" ∈ wsX5_readEither := by decide +kernel
  have f_76 : Cond.fieldLink RX5 76 "MarkPages$Tokens" "count" "I" ∈ wsX5_readEither := by decide +kernel
  refine g_aload_n C dX5_readEither_0 rfl ?_
  refine g_iload_n C dX5_readEither_1 rfl ?_
  refine g_callV C (c_X5_readBoth_5 E h tk c0 c1 cn dr a0 a1 a2 a3 nr us i ks ps sa sk st co fk fp (by omega) (by omega) (hend) (by omega)) gX5_readEither_X5_readBoth rfl 1 (by decide +kernel) ⟨by decide, by decide⟩ ⟨by decide, by decide⟩ 0 rfl rfl [0, 1, 2, 3, 4, 5, 6, 7, 8] [] (wr := []) rfl (by decide) rfl (by decide) (by decide) rfl rfl (Nat.le_of_ble_eq_true rfl) dX5_readEither_2 ?_
  rintro _ _ ⟨ok_2, j_2, us2_2, co2_2, fk2_2, fp2_2, rfl, rfl, hq_2⟩
  show gg E _ 4 X 0 0 5 [some (.ref h), some (.int (nI 3)), none, none] [.int (b2i ok_2)] [gO h 5 [.ref tk, .ref dr, .int (nI j_2), .int (ks j_2), .int fk2_2, .int fp2_2], gO tk 8 [.ref c0, .ref c1, .int (nI cn)], gA E c0 601 ks, gA E c1 601 ps, gO dr 4 [.ref a0, .ref a1, .ref a2, .ref a3, .int (nI nr), .int (nI us2_2)], gA E a0 12 sa, gA E a1 12 sk, gA E a2 13 st, gA E a3 600 co2_2]
  rcases rdQ_tw hq_2 with ⟨C_2, hr_2, rfl, rfl, rfl, rfl, rfl, b1_2, b2_2, b3_2⟩ | ⟨kd_2, ix_2, hr_2, rfl, rfl, rfl, b1_2, b2_2, b3_2, b4_2⟩
  · refine g_istore_n C dX5_readEither_5 (by decide) rfl (ll' := [some (.ref h), some (.int (nI 3)), some (.int (nI 1)), none]) rfl ?_
    refine g_iconst (v := nI 0) C dX5_readEither_6 (by decide) ?_
    refine g_istore_n C dX5_readEither_7 (by decide) rfl (ll' := [some (.ref h), some (.int (nI 3)), some (.int (nI 1)), some (.int (nI 0))]) rfl ?_
    have L8 : ∀ (n8 : Nat) (it j1 f1 : Nat) (C1 : List Int32), cn - j1 < n8 → (j1 < cn) → (i + it ≤ j1) → (f1 + it = 601) → (C1.length + i ≤ j1) → (pAny ks (pLv ks 5) i = lpO ks (nI 1003) (pAll ks (pLv ks 5)) f1 j1 C1) → gg E rm_c_X5_readEither_5 4 X 0 0 8 [some (.ref h), some (.int (nI 3)), some (.int (nI 1)), some (.int (nI it))] [] [gO h 5 [.ref tk, .ref dr, .int (nI j1), .int (ks j1), .int fk, .int fp], gO tk 8 [.ref c0, .ref c1, .int (nI cn)], gA E c0 601 ks, gA E c1 601 ps, gO dr 4 [.ref a0, .ref a1, .ref a2, .ref a3, .int (nI nr), .int (nI (us + C1.length))], gA E a0 12 sa, gA E a1 12 sk, gA E a2 13 st, gA E a3 600 (cdW co us C1)] := by
      intro n8
      induction n8 with
      | zero => intro it j1 f1 C1 hm8; exact absurd hm8 (Nat.not_lt_zero _)
      | succ n8 ih8 =>
        intro it j1 f1 C1 hm8 g1 g2 g3 g4 g5
        refine g_iload_n C dX5_readEither_8 rfl ?_
        refine g_aload_n C dX5_readEither_9 rfl ?_
        refine g_get C i_X5 0 0 f_12 rfl rfl (by decide) rfl rfl dX5_readEither_10 ?_
        refine g_get C i_X8 1 2 f_76 rfl rfl (by decide) rfl rfl dX5_readEither_13 ?_
        refine g_icmp_ge_n (tgt := 59) C dX5_readEither_16 (by decide) (by omega) (by omega) (fun c16 => ?_) (fun c16 => ?_)
        · exact absurd c16 (by omega)
        · refine g_iload_n C dX5_readEither_19 rfl ?_
          refine g_if_eq (tgt := 59) C dX5_readEither_20 (by decide) (fun c20 => absurd c20 (by decide)) (fun c20 => ?_)
          refine g_aload_n C dX5_readEither_23 rfl ?_
          refine g_get C i_X5 0 3 f_25 rfl rfl (by decide) rfl rfl dX5_readEither_24 ?_
          refine g_sipush (v := nI 1003) C dX5_readEither_27 (by decide) ?_
          refine g_icmp_ne (tgt := 59) C dX5_readEither_30 (by decide) (fun c30 => ?_) (fun c30 => ?_)
          · refine g_iload_n C dX5_readEither_59 rfl ?_
            exact g_zret C Rt dX5_readEither_60 (by decide) (by decide) (by decide) (⟨true, _, _, _, _, _, rfl, rfl, rdQ_ok (by rw [g5, show f1 = f1 - 1 + 1 by omega, lpO, if_neg c30]) (by omega) g1 (by omega) rfl rfl⟩)
          · have hn7 := not_end hend g1 c30 (by decide)
            refine g_aload_n C dX5_readEither_33 rfl ?_
            refine g_callV C (c_X5_advance E h tk c0 c1 cn dr a0 a1 a2 a3 nr (us + C1.length) j1 ks ps sa sk st (cdW co us C1) fk fp (not_end hend g1 c30 (by decide)) (by omega)) gX5_readEither_X5_advance rfl 0 (by decide +kernel) ⟨by decide, by decide⟩ ⟨by decide, by decide⟩ 0 rfl rfl [0, 1, 2, 3, 4, 5, 6, 7, 8] [] (wr := []) rfl (by decide) rfl (by decide) (by decide) rfl rfl (Nat.le_of_ble_eq_true rfl) dX5_readEither_34 ?_
            rintro _ _ ⟨rfl, rfl⟩
            show gg E _ 4 X 0 0 37 [some (.ref h), some (.int (nI 3)), some (.int (nI 1)), some (.int (nI it))] [] [gO h 5 [.ref tk, .ref dr, .int (nI (j1 + 1)), .int (ks (j1 + 1)), .int fk, .int fp], gO tk 8 [.ref c0, .ref c1, .int (nI cn)], gA E c0 601 ks, gA E c1 601 ps, gO dr 4 [.ref a0, .ref a1, .ref a2, .ref a3, .int (nI nr), .int (nI (us + C1.length))], gA E a0 12 sa, gA E a1 12 sk, gA E a2 13 st, gA E a3 600 (cdW co us C1)]
            refine g_aload_n C dX5_readEither_37 rfl ?_
            refine g_iload_n C dX5_readEither_38 rfl ?_
            refine g_callV C (c_X5_readBoth_5 E h tk c0 c1 cn dr a0 a1 a2 a3 nr (us + C1.length) (j1 + 1) ks ps sa sk st (cdW co us C1) fk fp (by omega) (by omega) (hend) (by omega)) gX5_readEither_X5_readBoth rfl 1 (by decide +kernel) ⟨by decide, by decide⟩ ⟨by decide, by decide⟩ 0 rfl rfl [0, 1, 2, 3, 4, 5, 6, 7, 8] [] (wr := []) rfl (by decide) rfl (by decide) (by decide) rfl rfl (Nat.le_of_ble_eq_true rfl) dX5_readEither_39 ?_
            rintro _ _ ⟨ok_39, j_39, us2_39, co2_39, fk2_39, fp2_39, rfl, rfl, hq_39⟩
            show gg E _ 4 X 0 0 42 [some (.ref h), some (.int (nI 3)), some (.int (nI 1)), some (.int (nI it))] [.int (b2i ok_39)] [gO h 5 [.ref tk, .ref dr, .int (nI j_39), .int (ks j_39), .int fk2_39, .int fp2_39], gO tk 8 [.ref c0, .ref c1, .int (nI cn)], gA E c0 601 ks, gA E c1 601 ps, gO dr 4 [.ref a0, .ref a1, .ref a2, .ref a3, .int (nI nr), .int (nI us2_39)], gA E a0 12 sa, gA E a1 12 sk, gA E a2 13 st, gA E a3 600 co2_39]
            rcases rdQ_tw hq_39 with ⟨C_39, hr_39, rfl, rfl, rfl, rfl, rfl, b1_39, b2_39, b3_39⟩ | ⟨kd_39, ix_39, hr_39, rfl, rfl, rfl, b1_39, b2_39, b3_39, b4_39⟩
            · refine g_istore_n C dX5_readEither_42 (by decide) rfl (ll' := [some (.ref h), some (.int (nI 3)), some (.int (nI 1)), some (.int (nI it))]) rfl ?_
              refine g_aload_n C dX5_readEither_43 rfl ?_
              refine g_get C i_X5 0 1 f_21 rfl rfl (by decide) rfl rfl dX5_readEither_44 ?_
              refine g_sipush (v := nI 1003) C dX5_readEither_47 (by decide) ?_
              refine g_callV C (c_X4_append E dr a0 a1 a2 a3 nr ((us + C1.length) + C_39.length) sa sk st (cdW (cdW co us C1) (us + C1.length) C_39) (nI 1003) (by omega)) gX5_readEither_X4_append rfl 1 (by decide +kernel) ⟨by decide, by decide⟩ ⟨by decide, by decide⟩ 4 rfl rfl [4, 5, 6, 7, 8] [0, 1, 2, 3] (wr := [gO h 5 [.ref tk, .ref dr, .int (nI j_39), .int (ks j_39), .int fk, .int fp], gO tk 8 [.ref c0, .ref c1, .int (nI cn)], gA E c0 601 ks, gA E c1 601 ps]) rfl (by decide) rfl (by decide) (by decide) rfl rfl (Nat.le_of_ble_eq_true rfl) dX5_readEither_50 ?_
              rintro _ _ ⟨rfl, rfl⟩
              show gg E _ 4 X 0 0 53 [some (.ref h), some (.int (nI 3)), some (.int (nI 1)), some (.int (nI it))] [] [gO h 5 [.ref tk, .ref dr, .int (nI j_39), .int (ks j_39), .int fk, .int fp], gO tk 8 [.ref c0, .ref c1, .int (nI cn)], gA E c0 601 ks, gA E c1 601 ps, gO dr 4 [.ref a0, .ref a1, .ref a2, .ref a3, .int (nI nr), .int (nI (((us + C1.length) + C_39.length) + 1))], gA E a0 12 sa, gA E a1 12 sk, gA E a2 13 st, gA E a3 600 (upd (cdW (cdW co us C1) (us + C1.length) C_39) ((us + C1.length) + C_39.length) (nI 1003))]
              rw [ln3 us C1 C_39 (nI 1003), cd3 co us C1 C_39 (nI 1003)]
              refine g_iinc_n (y := 1) C dX5_readEither_53 rfl (by decide) (by decide) rfl (ll' := [some (.ref h), some (.int (nI 3)), some (.int (nI 1)), some (.int (nI (it + 1)))]) rfl ?_
              refine g_goto (tgt := 8) C dX5_readEither_56 (by decide) ?_
              exact ih8 (it + 1) j_39 (f1 - 1) (C1 ++ C_39 ++ [nI 1003]) (by omega) (by omega) (by omega) (by omega) (by have := ln3 us C1 C_39 (nI 1003); omega) (by rw [g5, show f1 = f1 - 1 + 1 by omega, lpO, if_pos c30, hr_39]; rfl)
            · refine g_istore_n C dX5_readEither_42 (by decide) rfl (ll' := [some (.ref h), some (.int (nI 3)), some (.int (nI 0)), some (.int (nI it))]) rfl ?_
              refine g_aload_n C dX5_readEither_43 rfl ?_
              refine g_get C i_X5 0 1 f_21 rfl rfl (by decide) rfl rfl dX5_readEither_44 ?_
              refine g_sipush (v := nI 1003) C dX5_readEither_47 (by decide) ?_
              refine g_callV C (c_X4_append E dr a0 a1 a2 a3 nr us2_39 sa sk st co2_39 (nI 1003) (by omega)) gX5_readEither_X4_append rfl 1 (by decide +kernel) ⟨by decide, by decide⟩ ⟨by decide, by decide⟩ 4 rfl rfl [4, 5, 6, 7, 8] [0, 1, 2, 3] (wr := [gO h 5 [.ref tk, .ref dr, .int (nI j_39), .int (ks j_39), .int (nI kd_39), .int (ps ix_39)], gO tk 8 [.ref c0, .ref c1, .int (nI cn)], gA E c0 601 ks, gA E c1 601 ps]) rfl (by decide) rfl (by decide) (by decide) rfl rfl (Nat.le_of_ble_eq_true rfl) dX5_readEither_50 ?_
              rintro _ _ ⟨rfl, rfl⟩
              show gg E _ 4 X 0 0 53 [some (.ref h), some (.int (nI 3)), some (.int (nI 0)), some (.int (nI it))] [] [gO h 5 [.ref tk, .ref dr, .int (nI j_39), .int (ks j_39), .int (nI kd_39), .int (ps ix_39)], gO tk 8 [.ref c0, .ref c1, .int (nI cn)], gA E c0 601 ks, gA E c1 601 ps, gO dr 4 [.ref a0, .ref a1, .ref a2, .ref a3, .int (nI nr), .int (nI (us2_39 + 1))], gA E a0 12 sa, gA E a1 12 sk, gA E a2 13 st, gA E a3 600 (upd co2_39 us2_39 (nI 1003))]
              refine g_iinc_n (y := 1) C dX5_readEither_53 rfl (by decide) (by decide) rfl (ll' := [some (.ref h), some (.int (nI 3)), some (.int (nI 0)), some (.int (nI (it + 1)))]) rfl ?_
              refine g_goto (tgt := 8) C dX5_readEither_56 (by decide) ?_
              refine g_iload_n C dX5_readEither_8 rfl ?_
              refine g_aload_n C dX5_readEither_9 rfl ?_
              refine g_get C i_X5 0 0 f_12 rfl rfl (by decide) rfl rfl dX5_readEither_10 ?_
              refine g_get C i_X8 1 2 f_76 rfl rfl (by decide) rfl rfl dX5_readEither_13 ?_
              refine g_icmp_ge_n (tgt := 59) C dX5_readEither_16 (by decide) (by omega) (by omega) (fun c16 => ?_) (fun c16 => ?_)
              · refine g_iload_n C dX5_readEither_59 rfl ?_
                exact g_zret C Rt dX5_readEither_60 (by decide) (by decide) (by decide) (⟨false, _, _, _, _, _, rfl, rfl, rdQ_er (by rw [g5, show f1 = f1 - 1 + 1 by omega, lpO, if_pos c30, hr_39]) (by omega) b2_39 (by omega) b4_39⟩)
              · refine g_iload_n C dX5_readEither_19 rfl ?_
                refine g_if_eq (tgt := 59) C dX5_readEither_20 (by decide) (fun c20 => ?_) (fun c20 => absurd c20 (by decide))
                refine g_iload_n C dX5_readEither_59 rfl ?_
                exact g_zret C Rt dX5_readEither_60 (by decide) (by decide) (by decide) (⟨false, _, _, _, _, _, rfl, rfl, rdQ_er (by rw [g5, show f1 = f1 - 1 + 1 by omega, lpO, if_pos c30, hr_39]) (by omega) b2_39 (by omega) b4_39⟩)
    exact L8 _ 0 j_2 601 C_2 (Nat.lt_succ_self _) (by omega) (by omega) (by omega) (by omega) (by rw [pAny, hr_2]; rfl)
  · refine g_istore_n C dX5_readEither_5 (by decide) rfl (ll' := [some (.ref h), some (.int (nI 3)), some (.int (nI 0)), none]) rfl ?_
    refine g_iconst (v := nI 0) C dX5_readEither_6 (by decide) ?_
    refine g_istore_n C dX5_readEither_7 (by decide) rfl (ll' := [some (.ref h), some (.int (nI 3)), some (.int (nI 0)), some (.int (nI 0))]) rfl ?_
    refine g_iload_n C dX5_readEither_8 rfl ?_
    refine g_aload_n C dX5_readEither_9 rfl ?_
    refine g_get C i_X5 0 0 f_12 rfl rfl (by decide) rfl rfl dX5_readEither_10 ?_
    refine g_get C i_X8 1 2 f_76 rfl rfl (by decide) rfl rfl dX5_readEither_13 ?_
    refine g_icmp_ge_n (tgt := 59) C dX5_readEither_16 (by decide) (by omega) (by omega) (fun c16 => ?_) (fun c16 => ?_)
    · refine g_iload_n C dX5_readEither_59 rfl ?_
      exact g_zret C Rt dX5_readEither_60 (by decide) (by decide) (by decide) (⟨false, _, _, _, _, _, rfl, rfl, rdQ_er (by rw [pAny, hr_2]; rfl) b1_2 b2_2 b3_2 b4_2⟩)
    · refine g_iload_n C dX5_readEither_19 rfl ?_
      refine g_if_eq (tgt := 59) C dX5_readEither_20 (by decide) (fun c20 => ?_) (fun c20 => absurd c20 (by decide))
      refine g_iload_n C dX5_readEither_59 rfl ?_
      exact g_zret C Rt dX5_readEither_60 (by decide) (by decide) (by decide) (⟨false, _, _, _, _, _, rfl, rfl, rdQ_er (by rw [pAny, hr_2]; rfl) b1_2 b2_2 b3_2 b4_2⟩)

abbrev rm_c_X5_readCondition_6 : Room := { frames := 21, cells := 0, slots := 0, locals := 479 }
set_option maxHeartbeats 4000000 in
set_option maxRecDepth 100000 in
theorem c_X5_readCondition_6 (E : gE) (h tk c0 c1 cn dr a0 a1 a2 a3 nr us i : Nat) (ks ps sa sk st co : Nat → Int32) (fk fp : Int32) (hi : i < cn) (hcn : cn ≤ 601) (hend : ks (cn - 1) = nI 1011) (hus : us ≤ i) : MM E yX5_readCondition wsX5_readCondition rm_c_X5_readCondition_6 [.ref h, .int (nI 2)] [gO h 5 [.ref tk, .ref dr, .int (nI i), .int (ks i), .int fk, .int fp], gO tk 8 [.ref c0, .ref c1, .int (nI cn)], gA E c0 601 ks, gA E c1 601 ps, gO dr 4 [.ref a0, .ref a1, .ref a2, .ref a3, .int (nI nr), .int (nI us)], gA E a0 12 sa, gA E a1 12 sk, gA E a2 13 st, gA E a3 600 co] (fun rv_ ru_ => ∃ (ok : Bool) (j us2 : Nat) (co2 : Nat → Int32) (fk2 fp2 : Int32), rv_ = some (.int (b2i ok)) ∧ ru_ = [gO h 5 [.ref tk, .ref dr, .int (nI j), .int (ks j), .int fk2, .int fp2], gO tk 8 [.ref c0, .ref c1, .int (nI cn)], gA E c0 601 ks, gA E c1 601 ps, gO dr 4 [.ref a0, .ref a1, .ref a2, .ref a3, .int (nI nr), .int (nI us2)], gA E a0 12 sa, gA E a1 12 sk, gA E a2 13 st, gA E a3 600 co2] ∧ (rdQ (pLv ks 6 i) ps cn i us co fk fp ok j us2 co2 fk2 fp2)) := by
  refine MM.ofG (cc := cX5_readCondition) (maxL := 4) (ret := (some .boolean)) (by decide) rfl (Nat.le_of_ble_eq_true rfl) (ll := [some (.ref h), some (.int (nI 2)), none, none]) rfl ?_
  intro X C Rt
  have C : gx E X cX5_readCondition 4 wsX5_readCondition RX5 := C
  have i_X5 : ∀ w ∈ u_ws RX5 TX5 6, w ∈ wsX5_readCondition := by decide +kernel
  have f_21 : Cond.fieldLink RX5 21 "MarkPages$RuleReader" "draft" "LMarkPages$RuleBook;" ∈ wsX5_readCondition := by decide +kernel
  have f_25 : Cond.fieldLink RX5 25 "MarkPages$RuleReader" "now" "I" ∈ wsX5_readCondition := by decide +kernel
  refine g_aload_n C dX5_readCondition_0 rfl ?_
  refine g_get C i_X5 0 3 f_25 rfl rfl (by decide) rfl rfl dX5_readCondition_1 ?_
  refine g_sipush (v := nI 1005) C dX5_readCondition_4 (by decide) ?_
  refine g_icmp_eq (tgt := 25) C dX5_readCondition_7 (by decide) (fun c7 => ?_) (fun c7 => ?_)
  · refine g_iload_n C dX5_readCondition_25 rfl ?_
    refine g_bipush (v := nI 8) C dX5_readCondition_26 (by decide) ?_
    refine g_icmp_lt (tgt := 37) C dX5_readCondition_28 (by decide) (fun c28 => ?_) (fun c28 => absurd c28 (by decide))
    refine g_aload_n C dX5_readCondition_37 rfl ?_
    refine g_get C i_X5 0 3 f_25 rfl rfl (by decide) rfl rfl dX5_readCondition_38 ?_
    refine g_sipush (v := nI 1005) C dX5_readCondition_41 (by decide) ?_
    refine g_icmp_ne (tgt := 51) C dX5_readCondition_44 (by decide) (fun c44 => ?_) (fun c44 => ?_)
    · exact absurd c7 c44
    · refine g_iconst (v := nI 1) C dX5_readCondition_47 (by decide) ?_
      refine g_goto (tgt := 52) C dX5_readCondition_48 (by decide) ?_
      refine g_istore_n C dX5_readCondition_52 (by decide) rfl (ll' := [some (.ref h), some (.int (nI 2)), some (.int (nI 1)), none]) rfl ?_
      have hn8 := not_end hend hi c7 (by decide)
      refine g_aload_n C dX5_readCondition_53 rfl ?_
      refine g_callV C (c_X5_advance E h tk c0 c1 cn dr a0 a1 a2 a3 nr us i ks ps sa sk st co fk fp (hn8) (by omega)) gX5_readCondition_X5_advance rfl 0 (by decide +kernel) ⟨by decide, by decide⟩ ⟨by decide, by decide⟩ 0 rfl rfl [0, 1, 2, 3, 4, 5, 6, 7, 8] [] (wr := []) rfl (by decide) rfl (by decide) (by decide) rfl rfl (Nat.le_of_ble_eq_true rfl) dX5_readCondition_54 ?_
      rintro _ _ ⟨rfl, rfl⟩
      show gg E _ 4 X 0 0 57 [some (.ref h), some (.int (nI 2)), some (.int (nI 1)), none] [] [gO h 5 [.ref tk, .ref dr, .int (nI (i + 1)), .int (ks (i + 1)), .int fk, .int fp], gO tk 8 [.ref c0, .ref c1, .int (nI cn)], gA E c0 601 ks, gA E c1 601 ps, gO dr 4 [.ref a0, .ref a1, .ref a2, .ref a3, .int (nI nr), .int (nI us)], gA E a0 12 sa, gA E a1 12 sk, gA E a2 13 st, gA E a3 600 co]
      refine g_iload_n C dX5_readCondition_57 rfl ?_
      refine g_if_ne (tgt := 87) C dX5_readCondition_58 (by decide) (fun c58 => ?_) (fun c58 => absurd c58 (by decide))
      refine g_aload_n C dX5_readCondition_87 rfl ?_
      refine g_iload_n C dX5_readCondition_88 rfl ?_
      refine g_iconst (v := nI 1) C dX5_readCondition_89 (by decide) ?_
      refine g_iadd C dX5_readCondition_90 (g_top (x' := nI 3) (by decide) ?_)
      refine g_callV C (c_X5_readCondition_5 E h tk c0 c1 cn dr a0 a1 a2 a3 nr us (i + 1) ks ps sa sk st co fk fp (by omega) (by omega) (hend) (by omega)) gX5_readCondition_X5_readCondition rfl 1 (by decide +kernel) ⟨by decide, by decide⟩ ⟨by decide, by decide⟩ 0 rfl rfl [0, 1, 2, 3, 4, 5, 6, 7, 8] [] (wr := []) rfl (by decide) rfl (by decide) (by decide) rfl rfl (Nat.le_of_ble_eq_true rfl) dX5_readCondition_91 ?_
      rintro _ _ ⟨ok_91, j_91, us2_91, co2_91, fk2_91, fp2_91, rfl, rfl, hq_91⟩
      show gg E _ 4 X 0 0 94 [some (.ref h), some (.int (nI 2)), some (.int (nI 1)), none] [.int (b2i ok_91)] [gO h 5 [.ref tk, .ref dr, .int (nI j_91), .int (ks j_91), .int fk2_91, .int fp2_91], gO tk 8 [.ref c0, .ref c1, .int (nI cn)], gA E c0 601 ks, gA E c1 601 ps, gO dr 4 [.ref a0, .ref a1, .ref a2, .ref a3, .int (nI nr), .int (nI us2_91)], gA E a0 12 sa, gA E a1 12 sk, gA E a2 13 st, gA E a3 600 co2_91]
      rcases rdQ_tw hq_91 with ⟨C_91, hr_91, rfl, rfl, rfl, rfl, rfl, b1_91, b2_91, b3_91⟩ | ⟨kd_91, ix_91, hr_91, rfl, rfl, rfl, b1_91, b2_91, b3_91, b4_91⟩
      · refine g_istore_n C dX5_readCondition_94 (by decide) rfl (ll' := [some (.ref h), some (.int (nI 2)), some (.int (nI 1)), some (.int (nI 1))]) rfl ?_
        refine g_aload_n C dX5_readCondition_95 rfl ?_
        refine g_get C i_X5 0 1 f_21 rfl rfl (by decide) rfl rfl dX5_readCondition_96 ?_
        refine g_sipush (v := nI 1005) C dX5_readCondition_99 (by decide) ?_
        refine g_callV C (c_X4_append E dr a0 a1 a2 a3 nr (us + C_91.length) sa sk st (cdW co us C_91) (nI 1005) (by omega)) gX5_readCondition_X4_append rfl 1 (by decide +kernel) ⟨by decide, by decide⟩ ⟨by decide, by decide⟩ 4 rfl rfl [4, 5, 6, 7, 8] [0, 1, 2, 3] (wr := [gO h 5 [.ref tk, .ref dr, .int (nI j_91), .int (ks j_91), .int fk, .int fp], gO tk 8 [.ref c0, .ref c1, .int (nI cn)], gA E c0 601 ks, gA E c1 601 ps]) rfl (by decide) rfl (by decide) (by decide) rfl rfl (Nat.le_of_ble_eq_true rfl) dX5_readCondition_102 ?_
        rintro _ _ ⟨rfl, rfl⟩
        show gg E _ 4 X 0 0 105 [some (.ref h), some (.int (nI 2)), some (.int (nI 1)), some (.int (nI 1))] [] [gO h 5 [.ref tk, .ref dr, .int (nI j_91), .int (ks j_91), .int fk, .int fp], gO tk 8 [.ref c0, .ref c1, .int (nI cn)], gA E c0 601 ks, gA E c1 601 ps, gO dr 4 [.ref a0, .ref a1, .ref a2, .ref a3, .int (nI nr), .int (nI ((us + C_91.length) + 1))], gA E a0 12 sa, gA E a1 12 sk, gA E a2 13 st, gA E a3 600 (upd (cdW co us C_91) (us + C_91.length) (nI 1005))]
        refine g_iload_n C dX5_readCondition_105 rfl ?_
        exact g_zret C Rt dX5_readCondition_106 (by decide) (by decide) (by decide) (⟨true, _, _, _, _, _, rfl, rfl, rdQ_ok (by rw [pLv, if_pos (Or.inl c7), if_pos c7, hr_91]; rfl) (by omega) b2_91 (by omega) (ln2 _ _ _) (cdW_snoc _ _ _ _).symm⟩)
      · refine g_istore_n C dX5_readCondition_94 (by decide) rfl (ll' := [some (.ref h), some (.int (nI 2)), some (.int (nI 1)), some (.int (nI 0))]) rfl ?_
        refine g_aload_n C dX5_readCondition_95 rfl ?_
        refine g_get C i_X5 0 1 f_21 rfl rfl (by decide) rfl rfl dX5_readCondition_96 ?_
        refine g_sipush (v := nI 1005) C dX5_readCondition_99 (by decide) ?_
        refine g_callV C (c_X4_append E dr a0 a1 a2 a3 nr us2_91 sa sk st co2_91 (nI 1005) (by omega)) gX5_readCondition_X4_append rfl 1 (by decide +kernel) ⟨by decide, by decide⟩ ⟨by decide, by decide⟩ 4 rfl rfl [4, 5, 6, 7, 8] [0, 1, 2, 3] (wr := [gO h 5 [.ref tk, .ref dr, .int (nI j_91), .int (ks j_91), .int (nI kd_91), .int (ps ix_91)], gO tk 8 [.ref c0, .ref c1, .int (nI cn)], gA E c0 601 ks, gA E c1 601 ps]) rfl (by decide) rfl (by decide) (by decide) rfl rfl (Nat.le_of_ble_eq_true rfl) dX5_readCondition_102 ?_
        rintro _ _ ⟨rfl, rfl⟩
        show gg E _ 4 X 0 0 105 [some (.ref h), some (.int (nI 2)), some (.int (nI 1)), some (.int (nI 0))] [] [gO h 5 [.ref tk, .ref dr, .int (nI j_91), .int (ks j_91), .int (nI kd_91), .int (ps ix_91)], gO tk 8 [.ref c0, .ref c1, .int (nI cn)], gA E c0 601 ks, gA E c1 601 ps, gO dr 4 [.ref a0, .ref a1, .ref a2, .ref a3, .int (nI nr), .int (nI (us2_91 + 1))], gA E a0 12 sa, gA E a1 12 sk, gA E a2 13 st, gA E a3 600 (upd co2_91 us2_91 (nI 1005))]
        refine g_iload_n C dX5_readCondition_105 rfl ?_
        exact g_zret C Rt dX5_readCondition_106 (by decide) (by decide) (by decide) (⟨false, _, _, _, _, _, rfl, rfl, rdQ_er (by rw [pLv, if_pos (Or.inl c7), if_pos c7, hr_91]; rfl) (by omega) b2_91 (by omega) b4_91⟩)
  · refine g_aload_n C dX5_readCondition_10 rfl ?_
    refine g_get C i_X5 0 3 f_25 rfl rfl (by decide) rfl rfl dX5_readCondition_11 ?_
    refine g_sipush (v := nI 1140) C dX5_readCondition_14 (by decide) ?_
    refine g_icmp_eq (tgt := 25) C dX5_readCondition_17 (by decide) (fun c17 => ?_) (fun c17 => ?_)
    · refine g_iload_n C dX5_readCondition_25 rfl ?_
      refine g_bipush (v := nI 8) C dX5_readCondition_26 (by decide) ?_
      refine g_icmp_lt (tgt := 37) C dX5_readCondition_28 (by decide) (fun c28 => ?_) (fun c28 => absurd c28 (by decide))
      refine g_aload_n C dX5_readCondition_37 rfl ?_
      refine g_get C i_X5 0 3 f_25 rfl rfl (by decide) rfl rfl dX5_readCondition_38 ?_
      refine g_sipush (v := nI 1005) C dX5_readCondition_41 (by decide) ?_
      refine g_icmp_ne (tgt := 51) C dX5_readCondition_44 (by decide) (fun c44 => ?_) (fun c44 => ?_)
      · refine g_iconst (v := nI 0) C dX5_readCondition_51 (by decide) ?_
        refine g_istore_n C dX5_readCondition_52 (by decide) rfl (ll' := [some (.ref h), some (.int (nI 2)), some (.int (nI 0)), none]) rfl ?_
        have hn8 := not_end hend hi c17 (by decide)
        refine g_aload_n C dX5_readCondition_53 rfl ?_
        refine g_callV C (c_X5_advance E h tk c0 c1 cn dr a0 a1 a2 a3 nr us i ks ps sa sk st co fk fp (hn8) (by omega)) gX5_readCondition_X5_advance rfl 0 (by decide +kernel) ⟨by decide, by decide⟩ ⟨by decide, by decide⟩ 0 rfl rfl [0, 1, 2, 3, 4, 5, 6, 7, 8] [] (wr := []) rfl (by decide) rfl (by decide) (by decide) rfl rfl (Nat.le_of_ble_eq_true rfl) dX5_readCondition_54 ?_
        rintro _ _ ⟨rfl, rfl⟩
        show gg E _ 4 X 0 0 57 [some (.ref h), some (.int (nI 2)), some (.int (nI 0)), none] [] [gO h 5 [.ref tk, .ref dr, .int (nI (i + 1)), .int (ks (i + 1)), .int fk, .int fp], gO tk 8 [.ref c0, .ref c1, .int (nI cn)], gA E c0 601 ks, gA E c1 601 ps, gO dr 4 [.ref a0, .ref a1, .ref a2, .ref a3, .int (nI nr), .int (nI us)], gA E a0 12 sa, gA E a1 12 sk, gA E a2 13 st, gA E a3 600 co]
        refine g_iload_n C dX5_readCondition_57 rfl ?_
        refine g_if_ne (tgt := 87) C dX5_readCondition_58 (by decide) (fun c58 => absurd c58 (by decide)) (fun c58 => ?_)
        refine g_aload_n C dX5_readCondition_61 rfl ?_
        refine g_iload_n C dX5_readCondition_62 rfl ?_
        refine g_iconst (v := nI 1) C dX5_readCondition_63 (by decide) ?_
        refine g_iadd C dX5_readCondition_64 (g_top (x' := nI 3) (by decide) ?_)
        refine g_callV C (c_X5_readEither_5 E h tk c0 c1 cn dr a0 a1 a2 a3 nr us (i + 1) ks ps sa sk st co fk fp (by omega) (by omega) (hend) (by omega)) gX5_readCondition_X5_readEither rfl 1 (by decide +kernel) ⟨by decide, by decide⟩ ⟨by decide, by decide⟩ 0 rfl rfl [0, 1, 2, 3, 4, 5, 6, 7, 8] [] (wr := []) rfl (by decide) rfl (by decide) (by decide) rfl rfl (Nat.le_of_ble_eq_true rfl) dX5_readCondition_65 ?_
        rintro _ _ ⟨ok_65, j_65, us2_65, co2_65, fk2_65, fp2_65, rfl, rfl, hq_65⟩
        show gg E _ 4 X 0 0 68 [some (.ref h), some (.int (nI 2)), some (.int (nI 0)), none] [.int (b2i ok_65)] [gO h 5 [.ref tk, .ref dr, .int (nI j_65), .int (ks j_65), .int fk2_65, .int fp2_65], gO tk 8 [.ref c0, .ref c1, .int (nI cn)], gA E c0 601 ks, gA E c1 601 ps, gO dr 4 [.ref a0, .ref a1, .ref a2, .ref a3, .int (nI nr), .int (nI us2_65)], gA E a0 12 sa, gA E a1 12 sk, gA E a2 13 st, gA E a3 600 co2_65]
        rcases rdQ_tw hq_65 with ⟨C_65, hr_65, rfl, rfl, rfl, rfl, rfl, b1_65, b2_65, b3_65⟩ | ⟨kd_65, ix_65, hr_65, rfl, rfl, rfl, b1_65, b2_65, b3_65, b4_65⟩
        · refine g_if_eq (tgt := 85) C dX5_readCondition_68 (by decide) (fun c68 => absurd c68 (by decide)) (fun c68 => ?_)
          rcases Classical.em (ks j_65 = nI 1141) with hx | hx
          · refine g_aload_n C dX5_readCondition_71 rfl ?_
            refine g_sipush (v := nI 1141) C dX5_readCondition_72 (by decide) ?_
            refine g_callV C (c_X5_expect_y E h tk c0 c1 cn dr a0 a1 a2 a3 nr (us + C_65.length) j_65 ks ps sa sk st (cdW co us C_65) fk fp (nI 1141) (by omega) (by omega) (hend) (hx) (by decide)) gX5_readCondition_X5_expect rfl 1 (by decide +kernel) ⟨by decide, by decide⟩ ⟨by decide, by decide⟩ 0 rfl rfl [0, 1, 2, 3, 4, 5, 6, 7, 8] [] (wr := []) rfl (by decide) rfl (by decide) (by decide) rfl rfl (Nat.le_of_ble_eq_true rfl) dX5_readCondition_75 ?_
            rintro _ _ ⟨rfl, rfl⟩
            show gg E _ 4 X 0 0 78 [some (.ref h), some (.int (nI 2)), some (.int (nI 0)), none] [.int (nI 1)] [gO h 5 [.ref tk, .ref dr, .int (nI (j_65 + 1)), .int (ks (j_65 + 1)), .int fk, .int fp], gO tk 8 [.ref c0, .ref c1, .int (nI cn)], gA E c0 601 ks, gA E c1 601 ps, gO dr 4 [.ref a0, .ref a1, .ref a2, .ref a3, .int (nI nr), .int (nI (us + C_65.length))], gA E a0 12 sa, gA E a1 12 sk, gA E a2 13 st, gA E a3 600 (cdW co us C_65)]
            refine g_if_eq (tgt := 85) C dX5_readCondition_78 (by decide) (fun c78 => absurd c78 (by decide)) (fun c78 => ?_)
            refine g_iconst (v := nI 1) C dX5_readCondition_81 (by decide) ?_
            refine g_goto (tgt := 86) C dX5_readCondition_82 (by decide) ?_
            exact g_zret C Rt dX5_readCondition_86 (by decide) (by decide) (by decide) (⟨true, _, _, _, _, _, rfl, rfl, rdQ_ok (by rw [pLv, if_pos (Or.inr c17), if_neg c7, hr_65]; exact if_pos hx) (by omega) (not_end hend b2_65 hx (by decide)) (by omega) rfl rfl⟩)
          · refine g_aload_n C dX5_readCondition_71 rfl ?_
            refine g_sipush (v := nI 1141) C dX5_readCondition_72 (by decide) ?_
            refine g_callV C (c_X5_expect_n E h tk c0 c1 cn dr a0 a1 a2 a3 nr (us + C_65.length) j_65 ks ps sa sk st (cdW co us C_65) fk fp (nI 1141) (by omega) (by omega) (hx)) gX5_readCondition_X5_expect rfl 1 (by decide +kernel) ⟨by decide, by decide⟩ ⟨by decide, by decide⟩ 0 rfl rfl [0, 1, 2, 3, 4, 5, 6, 7, 8] [] (wr := []) rfl (by decide) rfl (by decide) (by decide) rfl rfl (Nat.le_of_ble_eq_true rfl) dX5_readCondition_75 ?_
            rintro _ _ ⟨rfl, rfl⟩
            show gg E _ 4 X 0 0 78 [some (.ref h), some (.int (nI 2)), some (.int (nI 0)), none] [.int (nI 0)] [gO h 5 [.ref tk, .ref dr, .int (nI j_65), .int (ks j_65), .int (nI 1), .int (ps j_65)], gO tk 8 [.ref c0, .ref c1, .int (nI cn)], gA E c0 601 ks, gA E c1 601 ps, gO dr 4 [.ref a0, .ref a1, .ref a2, .ref a3, .int (nI nr), .int (nI (us + C_65.length))], gA E a0 12 sa, gA E a1 12 sk, gA E a2 13 st, gA E a3 600 (cdW co us C_65)]
            refine g_if_eq (tgt := 85) C dX5_readCondition_78 (by decide) (fun c78 => ?_) (fun c78 => absurd c78 (by decide))
            refine g_iconst (v := nI 0) C dX5_readCondition_85 (by decide) ?_
            exact g_zret C Rt dX5_readCondition_86 (by decide) (by decide) (by decide) (⟨false, _, _, _, _, _, rfl, rfl, rdQ_er (by rw [pLv, if_pos (Or.inr c17), if_neg c7, hr_65]; exact if_neg hx) (by omega) b2_65 (by omega) b2_65⟩)
        · refine g_if_eq (tgt := 85) C dX5_readCondition_68 (by decide) (fun c68 => ?_) (fun c68 => absurd c68 (by decide))
          refine g_iconst (v := nI 0) C dX5_readCondition_85 (by decide) ?_
          exact g_zret C Rt dX5_readCondition_86 (by decide) (by decide) (by decide) (⟨false, _, _, _, _, _, rfl, rfl, rdQ_er (by rw [pLv, if_pos (Or.inr c17), if_neg c7, hr_65]; rfl) (by omega) b2_65 (by omega) b4_65⟩)
      · exact absurd c44 c7
    · refine g_aload_n C dX5_readCondition_20 rfl ?_
      refine g_callV C (c_X5_readComparison E h tk c0 c1 cn dr a0 a1 a2 a3 nr us i ks ps sa sk st co fk fp (by omega) (by omega) (hend) (by omega)) gX5_readCondition_X5_readComparison rfl 0 (by decide +kernel) ⟨by decide, by decide⟩ ⟨by decide, by decide⟩ 0 rfl rfl [0, 1, 2, 3, 4, 5, 6, 7, 8] [] (wr := []) rfl (by decide) rfl (by decide) (by decide) rfl rfl (Nat.le_of_ble_eq_true rfl) dX5_readCondition_21 ?_
      rintro _ _ ⟨ok_21, j_21, us2_21, co2_21, fk2_21, fp2_21, rfl, rfl, hq_21⟩
      show gg E _ 4 X 0 0 24 [some (.ref h), some (.int (nI 2)), none, none] [.int (b2i ok_21)] [gO h 5 [.ref tk, .ref dr, .int (nI j_21), .int (ks j_21), .int fk2_21, .int fp2_21], gO tk 8 [.ref c0, .ref c1, .int (nI cn)], gA E c0 601 ks, gA E c1 601 ps, gO dr 4 [.ref a0, .ref a1, .ref a2, .ref a3, .int (nI nr), .int (nI us2_21)], gA E a0 12 sa, gA E a1 12 sk, gA E a2 13 st, gA E a3 600 co2_21]
      exact g_zret C Rt dX5_readCondition_24 (by decide) (by decide) (b2i_01 _) (⟨_, _, _, _, _, _, rfl, rfl, by rw [pLv, if_neg (fun z => z.elim c7 c17)]; exact hq_21⟩)

abbrev rm_c_X5_readBoth_6 : Room := { frames := 22, cells := 0, slots := 0, locals := 502 }
set_option maxHeartbeats 4000000 in
set_option maxRecDepth 100000 in
theorem c_X5_readBoth_6 (E : gE) (h tk c0 c1 cn dr a0 a1 a2 a3 nr us i : Nat) (ks ps sa sk st co : Nat → Int32) (fk fp : Int32) (hi : i < cn) (hcn : cn ≤ 601) (hend : ks (cn - 1) = nI 1011) (hus : us ≤ i) : MM E yX5_readBoth wsX5_readBoth rm_c_X5_readBoth_6 [.ref h, .int (nI 2)] [gO h 5 [.ref tk, .ref dr, .int (nI i), .int (ks i), .int fk, .int fp], gO tk 8 [.ref c0, .ref c1, .int (nI cn)], gA E c0 601 ks, gA E c1 601 ps, gO dr 4 [.ref a0, .ref a1, .ref a2, .ref a3, .int (nI nr), .int (nI us)], gA E a0 12 sa, gA E a1 12 sk, gA E a2 13 st, gA E a3 600 co] (fun rv_ ru_ => ∃ (ok : Bool) (j us2 : Nat) (co2 : Nat → Int32) (fk2 fp2 : Int32), rv_ = some (.int (b2i ok)) ∧ ru_ = [gO h 5 [.ref tk, .ref dr, .int (nI j), .int (ks j), .int fk2, .int fp2], gO tk 8 [.ref c0, .ref c1, .int (nI cn)], gA E c0 601 ks, gA E c1 601 ps, gO dr 4 [.ref a0, .ref a1, .ref a2, .ref a3, .int (nI nr), .int (nI us2)], gA E a0 12 sa, gA E a1 12 sk, gA E a2 13 st, gA E a3 600 co2] ∧ (rdQ (pAll ks (pLv ks 6) i) ps cn i us co fk fp ok j us2 co2 fk2 fp2)) := by
  refine MM.ofG (cc := cX5_readBoth) (maxL := 4) (ret := (some .boolean)) (by decide) rfl (Nat.le_of_ble_eq_true rfl) (ll := [some (.ref h), some (.int (nI 2)), none, none]) rfl ?_
  intro X C Rt
  have C : gx E X cX5_readBoth 4 wsX5_readBoth RX5 := C
  have i_X5 : ∀ w ∈ u_ws RX5 TX5 6, w ∈ wsX5_readBoth := by decide +kernel
  have i_X8 : ∀ w ∈ u_ws RX8 TX8 3, w ∈ wsX5_readBoth := by decide +kernel
  have f_12 : Cond.fieldLink RX5 12 "MarkPages$RuleReader" "tokens" "LMarkPages$Tokens;" ∈ wsX5_readBoth := by decide +kernel
  have f_21 : Cond.fieldLink RX5 21 "MarkPages$RuleReader" "draft" "LMarkPages$RuleBook;" ∈ wsX5_readBoth := by decide +kernel
  have f_25 : Cond.fieldLink RX5 25 "MarkPages$RuleReader" "now" "I" ∈ wsX5_readBoth := by decide +kernel
  have f_76 : Cond.fieldLink RX5 76 "MarkPages$Tokens" "count" "I" ∈ wsX5_readBoth := by decide +kernel
  refine g_aload_n C dX5_readBoth_0 rfl ?_
  refine g_iload_n C dX5_readBoth_1 rfl ?_
  refine g_callV C (c_X5_readCondition_6 E h tk c0 c1 cn dr a0 a1 a2 a3 nr us i ks ps sa sk st co fk fp (by omega) (by omega) (hend) (by omega)) gX5_readBoth_X5_readCondition rfl 1 (by decide +kernel) ⟨by decide, by decide⟩ ⟨by decide, by decide⟩ 0 rfl rfl [0, 1, 2, 3, 4, 5, 6, 7, 8] [] (wr := []) rfl (by decide) rfl (by decide) (by decide) rfl rfl (Nat.le_of_ble_eq_true rfl) dX5_readBoth_2 ?_
  rintro _ _ ⟨ok_2, j_2, us2_2, co2_2, fk2_2, fp2_2, rfl, rfl, hq_2⟩
  show gg E _ 4 X 0 0 5 [some (.ref h), some (.int (nI 2)), none, none] [.int (b2i ok_2)] [gO h 5 [.ref tk, .ref dr, .int (nI j_2), .int (ks j_2), .int fk2_2, .int fp2_2], gO tk 8 [.ref c0, .ref c1, .int (nI cn)], gA E c0 601 ks, gA E c1 601 ps, gO dr 4 [.ref a0, .ref a1, .ref a2, .ref a3, .int (nI nr), .int (nI us2_2)], gA E a0 12 sa, gA E a1 12 sk, gA E a2 13 st, gA E a3 600 co2_2]
  rcases rdQ_tw hq_2 with ⟨C_2, hr_2, rfl, rfl, rfl, rfl, rfl, b1_2, b2_2, b3_2⟩ | ⟨kd_2, ix_2, hr_2, rfl, rfl, rfl, b1_2, b2_2, b3_2, b4_2⟩
  · refine g_istore_n C dX5_readBoth_5 (by decide) rfl (ll' := [some (.ref h), some (.int (nI 2)), some (.int (nI 1)), none]) rfl ?_
    refine g_iconst (v := nI 0) C dX5_readBoth_6 (by decide) ?_
    refine g_istore_n C dX5_readBoth_7 (by decide) rfl (ll' := [some (.ref h), some (.int (nI 2)), some (.int (nI 1)), some (.int (nI 0))]) rfl ?_
    have L8 : ∀ (n8 : Nat) (it j1 f1 : Nat) (C1 : List Int32), cn - j1 < n8 → (j1 < cn) → (i + it ≤ j1) → (f1 + it = 601) → (C1.length + i ≤ j1) → (pAll ks (pLv ks 6) i = lpO ks (nI 1004) (pLv ks 6) f1 j1 C1) → gg E rm_c_X5_readBoth_6 4 X 0 0 8 [some (.ref h), some (.int (nI 2)), some (.int (nI 1)), some (.int (nI it))] [] [gO h 5 [.ref tk, .ref dr, .int (nI j1), .int (ks j1), .int fk, .int fp], gO tk 8 [.ref c0, .ref c1, .int (nI cn)], gA E c0 601 ks, gA E c1 601 ps, gO dr 4 [.ref a0, .ref a1, .ref a2, .ref a3, .int (nI nr), .int (nI (us + C1.length))], gA E a0 12 sa, gA E a1 12 sk, gA E a2 13 st, gA E a3 600 (cdW co us C1)] := by
      intro n8
      induction n8 with
      | zero => intro it j1 f1 C1 hm8; exact absurd hm8 (Nat.not_lt_zero _)
      | succ n8 ih8 =>
        intro it j1 f1 C1 hm8 g1 g2 g3 g4 g5
        refine g_iload_n C dX5_readBoth_8 rfl ?_
        refine g_aload_n C dX5_readBoth_9 rfl ?_
        refine g_get C i_X5 0 0 f_12 rfl rfl (by decide) rfl rfl dX5_readBoth_10 ?_
        refine g_get C i_X8 1 2 f_76 rfl rfl (by decide) rfl rfl dX5_readBoth_13 ?_
        refine g_icmp_ge_n (tgt := 59) C dX5_readBoth_16 (by decide) (by omega) (by omega) (fun c16 => ?_) (fun c16 => ?_)
        · exact absurd c16 (by omega)
        · refine g_iload_n C dX5_readBoth_19 rfl ?_
          refine g_if_eq (tgt := 59) C dX5_readBoth_20 (by decide) (fun c20 => absurd c20 (by decide)) (fun c20 => ?_)
          refine g_aload_n C dX5_readBoth_23 rfl ?_
          refine g_get C i_X5 0 3 f_25 rfl rfl (by decide) rfl rfl dX5_readBoth_24 ?_
          refine g_sipush (v := nI 1004) C dX5_readBoth_27 (by decide) ?_
          refine g_icmp_ne (tgt := 59) C dX5_readBoth_30 (by decide) (fun c30 => ?_) (fun c30 => ?_)
          · refine g_iload_n C dX5_readBoth_59 rfl ?_
            exact g_zret C Rt dX5_readBoth_60 (by decide) (by decide) (by decide) (⟨true, _, _, _, _, _, rfl, rfl, rdQ_ok (by rw [g5, show f1 = f1 - 1 + 1 by omega, lpO, if_neg c30]) (by omega) g1 (by omega) rfl rfl⟩)
          · have hn7 := not_end hend g1 c30 (by decide)
            refine g_aload_n C dX5_readBoth_33 rfl ?_
            refine g_callV C (c_X5_advance E h tk c0 c1 cn dr a0 a1 a2 a3 nr (us + C1.length) j1 ks ps sa sk st (cdW co us C1) fk fp (not_end hend g1 c30 (by decide)) (by omega)) gX5_readBoth_X5_advance rfl 0 (by decide +kernel) ⟨by decide, by decide⟩ ⟨by decide, by decide⟩ 0 rfl rfl [0, 1, 2, 3, 4, 5, 6, 7, 8] [] (wr := []) rfl (by decide) rfl (by decide) (by decide) rfl rfl (Nat.le_of_ble_eq_true rfl) dX5_readBoth_34 ?_
            rintro _ _ ⟨rfl, rfl⟩
            show gg E _ 4 X 0 0 37 [some (.ref h), some (.int (nI 2)), some (.int (nI 1)), some (.int (nI it))] [] [gO h 5 [.ref tk, .ref dr, .int (nI (j1 + 1)), .int (ks (j1 + 1)), .int fk, .int fp], gO tk 8 [.ref c0, .ref c1, .int (nI cn)], gA E c0 601 ks, gA E c1 601 ps, gO dr 4 [.ref a0, .ref a1, .ref a2, .ref a3, .int (nI nr), .int (nI (us + C1.length))], gA E a0 12 sa, gA E a1 12 sk, gA E a2 13 st, gA E a3 600 (cdW co us C1)]
            refine g_aload_n C dX5_readBoth_37 rfl ?_
            refine g_iload_n C dX5_readBoth_38 rfl ?_
            refine g_callV C (c_X5_readCondition_6 E h tk c0 c1 cn dr a0 a1 a2 a3 nr (us + C1.length) (j1 + 1) ks ps sa sk st (cdW co us C1) fk fp (by omega) (by omega) (hend) (by omega)) gX5_readBoth_X5_readCondition rfl 1 (by decide +kernel) ⟨by decide, by decide⟩ ⟨by decide, by decide⟩ 0 rfl rfl [0, 1, 2, 3, 4, 5, 6, 7, 8] [] (wr := []) rfl (by decide) rfl (by decide) (by decide) rfl rfl (Nat.le_of_ble_eq_true rfl) dX5_readBoth_39 ?_
            rintro _ _ ⟨ok_39, j_39, us2_39, co2_39, fk2_39, fp2_39, rfl, rfl, hq_39⟩
            show gg E _ 4 X 0 0 42 [some (.ref h), some (.int (nI 2)), some (.int (nI 1)), some (.int (nI it))] [.int (b2i ok_39)] [gO h 5 [.ref tk, .ref dr, .int (nI j_39), .int (ks j_39), .int fk2_39, .int fp2_39], gO tk 8 [.ref c0, .ref c1, .int (nI cn)], gA E c0 601 ks, gA E c1 601 ps, gO dr 4 [.ref a0, .ref a1, .ref a2, .ref a3, .int (nI nr), .int (nI us2_39)], gA E a0 12 sa, gA E a1 12 sk, gA E a2 13 st, gA E a3 600 co2_39]
            rcases rdQ_tw hq_39 with ⟨C_39, hr_39, rfl, rfl, rfl, rfl, rfl, b1_39, b2_39, b3_39⟩ | ⟨kd_39, ix_39, hr_39, rfl, rfl, rfl, b1_39, b2_39, b3_39, b4_39⟩
            · refine g_istore_n C dX5_readBoth_42 (by decide) rfl (ll' := [some (.ref h), some (.int (nI 2)), some (.int (nI 1)), some (.int (nI it))]) rfl ?_
              refine g_aload_n C dX5_readBoth_43 rfl ?_
              refine g_get C i_X5 0 1 f_21 rfl rfl (by decide) rfl rfl dX5_readBoth_44 ?_
              refine g_sipush (v := nI 1004) C dX5_readBoth_47 (by decide) ?_
              refine g_callV C (c_X4_append E dr a0 a1 a2 a3 nr ((us + C1.length) + C_39.length) sa sk st (cdW (cdW co us C1) (us + C1.length) C_39) (nI 1004) (by omega)) gX5_readBoth_X4_append rfl 1 (by decide +kernel) ⟨by decide, by decide⟩ ⟨by decide, by decide⟩ 4 rfl rfl [4, 5, 6, 7, 8] [0, 1, 2, 3] (wr := [gO h 5 [.ref tk, .ref dr, .int (nI j_39), .int (ks j_39), .int fk, .int fp], gO tk 8 [.ref c0, .ref c1, .int (nI cn)], gA E c0 601 ks, gA E c1 601 ps]) rfl (by decide) rfl (by decide) (by decide) rfl rfl (Nat.le_of_ble_eq_true rfl) dX5_readBoth_50 ?_
              rintro _ _ ⟨rfl, rfl⟩
              show gg E _ 4 X 0 0 53 [some (.ref h), some (.int (nI 2)), some (.int (nI 1)), some (.int (nI it))] [] [gO h 5 [.ref tk, .ref dr, .int (nI j_39), .int (ks j_39), .int fk, .int fp], gO tk 8 [.ref c0, .ref c1, .int (nI cn)], gA E c0 601 ks, gA E c1 601 ps, gO dr 4 [.ref a0, .ref a1, .ref a2, .ref a3, .int (nI nr), .int (nI (((us + C1.length) + C_39.length) + 1))], gA E a0 12 sa, gA E a1 12 sk, gA E a2 13 st, gA E a3 600 (upd (cdW (cdW co us C1) (us + C1.length) C_39) ((us + C1.length) + C_39.length) (nI 1004))]
              rw [ln3 us C1 C_39 (nI 1004), cd3 co us C1 C_39 (nI 1004)]
              refine g_iinc_n (y := 1) C dX5_readBoth_53 rfl (by decide) (by decide) rfl (ll' := [some (.ref h), some (.int (nI 2)), some (.int (nI 1)), some (.int (nI (it + 1)))]) rfl ?_
              refine g_goto (tgt := 8) C dX5_readBoth_56 (by decide) ?_
              exact ih8 (it + 1) j_39 (f1 - 1) (C1 ++ C_39 ++ [nI 1004]) (by omega) (by omega) (by omega) (by omega) (by have := ln3 us C1 C_39 (nI 1004); omega) (by rw [g5, show f1 = f1 - 1 + 1 by omega, lpO, if_pos c30, hr_39]; rfl)
            · refine g_istore_n C dX5_readBoth_42 (by decide) rfl (ll' := [some (.ref h), some (.int (nI 2)), some (.int (nI 0)), some (.int (nI it))]) rfl ?_
              refine g_aload_n C dX5_readBoth_43 rfl ?_
              refine g_get C i_X5 0 1 f_21 rfl rfl (by decide) rfl rfl dX5_readBoth_44 ?_
              refine g_sipush (v := nI 1004) C dX5_readBoth_47 (by decide) ?_
              refine g_callV C (c_X4_append E dr a0 a1 a2 a3 nr us2_39 sa sk st co2_39 (nI 1004) (by omega)) gX5_readBoth_X4_append rfl 1 (by decide +kernel) ⟨by decide, by decide⟩ ⟨by decide, by decide⟩ 4 rfl rfl [4, 5, 6, 7, 8] [0, 1, 2, 3] (wr := [gO h 5 [.ref tk, .ref dr, .int (nI j_39), .int (ks j_39), .int (nI kd_39), .int (ps ix_39)], gO tk 8 [.ref c0, .ref c1, .int (nI cn)], gA E c0 601 ks, gA E c1 601 ps]) rfl (by decide) rfl (by decide) (by decide) rfl rfl (Nat.le_of_ble_eq_true rfl) dX5_readBoth_50 ?_
              rintro _ _ ⟨rfl, rfl⟩
              show gg E _ 4 X 0 0 53 [some (.ref h), some (.int (nI 2)), some (.int (nI 0)), some (.int (nI it))] [] [gO h 5 [.ref tk, .ref dr, .int (nI j_39), .int (ks j_39), .int (nI kd_39), .int (ps ix_39)], gO tk 8 [.ref c0, .ref c1, .int (nI cn)], gA E c0 601 ks, gA E c1 601 ps, gO dr 4 [.ref a0, .ref a1, .ref a2, .ref a3, .int (nI nr), .int (nI (us2_39 + 1))], gA E a0 12 sa, gA E a1 12 sk, gA E a2 13 st, gA E a3 600 (upd co2_39 us2_39 (nI 1004))]
              refine g_iinc_n (y := 1) C dX5_readBoth_53 rfl (by decide) (by decide) rfl (ll' := [some (.ref h), some (.int (nI 2)), some (.int (nI 0)), some (.int (nI (it + 1)))]) rfl ?_
              refine g_goto (tgt := 8) C dX5_readBoth_56 (by decide) ?_
              refine g_iload_n C dX5_readBoth_8 rfl ?_
              refine g_aload_n C dX5_readBoth_9 rfl ?_
              refine g_get C i_X5 0 0 f_12 rfl rfl (by decide) rfl rfl dX5_readBoth_10 ?_
              refine g_get C i_X8 1 2 f_76 rfl rfl (by decide) rfl rfl dX5_readBoth_13 ?_
              refine g_icmp_ge_n (tgt := 59) C dX5_readBoth_16 (by decide) (by omega) (by omega) (fun c16 => ?_) (fun c16 => ?_)
              · refine g_iload_n C dX5_readBoth_59 rfl ?_
                exact g_zret C Rt dX5_readBoth_60 (by decide) (by decide) (by decide) (⟨false, _, _, _, _, _, rfl, rfl, rdQ_er (by rw [g5, show f1 = f1 - 1 + 1 by omega, lpO, if_pos c30, hr_39]) (by omega) b2_39 (by omega) b4_39⟩)
              · refine g_iload_n C dX5_readBoth_19 rfl ?_
                refine g_if_eq (tgt := 59) C dX5_readBoth_20 (by decide) (fun c20 => ?_) (fun c20 => absurd c20 (by decide))
                refine g_iload_n C dX5_readBoth_59 rfl ?_
                exact g_zret C Rt dX5_readBoth_60 (by decide) (by decide) (by decide) (⟨false, _, _, _, _, _, rfl, rfl, rdQ_er (by rw [g5, show f1 = f1 - 1 + 1 by omega, lpO, if_pos c30, hr_39]) (by omega) b2_39 (by omega) b4_39⟩)
    exact L8 _ 0 j_2 601 C_2 (Nat.lt_succ_self _) (by omega) (by omega) (by omega) (by omega) (by rw [pAll, hr_2]; rfl)
  · refine g_istore_n C dX5_readBoth_5 (by decide) rfl (ll' := [some (.ref h), some (.int (nI 2)), some (.int (nI 0)), none]) rfl ?_
    refine g_iconst (v := nI 0) C dX5_readBoth_6 (by decide) ?_
    refine g_istore_n C dX5_readBoth_7 (by decide) rfl (ll' := [some (.ref h), some (.int (nI 2)), some (.int (nI 0)), some (.int (nI 0))]) rfl ?_
    refine g_iload_n C dX5_readBoth_8 rfl ?_
    refine g_aload_n C dX5_readBoth_9 rfl ?_
    refine g_get C i_X5 0 0 f_12 rfl rfl (by decide) rfl rfl dX5_readBoth_10 ?_
    refine g_get C i_X8 1 2 f_76 rfl rfl (by decide) rfl rfl dX5_readBoth_13 ?_
    refine g_icmp_ge_n (tgt := 59) C dX5_readBoth_16 (by decide) (by omega) (by omega) (fun c16 => ?_) (fun c16 => ?_)
    · refine g_iload_n C dX5_readBoth_59 rfl ?_
      exact g_zret C Rt dX5_readBoth_60 (by decide) (by decide) (by decide) (⟨false, _, _, _, _, _, rfl, rfl, rdQ_er (by rw [pAll, hr_2]; rfl) b1_2 b2_2 b3_2 b4_2⟩)
    · refine g_iload_n C dX5_readBoth_19 rfl ?_
      refine g_if_eq (tgt := 59) C dX5_readBoth_20 (by decide) (fun c20 => ?_) (fun c20 => absurd c20 (by decide))
      refine g_iload_n C dX5_readBoth_59 rfl ?_
      exact g_zret C Rt dX5_readBoth_60 (by decide) (by decide) (by decide) (⟨false, _, _, _, _, _, rfl, rfl, rdQ_er (by rw [pAll, hr_2]; rfl) b1_2 b2_2 b3_2 b4_2⟩)

abbrev rm_c_X5_readEither_6 : Room := { frames := 23, cells := 0, slots := 0, locals := 525 }
set_option maxHeartbeats 4000000 in
set_option maxRecDepth 100000 in
theorem c_X5_readEither_6 (E : gE) (h tk c0 c1 cn dr a0 a1 a2 a3 nr us i : Nat) (ks ps sa sk st co : Nat → Int32) (fk fp : Int32) (hi : i < cn) (hcn : cn ≤ 601) (hend : ks (cn - 1) = nI 1011) (hus : us ≤ i) : MM E yX5_readEither wsX5_readEither rm_c_X5_readEither_6 [.ref h, .int (nI 2)] [gO h 5 [.ref tk, .ref dr, .int (nI i), .int (ks i), .int fk, .int fp], gO tk 8 [.ref c0, .ref c1, .int (nI cn)], gA E c0 601 ks, gA E c1 601 ps, gO dr 4 [.ref a0, .ref a1, .ref a2, .ref a3, .int (nI nr), .int (nI us)], gA E a0 12 sa, gA E a1 12 sk, gA E a2 13 st, gA E a3 600 co] (fun rv_ ru_ => ∃ (ok : Bool) (j us2 : Nat) (co2 : Nat → Int32) (fk2 fp2 : Int32), rv_ = some (.int (b2i ok)) ∧ ru_ = [gO h 5 [.ref tk, .ref dr, .int (nI j), .int (ks j), .int fk2, .int fp2], gO tk 8 [.ref c0, .ref c1, .int (nI cn)], gA E c0 601 ks, gA E c1 601 ps, gO dr 4 [.ref a0, .ref a1, .ref a2, .ref a3, .int (nI nr), .int (nI us2)], gA E a0 12 sa, gA E a1 12 sk, gA E a2 13 st, gA E a3 600 co2] ∧ (rdQ (pAny ks (pLv ks 6) i) ps cn i us co fk fp ok j us2 co2 fk2 fp2)) := by
  refine MM.ofG (cc := cX5_readEither) (maxL := 4) (ret := (some .boolean)) (by decide) rfl (Nat.le_of_ble_eq_true rfl) (ll := [some (.ref h), some (.int (nI 2)), none, none]) rfl ?_
  intro X C Rt
  have C : gx E X cX5_readEither 4 wsX5_readEither RX5 := C
  have i_X5 : ∀ w ∈ u_ws RX5 TX5 6, w ∈ wsX5_readEither := by decide +kernel
  have i_X8 : ∀ w ∈ u_ws RX8 TX8 3, w ∈ wsX5_readEither := by decide +kernel
  have f_12 : Cond.fieldLink RX5 12 "MarkPages$RuleReader" "tokens" "LMarkPages$Tokens;" ∈ wsX5_readEither := by decide +kernel
  have f_21 : Cond.fieldLink RX5 21 "MarkPages$RuleReader" "draft" "LMarkPages$RuleBook;" ∈ wsX5_readEither := by decide +kernel
  have f_25 : Cond.fieldLink RX5 25 "MarkPages$RuleReader" "now" "I" ∈ wsX5_readEither := by decide +kernel
  have f_76 : Cond.fieldLink RX5 76 "MarkPages$Tokens" "count" "I" ∈ wsX5_readEither := by decide +kernel
  refine g_aload_n C dX5_readEither_0 rfl ?_
  refine g_iload_n C dX5_readEither_1 rfl ?_
  refine g_callV C (c_X5_readBoth_6 E h tk c0 c1 cn dr a0 a1 a2 a3 nr us i ks ps sa sk st co fk fp (by omega) (by omega) (hend) (by omega)) gX5_readEither_X5_readBoth rfl 1 (by decide +kernel) ⟨by decide, by decide⟩ ⟨by decide, by decide⟩ 0 rfl rfl [0, 1, 2, 3, 4, 5, 6, 7, 8] [] (wr := []) rfl (by decide) rfl (by decide) (by decide) rfl rfl (Nat.le_of_ble_eq_true rfl) dX5_readEither_2 ?_
  rintro _ _ ⟨ok_2, j_2, us2_2, co2_2, fk2_2, fp2_2, rfl, rfl, hq_2⟩
  show gg E _ 4 X 0 0 5 [some (.ref h), some (.int (nI 2)), none, none] [.int (b2i ok_2)] [gO h 5 [.ref tk, .ref dr, .int (nI j_2), .int (ks j_2), .int fk2_2, .int fp2_2], gO tk 8 [.ref c0, .ref c1, .int (nI cn)], gA E c0 601 ks, gA E c1 601 ps, gO dr 4 [.ref a0, .ref a1, .ref a2, .ref a3, .int (nI nr), .int (nI us2_2)], gA E a0 12 sa, gA E a1 12 sk, gA E a2 13 st, gA E a3 600 co2_2]
  rcases rdQ_tw hq_2 with ⟨C_2, hr_2, rfl, rfl, rfl, rfl, rfl, b1_2, b2_2, b3_2⟩ | ⟨kd_2, ix_2, hr_2, rfl, rfl, rfl, b1_2, b2_2, b3_2, b4_2⟩
  · refine g_istore_n C dX5_readEither_5 (by decide) rfl (ll' := [some (.ref h), some (.int (nI 2)), some (.int (nI 1)), none]) rfl ?_
    refine g_iconst (v := nI 0) C dX5_readEither_6 (by decide) ?_
    refine g_istore_n C dX5_readEither_7 (by decide) rfl (ll' := [some (.ref h), some (.int (nI 2)), some (.int (nI 1)), some (.int (nI 0))]) rfl ?_
    have L8 : ∀ (n8 : Nat) (it j1 f1 : Nat) (C1 : List Int32), cn - j1 < n8 → (j1 < cn) → (i + it ≤ j1) → (f1 + it = 601) → (C1.length + i ≤ j1) → (pAny ks (pLv ks 6) i = lpO ks (nI 1003) (pAll ks (pLv ks 6)) f1 j1 C1) → gg E rm_c_X5_readEither_6 4 X 0 0 8 [some (.ref h), some (.int (nI 2)), some (.int (nI 1)), some (.int (nI it))] [] [gO h 5 [.ref tk, .ref dr, .int (nI j1), .int (ks j1), .int fk, .int fp], gO tk 8 [.ref c0, .ref c1, .int (nI cn)], gA E c0 601 ks, gA E c1 601 ps, gO dr 4 [.ref a0, .ref a1, .ref a2, .ref a3, .int (nI nr), .int (nI (us + C1.length))], gA E a0 12 sa, gA E a1 12 sk, gA E a2 13 st, gA E a3 600 (cdW co us C1)] := by
      intro n8
      induction n8 with
      | zero => intro it j1 f1 C1 hm8; exact absurd hm8 (Nat.not_lt_zero _)
      | succ n8 ih8 =>
        intro it j1 f1 C1 hm8 g1 g2 g3 g4 g5
        refine g_iload_n C dX5_readEither_8 rfl ?_
        refine g_aload_n C dX5_readEither_9 rfl ?_
        refine g_get C i_X5 0 0 f_12 rfl rfl (by decide) rfl rfl dX5_readEither_10 ?_
        refine g_get C i_X8 1 2 f_76 rfl rfl (by decide) rfl rfl dX5_readEither_13 ?_
        refine g_icmp_ge_n (tgt := 59) C dX5_readEither_16 (by decide) (by omega) (by omega) (fun c16 => ?_) (fun c16 => ?_)
        · exact absurd c16 (by omega)
        · refine g_iload_n C dX5_readEither_19 rfl ?_
          refine g_if_eq (tgt := 59) C dX5_readEither_20 (by decide) (fun c20 => absurd c20 (by decide)) (fun c20 => ?_)
          refine g_aload_n C dX5_readEither_23 rfl ?_
          refine g_get C i_X5 0 3 f_25 rfl rfl (by decide) rfl rfl dX5_readEither_24 ?_
          refine g_sipush (v := nI 1003) C dX5_readEither_27 (by decide) ?_
          refine g_icmp_ne (tgt := 59) C dX5_readEither_30 (by decide) (fun c30 => ?_) (fun c30 => ?_)
          · refine g_iload_n C dX5_readEither_59 rfl ?_
            exact g_zret C Rt dX5_readEither_60 (by decide) (by decide) (by decide) (⟨true, _, _, _, _, _, rfl, rfl, rdQ_ok (by rw [g5, show f1 = f1 - 1 + 1 by omega, lpO, if_neg c30]) (by omega) g1 (by omega) rfl rfl⟩)
          · have hn7 := not_end hend g1 c30 (by decide)
            refine g_aload_n C dX5_readEither_33 rfl ?_
            refine g_callV C (c_X5_advance E h tk c0 c1 cn dr a0 a1 a2 a3 nr (us + C1.length) j1 ks ps sa sk st (cdW co us C1) fk fp (not_end hend g1 c30 (by decide)) (by omega)) gX5_readEither_X5_advance rfl 0 (by decide +kernel) ⟨by decide, by decide⟩ ⟨by decide, by decide⟩ 0 rfl rfl [0, 1, 2, 3, 4, 5, 6, 7, 8] [] (wr := []) rfl (by decide) rfl (by decide) (by decide) rfl rfl (Nat.le_of_ble_eq_true rfl) dX5_readEither_34 ?_
            rintro _ _ ⟨rfl, rfl⟩
            show gg E _ 4 X 0 0 37 [some (.ref h), some (.int (nI 2)), some (.int (nI 1)), some (.int (nI it))] [] [gO h 5 [.ref tk, .ref dr, .int (nI (j1 + 1)), .int (ks (j1 + 1)), .int fk, .int fp], gO tk 8 [.ref c0, .ref c1, .int (nI cn)], gA E c0 601 ks, gA E c1 601 ps, gO dr 4 [.ref a0, .ref a1, .ref a2, .ref a3, .int (nI nr), .int (nI (us + C1.length))], gA E a0 12 sa, gA E a1 12 sk, gA E a2 13 st, gA E a3 600 (cdW co us C1)]
            refine g_aload_n C dX5_readEither_37 rfl ?_
            refine g_iload_n C dX5_readEither_38 rfl ?_
            refine g_callV C (c_X5_readBoth_6 E h tk c0 c1 cn dr a0 a1 a2 a3 nr (us + C1.length) (j1 + 1) ks ps sa sk st (cdW co us C1) fk fp (by omega) (by omega) (hend) (by omega)) gX5_readEither_X5_readBoth rfl 1 (by decide +kernel) ⟨by decide, by decide⟩ ⟨by decide, by decide⟩ 0 rfl rfl [0, 1, 2, 3, 4, 5, 6, 7, 8] [] (wr := []) rfl (by decide) rfl (by decide) (by decide) rfl rfl (Nat.le_of_ble_eq_true rfl) dX5_readEither_39 ?_
            rintro _ _ ⟨ok_39, j_39, us2_39, co2_39, fk2_39, fp2_39, rfl, rfl, hq_39⟩
            show gg E _ 4 X 0 0 42 [some (.ref h), some (.int (nI 2)), some (.int (nI 1)), some (.int (nI it))] [.int (b2i ok_39)] [gO h 5 [.ref tk, .ref dr, .int (nI j_39), .int (ks j_39), .int fk2_39, .int fp2_39], gO tk 8 [.ref c0, .ref c1, .int (nI cn)], gA E c0 601 ks, gA E c1 601 ps, gO dr 4 [.ref a0, .ref a1, .ref a2, .ref a3, .int (nI nr), .int (nI us2_39)], gA E a0 12 sa, gA E a1 12 sk, gA E a2 13 st, gA E a3 600 co2_39]
            rcases rdQ_tw hq_39 with ⟨C_39, hr_39, rfl, rfl, rfl, rfl, rfl, b1_39, b2_39, b3_39⟩ | ⟨kd_39, ix_39, hr_39, rfl, rfl, rfl, b1_39, b2_39, b3_39, b4_39⟩
            · refine g_istore_n C dX5_readEither_42 (by decide) rfl (ll' := [some (.ref h), some (.int (nI 2)), some (.int (nI 1)), some (.int (nI it))]) rfl ?_
              refine g_aload_n C dX5_readEither_43 rfl ?_
              refine g_get C i_X5 0 1 f_21 rfl rfl (by decide) rfl rfl dX5_readEither_44 ?_
              refine g_sipush (v := nI 1003) C dX5_readEither_47 (by decide) ?_
              refine g_callV C (c_X4_append E dr a0 a1 a2 a3 nr ((us + C1.length) + C_39.length) sa sk st (cdW (cdW co us C1) (us + C1.length) C_39) (nI 1003) (by omega)) gX5_readEither_X4_append rfl 1 (by decide +kernel) ⟨by decide, by decide⟩ ⟨by decide, by decide⟩ 4 rfl rfl [4, 5, 6, 7, 8] [0, 1, 2, 3] (wr := [gO h 5 [.ref tk, .ref dr, .int (nI j_39), .int (ks j_39), .int fk, .int fp], gO tk 8 [.ref c0, .ref c1, .int (nI cn)], gA E c0 601 ks, gA E c1 601 ps]) rfl (by decide) rfl (by decide) (by decide) rfl rfl (Nat.le_of_ble_eq_true rfl) dX5_readEither_50 ?_
              rintro _ _ ⟨rfl, rfl⟩
              show gg E _ 4 X 0 0 53 [some (.ref h), some (.int (nI 2)), some (.int (nI 1)), some (.int (nI it))] [] [gO h 5 [.ref tk, .ref dr, .int (nI j_39), .int (ks j_39), .int fk, .int fp], gO tk 8 [.ref c0, .ref c1, .int (nI cn)], gA E c0 601 ks, gA E c1 601 ps, gO dr 4 [.ref a0, .ref a1, .ref a2, .ref a3, .int (nI nr), .int (nI (((us + C1.length) + C_39.length) + 1))], gA E a0 12 sa, gA E a1 12 sk, gA E a2 13 st, gA E a3 600 (upd (cdW (cdW co us C1) (us + C1.length) C_39) ((us + C1.length) + C_39.length) (nI 1003))]
              rw [ln3 us C1 C_39 (nI 1003), cd3 co us C1 C_39 (nI 1003)]
              refine g_iinc_n (y := 1) C dX5_readEither_53 rfl (by decide) (by decide) rfl (ll' := [some (.ref h), some (.int (nI 2)), some (.int (nI 1)), some (.int (nI (it + 1)))]) rfl ?_
              refine g_goto (tgt := 8) C dX5_readEither_56 (by decide) ?_
              exact ih8 (it + 1) j_39 (f1 - 1) (C1 ++ C_39 ++ [nI 1003]) (by omega) (by omega) (by omega) (by omega) (by have := ln3 us C1 C_39 (nI 1003); omega) (by rw [g5, show f1 = f1 - 1 + 1 by omega, lpO, if_pos c30, hr_39]; rfl)
            · refine g_istore_n C dX5_readEither_42 (by decide) rfl (ll' := [some (.ref h), some (.int (nI 2)), some (.int (nI 0)), some (.int (nI it))]) rfl ?_
              refine g_aload_n C dX5_readEither_43 rfl ?_
              refine g_get C i_X5 0 1 f_21 rfl rfl (by decide) rfl rfl dX5_readEither_44 ?_
              refine g_sipush (v := nI 1003) C dX5_readEither_47 (by decide) ?_
              refine g_callV C (c_X4_append E dr a0 a1 a2 a3 nr us2_39 sa sk st co2_39 (nI 1003) (by omega)) gX5_readEither_X4_append rfl 1 (by decide +kernel) ⟨by decide, by decide⟩ ⟨by decide, by decide⟩ 4 rfl rfl [4, 5, 6, 7, 8] [0, 1, 2, 3] (wr := [gO h 5 [.ref tk, .ref dr, .int (nI j_39), .int (ks j_39), .int (nI kd_39), .int (ps ix_39)], gO tk 8 [.ref c0, .ref c1, .int (nI cn)], gA E c0 601 ks, gA E c1 601 ps]) rfl (by decide) rfl (by decide) (by decide) rfl rfl (Nat.le_of_ble_eq_true rfl) dX5_readEither_50 ?_
              rintro _ _ ⟨rfl, rfl⟩
              show gg E _ 4 X 0 0 53 [some (.ref h), some (.int (nI 2)), some (.int (nI 0)), some (.int (nI it))] [] [gO h 5 [.ref tk, .ref dr, .int (nI j_39), .int (ks j_39), .int (nI kd_39), .int (ps ix_39)], gO tk 8 [.ref c0, .ref c1, .int (nI cn)], gA E c0 601 ks, gA E c1 601 ps, gO dr 4 [.ref a0, .ref a1, .ref a2, .ref a3, .int (nI nr), .int (nI (us2_39 + 1))], gA E a0 12 sa, gA E a1 12 sk, gA E a2 13 st, gA E a3 600 (upd co2_39 us2_39 (nI 1003))]
              refine g_iinc_n (y := 1) C dX5_readEither_53 rfl (by decide) (by decide) rfl (ll' := [some (.ref h), some (.int (nI 2)), some (.int (nI 0)), some (.int (nI (it + 1)))]) rfl ?_
              refine g_goto (tgt := 8) C dX5_readEither_56 (by decide) ?_
              refine g_iload_n C dX5_readEither_8 rfl ?_
              refine g_aload_n C dX5_readEither_9 rfl ?_
              refine g_get C i_X5 0 0 f_12 rfl rfl (by decide) rfl rfl dX5_readEither_10 ?_
              refine g_get C i_X8 1 2 f_76 rfl rfl (by decide) rfl rfl dX5_readEither_13 ?_
              refine g_icmp_ge_n (tgt := 59) C dX5_readEither_16 (by decide) (by omega) (by omega) (fun c16 => ?_) (fun c16 => ?_)
              · refine g_iload_n C dX5_readEither_59 rfl ?_
                exact g_zret C Rt dX5_readEither_60 (by decide) (by decide) (by decide) (⟨false, _, _, _, _, _, rfl, rfl, rdQ_er (by rw [g5, show f1 = f1 - 1 + 1 by omega, lpO, if_pos c30, hr_39]) (by omega) b2_39 (by omega) b4_39⟩)
              · refine g_iload_n C dX5_readEither_19 rfl ?_
                refine g_if_eq (tgt := 59) C dX5_readEither_20 (by decide) (fun c20 => ?_) (fun c20 => absurd c20 (by decide))
                refine g_iload_n C dX5_readEither_59 rfl ?_
                exact g_zret C Rt dX5_readEither_60 (by decide) (by decide) (by decide) (⟨false, _, _, _, _, _, rfl, rfl, rdQ_er (by rw [g5, show f1 = f1 - 1 + 1 by omega, lpO, if_pos c30, hr_39]) (by omega) b2_39 (by omega) b4_39⟩)
    exact L8 _ 0 j_2 601 C_2 (Nat.lt_succ_self _) (by omega) (by omega) (by omega) (by omega) (by rw [pAny, hr_2]; rfl)
  · refine g_istore_n C dX5_readEither_5 (by decide) rfl (ll' := [some (.ref h), some (.int (nI 2)), some (.int (nI 0)), none]) rfl ?_
    refine g_iconst (v := nI 0) C dX5_readEither_6 (by decide) ?_
    refine g_istore_n C dX5_readEither_7 (by decide) rfl (ll' := [some (.ref h), some (.int (nI 2)), some (.int (nI 0)), some (.int (nI 0))]) rfl ?_
    refine g_iload_n C dX5_readEither_8 rfl ?_
    refine g_aload_n C dX5_readEither_9 rfl ?_
    refine g_get C i_X5 0 0 f_12 rfl rfl (by decide) rfl rfl dX5_readEither_10 ?_
    refine g_get C i_X8 1 2 f_76 rfl rfl (by decide) rfl rfl dX5_readEither_13 ?_
    refine g_icmp_ge_n (tgt := 59) C dX5_readEither_16 (by decide) (by omega) (by omega) (fun c16 => ?_) (fun c16 => ?_)
    · refine g_iload_n C dX5_readEither_59 rfl ?_
      exact g_zret C Rt dX5_readEither_60 (by decide) (by decide) (by decide) (⟨false, _, _, _, _, _, rfl, rfl, rdQ_er (by rw [pAny, hr_2]; rfl) b1_2 b2_2 b3_2 b4_2⟩)
    · refine g_iload_n C dX5_readEither_19 rfl ?_
      refine g_if_eq (tgt := 59) C dX5_readEither_20 (by decide) (fun c20 => ?_) (fun c20 => absurd c20 (by decide))
      refine g_iload_n C dX5_readEither_59 rfl ?_
      exact g_zret C Rt dX5_readEither_60 (by decide) (by decide) (by decide) (⟨false, _, _, _, _, _, rfl, rfl, rdQ_er (by rw [pAny, hr_2]; rfl) b1_2 b2_2 b3_2 b4_2⟩)

abbrev rm_c_X5_readCondition_7 : Room := { frames := 24, cells := 0, slots := 0, locals := 548 }
set_option maxHeartbeats 4000000 in
set_option maxRecDepth 100000 in
theorem c_X5_readCondition_7 (E : gE) (h tk c0 c1 cn dr a0 a1 a2 a3 nr us i : Nat) (ks ps sa sk st co : Nat → Int32) (fk fp : Int32) (hi : i < cn) (hcn : cn ≤ 601) (hend : ks (cn - 1) = nI 1011) (hus : us ≤ i) : MM E yX5_readCondition wsX5_readCondition rm_c_X5_readCondition_7 [.ref h, .int (nI 1)] [gO h 5 [.ref tk, .ref dr, .int (nI i), .int (ks i), .int fk, .int fp], gO tk 8 [.ref c0, .ref c1, .int (nI cn)], gA E c0 601 ks, gA E c1 601 ps, gO dr 4 [.ref a0, .ref a1, .ref a2, .ref a3, .int (nI nr), .int (nI us)], gA E a0 12 sa, gA E a1 12 sk, gA E a2 13 st, gA E a3 600 co] (fun rv_ ru_ => ∃ (ok : Bool) (j us2 : Nat) (co2 : Nat → Int32) (fk2 fp2 : Int32), rv_ = some (.int (b2i ok)) ∧ ru_ = [gO h 5 [.ref tk, .ref dr, .int (nI j), .int (ks j), .int fk2, .int fp2], gO tk 8 [.ref c0, .ref c1, .int (nI cn)], gA E c0 601 ks, gA E c1 601 ps, gO dr 4 [.ref a0, .ref a1, .ref a2, .ref a3, .int (nI nr), .int (nI us2)], gA E a0 12 sa, gA E a1 12 sk, gA E a2 13 st, gA E a3 600 co2] ∧ (rdQ (pLv ks 7 i) ps cn i us co fk fp ok j us2 co2 fk2 fp2)) := by
  refine MM.ofG (cc := cX5_readCondition) (maxL := 4) (ret := (some .boolean)) (by decide) rfl (Nat.le_of_ble_eq_true rfl) (ll := [some (.ref h), some (.int (nI 1)), none, none]) rfl ?_
  intro X C Rt
  have C : gx E X cX5_readCondition 4 wsX5_readCondition RX5 := C
  have i_X5 : ∀ w ∈ u_ws RX5 TX5 6, w ∈ wsX5_readCondition := by decide +kernel
  have f_21 : Cond.fieldLink RX5 21 "MarkPages$RuleReader" "draft" "LMarkPages$RuleBook;" ∈ wsX5_readCondition := by decide +kernel
  have f_25 : Cond.fieldLink RX5 25 "MarkPages$RuleReader" "now" "I" ∈ wsX5_readCondition := by decide +kernel
  refine g_aload_n C dX5_readCondition_0 rfl ?_
  refine g_get C i_X5 0 3 f_25 rfl rfl (by decide) rfl rfl dX5_readCondition_1 ?_
  refine g_sipush (v := nI 1005) C dX5_readCondition_4 (by decide) ?_
  refine g_icmp_eq (tgt := 25) C dX5_readCondition_7 (by decide) (fun c7 => ?_) (fun c7 => ?_)
  · refine g_iload_n C dX5_readCondition_25 rfl ?_
    refine g_bipush (v := nI 8) C dX5_readCondition_26 (by decide) ?_
    refine g_icmp_lt (tgt := 37) C dX5_readCondition_28 (by decide) (fun c28 => ?_) (fun c28 => absurd c28 (by decide))
    refine g_aload_n C dX5_readCondition_37 rfl ?_
    refine g_get C i_X5 0 3 f_25 rfl rfl (by decide) rfl rfl dX5_readCondition_38 ?_
    refine g_sipush (v := nI 1005) C dX5_readCondition_41 (by decide) ?_
    refine g_icmp_ne (tgt := 51) C dX5_readCondition_44 (by decide) (fun c44 => ?_) (fun c44 => ?_)
    · exact absurd c7 c44
    · refine g_iconst (v := nI 1) C dX5_readCondition_47 (by decide) ?_
      refine g_goto (tgt := 52) C dX5_readCondition_48 (by decide) ?_
      refine g_istore_n C dX5_readCondition_52 (by decide) rfl (ll' := [some (.ref h), some (.int (nI 1)), some (.int (nI 1)), none]) rfl ?_
      have hn8 := not_end hend hi c7 (by decide)
      refine g_aload_n C dX5_readCondition_53 rfl ?_
      refine g_callV C (c_X5_advance E h tk c0 c1 cn dr a0 a1 a2 a3 nr us i ks ps sa sk st co fk fp (hn8) (by omega)) gX5_readCondition_X5_advance rfl 0 (by decide +kernel) ⟨by decide, by decide⟩ ⟨by decide, by decide⟩ 0 rfl rfl [0, 1, 2, 3, 4, 5, 6, 7, 8] [] (wr := []) rfl (by decide) rfl (by decide) (by decide) rfl rfl (Nat.le_of_ble_eq_true rfl) dX5_readCondition_54 ?_
      rintro _ _ ⟨rfl, rfl⟩
      show gg E _ 4 X 0 0 57 [some (.ref h), some (.int (nI 1)), some (.int (nI 1)), none] [] [gO h 5 [.ref tk, .ref dr, .int (nI (i + 1)), .int (ks (i + 1)), .int fk, .int fp], gO tk 8 [.ref c0, .ref c1, .int (nI cn)], gA E c0 601 ks, gA E c1 601 ps, gO dr 4 [.ref a0, .ref a1, .ref a2, .ref a3, .int (nI nr), .int (nI us)], gA E a0 12 sa, gA E a1 12 sk, gA E a2 13 st, gA E a3 600 co]
      refine g_iload_n C dX5_readCondition_57 rfl ?_
      refine g_if_ne (tgt := 87) C dX5_readCondition_58 (by decide) (fun c58 => ?_) (fun c58 => absurd c58 (by decide))
      refine g_aload_n C dX5_readCondition_87 rfl ?_
      refine g_iload_n C dX5_readCondition_88 rfl ?_
      refine g_iconst (v := nI 1) C dX5_readCondition_89 (by decide) ?_
      refine g_iadd C dX5_readCondition_90 (g_top (x' := nI 2) (by decide) ?_)
      refine g_callV C (c_X5_readCondition_6 E h tk c0 c1 cn dr a0 a1 a2 a3 nr us (i + 1) ks ps sa sk st co fk fp (by omega) (by omega) (hend) (by omega)) gX5_readCondition_X5_readCondition rfl 1 (by decide +kernel) ⟨by decide, by decide⟩ ⟨by decide, by decide⟩ 0 rfl rfl [0, 1, 2, 3, 4, 5, 6, 7, 8] [] (wr := []) rfl (by decide) rfl (by decide) (by decide) rfl rfl (Nat.le_of_ble_eq_true rfl) dX5_readCondition_91 ?_
      rintro _ _ ⟨ok_91, j_91, us2_91, co2_91, fk2_91, fp2_91, rfl, rfl, hq_91⟩
      show gg E _ 4 X 0 0 94 [some (.ref h), some (.int (nI 1)), some (.int (nI 1)), none] [.int (b2i ok_91)] [gO h 5 [.ref tk, .ref dr, .int (nI j_91), .int (ks j_91), .int fk2_91, .int fp2_91], gO tk 8 [.ref c0, .ref c1, .int (nI cn)], gA E c0 601 ks, gA E c1 601 ps, gO dr 4 [.ref a0, .ref a1, .ref a2, .ref a3, .int (nI nr), .int (nI us2_91)], gA E a0 12 sa, gA E a1 12 sk, gA E a2 13 st, gA E a3 600 co2_91]
      rcases rdQ_tw hq_91 with ⟨C_91, hr_91, rfl, rfl, rfl, rfl, rfl, b1_91, b2_91, b3_91⟩ | ⟨kd_91, ix_91, hr_91, rfl, rfl, rfl, b1_91, b2_91, b3_91, b4_91⟩
      · refine g_istore_n C dX5_readCondition_94 (by decide) rfl (ll' := [some (.ref h), some (.int (nI 1)), some (.int (nI 1)), some (.int (nI 1))]) rfl ?_
        refine g_aload_n C dX5_readCondition_95 rfl ?_
        refine g_get C i_X5 0 1 f_21 rfl rfl (by decide) rfl rfl dX5_readCondition_96 ?_
        refine g_sipush (v := nI 1005) C dX5_readCondition_99 (by decide) ?_
        refine g_callV C (c_X4_append E dr a0 a1 a2 a3 nr (us + C_91.length) sa sk st (cdW co us C_91) (nI 1005) (by omega)) gX5_readCondition_X4_append rfl 1 (by decide +kernel) ⟨by decide, by decide⟩ ⟨by decide, by decide⟩ 4 rfl rfl [4, 5, 6, 7, 8] [0, 1, 2, 3] (wr := [gO h 5 [.ref tk, .ref dr, .int (nI j_91), .int (ks j_91), .int fk, .int fp], gO tk 8 [.ref c0, .ref c1, .int (nI cn)], gA E c0 601 ks, gA E c1 601 ps]) rfl (by decide) rfl (by decide) (by decide) rfl rfl (Nat.le_of_ble_eq_true rfl) dX5_readCondition_102 ?_
        rintro _ _ ⟨rfl, rfl⟩
        show gg E _ 4 X 0 0 105 [some (.ref h), some (.int (nI 1)), some (.int (nI 1)), some (.int (nI 1))] [] [gO h 5 [.ref tk, .ref dr, .int (nI j_91), .int (ks j_91), .int fk, .int fp], gO tk 8 [.ref c0, .ref c1, .int (nI cn)], gA E c0 601 ks, gA E c1 601 ps, gO dr 4 [.ref a0, .ref a1, .ref a2, .ref a3, .int (nI nr), .int (nI ((us + C_91.length) + 1))], gA E a0 12 sa, gA E a1 12 sk, gA E a2 13 st, gA E a3 600 (upd (cdW co us C_91) (us + C_91.length) (nI 1005))]
        refine g_iload_n C dX5_readCondition_105 rfl ?_
        exact g_zret C Rt dX5_readCondition_106 (by decide) (by decide) (by decide) (⟨true, _, _, _, _, _, rfl, rfl, rdQ_ok (by rw [pLv, if_pos (Or.inl c7), if_pos c7, hr_91]; rfl) (by omega) b2_91 (by omega) (ln2 _ _ _) (cdW_snoc _ _ _ _).symm⟩)
      · refine g_istore_n C dX5_readCondition_94 (by decide) rfl (ll' := [some (.ref h), some (.int (nI 1)), some (.int (nI 1)), some (.int (nI 0))]) rfl ?_
        refine g_aload_n C dX5_readCondition_95 rfl ?_
        refine g_get C i_X5 0 1 f_21 rfl rfl (by decide) rfl rfl dX5_readCondition_96 ?_
        refine g_sipush (v := nI 1005) C dX5_readCondition_99 (by decide) ?_
        refine g_callV C (c_X4_append E dr a0 a1 a2 a3 nr us2_91 sa sk st co2_91 (nI 1005) (by omega)) gX5_readCondition_X4_append rfl 1 (by decide +kernel) ⟨by decide, by decide⟩ ⟨by decide, by decide⟩ 4 rfl rfl [4, 5, 6, 7, 8] [0, 1, 2, 3] (wr := [gO h 5 [.ref tk, .ref dr, .int (nI j_91), .int (ks j_91), .int (nI kd_91), .int (ps ix_91)], gO tk 8 [.ref c0, .ref c1, .int (nI cn)], gA E c0 601 ks, gA E c1 601 ps]) rfl (by decide) rfl (by decide) (by decide) rfl rfl (Nat.le_of_ble_eq_true rfl) dX5_readCondition_102 ?_
        rintro _ _ ⟨rfl, rfl⟩
        show gg E _ 4 X 0 0 105 [some (.ref h), some (.int (nI 1)), some (.int (nI 1)), some (.int (nI 0))] [] [gO h 5 [.ref tk, .ref dr, .int (nI j_91), .int (ks j_91), .int (nI kd_91), .int (ps ix_91)], gO tk 8 [.ref c0, .ref c1, .int (nI cn)], gA E c0 601 ks, gA E c1 601 ps, gO dr 4 [.ref a0, .ref a1, .ref a2, .ref a3, .int (nI nr), .int (nI (us2_91 + 1))], gA E a0 12 sa, gA E a1 12 sk, gA E a2 13 st, gA E a3 600 (upd co2_91 us2_91 (nI 1005))]
        refine g_iload_n C dX5_readCondition_105 rfl ?_
        exact g_zret C Rt dX5_readCondition_106 (by decide) (by decide) (by decide) (⟨false, _, _, _, _, _, rfl, rfl, rdQ_er (by rw [pLv, if_pos (Or.inl c7), if_pos c7, hr_91]; rfl) (by omega) b2_91 (by omega) b4_91⟩)
  · refine g_aload_n C dX5_readCondition_10 rfl ?_
    refine g_get C i_X5 0 3 f_25 rfl rfl (by decide) rfl rfl dX5_readCondition_11 ?_
    refine g_sipush (v := nI 1140) C dX5_readCondition_14 (by decide) ?_
    refine g_icmp_eq (tgt := 25) C dX5_readCondition_17 (by decide) (fun c17 => ?_) (fun c17 => ?_)
    · refine g_iload_n C dX5_readCondition_25 rfl ?_
      refine g_bipush (v := nI 8) C dX5_readCondition_26 (by decide) ?_
      refine g_icmp_lt (tgt := 37) C dX5_readCondition_28 (by decide) (fun c28 => ?_) (fun c28 => absurd c28 (by decide))
      refine g_aload_n C dX5_readCondition_37 rfl ?_
      refine g_get C i_X5 0 3 f_25 rfl rfl (by decide) rfl rfl dX5_readCondition_38 ?_
      refine g_sipush (v := nI 1005) C dX5_readCondition_41 (by decide) ?_
      refine g_icmp_ne (tgt := 51) C dX5_readCondition_44 (by decide) (fun c44 => ?_) (fun c44 => ?_)
      · refine g_iconst (v := nI 0) C dX5_readCondition_51 (by decide) ?_
        refine g_istore_n C dX5_readCondition_52 (by decide) rfl (ll' := [some (.ref h), some (.int (nI 1)), some (.int (nI 0)), none]) rfl ?_
        have hn8 := not_end hend hi c17 (by decide)
        refine g_aload_n C dX5_readCondition_53 rfl ?_
        refine g_callV C (c_X5_advance E h tk c0 c1 cn dr a0 a1 a2 a3 nr us i ks ps sa sk st co fk fp (hn8) (by omega)) gX5_readCondition_X5_advance rfl 0 (by decide +kernel) ⟨by decide, by decide⟩ ⟨by decide, by decide⟩ 0 rfl rfl [0, 1, 2, 3, 4, 5, 6, 7, 8] [] (wr := []) rfl (by decide) rfl (by decide) (by decide) rfl rfl (Nat.le_of_ble_eq_true rfl) dX5_readCondition_54 ?_
        rintro _ _ ⟨rfl, rfl⟩
        show gg E _ 4 X 0 0 57 [some (.ref h), some (.int (nI 1)), some (.int (nI 0)), none] [] [gO h 5 [.ref tk, .ref dr, .int (nI (i + 1)), .int (ks (i + 1)), .int fk, .int fp], gO tk 8 [.ref c0, .ref c1, .int (nI cn)], gA E c0 601 ks, gA E c1 601 ps, gO dr 4 [.ref a0, .ref a1, .ref a2, .ref a3, .int (nI nr), .int (nI us)], gA E a0 12 sa, gA E a1 12 sk, gA E a2 13 st, gA E a3 600 co]
        refine g_iload_n C dX5_readCondition_57 rfl ?_
        refine g_if_ne (tgt := 87) C dX5_readCondition_58 (by decide) (fun c58 => absurd c58 (by decide)) (fun c58 => ?_)
        refine g_aload_n C dX5_readCondition_61 rfl ?_
        refine g_iload_n C dX5_readCondition_62 rfl ?_
        refine g_iconst (v := nI 1) C dX5_readCondition_63 (by decide) ?_
        refine g_iadd C dX5_readCondition_64 (g_top (x' := nI 2) (by decide) ?_)
        refine g_callV C (c_X5_readEither_6 E h tk c0 c1 cn dr a0 a1 a2 a3 nr us (i + 1) ks ps sa sk st co fk fp (by omega) (by omega) (hend) (by omega)) gX5_readCondition_X5_readEither rfl 1 (by decide +kernel) ⟨by decide, by decide⟩ ⟨by decide, by decide⟩ 0 rfl rfl [0, 1, 2, 3, 4, 5, 6, 7, 8] [] (wr := []) rfl (by decide) rfl (by decide) (by decide) rfl rfl (Nat.le_of_ble_eq_true rfl) dX5_readCondition_65 ?_
        rintro _ _ ⟨ok_65, j_65, us2_65, co2_65, fk2_65, fp2_65, rfl, rfl, hq_65⟩
        show gg E _ 4 X 0 0 68 [some (.ref h), some (.int (nI 1)), some (.int (nI 0)), none] [.int (b2i ok_65)] [gO h 5 [.ref tk, .ref dr, .int (nI j_65), .int (ks j_65), .int fk2_65, .int fp2_65], gO tk 8 [.ref c0, .ref c1, .int (nI cn)], gA E c0 601 ks, gA E c1 601 ps, gO dr 4 [.ref a0, .ref a1, .ref a2, .ref a3, .int (nI nr), .int (nI us2_65)], gA E a0 12 sa, gA E a1 12 sk, gA E a2 13 st, gA E a3 600 co2_65]
        rcases rdQ_tw hq_65 with ⟨C_65, hr_65, rfl, rfl, rfl, rfl, rfl, b1_65, b2_65, b3_65⟩ | ⟨kd_65, ix_65, hr_65, rfl, rfl, rfl, b1_65, b2_65, b3_65, b4_65⟩
        · refine g_if_eq (tgt := 85) C dX5_readCondition_68 (by decide) (fun c68 => absurd c68 (by decide)) (fun c68 => ?_)
          rcases Classical.em (ks j_65 = nI 1141) with hx | hx
          · refine g_aload_n C dX5_readCondition_71 rfl ?_
            refine g_sipush (v := nI 1141) C dX5_readCondition_72 (by decide) ?_
            refine g_callV C (c_X5_expect_y E h tk c0 c1 cn dr a0 a1 a2 a3 nr (us + C_65.length) j_65 ks ps sa sk st (cdW co us C_65) fk fp (nI 1141) (by omega) (by omega) (hend) (hx) (by decide)) gX5_readCondition_X5_expect rfl 1 (by decide +kernel) ⟨by decide, by decide⟩ ⟨by decide, by decide⟩ 0 rfl rfl [0, 1, 2, 3, 4, 5, 6, 7, 8] [] (wr := []) rfl (by decide) rfl (by decide) (by decide) rfl rfl (Nat.le_of_ble_eq_true rfl) dX5_readCondition_75 ?_
            rintro _ _ ⟨rfl, rfl⟩
            show gg E _ 4 X 0 0 78 [some (.ref h), some (.int (nI 1)), some (.int (nI 0)), none] [.int (nI 1)] [gO h 5 [.ref tk, .ref dr, .int (nI (j_65 + 1)), .int (ks (j_65 + 1)), .int fk, .int fp], gO tk 8 [.ref c0, .ref c1, .int (nI cn)], gA E c0 601 ks, gA E c1 601 ps, gO dr 4 [.ref a0, .ref a1, .ref a2, .ref a3, .int (nI nr), .int (nI (us + C_65.length))], gA E a0 12 sa, gA E a1 12 sk, gA E a2 13 st, gA E a3 600 (cdW co us C_65)]
            refine g_if_eq (tgt := 85) C dX5_readCondition_78 (by decide) (fun c78 => absurd c78 (by decide)) (fun c78 => ?_)
            refine g_iconst (v := nI 1) C dX5_readCondition_81 (by decide) ?_
            refine g_goto (tgt := 86) C dX5_readCondition_82 (by decide) ?_
            exact g_zret C Rt dX5_readCondition_86 (by decide) (by decide) (by decide) (⟨true, _, _, _, _, _, rfl, rfl, rdQ_ok (by rw [pLv, if_pos (Or.inr c17), if_neg c7, hr_65]; exact if_pos hx) (by omega) (not_end hend b2_65 hx (by decide)) (by omega) rfl rfl⟩)
          · refine g_aload_n C dX5_readCondition_71 rfl ?_
            refine g_sipush (v := nI 1141) C dX5_readCondition_72 (by decide) ?_
            refine g_callV C (c_X5_expect_n E h tk c0 c1 cn dr a0 a1 a2 a3 nr (us + C_65.length) j_65 ks ps sa sk st (cdW co us C_65) fk fp (nI 1141) (by omega) (by omega) (hx)) gX5_readCondition_X5_expect rfl 1 (by decide +kernel) ⟨by decide, by decide⟩ ⟨by decide, by decide⟩ 0 rfl rfl [0, 1, 2, 3, 4, 5, 6, 7, 8] [] (wr := []) rfl (by decide) rfl (by decide) (by decide) rfl rfl (Nat.le_of_ble_eq_true rfl) dX5_readCondition_75 ?_
            rintro _ _ ⟨rfl, rfl⟩
            show gg E _ 4 X 0 0 78 [some (.ref h), some (.int (nI 1)), some (.int (nI 0)), none] [.int (nI 0)] [gO h 5 [.ref tk, .ref dr, .int (nI j_65), .int (ks j_65), .int (nI 1), .int (ps j_65)], gO tk 8 [.ref c0, .ref c1, .int (nI cn)], gA E c0 601 ks, gA E c1 601 ps, gO dr 4 [.ref a0, .ref a1, .ref a2, .ref a3, .int (nI nr), .int (nI (us + C_65.length))], gA E a0 12 sa, gA E a1 12 sk, gA E a2 13 st, gA E a3 600 (cdW co us C_65)]
            refine g_if_eq (tgt := 85) C dX5_readCondition_78 (by decide) (fun c78 => ?_) (fun c78 => absurd c78 (by decide))
            refine g_iconst (v := nI 0) C dX5_readCondition_85 (by decide) ?_
            exact g_zret C Rt dX5_readCondition_86 (by decide) (by decide) (by decide) (⟨false, _, _, _, _, _, rfl, rfl, rdQ_er (by rw [pLv, if_pos (Or.inr c17), if_neg c7, hr_65]; exact if_neg hx) (by omega) b2_65 (by omega) b2_65⟩)
        · refine g_if_eq (tgt := 85) C dX5_readCondition_68 (by decide) (fun c68 => ?_) (fun c68 => absurd c68 (by decide))
          refine g_iconst (v := nI 0) C dX5_readCondition_85 (by decide) ?_
          exact g_zret C Rt dX5_readCondition_86 (by decide) (by decide) (by decide) (⟨false, _, _, _, _, _, rfl, rfl, rdQ_er (by rw [pLv, if_pos (Or.inr c17), if_neg c7, hr_65]; rfl) (by omega) b2_65 (by omega) b4_65⟩)
      · exact absurd c44 c7
    · refine g_aload_n C dX5_readCondition_20 rfl ?_
      refine g_callV C (c_X5_readComparison E h tk c0 c1 cn dr a0 a1 a2 a3 nr us i ks ps sa sk st co fk fp (by omega) (by omega) (hend) (by omega)) gX5_readCondition_X5_readComparison rfl 0 (by decide +kernel) ⟨by decide, by decide⟩ ⟨by decide, by decide⟩ 0 rfl rfl [0, 1, 2, 3, 4, 5, 6, 7, 8] [] (wr := []) rfl (by decide) rfl (by decide) (by decide) rfl rfl (Nat.le_of_ble_eq_true rfl) dX5_readCondition_21 ?_
      rintro _ _ ⟨ok_21, j_21, us2_21, co2_21, fk2_21, fp2_21, rfl, rfl, hq_21⟩
      show gg E _ 4 X 0 0 24 [some (.ref h), some (.int (nI 1)), none, none] [.int (b2i ok_21)] [gO h 5 [.ref tk, .ref dr, .int (nI j_21), .int (ks j_21), .int fk2_21, .int fp2_21], gO tk 8 [.ref c0, .ref c1, .int (nI cn)], gA E c0 601 ks, gA E c1 601 ps, gO dr 4 [.ref a0, .ref a1, .ref a2, .ref a3, .int (nI nr), .int (nI us2_21)], gA E a0 12 sa, gA E a1 12 sk, gA E a2 13 st, gA E a3 600 co2_21]
      exact g_zret C Rt dX5_readCondition_24 (by decide) (by decide) (b2i_01 _) (⟨_, _, _, _, _, _, rfl, rfl, by rw [pLv, if_neg (fun z => z.elim c7 c17)]; exact hq_21⟩)

abbrev rm_c_X5_readBoth_7 : Room := { frames := 25, cells := 0, slots := 0, locals := 571 }
set_option maxHeartbeats 4000000 in
set_option maxRecDepth 100000 in
theorem c_X5_readBoth_7 (E : gE) (h tk c0 c1 cn dr a0 a1 a2 a3 nr us i : Nat) (ks ps sa sk st co : Nat → Int32) (fk fp : Int32) (hi : i < cn) (hcn : cn ≤ 601) (hend : ks (cn - 1) = nI 1011) (hus : us ≤ i) : MM E yX5_readBoth wsX5_readBoth rm_c_X5_readBoth_7 [.ref h, .int (nI 1)] [gO h 5 [.ref tk, .ref dr, .int (nI i), .int (ks i), .int fk, .int fp], gO tk 8 [.ref c0, .ref c1, .int (nI cn)], gA E c0 601 ks, gA E c1 601 ps, gO dr 4 [.ref a0, .ref a1, .ref a2, .ref a3, .int (nI nr), .int (nI us)], gA E a0 12 sa, gA E a1 12 sk, gA E a2 13 st, gA E a3 600 co] (fun rv_ ru_ => ∃ (ok : Bool) (j us2 : Nat) (co2 : Nat → Int32) (fk2 fp2 : Int32), rv_ = some (.int (b2i ok)) ∧ ru_ = [gO h 5 [.ref tk, .ref dr, .int (nI j), .int (ks j), .int fk2, .int fp2], gO tk 8 [.ref c0, .ref c1, .int (nI cn)], gA E c0 601 ks, gA E c1 601 ps, gO dr 4 [.ref a0, .ref a1, .ref a2, .ref a3, .int (nI nr), .int (nI us2)], gA E a0 12 sa, gA E a1 12 sk, gA E a2 13 st, gA E a3 600 co2] ∧ (rdQ (pAll ks (pLv ks 7) i) ps cn i us co fk fp ok j us2 co2 fk2 fp2)) := by
  refine MM.ofG (cc := cX5_readBoth) (maxL := 4) (ret := (some .boolean)) (by decide) rfl (Nat.le_of_ble_eq_true rfl) (ll := [some (.ref h), some (.int (nI 1)), none, none]) rfl ?_
  intro X C Rt
  have C : gx E X cX5_readBoth 4 wsX5_readBoth RX5 := C
  have i_X5 : ∀ w ∈ u_ws RX5 TX5 6, w ∈ wsX5_readBoth := by decide +kernel
  have i_X8 : ∀ w ∈ u_ws RX8 TX8 3, w ∈ wsX5_readBoth := by decide +kernel
  have f_12 : Cond.fieldLink RX5 12 "MarkPages$RuleReader" "tokens" "LMarkPages$Tokens;" ∈ wsX5_readBoth := by decide +kernel
  have f_21 : Cond.fieldLink RX5 21 "MarkPages$RuleReader" "draft" "LMarkPages$RuleBook;" ∈ wsX5_readBoth := by decide +kernel
  have f_25 : Cond.fieldLink RX5 25 "MarkPages$RuleReader" "now" "I" ∈ wsX5_readBoth := by decide +kernel
  have f_76 : Cond.fieldLink RX5 76 "MarkPages$Tokens" "count" "I" ∈ wsX5_readBoth := by decide +kernel
  refine g_aload_n C dX5_readBoth_0 rfl ?_
  refine g_iload_n C dX5_readBoth_1 rfl ?_
  refine g_callV C (c_X5_readCondition_7 E h tk c0 c1 cn dr a0 a1 a2 a3 nr us i ks ps sa sk st co fk fp (by omega) (by omega) (hend) (by omega)) gX5_readBoth_X5_readCondition rfl 1 (by decide +kernel) ⟨by decide, by decide⟩ ⟨by decide, by decide⟩ 0 rfl rfl [0, 1, 2, 3, 4, 5, 6, 7, 8] [] (wr := []) rfl (by decide) rfl (by decide) (by decide) rfl rfl (Nat.le_of_ble_eq_true rfl) dX5_readBoth_2 ?_
  rintro _ _ ⟨ok_2, j_2, us2_2, co2_2, fk2_2, fp2_2, rfl, rfl, hq_2⟩
  show gg E _ 4 X 0 0 5 [some (.ref h), some (.int (nI 1)), none, none] [.int (b2i ok_2)] [gO h 5 [.ref tk, .ref dr, .int (nI j_2), .int (ks j_2), .int fk2_2, .int fp2_2], gO tk 8 [.ref c0, .ref c1, .int (nI cn)], gA E c0 601 ks, gA E c1 601 ps, gO dr 4 [.ref a0, .ref a1, .ref a2, .ref a3, .int (nI nr), .int (nI us2_2)], gA E a0 12 sa, gA E a1 12 sk, gA E a2 13 st, gA E a3 600 co2_2]
  rcases rdQ_tw hq_2 with ⟨C_2, hr_2, rfl, rfl, rfl, rfl, rfl, b1_2, b2_2, b3_2⟩ | ⟨kd_2, ix_2, hr_2, rfl, rfl, rfl, b1_2, b2_2, b3_2, b4_2⟩
  · refine g_istore_n C dX5_readBoth_5 (by decide) rfl (ll' := [some (.ref h), some (.int (nI 1)), some (.int (nI 1)), none]) rfl ?_
    refine g_iconst (v := nI 0) C dX5_readBoth_6 (by decide) ?_
    refine g_istore_n C dX5_readBoth_7 (by decide) rfl (ll' := [some (.ref h), some (.int (nI 1)), some (.int (nI 1)), some (.int (nI 0))]) rfl ?_
    have L8 : ∀ (n8 : Nat) (it j1 f1 : Nat) (C1 : List Int32), cn - j1 < n8 → (j1 < cn) → (i + it ≤ j1) → (f1 + it = 601) → (C1.length + i ≤ j1) → (pAll ks (pLv ks 7) i = lpO ks (nI 1004) (pLv ks 7) f1 j1 C1) → gg E rm_c_X5_readBoth_7 4 X 0 0 8 [some (.ref h), some (.int (nI 1)), some (.int (nI 1)), some (.int (nI it))] [] [gO h 5 [.ref tk, .ref dr, .int (nI j1), .int (ks j1), .int fk, .int fp], gO tk 8 [.ref c0, .ref c1, .int (nI cn)], gA E c0 601 ks, gA E c1 601 ps, gO dr 4 [.ref a0, .ref a1, .ref a2, .ref a3, .int (nI nr), .int (nI (us + C1.length))], gA E a0 12 sa, gA E a1 12 sk, gA E a2 13 st, gA E a3 600 (cdW co us C1)] := by
      intro n8
      induction n8 with
      | zero => intro it j1 f1 C1 hm8; exact absurd hm8 (Nat.not_lt_zero _)
      | succ n8 ih8 =>
        intro it j1 f1 C1 hm8 g1 g2 g3 g4 g5
        refine g_iload_n C dX5_readBoth_8 rfl ?_
        refine g_aload_n C dX5_readBoth_9 rfl ?_
        refine g_get C i_X5 0 0 f_12 rfl rfl (by decide) rfl rfl dX5_readBoth_10 ?_
        refine g_get C i_X8 1 2 f_76 rfl rfl (by decide) rfl rfl dX5_readBoth_13 ?_
        refine g_icmp_ge_n (tgt := 59) C dX5_readBoth_16 (by decide) (by omega) (by omega) (fun c16 => ?_) (fun c16 => ?_)
        · exact absurd c16 (by omega)
        · refine g_iload_n C dX5_readBoth_19 rfl ?_
          refine g_if_eq (tgt := 59) C dX5_readBoth_20 (by decide) (fun c20 => absurd c20 (by decide)) (fun c20 => ?_)
          refine g_aload_n C dX5_readBoth_23 rfl ?_
          refine g_get C i_X5 0 3 f_25 rfl rfl (by decide) rfl rfl dX5_readBoth_24 ?_
          refine g_sipush (v := nI 1004) C dX5_readBoth_27 (by decide) ?_
          refine g_icmp_ne (tgt := 59) C dX5_readBoth_30 (by decide) (fun c30 => ?_) (fun c30 => ?_)
          · refine g_iload_n C dX5_readBoth_59 rfl ?_
            exact g_zret C Rt dX5_readBoth_60 (by decide) (by decide) (by decide) (⟨true, _, _, _, _, _, rfl, rfl, rdQ_ok (by rw [g5, show f1 = f1 - 1 + 1 by omega, lpO, if_neg c30]) (by omega) g1 (by omega) rfl rfl⟩)
          · have hn7 := not_end hend g1 c30 (by decide)
            refine g_aload_n C dX5_readBoth_33 rfl ?_
            refine g_callV C (c_X5_advance E h tk c0 c1 cn dr a0 a1 a2 a3 nr (us + C1.length) j1 ks ps sa sk st (cdW co us C1) fk fp (not_end hend g1 c30 (by decide)) (by omega)) gX5_readBoth_X5_advance rfl 0 (by decide +kernel) ⟨by decide, by decide⟩ ⟨by decide, by decide⟩ 0 rfl rfl [0, 1, 2, 3, 4, 5, 6, 7, 8] [] (wr := []) rfl (by decide) rfl (by decide) (by decide) rfl rfl (Nat.le_of_ble_eq_true rfl) dX5_readBoth_34 ?_
            rintro _ _ ⟨rfl, rfl⟩
            show gg E _ 4 X 0 0 37 [some (.ref h), some (.int (nI 1)), some (.int (nI 1)), some (.int (nI it))] [] [gO h 5 [.ref tk, .ref dr, .int (nI (j1 + 1)), .int (ks (j1 + 1)), .int fk, .int fp], gO tk 8 [.ref c0, .ref c1, .int (nI cn)], gA E c0 601 ks, gA E c1 601 ps, gO dr 4 [.ref a0, .ref a1, .ref a2, .ref a3, .int (nI nr), .int (nI (us + C1.length))], gA E a0 12 sa, gA E a1 12 sk, gA E a2 13 st, gA E a3 600 (cdW co us C1)]
            refine g_aload_n C dX5_readBoth_37 rfl ?_
            refine g_iload_n C dX5_readBoth_38 rfl ?_
            refine g_callV C (c_X5_readCondition_7 E h tk c0 c1 cn dr a0 a1 a2 a3 nr (us + C1.length) (j1 + 1) ks ps sa sk st (cdW co us C1) fk fp (by omega) (by omega) (hend) (by omega)) gX5_readBoth_X5_readCondition rfl 1 (by decide +kernel) ⟨by decide, by decide⟩ ⟨by decide, by decide⟩ 0 rfl rfl [0, 1, 2, 3, 4, 5, 6, 7, 8] [] (wr := []) rfl (by decide) rfl (by decide) (by decide) rfl rfl (Nat.le_of_ble_eq_true rfl) dX5_readBoth_39 ?_
            rintro _ _ ⟨ok_39, j_39, us2_39, co2_39, fk2_39, fp2_39, rfl, rfl, hq_39⟩
            show gg E _ 4 X 0 0 42 [some (.ref h), some (.int (nI 1)), some (.int (nI 1)), some (.int (nI it))] [.int (b2i ok_39)] [gO h 5 [.ref tk, .ref dr, .int (nI j_39), .int (ks j_39), .int fk2_39, .int fp2_39], gO tk 8 [.ref c0, .ref c1, .int (nI cn)], gA E c0 601 ks, gA E c1 601 ps, gO dr 4 [.ref a0, .ref a1, .ref a2, .ref a3, .int (nI nr), .int (nI us2_39)], gA E a0 12 sa, gA E a1 12 sk, gA E a2 13 st, gA E a3 600 co2_39]
            rcases rdQ_tw hq_39 with ⟨C_39, hr_39, rfl, rfl, rfl, rfl, rfl, b1_39, b2_39, b3_39⟩ | ⟨kd_39, ix_39, hr_39, rfl, rfl, rfl, b1_39, b2_39, b3_39, b4_39⟩
            · refine g_istore_n C dX5_readBoth_42 (by decide) rfl (ll' := [some (.ref h), some (.int (nI 1)), some (.int (nI 1)), some (.int (nI it))]) rfl ?_
              refine g_aload_n C dX5_readBoth_43 rfl ?_
              refine g_get C i_X5 0 1 f_21 rfl rfl (by decide) rfl rfl dX5_readBoth_44 ?_
              refine g_sipush (v := nI 1004) C dX5_readBoth_47 (by decide) ?_
              refine g_callV C (c_X4_append E dr a0 a1 a2 a3 nr ((us + C1.length) + C_39.length) sa sk st (cdW (cdW co us C1) (us + C1.length) C_39) (nI 1004) (by omega)) gX5_readBoth_X4_append rfl 1 (by decide +kernel) ⟨by decide, by decide⟩ ⟨by decide, by decide⟩ 4 rfl rfl [4, 5, 6, 7, 8] [0, 1, 2, 3] (wr := [gO h 5 [.ref tk, .ref dr, .int (nI j_39), .int (ks j_39), .int fk, .int fp], gO tk 8 [.ref c0, .ref c1, .int (nI cn)], gA E c0 601 ks, gA E c1 601 ps]) rfl (by decide) rfl (by decide) (by decide) rfl rfl (Nat.le_of_ble_eq_true rfl) dX5_readBoth_50 ?_
              rintro _ _ ⟨rfl, rfl⟩
              show gg E _ 4 X 0 0 53 [some (.ref h), some (.int (nI 1)), some (.int (nI 1)), some (.int (nI it))] [] [gO h 5 [.ref tk, .ref dr, .int (nI j_39), .int (ks j_39), .int fk, .int fp], gO tk 8 [.ref c0, .ref c1, .int (nI cn)], gA E c0 601 ks, gA E c1 601 ps, gO dr 4 [.ref a0, .ref a1, .ref a2, .ref a3, .int (nI nr), .int (nI (((us + C1.length) + C_39.length) + 1))], gA E a0 12 sa, gA E a1 12 sk, gA E a2 13 st, gA E a3 600 (upd (cdW (cdW co us C1) (us + C1.length) C_39) ((us + C1.length) + C_39.length) (nI 1004))]
              rw [ln3 us C1 C_39 (nI 1004), cd3 co us C1 C_39 (nI 1004)]
              refine g_iinc_n (y := 1) C dX5_readBoth_53 rfl (by decide) (by decide) rfl (ll' := [some (.ref h), some (.int (nI 1)), some (.int (nI 1)), some (.int (nI (it + 1)))]) rfl ?_
              refine g_goto (tgt := 8) C dX5_readBoth_56 (by decide) ?_
              exact ih8 (it + 1) j_39 (f1 - 1) (C1 ++ C_39 ++ [nI 1004]) (by omega) (by omega) (by omega) (by omega) (by have := ln3 us C1 C_39 (nI 1004); omega) (by rw [g5, show f1 = f1 - 1 + 1 by omega, lpO, if_pos c30, hr_39]; rfl)
            · refine g_istore_n C dX5_readBoth_42 (by decide) rfl (ll' := [some (.ref h), some (.int (nI 1)), some (.int (nI 0)), some (.int (nI it))]) rfl ?_
              refine g_aload_n C dX5_readBoth_43 rfl ?_
              refine g_get C i_X5 0 1 f_21 rfl rfl (by decide) rfl rfl dX5_readBoth_44 ?_
              refine g_sipush (v := nI 1004) C dX5_readBoth_47 (by decide) ?_
              refine g_callV C (c_X4_append E dr a0 a1 a2 a3 nr us2_39 sa sk st co2_39 (nI 1004) (by omega)) gX5_readBoth_X4_append rfl 1 (by decide +kernel) ⟨by decide, by decide⟩ ⟨by decide, by decide⟩ 4 rfl rfl [4, 5, 6, 7, 8] [0, 1, 2, 3] (wr := [gO h 5 [.ref tk, .ref dr, .int (nI j_39), .int (ks j_39), .int (nI kd_39), .int (ps ix_39)], gO tk 8 [.ref c0, .ref c1, .int (nI cn)], gA E c0 601 ks, gA E c1 601 ps]) rfl (by decide) rfl (by decide) (by decide) rfl rfl (Nat.le_of_ble_eq_true rfl) dX5_readBoth_50 ?_
              rintro _ _ ⟨rfl, rfl⟩
              show gg E _ 4 X 0 0 53 [some (.ref h), some (.int (nI 1)), some (.int (nI 0)), some (.int (nI it))] [] [gO h 5 [.ref tk, .ref dr, .int (nI j_39), .int (ks j_39), .int (nI kd_39), .int (ps ix_39)], gO tk 8 [.ref c0, .ref c1, .int (nI cn)], gA E c0 601 ks, gA E c1 601 ps, gO dr 4 [.ref a0, .ref a1, .ref a2, .ref a3, .int (nI nr), .int (nI (us2_39 + 1))], gA E a0 12 sa, gA E a1 12 sk, gA E a2 13 st, gA E a3 600 (upd co2_39 us2_39 (nI 1004))]
              refine g_iinc_n (y := 1) C dX5_readBoth_53 rfl (by decide) (by decide) rfl (ll' := [some (.ref h), some (.int (nI 1)), some (.int (nI 0)), some (.int (nI (it + 1)))]) rfl ?_
              refine g_goto (tgt := 8) C dX5_readBoth_56 (by decide) ?_
              refine g_iload_n C dX5_readBoth_8 rfl ?_
              refine g_aload_n C dX5_readBoth_9 rfl ?_
              refine g_get C i_X5 0 0 f_12 rfl rfl (by decide) rfl rfl dX5_readBoth_10 ?_
              refine g_get C i_X8 1 2 f_76 rfl rfl (by decide) rfl rfl dX5_readBoth_13 ?_
              refine g_icmp_ge_n (tgt := 59) C dX5_readBoth_16 (by decide) (by omega) (by omega) (fun c16 => ?_) (fun c16 => ?_)
              · refine g_iload_n C dX5_readBoth_59 rfl ?_
                exact g_zret C Rt dX5_readBoth_60 (by decide) (by decide) (by decide) (⟨false, _, _, _, _, _, rfl, rfl, rdQ_er (by rw [g5, show f1 = f1 - 1 + 1 by omega, lpO, if_pos c30, hr_39]) (by omega) b2_39 (by omega) b4_39⟩)
              · refine g_iload_n C dX5_readBoth_19 rfl ?_
                refine g_if_eq (tgt := 59) C dX5_readBoth_20 (by decide) (fun c20 => ?_) (fun c20 => absurd c20 (by decide))
                refine g_iload_n C dX5_readBoth_59 rfl ?_
                exact g_zret C Rt dX5_readBoth_60 (by decide) (by decide) (by decide) (⟨false, _, _, _, _, _, rfl, rfl, rdQ_er (by rw [g5, show f1 = f1 - 1 + 1 by omega, lpO, if_pos c30, hr_39]) (by omega) b2_39 (by omega) b4_39⟩)
    exact L8 _ 0 j_2 601 C_2 (Nat.lt_succ_self _) (by omega) (by omega) (by omega) (by omega) (by rw [pAll, hr_2]; rfl)
  · refine g_istore_n C dX5_readBoth_5 (by decide) rfl (ll' := [some (.ref h), some (.int (nI 1)), some (.int (nI 0)), none]) rfl ?_
    refine g_iconst (v := nI 0) C dX5_readBoth_6 (by decide) ?_
    refine g_istore_n C dX5_readBoth_7 (by decide) rfl (ll' := [some (.ref h), some (.int (nI 1)), some (.int (nI 0)), some (.int (nI 0))]) rfl ?_
    refine g_iload_n C dX5_readBoth_8 rfl ?_
    refine g_aload_n C dX5_readBoth_9 rfl ?_
    refine g_get C i_X5 0 0 f_12 rfl rfl (by decide) rfl rfl dX5_readBoth_10 ?_
    refine g_get C i_X8 1 2 f_76 rfl rfl (by decide) rfl rfl dX5_readBoth_13 ?_
    refine g_icmp_ge_n (tgt := 59) C dX5_readBoth_16 (by decide) (by omega) (by omega) (fun c16 => ?_) (fun c16 => ?_)
    · refine g_iload_n C dX5_readBoth_59 rfl ?_
      exact g_zret C Rt dX5_readBoth_60 (by decide) (by decide) (by decide) (⟨false, _, _, _, _, _, rfl, rfl, rdQ_er (by rw [pAll, hr_2]; rfl) b1_2 b2_2 b3_2 b4_2⟩)
    · refine g_iload_n C dX5_readBoth_19 rfl ?_
      refine g_if_eq (tgt := 59) C dX5_readBoth_20 (by decide) (fun c20 => ?_) (fun c20 => absurd c20 (by decide))
      refine g_iload_n C dX5_readBoth_59 rfl ?_
      exact g_zret C Rt dX5_readBoth_60 (by decide) (by decide) (by decide) (⟨false, _, _, _, _, _, rfl, rfl, rdQ_er (by rw [pAll, hr_2]; rfl) b1_2 b2_2 b3_2 b4_2⟩)

abbrev rm_c_X5_readEither_7 : Room := { frames := 26, cells := 0, slots := 0, locals := 594 }
set_option maxHeartbeats 4000000 in
set_option maxRecDepth 100000 in
theorem c_X5_readEither_7 (E : gE) (h tk c0 c1 cn dr a0 a1 a2 a3 nr us i : Nat) (ks ps sa sk st co : Nat → Int32) (fk fp : Int32) (hi : i < cn) (hcn : cn ≤ 601) (hend : ks (cn - 1) = nI 1011) (hus : us ≤ i) : MM E yX5_readEither wsX5_readEither rm_c_X5_readEither_7 [.ref h, .int (nI 1)] [gO h 5 [.ref tk, .ref dr, .int (nI i), .int (ks i), .int fk, .int fp], gO tk 8 [.ref c0, .ref c1, .int (nI cn)], gA E c0 601 ks, gA E c1 601 ps, gO dr 4 [.ref a0, .ref a1, .ref a2, .ref a3, .int (nI nr), .int (nI us)], gA E a0 12 sa, gA E a1 12 sk, gA E a2 13 st, gA E a3 600 co] (fun rv_ ru_ => ∃ (ok : Bool) (j us2 : Nat) (co2 : Nat → Int32) (fk2 fp2 : Int32), rv_ = some (.int (b2i ok)) ∧ ru_ = [gO h 5 [.ref tk, .ref dr, .int (nI j), .int (ks j), .int fk2, .int fp2], gO tk 8 [.ref c0, .ref c1, .int (nI cn)], gA E c0 601 ks, gA E c1 601 ps, gO dr 4 [.ref a0, .ref a1, .ref a2, .ref a3, .int (nI nr), .int (nI us2)], gA E a0 12 sa, gA E a1 12 sk, gA E a2 13 st, gA E a3 600 co2] ∧ (rdQ (pAny ks (pLv ks 7) i) ps cn i us co fk fp ok j us2 co2 fk2 fp2)) := by
  refine MM.ofG (cc := cX5_readEither) (maxL := 4) (ret := (some .boolean)) (by decide) rfl (Nat.le_of_ble_eq_true rfl) (ll := [some (.ref h), some (.int (nI 1)), none, none]) rfl ?_
  intro X C Rt
  have C : gx E X cX5_readEither 4 wsX5_readEither RX5 := C
  have i_X5 : ∀ w ∈ u_ws RX5 TX5 6, w ∈ wsX5_readEither := by decide +kernel
  have i_X8 : ∀ w ∈ u_ws RX8 TX8 3, w ∈ wsX5_readEither := by decide +kernel
  have f_12 : Cond.fieldLink RX5 12 "MarkPages$RuleReader" "tokens" "LMarkPages$Tokens;" ∈ wsX5_readEither := by decide +kernel
  have f_21 : Cond.fieldLink RX5 21 "MarkPages$RuleReader" "draft" "LMarkPages$RuleBook;" ∈ wsX5_readEither := by decide +kernel
  have f_25 : Cond.fieldLink RX5 25 "MarkPages$RuleReader" "now" "I" ∈ wsX5_readEither := by decide +kernel
  have f_76 : Cond.fieldLink RX5 76 "MarkPages$Tokens" "count" "I" ∈ wsX5_readEither := by decide +kernel
  refine g_aload_n C dX5_readEither_0 rfl ?_
  refine g_iload_n C dX5_readEither_1 rfl ?_
  refine g_callV C (c_X5_readBoth_7 E h tk c0 c1 cn dr a0 a1 a2 a3 nr us i ks ps sa sk st co fk fp (by omega) (by omega) (hend) (by omega)) gX5_readEither_X5_readBoth rfl 1 (by decide +kernel) ⟨by decide, by decide⟩ ⟨by decide, by decide⟩ 0 rfl rfl [0, 1, 2, 3, 4, 5, 6, 7, 8] [] (wr := []) rfl (by decide) rfl (by decide) (by decide) rfl rfl (Nat.le_of_ble_eq_true rfl) dX5_readEither_2 ?_
  rintro _ _ ⟨ok_2, j_2, us2_2, co2_2, fk2_2, fp2_2, rfl, rfl, hq_2⟩
  show gg E _ 4 X 0 0 5 [some (.ref h), some (.int (nI 1)), none, none] [.int (b2i ok_2)] [gO h 5 [.ref tk, .ref dr, .int (nI j_2), .int (ks j_2), .int fk2_2, .int fp2_2], gO tk 8 [.ref c0, .ref c1, .int (nI cn)], gA E c0 601 ks, gA E c1 601 ps, gO dr 4 [.ref a0, .ref a1, .ref a2, .ref a3, .int (nI nr), .int (nI us2_2)], gA E a0 12 sa, gA E a1 12 sk, gA E a2 13 st, gA E a3 600 co2_2]
  rcases rdQ_tw hq_2 with ⟨C_2, hr_2, rfl, rfl, rfl, rfl, rfl, b1_2, b2_2, b3_2⟩ | ⟨kd_2, ix_2, hr_2, rfl, rfl, rfl, b1_2, b2_2, b3_2, b4_2⟩
  · refine g_istore_n C dX5_readEither_5 (by decide) rfl (ll' := [some (.ref h), some (.int (nI 1)), some (.int (nI 1)), none]) rfl ?_
    refine g_iconst (v := nI 0) C dX5_readEither_6 (by decide) ?_
    refine g_istore_n C dX5_readEither_7 (by decide) rfl (ll' := [some (.ref h), some (.int (nI 1)), some (.int (nI 1)), some (.int (nI 0))]) rfl ?_
    have L8 : ∀ (n8 : Nat) (it j1 f1 : Nat) (C1 : List Int32), cn - j1 < n8 → (j1 < cn) → (i + it ≤ j1) → (f1 + it = 601) → (C1.length + i ≤ j1) → (pAny ks (pLv ks 7) i = lpO ks (nI 1003) (pAll ks (pLv ks 7)) f1 j1 C1) → gg E rm_c_X5_readEither_7 4 X 0 0 8 [some (.ref h), some (.int (nI 1)), some (.int (nI 1)), some (.int (nI it))] [] [gO h 5 [.ref tk, .ref dr, .int (nI j1), .int (ks j1), .int fk, .int fp], gO tk 8 [.ref c0, .ref c1, .int (nI cn)], gA E c0 601 ks, gA E c1 601 ps, gO dr 4 [.ref a0, .ref a1, .ref a2, .ref a3, .int (nI nr), .int (nI (us + C1.length))], gA E a0 12 sa, gA E a1 12 sk, gA E a2 13 st, gA E a3 600 (cdW co us C1)] := by
      intro n8
      induction n8 with
      | zero => intro it j1 f1 C1 hm8; exact absurd hm8 (Nat.not_lt_zero _)
      | succ n8 ih8 =>
        intro it j1 f1 C1 hm8 g1 g2 g3 g4 g5
        refine g_iload_n C dX5_readEither_8 rfl ?_
        refine g_aload_n C dX5_readEither_9 rfl ?_
        refine g_get C i_X5 0 0 f_12 rfl rfl (by decide) rfl rfl dX5_readEither_10 ?_
        refine g_get C i_X8 1 2 f_76 rfl rfl (by decide) rfl rfl dX5_readEither_13 ?_
        refine g_icmp_ge_n (tgt := 59) C dX5_readEither_16 (by decide) (by omega) (by omega) (fun c16 => ?_) (fun c16 => ?_)
        · exact absurd c16 (by omega)
        · refine g_iload_n C dX5_readEither_19 rfl ?_
          refine g_if_eq (tgt := 59) C dX5_readEither_20 (by decide) (fun c20 => absurd c20 (by decide)) (fun c20 => ?_)
          refine g_aload_n C dX5_readEither_23 rfl ?_
          refine g_get C i_X5 0 3 f_25 rfl rfl (by decide) rfl rfl dX5_readEither_24 ?_
          refine g_sipush (v := nI 1003) C dX5_readEither_27 (by decide) ?_
          refine g_icmp_ne (tgt := 59) C dX5_readEither_30 (by decide) (fun c30 => ?_) (fun c30 => ?_)
          · refine g_iload_n C dX5_readEither_59 rfl ?_
            exact g_zret C Rt dX5_readEither_60 (by decide) (by decide) (by decide) (⟨true, _, _, _, _, _, rfl, rfl, rdQ_ok (by rw [g5, show f1 = f1 - 1 + 1 by omega, lpO, if_neg c30]) (by omega) g1 (by omega) rfl rfl⟩)
          · have hn7 := not_end hend g1 c30 (by decide)
            refine g_aload_n C dX5_readEither_33 rfl ?_
            refine g_callV C (c_X5_advance E h tk c0 c1 cn dr a0 a1 a2 a3 nr (us + C1.length) j1 ks ps sa sk st (cdW co us C1) fk fp (not_end hend g1 c30 (by decide)) (by omega)) gX5_readEither_X5_advance rfl 0 (by decide +kernel) ⟨by decide, by decide⟩ ⟨by decide, by decide⟩ 0 rfl rfl [0, 1, 2, 3, 4, 5, 6, 7, 8] [] (wr := []) rfl (by decide) rfl (by decide) (by decide) rfl rfl (Nat.le_of_ble_eq_true rfl) dX5_readEither_34 ?_
            rintro _ _ ⟨rfl, rfl⟩
            show gg E _ 4 X 0 0 37 [some (.ref h), some (.int (nI 1)), some (.int (nI 1)), some (.int (nI it))] [] [gO h 5 [.ref tk, .ref dr, .int (nI (j1 + 1)), .int (ks (j1 + 1)), .int fk, .int fp], gO tk 8 [.ref c0, .ref c1, .int (nI cn)], gA E c0 601 ks, gA E c1 601 ps, gO dr 4 [.ref a0, .ref a1, .ref a2, .ref a3, .int (nI nr), .int (nI (us + C1.length))], gA E a0 12 sa, gA E a1 12 sk, gA E a2 13 st, gA E a3 600 (cdW co us C1)]
            refine g_aload_n C dX5_readEither_37 rfl ?_
            refine g_iload_n C dX5_readEither_38 rfl ?_
            refine g_callV C (c_X5_readBoth_7 E h tk c0 c1 cn dr a0 a1 a2 a3 nr (us + C1.length) (j1 + 1) ks ps sa sk st (cdW co us C1) fk fp (by omega) (by omega) (hend) (by omega)) gX5_readEither_X5_readBoth rfl 1 (by decide +kernel) ⟨by decide, by decide⟩ ⟨by decide, by decide⟩ 0 rfl rfl [0, 1, 2, 3, 4, 5, 6, 7, 8] [] (wr := []) rfl (by decide) rfl (by decide) (by decide) rfl rfl (Nat.le_of_ble_eq_true rfl) dX5_readEither_39 ?_
            rintro _ _ ⟨ok_39, j_39, us2_39, co2_39, fk2_39, fp2_39, rfl, rfl, hq_39⟩
            show gg E _ 4 X 0 0 42 [some (.ref h), some (.int (nI 1)), some (.int (nI 1)), some (.int (nI it))] [.int (b2i ok_39)] [gO h 5 [.ref tk, .ref dr, .int (nI j_39), .int (ks j_39), .int fk2_39, .int fp2_39], gO tk 8 [.ref c0, .ref c1, .int (nI cn)], gA E c0 601 ks, gA E c1 601 ps, gO dr 4 [.ref a0, .ref a1, .ref a2, .ref a3, .int (nI nr), .int (nI us2_39)], gA E a0 12 sa, gA E a1 12 sk, gA E a2 13 st, gA E a3 600 co2_39]
            rcases rdQ_tw hq_39 with ⟨C_39, hr_39, rfl, rfl, rfl, rfl, rfl, b1_39, b2_39, b3_39⟩ | ⟨kd_39, ix_39, hr_39, rfl, rfl, rfl, b1_39, b2_39, b3_39, b4_39⟩
            · refine g_istore_n C dX5_readEither_42 (by decide) rfl (ll' := [some (.ref h), some (.int (nI 1)), some (.int (nI 1)), some (.int (nI it))]) rfl ?_
              refine g_aload_n C dX5_readEither_43 rfl ?_
              refine g_get C i_X5 0 1 f_21 rfl rfl (by decide) rfl rfl dX5_readEither_44 ?_
              refine g_sipush (v := nI 1003) C dX5_readEither_47 (by decide) ?_
              refine g_callV C (c_X4_append E dr a0 a1 a2 a3 nr ((us + C1.length) + C_39.length) sa sk st (cdW (cdW co us C1) (us + C1.length) C_39) (nI 1003) (by omega)) gX5_readEither_X4_append rfl 1 (by decide +kernel) ⟨by decide, by decide⟩ ⟨by decide, by decide⟩ 4 rfl rfl [4, 5, 6, 7, 8] [0, 1, 2, 3] (wr := [gO h 5 [.ref tk, .ref dr, .int (nI j_39), .int (ks j_39), .int fk, .int fp], gO tk 8 [.ref c0, .ref c1, .int (nI cn)], gA E c0 601 ks, gA E c1 601 ps]) rfl (by decide) rfl (by decide) (by decide) rfl rfl (Nat.le_of_ble_eq_true rfl) dX5_readEither_50 ?_
              rintro _ _ ⟨rfl, rfl⟩
              show gg E _ 4 X 0 0 53 [some (.ref h), some (.int (nI 1)), some (.int (nI 1)), some (.int (nI it))] [] [gO h 5 [.ref tk, .ref dr, .int (nI j_39), .int (ks j_39), .int fk, .int fp], gO tk 8 [.ref c0, .ref c1, .int (nI cn)], gA E c0 601 ks, gA E c1 601 ps, gO dr 4 [.ref a0, .ref a1, .ref a2, .ref a3, .int (nI nr), .int (nI (((us + C1.length) + C_39.length) + 1))], gA E a0 12 sa, gA E a1 12 sk, gA E a2 13 st, gA E a3 600 (upd (cdW (cdW co us C1) (us + C1.length) C_39) ((us + C1.length) + C_39.length) (nI 1003))]
              rw [ln3 us C1 C_39 (nI 1003), cd3 co us C1 C_39 (nI 1003)]
              refine g_iinc_n (y := 1) C dX5_readEither_53 rfl (by decide) (by decide) rfl (ll' := [some (.ref h), some (.int (nI 1)), some (.int (nI 1)), some (.int (nI (it + 1)))]) rfl ?_
              refine g_goto (tgt := 8) C dX5_readEither_56 (by decide) ?_
              exact ih8 (it + 1) j_39 (f1 - 1) (C1 ++ C_39 ++ [nI 1003]) (by omega) (by omega) (by omega) (by omega) (by have := ln3 us C1 C_39 (nI 1003); omega) (by rw [g5, show f1 = f1 - 1 + 1 by omega, lpO, if_pos c30, hr_39]; rfl)
            · refine g_istore_n C dX5_readEither_42 (by decide) rfl (ll' := [some (.ref h), some (.int (nI 1)), some (.int (nI 0)), some (.int (nI it))]) rfl ?_
              refine g_aload_n C dX5_readEither_43 rfl ?_
              refine g_get C i_X5 0 1 f_21 rfl rfl (by decide) rfl rfl dX5_readEither_44 ?_
              refine g_sipush (v := nI 1003) C dX5_readEither_47 (by decide) ?_
              refine g_callV C (c_X4_append E dr a0 a1 a2 a3 nr us2_39 sa sk st co2_39 (nI 1003) (by omega)) gX5_readEither_X4_append rfl 1 (by decide +kernel) ⟨by decide, by decide⟩ ⟨by decide, by decide⟩ 4 rfl rfl [4, 5, 6, 7, 8] [0, 1, 2, 3] (wr := [gO h 5 [.ref tk, .ref dr, .int (nI j_39), .int (ks j_39), .int (nI kd_39), .int (ps ix_39)], gO tk 8 [.ref c0, .ref c1, .int (nI cn)], gA E c0 601 ks, gA E c1 601 ps]) rfl (by decide) rfl (by decide) (by decide) rfl rfl (Nat.le_of_ble_eq_true rfl) dX5_readEither_50 ?_
              rintro _ _ ⟨rfl, rfl⟩
              show gg E _ 4 X 0 0 53 [some (.ref h), some (.int (nI 1)), some (.int (nI 0)), some (.int (nI it))] [] [gO h 5 [.ref tk, .ref dr, .int (nI j_39), .int (ks j_39), .int (nI kd_39), .int (ps ix_39)], gO tk 8 [.ref c0, .ref c1, .int (nI cn)], gA E c0 601 ks, gA E c1 601 ps, gO dr 4 [.ref a0, .ref a1, .ref a2, .ref a3, .int (nI nr), .int (nI (us2_39 + 1))], gA E a0 12 sa, gA E a1 12 sk, gA E a2 13 st, gA E a3 600 (upd co2_39 us2_39 (nI 1003))]
              refine g_iinc_n (y := 1) C dX5_readEither_53 rfl (by decide) (by decide) rfl (ll' := [some (.ref h), some (.int (nI 1)), some (.int (nI 0)), some (.int (nI (it + 1)))]) rfl ?_
              refine g_goto (tgt := 8) C dX5_readEither_56 (by decide) ?_
              refine g_iload_n C dX5_readEither_8 rfl ?_
              refine g_aload_n C dX5_readEither_9 rfl ?_
              refine g_get C i_X5 0 0 f_12 rfl rfl (by decide) rfl rfl dX5_readEither_10 ?_
              refine g_get C i_X8 1 2 f_76 rfl rfl (by decide) rfl rfl dX5_readEither_13 ?_
              refine g_icmp_ge_n (tgt := 59) C dX5_readEither_16 (by decide) (by omega) (by omega) (fun c16 => ?_) (fun c16 => ?_)
              · refine g_iload_n C dX5_readEither_59 rfl ?_
                exact g_zret C Rt dX5_readEither_60 (by decide) (by decide) (by decide) (⟨false, _, _, _, _, _, rfl, rfl, rdQ_er (by rw [g5, show f1 = f1 - 1 + 1 by omega, lpO, if_pos c30, hr_39]) (by omega) b2_39 (by omega) b4_39⟩)
              · refine g_iload_n C dX5_readEither_19 rfl ?_
                refine g_if_eq (tgt := 59) C dX5_readEither_20 (by decide) (fun c20 => ?_) (fun c20 => absurd c20 (by decide))
                refine g_iload_n C dX5_readEither_59 rfl ?_
                exact g_zret C Rt dX5_readEither_60 (by decide) (by decide) (by decide) (⟨false, _, _, _, _, _, rfl, rfl, rdQ_er (by rw [g5, show f1 = f1 - 1 + 1 by omega, lpO, if_pos c30, hr_39]) (by omega) b2_39 (by omega) b4_39⟩)
    exact L8 _ 0 j_2 601 C_2 (Nat.lt_succ_self _) (by omega) (by omega) (by omega) (by omega) (by rw [pAny, hr_2]; rfl)
  · refine g_istore_n C dX5_readEither_5 (by decide) rfl (ll' := [some (.ref h), some (.int (nI 1)), some (.int (nI 0)), none]) rfl ?_
    refine g_iconst (v := nI 0) C dX5_readEither_6 (by decide) ?_
    refine g_istore_n C dX5_readEither_7 (by decide) rfl (ll' := [some (.ref h), some (.int (nI 1)), some (.int (nI 0)), some (.int (nI 0))]) rfl ?_
    refine g_iload_n C dX5_readEither_8 rfl ?_
    refine g_aload_n C dX5_readEither_9 rfl ?_
    refine g_get C i_X5 0 0 f_12 rfl rfl (by decide) rfl rfl dX5_readEither_10 ?_
    refine g_get C i_X8 1 2 f_76 rfl rfl (by decide) rfl rfl dX5_readEither_13 ?_
    refine g_icmp_ge_n (tgt := 59) C dX5_readEither_16 (by decide) (by omega) (by omega) (fun c16 => ?_) (fun c16 => ?_)
    · refine g_iload_n C dX5_readEither_59 rfl ?_
      exact g_zret C Rt dX5_readEither_60 (by decide) (by decide) (by decide) (⟨false, _, _, _, _, _, rfl, rfl, rdQ_er (by rw [pAny, hr_2]; rfl) b1_2 b2_2 b3_2 b4_2⟩)
    · refine g_iload_n C dX5_readEither_19 rfl ?_
      refine g_if_eq (tgt := 59) C dX5_readEither_20 (by decide) (fun c20 => ?_) (fun c20 => absurd c20 (by decide))
      refine g_iload_n C dX5_readEither_59 rfl ?_
      exact g_zret C Rt dX5_readEither_60 (by decide) (by decide) (by decide) (⟨false, _, _, _, _, _, rfl, rfl, rdQ_er (by rw [pAny, hr_2]; rfl) b1_2 b2_2 b3_2 b4_2⟩)

abbrev rm_c_X5_readCondition_8 : Room := { frames := 27, cells := 0, slots := 0, locals := 617 }
set_option maxHeartbeats 4000000 in
set_option maxRecDepth 100000 in
theorem c_X5_readCondition_8 (E : gE) (h tk c0 c1 cn dr a0 a1 a2 a3 nr us i : Nat) (ks ps sa sk st co : Nat → Int32) (fk fp : Int32) (hi : i < cn) (hcn : cn ≤ 601) (hend : ks (cn - 1) = nI 1011) (hus : us ≤ i) : MM E yX5_readCondition wsX5_readCondition rm_c_X5_readCondition_8 [.ref h, .int (nI 0)] [gO h 5 [.ref tk, .ref dr, .int (nI i), .int (ks i), .int fk, .int fp], gO tk 8 [.ref c0, .ref c1, .int (nI cn)], gA E c0 601 ks, gA E c1 601 ps, gO dr 4 [.ref a0, .ref a1, .ref a2, .ref a3, .int (nI nr), .int (nI us)], gA E a0 12 sa, gA E a1 12 sk, gA E a2 13 st, gA E a3 600 co] (fun rv_ ru_ => ∃ (ok : Bool) (j us2 : Nat) (co2 : Nat → Int32) (fk2 fp2 : Int32), rv_ = some (.int (b2i ok)) ∧ ru_ = [gO h 5 [.ref tk, .ref dr, .int (nI j), .int (ks j), .int fk2, .int fp2], gO tk 8 [.ref c0, .ref c1, .int (nI cn)], gA E c0 601 ks, gA E c1 601 ps, gO dr 4 [.ref a0, .ref a1, .ref a2, .ref a3, .int (nI nr), .int (nI us2)], gA E a0 12 sa, gA E a1 12 sk, gA E a2 13 st, gA E a3 600 co2] ∧ (rdQ (pLv ks 8 i) ps cn i us co fk fp ok j us2 co2 fk2 fp2)) := by
  refine MM.ofG (cc := cX5_readCondition) (maxL := 4) (ret := (some .boolean)) (by decide) rfl (Nat.le_of_ble_eq_true rfl) (ll := [some (.ref h), some (.int (nI 0)), none, none]) rfl ?_
  intro X C Rt
  have C : gx E X cX5_readCondition 4 wsX5_readCondition RX5 := C
  have i_X5 : ∀ w ∈ u_ws RX5 TX5 6, w ∈ wsX5_readCondition := by decide +kernel
  have f_21 : Cond.fieldLink RX5 21 "MarkPages$RuleReader" "draft" "LMarkPages$RuleBook;" ∈ wsX5_readCondition := by decide +kernel
  have f_25 : Cond.fieldLink RX5 25 "MarkPages$RuleReader" "now" "I" ∈ wsX5_readCondition := by decide +kernel
  refine g_aload_n C dX5_readCondition_0 rfl ?_
  refine g_get C i_X5 0 3 f_25 rfl rfl (by decide) rfl rfl dX5_readCondition_1 ?_
  refine g_sipush (v := nI 1005) C dX5_readCondition_4 (by decide) ?_
  refine g_icmp_eq (tgt := 25) C dX5_readCondition_7 (by decide) (fun c7 => ?_) (fun c7 => ?_)
  · refine g_iload_n C dX5_readCondition_25 rfl ?_
    refine g_bipush (v := nI 8) C dX5_readCondition_26 (by decide) ?_
    refine g_icmp_lt (tgt := 37) C dX5_readCondition_28 (by decide) (fun c28 => ?_) (fun c28 => absurd c28 (by decide))
    refine g_aload_n C dX5_readCondition_37 rfl ?_
    refine g_get C i_X5 0 3 f_25 rfl rfl (by decide) rfl rfl dX5_readCondition_38 ?_
    refine g_sipush (v := nI 1005) C dX5_readCondition_41 (by decide) ?_
    refine g_icmp_ne (tgt := 51) C dX5_readCondition_44 (by decide) (fun c44 => ?_) (fun c44 => ?_)
    · exact absurd c7 c44
    · refine g_iconst (v := nI 1) C dX5_readCondition_47 (by decide) ?_
      refine g_goto (tgt := 52) C dX5_readCondition_48 (by decide) ?_
      refine g_istore_n C dX5_readCondition_52 (by decide) rfl (ll' := [some (.ref h), some (.int (nI 0)), some (.int (nI 1)), none]) rfl ?_
      have hn8 := not_end hend hi c7 (by decide)
      refine g_aload_n C dX5_readCondition_53 rfl ?_
      refine g_callV C (c_X5_advance E h tk c0 c1 cn dr a0 a1 a2 a3 nr us i ks ps sa sk st co fk fp (hn8) (by omega)) gX5_readCondition_X5_advance rfl 0 (by decide +kernel) ⟨by decide, by decide⟩ ⟨by decide, by decide⟩ 0 rfl rfl [0, 1, 2, 3, 4, 5, 6, 7, 8] [] (wr := []) rfl (by decide) rfl (by decide) (by decide) rfl rfl (Nat.le_of_ble_eq_true rfl) dX5_readCondition_54 ?_
      rintro _ _ ⟨rfl, rfl⟩
      show gg E _ 4 X 0 0 57 [some (.ref h), some (.int (nI 0)), some (.int (nI 1)), none] [] [gO h 5 [.ref tk, .ref dr, .int (nI (i + 1)), .int (ks (i + 1)), .int fk, .int fp], gO tk 8 [.ref c0, .ref c1, .int (nI cn)], gA E c0 601 ks, gA E c1 601 ps, gO dr 4 [.ref a0, .ref a1, .ref a2, .ref a3, .int (nI nr), .int (nI us)], gA E a0 12 sa, gA E a1 12 sk, gA E a2 13 st, gA E a3 600 co]
      refine g_iload_n C dX5_readCondition_57 rfl ?_
      refine g_if_ne (tgt := 87) C dX5_readCondition_58 (by decide) (fun c58 => ?_) (fun c58 => absurd c58 (by decide))
      refine g_aload_n C dX5_readCondition_87 rfl ?_
      refine g_iload_n C dX5_readCondition_88 rfl ?_
      refine g_iconst (v := nI 1) C dX5_readCondition_89 (by decide) ?_
      refine g_iadd C dX5_readCondition_90 (g_top (x' := nI 1) (by decide) ?_)
      refine g_callV C (c_X5_readCondition_7 E h tk c0 c1 cn dr a0 a1 a2 a3 nr us (i + 1) ks ps sa sk st co fk fp (by omega) (by omega) (hend) (by omega)) gX5_readCondition_X5_readCondition rfl 1 (by decide +kernel) ⟨by decide, by decide⟩ ⟨by decide, by decide⟩ 0 rfl rfl [0, 1, 2, 3, 4, 5, 6, 7, 8] [] (wr := []) rfl (by decide) rfl (by decide) (by decide) rfl rfl (Nat.le_of_ble_eq_true rfl) dX5_readCondition_91 ?_
      rintro _ _ ⟨ok_91, j_91, us2_91, co2_91, fk2_91, fp2_91, rfl, rfl, hq_91⟩
      show gg E _ 4 X 0 0 94 [some (.ref h), some (.int (nI 0)), some (.int (nI 1)), none] [.int (b2i ok_91)] [gO h 5 [.ref tk, .ref dr, .int (nI j_91), .int (ks j_91), .int fk2_91, .int fp2_91], gO tk 8 [.ref c0, .ref c1, .int (nI cn)], gA E c0 601 ks, gA E c1 601 ps, gO dr 4 [.ref a0, .ref a1, .ref a2, .ref a3, .int (nI nr), .int (nI us2_91)], gA E a0 12 sa, gA E a1 12 sk, gA E a2 13 st, gA E a3 600 co2_91]
      rcases rdQ_tw hq_91 with ⟨C_91, hr_91, rfl, rfl, rfl, rfl, rfl, b1_91, b2_91, b3_91⟩ | ⟨kd_91, ix_91, hr_91, rfl, rfl, rfl, b1_91, b2_91, b3_91, b4_91⟩
      · refine g_istore_n C dX5_readCondition_94 (by decide) rfl (ll' := [some (.ref h), some (.int (nI 0)), some (.int (nI 1)), some (.int (nI 1))]) rfl ?_
        refine g_aload_n C dX5_readCondition_95 rfl ?_
        refine g_get C i_X5 0 1 f_21 rfl rfl (by decide) rfl rfl dX5_readCondition_96 ?_
        refine g_sipush (v := nI 1005) C dX5_readCondition_99 (by decide) ?_
        refine g_callV C (c_X4_append E dr a0 a1 a2 a3 nr (us + C_91.length) sa sk st (cdW co us C_91) (nI 1005) (by omega)) gX5_readCondition_X4_append rfl 1 (by decide +kernel) ⟨by decide, by decide⟩ ⟨by decide, by decide⟩ 4 rfl rfl [4, 5, 6, 7, 8] [0, 1, 2, 3] (wr := [gO h 5 [.ref tk, .ref dr, .int (nI j_91), .int (ks j_91), .int fk, .int fp], gO tk 8 [.ref c0, .ref c1, .int (nI cn)], gA E c0 601 ks, gA E c1 601 ps]) rfl (by decide) rfl (by decide) (by decide) rfl rfl (Nat.le_of_ble_eq_true rfl) dX5_readCondition_102 ?_
        rintro _ _ ⟨rfl, rfl⟩
        show gg E _ 4 X 0 0 105 [some (.ref h), some (.int (nI 0)), some (.int (nI 1)), some (.int (nI 1))] [] [gO h 5 [.ref tk, .ref dr, .int (nI j_91), .int (ks j_91), .int fk, .int fp], gO tk 8 [.ref c0, .ref c1, .int (nI cn)], gA E c0 601 ks, gA E c1 601 ps, gO dr 4 [.ref a0, .ref a1, .ref a2, .ref a3, .int (nI nr), .int (nI ((us + C_91.length) + 1))], gA E a0 12 sa, gA E a1 12 sk, gA E a2 13 st, gA E a3 600 (upd (cdW co us C_91) (us + C_91.length) (nI 1005))]
        refine g_iload_n C dX5_readCondition_105 rfl ?_
        exact g_zret C Rt dX5_readCondition_106 (by decide) (by decide) (by decide) (⟨true, _, _, _, _, _, rfl, rfl, rdQ_ok (by rw [pLv, if_pos (Or.inl c7), if_pos c7, hr_91]; rfl) (by omega) b2_91 (by omega) (ln2 _ _ _) (cdW_snoc _ _ _ _).symm⟩)
      · refine g_istore_n C dX5_readCondition_94 (by decide) rfl (ll' := [some (.ref h), some (.int (nI 0)), some (.int (nI 1)), some (.int (nI 0))]) rfl ?_
        refine g_aload_n C dX5_readCondition_95 rfl ?_
        refine g_get C i_X5 0 1 f_21 rfl rfl (by decide) rfl rfl dX5_readCondition_96 ?_
        refine g_sipush (v := nI 1005) C dX5_readCondition_99 (by decide) ?_
        refine g_callV C (c_X4_append E dr a0 a1 a2 a3 nr us2_91 sa sk st co2_91 (nI 1005) (by omega)) gX5_readCondition_X4_append rfl 1 (by decide +kernel) ⟨by decide, by decide⟩ ⟨by decide, by decide⟩ 4 rfl rfl [4, 5, 6, 7, 8] [0, 1, 2, 3] (wr := [gO h 5 [.ref tk, .ref dr, .int (nI j_91), .int (ks j_91), .int (nI kd_91), .int (ps ix_91)], gO tk 8 [.ref c0, .ref c1, .int (nI cn)], gA E c0 601 ks, gA E c1 601 ps]) rfl (by decide) rfl (by decide) (by decide) rfl rfl (Nat.le_of_ble_eq_true rfl) dX5_readCondition_102 ?_
        rintro _ _ ⟨rfl, rfl⟩
        show gg E _ 4 X 0 0 105 [some (.ref h), some (.int (nI 0)), some (.int (nI 1)), some (.int (nI 0))] [] [gO h 5 [.ref tk, .ref dr, .int (nI j_91), .int (ks j_91), .int (nI kd_91), .int (ps ix_91)], gO tk 8 [.ref c0, .ref c1, .int (nI cn)], gA E c0 601 ks, gA E c1 601 ps, gO dr 4 [.ref a0, .ref a1, .ref a2, .ref a3, .int (nI nr), .int (nI (us2_91 + 1))], gA E a0 12 sa, gA E a1 12 sk, gA E a2 13 st, gA E a3 600 (upd co2_91 us2_91 (nI 1005))]
        refine g_iload_n C dX5_readCondition_105 rfl ?_
        exact g_zret C Rt dX5_readCondition_106 (by decide) (by decide) (by decide) (⟨false, _, _, _, _, _, rfl, rfl, rdQ_er (by rw [pLv, if_pos (Or.inl c7), if_pos c7, hr_91]; rfl) (by omega) b2_91 (by omega) b4_91⟩)
  · refine g_aload_n C dX5_readCondition_10 rfl ?_
    refine g_get C i_X5 0 3 f_25 rfl rfl (by decide) rfl rfl dX5_readCondition_11 ?_
    refine g_sipush (v := nI 1140) C dX5_readCondition_14 (by decide) ?_
    refine g_icmp_eq (tgt := 25) C dX5_readCondition_17 (by decide) (fun c17 => ?_) (fun c17 => ?_)
    · refine g_iload_n C dX5_readCondition_25 rfl ?_
      refine g_bipush (v := nI 8) C dX5_readCondition_26 (by decide) ?_
      refine g_icmp_lt (tgt := 37) C dX5_readCondition_28 (by decide) (fun c28 => ?_) (fun c28 => absurd c28 (by decide))
      refine g_aload_n C dX5_readCondition_37 rfl ?_
      refine g_get C i_X5 0 3 f_25 rfl rfl (by decide) rfl rfl dX5_readCondition_38 ?_
      refine g_sipush (v := nI 1005) C dX5_readCondition_41 (by decide) ?_
      refine g_icmp_ne (tgt := 51) C dX5_readCondition_44 (by decide) (fun c44 => ?_) (fun c44 => ?_)
      · refine g_iconst (v := nI 0) C dX5_readCondition_51 (by decide) ?_
        refine g_istore_n C dX5_readCondition_52 (by decide) rfl (ll' := [some (.ref h), some (.int (nI 0)), some (.int (nI 0)), none]) rfl ?_
        have hn8 := not_end hend hi c17 (by decide)
        refine g_aload_n C dX5_readCondition_53 rfl ?_
        refine g_callV C (c_X5_advance E h tk c0 c1 cn dr a0 a1 a2 a3 nr us i ks ps sa sk st co fk fp (hn8) (by omega)) gX5_readCondition_X5_advance rfl 0 (by decide +kernel) ⟨by decide, by decide⟩ ⟨by decide, by decide⟩ 0 rfl rfl [0, 1, 2, 3, 4, 5, 6, 7, 8] [] (wr := []) rfl (by decide) rfl (by decide) (by decide) rfl rfl (Nat.le_of_ble_eq_true rfl) dX5_readCondition_54 ?_
        rintro _ _ ⟨rfl, rfl⟩
        show gg E _ 4 X 0 0 57 [some (.ref h), some (.int (nI 0)), some (.int (nI 0)), none] [] [gO h 5 [.ref tk, .ref dr, .int (nI (i + 1)), .int (ks (i + 1)), .int fk, .int fp], gO tk 8 [.ref c0, .ref c1, .int (nI cn)], gA E c0 601 ks, gA E c1 601 ps, gO dr 4 [.ref a0, .ref a1, .ref a2, .ref a3, .int (nI nr), .int (nI us)], gA E a0 12 sa, gA E a1 12 sk, gA E a2 13 st, gA E a3 600 co]
        refine g_iload_n C dX5_readCondition_57 rfl ?_
        refine g_if_ne (tgt := 87) C dX5_readCondition_58 (by decide) (fun c58 => absurd c58 (by decide)) (fun c58 => ?_)
        refine g_aload_n C dX5_readCondition_61 rfl ?_
        refine g_iload_n C dX5_readCondition_62 rfl ?_
        refine g_iconst (v := nI 1) C dX5_readCondition_63 (by decide) ?_
        refine g_iadd C dX5_readCondition_64 (g_top (x' := nI 1) (by decide) ?_)
        refine g_callV C (c_X5_readEither_7 E h tk c0 c1 cn dr a0 a1 a2 a3 nr us (i + 1) ks ps sa sk st co fk fp (by omega) (by omega) (hend) (by omega)) gX5_readCondition_X5_readEither rfl 1 (by decide +kernel) ⟨by decide, by decide⟩ ⟨by decide, by decide⟩ 0 rfl rfl [0, 1, 2, 3, 4, 5, 6, 7, 8] [] (wr := []) rfl (by decide) rfl (by decide) (by decide) rfl rfl (Nat.le_of_ble_eq_true rfl) dX5_readCondition_65 ?_
        rintro _ _ ⟨ok_65, j_65, us2_65, co2_65, fk2_65, fp2_65, rfl, rfl, hq_65⟩
        show gg E _ 4 X 0 0 68 [some (.ref h), some (.int (nI 0)), some (.int (nI 0)), none] [.int (b2i ok_65)] [gO h 5 [.ref tk, .ref dr, .int (nI j_65), .int (ks j_65), .int fk2_65, .int fp2_65], gO tk 8 [.ref c0, .ref c1, .int (nI cn)], gA E c0 601 ks, gA E c1 601 ps, gO dr 4 [.ref a0, .ref a1, .ref a2, .ref a3, .int (nI nr), .int (nI us2_65)], gA E a0 12 sa, gA E a1 12 sk, gA E a2 13 st, gA E a3 600 co2_65]
        rcases rdQ_tw hq_65 with ⟨C_65, hr_65, rfl, rfl, rfl, rfl, rfl, b1_65, b2_65, b3_65⟩ | ⟨kd_65, ix_65, hr_65, rfl, rfl, rfl, b1_65, b2_65, b3_65, b4_65⟩
        · refine g_if_eq (tgt := 85) C dX5_readCondition_68 (by decide) (fun c68 => absurd c68 (by decide)) (fun c68 => ?_)
          rcases Classical.em (ks j_65 = nI 1141) with hx | hx
          · refine g_aload_n C dX5_readCondition_71 rfl ?_
            refine g_sipush (v := nI 1141) C dX5_readCondition_72 (by decide) ?_
            refine g_callV C (c_X5_expect_y E h tk c0 c1 cn dr a0 a1 a2 a3 nr (us + C_65.length) j_65 ks ps sa sk st (cdW co us C_65) fk fp (nI 1141) (by omega) (by omega) (hend) (hx) (by decide)) gX5_readCondition_X5_expect rfl 1 (by decide +kernel) ⟨by decide, by decide⟩ ⟨by decide, by decide⟩ 0 rfl rfl [0, 1, 2, 3, 4, 5, 6, 7, 8] [] (wr := []) rfl (by decide) rfl (by decide) (by decide) rfl rfl (Nat.le_of_ble_eq_true rfl) dX5_readCondition_75 ?_
            rintro _ _ ⟨rfl, rfl⟩
            show gg E _ 4 X 0 0 78 [some (.ref h), some (.int (nI 0)), some (.int (nI 0)), none] [.int (nI 1)] [gO h 5 [.ref tk, .ref dr, .int (nI (j_65 + 1)), .int (ks (j_65 + 1)), .int fk, .int fp], gO tk 8 [.ref c0, .ref c1, .int (nI cn)], gA E c0 601 ks, gA E c1 601 ps, gO dr 4 [.ref a0, .ref a1, .ref a2, .ref a3, .int (nI nr), .int (nI (us + C_65.length))], gA E a0 12 sa, gA E a1 12 sk, gA E a2 13 st, gA E a3 600 (cdW co us C_65)]
            refine g_if_eq (tgt := 85) C dX5_readCondition_78 (by decide) (fun c78 => absurd c78 (by decide)) (fun c78 => ?_)
            refine g_iconst (v := nI 1) C dX5_readCondition_81 (by decide) ?_
            refine g_goto (tgt := 86) C dX5_readCondition_82 (by decide) ?_
            exact g_zret C Rt dX5_readCondition_86 (by decide) (by decide) (by decide) (⟨true, _, _, _, _, _, rfl, rfl, rdQ_ok (by rw [pLv, if_pos (Or.inr c17), if_neg c7, hr_65]; exact if_pos hx) (by omega) (not_end hend b2_65 hx (by decide)) (by omega) rfl rfl⟩)
          · refine g_aload_n C dX5_readCondition_71 rfl ?_
            refine g_sipush (v := nI 1141) C dX5_readCondition_72 (by decide) ?_
            refine g_callV C (c_X5_expect_n E h tk c0 c1 cn dr a0 a1 a2 a3 nr (us + C_65.length) j_65 ks ps sa sk st (cdW co us C_65) fk fp (nI 1141) (by omega) (by omega) (hx)) gX5_readCondition_X5_expect rfl 1 (by decide +kernel) ⟨by decide, by decide⟩ ⟨by decide, by decide⟩ 0 rfl rfl [0, 1, 2, 3, 4, 5, 6, 7, 8] [] (wr := []) rfl (by decide) rfl (by decide) (by decide) rfl rfl (Nat.le_of_ble_eq_true rfl) dX5_readCondition_75 ?_
            rintro _ _ ⟨rfl, rfl⟩
            show gg E _ 4 X 0 0 78 [some (.ref h), some (.int (nI 0)), some (.int (nI 0)), none] [.int (nI 0)] [gO h 5 [.ref tk, .ref dr, .int (nI j_65), .int (ks j_65), .int (nI 1), .int (ps j_65)], gO tk 8 [.ref c0, .ref c1, .int (nI cn)], gA E c0 601 ks, gA E c1 601 ps, gO dr 4 [.ref a0, .ref a1, .ref a2, .ref a3, .int (nI nr), .int (nI (us + C_65.length))], gA E a0 12 sa, gA E a1 12 sk, gA E a2 13 st, gA E a3 600 (cdW co us C_65)]
            refine g_if_eq (tgt := 85) C dX5_readCondition_78 (by decide) (fun c78 => ?_) (fun c78 => absurd c78 (by decide))
            refine g_iconst (v := nI 0) C dX5_readCondition_85 (by decide) ?_
            exact g_zret C Rt dX5_readCondition_86 (by decide) (by decide) (by decide) (⟨false, _, _, _, _, _, rfl, rfl, rdQ_er (by rw [pLv, if_pos (Or.inr c17), if_neg c7, hr_65]; exact if_neg hx) (by omega) b2_65 (by omega) b2_65⟩)
        · refine g_if_eq (tgt := 85) C dX5_readCondition_68 (by decide) (fun c68 => ?_) (fun c68 => absurd c68 (by decide))
          refine g_iconst (v := nI 0) C dX5_readCondition_85 (by decide) ?_
          exact g_zret C Rt dX5_readCondition_86 (by decide) (by decide) (by decide) (⟨false, _, _, _, _, _, rfl, rfl, rdQ_er (by rw [pLv, if_pos (Or.inr c17), if_neg c7, hr_65]; rfl) (by omega) b2_65 (by omega) b4_65⟩)
      · exact absurd c44 c7
    · refine g_aload_n C dX5_readCondition_20 rfl ?_
      refine g_callV C (c_X5_readComparison E h tk c0 c1 cn dr a0 a1 a2 a3 nr us i ks ps sa sk st co fk fp (by omega) (by omega) (hend) (by omega)) gX5_readCondition_X5_readComparison rfl 0 (by decide +kernel) ⟨by decide, by decide⟩ ⟨by decide, by decide⟩ 0 rfl rfl [0, 1, 2, 3, 4, 5, 6, 7, 8] [] (wr := []) rfl (by decide) rfl (by decide) (by decide) rfl rfl (Nat.le_of_ble_eq_true rfl) dX5_readCondition_21 ?_
      rintro _ _ ⟨ok_21, j_21, us2_21, co2_21, fk2_21, fp2_21, rfl, rfl, hq_21⟩
      show gg E _ 4 X 0 0 24 [some (.ref h), some (.int (nI 0)), none, none] [.int (b2i ok_21)] [gO h 5 [.ref tk, .ref dr, .int (nI j_21), .int (ks j_21), .int fk2_21, .int fp2_21], gO tk 8 [.ref c0, .ref c1, .int (nI cn)], gA E c0 601 ks, gA E c1 601 ps, gO dr 4 [.ref a0, .ref a1, .ref a2, .ref a3, .int (nI nr), .int (nI us2_21)], gA E a0 12 sa, gA E a1 12 sk, gA E a2 13 st, gA E a3 600 co2_21]
      exact g_zret C Rt dX5_readCondition_24 (by decide) (by decide) (b2i_01 _) (⟨_, _, _, _, _, _, rfl, rfl, by rw [pLv, if_neg (fun z => z.elim c7 c17)]; exact hq_21⟩)

abbrev rm_c_X5_readBoth_8 : Room := { frames := 28, cells := 0, slots := 0, locals := 640 }
set_option maxHeartbeats 4000000 in
set_option maxRecDepth 100000 in
theorem c_X5_readBoth_8 (E : gE) (h tk c0 c1 cn dr a0 a1 a2 a3 nr us i : Nat) (ks ps sa sk st co : Nat → Int32) (fk fp : Int32) (hi : i < cn) (hcn : cn ≤ 601) (hend : ks (cn - 1) = nI 1011) (hus : us ≤ i) : MM E yX5_readBoth wsX5_readBoth rm_c_X5_readBoth_8 [.ref h, .int (nI 0)] [gO h 5 [.ref tk, .ref dr, .int (nI i), .int (ks i), .int fk, .int fp], gO tk 8 [.ref c0, .ref c1, .int (nI cn)], gA E c0 601 ks, gA E c1 601 ps, gO dr 4 [.ref a0, .ref a1, .ref a2, .ref a3, .int (nI nr), .int (nI us)], gA E a0 12 sa, gA E a1 12 sk, gA E a2 13 st, gA E a3 600 co] (fun rv_ ru_ => ∃ (ok : Bool) (j us2 : Nat) (co2 : Nat → Int32) (fk2 fp2 : Int32), rv_ = some (.int (b2i ok)) ∧ ru_ = [gO h 5 [.ref tk, .ref dr, .int (nI j), .int (ks j), .int fk2, .int fp2], gO tk 8 [.ref c0, .ref c1, .int (nI cn)], gA E c0 601 ks, gA E c1 601 ps, gO dr 4 [.ref a0, .ref a1, .ref a2, .ref a3, .int (nI nr), .int (nI us2)], gA E a0 12 sa, gA E a1 12 sk, gA E a2 13 st, gA E a3 600 co2] ∧ (rdQ (pAll ks (pLv ks 8) i) ps cn i us co fk fp ok j us2 co2 fk2 fp2)) := by
  refine MM.ofG (cc := cX5_readBoth) (maxL := 4) (ret := (some .boolean)) (by decide) rfl (Nat.le_of_ble_eq_true rfl) (ll := [some (.ref h), some (.int (nI 0)), none, none]) rfl ?_
  intro X C Rt
  have C : gx E X cX5_readBoth 4 wsX5_readBoth RX5 := C
  have i_X5 : ∀ w ∈ u_ws RX5 TX5 6, w ∈ wsX5_readBoth := by decide +kernel
  have i_X8 : ∀ w ∈ u_ws RX8 TX8 3, w ∈ wsX5_readBoth := by decide +kernel
  have f_12 : Cond.fieldLink RX5 12 "MarkPages$RuleReader" "tokens" "LMarkPages$Tokens;" ∈ wsX5_readBoth := by decide +kernel
  have f_21 : Cond.fieldLink RX5 21 "MarkPages$RuleReader" "draft" "LMarkPages$RuleBook;" ∈ wsX5_readBoth := by decide +kernel
  have f_25 : Cond.fieldLink RX5 25 "MarkPages$RuleReader" "now" "I" ∈ wsX5_readBoth := by decide +kernel
  have f_76 : Cond.fieldLink RX5 76 "MarkPages$Tokens" "count" "I" ∈ wsX5_readBoth := by decide +kernel
  refine g_aload_n C dX5_readBoth_0 rfl ?_
  refine g_iload_n C dX5_readBoth_1 rfl ?_
  refine g_callV C (c_X5_readCondition_8 E h tk c0 c1 cn dr a0 a1 a2 a3 nr us i ks ps sa sk st co fk fp (by omega) (by omega) (hend) (by omega)) gX5_readBoth_X5_readCondition rfl 1 (by decide +kernel) ⟨by decide, by decide⟩ ⟨by decide, by decide⟩ 0 rfl rfl [0, 1, 2, 3, 4, 5, 6, 7, 8] [] (wr := []) rfl (by decide) rfl (by decide) (by decide) rfl rfl (Nat.le_of_ble_eq_true rfl) dX5_readBoth_2 ?_
  rintro _ _ ⟨ok_2, j_2, us2_2, co2_2, fk2_2, fp2_2, rfl, rfl, hq_2⟩
  show gg E _ 4 X 0 0 5 [some (.ref h), some (.int (nI 0)), none, none] [.int (b2i ok_2)] [gO h 5 [.ref tk, .ref dr, .int (nI j_2), .int (ks j_2), .int fk2_2, .int fp2_2], gO tk 8 [.ref c0, .ref c1, .int (nI cn)], gA E c0 601 ks, gA E c1 601 ps, gO dr 4 [.ref a0, .ref a1, .ref a2, .ref a3, .int (nI nr), .int (nI us2_2)], gA E a0 12 sa, gA E a1 12 sk, gA E a2 13 st, gA E a3 600 co2_2]
  rcases rdQ_tw hq_2 with ⟨C_2, hr_2, rfl, rfl, rfl, rfl, rfl, b1_2, b2_2, b3_2⟩ | ⟨kd_2, ix_2, hr_2, rfl, rfl, rfl, b1_2, b2_2, b3_2, b4_2⟩
  · refine g_istore_n C dX5_readBoth_5 (by decide) rfl (ll' := [some (.ref h), some (.int (nI 0)), some (.int (nI 1)), none]) rfl ?_
    refine g_iconst (v := nI 0) C dX5_readBoth_6 (by decide) ?_
    refine g_istore_n C dX5_readBoth_7 (by decide) rfl (ll' := [some (.ref h), some (.int (nI 0)), some (.int (nI 1)), some (.int (nI 0))]) rfl ?_
    have L8 : ∀ (n8 : Nat) (it j1 f1 : Nat) (C1 : List Int32), cn - j1 < n8 → (j1 < cn) → (i + it ≤ j1) → (f1 + it = 601) → (C1.length + i ≤ j1) → (pAll ks (pLv ks 8) i = lpO ks (nI 1004) (pLv ks 8) f1 j1 C1) → gg E rm_c_X5_readBoth_8 4 X 0 0 8 [some (.ref h), some (.int (nI 0)), some (.int (nI 1)), some (.int (nI it))] [] [gO h 5 [.ref tk, .ref dr, .int (nI j1), .int (ks j1), .int fk, .int fp], gO tk 8 [.ref c0, .ref c1, .int (nI cn)], gA E c0 601 ks, gA E c1 601 ps, gO dr 4 [.ref a0, .ref a1, .ref a2, .ref a3, .int (nI nr), .int (nI (us + C1.length))], gA E a0 12 sa, gA E a1 12 sk, gA E a2 13 st, gA E a3 600 (cdW co us C1)] := by
      intro n8
      induction n8 with
      | zero => intro it j1 f1 C1 hm8; exact absurd hm8 (Nat.not_lt_zero _)
      | succ n8 ih8 =>
        intro it j1 f1 C1 hm8 g1 g2 g3 g4 g5
        refine g_iload_n C dX5_readBoth_8 rfl ?_
        refine g_aload_n C dX5_readBoth_9 rfl ?_
        refine g_get C i_X5 0 0 f_12 rfl rfl (by decide) rfl rfl dX5_readBoth_10 ?_
        refine g_get C i_X8 1 2 f_76 rfl rfl (by decide) rfl rfl dX5_readBoth_13 ?_
        refine g_icmp_ge_n (tgt := 59) C dX5_readBoth_16 (by decide) (by omega) (by omega) (fun c16 => ?_) (fun c16 => ?_)
        · exact absurd c16 (by omega)
        · refine g_iload_n C dX5_readBoth_19 rfl ?_
          refine g_if_eq (tgt := 59) C dX5_readBoth_20 (by decide) (fun c20 => absurd c20 (by decide)) (fun c20 => ?_)
          refine g_aload_n C dX5_readBoth_23 rfl ?_
          refine g_get C i_X5 0 3 f_25 rfl rfl (by decide) rfl rfl dX5_readBoth_24 ?_
          refine g_sipush (v := nI 1004) C dX5_readBoth_27 (by decide) ?_
          refine g_icmp_ne (tgt := 59) C dX5_readBoth_30 (by decide) (fun c30 => ?_) (fun c30 => ?_)
          · refine g_iload_n C dX5_readBoth_59 rfl ?_
            exact g_zret C Rt dX5_readBoth_60 (by decide) (by decide) (by decide) (⟨true, _, _, _, _, _, rfl, rfl, rdQ_ok (by rw [g5, show f1 = f1 - 1 + 1 by omega, lpO, if_neg c30]) (by omega) g1 (by omega) rfl rfl⟩)
          · have hn7 := not_end hend g1 c30 (by decide)
            refine g_aload_n C dX5_readBoth_33 rfl ?_
            refine g_callV C (c_X5_advance E h tk c0 c1 cn dr a0 a1 a2 a3 nr (us + C1.length) j1 ks ps sa sk st (cdW co us C1) fk fp (not_end hend g1 c30 (by decide)) (by omega)) gX5_readBoth_X5_advance rfl 0 (by decide +kernel) ⟨by decide, by decide⟩ ⟨by decide, by decide⟩ 0 rfl rfl [0, 1, 2, 3, 4, 5, 6, 7, 8] [] (wr := []) rfl (by decide) rfl (by decide) (by decide) rfl rfl (Nat.le_of_ble_eq_true rfl) dX5_readBoth_34 ?_
            rintro _ _ ⟨rfl, rfl⟩
            show gg E _ 4 X 0 0 37 [some (.ref h), some (.int (nI 0)), some (.int (nI 1)), some (.int (nI it))] [] [gO h 5 [.ref tk, .ref dr, .int (nI (j1 + 1)), .int (ks (j1 + 1)), .int fk, .int fp], gO tk 8 [.ref c0, .ref c1, .int (nI cn)], gA E c0 601 ks, gA E c1 601 ps, gO dr 4 [.ref a0, .ref a1, .ref a2, .ref a3, .int (nI nr), .int (nI (us + C1.length))], gA E a0 12 sa, gA E a1 12 sk, gA E a2 13 st, gA E a3 600 (cdW co us C1)]
            refine g_aload_n C dX5_readBoth_37 rfl ?_
            refine g_iload_n C dX5_readBoth_38 rfl ?_
            refine g_callV C (c_X5_readCondition_8 E h tk c0 c1 cn dr a0 a1 a2 a3 nr (us + C1.length) (j1 + 1) ks ps sa sk st (cdW co us C1) fk fp (by omega) (by omega) (hend) (by omega)) gX5_readBoth_X5_readCondition rfl 1 (by decide +kernel) ⟨by decide, by decide⟩ ⟨by decide, by decide⟩ 0 rfl rfl [0, 1, 2, 3, 4, 5, 6, 7, 8] [] (wr := []) rfl (by decide) rfl (by decide) (by decide) rfl rfl (Nat.le_of_ble_eq_true rfl) dX5_readBoth_39 ?_
            rintro _ _ ⟨ok_39, j_39, us2_39, co2_39, fk2_39, fp2_39, rfl, rfl, hq_39⟩
            show gg E _ 4 X 0 0 42 [some (.ref h), some (.int (nI 0)), some (.int (nI 1)), some (.int (nI it))] [.int (b2i ok_39)] [gO h 5 [.ref tk, .ref dr, .int (nI j_39), .int (ks j_39), .int fk2_39, .int fp2_39], gO tk 8 [.ref c0, .ref c1, .int (nI cn)], gA E c0 601 ks, gA E c1 601 ps, gO dr 4 [.ref a0, .ref a1, .ref a2, .ref a3, .int (nI nr), .int (nI us2_39)], gA E a0 12 sa, gA E a1 12 sk, gA E a2 13 st, gA E a3 600 co2_39]
            rcases rdQ_tw hq_39 with ⟨C_39, hr_39, rfl, rfl, rfl, rfl, rfl, b1_39, b2_39, b3_39⟩ | ⟨kd_39, ix_39, hr_39, rfl, rfl, rfl, b1_39, b2_39, b3_39, b4_39⟩
            · refine g_istore_n C dX5_readBoth_42 (by decide) rfl (ll' := [some (.ref h), some (.int (nI 0)), some (.int (nI 1)), some (.int (nI it))]) rfl ?_
              refine g_aload_n C dX5_readBoth_43 rfl ?_
              refine g_get C i_X5 0 1 f_21 rfl rfl (by decide) rfl rfl dX5_readBoth_44 ?_
              refine g_sipush (v := nI 1004) C dX5_readBoth_47 (by decide) ?_
              refine g_callV C (c_X4_append E dr a0 a1 a2 a3 nr ((us + C1.length) + C_39.length) sa sk st (cdW (cdW co us C1) (us + C1.length) C_39) (nI 1004) (by omega)) gX5_readBoth_X4_append rfl 1 (by decide +kernel) ⟨by decide, by decide⟩ ⟨by decide, by decide⟩ 4 rfl rfl [4, 5, 6, 7, 8] [0, 1, 2, 3] (wr := [gO h 5 [.ref tk, .ref dr, .int (nI j_39), .int (ks j_39), .int fk, .int fp], gO tk 8 [.ref c0, .ref c1, .int (nI cn)], gA E c0 601 ks, gA E c1 601 ps]) rfl (by decide) rfl (by decide) (by decide) rfl rfl (Nat.le_of_ble_eq_true rfl) dX5_readBoth_50 ?_
              rintro _ _ ⟨rfl, rfl⟩
              show gg E _ 4 X 0 0 53 [some (.ref h), some (.int (nI 0)), some (.int (nI 1)), some (.int (nI it))] [] [gO h 5 [.ref tk, .ref dr, .int (nI j_39), .int (ks j_39), .int fk, .int fp], gO tk 8 [.ref c0, .ref c1, .int (nI cn)], gA E c0 601 ks, gA E c1 601 ps, gO dr 4 [.ref a0, .ref a1, .ref a2, .ref a3, .int (nI nr), .int (nI (((us + C1.length) + C_39.length) + 1))], gA E a0 12 sa, gA E a1 12 sk, gA E a2 13 st, gA E a3 600 (upd (cdW (cdW co us C1) (us + C1.length) C_39) ((us + C1.length) + C_39.length) (nI 1004))]
              rw [ln3 us C1 C_39 (nI 1004), cd3 co us C1 C_39 (nI 1004)]
              refine g_iinc_n (y := 1) C dX5_readBoth_53 rfl (by decide) (by decide) rfl (ll' := [some (.ref h), some (.int (nI 0)), some (.int (nI 1)), some (.int (nI (it + 1)))]) rfl ?_
              refine g_goto (tgt := 8) C dX5_readBoth_56 (by decide) ?_
              exact ih8 (it + 1) j_39 (f1 - 1) (C1 ++ C_39 ++ [nI 1004]) (by omega) (by omega) (by omega) (by omega) (by have := ln3 us C1 C_39 (nI 1004); omega) (by rw [g5, show f1 = f1 - 1 + 1 by omega, lpO, if_pos c30, hr_39]; rfl)
            · refine g_istore_n C dX5_readBoth_42 (by decide) rfl (ll' := [some (.ref h), some (.int (nI 0)), some (.int (nI 0)), some (.int (nI it))]) rfl ?_
              refine g_aload_n C dX5_readBoth_43 rfl ?_
              refine g_get C i_X5 0 1 f_21 rfl rfl (by decide) rfl rfl dX5_readBoth_44 ?_
              refine g_sipush (v := nI 1004) C dX5_readBoth_47 (by decide) ?_
              refine g_callV C (c_X4_append E dr a0 a1 a2 a3 nr us2_39 sa sk st co2_39 (nI 1004) (by omega)) gX5_readBoth_X4_append rfl 1 (by decide +kernel) ⟨by decide, by decide⟩ ⟨by decide, by decide⟩ 4 rfl rfl [4, 5, 6, 7, 8] [0, 1, 2, 3] (wr := [gO h 5 [.ref tk, .ref dr, .int (nI j_39), .int (ks j_39), .int (nI kd_39), .int (ps ix_39)], gO tk 8 [.ref c0, .ref c1, .int (nI cn)], gA E c0 601 ks, gA E c1 601 ps]) rfl (by decide) rfl (by decide) (by decide) rfl rfl (Nat.le_of_ble_eq_true rfl) dX5_readBoth_50 ?_
              rintro _ _ ⟨rfl, rfl⟩
              show gg E _ 4 X 0 0 53 [some (.ref h), some (.int (nI 0)), some (.int (nI 0)), some (.int (nI it))] [] [gO h 5 [.ref tk, .ref dr, .int (nI j_39), .int (ks j_39), .int (nI kd_39), .int (ps ix_39)], gO tk 8 [.ref c0, .ref c1, .int (nI cn)], gA E c0 601 ks, gA E c1 601 ps, gO dr 4 [.ref a0, .ref a1, .ref a2, .ref a3, .int (nI nr), .int (nI (us2_39 + 1))], gA E a0 12 sa, gA E a1 12 sk, gA E a2 13 st, gA E a3 600 (upd co2_39 us2_39 (nI 1004))]
              refine g_iinc_n (y := 1) C dX5_readBoth_53 rfl (by decide) (by decide) rfl (ll' := [some (.ref h), some (.int (nI 0)), some (.int (nI 0)), some (.int (nI (it + 1)))]) rfl ?_
              refine g_goto (tgt := 8) C dX5_readBoth_56 (by decide) ?_
              refine g_iload_n C dX5_readBoth_8 rfl ?_
              refine g_aload_n C dX5_readBoth_9 rfl ?_
              refine g_get C i_X5 0 0 f_12 rfl rfl (by decide) rfl rfl dX5_readBoth_10 ?_
              refine g_get C i_X8 1 2 f_76 rfl rfl (by decide) rfl rfl dX5_readBoth_13 ?_
              refine g_icmp_ge_n (tgt := 59) C dX5_readBoth_16 (by decide) (by omega) (by omega) (fun c16 => ?_) (fun c16 => ?_)
              · refine g_iload_n C dX5_readBoth_59 rfl ?_
                exact g_zret C Rt dX5_readBoth_60 (by decide) (by decide) (by decide) (⟨false, _, _, _, _, _, rfl, rfl, rdQ_er (by rw [g5, show f1 = f1 - 1 + 1 by omega, lpO, if_pos c30, hr_39]) (by omega) b2_39 (by omega) b4_39⟩)
              · refine g_iload_n C dX5_readBoth_19 rfl ?_
                refine g_if_eq (tgt := 59) C dX5_readBoth_20 (by decide) (fun c20 => ?_) (fun c20 => absurd c20 (by decide))
                refine g_iload_n C dX5_readBoth_59 rfl ?_
                exact g_zret C Rt dX5_readBoth_60 (by decide) (by decide) (by decide) (⟨false, _, _, _, _, _, rfl, rfl, rdQ_er (by rw [g5, show f1 = f1 - 1 + 1 by omega, lpO, if_pos c30, hr_39]) (by omega) b2_39 (by omega) b4_39⟩)
    exact L8 _ 0 j_2 601 C_2 (Nat.lt_succ_self _) (by omega) (by omega) (by omega) (by omega) (by rw [pAll, hr_2]; rfl)
  · refine g_istore_n C dX5_readBoth_5 (by decide) rfl (ll' := [some (.ref h), some (.int (nI 0)), some (.int (nI 0)), none]) rfl ?_
    refine g_iconst (v := nI 0) C dX5_readBoth_6 (by decide) ?_
    refine g_istore_n C dX5_readBoth_7 (by decide) rfl (ll' := [some (.ref h), some (.int (nI 0)), some (.int (nI 0)), some (.int (nI 0))]) rfl ?_
    refine g_iload_n C dX5_readBoth_8 rfl ?_
    refine g_aload_n C dX5_readBoth_9 rfl ?_
    refine g_get C i_X5 0 0 f_12 rfl rfl (by decide) rfl rfl dX5_readBoth_10 ?_
    refine g_get C i_X8 1 2 f_76 rfl rfl (by decide) rfl rfl dX5_readBoth_13 ?_
    refine g_icmp_ge_n (tgt := 59) C dX5_readBoth_16 (by decide) (by omega) (by omega) (fun c16 => ?_) (fun c16 => ?_)
    · refine g_iload_n C dX5_readBoth_59 rfl ?_
      exact g_zret C Rt dX5_readBoth_60 (by decide) (by decide) (by decide) (⟨false, _, _, _, _, _, rfl, rfl, rdQ_er (by rw [pAll, hr_2]; rfl) b1_2 b2_2 b3_2 b4_2⟩)
    · refine g_iload_n C dX5_readBoth_19 rfl ?_
      refine g_if_eq (tgt := 59) C dX5_readBoth_20 (by decide) (fun c20 => ?_) (fun c20 => absurd c20 (by decide))
      refine g_iload_n C dX5_readBoth_59 rfl ?_
      exact g_zret C Rt dX5_readBoth_60 (by decide) (by decide) (by decide) (⟨false, _, _, _, _, _, rfl, rfl, rdQ_er (by rw [pAll, hr_2]; rfl) b1_2 b2_2 b3_2 b4_2⟩)

abbrev rm_c_X5_readEither_8 : Room := { frames := 29, cells := 0, slots := 0, locals := 663 }
set_option maxHeartbeats 4000000 in
set_option maxRecDepth 100000 in
theorem c_X5_readEither_8 (E : gE) (h tk c0 c1 cn dr a0 a1 a2 a3 nr us i : Nat) (ks ps sa sk st co : Nat → Int32) (fk fp : Int32) (hi : i < cn) (hcn : cn ≤ 601) (hend : ks (cn - 1) = nI 1011) (hus : us ≤ i) : MM E yX5_readEither wsX5_readEither rm_c_X5_readEither_8 [.ref h, .int (nI 0)] [gO h 5 [.ref tk, .ref dr, .int (nI i), .int (ks i), .int fk, .int fp], gO tk 8 [.ref c0, .ref c1, .int (nI cn)], gA E c0 601 ks, gA E c1 601 ps, gO dr 4 [.ref a0, .ref a1, .ref a2, .ref a3, .int (nI nr), .int (nI us)], gA E a0 12 sa, gA E a1 12 sk, gA E a2 13 st, gA E a3 600 co] (fun rv_ ru_ => ∃ (ok : Bool) (j us2 : Nat) (co2 : Nat → Int32) (fk2 fp2 : Int32), rv_ = some (.int (b2i ok)) ∧ ru_ = [gO h 5 [.ref tk, .ref dr, .int (nI j), .int (ks j), .int fk2, .int fp2], gO tk 8 [.ref c0, .ref c1, .int (nI cn)], gA E c0 601 ks, gA E c1 601 ps, gO dr 4 [.ref a0, .ref a1, .ref a2, .ref a3, .int (nI nr), .int (nI us2)], gA E a0 12 sa, gA E a1 12 sk, gA E a2 13 st, gA E a3 600 co2] ∧ (rdQ (pAny ks (pLv ks 8) i) ps cn i us co fk fp ok j us2 co2 fk2 fp2)) := by
  refine MM.ofG (cc := cX5_readEither) (maxL := 4) (ret := (some .boolean)) (by decide) rfl (Nat.le_of_ble_eq_true rfl) (ll := [some (.ref h), some (.int (nI 0)), none, none]) rfl ?_
  intro X C Rt
  have C : gx E X cX5_readEither 4 wsX5_readEither RX5 := C
  have i_X5 : ∀ w ∈ u_ws RX5 TX5 6, w ∈ wsX5_readEither := by decide +kernel
  have i_X8 : ∀ w ∈ u_ws RX8 TX8 3, w ∈ wsX5_readEither := by decide +kernel
  have f_12 : Cond.fieldLink RX5 12 "MarkPages$RuleReader" "tokens" "LMarkPages$Tokens;" ∈ wsX5_readEither := by decide +kernel
  have f_21 : Cond.fieldLink RX5 21 "MarkPages$RuleReader" "draft" "LMarkPages$RuleBook;" ∈ wsX5_readEither := by decide +kernel
  have f_25 : Cond.fieldLink RX5 25 "MarkPages$RuleReader" "now" "I" ∈ wsX5_readEither := by decide +kernel
  have f_76 : Cond.fieldLink RX5 76 "MarkPages$Tokens" "count" "I" ∈ wsX5_readEither := by decide +kernel
  refine g_aload_n C dX5_readEither_0 rfl ?_
  refine g_iload_n C dX5_readEither_1 rfl ?_
  refine g_callV C (c_X5_readBoth_8 E h tk c0 c1 cn dr a0 a1 a2 a3 nr us i ks ps sa sk st co fk fp (by omega) (by omega) (hend) (by omega)) gX5_readEither_X5_readBoth rfl 1 (by decide +kernel) ⟨by decide, by decide⟩ ⟨by decide, by decide⟩ 0 rfl rfl [0, 1, 2, 3, 4, 5, 6, 7, 8] [] (wr := []) rfl (by decide) rfl (by decide) (by decide) rfl rfl (Nat.le_of_ble_eq_true rfl) dX5_readEither_2 ?_
  rintro _ _ ⟨ok_2, j_2, us2_2, co2_2, fk2_2, fp2_2, rfl, rfl, hq_2⟩
  show gg E _ 4 X 0 0 5 [some (.ref h), some (.int (nI 0)), none, none] [.int (b2i ok_2)] [gO h 5 [.ref tk, .ref dr, .int (nI j_2), .int (ks j_2), .int fk2_2, .int fp2_2], gO tk 8 [.ref c0, .ref c1, .int (nI cn)], gA E c0 601 ks, gA E c1 601 ps, gO dr 4 [.ref a0, .ref a1, .ref a2, .ref a3, .int (nI nr), .int (nI us2_2)], gA E a0 12 sa, gA E a1 12 sk, gA E a2 13 st, gA E a3 600 co2_2]
  rcases rdQ_tw hq_2 with ⟨C_2, hr_2, rfl, rfl, rfl, rfl, rfl, b1_2, b2_2, b3_2⟩ | ⟨kd_2, ix_2, hr_2, rfl, rfl, rfl, b1_2, b2_2, b3_2, b4_2⟩
  · refine g_istore_n C dX5_readEither_5 (by decide) rfl (ll' := [some (.ref h), some (.int (nI 0)), some (.int (nI 1)), none]) rfl ?_
    refine g_iconst (v := nI 0) C dX5_readEither_6 (by decide) ?_
    refine g_istore_n C dX5_readEither_7 (by decide) rfl (ll' := [some (.ref h), some (.int (nI 0)), some (.int (nI 1)), some (.int (nI 0))]) rfl ?_
    have L8 : ∀ (n8 : Nat) (it j1 f1 : Nat) (C1 : List Int32), cn - j1 < n8 → (j1 < cn) → (i + it ≤ j1) → (f1 + it = 601) → (C1.length + i ≤ j1) → (pAny ks (pLv ks 8) i = lpO ks (nI 1003) (pAll ks (pLv ks 8)) f1 j1 C1) → gg E rm_c_X5_readEither_8 4 X 0 0 8 [some (.ref h), some (.int (nI 0)), some (.int (nI 1)), some (.int (nI it))] [] [gO h 5 [.ref tk, .ref dr, .int (nI j1), .int (ks j1), .int fk, .int fp], gO tk 8 [.ref c0, .ref c1, .int (nI cn)], gA E c0 601 ks, gA E c1 601 ps, gO dr 4 [.ref a0, .ref a1, .ref a2, .ref a3, .int (nI nr), .int (nI (us + C1.length))], gA E a0 12 sa, gA E a1 12 sk, gA E a2 13 st, gA E a3 600 (cdW co us C1)] := by
      intro n8
      induction n8 with
      | zero => intro it j1 f1 C1 hm8; exact absurd hm8 (Nat.not_lt_zero _)
      | succ n8 ih8 =>
        intro it j1 f1 C1 hm8 g1 g2 g3 g4 g5
        refine g_iload_n C dX5_readEither_8 rfl ?_
        refine g_aload_n C dX5_readEither_9 rfl ?_
        refine g_get C i_X5 0 0 f_12 rfl rfl (by decide) rfl rfl dX5_readEither_10 ?_
        refine g_get C i_X8 1 2 f_76 rfl rfl (by decide) rfl rfl dX5_readEither_13 ?_
        refine g_icmp_ge_n (tgt := 59) C dX5_readEither_16 (by decide) (by omega) (by omega) (fun c16 => ?_) (fun c16 => ?_)
        · exact absurd c16 (by omega)
        · refine g_iload_n C dX5_readEither_19 rfl ?_
          refine g_if_eq (tgt := 59) C dX5_readEither_20 (by decide) (fun c20 => absurd c20 (by decide)) (fun c20 => ?_)
          refine g_aload_n C dX5_readEither_23 rfl ?_
          refine g_get C i_X5 0 3 f_25 rfl rfl (by decide) rfl rfl dX5_readEither_24 ?_
          refine g_sipush (v := nI 1003) C dX5_readEither_27 (by decide) ?_
          refine g_icmp_ne (tgt := 59) C dX5_readEither_30 (by decide) (fun c30 => ?_) (fun c30 => ?_)
          · refine g_iload_n C dX5_readEither_59 rfl ?_
            exact g_zret C Rt dX5_readEither_60 (by decide) (by decide) (by decide) (⟨true, _, _, _, _, _, rfl, rfl, rdQ_ok (by rw [g5, show f1 = f1 - 1 + 1 by omega, lpO, if_neg c30]) (by omega) g1 (by omega) rfl rfl⟩)
          · have hn7 := not_end hend g1 c30 (by decide)
            refine g_aload_n C dX5_readEither_33 rfl ?_
            refine g_callV C (c_X5_advance E h tk c0 c1 cn dr a0 a1 a2 a3 nr (us + C1.length) j1 ks ps sa sk st (cdW co us C1) fk fp (not_end hend g1 c30 (by decide)) (by omega)) gX5_readEither_X5_advance rfl 0 (by decide +kernel) ⟨by decide, by decide⟩ ⟨by decide, by decide⟩ 0 rfl rfl [0, 1, 2, 3, 4, 5, 6, 7, 8] [] (wr := []) rfl (by decide) rfl (by decide) (by decide) rfl rfl (Nat.le_of_ble_eq_true rfl) dX5_readEither_34 ?_
            rintro _ _ ⟨rfl, rfl⟩
            show gg E _ 4 X 0 0 37 [some (.ref h), some (.int (nI 0)), some (.int (nI 1)), some (.int (nI it))] [] [gO h 5 [.ref tk, .ref dr, .int (nI (j1 + 1)), .int (ks (j1 + 1)), .int fk, .int fp], gO tk 8 [.ref c0, .ref c1, .int (nI cn)], gA E c0 601 ks, gA E c1 601 ps, gO dr 4 [.ref a0, .ref a1, .ref a2, .ref a3, .int (nI nr), .int (nI (us + C1.length))], gA E a0 12 sa, gA E a1 12 sk, gA E a2 13 st, gA E a3 600 (cdW co us C1)]
            refine g_aload_n C dX5_readEither_37 rfl ?_
            refine g_iload_n C dX5_readEither_38 rfl ?_
            refine g_callV C (c_X5_readBoth_8 E h tk c0 c1 cn dr a0 a1 a2 a3 nr (us + C1.length) (j1 + 1) ks ps sa sk st (cdW co us C1) fk fp (by omega) (by omega) (hend) (by omega)) gX5_readEither_X5_readBoth rfl 1 (by decide +kernel) ⟨by decide, by decide⟩ ⟨by decide, by decide⟩ 0 rfl rfl [0, 1, 2, 3, 4, 5, 6, 7, 8] [] (wr := []) rfl (by decide) rfl (by decide) (by decide) rfl rfl (Nat.le_of_ble_eq_true rfl) dX5_readEither_39 ?_
            rintro _ _ ⟨ok_39, j_39, us2_39, co2_39, fk2_39, fp2_39, rfl, rfl, hq_39⟩
            show gg E _ 4 X 0 0 42 [some (.ref h), some (.int (nI 0)), some (.int (nI 1)), some (.int (nI it))] [.int (b2i ok_39)] [gO h 5 [.ref tk, .ref dr, .int (nI j_39), .int (ks j_39), .int fk2_39, .int fp2_39], gO tk 8 [.ref c0, .ref c1, .int (nI cn)], gA E c0 601 ks, gA E c1 601 ps, gO dr 4 [.ref a0, .ref a1, .ref a2, .ref a3, .int (nI nr), .int (nI us2_39)], gA E a0 12 sa, gA E a1 12 sk, gA E a2 13 st, gA E a3 600 co2_39]
            rcases rdQ_tw hq_39 with ⟨C_39, hr_39, rfl, rfl, rfl, rfl, rfl, b1_39, b2_39, b3_39⟩ | ⟨kd_39, ix_39, hr_39, rfl, rfl, rfl, b1_39, b2_39, b3_39, b4_39⟩
            · refine g_istore_n C dX5_readEither_42 (by decide) rfl (ll' := [some (.ref h), some (.int (nI 0)), some (.int (nI 1)), some (.int (nI it))]) rfl ?_
              refine g_aload_n C dX5_readEither_43 rfl ?_
              refine g_get C i_X5 0 1 f_21 rfl rfl (by decide) rfl rfl dX5_readEither_44 ?_
              refine g_sipush (v := nI 1003) C dX5_readEither_47 (by decide) ?_
              refine g_callV C (c_X4_append E dr a0 a1 a2 a3 nr ((us + C1.length) + C_39.length) sa sk st (cdW (cdW co us C1) (us + C1.length) C_39) (nI 1003) (by omega)) gX5_readEither_X4_append rfl 1 (by decide +kernel) ⟨by decide, by decide⟩ ⟨by decide, by decide⟩ 4 rfl rfl [4, 5, 6, 7, 8] [0, 1, 2, 3] (wr := [gO h 5 [.ref tk, .ref dr, .int (nI j_39), .int (ks j_39), .int fk, .int fp], gO tk 8 [.ref c0, .ref c1, .int (nI cn)], gA E c0 601 ks, gA E c1 601 ps]) rfl (by decide) rfl (by decide) (by decide) rfl rfl (Nat.le_of_ble_eq_true rfl) dX5_readEither_50 ?_
              rintro _ _ ⟨rfl, rfl⟩
              show gg E _ 4 X 0 0 53 [some (.ref h), some (.int (nI 0)), some (.int (nI 1)), some (.int (nI it))] [] [gO h 5 [.ref tk, .ref dr, .int (nI j_39), .int (ks j_39), .int fk, .int fp], gO tk 8 [.ref c0, .ref c1, .int (nI cn)], gA E c0 601 ks, gA E c1 601 ps, gO dr 4 [.ref a0, .ref a1, .ref a2, .ref a3, .int (nI nr), .int (nI (((us + C1.length) + C_39.length) + 1))], gA E a0 12 sa, gA E a1 12 sk, gA E a2 13 st, gA E a3 600 (upd (cdW (cdW co us C1) (us + C1.length) C_39) ((us + C1.length) + C_39.length) (nI 1003))]
              rw [ln3 us C1 C_39 (nI 1003), cd3 co us C1 C_39 (nI 1003)]
              refine g_iinc_n (y := 1) C dX5_readEither_53 rfl (by decide) (by decide) rfl (ll' := [some (.ref h), some (.int (nI 0)), some (.int (nI 1)), some (.int (nI (it + 1)))]) rfl ?_
              refine g_goto (tgt := 8) C dX5_readEither_56 (by decide) ?_
              exact ih8 (it + 1) j_39 (f1 - 1) (C1 ++ C_39 ++ [nI 1003]) (by omega) (by omega) (by omega) (by omega) (by have := ln3 us C1 C_39 (nI 1003); omega) (by rw [g5, show f1 = f1 - 1 + 1 by omega, lpO, if_pos c30, hr_39]; rfl)
            · refine g_istore_n C dX5_readEither_42 (by decide) rfl (ll' := [some (.ref h), some (.int (nI 0)), some (.int (nI 0)), some (.int (nI it))]) rfl ?_
              refine g_aload_n C dX5_readEither_43 rfl ?_
              refine g_get C i_X5 0 1 f_21 rfl rfl (by decide) rfl rfl dX5_readEither_44 ?_
              refine g_sipush (v := nI 1003) C dX5_readEither_47 (by decide) ?_
              refine g_callV C (c_X4_append E dr a0 a1 a2 a3 nr us2_39 sa sk st co2_39 (nI 1003) (by omega)) gX5_readEither_X4_append rfl 1 (by decide +kernel) ⟨by decide, by decide⟩ ⟨by decide, by decide⟩ 4 rfl rfl [4, 5, 6, 7, 8] [0, 1, 2, 3] (wr := [gO h 5 [.ref tk, .ref dr, .int (nI j_39), .int (ks j_39), .int (nI kd_39), .int (ps ix_39)], gO tk 8 [.ref c0, .ref c1, .int (nI cn)], gA E c0 601 ks, gA E c1 601 ps]) rfl (by decide) rfl (by decide) (by decide) rfl rfl (Nat.le_of_ble_eq_true rfl) dX5_readEither_50 ?_
              rintro _ _ ⟨rfl, rfl⟩
              show gg E _ 4 X 0 0 53 [some (.ref h), some (.int (nI 0)), some (.int (nI 0)), some (.int (nI it))] [] [gO h 5 [.ref tk, .ref dr, .int (nI j_39), .int (ks j_39), .int (nI kd_39), .int (ps ix_39)], gO tk 8 [.ref c0, .ref c1, .int (nI cn)], gA E c0 601 ks, gA E c1 601 ps, gO dr 4 [.ref a0, .ref a1, .ref a2, .ref a3, .int (nI nr), .int (nI (us2_39 + 1))], gA E a0 12 sa, gA E a1 12 sk, gA E a2 13 st, gA E a3 600 (upd co2_39 us2_39 (nI 1003))]
              refine g_iinc_n (y := 1) C dX5_readEither_53 rfl (by decide) (by decide) rfl (ll' := [some (.ref h), some (.int (nI 0)), some (.int (nI 0)), some (.int (nI (it + 1)))]) rfl ?_
              refine g_goto (tgt := 8) C dX5_readEither_56 (by decide) ?_
              refine g_iload_n C dX5_readEither_8 rfl ?_
              refine g_aload_n C dX5_readEither_9 rfl ?_
              refine g_get C i_X5 0 0 f_12 rfl rfl (by decide) rfl rfl dX5_readEither_10 ?_
              refine g_get C i_X8 1 2 f_76 rfl rfl (by decide) rfl rfl dX5_readEither_13 ?_
              refine g_icmp_ge_n (tgt := 59) C dX5_readEither_16 (by decide) (by omega) (by omega) (fun c16 => ?_) (fun c16 => ?_)
              · refine g_iload_n C dX5_readEither_59 rfl ?_
                exact g_zret C Rt dX5_readEither_60 (by decide) (by decide) (by decide) (⟨false, _, _, _, _, _, rfl, rfl, rdQ_er (by rw [g5, show f1 = f1 - 1 + 1 by omega, lpO, if_pos c30, hr_39]) (by omega) b2_39 (by omega) b4_39⟩)
              · refine g_iload_n C dX5_readEither_19 rfl ?_
                refine g_if_eq (tgt := 59) C dX5_readEither_20 (by decide) (fun c20 => ?_) (fun c20 => absurd c20 (by decide))
                refine g_iload_n C dX5_readEither_59 rfl ?_
                exact g_zret C Rt dX5_readEither_60 (by decide) (by decide) (by decide) (⟨false, _, _, _, _, _, rfl, rfl, rdQ_er (by rw [g5, show f1 = f1 - 1 + 1 by omega, lpO, if_pos c30, hr_39]) (by omega) b2_39 (by omega) b4_39⟩)
    exact L8 _ 0 j_2 601 C_2 (Nat.lt_succ_self _) (by omega) (by omega) (by omega) (by omega) (by rw [pAny, hr_2]; rfl)
  · refine g_istore_n C dX5_readEither_5 (by decide) rfl (ll' := [some (.ref h), some (.int (nI 0)), some (.int (nI 0)), none]) rfl ?_
    refine g_iconst (v := nI 0) C dX5_readEither_6 (by decide) ?_
    refine g_istore_n C dX5_readEither_7 (by decide) rfl (ll' := [some (.ref h), some (.int (nI 0)), some (.int (nI 0)), some (.int (nI 0))]) rfl ?_
    refine g_iload_n C dX5_readEither_8 rfl ?_
    refine g_aload_n C dX5_readEither_9 rfl ?_
    refine g_get C i_X5 0 0 f_12 rfl rfl (by decide) rfl rfl dX5_readEither_10 ?_
    refine g_get C i_X8 1 2 f_76 rfl rfl (by decide) rfl rfl dX5_readEither_13 ?_
    refine g_icmp_ge_n (tgt := 59) C dX5_readEither_16 (by decide) (by omega) (by omega) (fun c16 => ?_) (fun c16 => ?_)
    · refine g_iload_n C dX5_readEither_59 rfl ?_
      exact g_zret C Rt dX5_readEither_60 (by decide) (by decide) (by decide) (⟨false, _, _, _, _, _, rfl, rfl, rdQ_er (by rw [pAny, hr_2]; rfl) b1_2 b2_2 b3_2 b4_2⟩)
    · refine g_iload_n C dX5_readEither_19 rfl ?_
      refine g_if_eq (tgt := 59) C dX5_readEither_20 (by decide) (fun c20 => ?_) (fun c20 => absurd c20 (by decide))
      refine g_iload_n C dX5_readEither_59 rfl ?_
      exact g_zret C Rt dX5_readEither_60 (by decide) (by decide) (by decide) (⟨false, _, _, _, _, _, rfl, rfl, rdQ_er (by rw [pAny, hr_2]; rfl) b1_2 b2_2 b3_2 b4_2⟩)

