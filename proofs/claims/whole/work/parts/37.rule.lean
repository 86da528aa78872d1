/-! readRule, begin, rules -/
abbrev rT : Type := Int32 × Int32 × List Int32
abbrev rR : Type := Except (Nat × Nat) (Nat × rT)
def pEnd (K : Nat → Int32) (sy sk : Int32) (r : pR) : rR := match r with
  | .error e => .error e
  | .ok (j, C) => if K j = nI 1159 then .ok (j + 1, sy, sk, C) else .error (1, j)
noncomputable def pWhen (K : Nat → Int32) (i : Nat) (sy sk : Int32) : rR := if K i = nI 1002 then pEnd K sy sk (pAny K (pLv K 8) (i + 1)) else .error (1, i)
noncomputable def pSkl (K : Nat → Int32) (i : Nat) (sy : Int32) : rR := if K i = nI 1001 then (if nI 999 < K (i + 1) then .error (1, i + 1) else if nI 4 < K (i + 1) then .error (2, i + 1) else pWhen K (i + 1 + 1) sy (K (i + 1))) else pWhen K i sy (-1)
noncomputable def pRule (K : Nat → Int32) (nr i : Nat) : rR := if K i = nI 1000 then (if nr < 12 then (if nI 999 < K (i + 1) then .error (1, i + 1) else if nI 39 < K (i + 1) then .error (2, i + 1) else pSkl K (i + 1 + 1) (K (i + 1))) else .error (3, i)) else .error (1, i)
noncomputable def pRs (K : Nat → Int32) : Nat → Nat → List rT → Except (Nat × Nat) (List rT)
  | 0, _, L => .ok L
  | f + 1, i, L => if K i = nI 1011 then .ok L else (match pRule K L.length i with
    | .error e => .error e
    | .ok (j, x) => pRs K f j (L ++ [x]))
def rdR (r : rR) (ps : Nat → Int32) (cn i us nr : Nat) (sa sk st co : Nat → Int32) (fk fp : Int32) (ok : Bool) (j us2 nr2 : Nat) (sa2 sk2 st2 co2 : Nat → Int32) (fk2 fp2 : Int32) : Prop :=
  (i ≤ j ∧ j < cn ∧ us2 + i ≤ us + j ∧ st2 0 = st 0) ∧ match r with
    | .ok (j', sy, s, C) => ok = true ∧ j = j' ∧ us2 = us + C.length ∧ co2 = cdW co us C ∧ nr2 = nr + 1 ∧ nr < 12 ∧ sa2 = upd sa nr sy ∧ sk2 = upd sk nr s ∧ st2 = upd st (nr + 1) (nI us2) ∧ fk2 = fk ∧ fp2 = fp
    | .error (kd, ix) => ok = false ∧ fk2 = nI kd ∧ fp2 = ps ix ∧ ix < cn
theorem rdR_ok {r : rR} {ps : Nat → Int32} {cn i us nr : Nat} {sa sk st co : Nat → Int32} {fk fp : Int32} {j us2 : Nat} {co2 : Nat → Int32} {sy s : Int32} {C : List Int32} (hr : r = .ok (j, sy, s, C)) (h1 : i ≤ j) (h2 : j < cn) (h3 : us2 + i ≤ us + j) (h4 : us2 = us + C.length) (h5 : co2 = cdW co us C) (h6 : nr < 12) : rdR r ps cn i us nr sa sk st co fk fp true j us2 (nr + 1) (upd sa nr sy) (upd sk nr s) (upd st (nr + 1) (nI us2)) co2 fk fp := by
  subst hr
  exact ⟨⟨h1, h2, h3, if_neg (by omega)⟩, rfl, rfl, h4, h5, rfl, h6, rfl, rfl, rfl, rfl, rfl⟩
theorem rdR_er {r : rR} {ps : Nat → Int32} {cn i us nr nr2 : Nat} {sa sk st co sa2 sk2 : Nat → Int32} {fk fp : Int32} {j us2 : Nat} {co2 : Nat → Int32} {kd ix : Nat} (hr : r = .error (kd, ix)) (h1 : i ≤ j) (h2 : j < cn) (h3 : us2 + i ≤ us + j) (h4 : ix < cn) : rdR r ps cn i us nr sa sk st co fk fp false j us2 nr2 sa2 sk2 st co2 (nI kd) (ps ix) := by
  subst hr
  exact ⟨⟨h1, h2, h3, rfl⟩, rfl, rfl, rfl, h4⟩
theorem rdR_two {r : rR} {ps : Nat → Int32} {cn i us nr : Nat} {sa sk st co : Nat → Int32} {fk fp : Int32} {ok : Bool} {j us2 nr2 : Nat} {sa2 sk2 st2 co2 : Nat → Int32} {fk2 fp2 : Int32} (h : rdR r ps cn i us nr sa sk st co fk fp ok j us2 nr2 sa2 sk2 st2 co2 fk2 fp2) :
    (∃ sy s C, r = .ok (j, sy, s, C) ∧ true = ok ∧ us + C.length = us2 ∧ cdW co us C = co2 ∧ nr + 1 = nr2 ∧ nr < 12 ∧ upd sa nr sy = sa2 ∧ upd sk nr s = sk2 ∧ upd st (nr + 1) (nI us2) = st2 ∧ fk = fk2 ∧ fp = fp2 ∧ i ≤ j ∧ j < cn ∧ us + C.length + i ≤ us + j) ∨ (∃ kd ix, r = .error (kd, ix) ∧ false = ok ∧ nI kd = fk2 ∧ ps ix = fp2 ∧ i ≤ j ∧ j < cn ∧ us2 + i ≤ us + j ∧ ix < cn ∧ st2 0 = st 0) := by
  obtain ⟨⟨h1, h2, h3, h0⟩, h⟩ := h
  match r, h with
  | .ok (j', sy, s, C), h =>
    obtain ⟨a1, rfl, a3, a4, a5, a6, a7, a8, a9, b1, b2⟩ := h
    exact Or.inl ⟨sy, s, C, rfl, a1.symm, a3.symm, a4.symm, a5.symm, a6, a7.symm, a8.symm, a9.symm, b1.symm, b2.symm, h1, h2, a3 ▸ h3⟩
  | .error (kd, ix), h =>
    obtain ⟨a1, a2, a3, a4⟩ := h
    exact Or.inr ⟨kd, ix, rfl, a1.symm, a2.symm, a3.symm, h1, h2, h3, a4, h0⟩
theorem num3 (x : Int32) (m : Nat) : nI 999 < x ∨ (¬ nI 999 < x ∧ nI m < x) ∨ (¬ nI 999 < x ∧ ¬ nI m < x) := by
  by_cases h1 : nI 999 < x
  · exact Or.inl h1
  · by_cases h2 : nI m < x
    · exact Or.inr (Or.inl ⟨h1, h2⟩)
    · exact Or.inr (Or.inr ⟨h1, h2⟩)
/-- what is laid down: rules and code -/
def catR (L : List rT) : List Int32 := L.flatMap (fun x => x.2.2)
def bkR (L : List rT) (sa sk st co : Nat → Int32) : Prop := (∀ r, r < L.length → sa r = (L.getD r (0, 0, [])).1 ∧ sk r = (L.getD r (0, 0, [])).2.1) ∧ (∀ r, r ≤ L.length → st r = nI (catR (L.take r)).length) ∧ ∃ co0, co = cdW co0 0 (catR L)
theorem catR_snoc (L : List rT) (x : rT) : catR (L ++ [x]) = catR L ++ x.2.2 := by simp [catR, List.flatMap_append]
theorem bkR.nil {sa sk st co : Nat → Int32} (h : st 0 = nI 0) : bkR [] sa sk st co := ⟨fun r hr => absurd hr (Nat.not_lt_zero r), fun r hr => by rw [Nat.le_zero.mp hr]; exact h, co, rfl⟩
theorem bkR.snoc {L : List rT} {sa sk st co : Nat → Int32} (h : bkR L sa sk st co) (sy s : Int32) (C : List Int32) : bkR (L ++ [(sy, s, C)]) (upd sa L.length sy) (upd sk L.length s) (upd st (L.length + 1) (nI ((catR L).length + C.length))) (cdW co (catR L).length C) := by
  obtain ⟨h1, h2, co0, h3⟩ := h
  refine ⟨fun r hr => ?_, fun r hr => ?_, co0, ?_⟩
  · rw [List.length_append] at hr
    have hr : r < L.length + 1 := hr
    by_cases e : r = L.length
    · subst e
      simp [upd, List.getD_eq_getElem?_getD]
    · simp only [upd, if_neg e, List.getD_eq_getElem?_getD]
      rw [List.getElem?_append_left (by omega), ← List.getD_eq_getElem?_getD]
      exact h1 r (by omega)
  · rw [List.length_append] at hr
    have hr : r ≤ L.length + 1 := hr
    by_cases e : r = L.length + 1
    · subst e
      rw [upd, if_pos rfl, List.take_of_length_le (by rw [List.length_append]; exact Nat.le_refl _), catR_snoc, List.length_append]
    · rw [upd, if_neg e, List.take_append_of_le_length (by omega)]
      exact h2 r (by omega)
  · rw [h3, catR_snoc, cdW_app, Nat.zero_add]

abbrev rm_c_X5_readRule : Room := { frames := 30, cells := 0, slots := 0, locals := 686 }
set_option maxHeartbeats 4000000 in
set_option maxRecDepth 100000 in
theorem c_X5_readRule (E : gE) (h tk c0 c1 cn dr a0 a1 a2 a3 nr us i : Nat) (ks ps sa sk st co : Nat → Int32) (fk fp : Int32) (hi : i < cn) (hcn : cn ≤ 601) (hend : ks (cn - 1) = nI 1011) (hnr : nr ≤ 12) (hus : us ≤ i) (hnn : ∀ q, q < cn → ¬ ks q < 0) : MM E yX5_readRule wsX5_readRule rm_c_X5_readRule [.ref h] [gO h 5 [.ref tk, .ref dr, .int (nI i), .int (ks i), .int fk, .int fp], gO tk 8 [.ref c0, .ref c1, .int (nI cn)], gA E c0 601 ks, gA E c1 601 ps, gO dr 4 [.ref a0, .ref a1, .ref a2, .ref a3, .int (nI nr), .int (nI us)], gA E a0 12 sa, gA E a1 12 sk, gA E a2 13 st, gA E a3 600 co] (fun rv_ ru_ => ∃ (ok : Bool) (j us2 nr2 : Nat) (sa2 sk2 st2 co2 : Nat → Int32) (fk2 fp2 : Int32), rv_ = some (.int (b2i ok)) ∧ ru_ = [gO h 5 [.ref tk, .ref dr, .int (nI j), .int (ks j), .int fk2, .int fp2], gO tk 8 [.ref c0, .ref c1, .int (nI cn)], gA E c0 601 ks, gA E c1 601 ps, gO dr 4 [.ref a0, .ref a1, .ref a2, .ref a3, .int (nI nr2), .int (nI us2)], gA E a0 12 sa2, gA E a1 12 sk2, gA E a2 13 st2, gA E a3 600 co2] ∧ (rdR (pRule ks nr i) ps cn i us nr sa sk st co fk fp ok j us2 nr2 sa2 sk2 st2 co2 fk2 fp2)) := by
  refine MM.ofG (cc := cX5_readRule) (maxL := 3) (ret := (some .boolean)) (by decide) rfl (Nat.le_of_ble_eq_true rfl) (ll := [some (.ref h), none, none]) rfl ?_
  intro X C Rt
  have C : gx E X cX5_readRule 3 wsX5_readRule RX5 := C
  have i_X4 : ∀ w ∈ u_ws RX4 TX4 6, w ∈ wsX5_readRule := by decide +kernel
  have i_X5 : ∀ w ∈ u_ws RX5 TX5 6, w ∈ wsX5_readRule := by decide +kernel
  have f_21 : Cond.fieldLink RX5 21 "MarkPages$RuleReader" "draft" "LMarkPages$RuleBook;" ∈ wsX5_readRule := by decide +kernel
  have f_25 : Cond.fieldLink RX5 25 "MarkPages$RuleReader" "now" "I" ∈ wsX5_readRule := by decide +kernel
  have f_53 : Cond.fieldLink RX5 53 "MarkPages$RuleBook" "count" "I" ∈ wsX5_readRule := by decide +kernel
  refine g_aload_n C dX5_readRule_0 rfl ?_
  refine g_get C i_X5 0 3 f_25 rfl rfl (by decide) rfl rfl dX5_readRule_1 ?_
  refine g_sipush (v := nI 1000) C dX5_readRule_4 (by decide) ?_
  refine g_icmp_eq (tgt := 16) C dX5_readRule_7 (by decide) (fun c7 => ?_) (fun c7 => ?_)
  · refine g_aload_n C dX5_readRule_16 rfl ?_
    refine g_get C i_X5 0 1 f_21 rfl rfl (by decide) rfl rfl dX5_readRule_17 ?_
    refine g_get C i_X4 4 4 f_53 rfl rfl (by decide) rfl rfl dX5_readRule_20 ?_
    refine g_bipush (v := nI 12) C dX5_readRule_23 (by decide) ?_
    refine g_icmp_lt_n (tgt := 34) C dX5_readRule_25 (by decide) (by omega) (by omega) (fun c25 => ?_) (fun c25 => ?_)
    · have hn1 := not_end hend hi c7 (by decide)
      refine g_aload_n C dX5_readRule_34 rfl ?_
      refine g_callV C (c_X5_advance E h tk c0 c1 cn dr a0 a1 a2 a3 nr us i ks ps sa sk st co fk fp (hn1) (by omega)) gX5_readRule_X5_advance rfl 0 (by decide +kernel) ⟨by decide, by decide⟩ ⟨by decide, by decide⟩ 0 rfl rfl [0, 1, 2, 3, 4, 5, 6, 7, 8] [] (wr := []) rfl (by decide) rfl (by decide) (by decide) rfl rfl (Nat.le_of_ble_eq_true rfl) dX5_readRule_35 ?_
      rintro _ _ ⟨rfl, rfl⟩
      show gg E _ 3 X 0 0 38 [some (.ref h), none, none] [] [gO h 5 [.ref tk, .ref dr, .int (nI (i + 1)), .int (ks (i + 1)), .int fk, .int fp], gO tk 8 [.ref c0, .ref c1, .int (nI cn)], gA E c0 601 ks, gA E c1 601 ps, gO dr 4 [.ref a0, .ref a1, .ref a2, .ref a3, .int (nI nr), .int (nI us)], gA E a0 12 sa, gA E a1 12 sk, gA E a2 13 st, gA E a3 600 co]
      rcases num3 (ks (i + 1)) 39 with h1 | ⟨h1, h2⟩ | ⟨h1, h2⟩
      · refine g_aload_n C dX5_readRule_38 rfl ?_
        refine g_bipush (v := nI 39) C dX5_readRule_39 (by decide) ?_
        refine g_callV C (c_X5_readNumber_1 E h tk c0 c1 cn dr a0 a1 a2 a3 nr us (i + 1) ks ps sa sk st co fk fp 39 (by omega) (by omega) (h1)) gX5_readRule_X5_readNumber rfl 1 (by decide +kernel) ⟨by decide, by decide⟩ ⟨by decide, by decide⟩ 0 rfl rfl [0, 1, 2, 3, 4, 5, 6, 7, 8] [] (wr := []) rfl (by decide) rfl (by decide) (by decide) rfl rfl (Nat.le_of_ble_eq_true rfl) dX5_readRule_41 ?_
        rintro _ _ ⟨rfl, rfl⟩
        show gg E _ 3 X 0 0 44 [some (.ref h), none, none] [.int (-1)] [gO h 5 [.ref tk, .ref dr, .int (nI (i + 1)), .int (ks (i + 1)), .int (nI 1), .int (ps (i + 1))], gO tk 8 [.ref c0, .ref c1, .int (nI cn)], gA E c0 601 ks, gA E c1 601 ps, gO dr 4 [.ref a0, .ref a1, .ref a2, .ref a3, .int (nI nr), .int (nI us)], gA E a0 12 sa, gA E a1 12 sk, gA E a2 13 st, gA E a3 600 co]
        refine g_istore_n C dX5_readRule_44 (by decide) rfl (ll' := [some (.ref h), some (.int (-1)), none]) rfl ?_
        refine g_iload_n C dX5_readRule_45 rfl ?_
        refine g_iconst (v := -1) C dX5_readRule_46 (by decide) ?_
        refine g_icmp_ne (tgt := 52) C dX5_readRule_47 (by decide) (fun c47 => absurd c47 (by decide)) (fun c47 => ?_)
        refine g_iconst (v := nI 0) C dX5_readRule_50 (by decide) ?_
        exact g_zret C Rt dX5_readRule_51 (by decide) (by decide) (by decide) (⟨false, _, _, _, _, _, _, _, _, _, rfl, rfl, rdR_er (by rw [pRule, if_pos c7, if_pos c25, if_pos h1]) (by omega) (by omega) (by omega) (by omega)⟩)
      · refine g_aload_n C dX5_readRule_38 rfl ?_
        refine g_bipush (v := nI 39) C dX5_readRule_39 (by decide) ?_
        refine g_callV C (c_X5_readNumber_2 E h tk c0 c1 cn dr a0 a1 a2 a3 nr us (i + 1) ks ps sa sk st co fk fp 39 (by omega) (by omega) (h1) (h2)) gX5_readRule_X5_readNumber rfl 1 (by decide +kernel) ⟨by decide, by decide⟩ ⟨by decide, by decide⟩ 0 rfl rfl [0, 1, 2, 3, 4, 5, 6, 7, 8] [] (wr := []) rfl (by decide) rfl (by decide) (by decide) rfl rfl (Nat.le_of_ble_eq_true rfl) dX5_readRule_41 ?_
        rintro _ _ ⟨rfl, rfl⟩
        show gg E _ 3 X 0 0 44 [some (.ref h), none, none] [.int (-1)] [gO h 5 [.ref tk, .ref dr, .int (nI (i + 1)), .int (ks (i + 1)), .int (nI 2), .int (ps (i + 1))], gO tk 8 [.ref c0, .ref c1, .int (nI cn)], gA E c0 601 ks, gA E c1 601 ps, gO dr 4 [.ref a0, .ref a1, .ref a2, .ref a3, .int (nI nr), .int (nI us)], gA E a0 12 sa, gA E a1 12 sk, gA E a2 13 st, gA E a3 600 co]
        refine g_istore_n C dX5_readRule_44 (by decide) rfl (ll' := [some (.ref h), some (.int (-1)), none]) rfl ?_
        refine g_iload_n C dX5_readRule_45 rfl ?_
        refine g_iconst (v := -1) C dX5_readRule_46 (by decide) ?_
        refine g_icmp_ne (tgt := 52) C dX5_readRule_47 (by decide) (fun c47 => absurd c47 (by decide)) (fun c47 => ?_)
        refine g_iconst (v := nI 0) C dX5_readRule_50 (by decide) ?_
        exact g_zret C Rt dX5_readRule_51 (by decide) (by decide) (by decide) (⟨false, _, _, _, _, _, _, _, _, _, rfl, rfl, rdR_er (by rw [pRule, if_pos c7, if_pos c25, if_neg h1, if_pos h2]) (by omega) (by omega) (by omega) (by omega)⟩)
      · refine g_aload_n C dX5_readRule_38 rfl ?_
        refine g_bipush (v := nI 39) C dX5_readRule_39 (by decide) ?_
        refine g_callV C (c_X5_readNumber_y E h tk c0 c1 cn dr a0 a1 a2 a3 nr us (i + 1) ks ps sa sk st co fk fp 39 (by omega) (by omega) (hend) (h1) (h2)) gX5_readRule_X5_readNumber rfl 1 (by decide +kernel) ⟨by decide, by decide⟩ ⟨by decide, by decide⟩ 0 rfl rfl [0, 1, 2, 3, 4, 5, 6, 7, 8] [] (wr := []) rfl (by decide) rfl (by decide) (by decide) rfl rfl (Nat.le_of_ble_eq_true rfl) dX5_readRule_41 ?_
        rintro _ _ ⟨rfl, rfl⟩
        show gg E _ 3 X 0 0 44 [some (.ref h), none, none] [.int (ks (i + 1))] [gO h 5 [.ref tk, .ref dr, .int (nI ((i + 1) + 1)), .int (ks ((i + 1) + 1)), .int fk, .int fp], gO tk 8 [.ref c0, .ref c1, .int (nI cn)], gA E c0 601 ks, gA E c1 601 ps, gO dr 4 [.ref a0, .ref a1, .ref a2, .ref a3, .int (nI nr), .int (nI us)], gA E a0 12 sa, gA E a1 12 sk, gA E a2 13 st, gA E a3 600 co]
        refine g_istore_n C dX5_readRule_44 (by decide) rfl (ll' := [some (.ref h), some (.int (ks (i + 1))), none]) rfl ?_
        refine g_iload_n C dX5_readRule_45 rfl ?_
        refine g_iconst (v := -1) C dX5_readRule_46 (by decide) ?_
        refine g_icmp_ne (tgt := 52) C dX5_readRule_47 (by decide) (fun c47 => ?_) (fun c47 => ?_)
        · refine g_iconst (v := -1) C dX5_readRule_52 (by decide) ?_
          refine g_istore_n C dX5_readRule_53 (by decide) rfl (ll' := [some (.ref h), some (.int (ks (i + 1))), some (.int (-1))]) rfl ?_
          have hn2 := not_end hend hn1 rfl (fun e => h1 (by rw [e]; decide))
          refine g_aload_n C dX5_readRule_54 rfl ?_
          refine g_get C i_X5 0 3 f_25 rfl rfl (by decide) rfl rfl dX5_readRule_55 ?_
          refine g_sipush (v := nI 1001) C dX5_readRule_58 (by decide) ?_
          refine g_icmp_ne (tgt := 81) C dX5_readRule_61 (by decide) (fun c61 => ?_) (fun c61 => ?_)
          · have hn4 := hn2
            refine g_aload_n C dX5_readRule_81 rfl ?_
            rcases Classical.em (ks ((i + 1) + 1) = nI 1002) with hw | hw
            · refine g_sipush (v := nI 1002) C dX5_readRule_82 (by decide) ?_
              refine g_callV C (c_X5_expect_y E h tk c0 c1 cn dr a0 a1 a2 a3 nr us ((i + 1) + 1) ks ps sa sk st co fk fp (nI 1002) (by omega) (by omega) (hend) (hw) (by decide)) gX5_readRule_X5_expect rfl 1 (by decide +kernel) ⟨by decide, by decide⟩ ⟨by decide, by decide⟩ 0 rfl rfl [0, 1, 2, 3, 4, 5, 6, 7, 8] [] (wr := []) rfl (by decide) rfl (by decide) (by decide) rfl rfl (Nat.le_of_ble_eq_true rfl) dX5_readRule_85 ?_
              rintro _ _ ⟨rfl, rfl⟩
              show gg E _ 3 X 0 0 88 [some (.ref h), some (.int (ks (i + 1))), some (.int (-1))] [.int (nI 1)] [gO h 5 [.ref tk, .ref dr, .int (nI (((i + 1) + 1) + 1)), .int (ks (((i + 1) + 1) + 1)), .int fk, .int fp], gO tk 8 [.ref c0, .ref c1, .int (nI cn)], gA E c0 601 ks, gA E c1 601 ps, gO dr 4 [.ref a0, .ref a1, .ref a2, .ref a3, .int (nI nr), .int (nI us)], gA E a0 12 sa, gA E a1 12 sk, gA E a2 13 st, gA E a3 600 co]
              refine g_if_eq (tgt := 109) C dX5_readRule_88 (by decide) (fun c88 => absurd c88 (by decide)) (fun c88 => ?_)
              have hn5 := not_end hend hn4 hw (by decide)
              refine g_aload_n C dX5_readRule_91 rfl ?_
              refine g_iconst (v := nI 0) C dX5_readRule_92 (by decide) ?_
              refine g_callV C (c_X5_readEither_8 E h tk c0 c1 cn dr a0 a1 a2 a3 nr us (((i + 1) + 1) + 1) ks ps sa sk st co fk fp (by omega) (by omega) (hend) (by omega)) gX5_readRule_X5_readEither rfl 1 (by decide +kernel) ⟨by decide, by decide⟩ ⟨by decide, by decide⟩ 0 rfl rfl [0, 1, 2, 3, 4, 5, 6, 7, 8] [] (wr := []) rfl (by decide) rfl (by decide) (by decide) rfl rfl (Nat.le_of_ble_eq_true rfl) dX5_readRule_93 ?_
              rintro _ _ ⟨ok_93, j_93, us2_93, co2_93, fk2_93, fp2_93, rfl, rfl, hq_93⟩
              show gg E _ 3 X 0 0 96 [some (.ref h), some (.int (ks (i + 1))), some (.int (-1))] [.int (b2i ok_93)] [gO h 5 [.ref tk, .ref dr, .int (nI j_93), .int (ks j_93), .int fk2_93, .int fp2_93], gO tk 8 [.ref c0, .ref c1, .int (nI cn)], gA E c0 601 ks, gA E c1 601 ps, gO dr 4 [.ref a0, .ref a1, .ref a2, .ref a3, .int (nI nr), .int (nI us2_93)], gA E a0 12 sa, gA E a1 12 sk, gA E a2 13 st, gA E a3 600 co2_93]
              rcases rdQ_tw hq_93 with ⟨C_93, hr_93, rfl, rfl, rfl, rfl, rfl, b1_93, b2_93, b3_93⟩ | ⟨kd_93, ix_93, hr_93, rfl, rfl, rfl, b1_93, b2_93, b3_93, b4_93⟩
              · refine g_if_eq (tgt := 109) C dX5_readRule_96 (by decide) (fun c96 => absurd c96 (by decide)) (fun c96 => ?_)
                refine g_aload_n C dX5_readRule_99 rfl ?_
                rcases Classical.em (ks j_93 = nI 1159) with hs | hs
                · refine g_sipush (v := nI 1159) C dX5_readRule_100 (by decide) ?_
                  refine g_callV C (c_X5_expect_y E h tk c0 c1 cn dr a0 a1 a2 a3 nr (us + C_93.length) j_93 ks ps sa sk st (cdW co us C_93) fk fp (nI 1159) (by omega) (by omega) (hend) (hs) (by decide)) gX5_readRule_X5_expect rfl 1 (by decide +kernel) ⟨by decide, by decide⟩ ⟨by decide, by decide⟩ 0 rfl rfl [0, 1, 2, 3, 4, 5, 6, 7, 8] [] (wr := []) rfl (by decide) rfl (by decide) (by decide) rfl rfl (Nat.le_of_ble_eq_true rfl) dX5_readRule_103 ?_
                  rintro _ _ ⟨rfl, rfl⟩
                  show gg E _ 3 X 0 0 106 [some (.ref h), some (.int (ks (i + 1))), some (.int (-1))] [.int (nI 1)] [gO h 5 [.ref tk, .ref dr, .int (nI (j_93 + 1)), .int (ks (j_93 + 1)), .int fk, .int fp], gO tk 8 [.ref c0, .ref c1, .int (nI cn)], gA E c0 601 ks, gA E c1 601 ps, gO dr 4 [.ref a0, .ref a1, .ref a2, .ref a3, .int (nI nr), .int (nI (us + C_93.length))], gA E a0 12 sa, gA E a1 12 sk, gA E a2 13 st, gA E a3 600 (cdW co us C_93)]
                  refine g_if_ne (tgt := 111) C dX5_readRule_106 (by decide) (fun c106 => ?_) (fun c106 => absurd c106 (by decide))
                  have hn6 := not_end hend b2_93 hs (by decide)
                  refine g_aload_n C dX5_readRule_111 rfl ?_
                  refine g_get C i_X5 0 1 f_21 rfl rfl (by decide) rfl rfl dX5_readRule_112 ?_
                  refine g_iload_n C dX5_readRule_115 rfl ?_
                  refine g_iload_n C dX5_readRule_116 rfl ?_
                  refine g_callV C (c_X4_closeRule E dr a0 a1 a2 a3 nr (us + C_93.length) sa sk st (cdW co us C_93) (ks (i + 1)) (-1) (by omega) (by omega)) gX5_readRule_X4_closeRule rfl 2 (by decide +kernel) ⟨by decide, by decide⟩ ⟨by decide, by decide⟩ 4 rfl rfl [4, 5, 6, 7, 8] [0, 1, 2, 3] (wr := [gO h 5 [.ref tk, .ref dr, .int (nI (j_93 + 1)), .int (ks (j_93 + 1)), .int fk, .int fp], gO tk 8 [.ref c0, .ref c1, .int (nI cn)], gA E c0 601 ks, gA E c1 601 ps]) rfl (by decide) rfl (by decide) (by decide) rfl rfl (Nat.le_of_ble_eq_true rfl) dX5_readRule_117 ?_
                  rintro _ _ ⟨rfl, rfl⟩
                  show gg E _ 3 X 0 0 120 [some (.ref h), some (.int (ks (i + 1))), some (.int (-1))] [] [gO h 5 [.ref tk, .ref dr, .int (nI (j_93 + 1)), .int (ks (j_93 + 1)), .int fk, .int fp], gO tk 8 [.ref c0, .ref c1, .int (nI cn)], gA E c0 601 ks, gA E c1 601 ps, gO dr 4 [.ref a0, .ref a1, .ref a2, .ref a3, .int (nI (nr + 1)), .int (nI (us + C_93.length))], gA E a0 12 (upd sa nr (ks (i + 1))), gA E a1 12 (upd sk nr (-1)), gA E a2 13 (upd st (nr + 1) (nI (us + C_93.length))), gA E a3 600 (cdW co us C_93)]
                  refine g_iconst (v := nI 1) C dX5_readRule_120 (by decide) ?_
                  exact g_zret C Rt dX5_readRule_121 (by decide) (by decide) (by decide) (⟨true, _, _, _, _, _, _, _, _, _, rfl, rfl, rdR_ok (by rw [pRule, if_pos c7, if_pos c25, if_neg h1, if_neg h2, pSkl, if_neg c61, pWhen, if_pos hw, hr_93]; exact if_pos hs) (by omega) (by omega) (by omega) rfl rfl c25⟩)
                · refine g_sipush (v := nI 1159) C dX5_readRule_100 (by decide) ?_
                  refine g_callV C (c_X5_expect_n E h tk c0 c1 cn dr a0 a1 a2 a3 nr (us + C_93.length) j_93 ks ps sa sk st (cdW co us C_93) fk fp (nI 1159) (by omega) (by omega) (hs)) gX5_readRule_X5_expect rfl 1 (by decide +kernel) ⟨by decide, by decide⟩ ⟨by decide, by decide⟩ 0 rfl rfl [0, 1, 2, 3, 4, 5, 6, 7, 8] [] (wr := []) rfl (by decide) rfl (by decide) (by decide) rfl rfl (Nat.le_of_ble_eq_true rfl) dX5_readRule_103 ?_
                  rintro _ _ ⟨rfl, rfl⟩
                  show gg E _ 3 X 0 0 106 [some (.ref h), some (.int (ks (i + 1))), some (.int (-1))] [.int (nI 0)] [gO h 5 [.ref tk, .ref dr, .int (nI j_93), .int (ks j_93), .int (nI 1), .int (ps j_93)], gO tk 8 [.ref c0, .ref c1, .int (nI cn)], gA E c0 601 ks, gA E c1 601 ps, gO dr 4 [.ref a0, .ref a1, .ref a2, .ref a3, .int (nI nr), .int (nI (us + C_93.length))], gA E a0 12 sa, gA E a1 12 sk, gA E a2 13 st, gA E a3 600 (cdW co us C_93)]
                  refine g_if_ne (tgt := 111) C dX5_readRule_106 (by decide) (fun c106 => absurd c106 (by decide)) (fun c106 => ?_)
                  refine g_iconst (v := nI 0) C dX5_readRule_109 (by decide) ?_
                  exact g_zret C Rt dX5_readRule_110 (by decide) (by decide) (by decide) (⟨false, _, _, _, _, _, _, _, _, _, rfl, rfl, rdR_er (by rw [pRule, if_pos c7, if_pos c25, if_neg h1, if_neg h2, pSkl, if_neg c61, pWhen, if_pos hw, hr_93]; exact if_neg hs) (by omega) b2_93 (by omega) b2_93⟩)
              · refine g_if_eq (tgt := 109) C dX5_readRule_96 (by decide) (fun c96 => ?_) (fun c96 => absurd c96 (by decide))
                refine g_iconst (v := nI 0) C dX5_readRule_109 (by decide) ?_
                exact g_zret C Rt dX5_readRule_110 (by decide) (by decide) (by decide) (⟨false, _, _, _, _, _, _, _, _, _, rfl, rfl, rdR_er (by rw [pRule, if_pos c7, if_pos c25, if_neg h1, if_neg h2, pSkl, if_neg c61, pWhen, if_pos hw, hr_93]; rfl) (by omega) b2_93 (by omega) b4_93⟩)
            · refine g_sipush (v := nI 1002) C dX5_readRule_82 (by decide) ?_
              refine g_callV C (c_X5_expect_n E h tk c0 c1 cn dr a0 a1 a2 a3 nr us ((i + 1) + 1) ks ps sa sk st co fk fp (nI 1002) (by omega) (by omega) (hw)) gX5_readRule_X5_expect rfl 1 (by decide +kernel) ⟨by decide, by decide⟩ ⟨by decide, by decide⟩ 0 rfl rfl [0, 1, 2, 3, 4, 5, 6, 7, 8] [] (wr := []) rfl (by decide) rfl (by decide) (by decide) rfl rfl (Nat.le_of_ble_eq_true rfl) dX5_readRule_85 ?_
              rintro _ _ ⟨rfl, rfl⟩
              show gg E _ 3 X 0 0 88 [some (.ref h), some (.int (ks (i + 1))), some (.int (-1))] [.int (nI 0)] [gO h 5 [.ref tk, .ref dr, .int (nI ((i + 1) + 1)), .int (ks ((i + 1) + 1)), .int (nI 1), .int (ps ((i + 1) + 1))], gO tk 8 [.ref c0, .ref c1, .int (nI cn)], gA E c0 601 ks, gA E c1 601 ps, gO dr 4 [.ref a0, .ref a1, .ref a2, .ref a3, .int (nI nr), .int (nI us)], gA E a0 12 sa, gA E a1 12 sk, gA E a2 13 st, gA E a3 600 co]
              refine g_if_eq (tgt := 109) C dX5_readRule_88 (by decide) (fun c88 => ?_) (fun c88 => absurd c88 (by decide))
              refine g_iconst (v := nI 0) C dX5_readRule_109 (by decide) ?_
              exact g_zret C Rt dX5_readRule_110 (by decide) (by decide) (by decide) (⟨false, _, _, _, _, _, _, _, _, _, rfl, rfl, rdR_er (by rw [pRule, if_pos c7, if_pos c25, if_neg h1, if_neg h2, pSkl, if_neg c61, pWhen, if_neg hw]) (by omega) (by omega) (by omega) (by omega)⟩)
          · have hn3 := not_end hend hn2 c61 (by decide)
            refine g_aload_n C dX5_readRule_64 rfl ?_
            refine g_callV C (c_X5_advance E h tk c0 c1 cn dr a0 a1 a2 a3 nr us ((i + 1) + 1) ks ps sa sk st co fk fp (hn3) (by omega)) gX5_readRule_X5_advance rfl 0 (by decide +kernel) ⟨by decide, by decide⟩ ⟨by decide, by decide⟩ 0 rfl rfl [0, 1, 2, 3, 4, 5, 6, 7, 8] [] (wr := []) rfl (by decide) rfl (by decide) (by decide) rfl rfl (Nat.le_of_ble_eq_true rfl) dX5_readRule_65 ?_
            rintro _ _ ⟨rfl, rfl⟩
            show gg E _ 3 X 0 0 68 [some (.ref h), some (.int (ks (i + 1))), some (.int (-1))] [] [gO h 5 [.ref tk, .ref dr, .int (nI (((i + 1) + 1) + 1)), .int (ks (((i + 1) + 1) + 1)), .int fk, .int fp], gO tk 8 [.ref c0, .ref c1, .int (nI cn)], gA E c0 601 ks, gA E c1 601 ps, gO dr 4 [.ref a0, .ref a1, .ref a2, .ref a3, .int (nI nr), .int (nI us)], gA E a0 12 sa, gA E a1 12 sk, gA E a2 13 st, gA E a3 600 co]
            rcases num3 (ks (((i + 1) + 1) + 1)) 4 with g1 | ⟨g1, g2⟩ | ⟨g1, g2⟩
            · refine g_aload_n C dX5_readRule_68 rfl ?_
              refine g_iconst (v := nI 4) C dX5_readRule_69 (by decide) ?_
              refine g_callV C (c_X5_readNumber_1 E h tk c0 c1 cn dr a0 a1 a2 a3 nr us (((i + 1) + 1) + 1) ks ps sa sk st co fk fp 4 (by omega) (by omega) (g1)) gX5_readRule_X5_readNumber rfl 1 (by decide +kernel) ⟨by decide, by decide⟩ ⟨by decide, by decide⟩ 0 rfl rfl [0, 1, 2, 3, 4, 5, 6, 7, 8] [] (wr := []) rfl (by decide) rfl (by decide) (by decide) rfl rfl (Nat.le_of_ble_eq_true rfl) dX5_readRule_70 ?_
              rintro _ _ ⟨rfl, rfl⟩
              show gg E _ 3 X 0 0 73 [some (.ref h), some (.int (ks (i + 1))), some (.int (-1))] [.int (-1)] [gO h 5 [.ref tk, .ref dr, .int (nI (((i + 1) + 1) + 1)), .int (ks (((i + 1) + 1) + 1)), .int (nI 1), .int (ps (((i + 1) + 1) + 1))], gO tk 8 [.ref c0, .ref c1, .int (nI cn)], gA E c0 601 ks, gA E c1 601 ps, gO dr 4 [.ref a0, .ref a1, .ref a2, .ref a3, .int (nI nr), .int (nI us)], gA E a0 12 sa, gA E a1 12 sk, gA E a2 13 st, gA E a3 600 co]
              refine g_istore_n C dX5_readRule_73 (by decide) rfl (ll' := [some (.ref h), some (.int (ks (i + 1))), some (.int (-1))]) rfl ?_
              refine g_iload_n C dX5_readRule_74 rfl ?_
              refine g_iconst (v := -1) C dX5_readRule_75 (by decide) ?_
              refine g_icmp_ne (tgt := 81) C dX5_readRule_76 (by decide) (fun c76 => absurd c76 (by decide)) (fun c76 => ?_)
              refine g_iconst (v := nI 0) C dX5_readRule_79 (by decide) ?_
              exact g_zret C Rt dX5_readRule_80 (by decide) (by decide) (by decide) (⟨false, _, _, _, _, _, _, _, _, _, rfl, rfl, rdR_er (by rw [pRule, if_pos c7, if_pos c25, if_neg h1, if_neg h2, pSkl, if_pos c61, if_pos g1]) (by omega) (by omega) (by omega) (by omega)⟩)
            · refine g_aload_n C dX5_readRule_68 rfl ?_
              refine g_iconst (v := nI 4) C dX5_readRule_69 (by decide) ?_
              refine g_callV C (c_X5_readNumber_2 E h tk c0 c1 cn dr a0 a1 a2 a3 nr us (((i + 1) + 1) + 1) ks ps sa sk st co fk fp 4 (by omega) (by omega) (g1) (g2)) gX5_readRule_X5_readNumber rfl 1 (by decide +kernel) ⟨by decide, by decide⟩ ⟨by decide, by decide⟩ 0 rfl rfl [0, 1, 2, 3, 4, 5, 6, 7, 8] [] (wr := []) rfl (by decide) rfl (by decide) (by decide) rfl rfl (Nat.le_of_ble_eq_true rfl) dX5_readRule_70 ?_
              rintro _ _ ⟨rfl, rfl⟩
              show gg E _ 3 X 0 0 73 [some (.ref h), some (.int (ks (i + 1))), some (.int (-1))] [.int (-1)] [gO h 5 [.ref tk, .ref dr, .int (nI (((i + 1) + 1) + 1)), .int (ks (((i + 1) + 1) + 1)), .int (nI 2), .int (ps (((i + 1) + 1) + 1))], gO tk 8 [.ref c0, .ref c1, .int (nI cn)], gA E c0 601 ks, gA E c1 601 ps, gO dr 4 [.ref a0, .ref a1, .ref a2, .ref a3, .int (nI nr), .int (nI us)], gA E a0 12 sa, gA E a1 12 sk, gA E a2 13 st, gA E a3 600 co]
              refine g_istore_n C dX5_readRule_73 (by decide) rfl (ll' := [some (.ref h), some (.int (ks (i + 1))), some (.int (-1))]) rfl ?_
              refine g_iload_n C dX5_readRule_74 rfl ?_
              refine g_iconst (v := -1) C dX5_readRule_75 (by decide) ?_
              refine g_icmp_ne (tgt := 81) C dX5_readRule_76 (by decide) (fun c76 => absurd c76 (by decide)) (fun c76 => ?_)
              refine g_iconst (v := nI 0) C dX5_readRule_79 (by decide) ?_
              exact g_zret C Rt dX5_readRule_80 (by decide) (by decide) (by decide) (⟨false, _, _, _, _, _, _, _, _, _, rfl, rfl, rdR_er (by rw [pRule, if_pos c7, if_pos c25, if_neg h1, if_neg h2, pSkl, if_pos c61, if_neg g1, if_pos g2]) (by omega) (by omega) (by omega) (by omega)⟩)
            · refine g_aload_n C dX5_readRule_68 rfl ?_
              refine g_iconst (v := nI 4) C dX5_readRule_69 (by decide) ?_
              refine g_callV C (c_X5_readNumber_y E h tk c0 c1 cn dr a0 a1 a2 a3 nr us (((i + 1) + 1) + 1) ks ps sa sk st co fk fp 4 (by omega) (by omega) (hend) (g1) (g2)) gX5_readRule_X5_readNumber rfl 1 (by decide +kernel) ⟨by decide, by decide⟩ ⟨by decide, by decide⟩ 0 rfl rfl [0, 1, 2, 3, 4, 5, 6, 7, 8] [] (wr := []) rfl (by decide) rfl (by decide) (by decide) rfl rfl (Nat.le_of_ble_eq_true rfl) dX5_readRule_70 ?_
              rintro _ _ ⟨rfl, rfl⟩
              show gg E _ 3 X 0 0 73 [some (.ref h), some (.int (ks (i + 1))), some (.int (-1))] [.int (ks (((i + 1) + 1) + 1))] [gO h 5 [.ref tk, .ref dr, .int (nI ((((i + 1) + 1) + 1) + 1)), .int (ks ((((i + 1) + 1) + 1) + 1)), .int fk, .int fp], gO tk 8 [.ref c0, .ref c1, .int (nI cn)], gA E c0 601 ks, gA E c1 601 ps, gO dr 4 [.ref a0, .ref a1, .ref a2, .ref a3, .int (nI nr), .int (nI us)], gA E a0 12 sa, gA E a1 12 sk, gA E a2 13 st, gA E a3 600 co]
              refine g_istore_n C dX5_readRule_73 (by decide) rfl (ll' := [some (.ref h), some (.int (ks (i + 1))), some (.int (ks (((i + 1) + 1) + 1)))]) rfl ?_
              refine g_iload_n C dX5_readRule_74 rfl ?_
              refine g_iconst (v := -1) C dX5_readRule_75 (by decide) ?_
              refine g_icmp_ne (tgt := 81) C dX5_readRule_76 (by decide) (fun c76 => ?_) (fun c76 => ?_)
              · have hn4 := not_end hend hn3 rfl (fun e => g1 (by rw [e]; decide))
                refine g_aload_n C dX5_readRule_81 rfl ?_
                rcases Classical.em (ks ((((i + 1) + 1) + 1) + 1) = nI 1002) with hw | hw
                · refine g_sipush (v := nI 1002) C dX5_readRule_82 (by decide) ?_
                  refine g_callV C (c_X5_expect_y E h tk c0 c1 cn dr a0 a1 a2 a3 nr us ((((i + 1) + 1) + 1) + 1) ks ps sa sk st co fk fp (nI 1002) (by omega) (by omega) (hend) (hw) (by decide)) gX5_readRule_X5_expect rfl 1 (by decide +kernel) ⟨by decide, by decide⟩ ⟨by decide, by decide⟩ 0 rfl rfl [0, 1, 2, 3, 4, 5, 6, 7, 8] [] (wr := []) rfl (by decide) rfl (by decide) (by decide) rfl rfl (Nat.le_of_ble_eq_true rfl) dX5_readRule_85 ?_
                  rintro _ _ ⟨rfl, rfl⟩
                  show gg E _ 3 X 0 0 88 [some (.ref h), some (.int (ks (i + 1))), some (.int (ks (((i + 1) + 1) + 1)))] [.int (nI 1)] [gO h 5 [.ref tk, .ref dr, .int (nI (((((i + 1) + 1) + 1) + 1) + 1)), .int (ks (((((i + 1) + 1) + 1) + 1) + 1)), .int fk, .int fp], gO tk 8 [.ref c0, .ref c1, .int (nI cn)], gA E c0 601 ks, gA E c1 601 ps, gO dr 4 [.ref a0, .ref a1, .ref a2, .ref a3, .int (nI nr), .int (nI us)], gA E a0 12 sa, gA E a1 12 sk, gA E a2 13 st, gA E a3 600 co]
                  refine g_if_eq (tgt := 109) C dX5_readRule_88 (by decide) (fun c88 => absurd c88 (by decide)) (fun c88 => ?_)
                  have hn5 := not_end hend hn4 hw (by decide)
                  refine g_aload_n C dX5_readRule_91 rfl ?_
                  refine g_iconst (v := nI 0) C dX5_readRule_92 (by decide) ?_
                  refine g_callV C (c_X5_readEither_8 E h tk c0 c1 cn dr a0 a1 a2 a3 nr us (((((i + 1) + 1) + 1) + 1) + 1) ks ps sa sk st co fk fp (by omega) (by omega) (hend) (by omega)) gX5_readRule_X5_readEither rfl 1 (by decide +kernel) ⟨by decide, by decide⟩ ⟨by decide, by decide⟩ 0 rfl rfl [0, 1, 2, 3, 4, 5, 6, 7, 8] [] (wr := []) rfl (by decide) rfl (by decide) (by decide) rfl rfl (Nat.le_of_ble_eq_true rfl) dX5_readRule_93 ?_
                  rintro _ _ ⟨ok_93, j_93, us2_93, co2_93, fk2_93, fp2_93, rfl, rfl, hq_93⟩
                  show gg E _ 3 X 0 0 96 [some (.ref h), some (.int (ks (i + 1))), some (.int (ks (((i + 1) + 1) + 1)))] [.int (b2i ok_93)] [gO h 5 [.ref tk, .ref dr, .int (nI j_93), .int (ks j_93), .int fk2_93, .int fp2_93], gO tk 8 [.ref c0, .ref c1, .int (nI cn)], gA E c0 601 ks, gA E c1 601 ps, gO dr 4 [.ref a0, .ref a1, .ref a2, .ref a3, .int (nI nr), .int (nI us2_93)], gA E a0 12 sa, gA E a1 12 sk, gA E a2 13 st, gA E a3 600 co2_93]
                  rcases rdQ_tw hq_93 with ⟨C_93, hr_93, rfl, rfl, rfl, rfl, rfl, b1_93, b2_93, b3_93⟩ | ⟨kd_93, ix_93, hr_93, rfl, rfl, rfl, b1_93, b2_93, b3_93, b4_93⟩
                  · refine g_if_eq (tgt := 109) C dX5_readRule_96 (by decide) (fun c96 => absurd c96 (by decide)) (fun c96 => ?_)
                    refine g_aload_n C dX5_readRule_99 rfl ?_
                    rcases Classical.em (ks j_93 = nI 1159) with hs | hs
                    · refine g_sipush (v := nI 1159) C dX5_readRule_100 (by decide) ?_
                      refine g_callV C (c_X5_expect_y E h tk c0 c1 cn dr a0 a1 a2 a3 nr (us + C_93.length) j_93 ks ps sa sk st (cdW co us C_93) fk fp (nI 1159) (by omega) (by omega) (hend) (hs) (by decide)) gX5_readRule_X5_expect rfl 1 (by decide +kernel) ⟨by decide, by decide⟩ ⟨by decide, by decide⟩ 0 rfl rfl [0, 1, 2, 3, 4, 5, 6, 7, 8] [] (wr := []) rfl (by decide) rfl (by decide) (by decide) rfl rfl (Nat.le_of_ble_eq_true rfl) dX5_readRule_103 ?_
                      rintro _ _ ⟨rfl, rfl⟩
                      show gg E _ 3 X 0 0 106 [some (.ref h), some (.int (ks (i + 1))), some (.int (ks (((i + 1) + 1) + 1)))] [.int (nI 1)] [gO h 5 [.ref tk, .ref dr, .int (nI (j_93 + 1)), .int (ks (j_93 + 1)), .int fk, .int fp], gO tk 8 [.ref c0, .ref c1, .int (nI cn)], gA E c0 601 ks, gA E c1 601 ps, gO dr 4 [.ref a0, .ref a1, .ref a2, .ref a3, .int (nI nr), .int (nI (us + C_93.length))], gA E a0 12 sa, gA E a1 12 sk, gA E a2 13 st, gA E a3 600 (cdW co us C_93)]
                      refine g_if_ne (tgt := 111) C dX5_readRule_106 (by decide) (fun c106 => ?_) (fun c106 => absurd c106 (by decide))
                      have hn6 := not_end hend b2_93 hs (by decide)
                      refine g_aload_n C dX5_readRule_111 rfl ?_
                      refine g_get C i_X5 0 1 f_21 rfl rfl (by decide) rfl rfl dX5_readRule_112 ?_
                      refine g_iload_n C dX5_readRule_115 rfl ?_
                      refine g_iload_n C dX5_readRule_116 rfl ?_
                      refine g_callV C (c_X4_closeRule E dr a0 a1 a2 a3 nr (us + C_93.length) sa sk st (cdW co us C_93) (ks (i + 1)) (ks (((i + 1) + 1) + 1)) (by omega) (by omega)) gX5_readRule_X4_closeRule rfl 2 (by decide +kernel) ⟨by decide, by decide⟩ ⟨by decide, by decide⟩ 4 rfl rfl [4, 5, 6, 7, 8] [0, 1, 2, 3] (wr := [gO h 5 [.ref tk, .ref dr, .int (nI (j_93 + 1)), .int (ks (j_93 + 1)), .int fk, .int fp], gO tk 8 [.ref c0, .ref c1, .int (nI cn)], gA E c0 601 ks, gA E c1 601 ps]) rfl (by decide) rfl (by decide) (by decide) rfl rfl (Nat.le_of_ble_eq_true rfl) dX5_readRule_117 ?_
                      rintro _ _ ⟨rfl, rfl⟩
                      show gg E _ 3 X 0 0 120 [some (.ref h), some (.int (ks (i + 1))), some (.int (ks (((i + 1) + 1) + 1)))] [] [gO h 5 [.ref tk, .ref dr, .int (nI (j_93 + 1)), .int (ks (j_93 + 1)), .int fk, .int fp], gO tk 8 [.ref c0, .ref c1, .int (nI cn)], gA E c0 601 ks, gA E c1 601 ps, gO dr 4 [.ref a0, .ref a1, .ref a2, .ref a3, .int (nI (nr + 1)), .int (nI (us + C_93.length))], gA E a0 12 (upd sa nr (ks (i + 1))), gA E a1 12 (upd sk nr (ks (((i + 1) + 1) + 1))), gA E a2 13 (upd st (nr + 1) (nI (us + C_93.length))), gA E a3 600 (cdW co us C_93)]
                      refine g_iconst (v := nI 1) C dX5_readRule_120 (by decide) ?_
                      exact g_zret C Rt dX5_readRule_121 (by decide) (by decide) (by decide) (⟨true, _, _, _, _, _, _, _, _, _, rfl, rfl, rdR_ok (by rw [pRule, if_pos c7, if_pos c25, if_neg h1, if_neg h2, pSkl, if_pos c61, if_neg g1, if_neg g2, pWhen, if_pos hw, hr_93]; exact if_pos hs) (by omega) (by omega) (by omega) rfl rfl c25⟩)
                    · refine g_sipush (v := nI 1159) C dX5_readRule_100 (by decide) ?_
                      refine g_callV C (c_X5_expect_n E h tk c0 c1 cn dr a0 a1 a2 a3 nr (us + C_93.length) j_93 ks ps sa sk st (cdW co us C_93) fk fp (nI 1159) (by omega) (by omega) (hs)) gX5_readRule_X5_expect rfl 1 (by decide +kernel) ⟨by decide, by decide⟩ ⟨by decide, by decide⟩ 0 rfl rfl [0, 1, 2, 3, 4, 5, 6, 7, 8] [] (wr := []) rfl (by decide) rfl (by decide) (by decide) rfl rfl (Nat.le_of_ble_eq_true rfl) dX5_readRule_103 ?_
                      rintro _ _ ⟨rfl, rfl⟩
                      show gg E _ 3 X 0 0 106 [some (.ref h), some (.int (ks (i + 1))), some (.int (ks (((i + 1) + 1) + 1)))] [.int (nI 0)] [gO h 5 [.ref tk, .ref dr, .int (nI j_93), .int (ks j_93), .int (nI 1), .int (ps j_93)], gO tk 8 [.ref c0, .ref c1, .int (nI cn)], gA E c0 601 ks, gA E c1 601 ps, gO dr 4 [.ref a0, .ref a1, .ref a2, .ref a3, .int (nI nr), .int (nI (us + C_93.length))], gA E a0 12 sa, gA E a1 12 sk, gA E a2 13 st, gA E a3 600 (cdW co us C_93)]
                      refine g_if_ne (tgt := 111) C dX5_readRule_106 (by decide) (fun c106 => absurd c106 (by decide)) (fun c106 => ?_)
                      refine g_iconst (v := nI 0) C dX5_readRule_109 (by decide) ?_
                      exact g_zret C Rt dX5_readRule_110 (by decide) (by decide) (by decide) (⟨false, _, _, _, _, _, _, _, _, _, rfl, rfl, rdR_er (by rw [pRule, if_pos c7, if_pos c25, if_neg h1, if_neg h2, pSkl, if_pos c61, if_neg g1, if_neg g2, pWhen, if_pos hw, hr_93]; exact if_neg hs) (by omega) b2_93 (by omega) b2_93⟩)
                  · refine g_if_eq (tgt := 109) C dX5_readRule_96 (by decide) (fun c96 => ?_) (fun c96 => absurd c96 (by decide))
                    refine g_iconst (v := nI 0) C dX5_readRule_109 (by decide) ?_
                    exact g_zret C Rt dX5_readRule_110 (by decide) (by decide) (by decide) (⟨false, _, _, _, _, _, _, _, _, _, rfl, rfl, rdR_er (by rw [pRule, if_pos c7, if_pos c25, if_neg h1, if_neg h2, pSkl, if_pos c61, if_neg g1, if_neg g2, pWhen, if_pos hw, hr_93]; rfl) (by omega) b2_93 (by omega) b4_93⟩)
                · refine g_sipush (v := nI 1002) C dX5_readRule_82 (by decide) ?_
                  refine g_callV C (c_X5_expect_n E h tk c0 c1 cn dr a0 a1 a2 a3 nr us ((((i + 1) + 1) + 1) + 1) ks ps sa sk st co fk fp (nI 1002) (by omega) (by omega) (hw)) gX5_readRule_X5_expect rfl 1 (by decide +kernel) ⟨by decide, by decide⟩ ⟨by decide, by decide⟩ 0 rfl rfl [0, 1, 2, 3, 4, 5, 6, 7, 8] [] (wr := []) rfl (by decide) rfl (by decide) (by decide) rfl rfl (Nat.le_of_ble_eq_true rfl) dX5_readRule_85 ?_
                  rintro _ _ ⟨rfl, rfl⟩
                  show gg E _ 3 X 0 0 88 [some (.ref h), some (.int (ks (i + 1))), some (.int (ks (((i + 1) + 1) + 1)))] [.int (nI 0)] [gO h 5 [.ref tk, .ref dr, .int (nI ((((i + 1) + 1) + 1) + 1)), .int (ks ((((i + 1) + 1) + 1) + 1)), .int (nI 1), .int (ps ((((i + 1) + 1) + 1) + 1))], gO tk 8 [.ref c0, .ref c1, .int (nI cn)], gA E c0 601 ks, gA E c1 601 ps, gO dr 4 [.ref a0, .ref a1, .ref a2, .ref a3, .int (nI nr), .int (nI us)], gA E a0 12 sa, gA E a1 12 sk, gA E a2 13 st, gA E a3 600 co]
                  refine g_if_eq (tgt := 109) C dX5_readRule_88 (by decide) (fun c88 => ?_) (fun c88 => absurd c88 (by decide))
                  refine g_iconst (v := nI 0) C dX5_readRule_109 (by decide) ?_
                  exact g_zret C Rt dX5_readRule_110 (by decide) (by decide) (by decide) (⟨false, _, _, _, _, _, _, _, _, _, rfl, rfl, rdR_er (by rw [pRule, if_pos c7, if_pos c25, if_neg h1, if_neg h2, pSkl, if_pos c61, if_neg g1, if_neg g2, pWhen, if_neg hw]) (by omega) (by omega) (by omega) (by omega)⟩)
              · exact absurd (by rw [c76]; decide) (hnn _ hn3)
        · exact absurd (by rw [c47]; decide) (hnn _ hn1)
    · refine g_aload_n C dX5_readRule_28 rfl ?_
      refine g_iconst (v := nI 3) C dX5_readRule_29 (by decide) ?_
      refine g_callV C (c_X5_refuse E h tk c0 c1 cn dr a0 a1 a2 a3 nr us i ks ps sa sk st co fk fp 3 (by omega) (by omega)) gX5_readRule_X5_refuse rfl 1 (by decide +kernel) ⟨by decide, by decide⟩ ⟨by decide, by decide⟩ 0 rfl rfl [0, 1, 2, 3, 4, 5, 6, 7, 8] [] (wr := []) rfl (by decide) rfl (by decide) (by decide) rfl rfl (Nat.le_of_ble_eq_true rfl) dX5_readRule_30 ?_
      rintro _ _ ⟨rfl, rfl⟩
      show gg E _ 3 X 0 0 33 [some (.ref h), none, none] [.int (nI 0)] [gO h 5 [.ref tk, .ref dr, .int (nI i), .int (ks i), .int (nI 3), .int (ps i)], gO tk 8 [.ref c0, .ref c1, .int (nI cn)], gA E c0 601 ks, gA E c1 601 ps, gO dr 4 [.ref a0, .ref a1, .ref a2, .ref a3, .int (nI nr), .int (nI us)], gA E a0 12 sa, gA E a1 12 sk, gA E a2 13 st, gA E a3 600 co]
      exact g_zret C Rt dX5_readRule_33 (by decide) (by decide) (by decide) (⟨false, _, _, _, _, _, _, _, _, _, rfl, rfl, rdR_er (by rw [pRule, if_pos c7, if_neg (Nat.not_lt.mpr c25)]) (by omega) (by omega) (by omega) (by omega)⟩)
  · refine g_aload_n C dX5_readRule_10 rfl ?_
    refine g_iconst (v := nI 1) C dX5_readRule_11 (by decide) ?_
    refine g_callV C (c_X5_refuse E h tk c0 c1 cn dr a0 a1 a2 a3 nr us i ks ps sa sk st co fk fp 1 (by omega) (by omega)) gX5_readRule_X5_refuse rfl 1 (by decide +kernel) ⟨by decide, by decide⟩ ⟨by decide, by decide⟩ 0 rfl rfl [0, 1, 2, 3, 4, 5, 6, 7, 8] [] (wr := []) rfl (by decide) rfl (by decide) (by decide) rfl rfl (Nat.le_of_ble_eq_true rfl) dX5_readRule_12 ?_
    rintro _ _ ⟨rfl, rfl⟩
    show gg E _ 3 X 0 0 15 [some (.ref h), none, none] [.int (nI 0)] [gO h 5 [.ref tk, .ref dr, .int (nI i), .int (ks i), .int (nI 1), .int (ps i)], gO tk 8 [.ref c0, .ref c1, .int (nI cn)], gA E c0 601 ks, gA E c1 601 ps, gO dr 4 [.ref a0, .ref a1, .ref a2, .ref a3, .int (nI nr), .int (nI us)], gA E a0 12 sa, gA E a1 12 sk, gA E a2 13 st, gA E a3 600 co]
    exact g_zret C Rt dX5_readRule_15 (by decide) (by decide) (by decide) (⟨false, _, _, _, _, _, _, _, _, _, rfl, rfl, rdR_er (by rw [pRule, if_neg c7]) (by omega) (by omega) (by omega) (by omega)⟩)

