/-! tokens' kinds; begin, rules -/
theorem fam2 {b : Int32} (h : famN b = 2) : ∃ d, 48 ≤ d ∧ d < 58 ∧ b = nI d := by
  rw [famN] at h
  split at h
  · cases h
  · split at h
    · cases h
    · split at h
      · next q => exact rng (by decide) q.1 ((nlt_pred (by decide)).mp q.2) (by decide)
      · cases h
theorem nuL_in {t : Nat → Int32} {a : Nat} : ∀ (k : Nat), (∀ q, q < k → famN (t (a + q)) = 2) → ∃ v, v < 10 ^ k ∧ nuL t a k = nI v
  | 0, _ => ⟨0, by decide, rfl⟩
  | k + 1, h => by
    obtain ⟨v, h1, h2⟩ := nuL_in k (fun q hq => h q (by omega))
    obtain ⟨d, h3, h4, h5⟩ := fam2 (h k (Nat.lt_succ_self k))
    refine ⟨v * 10 + d - 48, by rw [Nat.pow_succ]; omega, ?_⟩
    rw [nuL, h2, h5, pk_mul, nI_add, pk_sub (by omega)]
theorem tokC_is {t : Nat → Int32} {n a : Nat} (hn : n ≤ 600) (ha : a < n) (h0 : famN (t a) ≠ 0) : (∃ v, v ≤ 999 ∧ tokC t n a = nI v) ∨ (∃ q, q < 11 ∧ tokC t n a = nI (1000 + q)) ∨ tokC t n a = nI 1012 ∨ (∃ b, b ∈ [40, 41, 43, 45, 59, 60, 61, 62] ∧ t a = nI b ∧ tokC t n a = nI (1100 + b)) := by
  rw [tokC]
  by_cases h3 : famN (t a) = 3
  · rw [if_pos h3, sgC]
    by_cases hs : t a = nI 40 ∨ t a = nI 41 ∨ t a = nI 43 ∨ t a = nI 45 ∨ t a = nI 59 ∨ t a = nI 60 ∨ t a = nI 61 ∨ t a = nI 62
    · rw [if_pos hs]
      refine Or.inr (Or.inr (Or.inr ?_))
      rcases hs with e | e | e | e | e | e | e | e <;> exact ⟨_, by decide, e, by rw [e]; decide⟩
    · rw [if_neg hs]
      exact Or.inr (Or.inr (Or.inl rfl))
  · rw [if_neg h3]
    by_cases h1 : famN (t a) = 1
    · rw [if_pos h1, kwC]
      split
      · next q => exact Or.inr (Or.inl ⟨_, q, rfl⟩)
      · exact Or.inr (Or.inr (Or.inl rfl))
    · rw [if_neg h1]
      have h2 : famN (t a) = 2 := by have := famN_le (t a); omega
      rw [h2, nuC]
      obtain ⟨i1, i2, i3, i4⟩ := enR_is (t := t) (f := 2) hn (Nat.le_of_lt ha)
      split
      · exact Or.inr (Or.inr (Or.inl rfl))
      · next q =>
        obtain ⟨v, v1, v2⟩ := nuL_in (t := t) (a := a) (enR t n 2 a - a) (fun q hq => i3 (a + q) (by omega) (by omega))
        refine Or.inl ⟨v, ?_, v2⟩
        have : 10 ^ (enR t n 2 a - a) ≤ 10 ^ 3 := Nat.pow_le_pow_right (by decide) (by omega)
        omega
theorem tokC_nn {t : Nat → Int32} {n a : Nat} (hn : n ≤ 600) (ha : a < n) (h0 : famN (t a) ≠ 0) : ¬ tokC t n a < 0 := by
  rcases tokC_is hn ha h0 with ⟨v, h1, h2⟩ | ⟨q, h1, h2⟩ | h2 | ⟨b, h1, h3, h2⟩
  · rw [h2]; exact nI_pos (by omega)
  · rw [h2]; exact nI_pos (by omega)
  · rw [h2]; decide
  · rw [h2]
    have : b ≤ 62 := by simp at h1; omega
    exact nI_pos (by omega)
theorem TKL_nn {t : Nat → Int32} {n : Nat} (hn : n ≤ 600) : ∀ a, a ≤ n → ∀ x ∈ TKL t n a, ¬ x.1 < 0
  | 0, _, x, hx => by cases hx
  | a + 1, ha, x, hx => by
    rw [TKL] at hx
    split at hx
    · next q =>
      rcases List.mem_append.mp hx with hx | hx
      · exact TKL_nn hn a (by omega) x hx
      · rw [List.mem_singleton.mp hx]
        refine tokC_nn hn (by omega) (fun z => ?_)
        rw [stT_f0 z] at q
        cases q
    · exact TKL_nn hn a (by omega) x hx
theorem TKA_nn {t : Nat → Int32} {n : Nat} {ks ps : Nat → Int32} (hn : n ≤ 600) (h : tkR (TKA t n) ks ps) : ∀ q, q < (TKA t n).length → ¬ ks q < 0 := by
  intro q hq
  rw [(h q hq).1, List.getD_eq_getElem?_getD, List.getElem?_eq_getElem hq]
  show ¬ ((TKA t n)[q]).1 < 0
  rcases List.mem_append.mp (show (TKA t n)[q] ∈ TKL t n n ++ [(nI 1011, n)] from List.getElem_mem hq) with hx | hx
  · exact TKL_nn hn n (Nat.le_refl n) _ hx
  · have e : (TKA t n)[q] = (nI 1011, n) := List.mem_singleton.mp hx
    rw [e]
    exact (by decide : ¬ nI 1011 < 0)
theorem TKA_end {t : Nat → Int32} {n : Nat} {ks ps : Nat → Int32} (h : tkR (TKA t n) ks ps) : ks ((TKA t n).length - 1) = nI 1011 := by
  rw [(h _ (by rw [TKA_len]; omega)).1, TKA, List.getD_eq_getElem?_getD, List.getElem?_append_right (by rw [List.length_append]; exact Nat.le_refl _)]
  simp
theorem TKA_cn {t : Nat → Int32} {n : Nat} (hn : n ≤ 600) : 0 < (TKA t n).length ∧ (TKA t n).length ≤ 601 := by
  have := TKL_len t n n
  rw [TKA_len]
  omega
def rlQ (r : Except (Nat × Nat) (List rT)) (ps : Nat → Int32) (cn bk dr : Nat) (rt : Int32) (bk2 dr2 : Nat) (fk2 fp2 : Int32) (nr2 us2 : Nat) (sa2 sk2 st2 co2 : Nat → Int32) : Prop :=
  match r with
  | .ok L => rt = nI L.length ∧ bk2 = dr ∧ dr2 = bk ∧ fk2 = 0 ∧ fp2 = -1 ∧ nr2 = L.length ∧ us2 = (catR L).length ∧ bkR L sa2 sk2 st2 co2 ∧ L.length ≤ 12 ∧ (catR L).length ≤ 600
  | .error (kd, ix) => rt = -1 ∧ bk2 = bk ∧ dr2 = dr ∧ fk2 = nI kd ∧ fp2 = ps ix ∧ ix < cn ∧ st2 0 = nI 0
theorem rlQ_ok {r : Except (Nat × Nat) (List rT)} {ps : Nat → Int32} {cn bk dr : Nat} {sa sk st co : Nat → Int32} {L : List rT} (hr : r = .ok L) (h1 : bkR L sa sk st co) (h2 : L.length ≤ 12) (h3 : (catR L).length ≤ 600) : rlQ r ps cn bk dr (nI L.length) dr bk 0 (-1) L.length (catR L).length sa sk st co := by
  subst hr
  exact ⟨rfl, rfl, rfl, rfl, rfl, rfl, rfl, h1, h2, h3⟩
theorem rlQ_er {r : Except (Nat × Nat) (List rT)} {ps : Nat → Int32} {cn bk dr nr us : Nat} {sa sk st co : Nat → Int32} {kd ix : Nat} (hr : r = .error (kd, ix)) (h1 : ix < cn) (h2 : st 0 = nI 0) : rlQ r ps cn bk dr (-1) bk dr (nI kd) (ps ix) nr us sa sk st co := by
  subst hr
  exact ⟨rfl, rfl, rfl, rfl, rfl, h1, h2⟩

abbrev rm_c_X5_begin : Room := { frames := 9, cells := 0, slots := 0, locals := 207 }
set_option maxHeartbeats 4000000 in
set_option maxRecDepth 100000 in
theorem c_X5_begin (E : gE) (h : Nat) (tk c0 c1 cn dr a0 a1 a2 a3 nr us : Nat) (ks ps sa sk st co : Nat → Int32) (ra rn fk fp : Int32) (th tb n : Nat) (t : Nat → Int32) (hn : n ≤ 600) : MM E yX5_begin wsX5_begin rm_c_X5_begin [.ref h, .ref th] [gO h 5 [.ref tk, .ref dr, .int ra, .int rn, .int fk, .int fp], gO tk 8 [.ref c0, .ref c1, .int (nI cn)], gA E c0 601 ks, gA E c1 601 ps, gO dr 4 [.ref a0, .ref a1, .ref a2, .ref a3, .int (nI nr), .int (nI us)], gA E a0 12 sa, gA E a1 12 sk, gA E a2 13 st, gA E a3 600 co, gO th 6 [.ref tb, .int (nI n)], gA E tb 600 t] (fun rv_ ru_ => ∃ (ks2 ps2 : Nat → Int32), rv_ = none ∧ ru_ = [gO h 5 [.ref tk, .ref dr, .int (nI 0), .int (ks2 0), .int (nI 0), .int (-1)], gO tk 8 [.ref c0, .ref c1, .int (nI ((TKA t n).length))], gA E c0 601 ks2, gA E c1 601 ps2, gO dr 4 [.ref a0, .ref a1, .ref a2, .ref a3, .int (nI 0), .int (nI 0)], gA E a0 12 sa, gA E a1 12 sk, gA E a2 13 st, gA E a3 600 co, gO th 6 [.ref tb, .int (nI n)], gA E tb 600 t] ∧ (tkR (TKA t n) ks2 ps2)) := by
  refine MM.ofG (cc := cX5_begin) (maxL := 2) (ret := none) (by decide) rfl (Nat.le_of_ble_eq_true rfl) (ll := [some (.ref h), some (.ref th)]) rfl ?_
  intro X C Rt
  have C : gx E X cX5_begin 2 wsX5_begin RX5 := C
  have i_X5 : ∀ w ∈ u_ws RX5 TX5 6, w ∈ wsX5_begin := by decide +kernel
  have i_X8 : ∀ w ∈ u_ws RX8 TX8 3, w ∈ wsX5_begin := by decide +kernel
  have f_12 : Cond.fieldLink RX5 12 "MarkPages$RuleReader" "tokens" "LMarkPages$Tokens;" ∈ wsX5_begin := by decide +kernel
  have f_21 : Cond.fieldLink RX5 21 "MarkPages$RuleReader" "draft" "LMarkPages$RuleBook;" ∈ wsX5_begin := by decide +kernel
  have f_25 : Cond.fieldLink RX5 25 "MarkPages$RuleReader" "now" "I" ∈ wsX5_begin := by decide +kernel
  have f_29 : Cond.fieldLink RX5 29 "MarkPages$RuleReader" "faultKind" "I" ∈ wsX5_begin := by decide +kernel
  have f_32 : Cond.fieldLink RX5 32 "MarkPages$RuleReader" "faultPlace" "I" ∈ wsX5_begin := by decide +kernel
  have f_42 : Cond.fieldLink RX5 42 "MarkPages$RuleReader" "at" "I" ∈ wsX5_begin := by decide +kernel
  have f_45 : Cond.fieldLink RX5 45 "MarkPages$Tokens" "kinds" "[I" ∈ wsX5_begin := by decide +kernel
  refine g_aload_n C dX5_begin_0 rfl ?_
  refine g_get C i_X5 0 0 f_12 rfl rfl (by decide) rfl rfl dX5_begin_1 ?_
  refine g_aload_n C dX5_begin_4 rfl ?_
  refine g_callV C (c_X8_scan E th tb n t tk c0 c1 cn ks ps (by omega)) gX5_begin_X8_scan rfl 1 (by decide +kernel) ⟨by decide, by decide⟩ ⟨by decide, by decide⟩ 1 rfl rfl [1, 2, 3, 9, 10] [0, 4, 5, 6, 7, 8] (wr := [gO h 5 [.ref tk, .ref dr, .int ra, .int rn, .int fk, .int fp], gO dr 4 [.ref a0, .ref a1, .ref a2, .ref a3, .int (nI nr), .int (nI us)], gA E a0 12 sa, gA E a1 12 sk, gA E a2 13 st, gA E a3 600 co]) rfl (by decide) rfl (by decide) (by decide) rfl rfl (Nat.le_of_ble_eq_true rfl) dX5_begin_5 ?_
  rintro _ _ ⟨ks2_5, ps2_5, rfl, rfl, ht_5⟩
  refine gg.perm (ws' := [gO h 5 [.ref tk, .ref dr, .int ra, .int rn, .int fk, .int fp], gO tk 8 [.ref c0, .ref c1, .int (nI ((TKA t n).length))], gA E c0 601 ks2_5, gA E c1 601 ps2_5, gO dr 4 [.ref a0, .ref a1, .ref a2, .ref a3, .int (nI nr), .int (nI us)], gA E a0 12 sa, gA E a1 12 sk, gA E a2 13 st, gA E a3 600 co, gO th 6 [.ref tb, .int (nI n)], gA E tb 600 t]) [0, 6, 7, 8, 1, 2, 3, 4, 5, 9, 10] (by decide) rfl ?_
  show gg E _ 2 X 0 0 8 [some (.ref h), some (.ref th)] [] [gO h 5 [.ref tk, .ref dr, .int ra, .int rn, .int fk, .int fp], gO tk 8 [.ref c0, .ref c1, .int (nI ((TKA t n).length))], gA E c0 601 ks2_5, gA E c1 601 ps2_5, gO dr 4 [.ref a0, .ref a1, .ref a2, .ref a3, .int (nI nr), .int (nI us)], gA E a0 12 sa, gA E a1 12 sk, gA E a2 13 st, gA E a3 600 co, gO th 6 [.ref tb, .int (nI n)], gA E tb 600 t]
  refine g_aload_n C dX5_begin_8 rfl ?_
  refine g_get C i_X5 0 1 f_21 rfl rfl (by decide) rfl rfl dX5_begin_9 ?_
  refine g_callV C (c_X4_clear E dr a0 a1 a2 a3 nr us sa sk st co ) gX5_begin_X4_clear rfl 0 (by decide +kernel) ⟨by decide, by decide⟩ ⟨by decide, by decide⟩ 4 rfl rfl [4, 5, 6, 7, 8] [0, 1, 2, 3, 9, 10] (wr := [gO h 5 [.ref tk, .ref dr, .int ra, .int rn, .int fk, .int fp], gO tk 8 [.ref c0, .ref c1, .int (nI ((TKA t n).length))], gA E c0 601 ks2_5, gA E c1 601 ps2_5, gO th 6 [.ref tb, .int (nI n)], gA E tb 600 t]) rfl (by decide) rfl (by decide) (by decide) rfl rfl (Nat.le_of_ble_eq_true rfl) dX5_begin_12 ?_
  rintro _ _ ⟨rfl, rfl⟩
  refine gg.perm (ws' := [gO h 5 [.ref tk, .ref dr, .int ra, .int rn, .int fk, .int fp], gO tk 8 [.ref c0, .ref c1, .int (nI ((TKA t n).length))], gA E c0 601 ks2_5, gA E c1 601 ps2_5, gO dr 4 [.ref a0, .ref a1, .ref a2, .ref a3, .int (nI 0), .int (nI 0)], gA E a0 12 sa, gA E a1 12 sk, gA E a2 13 st, gA E a3 600 co, gO th 6 [.ref tb, .int (nI n)], gA E tb 600 t]) [0, 1, 2, 3, 6, 7, 8, 9, 10, 4, 5] (by decide) rfl ?_
  show gg E _ 2 X 0 0 15 [some (.ref h), some (.ref th)] [] [gO h 5 [.ref tk, .ref dr, .int ra, .int rn, .int fk, .int fp], gO tk 8 [.ref c0, .ref c1, .int (nI ((TKA t n).length))], gA E c0 601 ks2_5, gA E c1 601 ps2_5, gO dr 4 [.ref a0, .ref a1, .ref a2, .ref a3, .int (nI 0), .int (nI 0)], gA E a0 12 sa, gA E a1 12 sk, gA E a2 13 st, gA E a3 600 co, gO th 6 [.ref tb, .int (nI n)], gA E tb 600 t]
  refine g_aload_n C dX5_begin_15 rfl ?_
  refine g_iconst (v := nI 0) C dX5_begin_16 (by decide) ?_
  refine g_put C i_X5 tyX5 tyX5_ok nmX5 0 2 f_42 rfl rfl (by decide) rfl rfl rfl rfl rfl (Nat.le_of_ble_eq_true rfl) dX5_begin_17 (ws' := [gO h 5 [.ref tk, .ref dr, .int (nI 0), .int rn, .int fk, .int fp], gO tk 8 [.ref c0, .ref c1, .int (nI ((TKA t n).length))], gA E c0 601 ks2_5, gA E c1 601 ps2_5, gO dr 4 [.ref a0, .ref a1, .ref a2, .ref a3, .int (nI 0), .int (nI 0)], gA E a0 12 sa, gA E a1 12 sk, gA E a2 13 st, gA E a3 600 co, gO th 6 [.ref tb, .int (nI n)], gA E tb 600 t]) rfl ?_
  refine g_aload_n C dX5_begin_20 rfl ?_
  refine g_aload_n C dX5_begin_21 rfl ?_
  refine g_get C i_X5 0 0 f_12 rfl rfl (by decide) rfl rfl dX5_begin_22 ?_
  refine g_get C i_X8 1 0 f_45 rfl rfl (by decide) rfl rfl dX5_begin_25 ?_
  refine g_iconst (v := nI 0) C dX5_begin_28 (by decide) ?_
  refine g_iald C 2 0 rfl rfl (by omega) (by decide) dX5_begin_29 ?_
  refine g_put C i_X5 tyX5 tyX5_ok nmX5 0 3 f_25 rfl rfl (by decide) rfl rfl rfl rfl rfl (Nat.le_of_ble_eq_true rfl) dX5_begin_30 (ws' := [gO h 5 [.ref tk, .ref dr, .int (nI 0), .int (ks2_5 0), .int fk, .int fp], gO tk 8 [.ref c0, .ref c1, .int (nI ((TKA t n).length))], gA E c0 601 ks2_5, gA E c1 601 ps2_5, gO dr 4 [.ref a0, .ref a1, .ref a2, .ref a3, .int (nI 0), .int (nI 0)], gA E a0 12 sa, gA E a1 12 sk, gA E a2 13 st, gA E a3 600 co, gO th 6 [.ref tb, .int (nI n)], gA E tb 600 t]) rfl ?_
  refine g_aload_n C dX5_begin_33 rfl ?_
  refine g_iconst (v := nI 0) C dX5_begin_34 (by decide) ?_
  refine g_put C i_X5 tyX5 tyX5_ok nmX5 0 4 f_29 rfl rfl (by decide) rfl rfl rfl rfl rfl (Nat.le_of_ble_eq_true rfl) dX5_begin_35 (ws' := [gO h 5 [.ref tk, .ref dr, .int (nI 0), .int (ks2_5 0), .int (nI 0), .int fp], gO tk 8 [.ref c0, .ref c1, .int (nI ((TKA t n).length))], gA E c0 601 ks2_5, gA E c1 601 ps2_5, gO dr 4 [.ref a0, .ref a1, .ref a2, .ref a3, .int (nI 0), .int (nI 0)], gA E a0 12 sa, gA E a1 12 sk, gA E a2 13 st, gA E a3 600 co, gO th 6 [.ref tb, .int (nI n)], gA E tb 600 t]) rfl ?_
  refine g_aload_n C dX5_begin_38 rfl ?_
  refine g_iconst (v := -1) C dX5_begin_39 (by decide) ?_
  refine g_put C i_X5 tyX5 tyX5_ok nmX5 0 5 f_32 rfl rfl (by decide) rfl rfl rfl rfl rfl (Nat.le_of_ble_eq_true rfl) dX5_begin_40 (ws' := [gO h 5 [.ref tk, .ref dr, .int (nI 0), .int (ks2_5 0), .int (nI 0), .int (-1)], gO tk 8 [.ref c0, .ref c1, .int (nI ((TKA t n).length))], gA E c0 601 ks2_5, gA E c1 601 ps2_5, gO dr 4 [.ref a0, .ref a1, .ref a2, .ref a3, .int (nI 0), .int (nI 0)], gA E a0 12 sa, gA E a1 12 sk, gA E a2 13 st, gA E a3 600 co, gO th 6 [.ref tb, .int (nI n)], gA E tb 600 t]) rfl ?_
  exact g_vret C Rt dX5_begin_43 (by decide) (by decide) (⟨ks2_5, ps2_5, rfl, rfl, ht_5⟩)

abbrev rm_c_X9_rules : Room := { frames := 31, cells := 0, slots := 0, locals := 708 }
set_option maxHeartbeats 4000000 in
set_option maxRecDepth 100000 in
theorem c_X9_rules (E : gE) (m f0 f1 f2 f3 f4 f5 f6 f7 f8 f9 f10 : Nat) (tk c0 c1 cn dr a0 a1 a2 a3 nr us : Nat) (ks ps sa sk st co : Nat → Int32) (ra rn fk fp : Int32) (tb n : Nat) (t : Nat → Int32) (hn : n ≤ 600) (hst : st 0 = nI 0) : MM E yX9_rules wsX9_rules rm_c_X9_rules [.ref m] [gO m 9 [.ref f0, .ref f1, .ref f2, .ref f3, .ref f4, .ref f5, .ref f6, .ref f7, .ref f8, .ref f9, .ref f10], gO f1 6 [.ref tb, .int (nI n)], gA E tb 600 t, gO f2 5 [.ref tk, .ref dr, .int ra, .int rn, .int fk, .int fp], gO tk 8 [.ref c0, .ref c1, .int (nI cn)], gA E c0 601 ks, gA E c1 601 ps, gO dr 4 [.ref a0, .ref a1, .ref a2, .ref a3, .int (nI nr), .int (nI us)], gA E a0 12 sa, gA E a1 12 sk, gA E a2 13 st, gA E a3 600 co] (fun rv_ ru_ => ∃ (rt : Int32) (bk2 dr2 : Nat) (ra2 rn2 fk2 fp2 : Int32) (ks2 ps2 : Nat → Int32) (nr2 us2 : Nat) (sa2 sk2 st2 co2 : Nat → Int32), rv_ = some (.int rt) ∧ ru_ = [gO m 9 [.ref f0, .ref f1, .ref f2, .ref f3, .ref f4, .ref f5, .ref f6, .ref f7, .ref f8, .ref f9, .ref bk2], gO f1 6 [.ref tb, .int (nI 0)], gA E tb 600 t, gO f2 5 [.ref tk, .ref dr2, .int ra2, .int rn2, .int fk2, .int fp2], gO tk 8 [.ref c0, .ref c1, .int (nI ((TKA t n).length))], gA E c0 601 ks2, gA E c1 601 ps2, gO dr 4 [.ref a0, .ref a1, .ref a2, .ref a3, .int (nI nr2), .int (nI us2)], gA E a0 12 sa2, gA E a1 12 sk2, gA E a2 13 st2, gA E a3 600 co2] ∧ (tkR (TKA t n) ks2 ps2) ∧ (rlQ (pRs ks2 13 0 []) ps2 (TKA t n).length f10 dr rt bk2 dr2 fk2 fp2 nr2 us2 sa2 sk2 st2 co2)) := by
  refine MM.ofG (cc := cX9_rules) (maxL := 3) (ret := (some .int)) (by decide) rfl (Nat.le_of_ble_eq_true rfl) (ll := [some (.ref m), none, none]) rfl ?_
  intro X C Rt
  have C : gx E X cX9_rules 3 wsX9_rules RX9 := C
  have i_X4 : ∀ w ∈ u_ws RX4 TX4 6, w ∈ wsX9_rules := by decide +kernel
  have i_X5 : ∀ w ∈ u_ws RX5 TX5 6, w ∈ wsX9_rules := by decide +kernel
  have i_X6 : ∀ w ∈ u_ws RX6 TX6 2, w ∈ wsX9_rules := by decide +kernel
  have i_X9 : ∀ w ∈ u_ws RX9 TX9 11, w ∈ wsX9_rules := by decide +kernel
  have f_113 : Cond.fieldLink RX9 113 "MarkPages$Tape" "count" "I" ∈ wsX9_rules := by decide +kernel
  have f_125 : Cond.fieldLink RX9 125 "MarkPages$RuleReader" "now" "I" ∈ wsX9_rules := by decide +kernel
  have f_132 : Cond.fieldLink RX9 132 "MarkPages$RuleReader" "draft" "LMarkPages$RuleBook;" ∈ wsX9_rules := by decide +kernel
  have f_135 : Cond.fieldLink RX9 135 "MarkPages$RuleBook" "count" "I" ∈ wsX9_rules := by decide +kernel
  have f_19 : Cond.fieldLink RX9 19 "MarkPages" "tape" "LMarkPages$Tape;" ∈ wsX9_rules := by decide +kernel
  have f_26 : Cond.fieldLink RX9 26 "MarkPages" "reader" "LMarkPages$RuleReader;" ∈ wsX9_rules := by decide +kernel
  have f_74 : Cond.fieldLink RX9 74 "MarkPages" "book" "LMarkPages$RuleBook;" ∈ wsX9_rules := by decide +kernel
  refine g_aload_n C dX9_rules_0 rfl ?_
  refine g_get C i_X9 0 2 f_26 rfl rfl (by decide) rfl rfl dX9_rules_1 ?_
  refine g_aload_n C dX9_rules_4 rfl ?_
  refine g_get C i_X9 0 1 f_19 rfl rfl (by decide) rfl rfl dX9_rules_5 ?_
  refine g_callV C (c_X5_begin E f2 tk c0 c1 cn dr a0 a1 a2 a3 nr us ks ps sa sk st co ra rn fk fp f1 tb n t (by omega)) gX9_rules_X5_begin rfl 1 (by decide +kernel) ⟨by decide, by decide⟩ ⟨by decide, by decide⟩ 3 rfl rfl [3, 4, 5, 6, 7, 8, 9, 10, 11, 1, 2] [0] (wr := [gO m 9 [.ref f0, .ref f1, .ref f2, .ref f3, .ref f4, .ref f5, .ref f6, .ref f7, .ref f8, .ref f9, .ref f10]]) rfl (by decide) rfl (by decide) (by decide) rfl rfl (Nat.le_of_ble_eq_true rfl) dX9_rules_8 ?_
  rintro _ _ ⟨ks2_8, ps2_8, rfl, rfl, ht_8⟩
  refine gg.perm (ws' := [gO m 9 [.ref f0, .ref f1, .ref f2, .ref f3, .ref f4, .ref f5, .ref f6, .ref f7, .ref f8, .ref f9, .ref f10], gO f1 6 [.ref tb, .int (nI n)], gA E tb 600 t, gO f2 5 [.ref tk, .ref dr, .int (nI 0), .int (ks2_8 0), .int (nI 0), .int (-1)], gO tk 8 [.ref c0, .ref c1, .int (nI ((TKA t n).length))], gA E c0 601 ks2_8, gA E c1 601 ps2_8, gO dr 4 [.ref a0, .ref a1, .ref a2, .ref a3, .int (nI 0), .int (nI 0)], gA E a0 12 sa, gA E a1 12 sk, gA E a2 13 st, gA E a3 600 co]) [0, 10, 11, 1, 2, 3, 4, 5, 6, 7, 8, 9] (by decide) rfl ?_
  show gg E _ 3 X 0 0 11 [some (.ref m), none, none] [] [gO m 9 [.ref f0, .ref f1, .ref f2, .ref f3, .ref f4, .ref f5, .ref f6, .ref f7, .ref f8, .ref f9, .ref f10], gO f1 6 [.ref tb, .int (nI n)], gA E tb 600 t, gO f2 5 [.ref tk, .ref dr, .int (nI 0), .int (ks2_8 0), .int (nI 0), .int (-1)], gO tk 8 [.ref c0, .ref c1, .int (nI ((TKA t n).length))], gA E c0 601 ks2_8, gA E c1 601 ps2_8, gO dr 4 [.ref a0, .ref a1, .ref a2, .ref a3, .int (nI 0), .int (nI 0)], gA E a0 12 sa, gA E a1 12 sk, gA E a2 13 st, gA E a3 600 co]
  have hcn := TKA_cn (t := t) hn
  have hnn := TKA_nn hn ht_8
  have hend := TKA_end ht_8
  refine g_aload_n C dX9_rules_11 rfl ?_
  refine g_get C i_X9 0 1 f_19 rfl rfl (by decide) rfl rfl dX9_rules_12 ?_
  refine g_iconst (v := nI 0) C dX9_rules_15 (by decide) ?_
  refine g_put C i_X6 tyX6 tyX6_ok nmX6 1 1 f_113 rfl rfl (by decide) rfl rfl rfl rfl rfl (Nat.le_of_ble_eq_true rfl) dX9_rules_16 (ws' := [gO m 9 [.ref f0, .ref f1, .ref f2, .ref f3, .ref f4, .ref f5, .ref f6, .ref f7, .ref f8, .ref f9, .ref f10], gO f1 6 [.ref tb, .int (nI 0)], gA E tb 600 t, gO f2 5 [.ref tk, .ref dr, .int (nI 0), .int (ks2_8 0), .int (nI 0), .int (-1)], gO tk 8 [.ref c0, .ref c1, .int (nI ((TKA t n).length))], gA E c0 601 ks2_8, gA E c1 601 ps2_8, gO dr 4 [.ref a0, .ref a1, .ref a2, .ref a3, .int (nI 0), .int (nI 0)], gA E a0 12 sa, gA E a1 12 sk, gA E a2 13 st, gA E a3 600 co]) rfl ?_
  refine g_iconst (v := nI 1) C dX9_rules_19 (by decide) ?_
  refine g_istore_n C dX9_rules_20 (by decide) rfl (ll' := [some (.ref m), some (.int (nI 1)), none]) rfl ?_
  refine g_iconst (v := nI 0) C dX9_rules_21 (by decide) ?_
  refine g_istore_n C dX9_rules_22 (by decide) rfl (ll' := [some (.ref m), some (.int (nI 1)), some (.int (nI 0))]) rfl ?_
  have L23 : ∀ (n23 : Nat) (q i1 : Nat) (L : List rT) (sa1 sk1 st1 co1 : Nat → Int32), 13 - q < n23 → (i1 < (TKA t n).length) → (q = L.length) → (bkR L sa1 sk1 st1 co1) → ((catR L).length ≤ i1) → (pRs ks2_8 13 0 [] = pRs ks2_8 (13 - q) i1 L) → (L.length ≤ 12) → gg E rm_c_X9_rules 3 X 0 0 23 [some (.ref m), some (.int (nI 1)), some (.int (nI q))] [] [gO m 9 [.ref f0, .ref f1, .ref f2, .ref f3, .ref f4, .ref f5, .ref f6, .ref f7, .ref f8, .ref f9, .ref f10], gO f1 6 [.ref tb, .int (nI 0)], gA E tb 600 t, gO f2 5 [.ref tk, .ref dr, .int (nI i1), .int (ks2_8 i1), .int (nI 0), .int (-1)], gO tk 8 [.ref c0, .ref c1, .int (nI ((TKA t n).length))], gA E c0 601 ks2_8, gA E c1 601 ps2_8, gO dr 4 [.ref a0, .ref a1, .ref a2, .ref a3, .int (nI L.length), .int (nI ((catR L).length))], gA E a0 12 sa1, gA E a1 12 sk1, gA E a2 13 st1, gA E a3 600 co1] := by
    intro n23
    induction n23 with
    | zero => intro q i1 L sa1 sk1 st1 co1 hm23; exact absurd hm23 (Nat.not_lt_zero _)
    | succ n23 ih23 =>
      intro q i1 L sa1 sk1 st1 co1 hm23 g1 g2 g3 g4 g5 g6
      refine g_iload_n C dX9_rules_23 rfl ?_
      refine g_bipush (v := nI 12) C dX9_rules_24 (by decide) ?_
      refine g_icmp_gt_n (tgt := 60) C dX9_rules_26 (by decide) (by omega) (by omega) (fun c26 => ?_) (fun c26 => ?_)
      · exact absurd c26 (by omega)
      · refine g_iload_n C dX9_rules_29 rfl ?_
        refine g_if_eq (tgt := 60) C dX9_rules_30 (by decide) (fun c30 => absurd c30 (by decide)) (fun c30 => ?_)
        refine g_aload_n C dX9_rules_33 rfl ?_
        refine g_get C i_X9 0 2 f_26 rfl rfl (by decide) rfl rfl dX9_rules_34 ?_
        refine g_get C i_X5 3 3 f_125 rfl rfl (by decide) rfl rfl dX9_rules_37 ?_
        refine g_sipush (v := nI 1011) C dX9_rules_40 (by decide) ?_
        refine g_icmp_eq (tgt := 60) C dX9_rules_43 (by decide) (fun c43 => ?_) (fun c43 => ?_)
        · refine g_iload_n C dX9_rules_60 rfl ?_
          refine g_if_ne (tgt := 66) C dX9_rules_61 (by decide) (fun c61 => ?_) (fun c61 => absurd c61 (by decide))
          refine g_aload_n C dX9_rules_66 rfl ?_
          refine g_get C i_X9 0 10 f_74 rfl rfl (by decide) rfl rfl dX9_rules_67 ?_
          refine g_astore_n C dX9_rules_70 (by decide) rfl (ll' := [some (.ref m), some (.int (nI 1)), some (.ref f10)]) rfl ?_
          refine g_aload_n C dX9_rules_71 rfl ?_
          refine g_aload_n C dX9_rules_72 rfl ?_
          refine g_get C i_X9 0 2 f_26 rfl rfl (by decide) rfl rfl dX9_rules_73 ?_
          refine g_get C i_X5 3 1 f_132 rfl rfl (by decide) rfl rfl dX9_rules_76 ?_
          refine g_put C i_X9 tyX9 tyX9_ok nmX9 0 10 f_74 rfl rfl (by decide) rfl rfl rfl rfl rfl (Nat.le_of_ble_eq_true rfl) dX9_rules_79 (ws' := [gO m 9 [.ref f0, .ref f1, .ref f2, .ref f3, .ref f4, .ref f5, .ref f6, .ref f7, .ref f8, .ref f9, .ref dr], gO f1 6 [.ref tb, .int (nI 0)], gA E tb 600 t, gO f2 5 [.ref tk, .ref dr, .int (nI i1), .int (ks2_8 i1), .int (nI 0), .int (-1)], gO tk 8 [.ref c0, .ref c1, .int (nI ((TKA t n).length))], gA E c0 601 ks2_8, gA E c1 601 ps2_8, gO dr 4 [.ref a0, .ref a1, .ref a2, .ref a3, .int (nI L.length), .int (nI ((catR L).length))], gA E a0 12 sa1, gA E a1 12 sk1, gA E a2 13 st1, gA E a3 600 co1]) rfl ?_
          refine g_aload_n C dX9_rules_82 rfl ?_
          refine g_get C i_X9 0 2 f_26 rfl rfl (by decide) rfl rfl dX9_rules_83 ?_
          refine g_aload_n C dX9_rules_86 rfl ?_
          refine g_put C i_X5 tyX5 tyX5_ok nmX5 3 1 f_132 rfl rfl (by decide) rfl rfl rfl rfl rfl (Nat.le_of_ble_eq_true rfl) dX9_rules_87 (ws' := [gO m 9 [.ref f0, .ref f1, .ref f2, .ref f3, .ref f4, .ref f5, .ref f6, .ref f7, .ref f8, .ref f9, .ref dr], gO f1 6 [.ref tb, .int (nI 0)], gA E tb 600 t, gO f2 5 [.ref tk, .ref f10, .int (nI i1), .int (ks2_8 i1), .int (nI 0), .int (-1)], gO tk 8 [.ref c0, .ref c1, .int (nI ((TKA t n).length))], gA E c0 601 ks2_8, gA E c1 601 ps2_8, gO dr 4 [.ref a0, .ref a1, .ref a2, .ref a3, .int (nI L.length), .int (nI ((catR L).length))], gA E a0 12 sa1, gA E a1 12 sk1, gA E a2 13 st1, gA E a3 600 co1]) rfl ?_
          refine g_aload_n C dX9_rules_90 rfl ?_
          refine g_get C i_X9 0 10 f_74 rfl rfl (by decide) rfl rfl dX9_rules_91 ?_
          refine g_get C i_X4 7 4 f_135 rfl rfl (by decide) rfl rfl dX9_rules_94 ?_
          exact g_iret C Rt dX9_rules_97 (by decide) (by decide) (⟨_, _, _, _, _, _, _, _, _, _, _, _, _, _, _, rfl, rfl, ht_8, rlQ_ok (by rw [g5, show 13 - q = 12 - q + 1 by omega, pRs, if_pos c43]) g3 (by omega) (by omega)⟩)
        · refine g_aload_n C dX9_rules_46 rfl ?_
          refine g_get C i_X9 0 2 f_26 rfl rfl (by decide) rfl rfl dX9_rules_47 ?_
          refine g_callV C (c_X5_readRule E f2 tk c0 c1 ((TKA t n).length) dr a0 a1 a2 a3 L.length ((catR L).length) i1 ks2_8 ps2_8 sa1 sk1 st1 co1 (nI 0) (-1) (g1) (hcn.2) (hend) (by omega) (g4) (hnn)) gX9_rules_X5_readRule rfl 0 (by decide +kernel) ⟨by decide, by decide⟩ ⟨by decide, by decide⟩ 3 rfl rfl [3, 4, 5, 6, 7, 8, 9, 10, 11] [0, 1, 2] (wr := [gO m 9 [.ref f0, .ref f1, .ref f2, .ref f3, .ref f4, .ref f5, .ref f6, .ref f7, .ref f8, .ref f9, .ref f10], gO f1 6 [.ref tb, .int (nI 0)], gA E tb 600 t]) rfl (by decide) rfl (by decide) (by decide) rfl rfl (Nat.le_of_ble_eq_true rfl) dX9_rules_50 ?_
          rintro _ _ ⟨ok_50, j_50, us2_50, nr2_50, sa2_50, sk2_50, st2_50, co2_50, fk2_50, fp2_50, rfl, rfl, hq_50⟩
          show gg E _ 3 X 0 0 53 [some (.ref m), some (.int (nI 1)), some (.int (nI q))] [.int (b2i ok_50)] [gO m 9 [.ref f0, .ref f1, .ref f2, .ref f3, .ref f4, .ref f5, .ref f6, .ref f7, .ref f8, .ref f9, .ref f10], gO f1 6 [.ref tb, .int (nI 0)], gA E tb 600 t, gO f2 5 [.ref tk, .ref dr, .int (nI j_50), .int (ks2_8 j_50), .int fk2_50, .int fp2_50], gO tk 8 [.ref c0, .ref c1, .int (nI ((TKA t n).length))], gA E c0 601 ks2_8, gA E c1 601 ps2_8, gO dr 4 [.ref a0, .ref a1, .ref a2, .ref a3, .int (nI nr2_50), .int (nI us2_50)], gA E a0 12 sa2_50, gA E a1 12 sk2_50, gA E a2 13 st2_50, gA E a3 600 co2_50]
          rcases rdR_two hq_50 with ⟨sy, s, D1, hr, rfl, rfl, rfl, rfl, e12, rfl, rfl, rfl, rfl, rfl, b1, b2, b3⟩ | ⟨kd, ix, hr, rfl, rfl, rfl, b1, b2, b3, b4, b5⟩
          · refine g_istore_n C dX9_rules_53 (by decide) rfl (ll' := [some (.ref m), some (.int (nI 1)), some (.int (nI q))]) rfl ?_
            have e1 : L.length + 1 = (L ++ [(sy, s, D1)]).length := by rw [List.length_append]; rfl
            have e2 : (catR L).length + D1.length = (catR (L ++ [(sy, s, D1)])).length := by rw [catR_snoc, List.length_append]
            have e3 := g3.snoc sy s D1
            rw [e1, e2]
            rw [e1, e2] at e3
            refine g_iinc_n (y := 1) C dX9_rules_54 rfl (by decide) (by decide) rfl (ll' := [some (.ref m), some (.int (nI 1)), some (.int (nI (q + 1)))]) rfl ?_
            refine g_goto (tgt := 23) C dX9_rules_57 (by decide) ?_
            exact ih23 (q + 1) j_50 (L ++ [(sy, s, D1)]) (upd sa1 L.length sy) (upd sk1 L.length s) (upd st1 (L ++ [(sy, s, D1)]).length (nI (catR (L ++ [(sy, s, D1)])).length)) (cdW co1 (catR L).length D1) (by omega) (b2) (by omega) (e3) (by omega) (by rw [g5, show 13 - q = 13 - (q + 1) + 1 by omega, pRs, if_neg c43, hr]) (by omega)
          · refine g_istore_n C dX9_rules_53 (by decide) rfl (ll' := [some (.ref m), some (.int (nI 0)), some (.int (nI q))]) rfl ?_
            refine g_iinc_n (y := 1) C dX9_rules_54 rfl (by decide) (by decide) rfl (ll' := [some (.ref m), some (.int (nI 0)), some (.int (nI (q + 1)))]) rfl ?_
            refine g_goto (tgt := 23) C dX9_rules_57 (by decide) ?_
            refine g_iload_n C dX9_rules_23 rfl ?_
            refine g_bipush (v := nI 12) C dX9_rules_24 (by decide) ?_
            refine g_icmp_gt_n (tgt := 60) C dX9_rules_26 (by decide) (by omega) (by omega) (fun c26 => ?_) (fun c26 => ?_)
            · refine g_iload_n C dX9_rules_60 rfl ?_
              refine g_if_ne (tgt := 66) C dX9_rules_61 (by decide) (fun c61 => absurd c61 (by decide)) (fun c61 => ?_)
              refine g_iconst (v := -1) C dX9_rules_64 (by decide) ?_
              exact g_iret C Rt dX9_rules_65 (by decide) (by decide) (⟨_, _, _, _, _, _, _, _, _, _, _, _, _, _, _, rfl, rfl, ht_8, rlQ_er (by rw [g5, show 13 - q = 12 - q + 1 by omega, pRs, if_neg c43, hr]) b4 (by rw [b5]; exact g3.2.1 0 (Nat.zero_le _))⟩)
            · refine g_iload_n C dX9_rules_29 rfl ?_
              refine g_if_eq (tgt := 60) C dX9_rules_30 (by decide) (fun c30 => ?_) (fun c30 => absurd c30 (by decide))
              refine g_iload_n C dX9_rules_60 rfl ?_
              refine g_if_ne (tgt := 66) C dX9_rules_61 (by decide) (fun c61 => absurd c61 (by decide)) (fun c61 => ?_)
              refine g_iconst (v := -1) C dX9_rules_64 (by decide) ?_
              exact g_iret C Rt dX9_rules_65 (by decide) (by decide) (⟨_, _, _, _, _, _, _, _, _, _, _, _, _, _, _, rfl, rfl, ht_8, rlQ_er (by rw [g5, show 13 - q = 12 - q + 1 by omega, pRs, if_neg c43, hr]) b4 (by rw [b5]; exact g3.2.1 0 (Nat.zero_le _))⟩)
  exact L23 _ 0 0 ([]) sa sk st co (Nat.lt_succ_self _) (hcn.1) (rfl) (bkR.nil hst) (Nat.le_refl _) (rfl) (by decide)

