/-! THE REFERENCE'S READING of a condition, by how many more may be open -/
def tkLs : List Nat := [1000, 1001, 1002, 1003, 1004, 1005, 1006, 1007, 1008, 1009, 1010, 1011, 1012, 1140, 1141, 1143, 1145, 1159, 1160, 1161, 1162]
def tkC (x : Int32) : Prop := (∃ v, v ≤ 999 ∧ x = nI v) ∨ (∃ v, v ∈ tkLs ∧ x = nI v)
theorem tkT_num {x : Int32} (h : ¬ nI 999 < x) : tkT x = nI 2 := if_pos h
theorem tkT_iff {x : Int32} (h : tkC x) (c k : Nat) (h1 : ¬ nI 2 = nI c) (h2 : 999 < k ∧ k < 2147483648) (h3 : ∀ v ∈ tkLs, (tkT (nI v) = nI c ↔ nI v = nI k)) : tkT x = nI c ↔ x = nI k := by
  rcases h with ⟨v, v1, rfl⟩ | ⟨v, v1, rfl⟩
  · rw [tkT_num (nI_nlt (by omega) (by decide)), nI_eq (a := v) (by omega) (by omega)]
    exact ⟨fun z => absurd z h1, fun z => by omega⟩
  · exact h3 v v1
theorem tq0 {x : Int32} (h : tkC x) : tkT x = nI 0 ↔ x = nI 1011 := tkT_iff h 0 1011 (by decide) (by decide) (by decide)
theorem tq3 {x : Int32} (h : tkC x) : tkT x = nI 3 ↔ x = nI 1000 := tkT_iff h 3 1000 (by decide) (by decide) (by decide)
theorem tq4 {x : Int32} (h : tkC x) : tkT x = nI 4 ↔ x = nI 1001 := tkT_iff h 4 1001 (by decide) (by decide) (by decide)
theorem tq5 {x : Int32} (h : tkC x) : tkT x = nI 5 ↔ x = nI 1002 := tkT_iff h 5 1002 (by decide) (by decide) (by decide)
theorem tq6 {x : Int32} (h : tkC x) : tkT x = nI 6 ↔ x = nI 1003 := tkT_iff h 6 1003 (by decide) (by decide) (by decide)
theorem tq7 {x : Int32} (h : tkC x) : tkT x = nI 7 ↔ x = nI 1004 := tkT_iff h 7 1004 (by decide) (by decide) (by decide)
theorem tq8 {x : Int32} (h : tkC x) : tkT x = nI 8 ↔ x = nI 1005 := tkT_iff h 8 1005 (by decide) (by decide) (by decide)
theorem tq40 {x : Int32} (h : tkC x) : tkT x = nI 40 ↔ x = nI 1140 := tkT_iff h 40 1140 (by decide) (by decide) (by decide)
theorem tq41 {x : Int32} (h : tkC x) : tkT x = nI 41 ↔ x = nI 1141 := tkT_iff h 41 1141 (by decide) (by decide) (by decide)
theorem tq43 {x : Int32} (h : tkC x) : tkT x = nI 43 ↔ x = nI 1143 := tkT_iff h 43 1143 (by decide) (by decide) (by decide)
theorem tq45 {x : Int32} (h : tkC x) : tkT x = nI 45 ↔ x = nI 1145 := tkT_iff h 45 1145 (by decide) (by decide) (by decide)
theorem tq59 {x : Int32} (h : tkC x) : tkT x = nI 59 ↔ x = nI 1159 := tkT_iff h 59 1159 (by decide) (by decide) (by decide)
theorem tq60 {x : Int32} (h : tkC x) : tkT x = nI 60 ↔ x = nI 1160 := tkT_iff h 60 1160 (by decide) (by decide) (by decide)
theorem tq61 {x : Int32} (h : tkC x) : tkT x = nI 61 ↔ x = nI 1161 := tkT_iff h 61 1161 (by decide) (by decide) (by decide)
theorem tq62 {x : Int32} (h : tkC x) : tkT x = nI 62 ↔ x = nI 1162 := tkT_iff h 62 1162 (by decide) (by decide) (by decide)
theorem tq2 {x : Int32} (h : tkC x) : tkT x = nI 2 ↔ ¬ nI 999 < x := by
  rcases h with ⟨v, v1, rfl⟩ | ⟨v, v1, rfl⟩
  · have := nI_nlt (a := 999) (b := v) v1 (by decide)
    exact ⟨fun _ => this, fun _ => tkT_num this⟩
  · revert v1 v; decide
theorem isV_tk {x : Int32} (h : tkC x) : isV x = true ↔ (tkT x = nI 2 ∨ nI 1001 ≤ tkT x) := by
  rcases h with ⟨v, v1, rfl⟩ | ⟨v, v1, rfl⟩
  · have := nI_nlt (a := 999) (b := v) v1 (by decide)
    refine ⟨fun _ => Or.inl (tkT_num this), fun _ => ?_⟩
    rw [isV, decide_eq_true_iff]; exact Or.inl this
  · revert v1 v; decide
theorem tk_mea {x : Int32} (h : tkC x) (h1 : nI 1001 ≤ tkT x) : tkT x = trJ x := by
  rcases h with ⟨v, v1, rfl⟩ | ⟨v, v1, rfl⟩
  · rw [tkT_num (nI_nlt (by omega) (by decide))] at h1
    exact absurd h1 (by decide)
  · revert v1 v; decide
theorem trJ_num {x : Int32} (h : ¬ nI 999 < x) : trJ x = x := if_pos h
def twL (t : Nat → Int32) (n cn : Nat) (ks ps : Nat → Int32) (en : Nat → Nat) : Prop := ∀ i, i + 1 < cn → en i ≤ n ∧ ks (i + 1) = nxK t n (enR t n 0 (en i)) ∧ ps (i + 1) = nI (enR t n 0 (en i)) ∧ en (i + 1) = nxE t n (enR t n 0 (en i))
def trR (r : pR) : pR := match r with
  | .error e => .error e
  | .ok (j, C) => .ok (j, C.map trJ)
theorem rdT_ok {r : pR} {ps : Nat → Int32} {cn i us : Nat} {co : Nat → Int32} {fk fp : Int32} {j us2 : Nat} {co2 : Nat → Int32} {C : List Int32} (hr : r = .ok (j, C)) (h1 : i ≤ j) (h2 : j < cn) (h3 : us2 + i ≤ us + j) (h4 : us2 = us + C.length) (h5 : co2 = cdW co us (C.map trJ)) : rdQ (trR r) ps cn i us co fk fp true j us2 co2 fk fp := by
  subst hr
  exact rdQ_ok rfl h1 h2 h3 (by rw [List.length_map]; exact h4) h5
theorem rdT_er {r : pR} {ps : Nat → Int32} {cn i us : Nat} {co : Nat → Int32} {fk fp : Int32} {j us2 : Nat} {co2 : Nat → Int32} {kd ix : Nat} (hr : r = .error (kd, ix)) (h1 : i ≤ j) (h2 : j < cn) (h3 : us2 + i ≤ us + j) (h4 : ix < cn) : rdQ (trR r) ps cn i us co fk fp false j us2 co2 (nI kd) (ps ix) := by
  subst hr
  exact rdQ_er rfl h1 h2 h3 h4
theorem rdT_two {r : pR} {ps : Nat → Int32} {cn i us : Nat} {co : Nat → Int32} {fk fp : Int32} {ok : Bool} {j us2 : Nat} {co2 : Nat → Int32} {fk2 fp2 : Int32} (h : rdQ (trR r) ps cn i us co fk fp ok j us2 co2 fk2 fp2) :
    (∃ C, r = .ok (j, C) ∧ true = ok ∧ us + C.length = us2 ∧ cdW co us (C.map trJ) = co2 ∧ fk = fk2 ∧ fp = fp2 ∧ i ≤ j ∧ j < cn ∧ us + C.length + i ≤ us + j) ∨ (∃ kd ix, r = .error (kd, ix) ∧ false = ok ∧ nI kd = fk2 ∧ ps ix = fp2 ∧ i ≤ j ∧ j < cn ∧ us2 + i ≤ us + j ∧ ix < cn) := by
  match r, h with
  | .ok (j', C), h =>
    rcases rdQ_tw h with ⟨C', a1, a2, a3, a4, a5, a6, a7, a8, a9⟩ | ⟨kd, ix, a1, _⟩
    · cases a1
      rw [List.length_map] at a3 a9
      exact Or.inl ⟨C, rfl, a2, a3, a4, a5, a6, a7, a8, a9⟩
    · cases a1
  | .error (kd', ix'), h =>
    rcases rdQ_tw h with ⟨C', a1, _⟩ | ⟨kd, ix, a1, a2, a3, a4, a5, a6, a7, a8⟩
    · cases a1
    · cases a1
      exact Or.inr ⟨_, _, rfl, a2, a3, a4, a5, a6, a7, a8⟩
theorem cd3T (co : Nat → Int32) (u : Nat) (C D : List Int32) (x y : Int32) (h : trJ x = y) : upd (cdW (cdW co u (C.map trJ)) (u + C.length) (D.map trJ)) (u + C.length + D.length) y = cdW co u ((C ++ D ++ [x]).map trJ) := by
  rw [List.map_append, List.map_append, List.map_cons, List.map_nil, h, ← cd3, List.length_map, List.length_map]
theorem cd2T (co : Nat → Int32) (u : Nat) (C : List Int32) (x y : Int32) (h : trJ x = y) : upd (cdW co u (C.map trJ)) (u + C.length) y = cdW co u ((C ++ [x]).map trJ) := by
  rw [List.map_append, List.map_cons, List.map_nil, h, cdW_snoc, List.length_map]
/-- behind a value: more of the sum, or its end -/
def suN (K : Nat → Int32) (f j : Nat) (C : List Int32) : pR := if K j = nI 1143 ∨ K j = nI 1145 then suL K f (j + 1) (K j) C else .ok (j, C)
theorem suL_y {K : Nat → Int32} {f i : Nat} {s : Int32} {C : List Int32} (h : isV (K i) = true) : suL K (f + 1) i s C = suN K f (i + 1) (C ++ [K i] ++ sgL s) := by rw [suL, if_pos h]; rfl
theorem suL_n {K : Nat → Int32} {f i : Nat} {s : Int32} {C : List Int32} (h : ¬ isV (K i) = true) : suL K (f + 1) i s C = .error (1, i) := by rw [suL, if_neg h]
theorem sgL_y {s : Int32} (h : ¬ s = nI 1012) : sgL s = [s] := if_neg h

abbrev rm_c_X10_nextT : Room := { frames := 2, cells := 0, slots := 0, locals := 42 }
theorem c_X10_nextT (E : gE) (h : Nat) (ad : Nat → Nat) (iv : Nat → Int32) (n cn i : Nat) (en : Nat → Nat) (ks ps t : Nat → Int32) (tok0 ta0 vl0 : Int32) (hn : n ≤ 600) (hb : okY t n) (hL : twL t n cn ks ps en) (hi : i + 1 < cn) : MM E yX10_next0 wsX10_next0 rm_c_X10_nextT [.ref h] [gO h 10 (tF ad (upd (upd (upd (upd (upd iv 18 (nI n)) 19 (nI (en i))) 20 tok0) 21 ta0) 22 vl0)), gA E (ad 17) 600 t] (fun rv_ ru_ => ∃ (vl2 : Int32), rv_ = none ∧ ru_ = [gO h 10 (tF ad (upd (upd (upd (upd (upd iv 18 (nI n)) 19 (nI (en (i + 1)))) 20 (tkT (ks (i + 1)))) 21 (ps (i + 1))) 22 vl2)), gA E (ad 17) 600 t] ∧ (¬ nI 999 < ks (i + 1) → vl2 = ks (i + 1))) := by
  obtain ⟨q1, q2, q3, q4⟩ := hL i hi
  refine (c_X10_next0 E h ad iv n (en i) tok0 ta0 vl0 t hn q1 hb).post ?_
  rintro v u ⟨a, r, tok, vl, rfl, rfl, h1, h2, h3, h4⟩
  subst h1
  rw [← q2] at h3 h4
  refine ⟨vl, rfl, ?_, h4⟩
  rw [h2, h3, q4, q3]

abbrev rm_c_X10_nextZ : Room := { frames := 2, cells := 0, slots := 0, locals := 42 }
theorem c_X10_nextZ (E : gE) (h : Nat) (ad : Nat → Nat) (iv : Nat → Int32) (n cn : Nat) (en : Nat → Nat) (ks ps t : Nat → Int32) (tok0 ta0 vl0 : Int32) (hn : n ≤ 600) (hb : okY t n) (h0 : ks 0 = nxK t n (enR t n 0 0) ∧ ps 0 = nI (enR t n 0 0) ∧ en 0 = nxE t n (enR t n 0 0)) : MM E yX10_next0 wsX10_next0 rm_c_X10_nextZ [.ref h] [gO h 10 (tF ad (upd (upd (upd (upd (upd iv 18 (nI n)) 19 (nI 0)) 20 tok0) 21 ta0) 22 vl0)), gA E (ad 17) 600 t] (fun rv_ ru_ => ∃ (vl2 : Int32), rv_ = none ∧ ru_ = [gO h 10 (tF ad (upd (upd (upd (upd (upd iv 18 (nI n)) 19 (nI (en 0))) 20 (tkT (ks 0))) 21 (ps 0)) 22 vl2)), gA E (ad 17) 600 t] ∧ (¬ nI 999 < ks 0 → vl2 = ks 0)) := by
  obtain ⟨q2, q3, q4⟩ := h0
  refine (c_X10_next0 E h ad iv n 0 tok0 ta0 vl0 t hn (Nat.zero_le n) hb).post ?_
  rintro v u ⟨a, r, tok, vl, rfl, rfl, h1, h2, h3, h4⟩
  subst h1
  rw [← q2] at h3 h4
  refine ⟨vl, rfl, ?_, h4⟩
  rw [h2, h3, q4, q3]

abbrev rm_c_X10_bad : Room := { frames := 0, cells := 0, slots := 0, locals := 0 }
set_option maxHeartbeats 4000000 in
set_option maxRecDepth 100000 in
theorem c_X10_bad (E : gE) (h : Nat) (ad : Nat → Nat) (iv : Nat → Int32) (k : Nat) (ta wr wa : Int32)  : MM E yX10_bad wsX10_bad rm_c_X10_bad [.ref h, .int (nI k)] [gO h 10 (tF ad (upd (upd (upd iv 21 ta) 23 wr) 24 wa))] (fun rv_ ru_ => rv_ = some (.int (nI 0)) ∧ ru_ = [gO h 10 (tF ad (upd (upd (upd iv 21 ta) 23 (nI k)) 24 ta))]) := by
  refine MM.ofG (cc := cX10_bad) (maxL := 2) (ret := (some .boolean)) (by decide) rfl (Nat.le_of_ble_eq_true rfl) (ll := [some (.ref h), some (.int (nI k))]) rfl ?_
  intro X C Rt
  have C : gx E X cX10_bad 2 wsX10_bad RX10 := C
  have i_X10 : ∀ w ∈ u_ws RX10 TX10 40, w ∈ wsX10_bad := by decide +kernel
  have f_151 : Cond.fieldLink RX10 151 "MarkPagesModel" "tokenAt" "I" ∈ wsX10_bad := by decide +kernel
  have f_170 : Cond.fieldLink RX10 170 "MarkPagesModel" "wrong" "I" ∈ wsX10_bad := by decide +kernel
  have f_173 : Cond.fieldLink RX10 173 "MarkPagesModel" "wrongAt" "I" ∈ wsX10_bad := by decide +kernel
  refine g_aload_n C dX10_bad_0 rfl ?_
  refine g_iload_n C dX10_bad_1 rfl ?_
  refine g_put C i_X10 tyX10 tyX10_ok nmX10 0 23 f_170 rfl rfl (by decide) rfl rfl rfl rfl rfl (Nat.le_of_ble_eq_true rfl) dX10_bad_2 (ws' := [gO h 10 (tF ad (upd (upd (upd iv 21 ta) 23 (nI k)) 24 wa))]) rfl ?_
  refine g_aload_n C dX10_bad_5 rfl ?_
  refine g_aload_n C dX10_bad_6 rfl ?_
  refine g_get C i_X10 0 21 f_151 rfl rfl (by decide) rfl rfl dX10_bad_7 ?_
  refine g_put C i_X10 tyX10 tyX10_ok nmX10 0 24 f_173 rfl rfl (by decide) rfl rfl rfl rfl rfl (Nat.le_of_ble_eq_true rfl) dX10_bad_10 (ws' := [gO h 10 (tF ad (upd (upd (upd iv 21 ta) 23 (nI k)) 24 ta))]) rfl ?_
  refine g_iconst (v := nI 0) C dX10_bad_13 (by decide) ?_
  exact g_zret C Rt dX10_bad_14 (by decide) (by decide) (by decide) (⟨rfl, rfl⟩)

abbrev rm_c_X10_need_y : Room := { frames := 3, cells := 0, slots := 0, locals := 66 }
set_option maxHeartbeats 4000000 in
set_option maxRecDepth 100000 in
theorem c_X10_need_y (E : gE) (h : Nat) (ad : Nat → Nat) (iv : Nat → Int32) (n cn i c : Nat) (en : Nat → Nat) (ks ps t : Nat → Int32) (vl wr wa : Int32) (hn : n ≤ 600) (hb : okY t n) (hL : twL t n cn ks ps en) (hi : i + 1 < cn) (hx : tkT (ks i) = nI c) : MM E yX10_need wsX10_need rm_c_X10_need_y [.ref h, .int (nI c)] [gO h 10 (tF ad (upd (upd (upd (upd (upd (upd (upd iv 18 (nI n)) 19 (nI (en i))) 20 (tkT (ks i))) 21 (ps i)) 22 vl) 23 wr) 24 wa)), gA E (ad 17) 600 t] (fun rv_ ru_ => ∃ (vl2 : Int32), rv_ = some (.int (nI 1)) ∧ ru_ = [gO h 10 (tF ad (upd (upd (upd (upd (upd (upd (upd iv 18 (nI n)) 19 (nI (en (i + 1)))) 20 (tkT (ks (i + 1)))) 21 (ps (i + 1))) 22 vl2) 23 wr) 24 wa)), gA E (ad 17) 600 t] ∧ (¬ nI 999 < ks (i + 1) → vl2 = ks (i + 1))) := by
  refine MM.ofG (cc := cX10_need) (maxL := 2) (ret := (some .boolean)) (by decide) rfl (Nat.le_of_ble_eq_true rfl) (ll := [some (.ref h), some (.int (nI c))]) rfl ?_
  intro X C Rt
  have C : gx E X cX10_need 2 wsX10_need RX10 := C
  have i_X10 : ∀ w ∈ u_ws RX10 TX10 40, w ∈ wsX10_need := by decide +kernel
  have f_154 : Cond.fieldLink RX10 154 "MarkPagesModel" "token" "I" ∈ wsX10_need := by decide +kernel
  refine g_aload_n C dX10_need_0 rfl ?_
  refine g_get C i_X10 0 20 f_154 rfl rfl (by decide) rfl rfl dX10_need_1 ?_
  refine g_iload_n C dX10_need_4 rfl ?_
  refine g_icmp_eq (tgt := 14) C dX10_need_5 (by decide) (fun c5 => ?_) (fun c5 => ?_)
  · refine g_aload_n C dX10_need_14 rfl ?_
    refine g_callV C (c_X10_nextT E h ad (upd (upd iv 23 wr) 24 wa) n cn i en ks ps t (tkT (ks i)) (ps i) vl (by omega) (hb) (hL) (hi)) gX10_need_X10_next0 rfl 0 (by decide +kernel) ⟨by decide, by decide⟩ ⟨by decide, by decide⟩ 0 rfl rfl [0, 1] [] (wr := []) rfl (by decide) rfl (by decide) (by decide) rfl rfl (Nat.le_of_ble_eq_true rfl) dX10_need_15 ?_
    rintro _ _ ⟨vl2_15, rfl, rfl, hv_15⟩
    show gg E _ 2 X 0 0 18 [some (.ref h), some (.int (nI c))] [] [gO h 10 (tF ad (upd (upd (upd (upd (upd (upd (upd iv 18 (nI n)) 19 (nI (en (i + 1)))) 20 (tkT (ks (i + 1)))) 21 (ps (i + 1))) 22 vl2_15) 23 wr) 24 wa)), gA E (ad 17) 600 t]
    refine g_iconst (v := nI 1) C dX10_need_18 (by decide) ?_
    exact g_zret C Rt dX10_need_19 (by decide) (by decide) (by decide) (⟨_, rfl, rfl, hv_15⟩)
  · exact absurd hx c5

abbrev rm_c_X10_need_n : Room := { frames := 3, cells := 0, slots := 0, locals := 66 }
set_option maxHeartbeats 4000000 in
set_option maxRecDepth 100000 in
theorem c_X10_need_n (E : gE) (h : Nat) (ad : Nat → Nat) (iv : Nat → Int32) (n cn i c : Nat) (en : Nat → Nat) (ks ps t : Nat → Int32) (vl wr wa : Int32) (hx : ¬ tkT (ks i) = nI c) : MM E yX10_need wsX10_need rm_c_X10_need_n [.ref h, .int (nI c)] [gO h 10 (tF ad (upd (upd (upd (upd (upd (upd (upd iv 18 (nI n)) 19 (nI (en i))) 20 (tkT (ks i))) 21 (ps i)) 22 vl) 23 wr) 24 wa)), gA E (ad 17) 600 t] (fun rv_ ru_ => rv_ = some (.int (nI 0)) ∧ ru_ = [gO h 10 (tF ad (upd (upd (upd (upd (upd (upd (upd iv 18 (nI n)) 19 (nI (en i))) 20 (tkT (ks i))) 21 (ps i)) 22 vl) 23 (nI 1)) 24 (ps i))), gA E (ad 17) 600 t]) := by
  refine MM.ofG (cc := cX10_need) (maxL := 2) (ret := (some .boolean)) (by decide) rfl (Nat.le_of_ble_eq_true rfl) (ll := [some (.ref h), some (.int (nI c))]) rfl ?_
  intro X C Rt
  have C : gx E X cX10_need 2 wsX10_need RX10 := C
  have i_X10 : ∀ w ∈ u_ws RX10 TX10 40, w ∈ wsX10_need := by decide +kernel
  have f_154 : Cond.fieldLink RX10 154 "MarkPagesModel" "token" "I" ∈ wsX10_need := by decide +kernel
  refine g_aload_n C dX10_need_0 rfl ?_
  refine g_get C i_X10 0 20 f_154 rfl rfl (by decide) rfl rfl dX10_need_1 ?_
  refine g_iload_n C dX10_need_4 rfl ?_
  refine g_icmp_eq (tgt := 14) C dX10_need_5 (by decide) (fun c5 => ?_) (fun c5 => ?_)
  · exact absurd c5 hx
  · refine g_aload_n C dX10_need_8 rfl ?_
    refine g_iconst (v := nI 1) C dX10_need_9 (by decide) ?_
    refine g_callV C (c_X10_bad E h ad (upd (upd (upd (upd iv 18 (nI n)) 19 (nI (en i))) 20 (tkT (ks i))) 22 vl) 1 (ps i) wr wa ) gX10_need_X10_bad rfl 1 (by decide +kernel) ⟨by decide, by decide⟩ ⟨by decide, by decide⟩ 0 rfl rfl [0] [1] (wr := [gA E (ad 17) 600 t]) rfl (by decide) rfl (by decide) (by decide) rfl rfl (Nat.le_of_ble_eq_true rfl) dX10_need_10 ?_
    rintro _ _ ⟨rfl, rfl⟩
    refine gg.perm (ws' := [gO h 10 (tF ad (upd (upd (upd (upd (upd (upd (upd iv 18 (nI n)) 19 (nI (en i))) 20 (tkT (ks i))) 21 (ps i)) 22 vl) 23 (nI 1)) 24 (ps i))), gA E (ad 17) 600 t]) [1, 0] (by decide) rfl ?_
    show gg E _ 2 X 0 0 13 [some (.ref h), some (.int (nI c))] [.int (nI 0)] [gO h 10 (tF ad (upd (upd (upd (upd (upd (upd (upd iv 18 (nI n)) 19 (nI (en i))) 20 (tkT (ks i))) 21 (ps i)) 22 vl) 23 (nI 1)) 24 (ps i))), gA E (ad 17) 600 t]
    exact g_zret C Rt dX10_need_13 (by decide) (by decide) (by decide) (⟨rfl, rfl⟩)

abbrev rm_c_X10_aNumber_y : Room := { frames := 3, cells := 0, slots := 0, locals := 66 }
set_option maxHeartbeats 4000000 in
set_option maxRecDepth 100000 in
theorem c_X10_aNumber_y (E : gE) (h : Nat) (ad : Nat → Nat) (iv : Nat → Int32) (n cn i m : Nat) (en : Nat → Nat) (ks ps t : Nat → Int32) (vl wr wa : Int32) (nu : Int32) (hn : n ≤ 600) (hb : okY t n) (hL : twL t n cn ks ps en) (hi : i + 1 < cn) (hk : tkC (ks i)) (hv0 : ¬ nI 999 < ks i → vl = ks i) (h1 : ¬ nI 999 < ks i) (h2 : ¬ nI m < ks i) : MM E yX10_aNumber wsX10_aNumber rm_c_X10_aNumber_y [.ref h, .int (nI m)] [gO h 10 (tF ad (upd (upd (upd (upd (upd (upd (upd (upd iv 18 (nI n)) 19 (nI (en i))) 20 (tkT (ks i))) 21 (ps i)) 22 vl) 23 wr) 24 wa) 27 nu)), gA E (ad 17) 600 t] (fun rv_ ru_ => ∃ (vl2 : Int32), rv_ = some (.int (nI 1)) ∧ ru_ = [gO h 10 (tF ad (upd (upd (upd (upd (upd (upd (upd (upd iv 18 (nI n)) 19 (nI (en (i + 1)))) 20 (tkT (ks (i + 1)))) 21 (ps (i + 1))) 22 vl2) 23 wr) 24 wa) 27 (ks i))), gA E (ad 17) 600 t] ∧ (¬ nI 999 < ks (i + 1) → vl2 = ks (i + 1))) := by
  refine MM.ofG (cc := cX10_aNumber) (maxL := 2) (ret := (some .boolean)) (by decide) rfl (Nat.le_of_ble_eq_true rfl) (ll := [some (.ref h), some (.int (nI m))]) rfl ?_
  intro X C Rt
  have C : gx E X cX10_aNumber 2 wsX10_aNumber RX10 := C
  have i_X10 : ∀ w ∈ u_ws RX10 TX10 40, w ∈ wsX10_aNumber := by decide +kernel
  have f_154 : Cond.fieldLink RX10 154 "MarkPagesModel" "token" "I" ∈ wsX10_aNumber := by decide +kernel
  have f_167 : Cond.fieldLink RX10 167 "MarkPagesModel" "value" "I" ∈ wsX10_aNumber := by decide +kernel
  have f_182 : Cond.fieldLink RX10 182 "MarkPagesModel" "number" "I" ∈ wsX10_aNumber := by decide +kernel
  refine g_aload_n C dX10_aNumber_0 rfl ?_
  refine g_get C i_X10 0 20 f_154 rfl rfl (by decide) rfl rfl dX10_aNumber_1 ?_
  refine g_iconst (v := nI 2) C dX10_aNumber_4 (by decide) ?_
  refine g_icmp_eq (tgt := 14) C dX10_aNumber_5 (by decide) (fun c5 => ?_) (fun c5 => ?_)
  · refine g_aload_n C dX10_aNumber_14 rfl ?_
    refine g_get C i_X10 0 22 f_167 rfl rfl (by decide) rfl rfl dX10_aNumber_15 ?_
    refine g_iload_n C dX10_aNumber_18 rfl ?_
    refine g_icmp_le (tgt := 28) C dX10_aNumber_19 (by decide) (fun c19 => ?_) (fun c19 => ?_)
    · refine g_aload_n C dX10_aNumber_28 rfl ?_
      refine g_aload_n C dX10_aNumber_29 rfl ?_
      refine g_get C i_X10 0 22 f_167 rfl rfl (by decide) rfl rfl dX10_aNumber_30 ?_
      refine g_put C i_X10 tyX10 tyX10_ok nmX10 0 27 f_182 rfl rfl (by decide) rfl rfl rfl rfl rfl (Nat.le_of_ble_eq_true rfl) dX10_aNumber_33 (ws' := [gO h 10 (tF ad (upd (upd (upd (upd (upd (upd (upd (upd iv 18 (nI n)) 19 (nI (en i))) 20 (tkT (ks i))) 21 (ps i)) 22 vl) 23 wr) 24 wa) 27 vl)), gA E (ad 17) 600 t]) rfl ?_
      refine g_aload_n C dX10_aNumber_36 rfl ?_
      refine g_callV C (c_X10_nextT E h ad (upd (upd (upd iv 23 wr) 24 wa) 27 vl) n cn i en ks ps t (tkT (ks i)) (ps i) vl (by omega) (hb) (hL) (hi)) gX10_aNumber_X10_next0 rfl 0 (by decide +kernel) ⟨by decide, by decide⟩ ⟨by decide, by decide⟩ 0 rfl rfl [0, 1] [] (wr := []) rfl (by decide) rfl (by decide) (by decide) rfl rfl (Nat.le_of_ble_eq_true rfl) dX10_aNumber_37 ?_
      rintro _ _ ⟨vl2_37, rfl, rfl, hv_37⟩
      show gg E _ 2 X 0 0 40 [some (.ref h), some (.int (nI m))] [] [gO h 10 (tF ad (upd (upd (upd (upd (upd (upd (upd (upd iv 18 (nI n)) 19 (nI (en (i + 1)))) 20 (tkT (ks (i + 1)))) 21 (ps (i + 1))) 22 vl2_37) 23 wr) 24 wa) 27 vl)), gA E (ad 17) 600 t]
      refine g_iconst (v := nI 1) C dX10_aNumber_40 (by decide) ?_
      exact g_zret C Rt dX10_aNumber_41 (by decide) (by decide) (by decide) (⟨_, rfl, by rw [hv0 h1], hv_37⟩)
    · exact absurd (by rw [hv0 h1]; exact Int32.not_lt.mp h2) c19
  · exact absurd ((tq2 hk).mpr h1) c5

abbrev rm_c_X10_aNumber_1 : Room := { frames := 3, cells := 0, slots := 0, locals := 66 }
set_option maxHeartbeats 4000000 in
set_option maxRecDepth 100000 in
theorem c_X10_aNumber_1 (E : gE) (h : Nat) (ad : Nat → Nat) (iv : Nat → Int32) (n cn i m : Nat) (en : Nat → Nat) (ks ps t : Nat → Int32) (vl wr wa : Int32) (nu : Int32) (hk : tkC (ks i)) (h1 : nI 999 < ks i) : MM E yX10_aNumber wsX10_aNumber rm_c_X10_aNumber_1 [.ref h, .int (nI m)] [gO h 10 (tF ad (upd (upd (upd (upd (upd (upd (upd (upd iv 18 (nI n)) 19 (nI (en i))) 20 (tkT (ks i))) 21 (ps i)) 22 vl) 23 wr) 24 wa) 27 nu)), gA E (ad 17) 600 t] (fun rv_ ru_ => rv_ = some (.int (nI 0)) ∧ ru_ = [gO h 10 (tF ad (upd (upd (upd (upd (upd (upd (upd (upd iv 18 (nI n)) 19 (nI (en i))) 20 (tkT (ks i))) 21 (ps i)) 22 vl) 23 (nI 1)) 24 (ps i)) 27 nu)), gA E (ad 17) 600 t]) := by
  refine MM.ofG (cc := cX10_aNumber) (maxL := 2) (ret := (some .boolean)) (by decide) rfl (Nat.le_of_ble_eq_true rfl) (ll := [some (.ref h), some (.int (nI m))]) rfl ?_
  intro X C Rt
  have C : gx E X cX10_aNumber 2 wsX10_aNumber RX10 := C
  have i_X10 : ∀ w ∈ u_ws RX10 TX10 40, w ∈ wsX10_aNumber := by decide +kernel
  have f_154 : Cond.fieldLink RX10 154 "MarkPagesModel" "token" "I" ∈ wsX10_aNumber := by decide +kernel
  refine g_aload_n C dX10_aNumber_0 rfl ?_
  refine g_get C i_X10 0 20 f_154 rfl rfl (by decide) rfl rfl dX10_aNumber_1 ?_
  refine g_iconst (v := nI 2) C dX10_aNumber_4 (by decide) ?_
  refine g_icmp_eq (tgt := 14) C dX10_aNumber_5 (by decide) (fun c5 => ?_) (fun c5 => ?_)
  · exact absurd h1 ((tq2 hk).mp c5)
  · refine g_aload_n C dX10_aNumber_8 rfl ?_
    refine g_iconst (v := nI 1) C dX10_aNumber_9 (by decide) ?_
    refine g_callV C (c_X10_bad E h ad (upd (upd (upd (upd (upd iv 18 (nI n)) 19 (nI (en i))) 20 (tkT (ks i))) 22 vl) 27 nu) 1 (ps i) wr wa ) gX10_aNumber_X10_bad rfl 1 (by decide +kernel) ⟨by decide, by decide⟩ ⟨by decide, by decide⟩ 0 rfl rfl [0] [1] (wr := [gA E (ad 17) 600 t]) rfl (by decide) rfl (by decide) (by decide) rfl rfl (Nat.le_of_ble_eq_true rfl) dX10_aNumber_10 ?_
    rintro _ _ ⟨rfl, rfl⟩
    refine gg.perm (ws' := [gO h 10 (tF ad (upd (upd (upd (upd (upd (upd (upd (upd iv 18 (nI n)) 19 (nI (en i))) 20 (tkT (ks i))) 21 (ps i)) 22 vl) 23 (nI 1)) 24 (ps i)) 27 nu)), gA E (ad 17) 600 t]) [1, 0] (by decide) rfl ?_
    show gg E _ 2 X 0 0 13 [some (.ref h), some (.int (nI m))] [.int (nI 0)] [gO h 10 (tF ad (upd (upd (upd (upd (upd (upd (upd (upd iv 18 (nI n)) 19 (nI (en i))) 20 (tkT (ks i))) 21 (ps i)) 22 vl) 23 (nI 1)) 24 (ps i)) 27 nu)), gA E (ad 17) 600 t]
    exact g_zret C Rt dX10_aNumber_13 (by decide) (by decide) (by decide) (⟨rfl, rfl⟩)

abbrev rm_c_X10_aNumber_2 : Room := { frames := 3, cells := 0, slots := 0, locals := 66 }
set_option maxHeartbeats 4000000 in
set_option maxRecDepth 100000 in
theorem c_X10_aNumber_2 (E : gE) (h : Nat) (ad : Nat → Nat) (iv : Nat → Int32) (n cn i m : Nat) (en : Nat → Nat) (ks ps t : Nat → Int32) (vl wr wa : Int32) (nu : Int32) (hk : tkC (ks i)) (hv0 : ¬ nI 999 < ks i → vl = ks i) (h1 : ¬ nI 999 < ks i) (h2 : nI m < ks i) : MM E yX10_aNumber wsX10_aNumber rm_c_X10_aNumber_2 [.ref h, .int (nI m)] [gO h 10 (tF ad (upd (upd (upd (upd (upd (upd (upd (upd iv 18 (nI n)) 19 (nI (en i))) 20 (tkT (ks i))) 21 (ps i)) 22 vl) 23 wr) 24 wa) 27 nu)), gA E (ad 17) 600 t] (fun rv_ ru_ => rv_ = some (.int (nI 0)) ∧ ru_ = [gO h 10 (tF ad (upd (upd (upd (upd (upd (upd (upd (upd iv 18 (nI n)) 19 (nI (en i))) 20 (tkT (ks i))) 21 (ps i)) 22 vl) 23 (nI 2)) 24 (ps i)) 27 nu)), gA E (ad 17) 600 t]) := by
  refine MM.ofG (cc := cX10_aNumber) (maxL := 2) (ret := (some .boolean)) (by decide) rfl (Nat.le_of_ble_eq_true rfl) (ll := [some (.ref h), some (.int (nI m))]) rfl ?_
  intro X C Rt
  have C : gx E X cX10_aNumber 2 wsX10_aNumber RX10 := C
  have i_X10 : ∀ w ∈ u_ws RX10 TX10 40, w ∈ wsX10_aNumber := by decide +kernel
  have f_154 : Cond.fieldLink RX10 154 "MarkPagesModel" "token" "I" ∈ wsX10_aNumber := by decide +kernel
  have f_167 : Cond.fieldLink RX10 167 "MarkPagesModel" "value" "I" ∈ wsX10_aNumber := by decide +kernel
  refine g_aload_n C dX10_aNumber_0 rfl ?_
  refine g_get C i_X10 0 20 f_154 rfl rfl (by decide) rfl rfl dX10_aNumber_1 ?_
  refine g_iconst (v := nI 2) C dX10_aNumber_4 (by decide) ?_
  refine g_icmp_eq (tgt := 14) C dX10_aNumber_5 (by decide) (fun c5 => ?_) (fun c5 => ?_)
  · refine g_aload_n C dX10_aNumber_14 rfl ?_
    refine g_get C i_X10 0 22 f_167 rfl rfl (by decide) rfl rfl dX10_aNumber_15 ?_
    refine g_iload_n C dX10_aNumber_18 rfl ?_
    refine g_icmp_le (tgt := 28) C dX10_aNumber_19 (by decide) (fun c19 => ?_) (fun c19 => ?_)
    · exact absurd (by rw [hv0 h1] at c19; exact c19) (Int32.not_le.mpr h2)
    · refine g_aload_n C dX10_aNumber_22 rfl ?_
      refine g_iconst (v := nI 2) C dX10_aNumber_23 (by decide) ?_
      refine g_callV C (c_X10_bad E h ad (upd (upd (upd (upd (upd iv 18 (nI n)) 19 (nI (en i))) 20 (tkT (ks i))) 22 vl) 27 nu) 2 (ps i) wr wa ) gX10_aNumber_X10_bad rfl 1 (by decide +kernel) ⟨by decide, by decide⟩ ⟨by decide, by decide⟩ 0 rfl rfl [0] [1] (wr := [gA E (ad 17) 600 t]) rfl (by decide) rfl (by decide) (by decide) rfl rfl (Nat.le_of_ble_eq_true rfl) dX10_aNumber_24 ?_
      rintro _ _ ⟨rfl, rfl⟩
      refine gg.perm (ws' := [gO h 10 (tF ad (upd (upd (upd (upd (upd (upd (upd (upd iv 18 (nI n)) 19 (nI (en i))) 20 (tkT (ks i))) 21 (ps i)) 22 vl) 23 (nI 2)) 24 (ps i)) 27 nu)), gA E (ad 17) 600 t]) [1, 0] (by decide) rfl ?_
      show gg E _ 2 X 0 0 27 [some (.ref h), some (.int (nI m))] [.int (nI 0)] [gO h 10 (tF ad (upd (upd (upd (upd (upd (upd (upd (upd iv 18 (nI n)) 19 (nI (en i))) 20 (tkT (ks i))) 21 (ps i)) 22 vl) 23 (nI 2)) 24 (ps i)) 27 nu)), gA E (ad 17) 600 t]
      exact g_zret C Rt dX10_aNumber_27 (by decide) (by decide) (by decide) (⟨rfl, rfl⟩)
  · exact absurd ((tq2 hk).mpr h1) c5

abbrev rm_c_X10_lay : Room := { frames := 0, cells := 0, slots := 0, locals := 0 }
set_option maxHeartbeats 4000000 in
set_option maxRecDepth 100000 in
theorem c_X10_lay (E : gE) (h : Nat) (ad : Nat → Nat) (iv : Nat → Int32) (us : Nat) (fr : Nat → Int32) (s : Int32) (hu : us < 620) : MM E yX10_lay wsX10_lay rm_c_X10_lay [.ref h, .int s] [gO h 10 (tF ad (upd iv 7 (nI us))), gA E (ad 15) 620 fr] (fun rv_ ru_ => rv_ = none ∧ ru_ = [gO h 10 (tF ad (upd iv 7 (nI (us + 1)))), gA E (ad 15) 620 (upd fr us s)]) := by
  refine MM.ofG (cc := cX10_lay) (maxL := 2) (ret := none) (by decide) rfl (Nat.le_of_ble_eq_true rfl) (ll := [some (.ref h), some (.int s)]) rfl ?_
  intro X C Rt
  have C : gx E X cX10_lay 2 wsX10_lay RX10 := C
  have i_X10 : ∀ w ∈ u_ws RX10 TX10 40, w ∈ wsX10_lay := by decide +kernel
  have f_185 : Cond.fieldLink RX10 185 "MarkPagesModel" "freshSteps" "I" ∈ wsX10_lay := by decide +kernel
  have f_43 : Cond.fieldLink RX10 43 "MarkPagesModel" "fresh" "[I" ∈ wsX10_lay := by decide +kernel
  refine g_aload_n C dX10_lay_0 rfl ?_
  refine g_get C i_X10 0 15 f_43 rfl rfl (by decide) rfl rfl dX10_lay_1 ?_
  refine g_aload_n C dX10_lay_4 rfl ?_
  refine g_get C i_X10 0 7 f_185 rfl rfl (by decide) rfl rfl dX10_lay_5 ?_
  refine g_iload_n C dX10_lay_8 rfl ?_
  refine g_iast C 1 us rfl rfl (by omega) (by decide) dX10_lay_9 (ws' := [gO h 10 (tF ad (upd iv 7 (nI us))), gA E (ad 15) 620 (upd fr us s)]) rfl ?_
  refine g_aload_n C dX10_lay_10 rfl ?_
  refine g_dup C dX10_lay_11 rfl ?_
  refine g_get C i_X10 0 7 f_185 rfl rfl (by decide) rfl rfl dX10_lay_12 ?_
  refine g_iconst (v := nI 1) C dX10_lay_15 (by decide) ?_
  refine g_iadd_n C dX10_lay_16 ?_
  refine g_put C i_X10 tyX10 tyX10_ok nmX10 0 7 f_185 rfl rfl (by decide) rfl rfl rfl rfl rfl (Nat.le_of_ble_eq_true rfl) dX10_lay_17 (ws' := [gO h 10 (tF ad (upd iv 7 (nI (us + 1)))), gA E (ad 15) 620 (upd fr us s)]) rfl ?_
  exact g_vret C Rt dX10_lay_20 (by decide) (by decide) (⟨rfl, rfl⟩)

abbrev rm_c_X10_opens_0 : Room := { frames := 3, cells := 0, slots := 0, locals := 66 }
set_option maxHeartbeats 4000000 in
set_option maxRecDepth 100000 in
theorem c_X10_opens_0 (E : gE) (h : Nat) (ad : Nat → Nat) (iv : Nat → Int32) (n cn i : Nat) (en : Nat → Nat) (ks ps t : Nat → Int32) (vl wr wa : Int32) (hn : n ≤ 600) (hb : okY t n) (hL : twL t n cn ks ps en) (hi : i + 1 < cn) : MM E yX10_opens wsX10_opens rm_c_X10_opens_0 [.ref h] [gO h 10 (tF ad (upd (upd (upd (upd (upd (upd (upd (upd iv 18 (nI n)) 19 (nI (en i))) 20 (tkT (ks i))) 21 (ps i)) 22 vl) 23 wr) 24 wa) 26 (nI 0))), gA E (ad 17) 600 t] (fun rv_ ru_ => ∃ (vl2 : Int32), rv_ = some (.int (nI 1)) ∧ ru_ = [gO h 10 (tF ad (upd (upd (upd (upd (upd (upd (upd (upd iv 18 (nI n)) 19 (nI (en (i + 1)))) 20 (tkT (ks (i + 1)))) 21 (ps (i + 1))) 22 vl2) 23 wr) 24 wa) 26 (nI 1))), gA E (ad 17) 600 t] ∧ (¬ nI 999 < ks (i + 1) → vl2 = ks (i + 1))) := by
  refine MM.ofG (cc := cX10_opens) (maxL := 1) (ret := (some .boolean)) (by decide) rfl (Nat.le_of_ble_eq_true rfl) (ll := [some (.ref h)]) rfl ?_
  intro X C Rt
  have C : gx E X cX10_opens 1 wsX10_opens RX10 := C
  have i_X10 : ∀ w ∈ u_ws RX10 TX10 40, w ∈ wsX10_opens := by decide +kernel
  have f_188 : Cond.fieldLink RX10 188 "MarkPagesModel" "depth" "I" ∈ wsX10_opens := by decide +kernel
  refine g_aload_n C dX10_opens_0 rfl ?_
  refine g_get C i_X10 0 26 f_188 rfl rfl (by decide) rfl rfl dX10_opens_1 ?_
  show gg E _ 1 X 0 0 4 [some (.ref h)] [.int (nI 0)] [gO h 10 (tF ad (upd (upd (upd (upd (upd (upd (upd (upd iv 18 (nI n)) 19 (nI (en i))) 20 (tkT (ks i))) 21 (ps i)) 22 vl) 23 wr) 24 wa) 26 (nI 0))), gA E (ad 17) 600 t]
  refine g_bipush (v := nI 8) C dX10_opens_4 (by decide) ?_
  refine g_icmp_ne (tgt := 15) C dX10_opens_6 (by decide) (fun c6 => ?_) (fun c6 => absurd c6 (by decide))
  refine g_aload_n C dX10_opens_15 rfl ?_
  refine g_dup C dX10_opens_16 rfl ?_
  refine g_get C i_X10 0 26 f_188 rfl rfl (by decide) rfl rfl dX10_opens_17 ?_
  show gg E _ 1 X 0 0 20 [some (.ref h)] [.int (nI 0), .ref h] [gO h 10 (tF ad (upd (upd (upd (upd (upd (upd (upd (upd iv 18 (nI n)) 19 (nI (en i))) 20 (tkT (ks i))) 21 (ps i)) 22 vl) 23 wr) 24 wa) 26 (nI 0))), gA E (ad 17) 600 t]
  refine g_iconst (v := nI 1) C dX10_opens_20 (by decide) ?_
  refine g_iadd C dX10_opens_21 (g_top (x' := nI 1) (by decide) ?_)
  refine g_put C i_X10 tyX10 tyX10_ok nmX10 0 26 f_188 rfl rfl (by decide) rfl rfl rfl rfl rfl (Nat.le_of_ble_eq_true rfl) dX10_opens_22 (ws' := [gO h 10 (tF ad (upd (upd (upd (upd (upd (upd (upd (upd iv 18 (nI n)) 19 (nI (en i))) 20 (tkT (ks i))) 21 (ps i)) 22 vl) 23 wr) 24 wa) 26 (nI 1))), gA E (ad 17) 600 t]) rfl ?_
  refine g_aload_n C dX10_opens_25 rfl ?_
  refine g_callV C (c_X10_nextT E h ad (upd (upd (upd iv 23 wr) 24 wa) 26 (nI 1)) n cn i en ks ps t (tkT (ks i)) (ps i) vl (by omega) (hb) (hL) (hi)) gX10_opens_X10_next0 rfl 0 (by decide +kernel) ⟨by decide, by decide⟩ ⟨by decide, by decide⟩ 0 rfl rfl [0, 1] [] (wr := []) rfl (by decide) rfl (by decide) (by decide) rfl rfl (Nat.le_of_ble_eq_true rfl) dX10_opens_26 ?_
  rintro _ _ ⟨vl2_26, rfl, rfl, hv_26⟩
  show gg E _ 1 X 0 0 29 [some (.ref h)] [] [gO h 10 (tF ad (upd (upd (upd (upd (upd (upd (upd (upd iv 18 (nI n)) 19 (nI (en (i + 1)))) 20 (tkT (ks (i + 1)))) 21 (ps (i + 1))) 22 vl2_26) 23 wr) 24 wa) 26 (nI 1))), gA E (ad 17) 600 t]
  refine g_iconst (v := nI 1) C dX10_opens_29 (by decide) ?_
  exact g_zret C Rt dX10_opens_30 (by decide) (by decide) (by decide) (⟨_, rfl, rfl, hv_26⟩)

abbrev rm_c_X10_opens_1 : Room := { frames := 3, cells := 0, slots := 0, locals := 66 }
set_option maxHeartbeats 4000000 in
set_option maxRecDepth 100000 in
theorem c_X10_opens_1 (E : gE) (h : Nat) (ad : Nat → Nat) (iv : Nat → Int32) (n cn i : Nat) (en : Nat → Nat) (ks ps t : Nat → Int32) (vl wr wa : Int32) (hn : n ≤ 600) (hb : okY t n) (hL : twL t n cn ks ps en) (hi : i + 1 < cn) : MM E yX10_opens wsX10_opens rm_c_X10_opens_1 [.ref h] [gO h 10 (tF ad (upd (upd (upd (upd (upd (upd (upd (upd iv 18 (nI n)) 19 (nI (en i))) 20 (tkT (ks i))) 21 (ps i)) 22 vl) 23 wr) 24 wa) 26 (nI 1))), gA E (ad 17) 600 t] (fun rv_ ru_ => ∃ (vl2 : Int32), rv_ = some (.int (nI 1)) ∧ ru_ = [gO h 10 (tF ad (upd (upd (upd (upd (upd (upd (upd (upd iv 18 (nI n)) 19 (nI (en (i + 1)))) 20 (tkT (ks (i + 1)))) 21 (ps (i + 1))) 22 vl2) 23 wr) 24 wa) 26 (nI 2))), gA E (ad 17) 600 t] ∧ (¬ nI 999 < ks (i + 1) → vl2 = ks (i + 1))) := by
  refine MM.ofG (cc := cX10_opens) (maxL := 1) (ret := (some .boolean)) (by decide) rfl (Nat.le_of_ble_eq_true rfl) (ll := [some (.ref h)]) rfl ?_
  intro X C Rt
  have C : gx E X cX10_opens 1 wsX10_opens RX10 := C
  have i_X10 : ∀ w ∈ u_ws RX10 TX10 40, w ∈ wsX10_opens := by decide +kernel
  have f_188 : Cond.fieldLink RX10 188 "MarkPagesModel" "depth" "I" ∈ wsX10_opens := by decide +kernel
  refine g_aload_n C dX10_opens_0 rfl ?_
  refine g_get C i_X10 0 26 f_188 rfl rfl (by decide) rfl rfl dX10_opens_1 ?_
  show gg E _ 1 X 0 0 4 [some (.ref h)] [.int (nI 1)] [gO h 10 (tF ad (upd (upd (upd (upd (upd (upd (upd (upd iv 18 (nI n)) 19 (nI (en i))) 20 (tkT (ks i))) 21 (ps i)) 22 vl) 23 wr) 24 wa) 26 (nI 1))), gA E (ad 17) 600 t]
  refine g_bipush (v := nI 8) C dX10_opens_4 (by decide) ?_
  refine g_icmp_ne (tgt := 15) C dX10_opens_6 (by decide) (fun c6 => ?_) (fun c6 => absurd c6 (by decide))
  refine g_aload_n C dX10_opens_15 rfl ?_
  refine g_dup C dX10_opens_16 rfl ?_
  refine g_get C i_X10 0 26 f_188 rfl rfl (by decide) rfl rfl dX10_opens_17 ?_
  show gg E _ 1 X 0 0 20 [some (.ref h)] [.int (nI 1), .ref h] [gO h 10 (tF ad (upd (upd (upd (upd (upd (upd (upd (upd iv 18 (nI n)) 19 (nI (en i))) 20 (tkT (ks i))) 21 (ps i)) 22 vl) 23 wr) 24 wa) 26 (nI 1))), gA E (ad 17) 600 t]
  refine g_iconst (v := nI 1) C dX10_opens_20 (by decide) ?_
  refine g_iadd C dX10_opens_21 (g_top (x' := nI 2) (by decide) ?_)
  refine g_put C i_X10 tyX10 tyX10_ok nmX10 0 26 f_188 rfl rfl (by decide) rfl rfl rfl rfl rfl (Nat.le_of_ble_eq_true rfl) dX10_opens_22 (ws' := [gO h 10 (tF ad (upd (upd (upd (upd (upd (upd (upd (upd iv 18 (nI n)) 19 (nI (en i))) 20 (tkT (ks i))) 21 (ps i)) 22 vl) 23 wr) 24 wa) 26 (nI 2))), gA E (ad 17) 600 t]) rfl ?_
  refine g_aload_n C dX10_opens_25 rfl ?_
  refine g_callV C (c_X10_nextT E h ad (upd (upd (upd iv 23 wr) 24 wa) 26 (nI 2)) n cn i en ks ps t (tkT (ks i)) (ps i) vl (by omega) (hb) (hL) (hi)) gX10_opens_X10_next0 rfl 0 (by decide +kernel) ⟨by decide, by decide⟩ ⟨by decide, by decide⟩ 0 rfl rfl [0, 1] [] (wr := []) rfl (by decide) rfl (by decide) (by decide) rfl rfl (Nat.le_of_ble_eq_true rfl) dX10_opens_26 ?_
  rintro _ _ ⟨vl2_26, rfl, rfl, hv_26⟩
  show gg E _ 1 X 0 0 29 [some (.ref h)] [] [gO h 10 (tF ad (upd (upd (upd (upd (upd (upd (upd (upd iv 18 (nI n)) 19 (nI (en (i + 1)))) 20 (tkT (ks (i + 1)))) 21 (ps (i + 1))) 22 vl2_26) 23 wr) 24 wa) 26 (nI 2))), gA E (ad 17) 600 t]
  refine g_iconst (v := nI 1) C dX10_opens_29 (by decide) ?_
  exact g_zret C Rt dX10_opens_30 (by decide) (by decide) (by decide) (⟨_, rfl, rfl, hv_26⟩)

abbrev rm_c_X10_opens_2 : Room := { frames := 3, cells := 0, slots := 0, locals := 66 }
set_option maxHeartbeats 4000000 in
set_option maxRecDepth 100000 in
theorem c_X10_opens_2 (E : gE) (h : Nat) (ad : Nat → Nat) (iv : Nat → Int32) (n cn i : Nat) (en : Nat → Nat) (ks ps t : Nat → Int32) (vl wr wa : Int32) (hn : n ≤ 600) (hb : okY t n) (hL : twL t n cn ks ps en) (hi : i + 1 < cn) : MM E yX10_opens wsX10_opens rm_c_X10_opens_2 [.ref h] [gO h 10 (tF ad (upd (upd (upd (upd (upd (upd (upd (upd iv 18 (nI n)) 19 (nI (en i))) 20 (tkT (ks i))) 21 (ps i)) 22 vl) 23 wr) 24 wa) 26 (nI 2))), gA E (ad 17) 600 t] (fun rv_ ru_ => ∃ (vl2 : Int32), rv_ = some (.int (nI 1)) ∧ ru_ = [gO h 10 (tF ad (upd (upd (upd (upd (upd (upd (upd (upd iv 18 (nI n)) 19 (nI (en (i + 1)))) 20 (tkT (ks (i + 1)))) 21 (ps (i + 1))) 22 vl2) 23 wr) 24 wa) 26 (nI 3))), gA E (ad 17) 600 t] ∧ (¬ nI 999 < ks (i + 1) → vl2 = ks (i + 1))) := by
  refine MM.ofG (cc := cX10_opens) (maxL := 1) (ret := (some .boolean)) (by decide) rfl (Nat.le_of_ble_eq_true rfl) (ll := [some (.ref h)]) rfl ?_
  intro X C Rt
  have C : gx E X cX10_opens 1 wsX10_opens RX10 := C
  have i_X10 : ∀ w ∈ u_ws RX10 TX10 40, w ∈ wsX10_opens := by decide +kernel
  have f_188 : Cond.fieldLink RX10 188 "MarkPagesModel" "depth" "I" ∈ wsX10_opens := by decide +kernel
  refine g_aload_n C dX10_opens_0 rfl ?_
  refine g_get C i_X10 0 26 f_188 rfl rfl (by decide) rfl rfl dX10_opens_1 ?_
  show gg E _ 1 X 0 0 4 [some (.ref h)] [.int (nI 2)] [gO h 10 (tF ad (upd (upd (upd (upd (upd (upd (upd (upd iv 18 (nI n)) 19 (nI (en i))) 20 (tkT (ks i))) 21 (ps i)) 22 vl) 23 wr) 24 wa) 26 (nI 2))), gA E (ad 17) 600 t]
  refine g_bipush (v := nI 8) C dX10_opens_4 (by decide) ?_
  refine g_icmp_ne (tgt := 15) C dX10_opens_6 (by decide) (fun c6 => ?_) (fun c6 => absurd c6 (by decide))
  refine g_aload_n C dX10_opens_15 rfl ?_
  refine g_dup C dX10_opens_16 rfl ?_
  refine g_get C i_X10 0 26 f_188 rfl rfl (by decide) rfl rfl dX10_opens_17 ?_
  show gg E _ 1 X 0 0 20 [some (.ref h)] [.int (nI 2), .ref h] [gO h 10 (tF ad (upd (upd (upd (upd (upd (upd (upd (upd iv 18 (nI n)) 19 (nI (en i))) 20 (tkT (ks i))) 21 (ps i)) 22 vl) 23 wr) 24 wa) 26 (nI 2))), gA E (ad 17) 600 t]
  refine g_iconst (v := nI 1) C dX10_opens_20 (by decide) ?_
  refine g_iadd C dX10_opens_21 (g_top (x' := nI 3) (by decide) ?_)
  refine g_put C i_X10 tyX10 tyX10_ok nmX10 0 26 f_188 rfl rfl (by decide) rfl rfl rfl rfl rfl (Nat.le_of_ble_eq_true rfl) dX10_opens_22 (ws' := [gO h 10 (tF ad (upd (upd (upd (upd (upd (upd (upd (upd iv 18 (nI n)) 19 (nI (en i))) 20 (tkT (ks i))) 21 (ps i)) 22 vl) 23 wr) 24 wa) 26 (nI 3))), gA E (ad 17) 600 t]) rfl ?_
  refine g_aload_n C dX10_opens_25 rfl ?_
  refine g_callV C (c_X10_nextT E h ad (upd (upd (upd iv 23 wr) 24 wa) 26 (nI 3)) n cn i en ks ps t (tkT (ks i)) (ps i) vl (by omega) (hb) (hL) (hi)) gX10_opens_X10_next0 rfl 0 (by decide +kernel) ⟨by decide, by decide⟩ ⟨by decide, by decide⟩ 0 rfl rfl [0, 1] [] (wr := []) rfl (by decide) rfl (by decide) (by decide) rfl rfl (Nat.le_of_ble_eq_true rfl) dX10_opens_26 ?_
  rintro _ _ ⟨vl2_26, rfl, rfl, hv_26⟩
  show gg E _ 1 X 0 0 29 [some (.ref h)] [] [gO h 10 (tF ad (upd (upd (upd (upd (upd (upd (upd (upd iv 18 (nI n)) 19 (nI (en (i + 1)))) 20 (tkT (ks (i + 1)))) 21 (ps (i + 1))) 22 vl2_26) 23 wr) 24 wa) 26 (nI 3))), gA E (ad 17) 600 t]
  refine g_iconst (v := nI 1) C dX10_opens_29 (by decide) ?_
  exact g_zret C Rt dX10_opens_30 (by decide) (by decide) (by decide) (⟨_, rfl, rfl, hv_26⟩)

abbrev rm_c_X10_opens_3 : Room := { frames := 3, cells := 0, slots := 0, locals := 66 }
set_option maxHeartbeats 4000000 in
set_option maxRecDepth 100000 in
theorem c_X10_opens_3 (E : gE) (h : Nat) (ad : Nat → Nat) (iv : Nat → Int32) (n cn i : Nat) (en : Nat → Nat) (ks ps t : Nat → Int32) (vl wr wa : Int32) (hn : n ≤ 600) (hb : okY t n) (hL : twL t n cn ks ps en) (hi : i + 1 < cn) : MM E yX10_opens wsX10_opens rm_c_X10_opens_3 [.ref h] [gO h 10 (tF ad (upd (upd (upd (upd (upd (upd (upd (upd iv 18 (nI n)) 19 (nI (en i))) 20 (tkT (ks i))) 21 (ps i)) 22 vl) 23 wr) 24 wa) 26 (nI 3))), gA E (ad 17) 600 t] (fun rv_ ru_ => ∃ (vl2 : Int32), rv_ = some (.int (nI 1)) ∧ ru_ = [gO h 10 (tF ad (upd (upd (upd (upd (upd (upd (upd (upd iv 18 (nI n)) 19 (nI (en (i + 1)))) 20 (tkT (ks (i + 1)))) 21 (ps (i + 1))) 22 vl2) 23 wr) 24 wa) 26 (nI 4))), gA E (ad 17) 600 t] ∧ (¬ nI 999 < ks (i + 1) → vl2 = ks (i + 1))) := by
  refine MM.ofG (cc := cX10_opens) (maxL := 1) (ret := (some .boolean)) (by decide) rfl (Nat.le_of_ble_eq_true rfl) (ll := [some (.ref h)]) rfl ?_
  intro X C Rt
  have C : gx E X cX10_opens 1 wsX10_opens RX10 := C
  have i_X10 : ∀ w ∈ u_ws RX10 TX10 40, w ∈ wsX10_opens := by decide +kernel
  have f_188 : Cond.fieldLink RX10 188 "MarkPagesModel" "depth" "I" ∈ wsX10_opens := by decide +kernel
  refine g_aload_n C dX10_opens_0 rfl ?_
  refine g_get C i_X10 0 26 f_188 rfl rfl (by decide) rfl rfl dX10_opens_1 ?_
  show gg E _ 1 X 0 0 4 [some (.ref h)] [.int (nI 3)] [gO h 10 (tF ad (upd (upd (upd (upd (upd (upd (upd (upd iv 18 (nI n)) 19 (nI (en i))) 20 (tkT (ks i))) 21 (ps i)) 22 vl) 23 wr) 24 wa) 26 (nI 3))), gA E (ad 17) 600 t]
  refine g_bipush (v := nI 8) C dX10_opens_4 (by decide) ?_
  refine g_icmp_ne (tgt := 15) C dX10_opens_6 (by decide) (fun c6 => ?_) (fun c6 => absurd c6 (by decide))
  refine g_aload_n C dX10_opens_15 rfl ?_
  refine g_dup C dX10_opens_16 rfl ?_
  refine g_get C i_X10 0 26 f_188 rfl rfl (by decide) rfl rfl dX10_opens_17 ?_
  show gg E _ 1 X 0 0 20 [some (.ref h)] [.int (nI 3), .ref h] [gO h 10 (tF ad (upd (upd (upd (upd (upd (upd (upd (upd iv 18 (nI n)) 19 (nI (en i))) 20 (tkT (ks i))) 21 (ps i)) 22 vl) 23 wr) 24 wa) 26 (nI 3))), gA E (ad 17) 600 t]
  refine g_iconst (v := nI 1) C dX10_opens_20 (by decide) ?_
  refine g_iadd C dX10_opens_21 (g_top (x' := nI 4) (by decide) ?_)
  refine g_put C i_X10 tyX10 tyX10_ok nmX10 0 26 f_188 rfl rfl (by decide) rfl rfl rfl rfl rfl (Nat.le_of_ble_eq_true rfl) dX10_opens_22 (ws' := [gO h 10 (tF ad (upd (upd (upd (upd (upd (upd (upd (upd iv 18 (nI n)) 19 (nI (en i))) 20 (tkT (ks i))) 21 (ps i)) 22 vl) 23 wr) 24 wa) 26 (nI 4))), gA E (ad 17) 600 t]) rfl ?_
  refine g_aload_n C dX10_opens_25 rfl ?_
  refine g_callV C (c_X10_nextT E h ad (upd (upd (upd iv 23 wr) 24 wa) 26 (nI 4)) n cn i en ks ps t (tkT (ks i)) (ps i) vl (by omega) (hb) (hL) (hi)) gX10_opens_X10_next0 rfl 0 (by decide +kernel) ⟨by decide, by decide⟩ ⟨by decide, by decide⟩ 0 rfl rfl [0, 1] [] (wr := []) rfl (by decide) rfl (by decide) (by decide) rfl rfl (Nat.le_of_ble_eq_true rfl) dX10_opens_26 ?_
  rintro _ _ ⟨vl2_26, rfl, rfl, hv_26⟩
  show gg E _ 1 X 0 0 29 [some (.ref h)] [] [gO h 10 (tF ad (upd (upd (upd (upd (upd (upd (upd (upd iv 18 (nI n)) 19 (nI (en (i + 1)))) 20 (tkT (ks (i + 1)))) 21 (ps (i + 1))) 22 vl2_26) 23 wr) 24 wa) 26 (nI 4))), gA E (ad 17) 600 t]
  refine g_iconst (v := nI 1) C dX10_opens_29 (by decide) ?_
  exact g_zret C Rt dX10_opens_30 (by decide) (by decide) (by decide) (⟨_, rfl, rfl, hv_26⟩)

abbrev rm_c_X10_opens_4 : Room := { frames := 3, cells := 0, slots := 0, locals := 66 }
set_option maxHeartbeats 4000000 in
set_option maxRecDepth 100000 in
theorem c_X10_opens_4 (E : gE) (h : Nat) (ad : Nat → Nat) (iv : Nat → Int32) (n cn i : Nat) (en : Nat → Nat) (ks ps t : Nat → Int32) (vl wr wa : Int32) (hn : n ≤ 600) (hb : okY t n) (hL : twL t n cn ks ps en) (hi : i + 1 < cn) : MM E yX10_opens wsX10_opens rm_c_X10_opens_4 [.ref h] [gO h 10 (tF ad (upd (upd (upd (upd (upd (upd (upd (upd iv 18 (nI n)) 19 (nI (en i))) 20 (tkT (ks i))) 21 (ps i)) 22 vl) 23 wr) 24 wa) 26 (nI 4))), gA E (ad 17) 600 t] (fun rv_ ru_ => ∃ (vl2 : Int32), rv_ = some (.int (nI 1)) ∧ ru_ = [gO h 10 (tF ad (upd (upd (upd (upd (upd (upd (upd (upd iv 18 (nI n)) 19 (nI (en (i + 1)))) 20 (tkT (ks (i + 1)))) 21 (ps (i + 1))) 22 vl2) 23 wr) 24 wa) 26 (nI 5))), gA E (ad 17) 600 t] ∧ (¬ nI 999 < ks (i + 1) → vl2 = ks (i + 1))) := by
  refine MM.ofG (cc := cX10_opens) (maxL := 1) (ret := (some .boolean)) (by decide) rfl (Nat.le_of_ble_eq_true rfl) (ll := [some (.ref h)]) rfl ?_
  intro X C Rt
  have C : gx E X cX10_opens 1 wsX10_opens RX10 := C
  have i_X10 : ∀ w ∈ u_ws RX10 TX10 40, w ∈ wsX10_opens := by decide +kernel
  have f_188 : Cond.fieldLink RX10 188 "MarkPagesModel" "depth" "I" ∈ wsX10_opens := by decide +kernel
  refine g_aload_n C dX10_opens_0 rfl ?_
  refine g_get C i_X10 0 26 f_188 rfl rfl (by decide) rfl rfl dX10_opens_1 ?_
  show gg E _ 1 X 0 0 4 [some (.ref h)] [.int (nI 4)] [gO h 10 (tF ad (upd (upd (upd (upd (upd (upd (upd (upd iv 18 (nI n)) 19 (nI (en i))) 20 (tkT (ks i))) 21 (ps i)) 22 vl) 23 wr) 24 wa) 26 (nI 4))), gA E (ad 17) 600 t]
  refine g_bipush (v := nI 8) C dX10_opens_4 (by decide) ?_
  refine g_icmp_ne (tgt := 15) C dX10_opens_6 (by decide) (fun c6 => ?_) (fun c6 => absurd c6 (by decide))
  refine g_aload_n C dX10_opens_15 rfl ?_
  refine g_dup C dX10_opens_16 rfl ?_
  refine g_get C i_X10 0 26 f_188 rfl rfl (by decide) rfl rfl dX10_opens_17 ?_
  show gg E _ 1 X 0 0 20 [some (.ref h)] [.int (nI 4), .ref h] [gO h 10 (tF ad (upd (upd (upd (upd (upd (upd (upd (upd iv 18 (nI n)) 19 (nI (en i))) 20 (tkT (ks i))) 21 (ps i)) 22 vl) 23 wr) 24 wa) 26 (nI 4))), gA E (ad 17) 600 t]
  refine g_iconst (v := nI 1) C dX10_opens_20 (by decide) ?_
  refine g_iadd C dX10_opens_21 (g_top (x' := nI 5) (by decide) ?_)
  refine g_put C i_X10 tyX10 tyX10_ok nmX10 0 26 f_188 rfl rfl (by decide) rfl rfl rfl rfl rfl (Nat.le_of_ble_eq_true rfl) dX10_opens_22 (ws' := [gO h 10 (tF ad (upd (upd (upd (upd (upd (upd (upd (upd iv 18 (nI n)) 19 (nI (en i))) 20 (tkT (ks i))) 21 (ps i)) 22 vl) 23 wr) 24 wa) 26 (nI 5))), gA E (ad 17) 600 t]) rfl ?_
  refine g_aload_n C dX10_opens_25 rfl ?_
  refine g_callV C (c_X10_nextT E h ad (upd (upd (upd iv 23 wr) 24 wa) 26 (nI 5)) n cn i en ks ps t (tkT (ks i)) (ps i) vl (by omega) (hb) (hL) (hi)) gX10_opens_X10_next0 rfl 0 (by decide +kernel) ⟨by decide, by decide⟩ ⟨by decide, by decide⟩ 0 rfl rfl [0, 1] [] (wr := []) rfl (by decide) rfl (by decide) (by decide) rfl rfl (Nat.le_of_ble_eq_true rfl) dX10_opens_26 ?_
  rintro _ _ ⟨vl2_26, rfl, rfl, hv_26⟩
  show gg E _ 1 X 0 0 29 [some (.ref h)] [] [gO h 10 (tF ad (upd (upd (upd (upd (upd (upd (upd (upd iv 18 (nI n)) 19 (nI (en (i + 1)))) 20 (tkT (ks (i + 1)))) 21 (ps (i + 1))) 22 vl2_26) 23 wr) 24 wa) 26 (nI 5))), gA E (ad 17) 600 t]
  refine g_iconst (v := nI 1) C dX10_opens_29 (by decide) ?_
  exact g_zret C Rt dX10_opens_30 (by decide) (by decide) (by decide) (⟨_, rfl, rfl, hv_26⟩)

abbrev rm_c_X10_opens_5 : Room := { frames := 3, cells := 0, slots := 0, locals := 66 }
set_option maxHeartbeats 4000000 in
set_option maxRecDepth 100000 in
theorem c_X10_opens_5 (E : gE) (h : Nat) (ad : Nat → Nat) (iv : Nat → Int32) (n cn i : Nat) (en : Nat → Nat) (ks ps t : Nat → Int32) (vl wr wa : Int32) (hn : n ≤ 600) (hb : okY t n) (hL : twL t n cn ks ps en) (hi : i + 1 < cn) : MM E yX10_opens wsX10_opens rm_c_X10_opens_5 [.ref h] [gO h 10 (tF ad (upd (upd (upd (upd (upd (upd (upd (upd iv 18 (nI n)) 19 (nI (en i))) 20 (tkT (ks i))) 21 (ps i)) 22 vl) 23 wr) 24 wa) 26 (nI 5))), gA E (ad 17) 600 t] (fun rv_ ru_ => ∃ (vl2 : Int32), rv_ = some (.int (nI 1)) ∧ ru_ = [gO h 10 (tF ad (upd (upd (upd (upd (upd (upd (upd (upd iv 18 (nI n)) 19 (nI (en (i + 1)))) 20 (tkT (ks (i + 1)))) 21 (ps (i + 1))) 22 vl2) 23 wr) 24 wa) 26 (nI 6))), gA E (ad 17) 600 t] ∧ (¬ nI 999 < ks (i + 1) → vl2 = ks (i + 1))) := by
  refine MM.ofG (cc := cX10_opens) (maxL := 1) (ret := (some .boolean)) (by decide) rfl (Nat.le_of_ble_eq_true rfl) (ll := [some (.ref h)]) rfl ?_
  intro X C Rt
  have C : gx E X cX10_opens 1 wsX10_opens RX10 := C
  have i_X10 : ∀ w ∈ u_ws RX10 TX10 40, w ∈ wsX10_opens := by decide +kernel
  have f_188 : Cond.fieldLink RX10 188 "MarkPagesModel" "depth" "I" ∈ wsX10_opens := by decide +kernel
  refine g_aload_n C dX10_opens_0 rfl ?_
  refine g_get C i_X10 0 26 f_188 rfl rfl (by decide) rfl rfl dX10_opens_1 ?_
  show gg E _ 1 X 0 0 4 [some (.ref h)] [.int (nI 5)] [gO h 10 (tF ad (upd (upd (upd (upd (upd (upd (upd (upd iv 18 (nI n)) 19 (nI (en i))) 20 (tkT (ks i))) 21 (ps i)) 22 vl) 23 wr) 24 wa) 26 (nI 5))), gA E (ad 17) 600 t]
  refine g_bipush (v := nI 8) C dX10_opens_4 (by decide) ?_
  refine g_icmp_ne (tgt := 15) C dX10_opens_6 (by decide) (fun c6 => ?_) (fun c6 => absurd c6 (by decide))
  refine g_aload_n C dX10_opens_15 rfl ?_
  refine g_dup C dX10_opens_16 rfl ?_
  refine g_get C i_X10 0 26 f_188 rfl rfl (by decide) rfl rfl dX10_opens_17 ?_
  show gg E _ 1 X 0 0 20 [some (.ref h)] [.int (nI 5), .ref h] [gO h 10 (tF ad (upd (upd (upd (upd (upd (upd (upd (upd iv 18 (nI n)) 19 (nI (en i))) 20 (tkT (ks i))) 21 (ps i)) 22 vl) 23 wr) 24 wa) 26 (nI 5))), gA E (ad 17) 600 t]
  refine g_iconst (v := nI 1) C dX10_opens_20 (by decide) ?_
  refine g_iadd C dX10_opens_21 (g_top (x' := nI 6) (by decide) ?_)
  refine g_put C i_X10 tyX10 tyX10_ok nmX10 0 26 f_188 rfl rfl (by decide) rfl rfl rfl rfl rfl (Nat.le_of_ble_eq_true rfl) dX10_opens_22 (ws' := [gO h 10 (tF ad (upd (upd (upd (upd (upd (upd (upd (upd iv 18 (nI n)) 19 (nI (en i))) 20 (tkT (ks i))) 21 (ps i)) 22 vl) 23 wr) 24 wa) 26 (nI 6))), gA E (ad 17) 600 t]) rfl ?_
  refine g_aload_n C dX10_opens_25 rfl ?_
  refine g_callV C (c_X10_nextT E h ad (upd (upd (upd iv 23 wr) 24 wa) 26 (nI 6)) n cn i en ks ps t (tkT (ks i)) (ps i) vl (by omega) (hb) (hL) (hi)) gX10_opens_X10_next0 rfl 0 (by decide +kernel) ⟨by decide, by decide⟩ ⟨by decide, by decide⟩ 0 rfl rfl [0, 1] [] (wr := []) rfl (by decide) rfl (by decide) (by decide) rfl rfl (Nat.le_of_ble_eq_true rfl) dX10_opens_26 ?_
  rintro _ _ ⟨vl2_26, rfl, rfl, hv_26⟩
  show gg E _ 1 X 0 0 29 [some (.ref h)] [] [gO h 10 (tF ad (upd (upd (upd (upd (upd (upd (upd (upd iv 18 (nI n)) 19 (nI (en (i + 1)))) 20 (tkT (ks (i + 1)))) 21 (ps (i + 1))) 22 vl2_26) 23 wr) 24 wa) 26 (nI 6))), gA E (ad 17) 600 t]
  refine g_iconst (v := nI 1) C dX10_opens_29 (by decide) ?_
  exact g_zret C Rt dX10_opens_30 (by decide) (by decide) (by decide) (⟨_, rfl, rfl, hv_26⟩)

abbrev rm_c_X10_opens_6 : Room := { frames := 3, cells := 0, slots := 0, locals := 66 }
set_option maxHeartbeats 4000000 in
set_option maxRecDepth 100000 in
theorem c_X10_opens_6 (E : gE) (h : Nat) (ad : Nat → Nat) (iv : Nat → Int32) (n cn i : Nat) (en : Nat → Nat) (ks ps t : Nat → Int32) (vl wr wa : Int32) (hn : n ≤ 600) (hb : okY t n) (hL : twL t n cn ks ps en) (hi : i + 1 < cn) : MM E yX10_opens wsX10_opens rm_c_X10_opens_6 [.ref h] [gO h 10 (tF ad (upd (upd (upd (upd (upd (upd (upd (upd iv 18 (nI n)) 19 (nI (en i))) 20 (tkT (ks i))) 21 (ps i)) 22 vl) 23 wr) 24 wa) 26 (nI 6))), gA E (ad 17) 600 t] (fun rv_ ru_ => ∃ (vl2 : Int32), rv_ = some (.int (nI 1)) ∧ ru_ = [gO h 10 (tF ad (upd (upd (upd (upd (upd (upd (upd (upd iv 18 (nI n)) 19 (nI (en (i + 1)))) 20 (tkT (ks (i + 1)))) 21 (ps (i + 1))) 22 vl2) 23 wr) 24 wa) 26 (nI 7))), gA E (ad 17) 600 t] ∧ (¬ nI 999 < ks (i + 1) → vl2 = ks (i + 1))) := by
  refine MM.ofG (cc := cX10_opens) (maxL := 1) (ret := (some .boolean)) (by decide) rfl (Nat.le_of_ble_eq_true rfl) (ll := [some (.ref h)]) rfl ?_
  intro X C Rt
  have C : gx E X cX10_opens 1 wsX10_opens RX10 := C
  have i_X10 : ∀ w ∈ u_ws RX10 TX10 40, w ∈ wsX10_opens := by decide +kernel
  have f_188 : Cond.fieldLink RX10 188 "MarkPagesModel" "depth" "I" ∈ wsX10_opens := by decide +kernel
  refine g_aload_n C dX10_opens_0 rfl ?_
  refine g_get C i_X10 0 26 f_188 rfl rfl (by decide) rfl rfl dX10_opens_1 ?_
  show gg E _ 1 X 0 0 4 [some (.ref h)] [.int (nI 6)] [gO h 10 (tF ad (upd (upd (upd (upd (upd (upd (upd (upd iv 18 (nI n)) 19 (nI (en i))) 20 (tkT (ks i))) 21 (ps i)) 22 vl) 23 wr) 24 wa) 26 (nI 6))), gA E (ad 17) 600 t]
  refine g_bipush (v := nI 8) C dX10_opens_4 (by decide) ?_
  refine g_icmp_ne (tgt := 15) C dX10_opens_6 (by decide) (fun c6 => ?_) (fun c6 => absurd c6 (by decide))
  refine g_aload_n C dX10_opens_15 rfl ?_
  refine g_dup C dX10_opens_16 rfl ?_
  refine g_get C i_X10 0 26 f_188 rfl rfl (by decide) rfl rfl dX10_opens_17 ?_
  show gg E _ 1 X 0 0 20 [some (.ref h)] [.int (nI 6), .ref h] [gO h 10 (tF ad (upd (upd (upd (upd (upd (upd (upd (upd iv 18 (nI n)) 19 (nI (en i))) 20 (tkT (ks i))) 21 (ps i)) 22 vl) 23 wr) 24 wa) 26 (nI 6))), gA E (ad 17) 600 t]
  refine g_iconst (v := nI 1) C dX10_opens_20 (by decide) ?_
  refine g_iadd C dX10_opens_21 (g_top (x' := nI 7) (by decide) ?_)
  refine g_put C i_X10 tyX10 tyX10_ok nmX10 0 26 f_188 rfl rfl (by decide) rfl rfl rfl rfl rfl (Nat.le_of_ble_eq_true rfl) dX10_opens_22 (ws' := [gO h 10 (tF ad (upd (upd (upd (upd (upd (upd (upd (upd iv 18 (nI n)) 19 (nI (en i))) 20 (tkT (ks i))) 21 (ps i)) 22 vl) 23 wr) 24 wa) 26 (nI 7))), gA E (ad 17) 600 t]) rfl ?_
  refine g_aload_n C dX10_opens_25 rfl ?_
  refine g_callV C (c_X10_nextT E h ad (upd (upd (upd iv 23 wr) 24 wa) 26 (nI 7)) n cn i en ks ps t (tkT (ks i)) (ps i) vl (by omega) (hb) (hL) (hi)) gX10_opens_X10_next0 rfl 0 (by decide +kernel) ⟨by decide, by decide⟩ ⟨by decide, by decide⟩ 0 rfl rfl [0, 1] [] (wr := []) rfl (by decide) rfl (by decide) (by decide) rfl rfl (Nat.le_of_ble_eq_true rfl) dX10_opens_26 ?_
  rintro _ _ ⟨vl2_26, rfl, rfl, hv_26⟩
  show gg E _ 1 X 0 0 29 [some (.ref h)] [] [gO h 10 (tF ad (upd (upd (upd (upd (upd (upd (upd (upd iv 18 (nI n)) 19 (nI (en (i + 1)))) 20 (tkT (ks (i + 1)))) 21 (ps (i + 1))) 22 vl2_26) 23 wr) 24 wa) 26 (nI 7))), gA E (ad 17) 600 t]
  refine g_iconst (v := nI 1) C dX10_opens_29 (by decide) ?_
  exact g_zret C Rt dX10_opens_30 (by decide) (by decide) (by decide) (⟨_, rfl, rfl, hv_26⟩)

abbrev rm_c_X10_opens_7 : Room := { frames := 3, cells := 0, slots := 0, locals := 66 }
set_option maxHeartbeats 4000000 in
set_option maxRecDepth 100000 in
theorem c_X10_opens_7 (E : gE) (h : Nat) (ad : Nat → Nat) (iv : Nat → Int32) (n cn i : Nat) (en : Nat → Nat) (ks ps t : Nat → Int32) (vl wr wa : Int32) (hn : n ≤ 600) (hb : okY t n) (hL : twL t n cn ks ps en) (hi : i + 1 < cn) : MM E yX10_opens wsX10_opens rm_c_X10_opens_7 [.ref h] [gO h 10 (tF ad (upd (upd (upd (upd (upd (upd (upd (upd iv 18 (nI n)) 19 (nI (en i))) 20 (tkT (ks i))) 21 (ps i)) 22 vl) 23 wr) 24 wa) 26 (nI 7))), gA E (ad 17) 600 t] (fun rv_ ru_ => ∃ (vl2 : Int32), rv_ = some (.int (nI 1)) ∧ ru_ = [gO h 10 (tF ad (upd (upd (upd (upd (upd (upd (upd (upd iv 18 (nI n)) 19 (nI (en (i + 1)))) 20 (tkT (ks (i + 1)))) 21 (ps (i + 1))) 22 vl2) 23 wr) 24 wa) 26 (nI 8))), gA E (ad 17) 600 t] ∧ (¬ nI 999 < ks (i + 1) → vl2 = ks (i + 1))) := by
  refine MM.ofG (cc := cX10_opens) (maxL := 1) (ret := (some .boolean)) (by decide) rfl (Nat.le_of_ble_eq_true rfl) (ll := [some (.ref h)]) rfl ?_
  intro X C Rt
  have C : gx E X cX10_opens 1 wsX10_opens RX10 := C
  have i_X10 : ∀ w ∈ u_ws RX10 TX10 40, w ∈ wsX10_opens := by decide +kernel
  have f_188 : Cond.fieldLink RX10 188 "MarkPagesModel" "depth" "I" ∈ wsX10_opens := by decide +kernel
  refine g_aload_n C dX10_opens_0 rfl ?_
  refine g_get C i_X10 0 26 f_188 rfl rfl (by decide) rfl rfl dX10_opens_1 ?_
  show gg E _ 1 X 0 0 4 [some (.ref h)] [.int (nI 7)] [gO h 10 (tF ad (upd (upd (upd (upd (upd (upd (upd (upd iv 18 (nI n)) 19 (nI (en i))) 20 (tkT (ks i))) 21 (ps i)) 22 vl) 23 wr) 24 wa) 26 (nI 7))), gA E (ad 17) 600 t]
  refine g_bipush (v := nI 8) C dX10_opens_4 (by decide) ?_
  refine g_icmp_ne (tgt := 15) C dX10_opens_6 (by decide) (fun c6 => ?_) (fun c6 => absurd c6 (by decide))
  refine g_aload_n C dX10_opens_15 rfl ?_
  refine g_dup C dX10_opens_16 rfl ?_
  refine g_get C i_X10 0 26 f_188 rfl rfl (by decide) rfl rfl dX10_opens_17 ?_
  show gg E _ 1 X 0 0 20 [some (.ref h)] [.int (nI 7), .ref h] [gO h 10 (tF ad (upd (upd (upd (upd (upd (upd (upd (upd iv 18 (nI n)) 19 (nI (en i))) 20 (tkT (ks i))) 21 (ps i)) 22 vl) 23 wr) 24 wa) 26 (nI 7))), gA E (ad 17) 600 t]
  refine g_iconst (v := nI 1) C dX10_opens_20 (by decide) ?_
  refine g_iadd C dX10_opens_21 (g_top (x' := nI 8) (by decide) ?_)
  refine g_put C i_X10 tyX10 tyX10_ok nmX10 0 26 f_188 rfl rfl (by decide) rfl rfl rfl rfl rfl (Nat.le_of_ble_eq_true rfl) dX10_opens_22 (ws' := [gO h 10 (tF ad (upd (upd (upd (upd (upd (upd (upd (upd iv 18 (nI n)) 19 (nI (en i))) 20 (tkT (ks i))) 21 (ps i)) 22 vl) 23 wr) 24 wa) 26 (nI 8))), gA E (ad 17) 600 t]) rfl ?_
  refine g_aload_n C dX10_opens_25 rfl ?_
  refine g_callV C (c_X10_nextT E h ad (upd (upd (upd iv 23 wr) 24 wa) 26 (nI 8)) n cn i en ks ps t (tkT (ks i)) (ps i) vl (by omega) (hb) (hL) (hi)) gX10_opens_X10_next0 rfl 0 (by decide +kernel) ⟨by decide, by decide⟩ ⟨by decide, by decide⟩ 0 rfl rfl [0, 1] [] (wr := []) rfl (by decide) rfl (by decide) (by decide) rfl rfl (Nat.le_of_ble_eq_true rfl) dX10_opens_26 ?_
  rintro _ _ ⟨vl2_26, rfl, rfl, hv_26⟩
  show gg E _ 1 X 0 0 29 [some (.ref h)] [] [gO h 10 (tF ad (upd (upd (upd (upd (upd (upd (upd (upd iv 18 (nI n)) 19 (nI (en (i + 1)))) 20 (tkT (ks (i + 1)))) 21 (ps (i + 1))) 22 vl2_26) 23 wr) 24 wa) 26 (nI 8))), gA E (ad 17) 600 t]
  refine g_iconst (v := nI 1) C dX10_opens_29 (by decide) ?_
  exact g_zret C Rt dX10_opens_30 (by decide) (by decide) (by decide) (⟨_, rfl, rfl, hv_26⟩)

abbrev rm_c_X10_opens_8 : Room := { frames := 3, cells := 0, slots := 0, locals := 66 }
set_option maxHeartbeats 4000000 in
set_option maxRecDepth 100000 in
theorem c_X10_opens_8 (E : gE) (h : Nat) (ad : Nat → Nat) (iv : Nat → Int32) (n cn i : Nat) (en : Nat → Nat) (ks ps t : Nat → Int32) (vl wr wa : Int32)  : MM E yX10_opens wsX10_opens rm_c_X10_opens_8 [.ref h] [gO h 10 (tF ad (upd (upd (upd (upd (upd (upd (upd (upd iv 18 (nI n)) 19 (nI (en i))) 20 (tkT (ks i))) 21 (ps i)) 22 vl) 23 wr) 24 wa) 26 (nI 8))), gA E (ad 17) 600 t] (fun rv_ ru_ => rv_ = some (.int (nI 0)) ∧ ru_ = [gO h 10 (tF ad (upd (upd (upd (upd (upd (upd (upd (upd iv 18 (nI n)) 19 (nI (en i))) 20 (tkT (ks i))) 21 (ps i)) 22 vl) 23 (nI 3)) 24 (ps i)) 26 (nI 8))), gA E (ad 17) 600 t]) := by
  refine MM.ofG (cc := cX10_opens) (maxL := 1) (ret := (some .boolean)) (by decide) rfl (Nat.le_of_ble_eq_true rfl) (ll := [some (.ref h)]) rfl ?_
  intro X C Rt
  have C : gx E X cX10_opens 1 wsX10_opens RX10 := C
  have i_X10 : ∀ w ∈ u_ws RX10 TX10 40, w ∈ wsX10_opens := by decide +kernel
  have f_188 : Cond.fieldLink RX10 188 "MarkPagesModel" "depth" "I" ∈ wsX10_opens := by decide +kernel
  refine g_aload_n C dX10_opens_0 rfl ?_
  refine g_get C i_X10 0 26 f_188 rfl rfl (by decide) rfl rfl dX10_opens_1 ?_
  show gg E _ 1 X 0 0 4 [some (.ref h)] [.int (nI 8)] [gO h 10 (tF ad (upd (upd (upd (upd (upd (upd (upd (upd iv 18 (nI n)) 19 (nI (en i))) 20 (tkT (ks i))) 21 (ps i)) 22 vl) 23 wr) 24 wa) 26 (nI 8))), gA E (ad 17) 600 t]
  refine g_bipush (v := nI 8) C dX10_opens_4 (by decide) ?_
  refine g_icmp_ne (tgt := 15) C dX10_opens_6 (by decide) (fun c6 => absurd c6 (by decide)) (fun c6 => ?_)
  refine g_aload_n C dX10_opens_9 rfl ?_
  refine g_iconst (v := nI 3) C dX10_opens_10 (by decide) ?_
  refine g_callV C (c_X10_bad E h ad (upd (upd (upd (upd (upd iv 18 (nI n)) 19 (nI (en i))) 20 (tkT (ks i))) 22 vl) 26 (nI 8)) 3 (ps i) wr wa ) gX10_opens_X10_bad rfl 1 (by decide +kernel) ⟨by decide, by decide⟩ ⟨by decide, by decide⟩ 0 rfl rfl [0] [1] (wr := [gA E (ad 17) 600 t]) rfl (by decide) rfl (by decide) (by decide) rfl rfl (Nat.le_of_ble_eq_true rfl) dX10_opens_11 ?_
  rintro _ _ ⟨rfl, rfl⟩
  refine gg.perm (ws' := [gO h 10 (tF ad (upd (upd (upd (upd (upd (upd (upd (upd iv 18 (nI n)) 19 (nI (en i))) 20 (tkT (ks i))) 21 (ps i)) 22 vl) 23 (nI 3)) 24 (ps i)) 26 (nI 8))), gA E (ad 17) 600 t]) [1, 0] (by decide) rfl ?_
  show gg E _ 1 X 0 0 14 [some (.ref h)] [.int (nI 0)] [gO h 10 (tF ad (upd (upd (upd (upd (upd (upd (upd (upd iv 18 (nI n)) 19 (nI (en i))) 20 (tkT (ks i))) 21 (ps i)) 22 vl) 23 (nI 3)) 24 (ps i)) 26 (nI 8))), gA E (ad 17) 600 t]
  exact g_zret C Rt dX10_opens_14 (by decide) (by decide) (by decide) (⟨rfl, rfl⟩)

abbrev rm_c_X10_unit_y : Room := { frames := 3, cells := 0, slots := 0, locals := 66 }
set_option maxHeartbeats 4000000 in
set_option maxRecDepth 100000 in
theorem c_X10_unit_y (E : gE) (h : Nat) (ad : Nat → Nat) (iv : Nat → Int32) (n cn us i : Nat) (en : Nat → Nat) (ks ps fr t : Nat → Int32) (vl wr wa : Int32) (hn : n ≤ 600) (hb : okY t n) (hL : twL t n cn ks ps en) (hK : ∀ q, q < cn → tkC (ks q)) (hend : ks (cn - 1) = nI 1011) (hcn : cn ≤ 601) (hi : i < cn) (hv : ¬ nI 999 < ks i → vl = ks i) (hus : us ≤ i) (hy : isV (ks i) = true) : MM E yX10_unit wsX10_unit rm_c_X10_unit_y [.ref h] [gO h 10 (tF ad (upd (upd (upd (upd (upd (upd (upd (upd iv 7 (nI us)) 18 (nI n)) 19 (nI (en i))) 20 (tkT (ks i))) 21 (ps i)) 22 vl) 23 wr) 24 wa)), gA E (ad 15) 620 fr, gA E (ad 17) 600 t] (fun rv_ ru_ => ∃ (vl2 : Int32), rv_ = some (.int (nI 1)) ∧ ru_ = [gO h 10 (tF ad (upd (upd (upd (upd (upd (upd (upd (upd iv 7 (nI (us + 1))) 18 (nI n)) 19 (nI (en (i + 1)))) 20 (tkT (ks (i + 1)))) 21 (ps (i + 1))) 22 vl2) 23 wr) 24 wa)), gA E (ad 15) 620 (upd fr us (trJ (ks i))), gA E (ad 17) 600 t] ∧ (¬ nI 999 < ks (i + 1) → vl2 = ks (i + 1))) := by
  refine MM.ofG (cc := cX10_unit) (maxL := 1) (ret := (some .boolean)) (by decide) rfl (Nat.le_of_ble_eq_true rfl) (ll := [some (.ref h)]) rfl ?_
  intro X C Rt
  have C : gx E X cX10_unit 1 wsX10_unit RX10 := C
  have i_X10 : ∀ w ∈ u_ws RX10 TX10 40, w ∈ wsX10_unit := by decide +kernel
  have f_154 : Cond.fieldLink RX10 154 "MarkPagesModel" "token" "I" ∈ wsX10_unit := by decide +kernel
  have f_167 : Cond.fieldLink RX10 167 "MarkPagesModel" "value" "I" ∈ wsX10_unit := by decide +kernel
  have hn1 := not_end hend hi rfl (isV_end hy)
  refine g_aload_n C dX10_unit_0 rfl ?_
  refine g_get C i_X10 0 20 f_154 rfl rfl (by decide) rfl rfl dX10_unit_1 ?_
  refine g_iconst (v := nI 2) C dX10_unit_4 (by decide) ?_
  refine g_icmp_eq (tgt := 24) C dX10_unit_5 (by decide) (fun c5 => ?_) (fun c5 => ?_)
  · refine g_aload_n C dX10_unit_24 rfl ?_
    refine g_aload_n C dX10_unit_25 rfl ?_
    refine g_get C i_X10 0 20 f_154 rfl rfl (by decide) rfl rfl dX10_unit_26 ?_
    refine g_iconst (v := nI 2) C dX10_unit_29 (by decide) ?_
    refine g_icmp_ne (tgt := 40) C dX10_unit_30 (by decide) (fun c30 => ?_) (fun c30 => ?_)
    · refine g_aload_n C dX10_unit_40 rfl ?_
      refine g_get C i_X10 0 20 f_154 rfl rfl (by decide) rfl rfl dX10_unit_41 ?_
      refine g_top (x' := trJ (ks i)) (tk_mea (hK i hi) (by rcases (isV_tk (hK i hi)).mp hy with z | z; exact absurd z c30; exact z)) ?_
      refine g_callV C (c_X10_lay E h ad (upd (upd (upd (upd (upd (upd (upd iv 18 (nI n)) 19 (nI (en i))) 20 (tkT (ks i))) 21 (ps i)) 22 vl) 23 wr) 24 wa) us fr (trJ (ks i)) (by omega)) gX10_unit_X10_lay rfl 1 (by decide +kernel) ⟨by decide, by decide⟩ ⟨by decide, by decide⟩ 0 rfl rfl [0, 1] [2] (wr := [gA E (ad 17) 600 t]) rfl (by decide) rfl (by decide) (by decide) rfl rfl (Nat.le_of_ble_eq_true rfl) dX10_unit_44 ?_
      rintro _ _ ⟨rfl, rfl⟩
      refine gg.perm (ws' := [gO h 10 (tF ad (upd (upd (upd (upd (upd (upd (upd (upd iv 7 (nI (us + 1))) 18 (nI n)) 19 (nI (en i))) 20 (tkT (ks i))) 21 (ps i)) 22 vl) 23 wr) 24 wa)), gA E (ad 15) 620 (upd fr us (trJ (ks i))), gA E (ad 17) 600 t]) [1, 2, 0] (by decide) rfl ?_
      show gg E _ 1 X 0 0 47 [some (.ref h)] [] [gO h 10 (tF ad (upd (upd (upd (upd (upd (upd (upd (upd iv 7 (nI (us + 1))) 18 (nI n)) 19 (nI (en i))) 20 (tkT (ks i))) 21 (ps i)) 22 vl) 23 wr) 24 wa)), gA E (ad 15) 620 (upd fr us (trJ (ks i))), gA E (ad 17) 600 t]
      refine g_aload_n C dX10_unit_47 rfl ?_
      refine g_callV C (c_X10_nextT E h ad (upd (upd (upd iv 7 (nI (us + 1))) 23 wr) 24 wa) n cn i en ks ps t (tkT (ks i)) (ps i) vl (by omega) (hb) (hL) (hn1)) gX10_unit_X10_next0 rfl 0 (by decide +kernel) ⟨by decide, by decide⟩ ⟨by decide, by decide⟩ 0 rfl rfl [0, 2] [1] (wr := [gA E (ad 15) 620 (upd fr us (trJ (ks i)))]) rfl (by decide) rfl (by decide) (by decide) rfl rfl (Nat.le_of_ble_eq_true rfl) dX10_unit_48 ?_
      rintro _ _ ⟨vl2_48, rfl, rfl, hv_48⟩
      refine gg.perm (ws' := [gO h 10 (tF ad (upd (upd (upd (upd (upd (upd (upd (upd iv 7 (nI (us + 1))) 18 (nI n)) 19 (nI (en (i + 1)))) 20 (tkT (ks (i + 1)))) 21 (ps (i + 1))) 22 vl2_48) 23 wr) 24 wa)), gA E (ad 15) 620 (upd fr us (trJ (ks i))), gA E (ad 17) 600 t]) [1, 0, 2] (by decide) rfl ?_
      show gg E _ 1 X 0 0 51 [some (.ref h)] [] [gO h 10 (tF ad (upd (upd (upd (upd (upd (upd (upd (upd iv 7 (nI (us + 1))) 18 (nI n)) 19 (nI (en (i + 1)))) 20 (tkT (ks (i + 1)))) 21 (ps (i + 1))) 22 vl2_48) 23 wr) 24 wa)), gA E (ad 15) 620 (upd fr us (trJ (ks i))), gA E (ad 17) 600 t]
      refine g_iconst (v := nI 1) C dX10_unit_51 (by decide) ?_
      exact g_zret C Rt dX10_unit_52 (by decide) (by decide) (by decide) (⟨_, rfl, rfl, hv_48⟩)
    · refine g_aload_n C dX10_unit_33 rfl ?_
      refine g_get C i_X10 0 22 f_167 rfl rfl (by decide) rfl rfl dX10_unit_34 ?_
      refine g_goto (tgt := 44) C dX10_unit_37 (by decide) ?_
      refine g_top (x' := trJ (ks i)) ((hv ((tq2 (hK i hi)).mp c30)).trans (trJ_num ((tq2 (hK i hi)).mp c30)).symm) ?_
      refine g_callV C (c_X10_lay E h ad (upd (upd (upd (upd (upd (upd (upd iv 18 (nI n)) 19 (nI (en i))) 20 (tkT (ks i))) 21 (ps i)) 22 vl) 23 wr) 24 wa) us fr (trJ (ks i)) (by omega)) gX10_unit_X10_lay rfl 1 (by decide +kernel) ⟨by decide, by decide⟩ ⟨by decide, by decide⟩ 0 rfl rfl [0, 1] [2] (wr := [gA E (ad 17) 600 t]) rfl (by decide) rfl (by decide) (by decide) rfl rfl (Nat.le_of_ble_eq_true rfl) dX10_unit_44 ?_
      rintro _ _ ⟨rfl, rfl⟩
      refine gg.perm (ws' := [gO h 10 (tF ad (upd (upd (upd (upd (upd (upd (upd (upd iv 7 (nI (us + 1))) 18 (nI n)) 19 (nI (en i))) 20 (tkT (ks i))) 21 (ps i)) 22 vl) 23 wr) 24 wa)), gA E (ad 15) 620 (upd fr us (trJ (ks i))), gA E (ad 17) 600 t]) [1, 2, 0] (by decide) rfl ?_
      show gg E _ 1 X 0 0 47 [some (.ref h)] [] [gO h 10 (tF ad (upd (upd (upd (upd (upd (upd (upd (upd iv 7 (nI (us + 1))) 18 (nI n)) 19 (nI (en i))) 20 (tkT (ks i))) 21 (ps i)) 22 vl) 23 wr) 24 wa)), gA E (ad 15) 620 (upd fr us (trJ (ks i))), gA E (ad 17) 600 t]
      refine g_aload_n C dX10_unit_47 rfl ?_
      refine g_callV C (c_X10_nextT E h ad (upd (upd (upd iv 7 (nI (us + 1))) 23 wr) 24 wa) n cn i en ks ps t (tkT (ks i)) (ps i) vl (by omega) (hb) (hL) (hn1)) gX10_unit_X10_next0 rfl 0 (by decide +kernel) ⟨by decide, by decide⟩ ⟨by decide, by decide⟩ 0 rfl rfl [0, 2] [1] (wr := [gA E (ad 15) 620 (upd fr us (trJ (ks i)))]) rfl (by decide) rfl (by decide) (by decide) rfl rfl (Nat.le_of_ble_eq_true rfl) dX10_unit_48 ?_
      rintro _ _ ⟨vl2_48, rfl, rfl, hv_48⟩
      refine gg.perm (ws' := [gO h 10 (tF ad (upd (upd (upd (upd (upd (upd (upd (upd iv 7 (nI (us + 1))) 18 (nI n)) 19 (nI (en (i + 1)))) 20 (tkT (ks (i + 1)))) 21 (ps (i + 1))) 22 vl2_48) 23 wr) 24 wa)), gA E (ad 15) 620 (upd fr us (trJ (ks i))), gA E (ad 17) 600 t]) [1, 0, 2] (by decide) rfl ?_
      show gg E _ 1 X 0 0 51 [some (.ref h)] [] [gO h 10 (tF ad (upd (upd (upd (upd (upd (upd (upd (upd iv 7 (nI (us + 1))) 18 (nI n)) 19 (nI (en (i + 1)))) 20 (tkT (ks (i + 1)))) 21 (ps (i + 1))) 22 vl2_48) 23 wr) 24 wa)), gA E (ad 15) 620 (upd fr us (trJ (ks i))), gA E (ad 17) 600 t]
      refine g_iconst (v := nI 1) C dX10_unit_51 (by decide) ?_
      exact g_zret C Rt dX10_unit_52 (by decide) (by decide) (by decide) (⟨_, rfl, rfl, hv_48⟩)
  · refine g_aload_n C dX10_unit_8 rfl ?_
    refine g_get C i_X10 0 20 f_154 rfl rfl (by decide) rfl rfl dX10_unit_9 ?_
    refine g_sipush (v := nI 1001) C dX10_unit_12 (by decide) ?_
    refine g_icmp_ge (tgt := 24) C dX10_unit_15 (by decide) (fun c15 => ?_) (fun c15 => ?_)
    · refine g_aload_n C dX10_unit_24 rfl ?_
      refine g_aload_n C dX10_unit_25 rfl ?_
      refine g_get C i_X10 0 20 f_154 rfl rfl (by decide) rfl rfl dX10_unit_26 ?_
      refine g_iconst (v := nI 2) C dX10_unit_29 (by decide) ?_
      refine g_icmp_ne (tgt := 40) C dX10_unit_30 (by decide) (fun c30 => ?_) (fun c30 => ?_)
      · refine g_aload_n C dX10_unit_40 rfl ?_
        refine g_get C i_X10 0 20 f_154 rfl rfl (by decide) rfl rfl dX10_unit_41 ?_
        refine g_top (x' := trJ (ks i)) (tk_mea (hK i hi) (by rcases (isV_tk (hK i hi)).mp hy with z | z; exact absurd z c30; exact z)) ?_
        refine g_callV C (c_X10_lay E h ad (upd (upd (upd (upd (upd (upd (upd iv 18 (nI n)) 19 (nI (en i))) 20 (tkT (ks i))) 21 (ps i)) 22 vl) 23 wr) 24 wa) us fr (trJ (ks i)) (by omega)) gX10_unit_X10_lay rfl 1 (by decide +kernel) ⟨by decide, by decide⟩ ⟨by decide, by decide⟩ 0 rfl rfl [0, 1] [2] (wr := [gA E (ad 17) 600 t]) rfl (by decide) rfl (by decide) (by decide) rfl rfl (Nat.le_of_ble_eq_true rfl) dX10_unit_44 ?_
        rintro _ _ ⟨rfl, rfl⟩
        refine gg.perm (ws' := [gO h 10 (tF ad (upd (upd (upd (upd (upd (upd (upd (upd iv 7 (nI (us + 1))) 18 (nI n)) 19 (nI (en i))) 20 (tkT (ks i))) 21 (ps i)) 22 vl) 23 wr) 24 wa)), gA E (ad 15) 620 (upd fr us (trJ (ks i))), gA E (ad 17) 600 t]) [1, 2, 0] (by decide) rfl ?_
        show gg E _ 1 X 0 0 47 [some (.ref h)] [] [gO h 10 (tF ad (upd (upd (upd (upd (upd (upd (upd (upd iv 7 (nI (us + 1))) 18 (nI n)) 19 (nI (en i))) 20 (tkT (ks i))) 21 (ps i)) 22 vl) 23 wr) 24 wa)), gA E (ad 15) 620 (upd fr us (trJ (ks i))), gA E (ad 17) 600 t]
        refine g_aload_n C dX10_unit_47 rfl ?_
        refine g_callV C (c_X10_nextT E h ad (upd (upd (upd iv 7 (nI (us + 1))) 23 wr) 24 wa) n cn i en ks ps t (tkT (ks i)) (ps i) vl (by omega) (hb) (hL) (hn1)) gX10_unit_X10_next0 rfl 0 (by decide +kernel) ⟨by decide, by decide⟩ ⟨by decide, by decide⟩ 0 rfl rfl [0, 2] [1] (wr := [gA E (ad 15) 620 (upd fr us (trJ (ks i)))]) rfl (by decide) rfl (by decide) (by decide) rfl rfl (Nat.le_of_ble_eq_true rfl) dX10_unit_48 ?_
        rintro _ _ ⟨vl2_48, rfl, rfl, hv_48⟩
        refine gg.perm (ws' := [gO h 10 (tF ad (upd (upd (upd (upd (upd (upd (upd (upd iv 7 (nI (us + 1))) 18 (nI n)) 19 (nI (en (i + 1)))) 20 (tkT (ks (i + 1)))) 21 (ps (i + 1))) 22 vl2_48) 23 wr) 24 wa)), gA E (ad 15) 620 (upd fr us (trJ (ks i))), gA E (ad 17) 600 t]) [1, 0, 2] (by decide) rfl ?_
        show gg E _ 1 X 0 0 51 [some (.ref h)] [] [gO h 10 (tF ad (upd (upd (upd (upd (upd (upd (upd (upd iv 7 (nI (us + 1))) 18 (nI n)) 19 (nI (en (i + 1)))) 20 (tkT (ks (i + 1)))) 21 (ps (i + 1))) 22 vl2_48) 23 wr) 24 wa)), gA E (ad 15) 620 (upd fr us (trJ (ks i))), gA E (ad 17) 600 t]
        refine g_iconst (v := nI 1) C dX10_unit_51 (by decide) ?_
        exact g_zret C Rt dX10_unit_52 (by decide) (by decide) (by decide) (⟨_, rfl, rfl, hv_48⟩)
      · refine g_aload_n C dX10_unit_33 rfl ?_
        refine g_get C i_X10 0 22 f_167 rfl rfl (by decide) rfl rfl dX10_unit_34 ?_
        refine g_goto (tgt := 44) C dX10_unit_37 (by decide) ?_
        refine g_top (x' := trJ (ks i)) ((hv ((tq2 (hK i hi)).mp c30)).trans (trJ_num ((tq2 (hK i hi)).mp c30)).symm) ?_
        refine g_callV C (c_X10_lay E h ad (upd (upd (upd (upd (upd (upd (upd iv 18 (nI n)) 19 (nI (en i))) 20 (tkT (ks i))) 21 (ps i)) 22 vl) 23 wr) 24 wa) us fr (trJ (ks i)) (by omega)) gX10_unit_X10_lay rfl 1 (by decide +kernel) ⟨by decide, by decide⟩ ⟨by decide, by decide⟩ 0 rfl rfl [0, 1] [2] (wr := [gA E (ad 17) 600 t]) rfl (by decide) rfl (by decide) (by decide) rfl rfl (Nat.le_of_ble_eq_true rfl) dX10_unit_44 ?_
        rintro _ _ ⟨rfl, rfl⟩
        refine gg.perm (ws' := [gO h 10 (tF ad (upd (upd (upd (upd (upd (upd (upd (upd iv 7 (nI (us + 1))) 18 (nI n)) 19 (nI (en i))) 20 (tkT (ks i))) 21 (ps i)) 22 vl) 23 wr) 24 wa)), gA E (ad 15) 620 (upd fr us (trJ (ks i))), gA E (ad 17) 600 t]) [1, 2, 0] (by decide) rfl ?_
        show gg E _ 1 X 0 0 47 [some (.ref h)] [] [gO h 10 (tF ad (upd (upd (upd (upd (upd (upd (upd (upd iv 7 (nI (us + 1))) 18 (nI n)) 19 (nI (en i))) 20 (tkT (ks i))) 21 (ps i)) 22 vl) 23 wr) 24 wa)), gA E (ad 15) 620 (upd fr us (trJ (ks i))), gA E (ad 17) 600 t]
        refine g_aload_n C dX10_unit_47 rfl ?_
        refine g_callV C (c_X10_nextT E h ad (upd (upd (upd iv 7 (nI (us + 1))) 23 wr) 24 wa) n cn i en ks ps t (tkT (ks i)) (ps i) vl (by omega) (hb) (hL) (hn1)) gX10_unit_X10_next0 rfl 0 (by decide +kernel) ⟨by decide, by decide⟩ ⟨by decide, by decide⟩ 0 rfl rfl [0, 2] [1] (wr := [gA E (ad 15) 620 (upd fr us (trJ (ks i)))]) rfl (by decide) rfl (by decide) (by decide) rfl rfl (Nat.le_of_ble_eq_true rfl) dX10_unit_48 ?_
        rintro _ _ ⟨vl2_48, rfl, rfl, hv_48⟩
        refine gg.perm (ws' := [gO h 10 (tF ad (upd (upd (upd (upd (upd (upd (upd (upd iv 7 (nI (us + 1))) 18 (nI n)) 19 (nI (en (i + 1)))) 20 (tkT (ks (i + 1)))) 21 (ps (i + 1))) 22 vl2_48) 23 wr) 24 wa)), gA E (ad 15) 620 (upd fr us (trJ (ks i))), gA E (ad 17) 600 t]) [1, 0, 2] (by decide) rfl ?_
        show gg E _ 1 X 0 0 51 [some (.ref h)] [] [gO h 10 (tF ad (upd (upd (upd (upd (upd (upd (upd (upd iv 7 (nI (us + 1))) 18 (nI n)) 19 (nI (en (i + 1)))) 20 (tkT (ks (i + 1)))) 21 (ps (i + 1))) 22 vl2_48) 23 wr) 24 wa)), gA E (ad 15) 620 (upd fr us (trJ (ks i))), gA E (ad 17) 600 t]
        refine g_iconst (v := nI 1) C dX10_unit_51 (by decide) ?_
        exact g_zret C Rt dX10_unit_52 (by decide) (by decide) (by decide) (⟨_, rfl, rfl, hv_48⟩)
    · exact absurd ((isV_tk (hK i hi)).mp hy) (fun z => z.elim c5 c15)

abbrev rm_c_X10_unit_n : Room := { frames := 3, cells := 0, slots := 0, locals := 66 }
set_option maxHeartbeats 4000000 in
set_option maxRecDepth 100000 in
theorem c_X10_unit_n (E : gE) (h : Nat) (ad : Nat → Nat) (iv : Nat → Int32) (n cn us i : Nat) (en : Nat → Nat) (ks ps fr t : Nat → Int32) (vl wr wa : Int32) (hn : n ≤ 600) (hb : okY t n) (hL : twL t n cn ks ps en) (hK : ∀ q, q < cn → tkC (ks q)) (hend : ks (cn - 1) = nI 1011) (hcn : cn ≤ 601) (hi : i < cn) (hv : ¬ nI 999 < ks i → vl = ks i) (hus : us ≤ i) (hy : ¬ isV (ks i) = true) : MM E yX10_unit wsX10_unit rm_c_X10_unit_n [.ref h] [gO h 10 (tF ad (upd (upd (upd (upd (upd (upd (upd (upd iv 7 (nI us)) 18 (nI n)) 19 (nI (en i))) 20 (tkT (ks i))) 21 (ps i)) 22 vl) 23 wr) 24 wa)), gA E (ad 15) 620 fr, gA E (ad 17) 600 t] (fun rv_ ru_ => rv_ = some (.int (nI 0)) ∧ ru_ = [gO h 10 (tF ad (upd (upd (upd (upd (upd (upd (upd (upd iv 7 (nI us)) 18 (nI n)) 19 (nI (en i))) 20 (tkT (ks i))) 21 (ps i)) 22 vl) 23 (nI 1)) 24 (ps i))), gA E (ad 15) 620 fr, gA E (ad 17) 600 t]) := by
  refine MM.ofG (cc := cX10_unit) (maxL := 1) (ret := (some .boolean)) (by decide) rfl (Nat.le_of_ble_eq_true rfl) (ll := [some (.ref h)]) rfl ?_
  intro X C Rt
  have C : gx E X cX10_unit 1 wsX10_unit RX10 := C
  have i_X10 : ∀ w ∈ u_ws RX10 TX10 40, w ∈ wsX10_unit := by decide +kernel
  have f_154 : Cond.fieldLink RX10 154 "MarkPagesModel" "token" "I" ∈ wsX10_unit := by decide +kernel
  refine g_aload_n C dX10_unit_0 rfl ?_
  refine g_get C i_X10 0 20 f_154 rfl rfl (by decide) rfl rfl dX10_unit_1 ?_
  refine g_iconst (v := nI 2) C dX10_unit_4 (by decide) ?_
  refine g_icmp_eq (tgt := 24) C dX10_unit_5 (by decide) (fun c5 => ?_) (fun c5 => ?_)
  · exact absurd ((isV_tk (hK i hi)).mpr (Or.inl c5)) hy
  · refine g_aload_n C dX10_unit_8 rfl ?_
    refine g_get C i_X10 0 20 f_154 rfl rfl (by decide) rfl rfl dX10_unit_9 ?_
    refine g_sipush (v := nI 1001) C dX10_unit_12 (by decide) ?_
    refine g_icmp_ge (tgt := 24) C dX10_unit_15 (by decide) (fun c15 => ?_) (fun c15 => ?_)
    · exact absurd ((isV_tk (hK i hi)).mpr (Or.inr c15)) hy
    · refine g_aload_n C dX10_unit_18 rfl ?_
      refine g_iconst (v := nI 1) C dX10_unit_19 (by decide) ?_
      refine g_callV C (c_X10_bad E h ad (upd (upd (upd (upd (upd iv 7 (nI us)) 18 (nI n)) 19 (nI (en i))) 20 (tkT (ks i))) 22 vl) 1 (ps i) wr wa ) gX10_unit_X10_bad rfl 1 (by decide +kernel) ⟨by decide, by decide⟩ ⟨by decide, by decide⟩ 0 rfl rfl [0] [1, 2] (wr := [gA E (ad 15) 620 fr, gA E (ad 17) 600 t]) rfl (by decide) rfl (by decide) (by decide) rfl rfl (Nat.le_of_ble_eq_true rfl) dX10_unit_20 ?_
      rintro _ _ ⟨rfl, rfl⟩
      refine gg.perm (ws' := [gO h 10 (tF ad (upd (upd (upd (upd (upd (upd (upd (upd iv 7 (nI us)) 18 (nI n)) 19 (nI (en i))) 20 (tkT (ks i))) 21 (ps i)) 22 vl) 23 (nI 1)) 24 (ps i))), gA E (ad 15) 620 fr, gA E (ad 17) 600 t]) [2, 0, 1] (by decide) rfl ?_
      show gg E _ 1 X 0 0 23 [some (.ref h)] [.int (nI 0)] [gO h 10 (tF ad (upd (upd (upd (upd (upd (upd (upd (upd iv 7 (nI us)) 18 (nI n)) 19 (nI (en i))) 20 (tkT (ks i))) 21 (ps i)) 22 vl) 23 (nI 1)) 24 (ps i))), gA E (ad 15) 620 fr, gA E (ad 17) 600 t]
      exact g_zret C Rt dX10_unit_23 (by decide) (by decide) (by decide) (⟨rfl, rfl⟩)

abbrev rm_c_X10_sum : Room := { frames := 4, cells := 0, slots := 0, locals := 86 }
set_option maxHeartbeats 4000000 in
set_option maxRecDepth 100000 in
theorem c_X10_sum (E : gE) (h : Nat) (ad : Nat → Nat) (iv : Nat → Int32) (n cn us i : Nat) (en : Nat → Nat) (ks ps fr t : Nat → Int32) (vl wr wa : Int32) (hn : n ≤ 600) (hb : okY t n) (hL : twL t n cn ks ps en) (hK : ∀ q, q < cn → tkC (ks q)) (hend : ks (cn - 1) = nI 1011) (hcn : cn ≤ 601) (hi : i < cn) (hv : ¬ nI 999 < ks i → vl = ks i) (hus : us ≤ i) : MM E yX10_sum wsX10_sum rm_c_X10_sum [.ref h] [gO h 10 (tF ad (upd (upd (upd (upd (upd (upd (upd (upd iv 7 (nI us)) 18 (nI n)) 19 (nI (en i))) 20 (tkT (ks i))) 21 (ps i)) 22 vl) 23 wr) 24 wa)), gA E (ad 15) 620 fr, gA E (ad 17) 600 t] (fun rv_ ru_ => ∃ (ok : Bool) (j us2 : Nat) (fr2 : Nat → Int32) (vl2 wr2 wa2 : Int32), rv_ = some (.int (b2i ok)) ∧ ru_ = [gO h 10 (tF ad (upd (upd (upd (upd (upd (upd (upd (upd iv 7 (nI us2)) 18 (nI n)) 19 (nI (en j))) 20 (tkT (ks j))) 21 (ps j)) 22 vl2) 23 wr2) 24 wa2)), gA E (ad 15) 620 fr2, gA E (ad 17) 600 t] ∧ (rdQ (trR (pSum ks i)) ps cn i us fr wr wa ok j us2 fr2 wr2 wa2) ∧ (¬ nI 999 < ks j → vl2 = ks j)) := by
  refine MM.ofG (cc := cX10_sum) (maxL := 2) (ret := (some .boolean)) (by decide) rfl (Nat.le_of_ble_eq_true rfl) (ll := [some (.ref h), none]) rfl ?_
  intro X C Rt
  have C : gx E X cX10_sum 2 wsX10_sum RX10 := C
  have i_X10 : ∀ w ∈ u_ws RX10 TX10 40, w ∈ wsX10_sum := by decide +kernel
  have f_154 : Cond.fieldLink RX10 154 "MarkPagesModel" "token" "I" ∈ wsX10_sum := by decide +kernel
  refine g_aload_n C dX10_sum_0 rfl ?_
  rcases Classical.em (isV (ks i) = true) with hy | hy
  · refine g_callV C (c_X10_unit_y E h ad iv n cn us i en ks ps fr t vl wr wa (by omega) (hb) (hL) (hK) (hend) (by omega) (by omega) (hv) (by omega) (hy)) gX10_sum_X10_unit rfl 0 (by decide +kernel) ⟨by decide, by decide⟩ ⟨by decide, by decide⟩ 0 rfl rfl [0, 1, 2] [] (wr := []) rfl (by decide) rfl (by decide) (by decide) rfl rfl (Nat.le_of_ble_eq_true rfl) dX10_sum_1 ?_
    rintro _ _ ⟨vl2_1, rfl, rfl, hv_1⟩
    show gg E _ 2 X 0 0 4 [some (.ref h), none] [.int (nI 1)] [gO h 10 (tF ad (upd (upd (upd (upd (upd (upd (upd (upd iv 7 (nI (us + 1))) 18 (nI n)) 19 (nI (en (i + 1)))) 20 (tkT (ks (i + 1)))) 21 (ps (i + 1))) 22 vl2_1) 23 wr) 24 wa)), gA E (ad 15) 620 (upd fr us (trJ (ks i))), gA E (ad 17) 600 t]
    refine g_if_ne (tgt := 9) C dX10_sum_4 (by decide) (fun c4 => ?_) (fun c4 => absurd c4 (by decide))
    have L9 : ∀ (n9 : Nat) (it j1 f1 : Nat) (C1 : List Int32) (vl1 : Int32), cn - j1 < n9 → (j1 < cn) → (j1 = i + 2 * it + 1) → (f1 + it = 600) → (C1.length + i ≤ j1) → (pSum ks i = suN ks f1 j1 C1) → (¬ nI 999 < ks j1 → vl1 = ks j1) → gg E rm_c_X10_sum 2 X 0 0 9 [some (.ref h), none] [] [gO h 10 (tF ad (upd (upd (upd (upd (upd (upd (upd (upd iv 7 (nI (us + C1.length))) 18 (nI n)) 19 (nI (en j1))) 20 (tkT (ks j1))) 21 (ps j1)) 22 vl1) 23 wr) 24 wa)), gA E (ad 15) 620 (cdW fr us (C1.map trJ)), gA E (ad 17) 600 t] := by
      intro n9
      induction n9 with
      | zero => intro it j1 f1 C1 vl1 hm9; exact absurd hm9 (Nat.not_lt_zero _)
      | succ n9 ih9 =>
        intro it j1 f1 C1 vl1 hm9 g1 g2 g3 g4 g5 hv1
        refine g_aload_n C dX10_sum_9 rfl ?_
        refine g_get C i_X10 0 20 f_154 rfl rfl (by decide) rfl rfl dX10_sum_10 ?_
        refine g_bipush (v := nI 43) C dX10_sum_13 (by decide) ?_
        refine g_icmp_eq (tgt := 27) C dX10_sum_15 (by decide) (fun c15 => ?_) (fun c15 => ?_)
        · have e43 := (tq43 (hK _ g1)).mp c15
          have hn3 := not_end hend g1 e43 (by decide)
          have hsg : sgL (ks j1) = [ks j1] := sgL_y (by rw [e43]; decide)
          refine g_aload_n C dX10_sum_27 rfl ?_
          refine g_get C i_X10 0 20 f_154 rfl rfl (by decide) rfl rfl dX10_sum_28 ?_
          refine g_bipush (v := nI 43) C dX10_sum_31 (by decide) ?_
          refine g_icmp_ne (tgt := 42) C dX10_sum_33 (by decide) (fun c33 => ?_) (fun c33 => ?_)
          · exact absurd c15 c33
          · refine g_sipush (v := nI 2000) C dX10_sum_36 (by decide) ?_
            refine g_goto (tgt := 45) C dX10_sum_39 (by decide) ?_
            refine g_istore_n C dX10_sum_45 (by decide) rfl (ll' := [some (.ref h), some (.int (nI 2000))]) rfl ?_
            refine g_aload_n C dX10_sum_46 rfl ?_
            refine g_callV C (c_X10_nextT E h ad (upd (upd (upd iv 7 (nI (us + C1.length))) 23 wr) 24 wa) n cn j1 en ks ps t (tkT (ks j1)) (ps j1) vl1 (by omega) (hb) (hL) (hn3)) gX10_sum_X10_next0 rfl 0 (by decide +kernel) ⟨by decide, by decide⟩ ⟨by decide, by decide⟩ 0 rfl rfl [0, 2] [1] (wr := [gA E (ad 15) 620 (cdW fr us (C1.map trJ))]) rfl (by decide) rfl (by decide) (by decide) rfl rfl (Nat.le_of_ble_eq_true rfl) dX10_sum_47 ?_
            rintro _ _ ⟨vl2_47, rfl, rfl, hv_47⟩
            refine gg.perm (ws' := [gO h 10 (tF ad (upd (upd (upd (upd (upd (upd (upd (upd iv 7 (nI (us + C1.length))) 18 (nI n)) 19 (nI (en (j1 + 1)))) 20 (tkT (ks (j1 + 1)))) 21 (ps (j1 + 1))) 22 vl2_47) 23 wr) 24 wa)), gA E (ad 15) 620 (cdW fr us (C1.map trJ)), gA E (ad 17) 600 t]) [1, 0, 2] (by decide) rfl ?_
            show gg E _ 2 X 0 0 50 [some (.ref h), some (.int (nI 2000))] [] [gO h 10 (tF ad (upd (upd (upd (upd (upd (upd (upd (upd iv 7 (nI (us + C1.length))) 18 (nI n)) 19 (nI (en (j1 + 1)))) 20 (tkT (ks (j1 + 1)))) 21 (ps (j1 + 1))) 22 vl2_47) 23 wr) 24 wa)), gA E (ad 15) 620 (cdW fr us (C1.map trJ)), gA E (ad 17) 600 t]
            refine g_aload_n C dX10_sum_50 rfl ?_
            rcases Classical.em (isV (ks (j1 + 1)) = true) with hz | hz
            · refine g_callV C (c_X10_unit_y E h ad iv n cn (us + C1.length) (j1 + 1) en ks ps (cdW fr us (C1.map trJ)) t vl2_47 wr wa (by omega) (hb) (hL) (hK) (hend) (by omega) (by omega) (hv_47) (by omega) (hz)) gX10_sum_X10_unit rfl 0 (by decide +kernel) ⟨by decide, by decide⟩ ⟨by decide, by decide⟩ 0 rfl rfl [0, 1, 2] [] (wr := []) rfl (by decide) rfl (by decide) (by decide) rfl rfl (Nat.le_of_ble_eq_true rfl) dX10_sum_51 ?_
              rintro _ _ ⟨vl2_51, rfl, rfl, hv_51⟩
              show gg E _ 2 X 0 0 54 [some (.ref h), some (.int (nI 2000))] [.int (nI 1)] [gO h 10 (tF ad (upd (upd (upd (upd (upd (upd (upd (upd iv 7 (nI ((us + C1.length) + 1))) 18 (nI n)) 19 (nI (en ((j1 + 1) + 1)))) 20 (tkT (ks ((j1 + 1) + 1)))) 21 (ps ((j1 + 1) + 1))) 22 vl2_51) 23 wr) 24 wa)), gA E (ad 15) 620 (upd (cdW fr us (C1.map trJ)) (us + C1.length) (trJ (ks (j1 + 1)))), gA E (ad 17) 600 t]
              refine g_if_ne (tgt := 59) C dX10_sum_54 (by decide) (fun c54 => ?_) (fun c54 => absurd c54 (by decide))
              refine g_aload_n C dX10_sum_59 rfl ?_
              refine g_iload_n C dX10_sum_60 rfl ?_
              refine g_callV C (c_X10_lay E h ad (upd (upd (upd (upd (upd (upd (upd iv 18 (nI n)) 19 (nI (en ((j1 + 1) + 1)))) 20 (tkT (ks ((j1 + 1) + 1)))) 21 (ps ((j1 + 1) + 1))) 22 vl2_51) 23 wr) 24 wa) ((us + C1.length) + 1) (upd (cdW fr us (C1.map trJ)) (us + C1.length) (trJ (ks (j1 + 1)))) (nI 2000) (by omega)) gX10_sum_X10_lay rfl 1 (by decide +kernel) ⟨by decide, by decide⟩ ⟨by decide, by decide⟩ 0 rfl rfl [0, 1] [2] (wr := [gA E (ad 17) 600 t]) rfl (by decide) rfl (by decide) (by decide) rfl rfl (Nat.le_of_ble_eq_true rfl) dX10_sum_61 ?_
              rintro _ _ ⟨rfl, rfl⟩
              refine gg.perm (ws' := [gO h 10 (tF ad (upd (upd (upd (upd (upd (upd (upd (upd iv 7 (nI (((us + C1.length) + 1) + 1))) 18 (nI n)) 19 (nI (en ((j1 + 1) + 1)))) 20 (tkT (ks ((j1 + 1) + 1)))) 21 (ps ((j1 + 1) + 1))) 22 vl2_51) 23 wr) 24 wa)), gA E (ad 15) 620 (upd (upd (cdW fr us (C1.map trJ)) (us + C1.length) (trJ (ks (j1 + 1)))) ((us + C1.length) + 1) (nI 2000)), gA E (ad 17) 600 t]) [1, 2, 0] (by decide) rfl ?_
              show gg E _ 2 X 0 0 64 [some (.ref h), some (.int (nI 2000))] [] [gO h 10 (tF ad (upd (upd (upd (upd (upd (upd (upd (upd iv 7 (nI (((us + C1.length) + 1) + 1))) 18 (nI n)) 19 (nI (en ((j1 + 1) + 1)))) 20 (tkT (ks ((j1 + 1) + 1)))) 21 (ps ((j1 + 1) + 1))) 22 vl2_51) 23 wr) 24 wa)), gA E (ad 15) 620 (upd (upd (cdW fr us (C1.map trJ)) (us + C1.length) (trJ (ks (j1 + 1)))) ((us + C1.length) + 1) (nI 2000)), gA E (ad 17) 600 t]
              refine gg.less (ll' := [some (.ref h), none]) (by intro i v h; match i, h with | 0, h => exact h | 1, h => exact absurd h (by simp) | (i + 2), h => exact absurd h (by simp)) ?_
              have e1 : us + C1.length + 1 + 1 = us + (C1 ++ [ks (j1 + 1)] ++ [ks j1]).length := by rw [List.length_append, List.length_append]; rfl
              have e2 : upd (upd (cdW fr us (C1.map trJ)) (us + C1.length) (trJ (ks (j1 + 1)))) (us + C1.length + 1) (nI 2000) = cdW fr us ((C1 ++ [ks (j1 + 1)] ++ [ks j1]).map trJ) := by
                rw [cd2T fr us C1 (ks (j1 + 1)) _ rfl, show us + C1.length + 1 = us + (C1 ++ [ks (j1 + 1)]).length by rw [List.length_append]; rfl, cd2T fr us _ (ks j1) _ (by rw [e43]; decide)]
              rw [e1, e2]
              refine g_goto (tgt := 9) C dX10_sum_64 (by decide) ?_
              exact ih9 (it + 1) (j1 + 1 + 1) (f1 - 1) (C1 ++ [ks (j1 + 1)] ++ [ks j1]) vl2_51 (by omega) (not_end hend hn3 rfl (isV_end hz)) (by omega) (by omega) (by omega) (by rw [g5, suN, if_pos (Or.inl e43), show f1 = f1 - 1 + 1 by omega, suL_y hz, hsg]; rfl) (hv_51)
            · refine g_callV C (c_X10_unit_n E h ad iv n cn (us + C1.length) (j1 + 1) en ks ps (cdW fr us (C1.map trJ)) t vl2_47 wr wa (by omega) (hb) (hL) (hK) (hend) (by omega) (by omega) (hv_47) (by omega) (hz)) gX10_sum_X10_unit rfl 0 (by decide +kernel) ⟨by decide, by decide⟩ ⟨by decide, by decide⟩ 0 rfl rfl [0, 1, 2] [] (wr := []) rfl (by decide) rfl (by decide) (by decide) rfl rfl (Nat.le_of_ble_eq_true rfl) dX10_sum_51 ?_
              rintro _ _ ⟨rfl, rfl⟩
              show gg E _ 2 X 0 0 54 [some (.ref h), some (.int (nI 2000))] [.int (nI 0)] [gO h 10 (tF ad (upd (upd (upd (upd (upd (upd (upd (upd iv 7 (nI (us + C1.length))) 18 (nI n)) 19 (nI (en (j1 + 1)))) 20 (tkT (ks (j1 + 1)))) 21 (ps (j1 + 1))) 22 vl2_47) 23 (nI 1)) 24 (ps (j1 + 1)))), gA E (ad 15) 620 (cdW fr us (C1.map trJ)), gA E (ad 17) 600 t]
              refine g_if_ne (tgt := 59) C dX10_sum_54 (by decide) (fun c54 => absurd c54 (by decide)) (fun c54 => ?_)
              refine g_iconst (v := nI 0) C dX10_sum_57 (by decide) ?_
              exact g_zret C Rt dX10_sum_58 (by decide) (by decide) (by decide) (⟨false, _, _, _, _, _, _, rfl, rfl, rdT_er (by rw [g5, suN, if_pos (Or.inl e43), show f1 = f1 - 1 + 1 by omega, suL_n hz]) (by omega) hn3 (by omega) hn3, hv_47⟩)
        · refine g_aload_n C dX10_sum_18 rfl ?_
          refine g_get C i_X10 0 20 f_154 rfl rfl (by decide) rfl rfl dX10_sum_19 ?_
          refine g_bipush (v := nI 45) C dX10_sum_22 (by decide) ?_
          refine g_icmp_ne (tgt := 67) C dX10_sum_24 (by decide) (fun c24 => ?_) (fun c24 => ?_)
          · refine g_iconst (v := nI 1) C dX10_sum_67 (by decide) ?_
            exact g_zret C Rt dX10_sum_68 (by decide) (by decide) (by decide) (⟨true, _, _, _, _, _, _, rfl, rfl, rdT_ok (by rw [g5, suN, if_neg (fun z => z.elim (fun w => c15 ((tq43 (hK _ g1)).mpr w)) (fun w => c24 ((tq45 (hK _ g1)).mpr w)))]) (by omega) g1 (by omega) rfl rfl, hv1⟩)
          · have e45 := (tq45 (hK _ g1)).mp c24
            have hn3 := not_end hend g1 e45 (by decide)
            have hsg : sgL (ks j1) = [ks j1] := sgL_y (by rw [e45]; decide)
            refine g_aload_n C dX10_sum_27 rfl ?_
            refine g_get C i_X10 0 20 f_154 rfl rfl (by decide) rfl rfl dX10_sum_28 ?_
            refine g_bipush (v := nI 43) C dX10_sum_31 (by decide) ?_
            refine g_icmp_ne (tgt := 42) C dX10_sum_33 (by decide) (fun c33 => ?_) (fun c33 => ?_)
            · refine g_sipush (v := nI 2001) C dX10_sum_42 (by decide) ?_
              refine g_istore_n C dX10_sum_45 (by decide) rfl (ll' := [some (.ref h), some (.int (nI 2001))]) rfl ?_
              refine g_aload_n C dX10_sum_46 rfl ?_
              refine g_callV C (c_X10_nextT E h ad (upd (upd (upd iv 7 (nI (us + C1.length))) 23 wr) 24 wa) n cn j1 en ks ps t (tkT (ks j1)) (ps j1) vl1 (by omega) (hb) (hL) (hn3)) gX10_sum_X10_next0 rfl 0 (by decide +kernel) ⟨by decide, by decide⟩ ⟨by decide, by decide⟩ 0 rfl rfl [0, 2] [1] (wr := [gA E (ad 15) 620 (cdW fr us (C1.map trJ))]) rfl (by decide) rfl (by decide) (by decide) rfl rfl (Nat.le_of_ble_eq_true rfl) dX10_sum_47 ?_
              rintro _ _ ⟨vl2_47, rfl, rfl, hv_47⟩
              refine gg.perm (ws' := [gO h 10 (tF ad (upd (upd (upd (upd (upd (upd (upd (upd iv 7 (nI (us + C1.length))) 18 (nI n)) 19 (nI (en (j1 + 1)))) 20 (tkT (ks (j1 + 1)))) 21 (ps (j1 + 1))) 22 vl2_47) 23 wr) 24 wa)), gA E (ad 15) 620 (cdW fr us (C1.map trJ)), gA E (ad 17) 600 t]) [1, 0, 2] (by decide) rfl ?_
              show gg E _ 2 X 0 0 50 [some (.ref h), some (.int (nI 2001))] [] [gO h 10 (tF ad (upd (upd (upd (upd (upd (upd (upd (upd iv 7 (nI (us + C1.length))) 18 (nI n)) 19 (nI (en (j1 + 1)))) 20 (tkT (ks (j1 + 1)))) 21 (ps (j1 + 1))) 22 vl2_47) 23 wr) 24 wa)), gA E (ad 15) 620 (cdW fr us (C1.map trJ)), gA E (ad 17) 600 t]
              refine g_aload_n C dX10_sum_50 rfl ?_
              rcases Classical.em (isV (ks (j1 + 1)) = true) with hz | hz
              · refine g_callV C (c_X10_unit_y E h ad iv n cn (us + C1.length) (j1 + 1) en ks ps (cdW fr us (C1.map trJ)) t vl2_47 wr wa (by omega) (hb) (hL) (hK) (hend) (by omega) (by omega) (hv_47) (by omega) (hz)) gX10_sum_X10_unit rfl 0 (by decide +kernel) ⟨by decide, by decide⟩ ⟨by decide, by decide⟩ 0 rfl rfl [0, 1, 2] [] (wr := []) rfl (by decide) rfl (by decide) (by decide) rfl rfl (Nat.le_of_ble_eq_true rfl) dX10_sum_51 ?_
                rintro _ _ ⟨vl2_51, rfl, rfl, hv_51⟩
                show gg E _ 2 X 0 0 54 [some (.ref h), some (.int (nI 2001))] [.int (nI 1)] [gO h 10 (tF ad (upd (upd (upd (upd (upd (upd (upd (upd iv 7 (nI ((us + C1.length) + 1))) 18 (nI n)) 19 (nI (en ((j1 + 1) + 1)))) 20 (tkT (ks ((j1 + 1) + 1)))) 21 (ps ((j1 + 1) + 1))) 22 vl2_51) 23 wr) 24 wa)), gA E (ad 15) 620 (upd (cdW fr us (C1.map trJ)) (us + C1.length) (trJ (ks (j1 + 1)))), gA E (ad 17) 600 t]
                refine g_if_ne (tgt := 59) C dX10_sum_54 (by decide) (fun c54 => ?_) (fun c54 => absurd c54 (by decide))
                refine g_aload_n C dX10_sum_59 rfl ?_
                refine g_iload_n C dX10_sum_60 rfl ?_
                refine g_callV C (c_X10_lay E h ad (upd (upd (upd (upd (upd (upd (upd iv 18 (nI n)) 19 (nI (en ((j1 + 1) + 1)))) 20 (tkT (ks ((j1 + 1) + 1)))) 21 (ps ((j1 + 1) + 1))) 22 vl2_51) 23 wr) 24 wa) ((us + C1.length) + 1) (upd (cdW fr us (C1.map trJ)) (us + C1.length) (trJ (ks (j1 + 1)))) (nI 2001) (by omega)) gX10_sum_X10_lay rfl 1 (by decide +kernel) ⟨by decide, by decide⟩ ⟨by decide, by decide⟩ 0 rfl rfl [0, 1] [2] (wr := [gA E (ad 17) 600 t]) rfl (by decide) rfl (by decide) (by decide) rfl rfl (Nat.le_of_ble_eq_true rfl) dX10_sum_61 ?_
                rintro _ _ ⟨rfl, rfl⟩
                refine gg.perm (ws' := [gO h 10 (tF ad (upd (upd (upd (upd (upd (upd (upd (upd iv 7 (nI (((us + C1.length) + 1) + 1))) 18 (nI n)) 19 (nI (en ((j1 + 1) + 1)))) 20 (tkT (ks ((j1 + 1) + 1)))) 21 (ps ((j1 + 1) + 1))) 22 vl2_51) 23 wr) 24 wa)), gA E (ad 15) 620 (upd (upd (cdW fr us (C1.map trJ)) (us + C1.length) (trJ (ks (j1 + 1)))) ((us + C1.length) + 1) (nI 2001)), gA E (ad 17) 600 t]) [1, 2, 0] (by decide) rfl ?_
                show gg E _ 2 X 0 0 64 [some (.ref h), some (.int (nI 2001))] [] [gO h 10 (tF ad (upd (upd (upd (upd (upd (upd (upd (upd iv 7 (nI (((us + C1.length) + 1) + 1))) 18 (nI n)) 19 (nI (en ((j1 + 1) + 1)))) 20 (tkT (ks ((j1 + 1) + 1)))) 21 (ps ((j1 + 1) + 1))) 22 vl2_51) 23 wr) 24 wa)), gA E (ad 15) 620 (upd (upd (cdW fr us (C1.map trJ)) (us + C1.length) (trJ (ks (j1 + 1)))) ((us + C1.length) + 1) (nI 2001)), gA E (ad 17) 600 t]
                refine gg.less (ll' := [some (.ref h), none]) (by intro i v h; match i, h with | 0, h => exact h | 1, h => exact absurd h (by simp) | (i + 2), h => exact absurd h (by simp)) ?_
                have e1 : us + C1.length + 1 + 1 = us + (C1 ++ [ks (j1 + 1)] ++ [ks j1]).length := by rw [List.length_append, List.length_append]; rfl
                have e2 : upd (upd (cdW fr us (C1.map trJ)) (us + C1.length) (trJ (ks (j1 + 1)))) (us + C1.length + 1) (nI 2001) = cdW fr us ((C1 ++ [ks (j1 + 1)] ++ [ks j1]).map trJ) := by
                  rw [cd2T fr us C1 (ks (j1 + 1)) _ rfl, show us + C1.length + 1 = us + (C1 ++ [ks (j1 + 1)]).length by rw [List.length_append]; rfl, cd2T fr us _ (ks j1) _ (by rw [e45]; decide)]
                rw [e1, e2]
                refine g_goto (tgt := 9) C dX10_sum_64 (by decide) ?_
                exact ih9 (it + 1) (j1 + 1 + 1) (f1 - 1) (C1 ++ [ks (j1 + 1)] ++ [ks j1]) vl2_51 (by omega) (not_end hend hn3 rfl (isV_end hz)) (by omega) (by omega) (by omega) (by rw [g5, suN, if_pos (Or.inr e45), show f1 = f1 - 1 + 1 by omega, suL_y hz, hsg]; rfl) (hv_51)
              · refine g_callV C (c_X10_unit_n E h ad iv n cn (us + C1.length) (j1 + 1) en ks ps (cdW fr us (C1.map trJ)) t vl2_47 wr wa (by omega) (hb) (hL) (hK) (hend) (by omega) (by omega) (hv_47) (by omega) (hz)) gX10_sum_X10_unit rfl 0 (by decide +kernel) ⟨by decide, by decide⟩ ⟨by decide, by decide⟩ 0 rfl rfl [0, 1, 2] [] (wr := []) rfl (by decide) rfl (by decide) (by decide) rfl rfl (Nat.le_of_ble_eq_true rfl) dX10_sum_51 ?_
                rintro _ _ ⟨rfl, rfl⟩
                show gg E _ 2 X 0 0 54 [some (.ref h), some (.int (nI 2001))] [.int (nI 0)] [gO h 10 (tF ad (upd (upd (upd (upd (upd (upd (upd (upd iv 7 (nI (us + C1.length))) 18 (nI n)) 19 (nI (en (j1 + 1)))) 20 (tkT (ks (j1 + 1)))) 21 (ps (j1 + 1))) 22 vl2_47) 23 (nI 1)) 24 (ps (j1 + 1)))), gA E (ad 15) 620 (cdW fr us (C1.map trJ)), gA E (ad 17) 600 t]
                refine g_if_ne (tgt := 59) C dX10_sum_54 (by decide) (fun c54 => absurd c54 (by decide)) (fun c54 => ?_)
                refine g_iconst (v := nI 0) C dX10_sum_57 (by decide) ?_
                exact g_zret C Rt dX10_sum_58 (by decide) (by decide) (by decide) (⟨false, _, _, _, _, _, _, rfl, rfl, rdT_er (by rw [g5, suN, if_pos (Or.inr e45), show f1 = f1 - 1 + 1 by omega, suL_n hz]) (by omega) hn3 (by omega) hn3, hv_47⟩)
            · exact absurd c33 c15
    exact L9 _ 0 (i + 1) 600 ([ks i]) vl2_1 (Nat.lt_succ_self _) (not_end hend hi rfl (isV_end hy)) (by omega) (by omega) (by rw [Nat.add_comm]; exact Nat.le_refl _) (suL_y hy) (hv_1)
  · refine g_callV C (c_X10_unit_n E h ad iv n cn us i en ks ps fr t vl wr wa (by omega) (hb) (hL) (hK) (hend) (by omega) (by omega) (hv) (by omega) (hy)) gX10_sum_X10_unit rfl 0 (by decide +kernel) ⟨by decide, by decide⟩ ⟨by decide, by decide⟩ 0 rfl rfl [0, 1, 2] [] (wr := []) rfl (by decide) rfl (by decide) (by decide) rfl rfl (Nat.le_of_ble_eq_true rfl) dX10_sum_1 ?_
    rintro _ _ ⟨rfl, rfl⟩
    show gg E _ 2 X 0 0 4 [some (.ref h), none] [.int (nI 0)] [gO h 10 (tF ad (upd (upd (upd (upd (upd (upd (upd (upd iv 7 (nI us)) 18 (nI n)) 19 (nI (en i))) 20 (tkT (ks i))) 21 (ps i)) 22 vl) 23 (nI 1)) 24 (ps i))), gA E (ad 15) 620 fr, gA E (ad 17) 600 t]
    refine g_if_ne (tgt := 9) C dX10_sum_4 (by decide) (fun c4 => absurd c4 (by decide)) (fun c4 => ?_)
    refine g_iconst (v := nI 0) C dX10_sum_7 (by decide) ?_
    exact g_zret C Rt dX10_sum_8 (by decide) (by decide) (by decide) (⟨false, _, _, _, _, _, _, rfl, rfl, rdT_er (suL_n hy) (Nat.le_refl i) hi (Nat.le_refl _) hi, hv⟩)

