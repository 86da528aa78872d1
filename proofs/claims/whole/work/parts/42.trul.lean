/-! the reference: aRule, rules -/
theorem upd_upd (f : Nat → Int32) (k : Nat) (a b : Int32) : upd (upd f k a) k b = upd f k b := by
  funext q
  simp only [upd]
  split <;> rfl
theorem cdW_lo : ∀ (C : List Int32) (co : Nat → Int32) (u q : Nat), q < u → cdW co u C q = co q
  | [], _, _, _, _ => rfl
  | x :: C, co, u, q, h => by
    rw [cdW, cdW_lo C _ _ q (by omega), upd, if_neg (by omega)]
theorem cdW_at : ∀ (C : List Int32) (co : Nat → Int32) (u x : Nat), x < C.length → cdW co u C (u + x) = C.getD x 0
  | [], _, _, x, h => absurd h (Nat.not_lt_zero x)
  | c :: C, co, u, 0, h => by
    show cdW (upd co u c) (u + 1) C u = c
    rw [cdW_lo C _ _ u (by omega), upd, if_pos rfl]
  | c :: C, co, u, x + 1, h => by
    rw [cdW, show u + (x + 1) = u + 1 + x by omega, cdW_at C _ _ x (Nat.lt_of_succ_lt_succ h)]; rfl
def rdA (r : rR) (ps : Nat → Int32) (cn i us nr : Nat) (sa sk fm fr : Nat → Int32) (wr wa : Int32) (ok : Bool) (j us2 nr2 : Nat) (sa2 sk2 fm2 fr2 : Nat → Int32) (wr2 wa2 : Int32) : Prop :=
  (i ≤ j ∧ j < cn ∧ us2 + i ≤ us + j) ∧ match r with
    | .ok (j', sy, s, C) => ok = true ∧ j = j' ∧ us2 = us + C.length ∧ fr2 = cdW fr us (C.map trJ) ∧ nr2 = nr + 1 ∧ nr < 12 ∧ sa2 = upd sa nr sy ∧ sk2 = upd sk nr s ∧ fm2 = upd fm nr (nI us) ∧ wr2 = wr ∧ wa2 = wa
    | .error (kd, ix) => ok = false ∧ wr2 = nI kd ∧ wa2 = ps ix ∧ ix < cn
theorem rdA_ok {r : rR} {ps : Nat → Int32} {cn i us nr : Nat} {sa sk fm fr : Nat → Int32} {wr wa : Int32} {j us2 : Nat} {fr2 : Nat → Int32} {sy s : Int32} {C : List Int32} (hr : r = .ok (j, sy, s, C)) (h1 : i ≤ j) (h2 : j < cn) (h3 : us2 + i ≤ us + j) (h4 : us2 = us + C.length) (h5 : fr2 = cdW fr us (C.map trJ)) (h6 : nr < 12) : rdA r ps cn i us nr sa sk fm fr wr wa true j us2 (nr + 1) (upd sa nr sy) (upd sk nr s) (upd fm nr (nI us)) fr2 wr wa := by
  subst hr
  exact ⟨⟨h1, h2, h3⟩, rfl, rfl, h4, h5, rfl, h6, rfl, rfl, rfl, rfl, rfl⟩
theorem rdA_er {r : rR} {ps : Nat → Int32} {cn i us nr nr2 : Nat} {sa sk fm fr sa2 sk2 fm2 : Nat → Int32} {wr wa : Int32} {j us2 : Nat} {fr2 : Nat → Int32} {kd ix : Nat} (hr : r = .error (kd, ix)) (h1 : i ≤ j) (h2 : j < cn) (h3 : us2 + i ≤ us + j) (h4 : ix < cn) : rdA r ps cn i us nr sa sk fm fr wr wa false j us2 nr2 sa2 sk2 fm2 fr2 (nI kd) (ps ix) := by
  subst hr
  exact ⟨⟨h1, h2, h3⟩, rfl, rfl, rfl, h4⟩
theorem rdA_two {r : rR} {ps : Nat → Int32} {cn i us nr : Nat} {sa sk fm fr : Nat → Int32} {wr wa : Int32} {ok : Bool} {j us2 nr2 : Nat} {sa2 sk2 fm2 fr2 : Nat → Int32} {wr2 wa2 : Int32} (h : rdA r ps cn i us nr sa sk fm fr wr wa ok j us2 nr2 sa2 sk2 fm2 fr2 wr2 wa2) :
    (∃ sy s C, r = .ok (j, sy, s, C) ∧ true = ok ∧ us + C.length = us2 ∧ cdW fr us (C.map trJ) = fr2 ∧ nr + 1 = nr2 ∧ nr < 12 ∧ upd sa nr sy = sa2 ∧ upd sk nr s = sk2 ∧ upd fm nr (nI us) = fm2 ∧ wr = wr2 ∧ wa = wa2 ∧ i ≤ j ∧ j < cn ∧ us + C.length + i ≤ us + j) ∨ (∃ kd ix, r = .error (kd, ix) ∧ false = ok ∧ nI kd = wr2 ∧ ps ix = wa2 ∧ i ≤ j ∧ j < cn ∧ us2 + i ≤ us + j ∧ ix < cn) := by
  obtain ⟨⟨h1, h2, h3⟩, h⟩ := h
  match r, h with
  | .ok (j', sy, s, C), h =>
    obtain ⟨a1, rfl, a3, a4, a5, a6, a7, a8, a9, b1, b2⟩ := h
    exact Or.inl ⟨sy, s, C, rfl, a1.symm, a3.symm, a4.symm, a5.symm, a6, a7.symm, a8.symm, a9.symm, b1.symm, b2.symm, h1, h2, a3 ▸ h3⟩
  | .error (kd, ix), h =>
    obtain ⟨a1, a2, a3, a4⟩ := h
    exact Or.inr ⟨kd, ix, rfl, a1.symm, a2.symm, a3.symm, h1, h2, h3, a4⟩
def bkT (L : List rT) (sa sk fm fr : Nat → Int32) : Prop := (∀ r, r < L.length → (sa r = (L.getD r (0, 0, [])).1 ∧ sk r = (L.getD r (0, 0, [])).2.1) ∧ fm r = nI (catR (L.take r)).length) ∧ ∃ fr0, fr = cdW fr0 0 ((catR L).map trJ)
theorem bkT.nil {sa sk fm fr : Nat → Int32} : bkT [] sa sk fm fr := ⟨fun r hr => absurd hr (Nat.not_lt_zero r), fr, rfl⟩
theorem bkT.snoc {L : List rT} {sa sk fm fr : Nat → Int32} (h : bkT L sa sk fm fr) (sy s : Int32) (C : List Int32) : bkT (L ++ [(sy, s, C)]) (upd sa L.length sy) (upd sk L.length s) (upd fm L.length (nI (catR L).length)) (cdW fr (catR L).length (C.map trJ)) := by
  obtain ⟨h1, fr0, h3⟩ := h
  refine ⟨fun r hr => ?_, fr0, ?_⟩
  · rw [List.length_append] at hr
    have hr : r < L.length + 1 := hr
    by_cases e : r = L.length
    · subst e
      rw [List.take_append_of_le_length (Nat.le_refl _), List.take_of_length_le (Nat.le_refl _)]
      simp [upd, List.getD_eq_getElem?_getD]
    · simp only [upd, if_neg e, List.getD_eq_getElem?_getD]
      rw [List.getElem?_append_left (by omega), List.take_append_of_le_length (by omega), ← List.getD_eq_getElem?_getD]
      exact h1 r (by omega)
  · rw [h3, catR_snoc, List.map_append, cdW_app, List.length_map, Nat.zero_add]
def bkF (L : List rT) (bs bk fq sp : Nat → Int32) : Prop := (∀ r, r < L.length → bs r = (L.getD r (0, 0, [])).1 ∧ bk r = (L.getD r (0, 0, [])).2.1) ∧ (∀ r, r ≤ L.length → fq r = nI (catR (L.take r)).length) ∧ (∀ x, x < (catR L).length → sp x = trJ ((catR L).getD x 0))
def rlT (r : Except (Nat × Nat) (List rT)) (ps : Nat → Int32) (cn : Nat) (r5 : Int32) (bs bk fq sp : Nat → Int32) (rt r52 fk2 fp2 : Int32) (bs2 bk2 fq2 sp2 : Nat → Int32) : Prop :=
  match r with
  | .ok L => rt = nI L.length ∧ r52 = nI L.length ∧ fk2 = 0 ∧ fp2 = -1 ∧ bkF L bs2 bk2 fq2 sp2
  | .error (kd, ix) => rt = -1 ∧ r52 = r5 ∧ fk2 = nI kd ∧ fp2 = ps ix ∧ bs2 = bs ∧ bk2 = bk ∧ fq2 = fq ∧ sp2 = sp
theorem rlT_ok {r : Except (Nat × Nat) (List rT)} {ps : Nat → Int32} {cn : Nat} {r5 : Int32} {bs bk fq sp bs2 bk2 fq2 sp2 : Nat → Int32} {L : List rT} (hr : r = .ok L) (h : bkF L bs2 bk2 fq2 sp2) : rlT r ps cn r5 bs bk fq sp (nI L.length) (nI L.length) 0 (-1) bs2 bk2 fq2 sp2 := by
  subst hr
  exact ⟨rfl, rfl, rfl, rfl, h⟩
theorem rlT_er {r : Except (Nat × Nat) (List rT)} {ps : Nat → Int32} {cn : Nat} {r5 : Int32} {bs bk fq sp : Nat → Int32} {kd ix : Nat} (hr : r = .error (kd, ix)) : rlT r ps cn r5 bs bk fq sp (-1) r5 (nI kd) (ps ix) bs bk fq sp := by
  subst hr
  exact ⟨rfl, rfl, rfl, rfl, rfl, rfl, rfl, rfl⟩
theorem bkF_of {L : List rT} {sa sk fm fr bs bk fq sp : Nat → Int32} (h : bkT L sa sk fm fr) (h1 : ∀ r, r < L.length → bs r = sa r ∧ bk r = sk r ∧ fq r = fm r) (h2 : ∀ x, x < (catR L).length → sp x = fr x) : bkF L bs bk (upd fq L.length (nI (catR L).length)) sp := by
  obtain ⟨a1, fr0, a2⟩ := h
  refine ⟨fun r hr => ?_, fun r hr => ?_, fun x hx => ?_⟩
  · rw [(h1 r hr).1, (h1 r hr).2.1]; exact (a1 r hr).1
  · by_cases e : r = L.length
    · rw [e, upd, if_pos rfl, List.take_of_length_le (Nat.le_refl _)]
    · rw [upd, if_neg e, (h1 r (by omega)).2.2]; exact (a1 r (by omega)).2
  · rw [h2 x hx, a2]
    have := cdW_at ((catR L).map trJ) fr0 0 x (by rw [List.length_map]; exact hx)
    rw [Nat.zero_add] at this
    rw [this, List.getD_eq_getElem?_getD, List.getD_eq_getElem?_getD, List.getElem?_map, List.getElem?_eq_getElem hx]
    rfl

abbrev rm_c_X10_aRule : Room := { frames := 32, cells := 0, slots := 0, locals := 656 }
set_option maxHeartbeats 4000000 in
set_option maxRecDepth 100000 in
theorem c_X10_aRule (E : gE) (h : Nat) (ad : Nat → Nat) (iv : Nat → Int32) (n cn us i : Nat) (en : Nat → Nat) (ks ps fr t : Nat → Int32) (vl wr wa : Int32) (nr : Nat) (sa sk fm : Nat → Int32) (dp nu : Int32) (hn : n ≤ 600) (hb : okY t n) (hL : twL t n cn ks ps en) (hK : ∀ q, q < cn → tkC (ks q)) (hend : ks (cn - 1) = nI 1011) (hcn : cn ≤ 601) (hi : i < cn) (hv : ¬ nI 999 < ks i → vl = ks i) (hus : us ≤ i) (hnr : nr ≤ 12) : MM E yX10_aRule wsX10_aRule rm_c_X10_aRule [.ref h] [gO h 10 (tF ad (upd (upd (upd (upd (upd (upd (upd (upd (upd (upd (upd iv 6 (nI nr)) 7 (nI us)) 18 (nI n)) 19 (nI (en i))) 20 (tkT (ks i))) 21 (ps i)) 22 vl) 23 wr) 24 wa) 26 dp) 27 nu)), gA E (ad 15) 620 fr, gA E (ad 17) 600 t, gA E (ad 12) 12 sa, gA E (ad 13) 12 sk, gA E (ad 14) 13 fm] (fun rv_ ru_ => ∃ (ok : Bool) (j us2 : Nat) (fr2 : Nat → Int32) (vl2 wr2 wa2 : Int32) (nr2 : Nat) (sa2 sk2 fm2 : Nat → Int32) (dp2 nu2 : Int32), rv_ = some (.int (b2i ok)) ∧ ru_ = [gO h 10 (tF ad (upd (upd (upd (upd (upd (upd (upd (upd (upd (upd (upd iv 6 (nI nr2)) 7 (nI us2)) 18 (nI n)) 19 (nI (en j))) 20 (tkT (ks j))) 21 (ps j)) 22 vl2) 23 wr2) 24 wa2) 26 dp2) 27 nu2)), gA E (ad 15) 620 fr2, gA E (ad 17) 600 t, gA E (ad 12) 12 sa2, gA E (ad 13) 12 sk2, gA E (ad 14) 13 fm2] ∧ (rdA (pRule ks nr i) ps cn i us nr sa sk fm fr wr wa ok j us2 nr2 sa2 sk2 fm2 fr2 wr2 wa2) ∧ (¬ nI 999 < ks j → vl2 = ks j)) := by
  refine MM.ofG (cc := cX10_aRule) (maxL := 1) (ret := (some .boolean)) (by decide) rfl (Nat.le_of_ble_eq_true rfl) (ll := [some (.ref h)]) rfl ?_
  intro X C Rt
  have C : gx E X cX10_aRule 1 wsX10_aRule RX10 := C
  have i_X10 : ∀ w ∈ u_ws RX10 TX10 40, w ∈ wsX10_aRule := by decide +kernel
  have f_154 : Cond.fieldLink RX10 154 "MarkPagesModel" "token" "I" ∈ wsX10_aRule := by decide +kernel
  have f_182 : Cond.fieldLink RX10 182 "MarkPagesModel" "number" "I" ∈ wsX10_aRule := by decide +kernel
  have f_185 : Cond.fieldLink RX10 185 "MarkPagesModel" "freshSteps" "I" ∈ wsX10_aRule := by decide +kernel
  have f_188 : Cond.fieldLink RX10 188 "MarkPagesModel" "depth" "I" ∈ wsX10_aRule := by decide +kernel
  have f_217 : Cond.fieldLink RX10 217 "MarkPagesModel" "freshRules" "I" ∈ wsX10_aRule := by decide +kernel
  have f_34 : Cond.fieldLink RX10 34 "MarkPagesModel" "freshSaying" "[I" ∈ wsX10_aRule := by decide +kernel
  have f_37 : Cond.fieldLink RX10 37 "MarkPagesModel" "freshSkill" "[I" ∈ wsX10_aRule := by decide +kernel
  have f_40 : Cond.fieldLink RX10 40 "MarkPagesModel" "freshFrom" "[I" ∈ wsX10_aRule := by decide +kernel
  refine g_aload_n C dX10_aRule_0 rfl ?_
  refine g_get C i_X10 0 20 f_154 rfl rfl (by decide) rfl rfl dX10_aRule_1 ?_
  refine g_iconst (v := nI 3) C dX10_aRule_4 (by decide) ?_
  refine g_icmp_eq (tgt := 14) C dX10_aRule_5 (by decide) (fun c5 => ?_) (fun c5 => ?_)
  · have e3 := (tq3 (hK i hi)).mp c5
    have hn1 := not_end hend hi e3 (by decide)
    refine g_aload_n C dX10_aRule_14 rfl ?_
    refine g_get C i_X10 0 6 f_217 rfl rfl (by decide) rfl rfl dX10_aRule_15 ?_
    refine g_bipush (v := nI 12) C dX10_aRule_18 (by decide) ?_
    refine g_icmp_ne_n (tgt := 29) C dX10_aRule_20 (by decide) (by omega) (by omega) (fun c20 => ?_) (fun c20 => ?_)
    · have h12 : nr < 12 := by omega
      refine g_aload_n C dX10_aRule_29 rfl ?_
      refine g_callV C (c_X10_nextT E h ad (upd (upd (upd (upd (upd (upd iv 6 (nI nr)) 7 (nI us)) 23 wr) 24 wa) 26 dp) 27 nu) n cn i en ks ps t (tkT (ks i)) (ps i) vl (by omega) (hb) (hL) (hn1)) gX10_aRule_X10_next0 rfl 0 (by decide +kernel) ⟨by decide, by decide⟩ ⟨by decide, by decide⟩ 0 rfl rfl [0, 2] [1, 3, 4, 5] (wr := [gA E (ad 15) 620 fr, gA E (ad 12) 12 sa, gA E (ad 13) 12 sk, gA E (ad 14) 13 fm]) rfl (by decide) rfl (by decide) (by decide) rfl rfl (Nat.le_of_ble_eq_true rfl) dX10_aRule_30 ?_
      rintro _ _ ⟨vl2_30, rfl, rfl, hv_30⟩
      refine gg.perm (ws' := [gO h 10 (tF ad (upd (upd (upd (upd (upd (upd (upd (upd (upd (upd (upd iv 6 (nI nr)) 7 (nI us)) 18 (nI n)) 19 (nI (en (i + 1)))) 20 (tkT (ks (i + 1)))) 21 (ps (i + 1))) 22 vl2_30) 23 wr) 24 wa) 26 dp) 27 nu)), gA E (ad 15) 620 fr, gA E (ad 17) 600 t, gA E (ad 12) 12 sa, gA E (ad 13) 12 sk, gA E (ad 14) 13 fm]) [4, 0, 5, 1, 2, 3] (by decide) rfl ?_
      show gg E _ 1 X 0 0 33 [some (.ref h)] [] [gO h 10 (tF ad (upd (upd (upd (upd (upd (upd (upd (upd (upd (upd (upd iv 6 (nI nr)) 7 (nI us)) 18 (nI n)) 19 (nI (en (i + 1)))) 20 (tkT (ks (i + 1)))) 21 (ps (i + 1))) 22 vl2_30) 23 wr) 24 wa) 26 dp) 27 nu)), gA E (ad 15) 620 fr, gA E (ad 17) 600 t, gA E (ad 12) 12 sa, gA E (ad 13) 12 sk, gA E (ad 14) 13 fm]
      rcases num3 (ks (i + 1)) 39 with h1 | ⟨h1, h2⟩ | ⟨h1, h2⟩
      · refine g_aload_n C dX10_aRule_33 rfl ?_
        refine g_bipush (v := nI 39) C dX10_aRule_34 (by decide) ?_
        refine g_callV C (c_X10_aNumber_1 E h ad (upd (upd (upd iv 6 (nI nr)) 7 (nI us)) 26 dp) n cn (i + 1) 39 en ks ps t vl2_30 wr wa nu (hK _ hn1) (h1)) gX10_aRule_X10_aNumber rfl 1 (by decide +kernel) ⟨by decide, by decide⟩ ⟨by decide, by decide⟩ 0 rfl rfl [0, 2] [1, 3, 4, 5] (wr := [gA E (ad 15) 620 fr, gA E (ad 12) 12 sa, gA E (ad 13) 12 sk, gA E (ad 14) 13 fm]) rfl (by decide) rfl (by decide) (by decide) rfl rfl (Nat.le_of_ble_eq_true rfl) dX10_aRule_36 ?_
        rintro _ _ ⟨rfl, rfl⟩
        refine gg.perm (ws' := [gO h 10 (tF ad (upd (upd (upd (upd (upd (upd (upd (upd (upd (upd (upd iv 6 (nI nr)) 7 (nI us)) 18 (nI n)) 19 (nI (en (i + 1)))) 20 (tkT (ks (i + 1)))) 21 (ps (i + 1))) 22 vl2_30) 23 (nI 1)) 24 (ps (i + 1))) 26 dp) 27 nu)), gA E (ad 15) 620 fr, gA E (ad 17) 600 t, gA E (ad 12) 12 sa, gA E (ad 13) 12 sk, gA E (ad 14) 13 fm]) [4, 0, 5, 1, 2, 3] (by decide) rfl ?_
        show gg E _ 1 X 0 0 39 [some (.ref h)] [.int (nI 0)] [gO h 10 (tF ad (upd (upd (upd (upd (upd (upd (upd (upd (upd (upd (upd iv 6 (nI nr)) 7 (nI us)) 18 (nI n)) 19 (nI (en (i + 1)))) 20 (tkT (ks (i + 1)))) 21 (ps (i + 1))) 22 vl2_30) 23 (nI 1)) 24 (ps (i + 1))) 26 dp) 27 nu)), gA E (ad 15) 620 fr, gA E (ad 17) 600 t, gA E (ad 12) 12 sa, gA E (ad 13) 12 sk, gA E (ad 14) 13 fm]
        refine g_if_ne (tgt := 44) C dX10_aRule_39 (by decide) (fun c39 => absurd c39 (by decide)) (fun c39 => ?_)
        refine g_iconst (v := nI 0) C dX10_aRule_42 (by decide) ?_
        exact g_zret C Rt dX10_aRule_43 (by decide) (by decide) (by decide) (⟨false, _, _, _, _, _, _, _, _, _, _, _, _, rfl, rfl, rdA_er (by rw [pRule, if_pos e3, if_pos h12, if_pos h1]) (by omega) (by omega) (by omega) (by omega), hv_30⟩)
      · refine g_aload_n C dX10_aRule_33 rfl ?_
        refine g_bipush (v := nI 39) C dX10_aRule_34 (by decide) ?_
        refine g_callV C (c_X10_aNumber_2 E h ad (upd (upd (upd iv 6 (nI nr)) 7 (nI us)) 26 dp) n cn (i + 1) 39 en ks ps t vl2_30 wr wa nu (hK _ hn1) (hv_30) (h1) (h2)) gX10_aRule_X10_aNumber rfl 1 (by decide +kernel) ⟨by decide, by decide⟩ ⟨by decide, by decide⟩ 0 rfl rfl [0, 2] [1, 3, 4, 5] (wr := [gA E (ad 15) 620 fr, gA E (ad 12) 12 sa, gA E (ad 13) 12 sk, gA E (ad 14) 13 fm]) rfl (by decide) rfl (by decide) (by decide) rfl rfl (Nat.le_of_ble_eq_true rfl) dX10_aRule_36 ?_
        rintro _ _ ⟨rfl, rfl⟩
        refine gg.perm (ws' := [gO h 10 (tF ad (upd (upd (upd (upd (upd (upd (upd (upd (upd (upd (upd iv 6 (nI nr)) 7 (nI us)) 18 (nI n)) 19 (nI (en (i + 1)))) 20 (tkT (ks (i + 1)))) 21 (ps (i + 1))) 22 vl2_30) 23 (nI 2)) 24 (ps (i + 1))) 26 dp) 27 nu)), gA E (ad 15) 620 fr, gA E (ad 17) 600 t, gA E (ad 12) 12 sa, gA E (ad 13) 12 sk, gA E (ad 14) 13 fm]) [4, 0, 5, 1, 2, 3] (by decide) rfl ?_
        show gg E _ 1 X 0 0 39 [some (.ref h)] [.int (nI 0)] [gO h 10 (tF ad (upd (upd (upd (upd (upd (upd (upd (upd (upd (upd (upd iv 6 (nI nr)) 7 (nI us)) 18 (nI n)) 19 (nI (en (i + 1)))) 20 (tkT (ks (i + 1)))) 21 (ps (i + 1))) 22 vl2_30) 23 (nI 2)) 24 (ps (i + 1))) 26 dp) 27 nu)), gA E (ad 15) 620 fr, gA E (ad 17) 600 t, gA E (ad 12) 12 sa, gA E (ad 13) 12 sk, gA E (ad 14) 13 fm]
        refine g_if_ne (tgt := 44) C dX10_aRule_39 (by decide) (fun c39 => absurd c39 (by decide)) (fun c39 => ?_)
        refine g_iconst (v := nI 0) C dX10_aRule_42 (by decide) ?_
        exact g_zret C Rt dX10_aRule_43 (by decide) (by decide) (by decide) (⟨false, _, _, _, _, _, _, _, _, _, _, _, _, rfl, rfl, rdA_er (by rw [pRule, if_pos e3, if_pos h12, if_neg h1, if_pos h2]) (by omega) (by omega) (by omega) (by omega), hv_30⟩)
      · refine g_aload_n C dX10_aRule_33 rfl ?_
        refine g_bipush (v := nI 39) C dX10_aRule_34 (by decide) ?_
        refine g_callV C (c_X10_aNumber_y E h ad (upd (upd (upd iv 6 (nI nr)) 7 (nI us)) 26 dp) n cn (i + 1) 39 en ks ps t vl2_30 wr wa nu (by omega) (hb) (hL) (not_end hend hn1 rfl (fun e => h1 (by rw [e]; decide))) (hK _ hn1) (hv_30) (h1) (h2)) gX10_aRule_X10_aNumber rfl 1 (by decide +kernel) ⟨by decide, by decide⟩ ⟨by decide, by decide⟩ 0 rfl rfl [0, 2] [1, 3, 4, 5] (wr := [gA E (ad 15) 620 fr, gA E (ad 12) 12 sa, gA E (ad 13) 12 sk, gA E (ad 14) 13 fm]) rfl (by decide) rfl (by decide) (by decide) rfl rfl (Nat.le_of_ble_eq_true rfl) dX10_aRule_36 ?_
        rintro _ _ ⟨vl2_36, rfl, rfl, hv_36⟩
        refine gg.perm (ws' := [gO h 10 (tF ad (upd (upd (upd (upd (upd (upd (upd (upd (upd (upd (upd iv 6 (nI nr)) 7 (nI us)) 18 (nI n)) 19 (nI (en ((i + 1) + 1)))) 20 (tkT (ks ((i + 1) + 1)))) 21 (ps ((i + 1) + 1))) 22 vl2_36) 23 wr) 24 wa) 26 dp) 27 (ks (i + 1)))), gA E (ad 15) 620 fr, gA E (ad 17) 600 t, gA E (ad 12) 12 sa, gA E (ad 13) 12 sk, gA E (ad 14) 13 fm]) [4, 0, 5, 1, 2, 3] (by decide) rfl ?_
        show gg E _ 1 X 0 0 39 [some (.ref h)] [.int (nI 1)] [gO h 10 (tF ad (upd (upd (upd (upd (upd (upd (upd (upd (upd (upd (upd iv 6 (nI nr)) 7 (nI us)) 18 (nI n)) 19 (nI (en ((i + 1) + 1)))) 20 (tkT (ks ((i + 1) + 1)))) 21 (ps ((i + 1) + 1))) 22 vl2_36) 23 wr) 24 wa) 26 dp) 27 (ks (i + 1)))), gA E (ad 15) 620 fr, gA E (ad 17) 600 t, gA E (ad 12) 12 sa, gA E (ad 13) 12 sk, gA E (ad 14) 13 fm]
        refine g_if_ne (tgt := 44) C dX10_aRule_39 (by decide) (fun c39 => ?_) (fun c39 => absurd c39 (by decide))
        have hn2 := not_end hend hn1 rfl (fun e => h1 (by rw [e]; decide))
        refine g_aload_n C dX10_aRule_44 rfl ?_
        refine g_get C i_X10 0 12 f_34 rfl rfl (by decide) rfl rfl dX10_aRule_45 ?_
        refine g_aload_n C dX10_aRule_48 rfl ?_
        refine g_get C i_X10 0 6 f_217 rfl rfl (by decide) rfl rfl dX10_aRule_49 ?_
        refine g_aload_n C dX10_aRule_52 rfl ?_
        refine g_get C i_X10 0 27 f_182 rfl rfl (by decide) rfl rfl dX10_aRule_53 ?_
        refine g_iast C 3 nr rfl rfl (by omega) (by decide) dX10_aRule_56 (ws' := [gO h 10 (tF ad (upd (upd (upd (upd (upd (upd (upd (upd (upd (upd (upd iv 6 (nI nr)) 7 (nI us)) 18 (nI n)) 19 (nI (en ((i + 1) + 1)))) 20 (tkT (ks ((i + 1) + 1)))) 21 (ps ((i + 1) + 1))) 22 vl2_36) 23 wr) 24 wa) 26 dp) 27 (ks (i + 1)))), gA E (ad 15) 620 fr, gA E (ad 17) 600 t, gA E (ad 12) 12 (upd sa nr (ks (i + 1))), gA E (ad 13) 12 sk, gA E (ad 14) 13 fm]) rfl ?_
        refine g_aload_n C dX10_aRule_57 rfl ?_
        refine g_get C i_X10 0 13 f_37 rfl rfl (by decide) rfl rfl dX10_aRule_58 ?_
        refine g_aload_n C dX10_aRule_61 rfl ?_
        refine g_get C i_X10 0 6 f_217 rfl rfl (by decide) rfl rfl dX10_aRule_62 ?_
        refine g_iconst (v := -1) C dX10_aRule_65 (by decide) ?_
        refine g_iast C 4 nr rfl rfl (by omega) (by decide) dX10_aRule_66 (ws' := [gO h 10 (tF ad (upd (upd (upd (upd (upd (upd (upd (upd (upd (upd (upd iv 6 (nI nr)) 7 (nI us)) 18 (nI n)) 19 (nI (en ((i + 1) + 1)))) 20 (tkT (ks ((i + 1) + 1)))) 21 (ps ((i + 1) + 1))) 22 vl2_36) 23 wr) 24 wa) 26 dp) 27 (ks (i + 1)))), gA E (ad 15) 620 fr, gA E (ad 17) 600 t, gA E (ad 12) 12 (upd sa nr (ks (i + 1))), gA E (ad 13) 12 (upd sk nr (-1)), gA E (ad 14) 13 fm]) rfl ?_
        refine g_aload_n C dX10_aRule_67 rfl ?_
        refine g_get C i_X10 0 20 f_154 rfl rfl (by decide) rfl rfl dX10_aRule_68 ?_
        refine g_iconst (v := nI 4) C dX10_aRule_71 (by decide) ?_
        refine g_icmp_ne (tgt := 102) C dX10_aRule_72 (by decide) (fun c72 => ?_) (fun c72 => ?_)
        · have hn4 := hn2
          refine g_aload_n C dX10_aRule_102 rfl ?_
          refine g_get C i_X10 0 14 f_40 rfl rfl (by decide) rfl rfl dX10_aRule_103 ?_
          refine g_aload_n C dX10_aRule_106 rfl ?_
          refine g_get C i_X10 0 6 f_217 rfl rfl (by decide) rfl rfl dX10_aRule_107 ?_
          refine g_aload_n C dX10_aRule_110 rfl ?_
          refine g_get C i_X10 0 7 f_185 rfl rfl (by decide) rfl rfl dX10_aRule_111 ?_
          refine g_iast C 5 nr rfl rfl (by omega) (by decide) dX10_aRule_114 (ws' := [gO h 10 (tF ad (upd (upd (upd (upd (upd (upd (upd (upd (upd (upd (upd iv 6 (nI nr)) 7 (nI us)) 18 (nI n)) 19 (nI (en ((i + 1) + 1)))) 20 (tkT (ks ((i + 1) + 1)))) 21 (ps ((i + 1) + 1))) 22 vl2_36) 23 wr) 24 wa) 26 dp) 27 (ks (i + 1)))), gA E (ad 15) 620 fr, gA E (ad 17) 600 t, gA E (ad 12) 12 (upd sa nr (ks (i + 1))), gA E (ad 13) 12 (upd sk nr (-1)), gA E (ad 14) 13 (upd fm nr (nI us))]) rfl ?_
          refine g_aload_n C dX10_aRule_115 rfl ?_
          refine g_dup C dX10_aRule_116 rfl ?_
          refine g_get C i_X10 0 6 f_217 rfl rfl (by decide) rfl rfl dX10_aRule_117 ?_
          refine g_iconst (v := nI 1) C dX10_aRule_120 (by decide) ?_
          refine g_iadd_n C dX10_aRule_121 ?_
          refine g_put C i_X10 tyX10 tyX10_ok nmX10 0 6 f_217 rfl rfl (by decide) rfl rfl rfl rfl rfl (Nat.le_of_ble_eq_true rfl) dX10_aRule_122 (ws' := [gO h 10 (tF ad (upd (upd (upd (upd (upd (upd (upd (upd (upd (upd (upd iv 6 (nI (nr + 1))) 7 (nI us)) 18 (nI n)) 19 (nI (en ((i + 1) + 1)))) 20 (tkT (ks ((i + 1) + 1)))) 21 (ps ((i + 1) + 1))) 22 vl2_36) 23 wr) 24 wa) 26 dp) 27 (ks (i + 1)))), gA E (ad 15) 620 fr, gA E (ad 17) 600 t, gA E (ad 12) 12 (upd sa nr (ks (i + 1))), gA E (ad 13) 12 (upd sk nr (-1)), gA E (ad 14) 13 (upd fm nr (nI us))]) rfl ?_
          refine g_aload_n C dX10_aRule_125 rfl ?_
          refine g_iconst (v := nI 0) C dX10_aRule_126 (by decide) ?_
          refine g_put C i_X10 tyX10 tyX10_ok nmX10 0 26 f_188 rfl rfl (by decide) rfl rfl rfl rfl rfl (Nat.le_of_ble_eq_true rfl) dX10_aRule_127 (ws' := [gO h 10 (tF ad (upd (upd (upd (upd (upd (upd (upd (upd (upd (upd (upd iv 6 (nI (nr + 1))) 7 (nI us)) 18 (nI n)) 19 (nI (en ((i + 1) + 1)))) 20 (tkT (ks ((i + 1) + 1)))) 21 (ps ((i + 1) + 1))) 22 vl2_36) 23 wr) 24 wa) 26 (nI 0)) 27 (ks (i + 1)))), gA E (ad 15) 620 fr, gA E (ad 17) 600 t, gA E (ad 12) 12 (upd sa nr (ks (i + 1))), gA E (ad 13) 12 (upd sk nr (-1)), gA E (ad 14) 13 (upd fm nr (nI us))]) rfl ?_
          rcases Classical.em (ks ((i + 1) + 1) = nI 1002) with hw | hw
          · refine g_aload_n C dX10_aRule_130 rfl ?_
            refine g_iconst (v := nI 5) C dX10_aRule_131 (by decide) ?_
            refine g_callV C (c_X10_need_y E h ad (upd (upd (upd (upd iv 6 (nI (nr + 1))) 7 (nI us)) 26 (nI 0)) 27 (ks (i + 1))) n cn ((i + 1) + 1) 5 en ks ps t vl2_36 wr wa (by omega) (hb) (hL) (not_end hend hn4 hw (by decide)) ((tq5 (hK _ hn4)).mpr hw)) gX10_aRule_X10_need rfl 1 (by decide +kernel) ⟨by decide, by decide⟩ ⟨by decide, by decide⟩ 0 rfl rfl [0, 2] [1, 3, 4, 5] (wr := [gA E (ad 15) 620 fr, gA E (ad 12) 12 (upd sa nr (ks (i + 1))), gA E (ad 13) 12 (upd sk nr (-1)), gA E (ad 14) 13 (upd fm nr (nI us))]) rfl (by decide) rfl (by decide) (by decide) rfl rfl (Nat.le_of_ble_eq_true rfl) dX10_aRule_132 ?_
            rintro _ _ ⟨vl2_132, rfl, rfl, hv_132⟩
            refine gg.perm (ws' := [gO h 10 (tF ad (upd (upd (upd (upd (upd (upd (upd (upd (upd (upd (upd iv 6 (nI (nr + 1))) 7 (nI us)) 18 (nI n)) 19 (nI (en (((i + 1) + 1) + 1)))) 20 (tkT (ks (((i + 1) + 1) + 1)))) 21 (ps (((i + 1) + 1) + 1))) 22 vl2_132) 23 wr) 24 wa) 26 (nI 0)) 27 (ks (i + 1)))), gA E (ad 15) 620 fr, gA E (ad 17) 600 t, gA E (ad 12) 12 (upd sa nr (ks (i + 1))), gA E (ad 13) 12 (upd sk nr (-1)), gA E (ad 14) 13 (upd fm nr (nI us))]) [4, 0, 5, 1, 2, 3] (by decide) rfl ?_
            show gg E _ 1 X 0 0 135 [some (.ref h)] [.int (nI 1)] [gO h 10 (tF ad (upd (upd (upd (upd (upd (upd (upd (upd (upd (upd (upd iv 6 (nI (nr + 1))) 7 (nI us)) 18 (nI n)) 19 (nI (en (((i + 1) + 1) + 1)))) 20 (tkT (ks (((i + 1) + 1) + 1)))) 21 (ps (((i + 1) + 1) + 1))) 22 vl2_132) 23 wr) 24 wa) 26 (nI 0)) 27 (ks (i + 1)))), gA E (ad 15) 620 fr, gA E (ad 17) 600 t, gA E (ad 12) 12 (upd sa nr (ks (i + 1))), gA E (ad 13) 12 (upd sk nr (-1)), gA E (ad 14) 13 (upd fm nr (nI us))]
            refine g_if_eq (tgt := 158) C dX10_aRule_135 (by decide) (fun c135 => absurd c135 (by decide)) (fun c135 => ?_)
            have hn5 := not_end hend hn4 hw (by decide)
            refine g_aload_n C dX10_aRule_138 rfl ?_
            refine g_callV C (c_X10_any_8 E h ad (upd (upd iv 6 (nI (nr + 1))) 27 (ks (i + 1))) n cn us (((i + 1) + 1) + 1) en ks ps fr t vl2_132 wr wa (by omega) (hb) (hL) (hK) (hend) (by omega) (by omega) (hv_132) (by omega)) gX10_aRule_X10_any rfl 0 (by decide +kernel) ⟨by decide, by decide⟩ ⟨by decide, by decide⟩ 0 rfl rfl [0, 1, 2] [3, 4, 5] (wr := [gA E (ad 12) 12 (upd sa nr (ks (i + 1))), gA E (ad 13) 12 (upd sk nr (-1)), gA E (ad 14) 13 (upd fm nr (nI us))]) rfl (by decide) rfl (by decide) (by decide) rfl rfl (Nat.le_of_ble_eq_true rfl) dX10_aRule_139 ?_
            rintro _ _ ⟨ok_139, j_139, us2_139, fr2_139, vl2_139, wr2_139, wa2_139, dp2_139, rfl, rfl, hq_139, hv_139, hd_139⟩
            refine gg.perm (ws' := [gO h 10 (tF ad (upd (upd (upd (upd (upd (upd (upd (upd (upd (upd (upd iv 6 (nI (nr + 1))) 7 (nI us2_139)) 18 (nI n)) 19 (nI (en j_139))) 20 (tkT (ks j_139))) 21 (ps j_139)) 22 vl2_139) 23 wr2_139) 24 wa2_139) 26 dp2_139) 27 (ks (i + 1)))), gA E (ad 15) 620 fr2_139, gA E (ad 17) 600 t, gA E (ad 12) 12 (upd sa nr (ks (i + 1))), gA E (ad 13) 12 (upd sk nr (-1)), gA E (ad 14) 13 (upd fm nr (nI us))]) [3, 4, 5, 0, 1, 2] (by decide) rfl ?_
            show gg E _ 1 X 0 0 142 [some (.ref h)] [.int (b2i ok_139)] [gO h 10 (tF ad (upd (upd (upd (upd (upd (upd (upd (upd (upd (upd (upd iv 6 (nI (nr + 1))) 7 (nI us2_139)) 18 (nI n)) 19 (nI (en j_139))) 20 (tkT (ks j_139))) 21 (ps j_139)) 22 vl2_139) 23 wr2_139) 24 wa2_139) 26 dp2_139) 27 (ks (i + 1)))), gA E (ad 15) 620 fr2_139, gA E (ad 17) 600 t, gA E (ad 12) 12 (upd sa nr (ks (i + 1))), gA E (ad 13) 12 (upd sk nr (-1)), gA E (ad 14) 13 (upd fm nr (nI us))]
            rcases rdT_two hq_139 with ⟨C_139, hr_139, rfl, rfl, rfl, rfl, rfl, b1_139, b2_139, b3_139⟩ | ⟨kd_139, ix_139, hr_139, rfl, rfl, rfl, b1_139, b2_139, b3_139, b4_139⟩
            · obtain rfl := hd_139 rfl
              refine g_if_eq (tgt := 158) C dX10_aRule_142 (by decide) (fun c142 => absurd c142 (by decide)) (fun c142 => ?_)
              refine g_aload_n C dX10_aRule_145 rfl ?_
              rcases Classical.em (ks j_139 = nI 1159) with hs | hs
              · refine g_bipush (v := nI 59) C dX10_aRule_146 (by decide) ?_
                refine g_callV C (c_X10_need_y E h ad (upd (upd (upd (upd iv 6 (nI (nr + 1))) 7 (nI (us + C_139.length))) 26 (nI 0)) 27 (ks (i + 1))) n cn j_139 59 en ks ps t vl2_139 wr wa (by omega) (hb) (hL) (not_end hend b2_139 hs (by decide)) ((tq59 (hK _ b2_139)).mpr hs)) gX10_aRule_X10_need rfl 1 (by decide +kernel) ⟨by decide, by decide⟩ ⟨by decide, by decide⟩ 0 rfl rfl [0, 2] [1, 3, 4, 5] (wr := [gA E (ad 15) 620 (cdW fr us (C_139.map trJ)), gA E (ad 12) 12 (upd sa nr (ks (i + 1))), gA E (ad 13) 12 (upd sk nr (-1)), gA E (ad 14) 13 (upd fm nr (nI us))]) rfl (by decide) rfl (by decide) (by decide) rfl rfl (Nat.le_of_ble_eq_true rfl) dX10_aRule_148 ?_
                rintro _ _ ⟨vl2_148, rfl, rfl, hv_148⟩
                refine gg.perm (ws' := [gO h 10 (tF ad (upd (upd (upd (upd (upd (upd (upd (upd (upd (upd (upd iv 6 (nI (nr + 1))) 7 (nI (us + C_139.length))) 18 (nI n)) 19 (nI (en (j_139 + 1)))) 20 (tkT (ks (j_139 + 1)))) 21 (ps (j_139 + 1))) 22 vl2_148) 23 wr) 24 wa) 26 (nI 0)) 27 (ks (i + 1)))), gA E (ad 15) 620 (cdW fr us (C_139.map trJ)), gA E (ad 17) 600 t, gA E (ad 12) 12 (upd sa nr (ks (i + 1))), gA E (ad 13) 12 (upd sk nr (-1)), gA E (ad 14) 13 (upd fm nr (nI us))]) [4, 0, 5, 1, 2, 3] (by decide) rfl ?_
                show gg E _ 1 X 0 0 151 [some (.ref h)] [.int (nI 1)] [gO h 10 (tF ad (upd (upd (upd (upd (upd (upd (upd (upd (upd (upd (upd iv 6 (nI (nr + 1))) 7 (nI (us + C_139.length))) 18 (nI n)) 19 (nI (en (j_139 + 1)))) 20 (tkT (ks (j_139 + 1)))) 21 (ps (j_139 + 1))) 22 vl2_148) 23 wr) 24 wa) 26 (nI 0)) 27 (ks (i + 1)))), gA E (ad 15) 620 (cdW fr us (C_139.map trJ)), gA E (ad 17) 600 t, gA E (ad 12) 12 (upd sa nr (ks (i + 1))), gA E (ad 13) 12 (upd sk nr (-1)), gA E (ad 14) 13 (upd fm nr (nI us))]
                refine g_if_eq (tgt := 158) C dX10_aRule_151 (by decide) (fun c151 => absurd c151 (by decide)) (fun c151 => ?_)
                refine g_iconst (v := nI 1) C dX10_aRule_154 (by decide) ?_
                refine g_goto (tgt := 159) C dX10_aRule_155 (by decide) ?_
                exact g_zret C Rt dX10_aRule_159 (by decide) (by decide) (by decide) (⟨true, _, _, _, _, _, _, _, _, _, _, _, _, rfl, rfl, rdA_ok (by rw [pRule, if_pos e3, if_pos h12, if_neg h1, if_neg h2, pSkl, if_neg (fun z => c72 ((tq4 (hK _ hn2)).mpr z)), pWhen, if_pos hw, hr_139]; exact if_pos hs) (by omega) (not_end hend b2_139 hs (by decide)) (by omega) rfl rfl h12, hv_148⟩)
              · refine g_bipush (v := nI 59) C dX10_aRule_146 (by decide) ?_
                refine g_callV C (c_X10_need_n E h ad (upd (upd (upd (upd iv 6 (nI (nr + 1))) 7 (nI (us + C_139.length))) 26 (nI 0)) 27 (ks (i + 1))) n cn j_139 59 en ks ps t vl2_139 wr wa (fun z => hs ((tq59 (hK _ b2_139)).mp z))) gX10_aRule_X10_need rfl 1 (by decide +kernel) ⟨by decide, by decide⟩ ⟨by decide, by decide⟩ 0 rfl rfl [0, 2] [1, 3, 4, 5] (wr := [gA E (ad 15) 620 (cdW fr us (C_139.map trJ)), gA E (ad 12) 12 (upd sa nr (ks (i + 1))), gA E (ad 13) 12 (upd sk nr (-1)), gA E (ad 14) 13 (upd fm nr (nI us))]) rfl (by decide) rfl (by decide) (by decide) rfl rfl (Nat.le_of_ble_eq_true rfl) dX10_aRule_148 ?_
                rintro _ _ ⟨rfl, rfl⟩
                refine gg.perm (ws' := [gO h 10 (tF ad (upd (upd (upd (upd (upd (upd (upd (upd (upd (upd (upd iv 6 (nI (nr + 1))) 7 (nI (us + C_139.length))) 18 (nI n)) 19 (nI (en j_139))) 20 (tkT (ks j_139))) 21 (ps j_139)) 22 vl2_139) 23 (nI 1)) 24 (ps j_139)) 26 (nI 0)) 27 (ks (i + 1)))), gA E (ad 15) 620 (cdW fr us (C_139.map trJ)), gA E (ad 17) 600 t, gA E (ad 12) 12 (upd sa nr (ks (i + 1))), gA E (ad 13) 12 (upd sk nr (-1)), gA E (ad 14) 13 (upd fm nr (nI us))]) [4, 0, 5, 1, 2, 3] (by decide) rfl ?_
                show gg E _ 1 X 0 0 151 [some (.ref h)] [.int (nI 0)] [gO h 10 (tF ad (upd (upd (upd (upd (upd (upd (upd (upd (upd (upd (upd iv 6 (nI (nr + 1))) 7 (nI (us + C_139.length))) 18 (nI n)) 19 (nI (en j_139))) 20 (tkT (ks j_139))) 21 (ps j_139)) 22 vl2_139) 23 (nI 1)) 24 (ps j_139)) 26 (nI 0)) 27 (ks (i + 1)))), gA E (ad 15) 620 (cdW fr us (C_139.map trJ)), gA E (ad 17) 600 t, gA E (ad 12) 12 (upd sa nr (ks (i + 1))), gA E (ad 13) 12 (upd sk nr (-1)), gA E (ad 14) 13 (upd fm nr (nI us))]
                refine g_if_eq (tgt := 158) C dX10_aRule_151 (by decide) (fun c151 => ?_) (fun c151 => absurd c151 (by decide))
                refine g_iconst (v := nI 0) C dX10_aRule_158 (by decide) ?_
                exact g_zret C Rt dX10_aRule_159 (by decide) (by decide) (by decide) (⟨false, _, _, _, _, _, _, _, _, _, _, _, _, rfl, rfl, rdA_er (by rw [pRule, if_pos e3, if_pos h12, if_neg h1, if_neg h2, pSkl, if_neg (fun z => c72 ((tq4 (hK _ hn2)).mpr z)), pWhen, if_pos hw, hr_139]; exact if_neg hs) (by omega) b2_139 (by omega) b2_139, hv_139⟩)
            · refine g_if_eq (tgt := 158) C dX10_aRule_142 (by decide) (fun c142 => ?_) (fun c142 => absurd c142 (by decide))
              refine g_iconst (v := nI 0) C dX10_aRule_158 (by decide) ?_
              exact g_zret C Rt dX10_aRule_159 (by decide) (by decide) (by decide) (⟨false, _, _, _, _, _, _, _, _, _, _, _, _, rfl, rfl, rdA_er (by rw [pRule, if_pos e3, if_pos h12, if_neg h1, if_neg h2, pSkl, if_neg (fun z => c72 ((tq4 (hK _ hn2)).mpr z)), pWhen, if_pos hw, hr_139]; rfl) (by omega) b2_139 (by omega) b4_139, hv_139⟩)
          · refine g_aload_n C dX10_aRule_130 rfl ?_
            refine g_iconst (v := nI 5) C dX10_aRule_131 (by decide) ?_
            refine g_callV C (c_X10_need_n E h ad (upd (upd (upd (upd iv 6 (nI (nr + 1))) 7 (nI us)) 26 (nI 0)) 27 (ks (i + 1))) n cn ((i + 1) + 1) 5 en ks ps t vl2_36 wr wa (fun z => hw ((tq5 (hK _ hn4)).mp z))) gX10_aRule_X10_need rfl 1 (by decide +kernel) ⟨by decide, by decide⟩ ⟨by decide, by decide⟩ 0 rfl rfl [0, 2] [1, 3, 4, 5] (wr := [gA E (ad 15) 620 fr, gA E (ad 12) 12 (upd sa nr (ks (i + 1))), gA E (ad 13) 12 (upd sk nr (-1)), gA E (ad 14) 13 (upd fm nr (nI us))]) rfl (by decide) rfl (by decide) (by decide) rfl rfl (Nat.le_of_ble_eq_true rfl) dX10_aRule_132 ?_
            rintro _ _ ⟨rfl, rfl⟩
            refine gg.perm (ws' := [gO h 10 (tF ad (upd (upd (upd (upd (upd (upd (upd (upd (upd (upd (upd iv 6 (nI (nr + 1))) 7 (nI us)) 18 (nI n)) 19 (nI (en ((i + 1) + 1)))) 20 (tkT (ks ((i + 1) + 1)))) 21 (ps ((i + 1) + 1))) 22 vl2_36) 23 (nI 1)) 24 (ps ((i + 1) + 1))) 26 (nI 0)) 27 (ks (i + 1)))), gA E (ad 15) 620 fr, gA E (ad 17) 600 t, gA E (ad 12) 12 (upd sa nr (ks (i + 1))), gA E (ad 13) 12 (upd sk nr (-1)), gA E (ad 14) 13 (upd fm nr (nI us))]) [4, 0, 5, 1, 2, 3] (by decide) rfl ?_
            show gg E _ 1 X 0 0 135 [some (.ref h)] [.int (nI 0)] [gO h 10 (tF ad (upd (upd (upd (upd (upd (upd (upd (upd (upd (upd (upd iv 6 (nI (nr + 1))) 7 (nI us)) 18 (nI n)) 19 (nI (en ((i + 1) + 1)))) 20 (tkT (ks ((i + 1) + 1)))) 21 (ps ((i + 1) + 1))) 22 vl2_36) 23 (nI 1)) 24 (ps ((i + 1) + 1))) 26 (nI 0)) 27 (ks (i + 1)))), gA E (ad 15) 620 fr, gA E (ad 17) 600 t, gA E (ad 12) 12 (upd sa nr (ks (i + 1))), gA E (ad 13) 12 (upd sk nr (-1)), gA E (ad 14) 13 (upd fm nr (nI us))]
            refine g_if_eq (tgt := 158) C dX10_aRule_135 (by decide) (fun c135 => ?_) (fun c135 => absurd c135 (by decide))
            refine g_iconst (v := nI 0) C dX10_aRule_158 (by decide) ?_
            exact g_zret C Rt dX10_aRule_159 (by decide) (by decide) (by decide) (⟨false, _, _, _, _, _, _, _, _, _, _, _, _, rfl, rfl, rdA_er (by rw [pRule, if_pos e3, if_pos h12, if_neg h1, if_neg h2, pSkl, if_neg (fun z => c72 ((tq4 (hK _ hn2)).mpr z)), pWhen, if_neg hw]) (by omega) (by omega) (by omega) (by omega), hv_36⟩)
        · have e4 := (tq4 (hK _ hn2)).mp c72
          have hn3 := not_end hend hn2 e4 (by decide)
          refine g_aload_n C dX10_aRule_75 rfl ?_
          refine g_callV C (c_X10_nextT E h ad (upd (upd (upd (upd (upd (upd iv 6 (nI nr)) 7 (nI us)) 23 wr) 24 wa) 26 dp) 27 (ks (i + 1))) n cn ((i + 1) + 1) en ks ps t (tkT (ks ((i + 1) + 1))) (ps ((i + 1) + 1)) vl2_36 (by omega) (hb) (hL) (hn3)) gX10_aRule_X10_next0 rfl 0 (by decide +kernel) ⟨by decide, by decide⟩ ⟨by decide, by decide⟩ 0 rfl rfl [0, 2] [1, 3, 4, 5] (wr := [gA E (ad 15) 620 fr, gA E (ad 12) 12 (upd sa nr (ks (i + 1))), gA E (ad 13) 12 (upd sk nr (-1)), gA E (ad 14) 13 fm]) rfl (by decide) rfl (by decide) (by decide) rfl rfl (Nat.le_of_ble_eq_true rfl) dX10_aRule_76 ?_
          rintro _ _ ⟨vl2_76, rfl, rfl, hv_76⟩
          refine gg.perm (ws' := [gO h 10 (tF ad (upd (upd (upd (upd (upd (upd (upd (upd (upd (upd (upd iv 6 (nI nr)) 7 (nI us)) 18 (nI n)) 19 (nI (en (((i + 1) + 1) + 1)))) 20 (tkT (ks (((i + 1) + 1) + 1)))) 21 (ps (((i + 1) + 1) + 1))) 22 vl2_76) 23 wr) 24 wa) 26 dp) 27 (ks (i + 1)))), gA E (ad 15) 620 fr, gA E (ad 17) 600 t, gA E (ad 12) 12 (upd sa nr (ks (i + 1))), gA E (ad 13) 12 (upd sk nr (-1)), gA E (ad 14) 13 fm]) [4, 0, 5, 1, 2, 3] (by decide) rfl ?_
          show gg E _ 1 X 0 0 79 [some (.ref h)] [] [gO h 10 (tF ad (upd (upd (upd (upd (upd (upd (upd (upd (upd (upd (upd iv 6 (nI nr)) 7 (nI us)) 18 (nI n)) 19 (nI (en (((i + 1) + 1) + 1)))) 20 (tkT (ks (((i + 1) + 1) + 1)))) 21 (ps (((i + 1) + 1) + 1))) 22 vl2_76) 23 wr) 24 wa) 26 dp) 27 (ks (i + 1)))), gA E (ad 15) 620 fr, gA E (ad 17) 600 t, gA E (ad 12) 12 (upd sa nr (ks (i + 1))), gA E (ad 13) 12 (upd sk nr (-1)), gA E (ad 14) 13 fm]
          rcases num3 (ks (((i + 1) + 1) + 1)) 4 with g1 | ⟨g1, g2⟩ | ⟨g1, g2⟩
          · refine g_aload_n C dX10_aRule_79 rfl ?_
            refine g_iconst (v := nI 4) C dX10_aRule_80 (by decide) ?_
            refine g_callV C (c_X10_aNumber_1 E h ad (upd (upd (upd iv 6 (nI nr)) 7 (nI us)) 26 dp) n cn (((i + 1) + 1) + 1) 4 en ks ps t vl2_76 wr wa (ks (i + 1)) (hK _ hn3) (g1)) gX10_aRule_X10_aNumber rfl 1 (by decide +kernel) ⟨by decide, by decide⟩ ⟨by decide, by decide⟩ 0 rfl rfl [0, 2] [1, 3, 4, 5] (wr := [gA E (ad 15) 620 fr, gA E (ad 12) 12 (upd sa nr (ks (i + 1))), gA E (ad 13) 12 (upd sk nr (-1)), gA E (ad 14) 13 fm]) rfl (by decide) rfl (by decide) (by decide) rfl rfl (Nat.le_of_ble_eq_true rfl) dX10_aRule_81 ?_
            rintro _ _ ⟨rfl, rfl⟩
            refine gg.perm (ws' := [gO h 10 (tF ad (upd (upd (upd (upd (upd (upd (upd (upd (upd (upd (upd iv 6 (nI nr)) 7 (nI us)) 18 (nI n)) 19 (nI (en (((i + 1) + 1) + 1)))) 20 (tkT (ks (((i + 1) + 1) + 1)))) 21 (ps (((i + 1) + 1) + 1))) 22 vl2_76) 23 (nI 1)) 24 (ps (((i + 1) + 1) + 1))) 26 dp) 27 (ks (i + 1)))), gA E (ad 15) 620 fr, gA E (ad 17) 600 t, gA E (ad 12) 12 (upd sa nr (ks (i + 1))), gA E (ad 13) 12 (upd sk nr (-1)), gA E (ad 14) 13 fm]) [4, 0, 5, 1, 2, 3] (by decide) rfl ?_
            show gg E _ 1 X 0 0 84 [some (.ref h)] [.int (nI 0)] [gO h 10 (tF ad (upd (upd (upd (upd (upd (upd (upd (upd (upd (upd (upd iv 6 (nI nr)) 7 (nI us)) 18 (nI n)) 19 (nI (en (((i + 1) + 1) + 1)))) 20 (tkT (ks (((i + 1) + 1) + 1)))) 21 (ps (((i + 1) + 1) + 1))) 22 vl2_76) 23 (nI 1)) 24 (ps (((i + 1) + 1) + 1))) 26 dp) 27 (ks (i + 1)))), gA E (ad 15) 620 fr, gA E (ad 17) 600 t, gA E (ad 12) 12 (upd sa nr (ks (i + 1))), gA E (ad 13) 12 (upd sk nr (-1)), gA E (ad 14) 13 fm]
            refine g_if_ne (tgt := 89) C dX10_aRule_84 (by decide) (fun c84 => absurd c84 (by decide)) (fun c84 => ?_)
            refine g_iconst (v := nI 0) C dX10_aRule_87 (by decide) ?_
            exact g_zret C Rt dX10_aRule_88 (by decide) (by decide) (by decide) (⟨false, _, _, _, _, _, _, _, _, _, _, _, _, rfl, rfl, rdA_er (by rw [pRule, if_pos e3, if_pos h12, if_neg h1, if_neg h2, pSkl, if_pos e4, if_pos g1]) (by omega) (by omega) (by omega) (by omega), hv_76⟩)
          · refine g_aload_n C dX10_aRule_79 rfl ?_
            refine g_iconst (v := nI 4) C dX10_aRule_80 (by decide) ?_
            refine g_callV C (c_X10_aNumber_2 E h ad (upd (upd (upd iv 6 (nI nr)) 7 (nI us)) 26 dp) n cn (((i + 1) + 1) + 1) 4 en ks ps t vl2_76 wr wa (ks (i + 1)) (hK _ hn3) (hv_76) (g1) (g2)) gX10_aRule_X10_aNumber rfl 1 (by decide +kernel) ⟨by decide, by decide⟩ ⟨by decide, by decide⟩ 0 rfl rfl [0, 2] [1, 3, 4, 5] (wr := [gA E (ad 15) 620 fr, gA E (ad 12) 12 (upd sa nr (ks (i + 1))), gA E (ad 13) 12 (upd sk nr (-1)), gA E (ad 14) 13 fm]) rfl (by decide) rfl (by decide) (by decide) rfl rfl (Nat.le_of_ble_eq_true rfl) dX10_aRule_81 ?_
            rintro _ _ ⟨rfl, rfl⟩
            refine gg.perm (ws' := [gO h 10 (tF ad (upd (upd (upd (upd (upd (upd (upd (upd (upd (upd (upd iv 6 (nI nr)) 7 (nI us)) 18 (nI n)) 19 (nI (en (((i + 1) + 1) + 1)))) 20 (tkT (ks (((i + 1) + 1) + 1)))) 21 (ps (((i + 1) + 1) + 1))) 22 vl2_76) 23 (nI 2)) 24 (ps (((i + 1) + 1) + 1))) 26 dp) 27 (ks (i + 1)))), gA E (ad 15) 620 fr, gA E (ad 17) 600 t, gA E (ad 12) 12 (upd sa nr (ks (i + 1))), gA E (ad 13) 12 (upd sk nr (-1)), gA E (ad 14) 13 fm]) [4, 0, 5, 1, 2, 3] (by decide) rfl ?_
            show gg E _ 1 X 0 0 84 [some (.ref h)] [.int (nI 0)] [gO h 10 (tF ad (upd (upd (upd (upd (upd (upd (upd (upd (upd (upd (upd iv 6 (nI nr)) 7 (nI us)) 18 (nI n)) 19 (nI (en (((i + 1) + 1) + 1)))) 20 (tkT (ks (((i + 1) + 1) + 1)))) 21 (ps (((i + 1) + 1) + 1))) 22 vl2_76) 23 (nI 2)) 24 (ps (((i + 1) + 1) + 1))) 26 dp) 27 (ks (i + 1)))), gA E (ad 15) 620 fr, gA E (ad 17) 600 t, gA E (ad 12) 12 (upd sa nr (ks (i + 1))), gA E (ad 13) 12 (upd sk nr (-1)), gA E (ad 14) 13 fm]
            refine g_if_ne (tgt := 89) C dX10_aRule_84 (by decide) (fun c84 => absurd c84 (by decide)) (fun c84 => ?_)
            refine g_iconst (v := nI 0) C dX10_aRule_87 (by decide) ?_
            exact g_zret C Rt dX10_aRule_88 (by decide) (by decide) (by decide) (⟨false, _, _, _, _, _, _, _, _, _, _, _, _, rfl, rfl, rdA_er (by rw [pRule, if_pos e3, if_pos h12, if_neg h1, if_neg h2, pSkl, if_pos e4, if_neg g1, if_pos g2]) (by omega) (by omega) (by omega) (by omega), hv_76⟩)
          · refine g_aload_n C dX10_aRule_79 rfl ?_
            refine g_iconst (v := nI 4) C dX10_aRule_80 (by decide) ?_
            refine g_callV C (c_X10_aNumber_y E h ad (upd (upd (upd iv 6 (nI nr)) 7 (nI us)) 26 dp) n cn (((i + 1) + 1) + 1) 4 en ks ps t vl2_76 wr wa (ks (i + 1)) (by omega) (hb) (hL) (not_end hend hn3 rfl (fun e => g1 (by rw [e]; decide))) (hK _ hn3) (hv_76) (g1) (g2)) gX10_aRule_X10_aNumber rfl 1 (by decide +kernel) ⟨by decide, by decide⟩ ⟨by decide, by decide⟩ 0 rfl rfl [0, 2] [1, 3, 4, 5] (wr := [gA E (ad 15) 620 fr, gA E (ad 12) 12 (upd sa nr (ks (i + 1))), gA E (ad 13) 12 (upd sk nr (-1)), gA E (ad 14) 13 fm]) rfl (by decide) rfl (by decide) (by decide) rfl rfl (Nat.le_of_ble_eq_true rfl) dX10_aRule_81 ?_
            rintro _ _ ⟨vl2_81, rfl, rfl, hv_81⟩
            refine gg.perm (ws' := [gO h 10 (tF ad (upd (upd (upd (upd (upd (upd (upd (upd (upd (upd (upd iv 6 (nI nr)) 7 (nI us)) 18 (nI n)) 19 (nI (en ((((i + 1) + 1) + 1) + 1)))) 20 (tkT (ks ((((i + 1) + 1) + 1) + 1)))) 21 (ps ((((i + 1) + 1) + 1) + 1))) 22 vl2_81) 23 wr) 24 wa) 26 dp) 27 (ks (((i + 1) + 1) + 1)))), gA E (ad 15) 620 fr, gA E (ad 17) 600 t, gA E (ad 12) 12 (upd sa nr (ks (i + 1))), gA E (ad 13) 12 (upd sk nr (-1)), gA E (ad 14) 13 fm]) [4, 0, 5, 1, 2, 3] (by decide) rfl ?_
            show gg E _ 1 X 0 0 84 [some (.ref h)] [.int (nI 1)] [gO h 10 (tF ad (upd (upd (upd (upd (upd (upd (upd (upd (upd (upd (upd iv 6 (nI nr)) 7 (nI us)) 18 (nI n)) 19 (nI (en ((((i + 1) + 1) + 1) + 1)))) 20 (tkT (ks ((((i + 1) + 1) + 1) + 1)))) 21 (ps ((((i + 1) + 1) + 1) + 1))) 22 vl2_81) 23 wr) 24 wa) 26 dp) 27 (ks (((i + 1) + 1) + 1)))), gA E (ad 15) 620 fr, gA E (ad 17) 600 t, gA E (ad 12) 12 (upd sa nr (ks (i + 1))), gA E (ad 13) 12 (upd sk nr (-1)), gA E (ad 14) 13 fm]
            refine g_if_ne (tgt := 89) C dX10_aRule_84 (by decide) (fun c84 => ?_) (fun c84 => absurd c84 (by decide))
            refine g_aload_n C dX10_aRule_89 rfl ?_
            refine g_get C i_X10 0 13 f_37 rfl rfl (by decide) rfl rfl dX10_aRule_90 ?_
            refine g_aload_n C dX10_aRule_93 rfl ?_
            refine g_get C i_X10 0 6 f_217 rfl rfl (by decide) rfl rfl dX10_aRule_94 ?_
            refine g_aload_n C dX10_aRule_97 rfl ?_
            refine g_get C i_X10 0 27 f_182 rfl rfl (by decide) rfl rfl dX10_aRule_98 ?_
            refine g_iast C 4 nr rfl rfl (by omega) (by decide) dX10_aRule_101 (ws' := [gO h 10 (tF ad (upd (upd (upd (upd (upd (upd (upd (upd (upd (upd (upd iv 6 (nI nr)) 7 (nI us)) 18 (nI n)) 19 (nI (en ((((i + 1) + 1) + 1) + 1)))) 20 (tkT (ks ((((i + 1) + 1) + 1) + 1)))) 21 (ps ((((i + 1) + 1) + 1) + 1))) 22 vl2_81) 23 wr) 24 wa) 26 dp) 27 (ks (((i + 1) + 1) + 1)))), gA E (ad 15) 620 fr, gA E (ad 17) 600 t, gA E (ad 12) 12 (upd sa nr (ks (i + 1))), gA E (ad 13) 12 (upd (upd sk nr (-1)) nr (ks (((i + 1) + 1) + 1))), gA E (ad 14) 13 fm]) rfl ?_
            have hn4 := not_end hend hn3 rfl (fun e => g1 (by rw [e]; decide))
            refine g_aload_n C dX10_aRule_102 rfl ?_
            rw [upd_upd]
            refine g_get C i_X10 0 14 f_40 rfl rfl (by decide) rfl rfl dX10_aRule_103 ?_
            refine g_aload_n C dX10_aRule_106 rfl ?_
            refine g_get C i_X10 0 6 f_217 rfl rfl (by decide) rfl rfl dX10_aRule_107 ?_
            refine g_aload_n C dX10_aRule_110 rfl ?_
            refine g_get C i_X10 0 7 f_185 rfl rfl (by decide) rfl rfl dX10_aRule_111 ?_
            refine g_iast C 5 nr rfl rfl (by omega) (by decide) dX10_aRule_114 (ws' := [gO h 10 (tF ad (upd (upd (upd (upd (upd (upd (upd (upd (upd (upd (upd iv 6 (nI nr)) 7 (nI us)) 18 (nI n)) 19 (nI (en ((((i + 1) + 1) + 1) + 1)))) 20 (tkT (ks ((((i + 1) + 1) + 1) + 1)))) 21 (ps ((((i + 1) + 1) + 1) + 1))) 22 vl2_81) 23 wr) 24 wa) 26 dp) 27 (ks (((i + 1) + 1) + 1)))), gA E (ad 15) 620 fr, gA E (ad 17) 600 t, gA E (ad 12) 12 (upd sa nr (ks (i + 1))), gA E (ad 13) 12 (upd sk nr (ks (((i + 1) + 1) + 1))), gA E (ad 14) 13 (upd fm nr (nI us))]) rfl ?_
            refine g_aload_n C dX10_aRule_115 rfl ?_
            refine g_dup C dX10_aRule_116 rfl ?_
            refine g_get C i_X10 0 6 f_217 rfl rfl (by decide) rfl rfl dX10_aRule_117 ?_
            refine g_iconst (v := nI 1) C dX10_aRule_120 (by decide) ?_
            refine g_iadd_n C dX10_aRule_121 ?_
            refine g_put C i_X10 tyX10 tyX10_ok nmX10 0 6 f_217 rfl rfl (by decide) rfl rfl rfl rfl rfl (Nat.le_of_ble_eq_true rfl) dX10_aRule_122 (ws' := [gO h 10 (tF ad (upd (upd (upd (upd (upd (upd (upd (upd (upd (upd (upd iv 6 (nI (nr + 1))) 7 (nI us)) 18 (nI n)) 19 (nI (en ((((i + 1) + 1) + 1) + 1)))) 20 (tkT (ks ((((i + 1) + 1) + 1) + 1)))) 21 (ps ((((i + 1) + 1) + 1) + 1))) 22 vl2_81) 23 wr) 24 wa) 26 dp) 27 (ks (((i + 1) + 1) + 1)))), gA E (ad 15) 620 fr, gA E (ad 17) 600 t, gA E (ad 12) 12 (upd sa nr (ks (i + 1))), gA E (ad 13) 12 (upd sk nr (ks (((i + 1) + 1) + 1))), gA E (ad 14) 13 (upd fm nr (nI us))]) rfl ?_
            refine g_aload_n C dX10_aRule_125 rfl ?_
            refine g_iconst (v := nI 0) C dX10_aRule_126 (by decide) ?_
            refine g_put C i_X10 tyX10 tyX10_ok nmX10 0 26 f_188 rfl rfl (by decide) rfl rfl rfl rfl rfl (Nat.le_of_ble_eq_true rfl) dX10_aRule_127 (ws' := [gO h 10 (tF ad (upd (upd (upd (upd (upd (upd (upd (upd (upd (upd (upd iv 6 (nI (nr + 1))) 7 (nI us)) 18 (nI n)) 19 (nI (en ((((i + 1) + 1) + 1) + 1)))) 20 (tkT (ks ((((i + 1) + 1) + 1) + 1)))) 21 (ps ((((i + 1) + 1) + 1) + 1))) 22 vl2_81) 23 wr) 24 wa) 26 (nI 0)) 27 (ks (((i + 1) + 1) + 1)))), gA E (ad 15) 620 fr, gA E (ad 17) 600 t, gA E (ad 12) 12 (upd sa nr (ks (i + 1))), gA E (ad 13) 12 (upd sk nr (ks (((i + 1) + 1) + 1))), gA E (ad 14) 13 (upd fm nr (nI us))]) rfl ?_
            rcases Classical.em (ks ((((i + 1) + 1) + 1) + 1) = nI 1002) with hw | hw
            · refine g_aload_n C dX10_aRule_130 rfl ?_
              refine g_iconst (v := nI 5) C dX10_aRule_131 (by decide) ?_
              refine g_callV C (c_X10_need_y E h ad (upd (upd (upd (upd iv 6 (nI (nr + 1))) 7 (nI us)) 26 (nI 0)) 27 (ks (((i + 1) + 1) + 1))) n cn ((((i + 1) + 1) + 1) + 1) 5 en ks ps t vl2_81 wr wa (by omega) (hb) (hL) (not_end hend hn4 hw (by decide)) ((tq5 (hK _ hn4)).mpr hw)) gX10_aRule_X10_need rfl 1 (by decide +kernel) ⟨by decide, by decide⟩ ⟨by decide, by decide⟩ 0 rfl rfl [0, 2] [1, 3, 4, 5] (wr := [gA E (ad 15) 620 fr, gA E (ad 12) 12 (upd sa nr (ks (i + 1))), gA E (ad 13) 12 (upd sk nr (ks (((i + 1) + 1) + 1))), gA E (ad 14) 13 (upd fm nr (nI us))]) rfl (by decide) rfl (by decide) (by decide) rfl rfl (Nat.le_of_ble_eq_true rfl) dX10_aRule_132 ?_
              rintro _ _ ⟨vl2_132, rfl, rfl, hv_132⟩
              refine gg.perm (ws' := [gO h 10 (tF ad (upd (upd (upd (upd (upd (upd (upd (upd (upd (upd (upd iv 6 (nI (nr + 1))) 7 (nI us)) 18 (nI n)) 19 (nI (en (((((i + 1) + 1) + 1) + 1) + 1)))) 20 (tkT (ks (((((i + 1) + 1) + 1) + 1) + 1)))) 21 (ps (((((i + 1) + 1) + 1) + 1) + 1))) 22 vl2_132) 23 wr) 24 wa) 26 (nI 0)) 27 (ks (((i + 1) + 1) + 1)))), gA E (ad 15) 620 fr, gA E (ad 17) 600 t, gA E (ad 12) 12 (upd sa nr (ks (i + 1))), gA E (ad 13) 12 (upd sk nr (ks (((i + 1) + 1) + 1))), gA E (ad 14) 13 (upd fm nr (nI us))]) [4, 0, 5, 1, 2, 3] (by decide) rfl ?_
              show gg E _ 1 X 0 0 135 [some (.ref h)] [.int (nI 1)] [gO h 10 (tF ad (upd (upd (upd (upd (upd (upd (upd (upd (upd (upd (upd iv 6 (nI (nr + 1))) 7 (nI us)) 18 (nI n)) 19 (nI (en (((((i + 1) + 1) + 1) + 1) + 1)))) 20 (tkT (ks (((((i + 1) + 1) + 1) + 1) + 1)))) 21 (ps (((((i + 1) + 1) + 1) + 1) + 1))) 22 vl2_132) 23 wr) 24 wa) 26 (nI 0)) 27 (ks (((i + 1) + 1) + 1)))), gA E (ad 15) 620 fr, gA E (ad 17) 600 t, gA E (ad 12) 12 (upd sa nr (ks (i + 1))), gA E (ad 13) 12 (upd sk nr (ks (((i + 1) + 1) + 1))), gA E (ad 14) 13 (upd fm nr (nI us))]
              refine g_if_eq (tgt := 158) C dX10_aRule_135 (by decide) (fun c135 => absurd c135 (by decide)) (fun c135 => ?_)
              have hn5 := not_end hend hn4 hw (by decide)
              refine g_aload_n C dX10_aRule_138 rfl ?_
              refine g_callV C (c_X10_any_8 E h ad (upd (upd iv 6 (nI (nr + 1))) 27 (ks (((i + 1) + 1) + 1))) n cn us (((((i + 1) + 1) + 1) + 1) + 1) en ks ps fr t vl2_132 wr wa (by omega) (hb) (hL) (hK) (hend) (by omega) (by omega) (hv_132) (by omega)) gX10_aRule_X10_any rfl 0 (by decide +kernel) ⟨by decide, by decide⟩ ⟨by decide, by decide⟩ 0 rfl rfl [0, 1, 2] [3, 4, 5] (wr := [gA E (ad 12) 12 (upd sa nr (ks (i + 1))), gA E (ad 13) 12 (upd sk nr (ks (((i + 1) + 1) + 1))), gA E (ad 14) 13 (upd fm nr (nI us))]) rfl (by decide) rfl (by decide) (by decide) rfl rfl (Nat.le_of_ble_eq_true rfl) dX10_aRule_139 ?_
              rintro _ _ ⟨ok_139, j_139, us2_139, fr2_139, vl2_139, wr2_139, wa2_139, dp2_139, rfl, rfl, hq_139, hv_139, hd_139⟩
              refine gg.perm (ws' := [gO h 10 (tF ad (upd (upd (upd (upd (upd (upd (upd (upd (upd (upd (upd iv 6 (nI (nr + 1))) 7 (nI us2_139)) 18 (nI n)) 19 (nI (en j_139))) 20 (tkT (ks j_139))) 21 (ps j_139)) 22 vl2_139) 23 wr2_139) 24 wa2_139) 26 dp2_139) 27 (ks (((i + 1) + 1) + 1)))), gA E (ad 15) 620 fr2_139, gA E (ad 17) 600 t, gA E (ad 12) 12 (upd sa nr (ks (i + 1))), gA E (ad 13) 12 (upd sk nr (ks (((i + 1) + 1) + 1))), gA E (ad 14) 13 (upd fm nr (nI us))]) [3, 4, 5, 0, 1, 2] (by decide) rfl ?_
              show gg E _ 1 X 0 0 142 [some (.ref h)] [.int (b2i ok_139)] [gO h 10 (tF ad (upd (upd (upd (upd (upd (upd (upd (upd (upd (upd (upd iv 6 (nI (nr + 1))) 7 (nI us2_139)) 18 (nI n)) 19 (nI (en j_139))) 20 (tkT (ks j_139))) 21 (ps j_139)) 22 vl2_139) 23 wr2_139) 24 wa2_139) 26 dp2_139) 27 (ks (((i + 1) + 1) + 1)))), gA E (ad 15) 620 fr2_139, gA E (ad 17) 600 t, gA E (ad 12) 12 (upd sa nr (ks (i + 1))), gA E (ad 13) 12 (upd sk nr (ks (((i + 1) + 1) + 1))), gA E (ad 14) 13 (upd fm nr (nI us))]
              rcases rdT_two hq_139 with ⟨C_139, hr_139, rfl, rfl, rfl, rfl, rfl, b1_139, b2_139, b3_139⟩ | ⟨kd_139, ix_139, hr_139, rfl, rfl, rfl, b1_139, b2_139, b3_139, b4_139⟩
              · obtain rfl := hd_139 rfl
                refine g_if_eq (tgt := 158) C dX10_aRule_142 (by decide) (fun c142 => absurd c142 (by decide)) (fun c142 => ?_)
                refine g_aload_n C dX10_aRule_145 rfl ?_
                rcases Classical.em (ks j_139 = nI 1159) with hs | hs
                · refine g_bipush (v := nI 59) C dX10_aRule_146 (by decide) ?_
                  refine g_callV C (c_X10_need_y E h ad (upd (upd (upd (upd iv 6 (nI (nr + 1))) 7 (nI (us + C_139.length))) 26 (nI 0)) 27 (ks (((i + 1) + 1) + 1))) n cn j_139 59 en ks ps t vl2_139 wr wa (by omega) (hb) (hL) (not_end hend b2_139 hs (by decide)) ((tq59 (hK _ b2_139)).mpr hs)) gX10_aRule_X10_need rfl 1 (by decide +kernel) ⟨by decide, by decide⟩ ⟨by decide, by decide⟩ 0 rfl rfl [0, 2] [1, 3, 4, 5] (wr := [gA E (ad 15) 620 (cdW fr us (C_139.map trJ)), gA E (ad 12) 12 (upd sa nr (ks (i + 1))), gA E (ad 13) 12 (upd sk nr (ks (((i + 1) + 1) + 1))), gA E (ad 14) 13 (upd fm nr (nI us))]) rfl (by decide) rfl (by decide) (by decide) rfl rfl (Nat.le_of_ble_eq_true rfl) dX10_aRule_148 ?_
                  rintro _ _ ⟨vl2_148, rfl, rfl, hv_148⟩
                  refine gg.perm (ws' := [gO h 10 (tF ad (upd (upd (upd (upd (upd (upd (upd (upd (upd (upd (upd iv 6 (nI (nr + 1))) 7 (nI (us + C_139.length))) 18 (nI n)) 19 (nI (en (j_139 + 1)))) 20 (tkT (ks (j_139 + 1)))) 21 (ps (j_139 + 1))) 22 vl2_148) 23 wr) 24 wa) 26 (nI 0)) 27 (ks (((i + 1) + 1) + 1)))), gA E (ad 15) 620 (cdW fr us (C_139.map trJ)), gA E (ad 17) 600 t, gA E (ad 12) 12 (upd sa nr (ks (i + 1))), gA E (ad 13) 12 (upd sk nr (ks (((i + 1) + 1) + 1))), gA E (ad 14) 13 (upd fm nr (nI us))]) [4, 0, 5, 1, 2, 3] (by decide) rfl ?_
                  show gg E _ 1 X 0 0 151 [some (.ref h)] [.int (nI 1)] [gO h 10 (tF ad (upd (upd (upd (upd (upd (upd (upd (upd (upd (upd (upd iv 6 (nI (nr + 1))) 7 (nI (us + C_139.length))) 18 (nI n)) 19 (nI (en (j_139 + 1)))) 20 (tkT (ks (j_139 + 1)))) 21 (ps (j_139 + 1))) 22 vl2_148) 23 wr) 24 wa) 26 (nI 0)) 27 (ks (((i + 1) + 1) + 1)))), gA E (ad 15) 620 (cdW fr us (C_139.map trJ)), gA E (ad 17) 600 t, gA E (ad 12) 12 (upd sa nr (ks (i + 1))), gA E (ad 13) 12 (upd sk nr (ks (((i + 1) + 1) + 1))), gA E (ad 14) 13 (upd fm nr (nI us))]
                  refine g_if_eq (tgt := 158) C dX10_aRule_151 (by decide) (fun c151 => absurd c151 (by decide)) (fun c151 => ?_)
                  refine g_iconst (v := nI 1) C dX10_aRule_154 (by decide) ?_
                  refine g_goto (tgt := 159) C dX10_aRule_155 (by decide) ?_
                  exact g_zret C Rt dX10_aRule_159 (by decide) (by decide) (by decide) (⟨true, _, _, _, _, _, _, _, _, _, _, _, _, rfl, rfl, rdA_ok (by rw [pRule, if_pos e3, if_pos h12, if_neg h1, if_neg h2, pSkl, if_pos e4, if_neg g1, if_neg g2, pWhen, if_pos hw, hr_139]; exact if_pos hs) (by omega) (not_end hend b2_139 hs (by decide)) (by omega) rfl rfl h12, hv_148⟩)
                · refine g_bipush (v := nI 59) C dX10_aRule_146 (by decide) ?_
                  refine g_callV C (c_X10_need_n E h ad (upd (upd (upd (upd iv 6 (nI (nr + 1))) 7 (nI (us + C_139.length))) 26 (nI 0)) 27 (ks (((i + 1) + 1) + 1))) n cn j_139 59 en ks ps t vl2_139 wr wa (fun z => hs ((tq59 (hK _ b2_139)).mp z))) gX10_aRule_X10_need rfl 1 (by decide +kernel) ⟨by decide, by decide⟩ ⟨by decide, by decide⟩ 0 rfl rfl [0, 2] [1, 3, 4, 5] (wr := [gA E (ad 15) 620 (cdW fr us (C_139.map trJ)), gA E (ad 12) 12 (upd sa nr (ks (i + 1))), gA E (ad 13) 12 (upd sk nr (ks (((i + 1) + 1) + 1))), gA E (ad 14) 13 (upd fm nr (nI us))]) rfl (by decide) rfl (by decide) (by decide) rfl rfl (Nat.le_of_ble_eq_true rfl) dX10_aRule_148 ?_
                  rintro _ _ ⟨rfl, rfl⟩
                  refine gg.perm (ws' := [gO h 10 (tF ad (upd (upd (upd (upd (upd (upd (upd (upd (upd (upd (upd iv 6 (nI (nr + 1))) 7 (nI (us + C_139.length))) 18 (nI n)) 19 (nI (en j_139))) 20 (tkT (ks j_139))) 21 (ps j_139)) 22 vl2_139) 23 (nI 1)) 24 (ps j_139)) 26 (nI 0)) 27 (ks (((i + 1) + 1) + 1)))), gA E (ad 15) 620 (cdW fr us (C_139.map trJ)), gA E (ad 17) 600 t, gA E (ad 12) 12 (upd sa nr (ks (i + 1))), gA E (ad 13) 12 (upd sk nr (ks (((i + 1) + 1) + 1))), gA E (ad 14) 13 (upd fm nr (nI us))]) [4, 0, 5, 1, 2, 3] (by decide) rfl ?_
                  show gg E _ 1 X 0 0 151 [some (.ref h)] [.int (nI 0)] [gO h 10 (tF ad (upd (upd (upd (upd (upd (upd (upd (upd (upd (upd (upd iv 6 (nI (nr + 1))) 7 (nI (us + C_139.length))) 18 (nI n)) 19 (nI (en j_139))) 20 (tkT (ks j_139))) 21 (ps j_139)) 22 vl2_139) 23 (nI 1)) 24 (ps j_139)) 26 (nI 0)) 27 (ks (((i + 1) + 1) + 1)))), gA E (ad 15) 620 (cdW fr us (C_139.map trJ)), gA E (ad 17) 600 t, gA E (ad 12) 12 (upd sa nr (ks (i + 1))), gA E (ad 13) 12 (upd sk nr (ks (((i + 1) + 1) + 1))), gA E (ad 14) 13 (upd fm nr (nI us))]
                  refine g_if_eq (tgt := 158) C dX10_aRule_151 (by decide) (fun c151 => ?_) (fun c151 => absurd c151 (by decide))
                  refine g_iconst (v := nI 0) C dX10_aRule_158 (by decide) ?_
                  exact g_zret C Rt dX10_aRule_159 (by decide) (by decide) (by decide) (⟨false, _, _, _, _, _, _, _, _, _, _, _, _, rfl, rfl, rdA_er (by rw [pRule, if_pos e3, if_pos h12, if_neg h1, if_neg h2, pSkl, if_pos e4, if_neg g1, if_neg g2, pWhen, if_pos hw, hr_139]; exact if_neg hs) (by omega) b2_139 (by omega) b2_139, hv_139⟩)
              · refine g_if_eq (tgt := 158) C dX10_aRule_142 (by decide) (fun c142 => ?_) (fun c142 => absurd c142 (by decide))
                refine g_iconst (v := nI 0) C dX10_aRule_158 (by decide) ?_
                exact g_zret C Rt dX10_aRule_159 (by decide) (by decide) (by decide) (⟨false, _, _, _, _, _, _, _, _, _, _, _, _, rfl, rfl, rdA_er (by rw [pRule, if_pos e3, if_pos h12, if_neg h1, if_neg h2, pSkl, if_pos e4, if_neg g1, if_neg g2, pWhen, if_pos hw, hr_139]; rfl) (by omega) b2_139 (by omega) b4_139, hv_139⟩)
            · refine g_aload_n C dX10_aRule_130 rfl ?_
              refine g_iconst (v := nI 5) C dX10_aRule_131 (by decide) ?_
              refine g_callV C (c_X10_need_n E h ad (upd (upd (upd (upd iv 6 (nI (nr + 1))) 7 (nI us)) 26 (nI 0)) 27 (ks (((i + 1) + 1) + 1))) n cn ((((i + 1) + 1) + 1) + 1) 5 en ks ps t vl2_81 wr wa (fun z => hw ((tq5 (hK _ hn4)).mp z))) gX10_aRule_X10_need rfl 1 (by decide +kernel) ⟨by decide, by decide⟩ ⟨by decide, by decide⟩ 0 rfl rfl [0, 2] [1, 3, 4, 5] (wr := [gA E (ad 15) 620 fr, gA E (ad 12) 12 (upd sa nr (ks (i + 1))), gA E (ad 13) 12 (upd sk nr (ks (((i + 1) + 1) + 1))), gA E (ad 14) 13 (upd fm nr (nI us))]) rfl (by decide) rfl (by decide) (by decide) rfl rfl (Nat.le_of_ble_eq_true rfl) dX10_aRule_132 ?_
              rintro _ _ ⟨rfl, rfl⟩
              refine gg.perm (ws' := [gO h 10 (tF ad (upd (upd (upd (upd (upd (upd (upd (upd (upd (upd (upd iv 6 (nI (nr + 1))) 7 (nI us)) 18 (nI n)) 19 (nI (en ((((i + 1) + 1) + 1) + 1)))) 20 (tkT (ks ((((i + 1) + 1) + 1) + 1)))) 21 (ps ((((i + 1) + 1) + 1) + 1))) 22 vl2_81) 23 (nI 1)) 24 (ps ((((i + 1) + 1) + 1) + 1))) 26 (nI 0)) 27 (ks (((i + 1) + 1) + 1)))), gA E (ad 15) 620 fr, gA E (ad 17) 600 t, gA E (ad 12) 12 (upd sa nr (ks (i + 1))), gA E (ad 13) 12 (upd sk nr (ks (((i + 1) + 1) + 1))), gA E (ad 14) 13 (upd fm nr (nI us))]) [4, 0, 5, 1, 2, 3] (by decide) rfl ?_
              show gg E _ 1 X 0 0 135 [some (.ref h)] [.int (nI 0)] [gO h 10 (tF ad (upd (upd (upd (upd (upd (upd (upd (upd (upd (upd (upd iv 6 (nI (nr + 1))) 7 (nI us)) 18 (nI n)) 19 (nI (en ((((i + 1) + 1) + 1) + 1)))) 20 (tkT (ks ((((i + 1) + 1) + 1) + 1)))) 21 (ps ((((i + 1) + 1) + 1) + 1))) 22 vl2_81) 23 (nI 1)) 24 (ps ((((i + 1) + 1) + 1) + 1))) 26 (nI 0)) 27 (ks (((i + 1) + 1) + 1)))), gA E (ad 15) 620 fr, gA E (ad 17) 600 t, gA E (ad 12) 12 (upd sa nr (ks (i + 1))), gA E (ad 13) 12 (upd sk nr (ks (((i + 1) + 1) + 1))), gA E (ad 14) 13 (upd fm nr (nI us))]
              refine g_if_eq (tgt := 158) C dX10_aRule_135 (by decide) (fun c135 => ?_) (fun c135 => absurd c135 (by decide))
              refine g_iconst (v := nI 0) C dX10_aRule_158 (by decide) ?_
              exact g_zret C Rt dX10_aRule_159 (by decide) (by decide) (by decide) (⟨false, _, _, _, _, _, _, _, _, _, _, _, _, rfl, rfl, rdA_er (by rw [pRule, if_pos e3, if_pos h12, if_neg h1, if_neg h2, pSkl, if_pos e4, if_neg g1, if_neg g2, pWhen, if_neg hw]) (by omega) (by omega) (by omega) (by omega), hv_81⟩)
    · refine g_aload_n C dX10_aRule_23 rfl ?_
      refine g_iconst (v := nI 3) C dX10_aRule_24 (by decide) ?_
      refine g_callV C (c_X10_bad E h ad (upd (upd (upd (upd (upd (upd (upd (upd iv 6 (nI nr)) 7 (nI us)) 18 (nI n)) 19 (nI (en i))) 20 (tkT (ks i))) 22 vl) 26 dp) 27 nu) 3 (ps i) wr wa ) gX10_aRule_X10_bad rfl 1 (by decide +kernel) ⟨by decide, by decide⟩ ⟨by decide, by decide⟩ 0 rfl rfl [0] [1, 2, 3, 4, 5] (wr := [gA E (ad 15) 620 fr, gA E (ad 17) 600 t, gA E (ad 12) 12 sa, gA E (ad 13) 12 sk, gA E (ad 14) 13 fm]) rfl (by decide) rfl (by decide) (by decide) rfl rfl (Nat.le_of_ble_eq_true rfl) dX10_aRule_25 ?_
      rintro _ _ ⟨rfl, rfl⟩
      refine gg.perm (ws' := [gO h 10 (tF ad (upd (upd (upd (upd (upd (upd (upd (upd (upd (upd (upd iv 6 (nI nr)) 7 (nI us)) 18 (nI n)) 19 (nI (en i))) 20 (tkT (ks i))) 21 (ps i)) 22 vl) 23 (nI 3)) 24 (ps i)) 26 dp) 27 nu)), gA E (ad 15) 620 fr, gA E (ad 17) 600 t, gA E (ad 12) 12 sa, gA E (ad 13) 12 sk, gA E (ad 14) 13 fm]) [5, 0, 1, 2, 3, 4] (by decide) rfl ?_
      show gg E _ 1 X 0 0 28 [some (.ref h)] [.int (nI 0)] [gO h 10 (tF ad (upd (upd (upd (upd (upd (upd (upd (upd (upd (upd (upd iv 6 (nI nr)) 7 (nI us)) 18 (nI n)) 19 (nI (en i))) 20 (tkT (ks i))) 21 (ps i)) 22 vl) 23 (nI 3)) 24 (ps i)) 26 dp) 27 nu)), gA E (ad 15) 620 fr, gA E (ad 17) 600 t, gA E (ad 12) 12 sa, gA E (ad 13) 12 sk, gA E (ad 14) 13 fm]
      exact g_zret C Rt dX10_aRule_28 (by decide) (by decide) (by decide) (⟨false, _, _, _, _, _, _, _, _, _, _, _, _, rfl, rfl, rdA_er (by rw [pRule, if_pos e3, if_neg (by omega)]) (by omega) (by omega) (by omega) (by omega), hv⟩)
  · refine g_aload_n C dX10_aRule_8 rfl ?_
    refine g_iconst (v := nI 1) C dX10_aRule_9 (by decide) ?_
    refine g_callV C (c_X10_bad E h ad (upd (upd (upd (upd (upd (upd (upd (upd iv 6 (nI nr)) 7 (nI us)) 18 (nI n)) 19 (nI (en i))) 20 (tkT (ks i))) 22 vl) 26 dp) 27 nu) 1 (ps i) wr wa ) gX10_aRule_X10_bad rfl 1 (by decide +kernel) ⟨by decide, by decide⟩ ⟨by decide, by decide⟩ 0 rfl rfl [0] [1, 2, 3, 4, 5] (wr := [gA E (ad 15) 620 fr, gA E (ad 17) 600 t, gA E (ad 12) 12 sa, gA E (ad 13) 12 sk, gA E (ad 14) 13 fm]) rfl (by decide) rfl (by decide) (by decide) rfl rfl (Nat.le_of_ble_eq_true rfl) dX10_aRule_10 ?_
    rintro _ _ ⟨rfl, rfl⟩
    refine gg.perm (ws' := [gO h 10 (tF ad (upd (upd (upd (upd (upd (upd (upd (upd (upd (upd (upd iv 6 (nI nr)) 7 (nI us)) 18 (nI n)) 19 (nI (en i))) 20 (tkT (ks i))) 21 (ps i)) 22 vl) 23 (nI 1)) 24 (ps i)) 26 dp) 27 nu)), gA E (ad 15) 620 fr, gA E (ad 17) 600 t, gA E (ad 12) 12 sa, gA E (ad 13) 12 sk, gA E (ad 14) 13 fm]) [5, 0, 1, 2, 3, 4] (by decide) rfl ?_
    show gg E _ 1 X 0 0 13 [some (.ref h)] [.int (nI 0)] [gO h 10 (tF ad (upd (upd (upd (upd (upd (upd (upd (upd (upd (upd (upd iv 6 (nI nr)) 7 (nI us)) 18 (nI n)) 19 (nI (en i))) 20 (tkT (ks i))) 21 (ps i)) 22 vl) 23 (nI 1)) 24 (ps i)) 26 dp) 27 nu)), gA E (ad 15) 620 fr, gA E (ad 17) 600 t, gA E (ad 12) 12 sa, gA E (ad 13) 12 sk, gA E (ad 14) 13 fm]
    exact g_zret C Rt dX10_aRule_13 (by decide) (by decide) (by decide) (⟨false, _, _, _, _, _, _, _, _, _, _, _, _, rfl, rfl, rdA_er (by rw [pRule, if_neg (fun z => c5 ((tq3 (hK i hi)).mpr z))]) (by omega) (by omega) (by omega) (by omega), hv⟩)

abbrev rm_c_X10_rules : Room := { frames := 33, cells := 0, slots := 0, locals := 676 }
set_option maxHeartbeats 4000000 in
set_option maxRecDepth 100000 in
theorem c_X10_rules (E : gE) (h : Nat) (ad : Nat → Nat) (iv : Nat → Int32) (n cn : Nat) (en : Nat → Nat) (ks ps t : Nat → Int32) (r5 fk fp x6 x7 x19 x20 x21 x22 x23 x24 x26 x27 : Int32) (bs bk fq sp sa sk fm fr : Nat → Int32) (hn : n ≤ 600) (hb : okY t n) (hL : twL t n cn ks ps en) (hK : ∀ q, q < cn → tkC (ks q)) (hend : ks (cn - 1) = nI 1011) (hcn : cn ≤ 601) (hc0 : 0 < cn) (h0 : ks 0 = nxK t n (enR t n 0 0) ∧ ps 0 = nI (enR t n 0 0) ∧ en 0 = nxE t n (enR t n 0 0)) : MM E yX10_rules wsX10_rules rm_c_X10_rules [.ref h] [gO h 10 (tF ad (upd (upd (upd (upd (upd (upd (upd (upd (upd (upd (upd (upd (upd (upd iv 5 r5) 6 x6) 7 x7) 18 (nI n)) 19 x19) 20 x20) 21 x21) 22 x22) 23 x23) 24 x24) 25 fk) 26 x26) 27 x27) 28 fp)), gA E (ad 8) 12 bs, gA E (ad 9) 12 bk, gA E (ad 10) 13 fq, gA E (ad 11) 620 sp, gA E (ad 12) 12 sa, gA E (ad 13) 12 sk, gA E (ad 14) 13 fm, gA E (ad 15) 620 fr, gA E (ad 17) 600 t] (fun rv_ ru_ => ∃ (rt r52 fk2 fp2 z6 z7 z19 z20 z21 z22 z23 z24 z26 z27 : Int32) (bs2 bk2 fq2 sp2 sa2 sk2 fm2 fr2 : Nat → Int32), rv_ = some (.int rt) ∧ ru_ = [gO h 10 (tF ad (upd (upd (upd (upd (upd (upd (upd (upd (upd (upd (upd (upd (upd (upd iv 5 r52) 6 z6) 7 z7) 18 (nI 0)) 19 z19) 20 z20) 21 z21) 22 z22) 23 z23) 24 z24) 25 fk2) 26 z26) 27 z27) 28 fp2)), gA E (ad 8) 12 bs2, gA E (ad 9) 12 bk2, gA E (ad 10) 13 fq2, gA E (ad 11) 620 sp2, gA E (ad 12) 12 sa2, gA E (ad 13) 12 sk2, gA E (ad 14) 13 fm2, gA E (ad 15) 620 fr2, gA E (ad 17) 600 t] ∧ (rlT (pRs ks 13 0 []) ps cn r5 bs bk fq sp rt r52 fk2 fp2 bs2 bk2 fq2 sp2)) := by
  refine MM.ofG (cc := cX10_rules) (maxL := 3) (ret := (some .int)) (by decide) rfl (Nat.le_of_ble_eq_true rfl) (ll := [some (.ref h), none, none]) rfl ?_
  intro X C Rt
  have C : gx E X cX10_rules 3 wsX10_rules RX10 := C
  have i_X10 : ∀ w ∈ u_ws RX10 TX10 40, w ∈ wsX10_rules := by decide +kernel
  have f_120 : Cond.fieldLink RX10 120 "MarkPagesModel" "taped" "I" ∈ wsX10_rules := by decide +kernel
  have f_145 : Cond.fieldLink RX10 145 "MarkPagesModel" "at" "I" ∈ wsX10_rules := by decide +kernel
  have f_154 : Cond.fieldLink RX10 154 "MarkPagesModel" "token" "I" ∈ wsX10_rules := by decide +kernel
  have f_170 : Cond.fieldLink RX10 170 "MarkPagesModel" "wrong" "I" ∈ wsX10_rules := by decide +kernel
  have f_173 : Cond.fieldLink RX10 173 "MarkPagesModel" "wrongAt" "I" ∈ wsX10_rules := by decide +kernel
  have f_185 : Cond.fieldLink RX10 185 "MarkPagesModel" "freshSteps" "I" ∈ wsX10_rules := by decide +kernel
  have f_217 : Cond.fieldLink RX10 217 "MarkPagesModel" "freshRules" "I" ∈ wsX10_rules := by decide +kernel
  have f_22 : Cond.fieldLink RX10 22 "MarkPagesModel" "saying" "[I" ∈ wsX10_rules := by decide +kernel
  have f_226 : Cond.fieldLink RX10 226 "MarkPagesModel" "faultKind" "I" ∈ wsX10_rules := by decide +kernel
  have f_229 : Cond.fieldLink RX10 229 "MarkPagesModel" "rules" "I" ∈ wsX10_rules := by decide +kernel
  have f_25 : Cond.fieldLink RX10 25 "MarkPagesModel" "skillOf" "[I" ∈ wsX10_rules := by decide +kernel
  have f_28 : Cond.fieldLink RX10 28 "MarkPagesModel" "from" "[I" ∈ wsX10_rules := by decide +kernel
  have f_31 : Cond.fieldLink RX10 31 "MarkPagesModel" "step" "[I" ∈ wsX10_rules := by decide +kernel
  have f_34 : Cond.fieldLink RX10 34 "MarkPagesModel" "freshSaying" "[I" ∈ wsX10_rules := by decide +kernel
  have f_37 : Cond.fieldLink RX10 37 "MarkPagesModel" "freshSkill" "[I" ∈ wsX10_rules := by decide +kernel
  have f_40 : Cond.fieldLink RX10 40 "MarkPagesModel" "freshFrom" "[I" ∈ wsX10_rules := by decide +kernel
  have f_43 : Cond.fieldLink RX10 43 "MarkPagesModel" "fresh" "[I" ∈ wsX10_rules := by decide +kernel
  have f_52 : Cond.fieldLink RX10 52 "MarkPagesModel" "faultPlace" "I" ∈ wsX10_rules := by decide +kernel
  refine g_aload_n C dX10_rules_0 rfl ?_
  refine g_iconst (v := nI 0) C dX10_rules_1 (by decide) ?_
  refine g_put C i_X10 tyX10 tyX10_ok nmX10 0 23 f_170 rfl rfl (by decide) rfl rfl rfl rfl rfl (Nat.le_of_ble_eq_true rfl) dX10_rules_2 (ws' := [gO h 10 (tF ad (upd (upd (upd (upd (upd (upd (upd (upd (upd (upd (upd (upd (upd (upd iv 5 r5) 6 x6) 7 x7) 18 (nI n)) 19 x19) 20 x20) 21 x21) 22 x22) 23 (nI 0)) 24 x24) 25 fk) 26 x26) 27 x27) 28 fp)), gA E (ad 8) 12 bs, gA E (ad 9) 12 bk, gA E (ad 10) 13 fq, gA E (ad 11) 620 sp, gA E (ad 12) 12 sa, gA E (ad 13) 12 sk, gA E (ad 14) 13 fm, gA E (ad 15) 620 fr, gA E (ad 17) 600 t]) rfl ?_
  refine g_aload_n C dX10_rules_5 rfl ?_
  refine g_iconst (v := nI 0) C dX10_rules_6 (by decide) ?_
  refine g_put C i_X10 tyX10 tyX10_ok nmX10 0 19 f_145 rfl rfl (by decide) rfl rfl rfl rfl rfl (Nat.le_of_ble_eq_true rfl) dX10_rules_7 (ws' := [gO h 10 (tF ad (upd (upd (upd (upd (upd (upd (upd (upd (upd (upd (upd (upd (upd (upd iv 5 r5) 6 x6) 7 x7) 18 (nI n)) 19 (nI 0)) 20 x20) 21 x21) 22 x22) 23 (nI 0)) 24 x24) 25 fk) 26 x26) 27 x27) 28 fp)), gA E (ad 8) 12 bs, gA E (ad 9) 12 bk, gA E (ad 10) 13 fq, gA E (ad 11) 620 sp, gA E (ad 12) 12 sa, gA E (ad 13) 12 sk, gA E (ad 14) 13 fm, gA E (ad 15) 620 fr, gA E (ad 17) 600 t]) rfl ?_
  refine g_aload_n C dX10_rules_10 rfl ?_
  refine g_iconst (v := nI 0) C dX10_rules_11 (by decide) ?_
  refine g_put C i_X10 tyX10 tyX10_ok nmX10 0 6 f_217 rfl rfl (by decide) rfl rfl rfl rfl rfl (Nat.le_of_ble_eq_true rfl) dX10_rules_12 (ws' := [gO h 10 (tF ad (upd (upd (upd (upd (upd (upd (upd (upd (upd (upd (upd (upd (upd (upd iv 5 r5) 6 (nI 0)) 7 x7) 18 (nI n)) 19 (nI 0)) 20 x20) 21 x21) 22 x22) 23 (nI 0)) 24 x24) 25 fk) 26 x26) 27 x27) 28 fp)), gA E (ad 8) 12 bs, gA E (ad 9) 12 bk, gA E (ad 10) 13 fq, gA E (ad 11) 620 sp, gA E (ad 12) 12 sa, gA E (ad 13) 12 sk, gA E (ad 14) 13 fm, gA E (ad 15) 620 fr, gA E (ad 17) 600 t]) rfl ?_
  refine g_aload_n C dX10_rules_15 rfl ?_
  refine g_iconst (v := nI 0) C dX10_rules_16 (by decide) ?_
  refine g_put C i_X10 tyX10 tyX10_ok nmX10 0 7 f_185 rfl rfl (by decide) rfl rfl rfl rfl rfl (Nat.le_of_ble_eq_true rfl) dX10_rules_17 (ws' := [gO h 10 (tF ad (upd (upd (upd (upd (upd (upd (upd (upd (upd (upd (upd (upd (upd (upd iv 5 r5) 6 (nI 0)) 7 (nI 0)) 18 (nI n)) 19 (nI 0)) 20 x20) 21 x21) 22 x22) 23 (nI 0)) 24 x24) 25 fk) 26 x26) 27 x27) 28 fp)), gA E (ad 8) 12 bs, gA E (ad 9) 12 bk, gA E (ad 10) 13 fq, gA E (ad 11) 620 sp, gA E (ad 12) 12 sa, gA E (ad 13) 12 sk, gA E (ad 14) 13 fm, gA E (ad 15) 620 fr, gA E (ad 17) 600 t]) rfl ?_
  refine g_aload_n C dX10_rules_20 rfl ?_
  refine g_callV C (c_X10_nextZ E h ad (upd (upd (upd (upd (upd (upd (upd (upd (upd iv 5 r5) 6 (nI 0)) 7 (nI 0)) 23 (nI 0)) 24 x24) 25 fk) 26 x26) 27 x27) 28 fp) n cn en ks ps t x20 x21 x22 (by omega) (hb) (h0)) gX10_rules_X10_next0 rfl 0 (by decide +kernel) ⟨by decide, by decide⟩ ⟨by decide, by decide⟩ 0 rfl rfl [0, 9] [1, 2, 3, 4, 5, 6, 7, 8] (wr := [gA E (ad 8) 12 bs, gA E (ad 9) 12 bk, gA E (ad 10) 13 fq, gA E (ad 11) 620 sp, gA E (ad 12) 12 sa, gA E (ad 13) 12 sk, gA E (ad 14) 13 fm, gA E (ad 15) 620 fr]) rfl (by decide) rfl (by decide) (by decide) rfl rfl (Nat.le_of_ble_eq_true rfl) dX10_rules_21 ?_
  rintro _ _ ⟨vl2_21, rfl, rfl, hv_21⟩
  refine gg.perm (ws' := [gO h 10 (tF ad (upd (upd (upd (upd (upd (upd (upd (upd (upd (upd (upd (upd (upd (upd iv 5 r5) 6 (nI 0)) 7 (nI 0)) 18 (nI n)) 19 (nI (en 0))) 20 (tkT (ks 0))) 21 (ps 0)) 22 vl2_21) 23 (nI 0)) 24 x24) 25 fk) 26 x26) 27 x27) 28 fp)), gA E (ad 8) 12 bs, gA E (ad 9) 12 bk, gA E (ad 10) 13 fq, gA E (ad 11) 620 sp, gA E (ad 12) 12 sa, gA E (ad 13) 12 sk, gA E (ad 14) 13 fm, gA E (ad 15) 620 fr, gA E (ad 17) 600 t]) [8, 0, 1, 2, 3, 4, 5, 6, 7, 9] (by decide) rfl ?_
  show gg E _ 3 X 0 0 24 [some (.ref h), none, none] [] [gO h 10 (tF ad (upd (upd (upd (upd (upd (upd (upd (upd (upd (upd (upd (upd (upd (upd iv 5 r5) 6 (nI 0)) 7 (nI 0)) 18 (nI n)) 19 (nI (en 0))) 20 (tkT (ks 0))) 21 (ps 0)) 22 vl2_21) 23 (nI 0)) 24 x24) 25 fk) 26 x26) 27 x27) 28 fp)), gA E (ad 8) 12 bs, gA E (ad 9) 12 bk, gA E (ad 10) 13 fq, gA E (ad 11) 620 sp, gA E (ad 12) 12 sa, gA E (ad 13) 12 sk, gA E (ad 14) 13 fm, gA E (ad 15) 620 fr, gA E (ad 17) 600 t]
  refine g_iconst (v := nI 1) C dX10_rules_24 (by decide) ?_
  refine g_istore_n C dX10_rules_25 (by decide) rfl (ll' := [some (.ref h), some (.int (nI 1)), none]) rfl ?_
  have L26 : ∀ (n26 : Nat) (q i1 : Nat) (L : List rT) (sa1 sk1 fm1 fr1 : Nat → Int32) (vl1 dp1 nu1 : Int32), 13 - q < n26 → (i1 < cn) → (q = L.length) → (bkT L sa1 sk1 fm1 fr1) → ((catR L).length ≤ i1) → (pRs ks 13 0 [] = pRs ks (13 - q) i1 L) → (L.length ≤ 12) → (¬ nI 999 < ks i1 → vl1 = ks i1) → gg E rm_c_X10_rules 3 X 0 0 26 [some (.ref h), some (.int (nI 1)), none] [] [gO h 10 (tF ad (upd (upd (upd (upd (upd (upd (upd (upd (upd (upd (upd (upd (upd (upd iv 5 r5) 6 (nI L.length)) 7 (nI ((catR L).length))) 18 (nI n)) 19 (nI (en i1))) 20 (tkT (ks i1))) 21 (ps i1)) 22 vl1) 23 (nI 0)) 24 x24) 25 fk) 26 dp1) 27 nu1) 28 fp)), gA E (ad 8) 12 bs, gA E (ad 9) 12 bk, gA E (ad 10) 13 fq, gA E (ad 11) 620 sp, gA E (ad 12) 12 sa1, gA E (ad 13) 12 sk1, gA E (ad 14) 13 fm1, gA E (ad 15) 620 fr1, gA E (ad 17) 600 t] := by
    intro n26
    induction n26 with
    | zero => intro q i1 L sa1 sk1 fm1 fr1 vl1 dp1 nu1 hm26; exact absurd hm26 (Nat.not_lt_zero _)
    | succ n26 ih26 =>
      intro q i1 L sa1 sk1 fm1 fr1 vl1 dp1 nu1 hm26 g1 g2 g3 g4 g5 g6 hv1
      refine g_iload_n C dX10_rules_26 rfl ?_
      refine g_if_eq (tgt := 45) C dX10_rules_27 (by decide) (fun c27 => absurd c27 (by decide)) (fun c27 => ?_)
      refine g_aload_n C dX10_rules_30 rfl ?_
      refine g_get C i_X10 0 20 f_154 rfl rfl (by decide) rfl rfl dX10_rules_31 ?_
      refine g_if_eq (tgt := 45) C dX10_rules_34 (by decide) (fun c34 => ?_) (fun c34 => ?_)
      · have hres : pRs ks 13 0 [] = .ok L := by rw [g5, show 13 - q = 12 - q + 1 by omega, pRs, if_pos ((tq0 (hK _ g1)).mp c34)]
        refine g_aload_n C dX10_rules_45 rfl ?_
        refine g_iconst (v := nI 0) C dX10_rules_46 (by decide) ?_
        refine g_put C i_X10 tyX10 tyX10_ok nmX10 0 18 f_120 rfl rfl (by decide) rfl rfl rfl rfl rfl (Nat.le_of_ble_eq_true rfl) dX10_rules_47 (ws' := [gO h 10 (tF ad (upd (upd (upd (upd (upd (upd (upd (upd (upd (upd (upd (upd (upd (upd iv 5 r5) 6 (nI L.length)) 7 (nI ((catR L).length))) 18 (nI 0)) 19 (nI (en i1))) 20 (tkT (ks i1))) 21 (ps i1)) 22 vl1) 23 (nI 0)) 24 x24) 25 fk) 26 dp1) 27 nu1) 28 fp)), gA E (ad 8) 12 bs, gA E (ad 9) 12 bk, gA E (ad 10) 13 fq, gA E (ad 11) 620 sp, gA E (ad 12) 12 sa1, gA E (ad 13) 12 sk1, gA E (ad 14) 13 fm1, gA E (ad 15) 620 fr1, gA E (ad 17) 600 t]) rfl ?_
        refine g_aload_n C dX10_rules_50 rfl ?_
        refine g_aload_n C dX10_rules_51 rfl ?_
        refine g_get C i_X10 0 23 f_170 rfl rfl (by decide) rfl rfl dX10_rules_52 ?_
        show gg E _ 3 X 0 0 55 [some (.ref h), some (.int (nI 1)), none] [.int (nI 0), .ref h] [gO h 10 (tF ad (upd (upd (upd (upd (upd (upd (upd (upd (upd (upd (upd (upd (upd (upd iv 5 r5) 6 (nI L.length)) 7 (nI ((catR L).length))) 18 (nI 0)) 19 (nI (en i1))) 20 (tkT (ks i1))) 21 (ps i1)) 22 vl1) 23 (nI 0)) 24 x24) 25 fk) 26 dp1) 27 nu1) 28 fp)), gA E (ad 8) 12 bs, gA E (ad 9) 12 bk, gA E (ad 10) 13 fq, gA E (ad 11) 620 sp, gA E (ad 12) 12 sa1, gA E (ad 13) 12 sk1, gA E (ad 14) 13 fm1, gA E (ad 15) 620 fr1, gA E (ad 17) 600 t]
        refine g_put C i_X10 tyX10 tyX10_ok nmX10 0 25 f_226 rfl rfl (by decide) rfl rfl rfl rfl rfl (Nat.le_of_ble_eq_true rfl) dX10_rules_55 (ws' := [gO h 10 (tF ad (upd (upd (upd (upd (upd (upd (upd (upd (upd (upd (upd (upd (upd (upd iv 5 r5) 6 (nI L.length)) 7 (nI ((catR L).length))) 18 (nI 0)) 19 (nI (en i1))) 20 (tkT (ks i1))) 21 (ps i1)) 22 vl1) 23 (nI 0)) 24 x24) 25 (nI 0)) 26 dp1) 27 nu1) 28 fp)), gA E (ad 8) 12 bs, gA E (ad 9) 12 bk, gA E (ad 10) 13 fq, gA E (ad 11) 620 sp, gA E (ad 12) 12 sa1, gA E (ad 13) 12 sk1, gA E (ad 14) 13 fm1, gA E (ad 15) 620 fr1, gA E (ad 17) 600 t]) rfl ?_
        refine g_aload_n C dX10_rules_58 rfl ?_
        refine g_iload_n C dX10_rules_59 rfl ?_
        refine g_if_eq (tgt := 67) C dX10_rules_60 (by decide) (fun c60 => absurd c60 (by decide)) (fun c60 => ?_)
        refine g_iconst (v := -1) C dX10_rules_63 (by decide) ?_
        refine g_goto (tgt := 71) C dX10_rules_64 (by decide) ?_
        refine g_put C i_X10 tyX10 tyX10_ok nmX10 0 28 f_52 rfl rfl (by decide) rfl rfl rfl rfl rfl (Nat.le_of_ble_eq_true rfl) dX10_rules_71 (ws' := [gO h 10 (tF ad (upd (upd (upd (upd (upd (upd (upd (upd (upd (upd (upd (upd (upd (upd iv 5 r5) 6 (nI L.length)) 7 (nI ((catR L).length))) 18 (nI 0)) 19 (nI (en i1))) 20 (tkT (ks i1))) 21 (ps i1)) 22 vl1) 23 (nI 0)) 24 x24) 25 (nI 0)) 26 dp1) 27 nu1) 28 (-1))), gA E (ad 8) 12 bs, gA E (ad 9) 12 bk, gA E (ad 10) 13 fq, gA E (ad 11) 620 sp, gA E (ad 12) 12 sa1, gA E (ad 13) 12 sk1, gA E (ad 14) 13 fm1, gA E (ad 15) 620 fr1, gA E (ad 17) 600 t]) rfl ?_
        refine g_iload_n C dX10_rules_74 rfl ?_
        refine g_if_ne (tgt := 80) C dX10_rules_75 (by decide) (fun c75 => ?_) (fun c75 => absurd c75 (by decide))
        refine g_aload_n C dX10_rules_80 rfl ?_
        refine g_aload_n C dX10_rules_81 rfl ?_
        refine g_get C i_X10 0 6 f_217 rfl rfl (by decide) rfl rfl dX10_rules_82 ?_
        refine g_put C i_X10 tyX10 tyX10_ok nmX10 0 5 f_229 rfl rfl (by decide) rfl rfl rfl rfl rfl (Nat.le_of_ble_eq_true rfl) dX10_rules_85 (ws' := [gO h 10 (tF ad (upd (upd (upd (upd (upd (upd (upd (upd (upd (upd (upd (upd (upd (upd iv 5 (nI L.length)) 6 (nI L.length)) 7 (nI ((catR L).length))) 18 (nI 0)) 19 (nI (en i1))) 20 (tkT (ks i1))) 21 (ps i1)) 22 vl1) 23 (nI 0)) 24 x24) 25 (nI 0)) 26 dp1) 27 nu1) 28 (-1))), gA E (ad 8) 12 bs, gA E (ad 9) 12 bk, gA E (ad 10) 13 fq, gA E (ad 11) 620 sp, gA E (ad 12) 12 sa1, gA E (ad 13) 12 sk1, gA E (ad 14) 13 fm1, gA E (ad 15) 620 fr1, gA E (ad 17) 600 t]) rfl ?_
        refine g_iconst (v := nI 0) C dX10_rules_88 (by decide) ?_
        refine g_istore_n C dX10_rules_89 (by decide) rfl (ll' := [some (.ref h), some (.int (nI 1)), some (.int (nI 0))]) rfl ?_
        have L90 : ∀ (n90 : Nat) (k : Nat) (bs1 bk1 fq1 : Nat → Int32), 12 - k < n90 → (k ≤ L.length) → (∀ r, r < k → bs1 r = sa1 r ∧ bk1 r = sk1 r ∧ fq1 r = fm1 r) → gg E rm_c_X10_rules 3 X 0 0 90 [some (.ref h), some (.int (nI 1)), some (.int (nI k))] [] [gO h 10 (tF ad (upd (upd (upd (upd (upd (upd (upd (upd (upd (upd (upd (upd (upd (upd iv 5 (nI L.length)) 6 (nI L.length)) 7 (nI ((catR L).length))) 18 (nI 0)) 19 (nI (en i1))) 20 (tkT (ks i1))) 21 (ps i1)) 22 vl1) 23 (nI 0)) 24 x24) 25 (nI 0)) 26 dp1) 27 nu1) 28 (-1))), gA E (ad 8) 12 bs1, gA E (ad 9) 12 bk1, gA E (ad 10) 13 fq1, gA E (ad 11) 620 sp, gA E (ad 12) 12 sa1, gA E (ad 13) 12 sk1, gA E (ad 14) 13 fm1, gA E (ad 15) 620 fr1, gA E (ad 17) 600 t] := by
          intro n90
          induction n90 with
          | zero => intro k bs1 bk1 fq1 hm90; exact absurd hm90 (Nat.not_lt_zero _)
          | succ n90 ih90 =>
            intro k bs1 bk1 fq1 hm90 hk k1
            refine g_iload_n C dX10_rules_90 rfl ?_
            refine g_aload_n C dX10_rules_91 rfl ?_
            refine g_get C i_X10 0 5 f_229 rfl rfl (by decide) rfl rfl dX10_rules_92 ?_
            refine g_icmp_ge_n (tgt := 140) C dX10_rules_95 (by decide) (by omega) (by omega) (fun c95 => ?_) (fun c95 => ?_)
            · refine g_aload_n C dX10_rules_140 rfl ?_
              refine g_get C i_X10 0 10 f_28 rfl rfl (by decide) rfl rfl dX10_rules_141 ?_
              refine g_aload_n C dX10_rules_144 rfl ?_
              refine g_get C i_X10 0 5 f_229 rfl rfl (by decide) rfl rfl dX10_rules_145 ?_
              refine g_aload_n C dX10_rules_148 rfl ?_
              refine g_get C i_X10 0 7 f_185 rfl rfl (by decide) rfl rfl dX10_rules_149 ?_
              refine g_iast C 3 L.length rfl rfl (by omega) (by decide) dX10_rules_152 (ws' := [gO h 10 (tF ad (upd (upd (upd (upd (upd (upd (upd (upd (upd (upd (upd (upd (upd (upd iv 5 (nI L.length)) 6 (nI L.length)) 7 (nI ((catR L).length))) 18 (nI 0)) 19 (nI (en i1))) 20 (tkT (ks i1))) 21 (ps i1)) 22 vl1) 23 (nI 0)) 24 x24) 25 (nI 0)) 26 dp1) 27 nu1) 28 (-1))), gA E (ad 8) 12 bs1, gA E (ad 9) 12 bk1, gA E (ad 10) 13 (upd fq1 L.length (nI ((catR L).length))), gA E (ad 11) 620 sp, gA E (ad 12) 12 sa1, gA E (ad 13) 12 sk1, gA E (ad 14) 13 fm1, gA E (ad 15) 620 fr1, gA E (ad 17) 600 t]) rfl ?_
              refine g_iconst (v := nI 0) C dX10_rules_153 (by decide) ?_
              refine g_istore_n C dX10_rules_154 (by decide) rfl (ll' := [some (.ref h), some (.int (nI 1)), some (.int (nI 0))]) rfl ?_
              have L155 : ∀ (n155 : Nat) (x : Nat) (sp1 : Nat → Int32), 600 - x < n155 → (x ≤ (catR L).length) → (∀ r, r < x → sp1 r = fr1 r) → gg E rm_c_X10_rules 3 X 0 0 155 [some (.ref h), some (.int (nI 1)), some (.int (nI x))] [] [gO h 10 (tF ad (upd (upd (upd (upd (upd (upd (upd (upd (upd (upd (upd (upd (upd (upd iv 5 (nI L.length)) 6 (nI L.length)) 7 (nI ((catR L).length))) 18 (nI 0)) 19 (nI (en i1))) 20 (tkT (ks i1))) 21 (ps i1)) 22 vl1) 23 (nI 0)) 24 x24) 25 (nI 0)) 26 dp1) 27 nu1) 28 (-1))), gA E (ad 8) 12 bs1, gA E (ad 9) 12 bk1, gA E (ad 10) 13 (upd fq1 L.length (nI (catR L).length)), gA E (ad 11) 620 sp1, gA E (ad 12) 12 sa1, gA E (ad 13) 12 sk1, gA E (ad 14) 13 fm1, gA E (ad 15) 620 fr1, gA E (ad 17) 600 t] := by
                intro n155
                induction n155 with
                | zero => intro x sp1 hm155; exact absurd hm155 (Nat.not_lt_zero _)
                | succ n155 ih155 =>
                  intro x sp1 hm155 hx m1
                  refine g_iload_n C dX10_rules_155 rfl ?_
                  refine g_aload_n C dX10_rules_156 rfl ?_
                  refine g_get C i_X10 0 7 f_185 rfl rfl (by decide) rfl rfl dX10_rules_157 ?_
                  refine g_icmp_ge_n (tgt := 181) C dX10_rules_160 (by decide) (by omega) (by omega) (fun c160 => ?_) (fun c160 => ?_)
                  · refine g_aload_n C dX10_rules_181 rfl ?_
                    refine g_get C i_X10 0 5 f_229 rfl rfl (by decide) rfl rfl dX10_rules_182 ?_
                    exact g_iret C Rt dX10_rules_185 (by decide) (by decide) (⟨_, _, _, _, _, _, _, _, _, _, _, _, _, _, _, _, _, _, _, _, _, _, rfl, rfl, rlT_ok hres (bkF_of g3 (fun r hr => k1 r (by omega)) (fun x hx => m1 x (by omega)))⟩)
                  · refine g_aload_n C dX10_rules_163 rfl ?_
                    refine g_get C i_X10 0 11 f_31 rfl rfl (by decide) rfl rfl dX10_rules_164 ?_
                    refine g_iload_n C dX10_rules_167 rfl ?_
                    refine g_aload_n C dX10_rules_168 rfl ?_
                    refine g_get C i_X10 0 15 f_43 rfl rfl (by decide) rfl rfl dX10_rules_169 ?_
                    refine g_iload_n C dX10_rules_172 rfl ?_
                    refine g_iald C 8 x rfl rfl (by omega) (by decide) dX10_rules_173 ?_
                    refine g_iast C 4 x rfl rfl (by omega) (by decide) dX10_rules_174 (ws' := [gO h 10 (tF ad (upd (upd (upd (upd (upd (upd (upd (upd (upd (upd (upd (upd (upd (upd iv 5 (nI L.length)) 6 (nI L.length)) 7 (nI ((catR L).length))) 18 (nI 0)) 19 (nI (en i1))) 20 (tkT (ks i1))) 21 (ps i1)) 22 vl1) 23 (nI 0)) 24 x24) 25 (nI 0)) 26 dp1) 27 nu1) 28 (-1))), gA E (ad 8) 12 bs1, gA E (ad 9) 12 bk1, gA E (ad 10) 13 (upd fq1 L.length (nI (catR L).length)), gA E (ad 11) 620 (upd sp1 x (fr1 x)), gA E (ad 12) 12 sa1, gA E (ad 13) 12 sk1, gA E (ad 14) 13 fm1, gA E (ad 15) 620 fr1, gA E (ad 17) 600 t]) rfl ?_
                    refine g_iinc_n (y := 1) C dX10_rules_175 rfl (by decide) (by decide) rfl (ll' := [some (.ref h), some (.int (nI 1)), some (.int (nI (x + 1)))]) rfl ?_
                    refine g_goto (tgt := 155) C dX10_rules_178 (by decide) ?_
                    exact ih155 (x + 1) (upd sp1 x (fr1 x)) (by omega) (by omega) (fun r hr => by
        by_cases e2 : r = x
        · subst e2; exact if_pos rfl
        · simp only [upd, if_neg e2]; exact m1 r (by omega))
              exact L155 _ 0 sp (Nat.lt_succ_self _) (by omega) (fun r hr => absurd hr (Nat.not_lt_zero r))
            · refine g_aload_n C dX10_rules_98 rfl ?_
              refine g_get C i_X10 0 8 f_22 rfl rfl (by decide) rfl rfl dX10_rules_99 ?_
              refine g_iload_n C dX10_rules_102 rfl ?_
              refine g_aload_n C dX10_rules_103 rfl ?_
              refine g_get C i_X10 0 12 f_34 rfl rfl (by decide) rfl rfl dX10_rules_104 ?_
              refine g_iload_n C dX10_rules_107 rfl ?_
              refine g_iald C 5 k rfl rfl (by omega) (by decide) dX10_rules_108 ?_
              refine g_iast C 1 k rfl rfl (by omega) (by decide) dX10_rules_109 (ws' := [gO h 10 (tF ad (upd (upd (upd (upd (upd (upd (upd (upd (upd (upd (upd (upd (upd (upd iv 5 (nI L.length)) 6 (nI L.length)) 7 (nI ((catR L).length))) 18 (nI 0)) 19 (nI (en i1))) 20 (tkT (ks i1))) 21 (ps i1)) 22 vl1) 23 (nI 0)) 24 x24) 25 (nI 0)) 26 dp1) 27 nu1) 28 (-1))), gA E (ad 8) 12 (upd bs1 k (sa1 k)), gA E (ad 9) 12 bk1, gA E (ad 10) 13 fq1, gA E (ad 11) 620 sp, gA E (ad 12) 12 sa1, gA E (ad 13) 12 sk1, gA E (ad 14) 13 fm1, gA E (ad 15) 620 fr1, gA E (ad 17) 600 t]) rfl ?_
              refine g_aload_n C dX10_rules_110 rfl ?_
              refine g_get C i_X10 0 9 f_25 rfl rfl (by decide) rfl rfl dX10_rules_111 ?_
              refine g_iload_n C dX10_rules_114 rfl ?_
              refine g_aload_n C dX10_rules_115 rfl ?_
              refine g_get C i_X10 0 13 f_37 rfl rfl (by decide) rfl rfl dX10_rules_116 ?_
              refine g_iload_n C dX10_rules_119 rfl ?_
              refine g_iald C 6 k rfl rfl (by omega) (by decide) dX10_rules_120 ?_
              refine g_iast C 2 k rfl rfl (by omega) (by decide) dX10_rules_121 (ws' := [gO h 10 (tF ad (upd (upd (upd (upd (upd (upd (upd (upd (upd (upd (upd (upd (upd (upd iv 5 (nI L.length)) 6 (nI L.length)) 7 (nI ((catR L).length))) 18 (nI 0)) 19 (nI (en i1))) 20 (tkT (ks i1))) 21 (ps i1)) 22 vl1) 23 (nI 0)) 24 x24) 25 (nI 0)) 26 dp1) 27 nu1) 28 (-1))), gA E (ad 8) 12 (upd bs1 k (sa1 k)), gA E (ad 9) 12 (upd bk1 k (sk1 k)), gA E (ad 10) 13 fq1, gA E (ad 11) 620 sp, gA E (ad 12) 12 sa1, gA E (ad 13) 12 sk1, gA E (ad 14) 13 fm1, gA E (ad 15) 620 fr1, gA E (ad 17) 600 t]) rfl ?_
              refine g_aload_n C dX10_rules_122 rfl ?_
              refine g_get C i_X10 0 10 f_28 rfl rfl (by decide) rfl rfl dX10_rules_123 ?_
              refine g_iload_n C dX10_rules_126 rfl ?_
              refine g_aload_n C dX10_rules_127 rfl ?_
              refine g_get C i_X10 0 14 f_40 rfl rfl (by decide) rfl rfl dX10_rules_128 ?_
              refine g_iload_n C dX10_rules_131 rfl ?_
              refine g_iald C 7 k rfl rfl (by omega) (by decide) dX10_rules_132 ?_
              refine g_iast C 3 k rfl rfl (by omega) (by decide) dX10_rules_133 (ws' := [gO h 10 (tF ad (upd (upd (upd (upd (upd (upd (upd (upd (upd (upd (upd (upd (upd (upd iv 5 (nI L.length)) 6 (nI L.length)) 7 (nI ((catR L).length))) 18 (nI 0)) 19 (nI (en i1))) 20 (tkT (ks i1))) 21 (ps i1)) 22 vl1) 23 (nI 0)) 24 x24) 25 (nI 0)) 26 dp1) 27 nu1) 28 (-1))), gA E (ad 8) 12 (upd bs1 k (sa1 k)), gA E (ad 9) 12 (upd bk1 k (sk1 k)), gA E (ad 10) 13 (upd fq1 k (fm1 k)), gA E (ad 11) 620 sp, gA E (ad 12) 12 sa1, gA E (ad 13) 12 sk1, gA E (ad 14) 13 fm1, gA E (ad 15) 620 fr1, gA E (ad 17) 600 t]) rfl ?_
              refine g_iinc_n (y := 1) C dX10_rules_134 rfl (by decide) (by decide) rfl (ll' := [some (.ref h), some (.int (nI 1)), some (.int (nI (k + 1)))]) rfl ?_
              refine g_goto (tgt := 90) C dX10_rules_137 (by decide) ?_
              exact ih90 (k + 1) (upd bs1 k (sa1 k)) (upd bk1 k (sk1 k)) (upd fq1 k (fm1 k)) (by omega) (by omega) (fun r hr => by
        by_cases e2 : r = k
        · subst e2; exact ⟨if_pos rfl, if_pos rfl, if_pos rfl⟩
        · simp only [upd, if_neg e2]; exact k1 r (by omega))
        exact L90 _ 0 bs bk fq (Nat.lt_succ_self _) (by omega) (fun r hr => absurd hr (Nat.not_lt_zero r))
      · refine g_aload_n C dX10_rules_37 rfl ?_
        refine g_callV C (c_X10_aRule E h ad (upd (upd (upd iv 5 r5) 25 fk) 28 fp) n cn ((catR L).length) i1 en ks ps fr1 t vl1 (nI 0) x24 L.length sa1 sk1 fm1 dp1 nu1 (by omega) (hb) (hL) (hK) (hend) (by omega) (g1) (hv1) (by omega) (by omega)) gX10_rules_X10_aRule rfl 0 (by decide +kernel) ⟨by decide, by decide⟩ ⟨by decide, by decide⟩ 0 rfl rfl [0, 8, 9, 5, 6, 7] [1, 2, 3, 4] (wr := [gA E (ad 8) 12 bs, gA E (ad 9) 12 bk, gA E (ad 10) 13 fq, gA E (ad 11) 620 sp]) rfl (by decide) rfl (by decide) (by decide) rfl rfl (Nat.le_of_ble_eq_true rfl) dX10_rules_38 ?_
        rintro _ _ ⟨ok_38, j_38, us2_38, fr2_38, vl2_38, wr2_38, wa2_38, nr2_38, sa2_38, sk2_38, fm2_38, dp2_38, nu2_38, rfl, rfl, hq_38, hv_38⟩
        refine gg.perm (ws' := [gO h 10 (tF ad (upd (upd (upd (upd (upd (upd (upd (upd (upd (upd (upd (upd (upd (upd iv 5 r5) 6 (nI nr2_38)) 7 (nI us2_38)) 18 (nI n)) 19 (nI (en j_38))) 20 (tkT (ks j_38))) 21 (ps j_38)) 22 vl2_38) 23 wr2_38) 24 wa2_38) 25 fk) 26 dp2_38) 27 nu2_38) 28 fp)), gA E (ad 8) 12 bs, gA E (ad 9) 12 bk, gA E (ad 10) 13 fq, gA E (ad 11) 620 sp, gA E (ad 12) 12 sa2_38, gA E (ad 13) 12 sk2_38, gA E (ad 14) 13 fm2_38, gA E (ad 15) 620 fr2_38, gA E (ad 17) 600 t]) [4, 0, 1, 2, 3, 7, 8, 9, 5, 6] (by decide) rfl ?_
        show gg E _ 3 X 0 0 41 [some (.ref h), some (.int (nI 1)), none] [.int (b2i ok_38)] [gO h 10 (tF ad (upd (upd (upd (upd (upd (upd (upd (upd (upd (upd (upd (upd (upd (upd iv 5 r5) 6 (nI nr2_38)) 7 (nI us2_38)) 18 (nI n)) 19 (nI (en j_38))) 20 (tkT (ks j_38))) 21 (ps j_38)) 22 vl2_38) 23 wr2_38) 24 wa2_38) 25 fk) 26 dp2_38) 27 nu2_38) 28 fp)), gA E (ad 8) 12 bs, gA E (ad 9) 12 bk, gA E (ad 10) 13 fq, gA E (ad 11) 620 sp, gA E (ad 12) 12 sa2_38, gA E (ad 13) 12 sk2_38, gA E (ad 14) 13 fm2_38, gA E (ad 15) 620 fr2_38, gA E (ad 17) 600 t]
        rcases rdA_two hq_38 with ⟨sy, s, D1, hr, rfl, rfl, rfl, rfl, e12, rfl, rfl, rfl, rfl, rfl, b1, b2, b3⟩ | ⟨kd, ix, hr, rfl, rfl, rfl, b1, b2, b3, b4⟩
        · refine g_istore_n C dX10_rules_41 (by decide) rfl (ll' := [some (.ref h), some (.int (nI 1)), none]) rfl ?_
          have e1 : L.length + 1 = (L ++ [(sy, s, D1)]).length := by rw [List.length_append]; rfl
          have e2 : (catR L).length + D1.length = (catR (L ++ [(sy, s, D1)])).length := by rw [catR_snoc, List.length_append]
          have e3 := g3.snoc sy s D1
          rw [e1, e2]
          refine g_goto (tgt := 26) C dX10_rules_42 (by decide) ?_
          exact ih26 (q + 1) j_38 (L ++ [(sy, s, D1)]) (upd sa1 L.length sy) (upd sk1 L.length s) (upd fm1 L.length (nI (catR L).length)) (cdW fr1 (catR L).length (D1.map trJ)) vl2_38 dp2_38 nu2_38 (by omega) (b2) (by omega) (e3) (by omega) (by rw [g5, show 13 - q = 13 - (q + 1) + 1 by omega, pRs, if_neg (fun z => c34 ((tq0 (hK _ g1)).mpr z)), hr]) (by omega) (hv_38)
        · refine g_istore_n C dX10_rules_41 (by decide) rfl (ll' := [some (.ref h), some (.int (nI 0)), none]) rfl ?_
          refine g_goto (tgt := 26) C dX10_rules_42 (by decide) ?_
          refine g_iload_n C dX10_rules_26 rfl ?_
          refine g_if_eq (tgt := 45) C dX10_rules_27 (by decide) (fun c27 => ?_) (fun c27 => absurd c27 (by decide))
          skip
          refine g_aload_n C dX10_rules_45 rfl ?_
          refine g_iconst (v := nI 0) C dX10_rules_46 (by decide) ?_
          refine g_put C i_X10 tyX10 tyX10_ok nmX10 0 18 f_120 rfl rfl (by decide) rfl rfl rfl rfl rfl (Nat.le_of_ble_eq_true rfl) dX10_rules_47 (ws' := [gO h 10 (tF ad (upd (upd (upd (upd (upd (upd (upd (upd (upd (upd (upd (upd (upd (upd iv 5 r5) 6 (nI nr2_38)) 7 (nI us2_38)) 18 (nI 0)) 19 (nI (en j_38))) 20 (tkT (ks j_38))) 21 (ps j_38)) 22 vl2_38) 23 (nI kd)) 24 (ps ix)) 25 fk) 26 dp2_38) 27 nu2_38) 28 fp)), gA E (ad 8) 12 bs, gA E (ad 9) 12 bk, gA E (ad 10) 13 fq, gA E (ad 11) 620 sp, gA E (ad 12) 12 sa2_38, gA E (ad 13) 12 sk2_38, gA E (ad 14) 13 fm2_38, gA E (ad 15) 620 fr2_38, gA E (ad 17) 600 t]) rfl ?_
          refine g_aload_n C dX10_rules_50 rfl ?_
          refine g_aload_n C dX10_rules_51 rfl ?_
          refine g_get C i_X10 0 23 f_170 rfl rfl (by decide) rfl rfl dX10_rules_52 ?_
          refine g_put C i_X10 tyX10 tyX10_ok nmX10 0 25 f_226 rfl rfl (by decide) rfl rfl rfl rfl rfl (Nat.le_of_ble_eq_true rfl) dX10_rules_55 (ws' := [gO h 10 (tF ad (upd (upd (upd (upd (upd (upd (upd (upd (upd (upd (upd (upd (upd (upd iv 5 r5) 6 (nI nr2_38)) 7 (nI us2_38)) 18 (nI 0)) 19 (nI (en j_38))) 20 (tkT (ks j_38))) 21 (ps j_38)) 22 vl2_38) 23 (nI kd)) 24 (ps ix)) 25 (nI kd)) 26 dp2_38) 27 nu2_38) 28 fp)), gA E (ad 8) 12 bs, gA E (ad 9) 12 bk, gA E (ad 10) 13 fq, gA E (ad 11) 620 sp, gA E (ad 12) 12 sa2_38, gA E (ad 13) 12 sk2_38, gA E (ad 14) 13 fm2_38, gA E (ad 15) 620 fr2_38, gA E (ad 17) 600 t]) rfl ?_
          refine g_aload_n C dX10_rules_58 rfl ?_
          refine g_iload_n C dX10_rules_59 rfl ?_
          refine g_if_eq (tgt := 67) C dX10_rules_60 (by decide) (fun c60 => ?_) (fun c60 => absurd c60 (by decide))
          refine g_aload_n C dX10_rules_67 rfl ?_
          refine g_get C i_X10 0 24 f_173 rfl rfl (by decide) rfl rfl dX10_rules_68 ?_
          refine g_put C i_X10 tyX10 tyX10_ok nmX10 0 28 f_52 rfl rfl (by decide) rfl rfl rfl rfl rfl (Nat.le_of_ble_eq_true rfl) dX10_rules_71 (ws' := [gO h 10 (tF ad (upd (upd (upd (upd (upd (upd (upd (upd (upd (upd (upd (upd (upd (upd iv 5 r5) 6 (nI nr2_38)) 7 (nI us2_38)) 18 (nI 0)) 19 (nI (en j_38))) 20 (tkT (ks j_38))) 21 (ps j_38)) 22 vl2_38) 23 (nI kd)) 24 (ps ix)) 25 (nI kd)) 26 dp2_38) 27 nu2_38) 28 (ps ix))), gA E (ad 8) 12 bs, gA E (ad 9) 12 bk, gA E (ad 10) 13 fq, gA E (ad 11) 620 sp, gA E (ad 12) 12 sa2_38, gA E (ad 13) 12 sk2_38, gA E (ad 14) 13 fm2_38, gA E (ad 15) 620 fr2_38, gA E (ad 17) 600 t]) rfl ?_
          refine g_iload_n C dX10_rules_74 rfl ?_
          refine g_if_ne (tgt := 80) C dX10_rules_75 (by decide) (fun c75 => absurd c75 (by decide)) (fun c75 => ?_)
          refine g_iconst (v := -1) C dX10_rules_78 (by decide) ?_
          exact g_iret C Rt dX10_rules_79 (by decide) (by decide) (⟨_, _, _, _, _, _, _, _, _, _, _, _, _, _, _, _, _, _, _, _, _, _, rfl, rfl, rlT_er (by rw [g5, show 13 - q = 12 - q + 1 by omega, pRs, if_neg (fun z => c34 ((tq0 (hK _ g1)).mpr z)), hr])⟩)
  exact L26 _ 0 0 ([]) sa sk fm fr vl2_21 x26 x27 (Nat.lt_succ_self _) (hc0) (rfl) (bkT.nil) (Nat.le_refl _) (rfl) (by decide) (hv_21)

