/-! PUBLIC METHODS, second: mark and of where arguments are bad, got, feed, end, fault, phrase, name, out -/
section GR4
variable {E : gE} {R : Room} {nL : Nat} {X : gX} {cc : ByteArray} {Ts : List Cond} {own : String} {k n pc : Nat} {ll : List (Option Value)} {rest st : List Value} {ws : va_W}
theorem g_copyi (C : gx E X cc nL Ts own) {idx a0 a n0 n1 sp dp cn : Nat} {f g : Nat → Int32} (hl : Cond.methodLink own idx arraycopyName ∈ Ts) (hnt : Cond.native arraycopyName ∈ Ts) (hst : Cond.static arraycopyName ∈ Ts) (hin : Cond.initialized "java/lang/System" ∈ Ts) (q0 q1 : Nat) (he0 : ws[q0]? = some (a0, .inl (E.2.2.1.1, n0, .inl f))) (he1 : ws[q1]? = some (a, .inl (E.2.2.1.1, n1, .inl g))) (h4 : sp + cn ≤ n0) (h5 : dp + cn ≤ n1) (hs : sp < 2147483648) (hd : dp < 2147483648) (hc : cn < 2147483648) (hfr : 1 ≤ R.frames) (hlo : (rest.map fun v => v.category).sum + (nativeFrameWords "java/lang/System" "arraycopy" 5 + 11) ≤ R.locals) (d : decode cc pc = .ok (.invokestatic idx, 3)) {ws' : va_W} (hws : ws.set q1 (a, .inl (E.2.2.1.1, n1, .inl (va_cpy f g sp dp cn))) = ws') (kk : gg E R nL X k n (pc + 3) ll rest ws') : gg E R nL X k n pc ll (.int (nI cn) :: .int (nI dp) :: .ref a :: .int (nI sp) :: .ref a0 :: rest) ws := fun H locs ls hP hD hS hls =>
  va_copyi (D := E.2.1) C.1 C.2.1 (C.2.2.1.trans hls.1.symm) C.2.2.2.1 (C.2.2.2.2.1 _ hl) (C.2.2.2.2.1 _ hnt) (C.2.2.2.2.1 _ hst) (C.2.2.2.2.1 _ hin) C.2.2.2.2.2.1 hP hD hS q0 q1 0 0 he0 he1 rfl rfl rfl (nI_pos hs) (nI_pos hd) (nI_pos hc) (by rw [nI_clamp hs, nI_clamp hc]; exact h4) (by rw [nI_clamp hd, nI_clamp hc]; exact h5) (fun i _ => rfl) hfr hlo d (by rw [nI_clamp hs, nI_clamp hd, nI_clamp hc]; exact fun H1 locs1 hP hD hS => kk H1 locs1 ls (hws ▸ hP) (hws ▸ hD) hS hls)
end GR4
theorem cpy_succ (f g : Nat → Int32) (b j : Nat) : upd (va_cpy f g 0 b j) (b + j) (f j) = va_cpy f g 0 b (j + 1) := by
  funext q
  rw [upd, va_cpy, va_cpy]
  by_cases e : q = b + j
  · subst e
    rw [if_pos rfl, if_pos ⟨by omega, by omega⟩, show 0 + (b + j - b) = j by omega]
  · rw [if_neg e]
    by_cases h : b ≤ q ∧ q < b + j
    · rw [if_pos h, if_pos ⟨h.1, by omega⟩]
    · rw [if_neg h, if_neg (fun z => h ⟨z.1, by omega⟩)]
theorem cpy_zero (f g : Nat → Int32) (b : Nat) : va_cpy f g 0 b 0 = g := by
  funext q
  rw [va_cpy, if_neg (by omega)]
theorem rng {x : Int32} {a b : Nat} (hb : b < 2147483648) (h1 : ¬ x < nI a) (h2 : ¬ nI b ≤ x) (ha : a < 2147483648) : ∃ k, a ≤ k ∧ k < b ∧ x = nI k := by
  rw [fa_lt, nI_toInt ha] at h1
  rw [fa_le, nI_toInt hb] at h2
  refine ⟨x.toInt.toNat, by omega, by omega, ?_⟩
  rw [fa_eq, nI_toInt (by omega)]
  omega
def ofV (ms sk pt : Nat → Int32) (Q : Nat) (what : Int32) : Int32 :=
  if what = 0 then ms Q else if what = nI 1 then sk Q else if ¬ what < nI 10 ∧ ¬ nI 18 ≤ what then pt (10 * (what.toNatClampNeg - 10) + Q) else -1
def tk20 (t : Nat → Int32) (n : Nat) (a b c d e : Int32) : Nat → Int32 := tk4 (tk4 (tk4 (tk4 (tk4 t n a) (n + 4) b) (n + 4 + 4) c) (n + 4 + 4 + 4) d) (n + 4 + 4 + 4 + 4) e

abbrev rm_c_X9_mark_bad : Room := { frames := 4, cells := 0, slots := 0, locals := 95 }
set_option maxHeartbeats 4000000 in
set_option maxRecDepth 100000 in
theorem c_X9_mark_bad (E : gE) (m f0 f1 f2 f3 f4 f5 f6 f7 f8 f9 f10 : Nat) (a0 a1 a2 a3 a4 : Nat) (cnt : Nat) (ms sk pt md ri : Nat → Int32) (p q v : Int32) (hcnt : cnt ≤ 10) (hb : ∀ P Q, P < 8 → Q < cnt → p = nI P → q = nI Q → v < -1 ∨ ms Q < v) : MM E yX9_mark wsX9_mark rm_c_X9_mark_bad [.ref m, .int p, .int q, .int v] [gO m 9 [.ref f0, .ref f1, .ref f2, .ref f3, .ref f4, .ref f5, .ref f6, .ref f7, .ref f8, .ref f9, .ref f10], gO f0 3 [.ref a0, .ref a1, .ref a2, .ref a3, .ref a4, .int (nI cnt)], gA E a0 10 ms, gA E a1 10 sk, gA E a2 80 pt, gA E a3 5 md, gA E a4 8 ri] (fun rv_ ru_ => rv_ = some (.int (nI 0)) ∧ ru_ = [gO m 9 [.ref f0, .ref f1, .ref f2, .ref f3, .ref f4, .ref f5, .ref f6, .ref f7, .ref f8, .ref f9, .ref f10], gO f0 3 [.ref a0, .ref a1, .ref a2, .ref a3, .ref a4, .int (nI cnt)], gA E a0 10 ms, gA E a1 10 sk, gA E a2 80 pt, gA E a3 5 md, gA E a4 8 ri]) := by
  refine MM.ofG (cc := cX9_mark) (maxL := 4) (ret := (some .boolean)) (by decide) rfl (Nat.le_of_ble_eq_true rfl) (ll := [some (.ref m), some (.int p), some (.int q), some (.int v)]) rfl ?_
  intro X C Rt
  have C : gx E X cX9_mark 4 wsX9_mark RX9 := C
  have i_X3 : ∀ w ∈ u_ws RX3 TX3 6, w ∈ wsX9_mark := by decide +kernel
  have i_X9 : ∀ w ∈ u_ws RX9 TX9 11, w ∈ wsX9_mark := by decide +kernel
  have f_12 : Cond.fieldLink RX9 12 "MarkPages" "papers" "LMarkPages$Papers;" ∈ wsX9_mark := by decide +kernel
  have f_90 : Cond.fieldLink RX9 90 "MarkPages$Papers" "mosts" "[I" ∈ wsX9_mark := by decide +kernel
  refine g_iload_n C dX9_mark_0 rfl ?_
  refine g_callS C (c_X9_isPupil E p ) gX9_mark_X9_isPupil rfl 1 (by decide +kernel) ⟨by decide, by decide⟩ ⟨by decide, by decide⟩ [] [0, 1, 2, 3, 4, 5, 6] (wr := [gO m 9 [.ref f0, .ref f1, .ref f2, .ref f3, .ref f4, .ref f5, .ref f6, .ref f7, .ref f8, .ref f9, .ref f10], gO f0 3 [.ref a0, .ref a1, .ref a2, .ref a3, .ref a4, .int (nI cnt)], gA E a0 10 ms, gA E a1 10 sk, gA E a2 80 pt, gA E a3 5 md, gA E a4 8 ri]) rfl (by decide) rfl (by decide) (by decide) rfl rfl (Nat.le_of_ble_eq_true rfl) dX9_mark_1 ?_
  rintro _ _ ⟨rfl, rfl⟩
  show gg E _ 4 X 0 0 4 [some (.ref m), some (.int p), some (.int q), some (.int v)] [.int (b2i (decide (¬ p < 0 ∧ ¬ nI 8 ≤ p)))] [gO m 9 [.ref f0, .ref f1, .ref f2, .ref f3, .ref f4, .ref f5, .ref f6, .ref f7, .ref f8, .ref f9, .ref f10], gO f0 3 [.ref a0, .ref a1, .ref a2, .ref a3, .ref a4, .int (nI cnt)], gA E a0 10 ms, gA E a1 10 sk, gA E a2 80 pt, gA E a3 5 md, gA E a4 8 ri]
  refine g_if_eq (tgt := 36) C dX9_mark_4 (by decide) (fun c4 => ?_) (fun c4 => ?_)
  · refine g_iconst (v := nI 0) C dX9_mark_36 (by decide) ?_
    exact g_zret C Rt dX9_mark_37 (by decide) (by decide) (by decide) (⟨rfl, rfl⟩)
  · refine g_aload_n C dX9_mark_7 rfl ?_
    refine g_get C i_X9 0 0 f_12 rfl rfl (by decide) rfl rfl dX9_mark_8 ?_
    refine g_iload_n C dX9_mark_11 rfl ?_
    refine g_callV C (c_X3_hasQuestion E f0 a0 a1 a2 a3 a4 cnt ms sk pt md ri q ) gX9_mark_X3_hasQuestion rfl 1 (by decide +kernel) ⟨by decide, by decide⟩ ⟨by decide, by decide⟩ 1 rfl rfl [1, 2, 3, 4, 5, 6] [0] (wr := [gO m 9 [.ref f0, .ref f1, .ref f2, .ref f3, .ref f4, .ref f5, .ref f6, .ref f7, .ref f8, .ref f9, .ref f10]]) rfl (by decide) rfl (by decide) (by decide) rfl rfl (Nat.le_of_ble_eq_true rfl) dX9_mark_12 ?_
    rintro _ _ ⟨rfl, rfl⟩
    show gg E _ 4 X 0 0 15 [some (.ref m), some (.int p), some (.int q), some (.int v)] [.int (b2i (decide (¬ q < 0 ∧ ¬ nI cnt ≤ q)))] [gO m 9 [.ref f0, .ref f1, .ref f2, .ref f3, .ref f4, .ref f5, .ref f6, .ref f7, .ref f8, .ref f9, .ref f10], gO f0 3 [.ref a0, .ref a1, .ref a2, .ref a3, .ref a4, .int (nI cnt)], gA E a0 10 ms, gA E a1 10 sk, gA E a2 80 pt, gA E a3 5 md, gA E a4 8 ri]
    refine g_if_eq (tgt := 36) C dX9_mark_15 (by decide) (fun c15 => ?_) (fun c15 => ?_)
    · refine g_iconst (v := nI 0) C dX9_mark_36 (by decide) ?_
      exact g_zret C Rt dX9_mark_37 (by decide) (by decide) (by decide) (⟨rfl, rfl⟩)
    · obtain ⟨P, hP, rfl⟩ := in_nI (n := 8) (by decide) (of_decide_eq_true (b2i_t.mp c4)).1 (of_decide_eq_true (b2i_t.mp c4)).2
      obtain ⟨Q, hQ, rfl⟩ := in_nI (n := cnt) (by omega) (of_decide_eq_true (b2i_t.mp c15)).1 (of_decide_eq_true (b2i_t.mp c15)).2
      refine g_iload_n C dX9_mark_18 rfl ?_
      refine g_iconst (v := -1) C dX9_mark_19 (by decide) ?_
      refine g_icmp_lt (tgt := 36) C dX9_mark_20 (by decide) (fun c20 => ?_) (fun c20 => ?_)
      · refine g_iconst (v := nI 0) C dX9_mark_36 (by decide) ?_
        exact g_zret C Rt dX9_mark_37 (by decide) (by decide) (by decide) (⟨rfl, rfl⟩)
      · refine g_iload_n C dX9_mark_23 rfl ?_
        refine g_aload_n C dX9_mark_24 rfl ?_
        refine g_get C i_X9 0 0 f_12 rfl rfl (by decide) rfl rfl dX9_mark_25 ?_
        refine g_get C i_X3 1 0 f_90 rfl rfl (by decide) rfl rfl dX9_mark_28 ?_
        refine g_iload_n C dX9_mark_31 rfl ?_
        refine g_iald C 2 Q rfl rfl (by omega) (by decide) dX9_mark_32 ?_
        refine g_icmp_le (tgt := 38) C dX9_mark_33 (by decide) (fun c33 => ?_) (fun c33 => ?_)
        · exact (hb P Q hP hQ rfl rfl).elim (fun z => absurd z c20) (fun z => absurd c33 (Int32.not_le.mpr z))
        · refine g_iconst (v := nI 0) C dX9_mark_36 (by decide) ?_
          exact g_zret C Rt dX9_mark_37 (by decide) (by decide) (by decide) (⟨rfl, rfl⟩)

abbrev rm_c_X10_mark_bad : Room := { frames := 2, cells := 0, slots := 0, locals := 43 }
set_option maxHeartbeats 4000000 in
set_option maxRecDepth 100000 in
theorem c_X10_mark_bad (E : gE) (h : Nat) (ad : Nat → Nat) (iv : Nat → Int32) (cnt : Nat) (ms pt : Nat → Int32) (p q v : Int32) (hcnt : cnt ≤ 10) (hb : ∀ P Q, P < 8 → Q < cnt → p = nI P → q = nI Q → v < -1 ∨ ms Q < v) : MM E yX10_mark wsX10_mark rm_c_X10_mark_bad [.ref h, .int p, .int q, .int v] [gO h 10 (tF ad (upd iv 0 (nI cnt))), gA E (ad 1) 10 ms, gA E (ad 3) 80 pt] (fun rv_ ru_ => rv_ = some (.int (nI 0)) ∧ ru_ = [gO h 10 (tF ad (upd iv 0 (nI cnt))), gA E (ad 1) 10 ms, gA E (ad 3) 80 pt]) := by
  refine MM.ofG (cc := cX10_mark) (maxL := 4) (ret := (some .boolean)) (by decide) rfl (Nat.le_of_ble_eq_true rfl) (ll := [some (.ref h), some (.int p), some (.int q), some (.int v)]) rfl ?_
  intro X C Rt
  have C : gx E X cX10_mark 4 wsX10_mark RX10 := C
  have i_X10 : ∀ w ∈ u_ws RX10 TX10 40, w ∈ wsX10_mark := by decide +kernel
  have f_7 : Cond.fieldLink RX10 7 "MarkPagesModel" "most" "[I" ∈ wsX10_mark := by decide +kernel
  refine g_iload_n C dX10_mark_0 rfl ?_
  refine g_callS C (c_X10_isPupil E p ) gX10_mark_X10_isPupil rfl 1 (by decide +kernel) ⟨by decide, by decide⟩ ⟨by decide, by decide⟩ [] [0, 1, 2] (wr := [gO h 10 (tF ad (upd iv 0 (nI cnt))), gA E (ad 1) 10 ms, gA E (ad 3) 80 pt]) rfl (by decide) rfl (by decide) (by decide) rfl rfl (Nat.le_of_ble_eq_true rfl) dX10_mark_1 ?_
  rintro _ _ ⟨rfl, rfl⟩
  show gg E _ 4 X 0 0 4 [some (.ref h), some (.int p), some (.int q), some (.int v)] [.int (b2i (decide (¬ p < nI 0 ∧ ¬ nI 7 < p)))] [gO h 10 (tF ad (upd iv 0 (nI cnt))), gA E (ad 1) 10 ms, gA E (ad 3) 80 pt]
  refine g_if_eq (tgt := 29) C dX10_mark_4 (by decide) (fun c4 => ?_) (fun c4 => ?_)
  · refine g_iconst (v := nI 0) C dX10_mark_29 (by decide) ?_
    exact g_zret C Rt dX10_mark_30 (by decide) (by decide) (by decide) (⟨rfl, rfl⟩)
  · refine g_aload_n C dX10_mark_7 rfl ?_
    refine g_iload_n C dX10_mark_8 rfl ?_
    refine g_callV C (c_X10_isQuestion E h ad iv cnt q ) gX10_mark_X10_isQuestion rfl 1 (by decide +kernel) ⟨by decide, by decide⟩ ⟨by decide, by decide⟩ 0 rfl rfl [0] [1, 2] (wr := [gA E (ad 1) 10 ms, gA E (ad 3) 80 pt]) rfl (by decide) rfl (by decide) (by decide) rfl rfl (Nat.le_of_ble_eq_true rfl) dX10_mark_9 ?_
    rintro _ _ ⟨rfl, rfl⟩
    refine gg.perm (ws' := [gO h 10 (tF ad (upd iv 0 (nI cnt))), gA E (ad 1) 10 ms, gA E (ad 3) 80 pt]) [2, 0, 1] (by decide) rfl ?_
    show gg E _ 4 X 0 0 12 [some (.ref h), some (.int p), some (.int q), some (.int v)] [.int (b2i (decide (¬ q < nI 0 ∧ ¬ nI cnt - nI 1 < q)))] [gO h 10 (tF ad (upd iv 0 (nI cnt))), gA E (ad 1) 10 ms, gA E (ad 3) 80 pt]
    refine g_if_eq (tgt := 29) C dX10_mark_12 (by decide) (fun c12 => ?_) (fun c12 => ?_)
    · refine g_iconst (v := nI 0) C dX10_mark_29 (by decide) ?_
      exact g_zret C Rt dX10_mark_30 (by decide) (by decide) (by decide) (⟨rfl, rfl⟩)
    · obtain ⟨P, hP, rfl⟩ := in_nI (n := 8) (by decide) (of_decide_eq_true (b2i_t.mp c4)).1 ((nlt_pred (by decide)).mp (of_decide_eq_true (b2i_t.mp c4)).2)
      obtain ⟨Q, hQ, rfl⟩ := in_nI (n := cnt) (by omega) (of_decide_eq_true (b2i_t.mp c12)).1 (fun z => (of_decide_eq_true (b2i_t.mp c12)).2 ((le_pred (by omega)).mpr z))
      refine g_iload_n C dX10_mark_15 rfl ?_
      refine g_iconst (v := -1) C dX10_mark_16 (by decide) ?_
      refine g_aload_n C dX10_mark_17 rfl ?_
      refine g_get C i_X10 0 1 f_7 rfl rfl (by decide) rfl rfl dX10_mark_18 ?_
      refine g_iload_n C dX10_mark_21 rfl ?_
      refine g_iald C 1 Q rfl rfl (by omega) (by decide) dX10_mark_22 ?_
      refine g_callS C (c_X10_isIn E v (-1) (ms Q) ) gX10_mark_X10_isIn rfl 3 (by decide +kernel) ⟨by decide, by decide⟩ ⟨by decide, by decide⟩ [] [0, 1, 2] (wr := [gO h 10 (tF ad (upd iv 0 (nI cnt))), gA E (ad 1) 10 ms, gA E (ad 3) 80 pt]) rfl (by decide) rfl (by decide) (by decide) rfl rfl (Nat.le_of_ble_eq_true rfl) dX10_mark_23 ?_
      rintro _ _ ⟨rfl, rfl⟩
      show gg E _ 4 X 0 0 26 [some (.ref h), some (.int (nI P)), some (.int (nI Q)), some (.int v)] [.int (b2i (decide (¬ v < (-1) ∧ ¬ (ms Q) < v)))] [gO h 10 (tF ad (upd iv 0 (nI cnt))), gA E (ad 1) 10 ms, gA E (ad 3) 80 pt]
      refine g_if_ne (tgt := 31) C dX10_mark_26 (by decide) (fun c26 => ?_) (fun c26 => ?_)
      · exact (have z0 := of_decide_eq_true (b2i_t.mp c26); (hb P Q hP hQ rfl rfl).elim (fun z => absurd z z0.1) (fun z => absurd z z0.2))
      · refine g_iconst (v := nI 0) C dX10_mark_29 (by decide) ?_
        exact g_zret C Rt dX10_mark_30 (by decide) (by decide) (by decide) (⟨rfl, rfl⟩)

abbrev rm_c_X9_of_ok : Room := { frames := 1, cells := 0, slots := 0, locals := 22 }
set_option maxHeartbeats 4000000 in
set_option maxRecDepth 100000 in
theorem c_X9_of_ok (E : gE) (m f0 f1 f2 f3 f4 f5 f6 f7 f8 f9 f10 : Nat) (a0 a1 a2 a3 a4 : Nat) (cnt : Nat) (ms sk pt md ri : Nat → Int32) (Q : Nat) (what : Int32) (hcnt : cnt ≤ 10) (hQ : Q < cnt) : MM E yX9_of wsX9_of rm_c_X9_of_ok [.ref m, .int (nI Q), .int what] [gO m 9 [.ref f0, .ref f1, .ref f2, .ref f3, .ref f4, .ref f5, .ref f6, .ref f7, .ref f8, .ref f9, .ref f10], gO f0 3 [.ref a0, .ref a1, .ref a2, .ref a3, .ref a4, .int (nI cnt)], gA E a0 10 ms, gA E a1 10 sk, gA E a2 80 pt, gA E a3 5 md, gA E a4 8 ri] (fun rv_ ru_ => rv_ = some (.int (ofV ms sk pt Q what)) ∧ ru_ = [gO m 9 [.ref f0, .ref f1, .ref f2, .ref f3, .ref f4, .ref f5, .ref f6, .ref f7, .ref f8, .ref f9, .ref f10], gO f0 3 [.ref a0, .ref a1, .ref a2, .ref a3, .ref a4, .int (nI cnt)], gA E a0 10 ms, gA E a1 10 sk, gA E a2 80 pt, gA E a3 5 md, gA E a4 8 ri]) := by
  refine MM.ofG (cc := cX9_of) (maxL := 4) (ret := (some .int)) (by decide) rfl (Nat.le_of_ble_eq_true rfl) (ll := [some (.ref m), some (.int (nI Q)), some (.int what), none]) rfl ?_
  intro X C Rt
  have C : gx E X cX9_of 4 wsX9_of RX9 := C
  have i_X3 : ∀ w ∈ u_ws RX3 TX3 6, w ∈ wsX9_of := by decide +kernel
  have i_X9 : ∀ w ∈ u_ws RX9 TX9 11, w ∈ wsX9_of := by decide +kernel
  have f_12 : Cond.fieldLink RX9 12 "MarkPages" "papers" "LMarkPages$Papers;" ∈ wsX9_of := by decide +kernel
  have f_90 : Cond.fieldLink RX9 90 "MarkPages$Papers" "mosts" "[I" ∈ wsX9_of := by decide +kernel
  have f_97 : Cond.fieldLink RX9 97 "MarkPages$Papers" "skillSets" "[I" ∈ wsX9_of := by decide +kernel
  refine g_aload_n C dX9_of_0 rfl ?_
  refine g_get C i_X9 0 0 f_12 rfl rfl (by decide) rfl rfl dX9_of_1 ?_
  refine g_iload_n C dX9_of_4 rfl ?_
  refine g_callV C (c_X3_hasQuestion_y E f0 a0 a1 a2 a3 a4 cnt ms sk pt md ri Q (by omega) (by omega)) gX9_of_X3_hasQuestion rfl 1 (by decide +kernel) ⟨by decide, by decide⟩ ⟨by decide, by decide⟩ 1 rfl rfl [1, 2, 3, 4, 5, 6] [0] (wr := [gO m 9 [.ref f0, .ref f1, .ref f2, .ref f3, .ref f4, .ref f5, .ref f6, .ref f7, .ref f8, .ref f9, .ref f10]]) rfl (by decide) rfl (by decide) (by decide) rfl rfl (Nat.le_of_ble_eq_true rfl) dX9_of_5 ?_
  rintro _ _ ⟨rfl, rfl⟩
  show gg E _ 4 X 0 0 8 [some (.ref m), some (.int (nI Q)), some (.int what), none] [.int (nI 1)] [gO m 9 [.ref f0, .ref f1, .ref f2, .ref f3, .ref f4, .ref f5, .ref f6, .ref f7, .ref f8, .ref f9, .ref f10], gO f0 3 [.ref a0, .ref a1, .ref a2, .ref a3, .ref a4, .int (nI cnt)], gA E a0 10 ms, gA E a1 10 sk, gA E a2 80 pt, gA E a3 5 md, gA E a4 8 ri]
  refine g_if_ne (tgt := 13) C dX9_of_8 (by decide) (fun c8 => ?_) (fun c8 => absurd c8 (by decide))
  refine g_iload_n C dX9_of_13 rfl ?_
  refine g_if_ne (tgt := 27) C dX9_of_14 (by decide) (fun c14 => ?_) (fun c14 => ?_)
  · refine g_iload_n C dX9_of_27 rfl ?_
    refine g_iconst (v := nI 1) C dX9_of_28 (by decide) ?_
    refine g_icmp_ne (tgt := 42) C dX9_of_29 (by decide) (fun c29 => ?_) (fun c29 => ?_)
    · refine g_iload_n C dX9_of_42 rfl ?_
      refine g_bipush (v := nI 10) C dX9_of_43 (by decide) ?_
      refine g_icmp_lt (tgt := 58) C dX9_of_45 (by decide) (fun c45 => ?_) (fun c45 => ?_)
      · refine g_iconst (v := nI 0) C dX9_of_58 (by decide) ?_
        refine g_istore_n C dX9_of_59 (by decide) rfl (ll' := [some (.ref m), some (.int (nI Q)), some (.int what), some (.int (nI 0))]) rfl ?_
        refine g_iload_n C dX9_of_60 rfl ?_
        refine g_if_eq (tgt := 79) C dX9_of_61 (by decide) (fun c61 => ?_) (fun c61 => absurd c61 (by decide))
        refine g_iconst (v := -1) C dX9_of_79 (by decide) ?_
        exact g_iret C Rt dX9_of_80 (by decide) (by decide) (⟨by rw [ofV, if_neg c14, if_neg c29, if_neg (fun z => z.1 c45)], rfl⟩)
      · refine g_iload_n C dX9_of_48 rfl ?_
        refine g_bipush (v := nI 18) C dX9_of_49 (by decide) ?_
        refine g_icmp_ge (tgt := 58) C dX9_of_51 (by decide) (fun c51 => ?_) (fun c51 => ?_)
        · refine g_iconst (v := nI 0) C dX9_of_58 (by decide) ?_
          refine g_istore_n C dX9_of_59 (by decide) rfl (ll' := [some (.ref m), some (.int (nI Q)), some (.int what), some (.int (nI 0))]) rfl ?_
          refine g_iload_n C dX9_of_60 rfl ?_
          refine g_if_eq (tgt := 79) C dX9_of_61 (by decide) (fun c61 => ?_) (fun c61 => absurd c61 (by decide))
          refine g_iconst (v := -1) C dX9_of_79 (by decide) ?_
          exact g_iret C Rt dX9_of_80 (by decide) (by decide) (⟨by rw [ofV, if_neg c14, if_neg c29, if_neg (fun z => z.2 c51)], rfl⟩)
        · obtain ⟨k, hk1, hk2, rfl⟩ := rng (a := 10) (b := 18) (by decide) c45 c51 (by decide)
          refine g_iconst (v := nI 1) C dX9_of_54 (by decide) ?_
          refine g_goto (tgt := 59) C dX9_of_55 (by decide) ?_
          refine g_istore_n C dX9_of_59 (by decide) rfl (ll' := [some (.ref m), some (.int (nI Q)), some (.int (nI k)), some (.int (nI 1))]) rfl ?_
          refine g_iload_n C dX9_of_60 rfl ?_
          refine g_if_eq (tgt := 79) C dX9_of_61 (by decide) (fun c61 => absurd c61 (by decide)) (fun c61 => ?_)
          refine g_aload_n C dX9_of_64 rfl ?_
          refine g_get C i_X9 0 0 f_12 rfl rfl (by decide) rfl rfl dX9_of_65 ?_
          refine g_iload_n C dX9_of_68 rfl ?_
          refine g_bipush (v := nI 10) C dX9_of_69 (by decide) ?_
          refine g_isub_n C dX9_of_71 (by omega) ?_
          refine g_iload_n C dX9_of_72 rfl ?_
          refine g_callV C (c_X3_pointsOf E f0 a0 a1 a2 a3 a4 cnt ms sk pt md ri (k - 10) Q (by omega) (by omega)) gX9_of_X3_pointsOf rfl 2 (by decide +kernel) ⟨by decide, by decide⟩ ⟨by decide, by decide⟩ 1 rfl rfl [1, 2, 3, 4, 5, 6] [0] (wr := [gO m 9 [.ref f0, .ref f1, .ref f2, .ref f3, .ref f4, .ref f5, .ref f6, .ref f7, .ref f8, .ref f9, .ref f10]]) rfl (by decide) rfl (by decide) (by decide) rfl rfl (Nat.le_of_ble_eq_true rfl) dX9_of_73 ?_
          rintro _ _ ⟨rfl, rfl⟩
          show gg E _ 4 X 0 0 76 [some (.ref m), some (.int (nI Q)), some (.int (nI k)), some (.int (nI 1))] [.int (pt (10 * (k - 10) + Q))] [gO m 9 [.ref f0, .ref f1, .ref f2, .ref f3, .ref f4, .ref f5, .ref f6, .ref f7, .ref f8, .ref f9, .ref f10], gO f0 3 [.ref a0, .ref a1, .ref a2, .ref a3, .ref a4, .int (nI cnt)], gA E a0 10 ms, gA E a1 10 sk, gA E a2 80 pt, gA E a3 5 md, gA E a4 8 ri]
          refine g_goto (tgt := 80) C dX9_of_76 (by decide) ?_
          exact g_iret C Rt dX9_of_80 (by decide) (by decide) (⟨by rw [ofV, if_neg c14, if_neg c29, if_pos ⟨c45, c51⟩, nI_clamp (by omega)], rfl⟩)
    · refine g_aload_n C dX9_of_32 rfl ?_
      refine g_get C i_X9 0 0 f_12 rfl rfl (by decide) rfl rfl dX9_of_33 ?_
      refine g_get C i_X3 1 1 f_97 rfl rfl (by decide) rfl rfl dX9_of_36 ?_
      refine g_iload_n C dX9_of_39 rfl ?_
      refine g_iald C 3 Q rfl rfl (by omega) (by decide) dX9_of_40 ?_
      exact g_iret C Rt dX9_of_41 (by decide) (by decide) (⟨by rw [ofV, if_neg c14, if_pos c29], rfl⟩)
  · refine g_aload_n C dX9_of_17 rfl ?_
    refine g_get C i_X9 0 0 f_12 rfl rfl (by decide) rfl rfl dX9_of_18 ?_
    refine g_get C i_X3 1 0 f_90 rfl rfl (by decide) rfl rfl dX9_of_21 ?_
    refine g_iload_n C dX9_of_24 rfl ?_
    refine g_iald C 2 Q rfl rfl (by omega) (by decide) dX9_of_25 ?_
    exact g_iret C Rt dX9_of_26 (by decide) (by decide) (⟨by rw [ofV, if_pos c14], rfl⟩)

abbrev rm_c_X9_of_bad : Room := { frames := 1, cells := 0, slots := 0, locals := 22 }
set_option maxHeartbeats 4000000 in
set_option maxRecDepth 100000 in
theorem c_X9_of_bad (E : gE) (m f0 f1 f2 f3 f4 f5 f6 f7 f8 f9 f10 : Nat) (a0 a1 a2 a3 a4 : Nat) (cnt : Nat) (ms sk pt md ri : Nat → Int32) (q what : Int32) (hb : q < 0 ∨ nI cnt ≤ q) : MM E yX9_of wsX9_of rm_c_X9_of_bad [.ref m, .int q, .int what] [gO m 9 [.ref f0, .ref f1, .ref f2, .ref f3, .ref f4, .ref f5, .ref f6, .ref f7, .ref f8, .ref f9, .ref f10], gO f0 3 [.ref a0, .ref a1, .ref a2, .ref a3, .ref a4, .int (nI cnt)], gA E a0 10 ms, gA E a1 10 sk, gA E a2 80 pt, gA E a3 5 md, gA E a4 8 ri] (fun rv_ ru_ => rv_ = some (.int (-1)) ∧ ru_ = [gO m 9 [.ref f0, .ref f1, .ref f2, .ref f3, .ref f4, .ref f5, .ref f6, .ref f7, .ref f8, .ref f9, .ref f10], gO f0 3 [.ref a0, .ref a1, .ref a2, .ref a3, .ref a4, .int (nI cnt)], gA E a0 10 ms, gA E a1 10 sk, gA E a2 80 pt, gA E a3 5 md, gA E a4 8 ri]) := by
  refine MM.ofG (cc := cX9_of) (maxL := 4) (ret := (some .int)) (by decide) rfl (Nat.le_of_ble_eq_true rfl) (ll := [some (.ref m), some (.int q), some (.int what), none]) rfl ?_
  intro X C Rt
  have C : gx E X cX9_of 4 wsX9_of RX9 := C
  have i_X9 : ∀ w ∈ u_ws RX9 TX9 11, w ∈ wsX9_of := by decide +kernel
  have f_12 : Cond.fieldLink RX9 12 "MarkPages" "papers" "LMarkPages$Papers;" ∈ wsX9_of := by decide +kernel
  refine g_aload_n C dX9_of_0 rfl ?_
  refine g_get C i_X9 0 0 f_12 rfl rfl (by decide) rfl rfl dX9_of_1 ?_
  refine g_iload_n C dX9_of_4 rfl ?_
  refine g_callV C (c_X3_hasQuestion E f0 a0 a1 a2 a3 a4 cnt ms sk pt md ri q ) gX9_of_X3_hasQuestion rfl 1 (by decide +kernel) ⟨by decide, by decide⟩ ⟨by decide, by decide⟩ 1 rfl rfl [1, 2, 3, 4, 5, 6] [0] (wr := [gO m 9 [.ref f0, .ref f1, .ref f2, .ref f3, .ref f4, .ref f5, .ref f6, .ref f7, .ref f8, .ref f9, .ref f10]]) rfl (by decide) rfl (by decide) (by decide) rfl rfl (Nat.le_of_ble_eq_true rfl) dX9_of_5 ?_
  rintro _ _ ⟨rfl, rfl⟩
  show gg E _ 4 X 0 0 8 [some (.ref m), some (.int q), some (.int what), none] [.int (b2i (decide (¬ q < 0 ∧ ¬ nI cnt ≤ q)))] [gO m 9 [.ref f0, .ref f1, .ref f2, .ref f3, .ref f4, .ref f5, .ref f6, .ref f7, .ref f8, .ref f9, .ref f10], gO f0 3 [.ref a0, .ref a1, .ref a2, .ref a3, .ref a4, .int (nI cnt)], gA E a0 10 ms, gA E a1 10 sk, gA E a2 80 pt, gA E a3 5 md, gA E a4 8 ri]
  refine g_if_ne (tgt := 13) C dX9_of_8 (by decide) (fun c8 => ?_) (fun c8 => ?_)
  · exact (have z := of_decide_eq_true (b2i_t.mp c8); hb.elim (fun y => absurd y z.1) (fun y => absurd y z.2))
  · refine g_iconst (v := -1) C dX9_of_11 (by decide) ?_
    exact g_iret C Rt dX9_of_12 (by decide) (by decide) (⟨rfl, rfl⟩)

abbrev rm_c_X10_of_ok : Room := { frames := 2, cells := 0, slots := 0, locals := 43 }
set_option maxHeartbeats 4000000 in
set_option maxRecDepth 100000 in
theorem c_X10_of_ok (E : gE) (h : Nat) (ad : Nat → Nat) (iv : Nat → Int32) (cnt : Nat) (ms sk pt : Nat → Int32) (Q : Nat) (what : Int32) (hcnt : cnt ≤ 10) (hQ : Q < cnt) : MM E yX10_of wsX10_of rm_c_X10_of_ok [.ref h, .int (nI Q), .int what] [gO h 10 (tF ad (upd iv 0 (nI cnt))), gA E (ad 1) 10 ms, gA E (ad 2) 10 sk, gA E (ad 3) 80 pt] (fun rv_ ru_ => rv_ = some (.int (ofV ms sk pt Q what)) ∧ ru_ = [gO h 10 (tF ad (upd iv 0 (nI cnt))), gA E (ad 1) 10 ms, gA E (ad 2) 10 sk, gA E (ad 3) 80 pt]) := by
  refine MM.ofG (cc := cX10_of) (maxL := 3) (ret := (some .int)) (by decide) rfl (Nat.le_of_ble_eq_true rfl) (ll := [some (.ref h), some (.int (nI Q)), some (.int what)]) rfl ?_
  intro X C Rt
  have C : gx E X cX10_of 3 wsX10_of RX10 := C
  have i_X10 : ∀ w ∈ u_ws RX10 TX10 40, w ∈ wsX10_of := by decide +kernel
  have f_13 : Cond.fieldLink RX10 13 "MarkPagesModel" "skills" "[I" ∈ wsX10_of := by decide +kernel
  have f_16 : Cond.fieldLink RX10 16 "MarkPagesModel" "points" "[I" ∈ wsX10_of := by decide +kernel
  have f_7 : Cond.fieldLink RX10 7 "MarkPagesModel" "most" "[I" ∈ wsX10_of := by decide +kernel
  refine g_aload_n C dX10_of_0 rfl ?_
  refine g_iload_n C dX10_of_1 rfl ?_
  refine g_callV C (c_X10_isQuestion_y E h ad iv cnt Q (by omega) (by omega)) gX10_of_X10_isQuestion rfl 1 (by decide +kernel) ⟨by decide, by decide⟩ ⟨by decide, by decide⟩ 0 rfl rfl [0] [1, 2, 3] (wr := [gA E (ad 1) 10 ms, gA E (ad 2) 10 sk, gA E (ad 3) 80 pt]) rfl (by decide) rfl (by decide) (by decide) rfl rfl (Nat.le_of_ble_eq_true rfl) dX10_of_2 ?_
  rintro _ _ ⟨rfl, rfl⟩
  refine gg.perm (ws' := [gO h 10 (tF ad (upd iv 0 (nI cnt))), gA E (ad 1) 10 ms, gA E (ad 2) 10 sk, gA E (ad 3) 80 pt]) [3, 0, 1, 2] (by decide) rfl ?_
  show gg E _ 3 X 0 0 5 [some (.ref h), some (.int (nI Q)), some (.int what)] [.int (nI 1)] [gO h 10 (tF ad (upd iv 0 (nI cnt))), gA E (ad 1) 10 ms, gA E (ad 2) 10 sk, gA E (ad 3) 80 pt]
  refine g_if_ne (tgt := 10) C dX10_of_5 (by decide) (fun c5 => ?_) (fun c5 => absurd c5 (by decide))
  refine g_iload_n C dX10_of_10 rfl ?_
  refine g_if_ne (tgt := 23) C dX10_of_11 (by decide) (fun c11 => ?_) (fun c11 => ?_)
  · refine g_iload_n C dX10_of_23 rfl ?_
    refine g_iconst (v := nI 1) C dX10_of_24 (by decide) ?_
    refine g_icmp_ne (tgt := 37) C dX10_of_25 (by decide) (fun c25 => ?_) (fun c25 => ?_)
    · refine g_iload_n C dX10_of_37 rfl ?_
      refine g_bipush (v := nI 10) C dX10_of_38 (by decide) ?_
      refine g_bipush (v := nI 17) C dX10_of_40 (by decide) ?_
      refine g_callS C (c_X10_isIn E what (nI 10) (nI 17) ) gX10_of_X10_isIn rfl 3 (by decide +kernel) ⟨by decide, by decide⟩ ⟨by decide, by decide⟩ [] [0, 1, 2, 3] (wr := [gO h 10 (tF ad (upd iv 0 (nI cnt))), gA E (ad 1) 10 ms, gA E (ad 2) 10 sk, gA E (ad 3) 80 pt]) rfl (by decide) rfl (by decide) (by decide) rfl rfl (Nat.le_of_ble_eq_true rfl) dX10_of_42 ?_
      rintro _ _ ⟨rfl, rfl⟩
      show gg E _ 3 X 0 0 45 [some (.ref h), some (.int (nI Q)), some (.int what)] [.int (b2i (decide (¬ what < (nI 10) ∧ ¬ (nI 17) < what)))] [gO h 10 (tF ad (upd iv 0 (nI cnt))), gA E (ad 1) 10 ms, gA E (ad 2) 10 sk, gA E (ad 3) 80 pt]
      refine g_if_eq (tgt := 65) C dX10_of_45 (by decide) (fun c45 => ?_) (fun c45 => ?_)
      · refine g_iconst (v := -1) C dX10_of_65 (by decide) ?_
        exact g_iret C Rt dX10_of_66 (by decide) (by decide) (⟨by rw [ofV, if_neg c11, if_neg c25, if_neg (fun z => absurd (decide_eq_true (show ¬ what < nI 10 ∧ ¬ nI 17 < what from ⟨z.1, (nlt_pred (by decide)).mpr z.2⟩)) (by rw [b2i_f.mp c45]; decide))], rfl⟩)
      · have z0 := of_decide_eq_true (b2i_t.mp c45)
        obtain ⟨k, hk1, hk2, rfl⟩ := rng (a := 10) (b := 18) (by decide) z0.1 ((nlt_pred (by decide)).mp z0.2) (by decide)
        refine g_aload_n C dX10_of_48 rfl ?_
        refine g_get C i_X10 0 3 f_16 rfl rfl (by decide) rfl rfl dX10_of_49 ?_
        refine g_bipush (v := nI 10) C dX10_of_52 (by decide) ?_
        refine g_iload_n C dX10_of_54 rfl ?_
        refine g_bipush (v := nI 10) C dX10_of_55 (by decide) ?_
        refine g_isub_n C dX10_of_57 (by omega) ?_
        refine g_imul_n C dX10_of_58 ?_
        refine g_iload_n C dX10_of_59 rfl ?_
        refine g_iadd_n C dX10_of_60 ?_
        refine g_iald C 3 ((10 * (k - 10)) + Q) rfl rfl (by omega) (by decide) dX10_of_61 ?_
        refine g_goto (tgt := 66) C dX10_of_62 (by decide) ?_
        exact g_iret C Rt dX10_of_66 (by decide) (by decide) (⟨by rw [ofV, if_neg c11, if_neg c25, if_pos ⟨z0.1, (nlt_pred (by decide)).mp z0.2⟩, nI_clamp (by omega)], rfl⟩)
    · refine g_aload_n C dX10_of_28 rfl ?_
      refine g_get C i_X10 0 2 f_13 rfl rfl (by decide) rfl rfl dX10_of_29 ?_
      refine g_iload_n C dX10_of_32 rfl ?_
      refine g_iald C 2 Q rfl rfl (by omega) (by decide) dX10_of_33 ?_
      refine g_goto (tgt := 66) C dX10_of_34 (by decide) ?_
      exact g_iret C Rt dX10_of_66 (by decide) (by decide) (⟨by rw [ofV, if_neg c11, if_pos c25], rfl⟩)
  · refine g_aload_n C dX10_of_14 rfl ?_
    refine g_get C i_X10 0 1 f_7 rfl rfl (by decide) rfl rfl dX10_of_15 ?_
    refine g_iload_n C dX10_of_18 rfl ?_
    refine g_iald C 1 Q rfl rfl (by omega) (by decide) dX10_of_19 ?_
    refine g_goto (tgt := 66) C dX10_of_20 (by decide) ?_
    exact g_iret C Rt dX10_of_66 (by decide) (by decide) (⟨by rw [ofV, if_pos c11], rfl⟩)

abbrev rm_c_X10_of_bad : Room := { frames := 2, cells := 0, slots := 0, locals := 43 }
set_option maxHeartbeats 4000000 in
set_option maxRecDepth 100000 in
theorem c_X10_of_bad (E : gE) (h : Nat) (ad : Nat → Nat) (iv : Nat → Int32) (cnt : Nat) (q what : Int32) (hcnt : cnt ≤ 10) (hb : q < 0 ∨ nI cnt ≤ q) : MM E yX10_of wsX10_of rm_c_X10_of_bad [.ref h, .int q, .int what] [gO h 10 (tF ad (upd iv 0 (nI cnt)))] (fun rv_ ru_ => rv_ = some (.int (-1)) ∧ ru_ = [gO h 10 (tF ad (upd iv 0 (nI cnt)))]) := by
  refine MM.ofG (cc := cX10_of) (maxL := 3) (ret := (some .int)) (by decide) rfl (Nat.le_of_ble_eq_true rfl) (ll := [some (.ref h), some (.int q), some (.int what)]) rfl ?_
  intro X C Rt
  have C : gx E X cX10_of 3 wsX10_of RX10 := C
  refine g_aload_n C dX10_of_0 rfl ?_
  refine g_iload_n C dX10_of_1 rfl ?_
  refine g_callV C (c_X10_isQuestion E h ad iv cnt q ) gX10_of_X10_isQuestion rfl 1 (by decide +kernel) ⟨by decide, by decide⟩ ⟨by decide, by decide⟩ 0 rfl rfl [0] [] (wr := []) rfl (by decide) rfl (by decide) (by decide) rfl rfl (Nat.le_of_ble_eq_true rfl) dX10_of_2 ?_
  rintro _ _ ⟨rfl, rfl⟩
  show gg E _ 3 X 0 0 5 [some (.ref h), some (.int q), some (.int what)] [.int (b2i (decide (¬ q < nI 0 ∧ ¬ nI cnt - nI 1 < q)))] [gO h 10 (tF ad (upd iv 0 (nI cnt)))]
  refine g_if_ne (tgt := 10) C dX10_of_5 (by decide) (fun c5 => ?_) (fun c5 => ?_)
  · exact (have z := of_decide_eq_true (b2i_t.mp c5); hb.elim (fun y => absurd y z.1) (fun y => absurd ((le_pred (by omega)).mpr y) z.2))
  · refine g_iconst (v := -1) C dX10_of_8 (by decide) ?_
    exact g_iret C Rt dX10_of_9 (by decide) (by decide) (⟨rfl, rfl⟩)

abbrev rm_c_X9_got_ok : Room := { frames := 3, cells := 0, slots := 0, locals := 71 }
set_option maxHeartbeats 4000000 in
set_option maxRecDepth 100000 in
theorem c_X9_got_ok (E : gE) (m f0 f1 f2 f3 f4 f5 f6 f7 f8 f9 f10 : Nat) (a0 a1 a2 a3 a4 : Nat) (cnt : Nat) (ms sk pt md ri : Nat → Int32) (tr : Nat → Int32) (P S w : Nat) (hcnt : cnt ≤ 10) (hP : P < 8) (hS : S < 5) (hw : w < 5) (hms : okM ms cnt) (hmd : md S = meV ms sk pt cnt S) : MM E yX9_got wsX9_got rm_c_X9_got_ok [.ref m, .int (nI P), .int (nI S), .int (nI w)] [gO m 9 [.ref f0, .ref f1, .ref f2, .ref f3, .ref f4, .ref f5, .ref f6, .ref f7, .ref f8, .ref f9, .ref f10], gO f0 3 [.ref a0, .ref a1, .ref a2, .ref a3, .ref a4, .int (nI cnt)], gA E a0 10 ms, gA E a1 10 sk, gA E a2 80 pt, gA E a3 5 md, gA E a4 8 ri, gA E f8 5 tr] (fun rv_ ru_ => ∃ (tr2 : Nat → Int32), rv_ = some (.int (ioF ms sk pt cnt P S w)) ∧ ru_ = [gO m 9 [.ref f0, .ref f1, .ref f2, .ref f3, .ref f4, .ref f5, .ref f6, .ref f7, .ref f8, .ref f9, .ref f10], gO f0 3 [.ref a0, .ref a1, .ref a2, .ref a3, .ref a4, .int (nI cnt)], gA E a0 10 ms, gA E a1 10 sk, gA E a2 80 pt, gA E a3 5 md, gA E a4 8 ri, gA E f8 5 tr2]) := by
  refine MM.ofG (cc := cX9_got) (maxL := 4) (ret := (some .int)) (by decide) rfl (Nat.le_of_ble_eq_true rfl) (ll := [some (.ref m), some (.int (nI P)), some (.int (nI S)), some (.int (nI w))]) rfl ?_
  intro X C Rt
  have C : gx E X cX9_got 4 wsX9_got RX9 := C
  have i_X9 : ∀ w ∈ u_ws RX9 TX9 11, w ∈ wsX9_got := by decide +kernel
  have f_12 : Cond.fieldLink RX9 12 "MarkPages" "papers" "LMarkPages$Papers;" ∈ wsX9_got := by decide +kernel
  have f_60 : Cond.fieldLink RX9 60 "MarkPages" "trial" "[I" ∈ wsX9_got := by decide +kernel
  refine g_iload_n C dX9_got_0 rfl ?_
  refine g_callS C (c_X9_isPupil_y E P (by omega)) gX9_got_X9_isPupil rfl 1 (by decide +kernel) ⟨by decide, by decide⟩ ⟨by decide, by decide⟩ [] [0, 1, 2, 3, 4, 5, 6, 7] (wr := [gO m 9 [.ref f0, .ref f1, .ref f2, .ref f3, .ref f4, .ref f5, .ref f6, .ref f7, .ref f8, .ref f9, .ref f10], gO f0 3 [.ref a0, .ref a1, .ref a2, .ref a3, .ref a4, .int (nI cnt)], gA E a0 10 ms, gA E a1 10 sk, gA E a2 80 pt, gA E a3 5 md, gA E a4 8 ri, gA E f8 5 tr]) rfl (by decide) rfl (by decide) (by decide) rfl rfl (Nat.le_of_ble_eq_true rfl) dX9_got_1 ?_
  rintro _ _ ⟨rfl, rfl⟩
  show gg E _ 4 X 0 0 4 [some (.ref m), some (.int (nI P)), some (.int (nI S)), some (.int (nI w))] [.int (nI 1)] [gO m 9 [.ref f0, .ref f1, .ref f2, .ref f3, .ref f4, .ref f5, .ref f6, .ref f7, .ref f8, .ref f9, .ref f10], gO f0 3 [.ref a0, .ref a1, .ref a2, .ref a3, .ref a4, .int (nI cnt)], gA E a0 10 ms, gA E a1 10 sk, gA E a2 80 pt, gA E a3 5 md, gA E a4 8 ri, gA E f8 5 tr]
  refine g_if_eq (tgt := 23) C dX9_got_4 (by decide) (fun c4 => absurd c4 (by decide)) (fun c4 => ?_)
  refine g_iload_n C dX9_got_7 rfl ?_
  refine g_callS C (c_X9_isSkill_y E S (by omega)) gX9_got_X9_isSkill rfl 1 (by decide +kernel) ⟨by decide, by decide⟩ ⟨by decide, by decide⟩ [] [0, 1, 2, 3, 4, 5, 6, 7] (wr := [gO m 9 [.ref f0, .ref f1, .ref f2, .ref f3, .ref f4, .ref f5, .ref f6, .ref f7, .ref f8, .ref f9, .ref f10], gO f0 3 [.ref a0, .ref a1, .ref a2, .ref a3, .ref a4, .int (nI cnt)], gA E a0 10 ms, gA E a1 10 sk, gA E a2 80 pt, gA E a3 5 md, gA E a4 8 ri, gA E f8 5 tr]) rfl (by decide) rfl (by decide) (by decide) rfl rfl (Nat.le_of_ble_eq_true rfl) dX9_got_8 ?_
  rintro _ _ ⟨rfl, rfl⟩
  show gg E _ 4 X 0 0 11 [some (.ref m), some (.int (nI P)), some (.int (nI S)), some (.int (nI w))] [.int (nI 1)] [gO m 9 [.ref f0, .ref f1, .ref f2, .ref f3, .ref f4, .ref f5, .ref f6, .ref f7, .ref f8, .ref f9, .ref f10], gO f0 3 [.ref a0, .ref a1, .ref a2, .ref a3, .ref a4, .int (nI cnt)], gA E a0 10 ms, gA E a1 10 sk, gA E a2 80 pt, gA E a3 5 md, gA E a4 8 ri, gA E f8 5 tr]
  refine g_if_eq (tgt := 23) C dX9_got_11 (by decide) (fun c11 => absurd c11 (by decide)) (fun c11 => ?_)
  refine g_iload_n C dX9_got_14 rfl ?_
  refine g_if_lt_n (tgt := 23) C dX9_got_15 (by decide) (by omega) ?_
  refine g_iload_n C dX9_got_18 rfl ?_
  refine g_iconst (v := nI 5) C dX9_got_19 (by decide) ?_
  refine g_icmp_lt_n (tgt := 25) C dX9_got_20 (by decide) (by omega) (by omega) (fun c20 => ?_) (fun c20 => ?_)
  · refine g_aload_n C dX9_got_25 rfl ?_
    refine g_get C i_X9 0 0 f_12 rfl rfl (by decide) rfl rfl dX9_got_26 ?_
    refine g_iload_n C dX9_got_29 rfl ?_
    refine g_iload_n C dX9_got_30 rfl ?_
    refine g_aload_n C dX9_got_31 rfl ?_
    refine g_get C i_X9 0 0 f_12 rfl rfl (by decide) rfl rfl dX9_got_32 ?_
    refine g_iload_n C dX9_got_35 rfl ?_
    refine g_iload_n C dX9_got_36 rfl ?_
    refine g_callV C (c_X3_markedOf E f0 a0 a1 a2 a3 a4 cnt ms sk pt md ri P S (by omega) (by omega) (by omega)) gX9_got_X3_markedOf rfl 2 (by decide +kernel) ⟨by decide, by decide⟩ ⟨by decide, by decide⟩ 1 rfl rfl [1, 2, 3, 4, 5, 6] [0, 7] (wr := [gO m 9 [.ref f0, .ref f1, .ref f2, .ref f3, .ref f4, .ref f5, .ref f6, .ref f7, .ref f8, .ref f9, .ref f10], gA E f8 5 tr]) rfl (by decide) rfl (by decide) (by decide) rfl rfl (Nat.le_of_ble_eq_true rfl) dX9_got_37 ?_
    rintro _ _ ⟨rfl, rfl⟩
    refine gg.perm (ws' := [gO m 9 [.ref f0, .ref f1, .ref f2, .ref f3, .ref f4, .ref f5, .ref f6, .ref f7, .ref f8, .ref f9, .ref f10], gO f0 3 [.ref a0, .ref a1, .ref a2, .ref a3, .ref a4, .int (nI cnt)], gA E a0 10 ms, gA E a1 10 sk, gA E a2 80 pt, gA E a3 5 md, gA E a4 8 ri, gA E f8 5 tr]) [0, 2, 3, 4, 5, 6, 7, 1] (by decide) rfl ?_
    show gg E _ 4 X 0 0 40 [some (.ref m), some (.int (nI P)), some (.int (nI S)), some (.int (nI w))] [.int (nI (mkN sk pt P S cnt)), .int (nI S), .int (nI P), .ref f0] [gO m 9 [.ref f0, .ref f1, .ref f2, .ref f3, .ref f4, .ref f5, .ref f6, .ref f7, .ref f8, .ref f9, .ref f10], gO f0 3 [.ref a0, .ref a1, .ref a2, .ref a3, .ref a4, .int (nI cnt)], gA E a0 10 ms, gA E a1 10 sk, gA E a2 80 pt, gA E a3 5 md, gA E a4 8 ri, gA E f8 5 tr]
    refine g_aload_n C dX9_got_40 rfl ?_
    refine g_get C i_X9 0 8 f_60 rfl rfl (by decide) rfl rfl dX9_got_41 ?_
    refine g_callV C (c_X3_measure E f0 a0 a1 a2 a3 a4 cnt ms sk pt md ri f8 tr P S (mkN sk pt P S cnt) (by omega) (by omega) (by omega) (mkN_1024 sk pt P S hcnt) (hms)) gX9_got_X3_measure rfl 4 (by decide +kernel) ⟨by decide, by decide⟩ ⟨by decide, by decide⟩ 1 rfl rfl [1, 2, 3, 4, 5, 6, 7] [0] (wr := [gO m 9 [.ref f0, .ref f1, .ref f2, .ref f3, .ref f4, .ref f5, .ref f6, .ref f7, .ref f8, .ref f9, .ref f10]]) rfl (by decide) rfl (by decide) (by decide) rfl rfl (Nat.le_of_ble_eq_true rfl) dX9_got_44 ?_
    rintro _ _ ⟨rfl, rfl⟩
    show gg E _ 4 X 0 0 47 [some (.ref m), some (.int (nI P)), some (.int (nI S)), some (.int (nI w))] [] [gO m 9 [.ref f0, .ref f1, .ref f2, .ref f3, .ref f4, .ref f5, .ref f6, .ref f7, .ref f8, .ref f9, .ref f10], gO f0 3 [.ref a0, .ref a1, .ref a2, .ref a3, .ref a4, .int (nI cnt)], gA E a0 10 ms, gA E a1 10 sk, gA E a2 80 pt, gA E a3 5 md, gA E a4 8 ri, gA E f8 5 (msr tr (nI (bcN (mkN sk pt P S cnt) 10)) (shV ms pt P (mkN sk pt P S cnt) cnt) (nI (miN pt P (mkN sk pt P S cnt) cnt)) (shV ms pt P (laS (mkN sk pt P S cnt) cnt) cnt) (md S))]
    refine g_aload_n C dX9_got_47 rfl ?_
    refine g_get C i_X9 0 8 f_60 rfl rfl (by decide) rfl rfl dX9_got_48 ?_
    refine g_iload_n C dX9_got_51 rfl ?_
    refine g_iald C 7 w rfl rfl (by omega) (by decide) dX9_got_52 ?_
    exact g_iret C Rt dX9_got_53 (by decide) (by decide) (⟨_, by rw [hmd, msr_kno hms w hw]; rfl, rfl⟩)
  · exact absurd hw (by omega)

abbrev rm_c_X9_got_bad : Room := { frames := 3, cells := 0, slots := 0, locals := 71 }
set_option maxHeartbeats 4000000 in
set_option maxRecDepth 100000 in
theorem c_X9_got_bad (E : gE) (m f0 f1 f2 f3 f4 f5 f6 f7 f8 f9 f10 : Nat) (p s w : Int32) (hb : p < 0 ∨ nI 8 ≤ p ∨ s < 0 ∨ nI 5 ≤ s ∨ w < 0 ∨ nI 5 ≤ w) : MM E yX9_got wsX9_got rm_c_X9_got_bad [.ref m, .int p, .int s, .int w] [gO m 9 [.ref f0, .ref f1, .ref f2, .ref f3, .ref f4, .ref f5, .ref f6, .ref f7, .ref f8, .ref f9, .ref f10]] (fun rv_ ru_ => rv_ = some (.int (-1)) ∧ ru_ = [gO m 9 [.ref f0, .ref f1, .ref f2, .ref f3, .ref f4, .ref f5, .ref f6, .ref f7, .ref f8, .ref f9, .ref f10]]) := by
  refine MM.ofG (cc := cX9_got) (maxL := 4) (ret := (some .int)) (by decide) rfl (Nat.le_of_ble_eq_true rfl) (ll := [some (.ref m), some (.int p), some (.int s), some (.int w)]) rfl ?_
  intro X C Rt
  have C : gx E X cX9_got 4 wsX9_got RX9 := C
  refine g_iload_n C dX9_got_0 rfl ?_
  refine g_callS C (c_X9_isPupil E p ) gX9_got_X9_isPupil rfl 1 (by decide +kernel) ⟨by decide, by decide⟩ ⟨by decide, by decide⟩ [] [0] (wr := [gO m 9 [.ref f0, .ref f1, .ref f2, .ref f3, .ref f4, .ref f5, .ref f6, .ref f7, .ref f8, .ref f9, .ref f10]]) rfl (by decide) rfl (by decide) (by decide) rfl rfl (Nat.le_of_ble_eq_true rfl) dX9_got_1 ?_
  rintro _ _ ⟨rfl, rfl⟩
  show gg E _ 4 X 0 0 4 [some (.ref m), some (.int p), some (.int s), some (.int w)] [.int (b2i (decide (¬ p < 0 ∧ ¬ nI 8 ≤ p)))] [gO m 9 [.ref f0, .ref f1, .ref f2, .ref f3, .ref f4, .ref f5, .ref f6, .ref f7, .ref f8, .ref f9, .ref f10]]
  refine g_if_eq (tgt := 23) C dX9_got_4 (by decide) (fun c4 => ?_) (fun c4 => ?_)
  · refine g_iconst (v := -1) C dX9_got_23 (by decide) ?_
    exact g_iret C Rt dX9_got_24 (by decide) (by decide) (⟨rfl, rfl⟩)
  · refine g_iload_n C dX9_got_7 rfl ?_
    refine g_callS C (c_X9_isSkill E s ) gX9_got_X9_isSkill rfl 1 (by decide +kernel) ⟨by decide, by decide⟩ ⟨by decide, by decide⟩ [] [0] (wr := [gO m 9 [.ref f0, .ref f1, .ref f2, .ref f3, .ref f4, .ref f5, .ref f6, .ref f7, .ref f8, .ref f9, .ref f10]]) rfl (by decide) rfl (by decide) (by decide) rfl rfl (Nat.le_of_ble_eq_true rfl) dX9_got_8 ?_
    rintro _ _ ⟨rfl, rfl⟩
    show gg E _ 4 X 0 0 11 [some (.ref m), some (.int p), some (.int s), some (.int w)] [.int (b2i (decide (¬ s < 0 ∧ ¬ nI 5 ≤ s)))] [gO m 9 [.ref f0, .ref f1, .ref f2, .ref f3, .ref f4, .ref f5, .ref f6, .ref f7, .ref f8, .ref f9, .ref f10]]
    refine g_if_eq (tgt := 23) C dX9_got_11 (by decide) (fun c11 => ?_) (fun c11 => ?_)
    · refine g_iconst (v := -1) C dX9_got_23 (by decide) ?_
      exact g_iret C Rt dX9_got_24 (by decide) (by decide) (⟨rfl, rfl⟩)
    · refine g_iload_n C dX9_got_14 rfl ?_
      refine g_if_lt (tgt := 23) C dX9_got_15 (by decide) (fun c15 => ?_) (fun c15 => ?_)
      · refine g_iconst (v := -1) C dX9_got_23 (by decide) ?_
        exact g_iret C Rt dX9_got_24 (by decide) (by decide) (⟨rfl, rfl⟩)
      · refine g_iload_n C dX9_got_18 rfl ?_
        refine g_iconst (v := nI 5) C dX9_got_19 (by decide) ?_
        refine g_icmp_lt (tgt := 25) C dX9_got_20 (by decide) (fun c20 => ?_) (fun c20 => ?_)
        · exact (have z1 := of_decide_eq_true (b2i_t.mp c4); have z2 := of_decide_eq_true (b2i_t.mp c11); hb.elim (fun z => absurd z z1.1) (fun z => z.elim (fun z => absurd z z1.2) (fun z => z.elim (fun z => absurd z z2.1) (fun z => z.elim (fun z => absurd z z2.2) (fun z => z.elim (fun z => absurd z c15) (fun z => absurd c20 (Int32.not_lt.mpr z)))))))
        · refine g_iconst (v := -1) C dX9_got_23 (by decide) ?_
          exact g_iret C Rt dX9_got_24 (by decide) (by decide) (⟨rfl, rfl⟩)

abbrev rm_c_X10_got_ok : Room := { frames := 2, cells := 0, slots := 0, locals := 51 }
set_option maxHeartbeats 4000000 in
set_option maxRecDepth 100000 in
theorem c_X10_got_ok (E : gE) (h : Nat) (ad : Nat → Nat) (iv : Nat → Int32) (cnt : Nat) (ms sk pt ro : Nat → Int32) (P S w : Nat) (hcnt : cnt ≤ 10) (hP : P < 8) (hS : S < 5) (hw : w < 5) (hms : okM ms cnt) : MM E yX10_got wsX10_got rm_c_X10_got_ok [.ref h, .int (nI P), .int (nI S), .int (nI w)] [gO h 10 (tF ad (upd iv 0 (nI cnt))), gA E (ad 1) 10 ms, gA E (ad 2) 10 sk, gA E (ad 3) 80 pt, gA E (ad 4) 8 ro] (fun rv_ ru_ => ∃ (ro2 : Nat → Int32), rv_ = some (.int (ioF ms sk pt cnt P S w)) ∧ ru_ = [gO h 10 (tF ad (upd iv 0 (nI cnt))), gA E (ad 1) 10 ms, gA E (ad 2) 10 sk, gA E (ad 3) 80 pt, gA E (ad 4) 8 ro2]) := by
  refine MM.ofG (cc := cX10_got) (maxL := 5) (ret := (some .int)) (by decide) rfl (Nat.le_of_ble_eq_true rfl) (ll := [some (.ref h), some (.int (nI P)), some (.int (nI S)), some (.int (nI w)), none]) rfl ?_
  intro X C Rt
  have C : gx E X cX10_got 5 wsX10_got RX10 := C
  refine g_iload_n C dX10_got_0 rfl ?_
  refine g_callS C (c_X10_isPupil_y E P (by omega)) gX10_got_X10_isPupil rfl 1 (by decide +kernel) ⟨by decide, by decide⟩ ⟨by decide, by decide⟩ [] [0, 1, 2, 3, 4] (wr := [gO h 10 (tF ad (upd iv 0 (nI cnt))), gA E (ad 1) 10 ms, gA E (ad 2) 10 sk, gA E (ad 3) 80 pt, gA E (ad 4) 8 ro]) rfl (by decide) rfl (by decide) (by decide) rfl rfl (Nat.le_of_ble_eq_true rfl) dX10_got_1 ?_
  rintro _ _ ⟨rfl, rfl⟩
  show gg E _ 5 X 0 0 4 [some (.ref h), some (.int (nI P)), some (.int (nI S)), some (.int (nI w)), none] [.int (nI 1)] [gO h 10 (tF ad (upd iv 0 (nI cnt))), gA E (ad 1) 10 ms, gA E (ad 2) 10 sk, gA E (ad 3) 80 pt, gA E (ad 4) 8 ro]
  refine g_if_eq (tgt := 14) C dX10_got_4 (by decide) (fun c4 => absurd c4 (by decide)) (fun c4 => ?_)
  refine g_iload_n C dX10_got_7 rfl ?_
  refine g_callS C (c_X10_isSkill_y E S (by omega)) gX10_got_X10_isSkill rfl 1 (by decide +kernel) ⟨by decide, by decide⟩ ⟨by decide, by decide⟩ [] [0, 1, 2, 3, 4] (wr := [gO h 10 (tF ad (upd iv 0 (nI cnt))), gA E (ad 1) 10 ms, gA E (ad 2) 10 sk, gA E (ad 3) 80 pt, gA E (ad 4) 8 ro]) rfl (by decide) rfl (by decide) (by decide) rfl rfl (Nat.le_of_ble_eq_true rfl) dX10_got_8 ?_
  rintro _ _ ⟨rfl, rfl⟩
  show gg E _ 5 X 0 0 11 [some (.ref h), some (.int (nI P)), some (.int (nI S)), some (.int (nI w)), none] [.int (nI 1)] [gO h 10 (tF ad (upd iv 0 (nI cnt))), gA E (ad 1) 10 ms, gA E (ad 2) 10 sk, gA E (ad 3) 80 pt, gA E (ad 4) 8 ro]
  refine g_if_ne (tgt := 16) C dX10_got_11 (by decide) (fun c11 => ?_) (fun c11 => absurd c11 (by decide))
  refine g_aload_n C dX10_got_16 rfl ?_
  refine g_iload_n C dX10_got_17 rfl ?_
  refine g_iload_n C dX10_got_18 rfl ?_
  refine g_callV C (c_X10_markedOf E h ad iv cnt sk pt P S (by omega) (by omega) (by omega)) gX10_got_X10_markedOf rfl 2 (by decide +kernel) ⟨by decide, by decide⟩ ⟨by decide, by decide⟩ 0 rfl rfl [0, 2, 3] [1, 4] (wr := [gA E (ad 1) 10 ms, gA E (ad 4) 8 ro]) rfl (by decide) rfl (by decide) (by decide) rfl rfl (Nat.le_of_ble_eq_true rfl) dX10_got_19 ?_
  rintro _ _ ⟨rfl, rfl⟩
  refine gg.perm (ws' := [gO h 10 (tF ad (upd iv 0 (nI cnt))), gA E (ad 1) 10 ms, gA E (ad 2) 10 sk, gA E (ad 3) 80 pt, gA E (ad 4) 8 ro]) [2, 0, 3, 4, 1] (by decide) rfl ?_
  show gg E _ 5 X 0 0 22 [some (.ref h), some (.int (nI P)), some (.int (nI S)), some (.int (nI w)), none] [.int (nI (mkN sk pt P S cnt))] [gO h 10 (tF ad (upd iv 0 (nI cnt))), gA E (ad 1) 10 ms, gA E (ad 2) 10 sk, gA E (ad 3) 80 pt, gA E (ad 4) 8 ro]
  refine g_istore C dX10_got_22 (by decide) rfl (ll' := [some (.ref h), some (.int (nI P)), some (.int (nI S)), some (.int (nI w)), some (.int (nI (mkN sk pt P S cnt)))]) rfl ?_
  refine g_iload_n C dX10_got_24 rfl ?_
  by_cases s25_0 : w = 0
  · refine g_tableIn (off := 35) (tgt := 60) C dX10_got_25 (by rw [s25_0]; decide) (by rw [s25_0]; decide) (by rw [s25_0]; rfl) (by decide) ?_
    refine g_iload C dX10_got_60 rfl ?_
    refine g_callS C (c_X10_bits E (mkN sk pt P S cnt) (mkN_1024 sk pt P S hcnt)) gX10_got_X10_bits rfl 1 (by decide +kernel) ⟨by decide, by decide⟩ ⟨by decide, by decide⟩ [] [0, 1, 2, 3, 4] (wr := [gO h 10 (tF ad (upd iv 0 (nI cnt))), gA E (ad 1) 10 ms, gA E (ad 2) 10 sk, gA E (ad 3) 80 pt, gA E (ad 4) 8 ro]) rfl (by decide) rfl (by decide) (by decide) rfl rfl (Nat.le_of_ble_eq_true rfl) dX10_got_62 ?_
    rintro _ _ ⟨rfl, rfl⟩
    show gg E _ 5 X 0 0 65 [some (.ref h), some (.int (nI P)), some (.int (nI S)), some (.int (nI w)), some (.int (nI (mkN sk pt P S cnt)))] [.int (nI (bcN (mkN sk pt P S cnt) 10))] [gO h 10 (tF ad (upd iv 0 (nI cnt))), gA E (ad 1) 10 ms, gA E (ad 2) 10 sk, gA E (ad 3) 80 pt, gA E (ad 4) 8 ro]
    exact g_iret C Rt dX10_got_65 (by decide) (by decide) (⟨_, by rw [s25_0]; rfl, rfl⟩)
  by_cases s25_1 : w = 1
  · refine g_tableIn (off := 41) (tgt := 66) C dX10_got_25 (by rw [s25_1]; decide) (by rw [s25_1]; decide) (by rw [s25_1]; rfl) (by decide) ?_
    refine g_aload_n C dX10_got_66 rfl ?_
    refine g_iload_n C dX10_got_67 rfl ?_
    refine g_iload C dX10_got_68 rfl ?_
    refine g_callV C (c_X10_share E h ad iv cnt ms pt P (mkN sk pt P S cnt) (by omega) (by omega) (mkN_1024 sk pt P S hcnt)) gX10_got_X10_share rfl 2 (by decide +kernel) ⟨by decide, by decide⟩ ⟨by decide, by decide⟩ 0 rfl rfl [0, 1, 3] [2, 4] (wr := [gA E (ad 2) 10 sk, gA E (ad 4) 8 ro]) rfl (by decide) rfl (by decide) (by decide) rfl rfl (Nat.le_of_ble_eq_true rfl) dX10_got_70 ?_
    rintro _ _ ⟨rfl, rfl⟩
    refine gg.perm (ws' := [gO h 10 (tF ad (upd iv 0 (nI cnt))), gA E (ad 1) 10 ms, gA E (ad 2) 10 sk, gA E (ad 3) 80 pt, gA E (ad 4) 8 ro]) [2, 3, 0, 4, 1] (by decide) rfl ?_
    show gg E _ 5 X 0 0 73 [some (.ref h), some (.int (nI P)), some (.int (nI S)), some (.int (nI w)), some (.int (nI (mkN sk pt P S cnt)))] [.int (shV ms pt P (mkN sk pt P S cnt) cnt)] [gO h 10 (tF ad (upd iv 0 (nI cnt))), gA E (ad 1) 10 ms, gA E (ad 2) 10 sk, gA E (ad 3) 80 pt, gA E (ad 4) 8 ro]
    exact g_iret C Rt dX10_got_73 (by decide) (by decide) (⟨_, by rw [s25_1]; rfl, rfl⟩)
  by_cases s25_2 : w = 2
  · refine g_tableIn (off := 49) (tgt := 74) C dX10_got_25 (by rw [s25_2]; decide) (by rw [s25_2]; decide) (by rw [s25_2]; rfl) (by decide) ?_
    refine g_aload_n C dX10_got_74 rfl ?_
    refine g_iload_n C dX10_got_75 rfl ?_
    refine g_iload C dX10_got_76 rfl ?_
    refine g_callV C (c_X10_missed E h ad iv cnt pt P (mkN sk pt P S cnt) (by omega) (by omega) (mkN_1024 sk pt P S hcnt)) gX10_got_X10_missed rfl 2 (by decide +kernel) ⟨by decide, by decide⟩ ⟨by decide, by decide⟩ 0 rfl rfl [0, 3] [1, 2, 4] (wr := [gA E (ad 1) 10 ms, gA E (ad 2) 10 sk, gA E (ad 4) 8 ro]) rfl (by decide) rfl (by decide) (by decide) rfl rfl (Nat.le_of_ble_eq_true rfl) dX10_got_78 ?_
    rintro _ _ ⟨rfl, rfl⟩
    refine gg.perm (ws' := [gO h 10 (tF ad (upd iv 0 (nI cnt))), gA E (ad 1) 10 ms, gA E (ad 2) 10 sk, gA E (ad 3) 80 pt, gA E (ad 4) 8 ro]) [3, 0, 1, 4, 2] (by decide) rfl ?_
    show gg E _ 5 X 0 0 81 [some (.ref h), some (.int (nI P)), some (.int (nI S)), some (.int (nI w)), some (.int (nI (mkN sk pt P S cnt)))] [.int (nI (miN pt P (mkN sk pt P S cnt) cnt))] [gO h 10 (tF ad (upd iv 0 (nI cnt))), gA E (ad 1) 10 ms, gA E (ad 2) 10 sk, gA E (ad 3) 80 pt, gA E (ad 4) 8 ro]
    exact g_iret C Rt dX10_got_81 (by decide) (by decide) (⟨_, by rw [s25_2]; rfl, rfl⟩)
  by_cases s25_3 : w = 3
  · refine g_tableIn (off := 57) (tgt := 82) C dX10_got_25 (by rw [s25_3]; decide) (by rw [s25_3]; decide) (by rw [s25_3]; rfl) (by decide) ?_
    refine g_aload_n C dX10_got_82 rfl ?_
    refine g_iload_n C dX10_got_83 rfl ?_
    refine g_iload C dX10_got_84 rfl ?_
    refine g_callV C (c_X10_last E h ad iv cnt ms pt P (mkN sk pt P S cnt) (by omega) (by omega) (mkN_1024 sk pt P S hcnt) (hms)) gX10_got_X10_last rfl 2 (by decide +kernel) ⟨by decide, by decide⟩ ⟨by decide, by decide⟩ 0 rfl rfl [0, 1, 3] [2, 4] (wr := [gA E (ad 2) 10 sk, gA E (ad 4) 8 ro]) rfl (by decide) rfl (by decide) (by decide) rfl rfl (Nat.le_of_ble_eq_true rfl) dX10_got_86 ?_
    rintro _ _ ⟨rfl, rfl⟩
    refine gg.perm (ws' := [gO h 10 (tF ad (upd iv 0 (nI cnt))), gA E (ad 1) 10 ms, gA E (ad 2) 10 sk, gA E (ad 3) 80 pt, gA E (ad 4) 8 ro]) [2, 3, 0, 4, 1] (by decide) rfl ?_
    show gg E _ 5 X 0 0 89 [some (.ref h), some (.int (nI P)), some (.int (nI S)), some (.int (nI w)), some (.int (nI (mkN sk pt P S cnt)))] [.int (laV ms pt P (mkN sk pt P S cnt) cnt)] [gO h 10 (tF ad (upd iv 0 (nI cnt))), gA E (ad 1) 10 ms, gA E (ad 2) 10 sk, gA E (ad 3) 80 pt, gA E (ad 4) 8 ro]
    exact g_iret C Rt dX10_got_89 (by decide) (by decide) (⟨_, by rw [s25_3]; rfl, rfl⟩)
  by_cases s25_4 : w = 4
  · refine g_tableIn (off := 65) (tgt := 90) C dX10_got_25 (by rw [s25_4]; decide) (by rw [s25_4]; decide) (by rw [s25_4]; rfl) (by decide) ?_
    refine g_aload_n C dX10_got_90 rfl ?_
    refine g_iload_n C dX10_got_91 rfl ?_
    refine g_callV C (c_X10_classOf E h ad iv cnt ms sk pt ro S (by omega) (by omega)) gX10_got_X10_classOf rfl 1 (by decide +kernel) ⟨by decide, by decide⟩ ⟨by decide, by decide⟩ 0 rfl rfl [0, 1, 2, 3, 4] [] (wr := []) rfl (by decide) rfl (by decide) (by decide) rfl rfl (Nat.le_of_ble_eq_true rfl) dX10_got_92 ?_
    rintro _ _ ⟨ri2_92, rfl, rfl⟩
    show gg E _ 5 X 0 0 95 [some (.ref h), some (.int (nI P)), some (.int (nI S)), some (.int (nI w)), some (.int (nI (mkN sk pt P S cnt)))] [.int (meV ms sk pt cnt S)] [gO h 10 (tF ad (upd iv 0 (nI cnt))), gA E (ad 1) 10 ms, gA E (ad 2) 10 sk, gA E (ad 3) 80 pt, gA E (ad 4) 8 ri2_92]
    exact g_iret C Rt dX10_got_95 (by decide) (by decide) (⟨_, by rw [s25_4]; rfl, rfl⟩)
  exact absurd hw (by omega)

abbrev rm_c_X10_got_bad : Room := { frames := 2, cells := 0, slots := 0, locals := 51 }
set_option maxHeartbeats 4000000 in
set_option maxRecDepth 100000 in
theorem c_X10_got_bad (E : gE) (h : Nat) (ad : Nat → Nat) (iv : Nat → Int32) (p s w : Int32) (hb : p < 0 ∨ nI 7 < p ∨ s < 0 ∨ nI 4 < s) : MM E yX10_got wsX10_got rm_c_X10_got_bad [.ref h, .int p, .int s, .int w] [gO h 10 (tF ad iv)] (fun rv_ ru_ => rv_ = some (.int (-1)) ∧ ru_ = [gO h 10 (tF ad iv)]) := by
  refine MM.ofG (cc := cX10_got) (maxL := 5) (ret := (some .int)) (by decide) rfl (Nat.le_of_ble_eq_true rfl) (ll := [some (.ref h), some (.int p), some (.int s), some (.int w), none]) rfl ?_
  intro X C Rt
  have C : gx E X cX10_got 5 wsX10_got RX10 := C
  refine g_iload_n C dX10_got_0 rfl ?_
  refine g_callS C (c_X10_isPupil E p ) gX10_got_X10_isPupil rfl 1 (by decide +kernel) ⟨by decide, by decide⟩ ⟨by decide, by decide⟩ [] [0] (wr := [gO h 10 (tF ad iv)]) rfl (by decide) rfl (by decide) (by decide) rfl rfl (Nat.le_of_ble_eq_true rfl) dX10_got_1 ?_
  rintro _ _ ⟨rfl, rfl⟩
  show gg E _ 5 X 0 0 4 [some (.ref h), some (.int p), some (.int s), some (.int w), none] [.int (b2i (decide (¬ p < nI 0 ∧ ¬ nI 7 < p)))] [gO h 10 (tF ad iv)]
  refine g_if_eq (tgt := 14) C dX10_got_4 (by decide) (fun c4 => ?_) (fun c4 => ?_)
  · refine g_iconst (v := -1) C dX10_got_14 (by decide) ?_
    exact g_iret C Rt dX10_got_15 (by decide) (by decide) (⟨rfl, rfl⟩)
  · refine g_iload_n C dX10_got_7 rfl ?_
    refine g_callS C (c_X10_isSkill E s ) gX10_got_X10_isSkill rfl 1 (by decide +kernel) ⟨by decide, by decide⟩ ⟨by decide, by decide⟩ [] [0] (wr := [gO h 10 (tF ad iv)]) rfl (by decide) rfl (by decide) (by decide) rfl rfl (Nat.le_of_ble_eq_true rfl) dX10_got_8 ?_
    rintro _ _ ⟨rfl, rfl⟩
    show gg E _ 5 X 0 0 11 [some (.ref h), some (.int p), some (.int s), some (.int w), none] [.int (b2i (decide (¬ s < nI 0 ∧ ¬ nI 4 < s)))] [gO h 10 (tF ad iv)]
    refine g_if_ne (tgt := 16) C dX10_got_11 (by decide) (fun c11 => ?_) (fun c11 => ?_)
    · exact (have z1 := of_decide_eq_true (b2i_t.mp c4); have z2 := of_decide_eq_true (b2i_t.mp c11); hb.elim (fun z => absurd z z1.1) (fun z => z.elim (fun z => absurd z z1.2) (fun z => z.elim (fun z => absurd z z2.1) (fun z => absurd z z2.2))))
    · refine g_iconst (v := -1) C dX10_got_14 (by decide) ?_
      exact g_iret C Rt dX10_got_15 (by decide) (by decide) (⟨rfl, rfl⟩)

abbrev rm_c_X10_got_out : Room := { frames := 2, cells := 0, slots := 0, locals := 51 }
set_option maxHeartbeats 4000000 in
set_option maxRecDepth 100000 in
theorem c_X10_got_out (E : gE) (h : Nat) (ad : Nat → Nat) (iv : Nat → Int32) (cnt : Nat) (sk pt : Nat → Int32) (P S : Nat) (w : Int32) (hcnt : cnt ≤ 10) (hP : P < 8) (hS : S < 5) (hb : w < 0 ∨ nI 5 ≤ w) : MM E yX10_got wsX10_got rm_c_X10_got_out [.ref h, .int (nI P), .int (nI S), .int w] [gO h 10 (tF ad (upd iv 0 (nI cnt))), gA E (ad 2) 10 sk, gA E (ad 3) 80 pt] (fun rv_ ru_ => rv_ = some (.int (-1)) ∧ ru_ = [gO h 10 (tF ad (upd iv 0 (nI cnt))), gA E (ad 2) 10 sk, gA E (ad 3) 80 pt]) := by
  refine MM.ofG (cc := cX10_got) (maxL := 5) (ret := (some .int)) (by decide) rfl (Nat.le_of_ble_eq_true rfl) (ll := [some (.ref h), some (.int (nI P)), some (.int (nI S)), some (.int w), none]) rfl ?_
  intro X C Rt
  have C : gx E X cX10_got 5 wsX10_got RX10 := C
  refine g_iload_n C dX10_got_0 rfl ?_
  refine g_callS C (c_X10_isPupil_y E P (by omega)) gX10_got_X10_isPupil rfl 1 (by decide +kernel) ⟨by decide, by decide⟩ ⟨by decide, by decide⟩ [] [0, 1, 2] (wr := [gO h 10 (tF ad (upd iv 0 (nI cnt))), gA E (ad 2) 10 sk, gA E (ad 3) 80 pt]) rfl (by decide) rfl (by decide) (by decide) rfl rfl (Nat.le_of_ble_eq_true rfl) dX10_got_1 ?_
  rintro _ _ ⟨rfl, rfl⟩
  show gg E _ 5 X 0 0 4 [some (.ref h), some (.int (nI P)), some (.int (nI S)), some (.int w), none] [.int (nI 1)] [gO h 10 (tF ad (upd iv 0 (nI cnt))), gA E (ad 2) 10 sk, gA E (ad 3) 80 pt]
  refine g_if_eq (tgt := 14) C dX10_got_4 (by decide) (fun c4 => absurd c4 (by decide)) (fun c4 => ?_)
  refine g_iload_n C dX10_got_7 rfl ?_
  refine g_callS C (c_X10_isSkill_y E S (by omega)) gX10_got_X10_isSkill rfl 1 (by decide +kernel) ⟨by decide, by decide⟩ ⟨by decide, by decide⟩ [] [0, 1, 2] (wr := [gO h 10 (tF ad (upd iv 0 (nI cnt))), gA E (ad 2) 10 sk, gA E (ad 3) 80 pt]) rfl (by decide) rfl (by decide) (by decide) rfl rfl (Nat.le_of_ble_eq_true rfl) dX10_got_8 ?_
  rintro _ _ ⟨rfl, rfl⟩
  show gg E _ 5 X 0 0 11 [some (.ref h), some (.int (nI P)), some (.int (nI S)), some (.int w), none] [.int (nI 1)] [gO h 10 (tF ad (upd iv 0 (nI cnt))), gA E (ad 2) 10 sk, gA E (ad 3) 80 pt]
  refine g_if_ne (tgt := 16) C dX10_got_11 (by decide) (fun c11 => ?_) (fun c11 => absurd c11 (by decide))
  refine g_aload_n C dX10_got_16 rfl ?_
  refine g_iload_n C dX10_got_17 rfl ?_
  refine g_iload_n C dX10_got_18 rfl ?_
  refine g_callV C (c_X10_markedOf E h ad iv cnt sk pt P S (by omega) (by omega) (by omega)) gX10_got_X10_markedOf rfl 2 (by decide +kernel) ⟨by decide, by decide⟩ ⟨by decide, by decide⟩ 0 rfl rfl [0, 1, 2] [] (wr := []) rfl (by decide) rfl (by decide) (by decide) rfl rfl (Nat.le_of_ble_eq_true rfl) dX10_got_19 ?_
  rintro _ _ ⟨rfl, rfl⟩
  show gg E _ 5 X 0 0 22 [some (.ref h), some (.int (nI P)), some (.int (nI S)), some (.int w), none] [.int (nI (mkN sk pt P S cnt))] [gO h 10 (tF ad (upd iv 0 (nI cnt))), gA E (ad 2) 10 sk, gA E (ad 3) 80 pt]
  refine g_istore C dX10_got_22 (by decide) rfl (ll' := [some (.ref h), some (.int (nI P)), some (.int (nI S)), some (.int w), some (.int (nI (mkN sk pt P S cnt)))]) rfl ?_
  refine g_iload_n C dX10_got_24 rfl ?_
  by_cases s25_0 : w = nI 0
  · exact absurd hb (by rw [s25_0]; decide)
  by_cases s25_1 : w = nI 1
  · exact absurd hb (by rw [s25_1]; decide)
  by_cases s25_2 : w = nI 2
  · exact absurd hb (by rw [s25_2]; decide)
  by_cases s25_3 : w = nI 3
  · exact absurd hb (by rw [s25_3]; decide)
  by_cases s25_4 : w = nI 4
  · exact absurd hb (by rw [s25_4]; decide)
  refine g_tableOut (tgt := 96) C dX10_got_25 (by have e0 := ne_toInt (by decide) (show ¬ w = nI 0 from s25_0); have e1 := ne_toInt (by decide) (show ¬ w = nI 1 from s25_1); have e2 := ne_toInt (by decide) (show ¬ w = nI 2 from s25_2); have e3 := ne_toInt (by decide) (show ¬ w = nI 3 from s25_3); have e4 := ne_toInt (by decide) (show ¬ w = nI 4 from s25_4); omega) (by decide) ?_
  refine g_iconst (v := -1) C dX10_got_96 (by decide) ?_
  exact g_iret C Rt dX10_got_97 (by decide) (by decide) (⟨rfl, rfl⟩)

abbrev rm_c_X9_feed_ok : Room := { frames := 1, cells := 0, slots := 0, locals := 22 }
set_option maxHeartbeats 4000000 in
set_option maxRecDepth 100000 in
theorem c_X9_feed_ok (E : gE) (m f0 f1 f2 f3 f4 f5 f6 f7 f8 f9 f10 : Nat) (tb n : Nat) (t : Nat → Int32) (a b c d e : Int32) (hn : n ≤ 580) : MM E yX9_feed wsX9_feed rm_c_X9_feed_ok [.ref m, .int a, .int b, .int c, .int d, .int e] [gO m 9 [.ref f0, .ref f1, .ref f2, .ref f3, .ref f4, .ref f5, .ref f6, .ref f7, .ref f8, .ref f9, .ref f10], gO f1 6 [.ref tb, .int (nI n)], gA E tb 600 t] (fun rv_ ru_ => rv_ = some (.int (nI (n + 20))) ∧ ru_ = [gO m 9 [.ref f0, .ref f1, .ref f2, .ref f3, .ref f4, .ref f5, .ref f6, .ref f7, .ref f8, .ref f9, .ref f10], gO f1 6 [.ref tb, .int (nI (n + 20))], gA E tb 600 (tk20 t n a b c d e)]) := by
  refine MM.ofG (cc := cX9_feed) (maxL := 6) (ret := (some .int)) (by decide) rfl (Nat.le_of_ble_eq_true rfl) (ll := [some (.ref m), some (.int a), some (.int b), some (.int c), some (.int d), some (.int e)]) rfl ?_
  intro X C Rt
  have C : gx E X cX9_feed 6 wsX9_feed RX9 := C
  have i_X6 : ∀ w ∈ u_ws RX6 TX6 2, w ∈ wsX9_feed := by decide +kernel
  have i_X9 : ∀ w ∈ u_ws RX9 TX9 11, w ∈ wsX9_feed := by decide +kernel
  have f_113 : Cond.fieldLink RX9 113 "MarkPages$Tape" "count" "I" ∈ wsX9_feed := by decide +kernel
  have f_19 : Cond.fieldLink RX9 19 "MarkPages" "tape" "LMarkPages$Tape;" ∈ wsX9_feed := by decide +kernel
  refine g_aload_n C dX9_feed_0 rfl ?_
  refine g_get C i_X9 0 1 f_19 rfl rfl (by decide) rfl rfl dX9_feed_1 ?_
  refine g_get C i_X6 1 1 f_113 rfl rfl (by decide) rfl rfl dX9_feed_4 ?_
  refine g_sipush (v := nI 580) C dX9_feed_7 (by decide) ?_
  refine g_icmp_le_n (tgt := 15) C dX9_feed_10 (by decide) (by omega) (by omega) (fun c10 => ?_) (fun c10 => ?_)
  · refine g_aload_n C dX9_feed_15 rfl ?_
    refine g_get C i_X9 0 1 f_19 rfl rfl (by decide) rfl rfl dX9_feed_16 ?_
    refine g_iload_n C dX9_feed_19 rfl ?_
    refine g_callV C (c_X6_take E f1 tb n t a (by omega)) gX9_feed_X6_take rfl 1 (by decide +kernel) ⟨by decide, by decide⟩ ⟨by decide, by decide⟩ 1 rfl rfl [1, 2] [0] (wr := [gO m 9 [.ref f0, .ref f1, .ref f2, .ref f3, .ref f4, .ref f5, .ref f6, .ref f7, .ref f8, .ref f9, .ref f10]]) rfl (by decide) rfl (by decide) (by decide) rfl rfl (Nat.le_of_ble_eq_true rfl) dX9_feed_20 ?_
    rintro _ _ ⟨rfl, rfl⟩
    show gg E _ 6 X 0 0 23 [some (.ref m), some (.int a), some (.int b), some (.int c), some (.int d), some (.int e)] [] [gO m 9 [.ref f0, .ref f1, .ref f2, .ref f3, .ref f4, .ref f5, .ref f6, .ref f7, .ref f8, .ref f9, .ref f10], gO f1 6 [.ref tb, .int (nI (n + 4))], gA E tb 600 (tk4 t n a)]
    refine g_aload_n C dX9_feed_23 rfl ?_
    refine g_get C i_X9 0 1 f_19 rfl rfl (by decide) rfl rfl dX9_feed_24 ?_
    refine g_iload_n C dX9_feed_27 rfl ?_
    refine g_callV C (c_X6_take E f1 tb (n + 4) (tk4 t n a) b (by omega)) gX9_feed_X6_take rfl 1 (by decide +kernel) ⟨by decide, by decide⟩ ⟨by decide, by decide⟩ 1 rfl rfl [1, 2] [0] (wr := [gO m 9 [.ref f0, .ref f1, .ref f2, .ref f3, .ref f4, .ref f5, .ref f6, .ref f7, .ref f8, .ref f9, .ref f10]]) rfl (by decide) rfl (by decide) (by decide) rfl rfl (Nat.le_of_ble_eq_true rfl) dX9_feed_28 ?_
    rintro _ _ ⟨rfl, rfl⟩
    show gg E _ 6 X 0 0 31 [some (.ref m), some (.int a), some (.int b), some (.int c), some (.int d), some (.int e)] [] [gO m 9 [.ref f0, .ref f1, .ref f2, .ref f3, .ref f4, .ref f5, .ref f6, .ref f7, .ref f8, .ref f9, .ref f10], gO f1 6 [.ref tb, .int (nI ((n + 4) + 4))], gA E tb 600 (tk4 (tk4 t n a) (n + 4) b)]
    refine g_aload_n C dX9_feed_31 rfl ?_
    refine g_get C i_X9 0 1 f_19 rfl rfl (by decide) rfl rfl dX9_feed_32 ?_
    refine g_iload_n C dX9_feed_35 rfl ?_
    refine g_callV C (c_X6_take E f1 tb ((n + 4) + 4) (tk4 (tk4 t n a) (n + 4) b) c (by omega)) gX9_feed_X6_take rfl 1 (by decide +kernel) ⟨by decide, by decide⟩ ⟨by decide, by decide⟩ 1 rfl rfl [1, 2] [0] (wr := [gO m 9 [.ref f0, .ref f1, .ref f2, .ref f3, .ref f4, .ref f5, .ref f6, .ref f7, .ref f8, .ref f9, .ref f10]]) rfl (by decide) rfl (by decide) (by decide) rfl rfl (Nat.le_of_ble_eq_true rfl) dX9_feed_36 ?_
    rintro _ _ ⟨rfl, rfl⟩
    show gg E _ 6 X 0 0 39 [some (.ref m), some (.int a), some (.int b), some (.int c), some (.int d), some (.int e)] [] [gO m 9 [.ref f0, .ref f1, .ref f2, .ref f3, .ref f4, .ref f5, .ref f6, .ref f7, .ref f8, .ref f9, .ref f10], gO f1 6 [.ref tb, .int (nI (((n + 4) + 4) + 4))], gA E tb 600 (tk4 (tk4 (tk4 t n a) (n + 4) b) ((n + 4) + 4) c)]
    refine g_aload_n C dX9_feed_39 rfl ?_
    refine g_get C i_X9 0 1 f_19 rfl rfl (by decide) rfl rfl dX9_feed_40 ?_
    refine g_iload C dX9_feed_43 rfl ?_
    refine g_callV C (c_X6_take E f1 tb (((n + 4) + 4) + 4) (tk4 (tk4 (tk4 t n a) (n + 4) b) ((n + 4) + 4) c) d (by omega)) gX9_feed_X6_take rfl 1 (by decide +kernel) ⟨by decide, by decide⟩ ⟨by decide, by decide⟩ 1 rfl rfl [1, 2] [0] (wr := [gO m 9 [.ref f0, .ref f1, .ref f2, .ref f3, .ref f4, .ref f5, .ref f6, .ref f7, .ref f8, .ref f9, .ref f10]]) rfl (by decide) rfl (by decide) (by decide) rfl rfl (Nat.le_of_ble_eq_true rfl) dX9_feed_45 ?_
    rintro _ _ ⟨rfl, rfl⟩
    show gg E _ 6 X 0 0 48 [some (.ref m), some (.int a), some (.int b), some (.int c), some (.int d), some (.int e)] [] [gO m 9 [.ref f0, .ref f1, .ref f2, .ref f3, .ref f4, .ref f5, .ref f6, .ref f7, .ref f8, .ref f9, .ref f10], gO f1 6 [.ref tb, .int (nI ((((n + 4) + 4) + 4) + 4))], gA E tb 600 (tk4 (tk4 (tk4 (tk4 t n a) (n + 4) b) ((n + 4) + 4) c) (((n + 4) + 4) + 4) d)]
    refine g_aload_n C dX9_feed_48 rfl ?_
    refine g_get C i_X9 0 1 f_19 rfl rfl (by decide) rfl rfl dX9_feed_49 ?_
    refine g_iload C dX9_feed_52 rfl ?_
    refine g_callV C (c_X6_take E f1 tb ((((n + 4) + 4) + 4) + 4) (tk4 (tk4 (tk4 (tk4 t n a) (n + 4) b) ((n + 4) + 4) c) (((n + 4) + 4) + 4) d) e (by omega)) gX9_feed_X6_take rfl 1 (by decide +kernel) ⟨by decide, by decide⟩ ⟨by decide, by decide⟩ 1 rfl rfl [1, 2] [0] (wr := [gO m 9 [.ref f0, .ref f1, .ref f2, .ref f3, .ref f4, .ref f5, .ref f6, .ref f7, .ref f8, .ref f9, .ref f10]]) rfl (by decide) rfl (by decide) (by decide) rfl rfl (Nat.le_of_ble_eq_true rfl) dX9_feed_54 ?_
    rintro _ _ ⟨rfl, rfl⟩
    show gg E _ 6 X 0 0 57 [some (.ref m), some (.int a), some (.int b), some (.int c), some (.int d), some (.int e)] [] [gO m 9 [.ref f0, .ref f1, .ref f2, .ref f3, .ref f4, .ref f5, .ref f6, .ref f7, .ref f8, .ref f9, .ref f10], gO f1 6 [.ref tb, .int (nI (((((n + 4) + 4) + 4) + 4) + 4))], gA E tb 600 (tk4 (tk4 (tk4 (tk4 (tk4 t n a) (n + 4) b) ((n + 4) + 4) c) (((n + 4) + 4) + 4) d) ((((n + 4) + 4) + 4) + 4) e)]
    refine g_aload_n C dX9_feed_57 rfl ?_
    refine g_get C i_X9 0 1 f_19 rfl rfl (by decide) rfl rfl dX9_feed_58 ?_
    refine g_get C i_X6 1 1 f_113 rfl rfl (by decide) rfl rfl dX9_feed_61 ?_
    exact g_iret C Rt dX9_feed_64 (by decide) (by decide) (⟨rfl, rfl⟩)
  · exact absurd hn (by omega)

abbrev rm_c_X9_feed_bad : Room := { frames := 1, cells := 0, slots := 0, locals := 22 }
set_option maxHeartbeats 4000000 in
set_option maxRecDepth 100000 in
theorem c_X9_feed_bad (E : gE) (m f0 f1 f2 f3 f4 f5 f6 f7 f8 f9 f10 : Nat) (tb n : Nat) (t : Nat → Int32) (a b c d e : Int32) (hn : 580 < n) (hn2 : n ≤ 600) : MM E yX9_feed wsX9_feed rm_c_X9_feed_bad [.ref m, .int a, .int b, .int c, .int d, .int e] [gO m 9 [.ref f0, .ref f1, .ref f2, .ref f3, .ref f4, .ref f5, .ref f6, .ref f7, .ref f8, .ref f9, .ref f10], gO f1 6 [.ref tb, .int (nI n)], gA E tb 600 t] (fun rv_ ru_ => rv_ = some (.int (-1)) ∧ ru_ = [gO m 9 [.ref f0, .ref f1, .ref f2, .ref f3, .ref f4, .ref f5, .ref f6, .ref f7, .ref f8, .ref f9, .ref f10], gO f1 6 [.ref tb, .int (nI n)], gA E tb 600 t]) := by
  refine MM.ofG (cc := cX9_feed) (maxL := 6) (ret := (some .int)) (by decide) rfl (Nat.le_of_ble_eq_true rfl) (ll := [some (.ref m), some (.int a), some (.int b), some (.int c), some (.int d), some (.int e)]) rfl ?_
  intro X C Rt
  have C : gx E X cX9_feed 6 wsX9_feed RX9 := C
  have i_X6 : ∀ w ∈ u_ws RX6 TX6 2, w ∈ wsX9_feed := by decide +kernel
  have i_X9 : ∀ w ∈ u_ws RX9 TX9 11, w ∈ wsX9_feed := by decide +kernel
  have f_113 : Cond.fieldLink RX9 113 "MarkPages$Tape" "count" "I" ∈ wsX9_feed := by decide +kernel
  have f_19 : Cond.fieldLink RX9 19 "MarkPages" "tape" "LMarkPages$Tape;" ∈ wsX9_feed := by decide +kernel
  refine g_aload_n C dX9_feed_0 rfl ?_
  refine g_get C i_X9 0 1 f_19 rfl rfl (by decide) rfl rfl dX9_feed_1 ?_
  refine g_get C i_X6 1 1 f_113 rfl rfl (by decide) rfl rfl dX9_feed_4 ?_
  refine g_sipush (v := nI 580) C dX9_feed_7 (by decide) ?_
  refine g_icmp_le_n (tgt := 15) C dX9_feed_10 (by decide) (by omega) (by omega) (fun c10 => ?_) (fun c10 => ?_)
  · exact absurd hn (by omega)
  · refine g_iconst (v := -1) C dX9_feed_13 (by decide) ?_
    exact g_iret C Rt dX9_feed_14 (by decide) (by decide) (⟨rfl, rfl⟩)

abbrev rm_c_X10_feed_ok : Room := { frames := 0, cells := 0, slots := 0, locals := 0 }
set_option maxHeartbeats 4000000 in
set_option maxRecDepth 100000 in
theorem c_X10_feed_ok (E : gE) (h : Nat) (ad : Nat → Nat) (iv : Nat → Int32) (n : Nat) (t : Nat → Int32) (a b c d e : Int32) (hn : n ≤ 580) : MM E yX10_feed wsX10_feed rm_c_X10_feed_ok [.ref h, .int a, .int b, .int c, .int d, .int e] [gO h 10 (tF ad (upd iv 18 (nI n))), gA E (ad 17) 600 t] (fun rv_ ru_ => rv_ = some (.int (nI (n + 20))) ∧ ru_ = [gO h 10 (tF ad (upd iv 18 (nI (n + 20)))), gA E (ad 17) 600 (tk20 t n a b c d e)]) := by
  refine MM.ofG (cc := cX10_feed) (maxL := 8) (ret := (some .int)) (by decide) rfl (Nat.le_of_ble_eq_true rfl) (ll := [some (.ref h), some (.int a), some (.int b), some (.int c), some (.int d), some (.int e), none, none]) rfl ?_
  intro X C Rt
  have C : gx E X cX10_feed 8 wsX10_feed RX10 := C
  have i_X10 : ∀ w ∈ u_ws RX10 TX10 40, w ∈ wsX10_feed := by decide +kernel
  have f_120 : Cond.fieldLink RX10 120 "MarkPagesModel" "taped" "I" ∈ wsX10_feed := by decide +kernel
  have f_49 : Cond.fieldLink RX10 49 "MarkPagesModel" "tape" "[I" ∈ wsX10_feed := by decide +kernel
  refine g_aload_n C dX10_feed_0 rfl ?_
  refine g_get C i_X10 0 18 f_120 rfl rfl (by decide) rfl rfl dX10_feed_1 ?_
  refine g_bipush (v := nI 20) C dX10_feed_4 (by decide) ?_
  refine g_iadd_n C dX10_feed_6 ?_
  refine g_sipush (v := nI 600) C dX10_feed_7 (by decide) ?_
  refine g_icmp_le_n (tgt := 15) C dX10_feed_10 (by decide) (by omega) (by omega) (fun c10 => ?_) (fun c10 => ?_)
  · refine g_iconst (v := nI 0) C dX10_feed_15 (by decide) ?_
    refine g_istore C dX10_feed_16 (by decide) rfl (ll' := [some (.ref h), some (.int a), some (.int b), some (.int c), some (.int d), some (.int e), some (.int (nI 0)), none]) rfl ?_
    refine g_iload C dX10_feed_18 rfl ?_
    refine g_bipush (v := nI 20) C dX10_feed_20 (by decide) ?_
    refine g_icmp_ge (tgt := 115) C dX10_feed_22 (by decide) (fun c22 => absurd c22 (by decide)) (fun c22 => ?_)
    refine g_iload C dX10_feed_25 rfl ?_
    refine g_iconst (v := nI 4) C dX10_feed_27 (by decide) ?_
    refine g_icmp_ge (tgt := 35) C dX10_feed_28 (by decide) (fun c28 => absurd c28 (by decide)) (fun c28 => ?_)
    refine g_iload_n C dX10_feed_31 rfl ?_
    refine g_goto (tgt := 71) C dX10_feed_32 (by decide) ?_
    refine g_istore C dX10_feed_71 (by decide) rfl (ll' := [some (.ref h), some (.int a), some (.int b), some (.int c), some (.int d), some (.int e), some (.int (nI 0)), some (.int a)]) rfl ?_
    refine g_aload_n C dX10_feed_73 rfl ?_
    refine g_get C i_X10 0 17 f_49 rfl rfl (by decide) rfl rfl dX10_feed_74 ?_
    refine g_aload_n C dX10_feed_77 rfl ?_
    refine g_get C i_X10 0 18 f_120 rfl rfl (by decide) rfl rfl dX10_feed_78 ?_
    refine g_iload C dX10_feed_81 rfl ?_
    refine g_bipush (v := nI 24) C dX10_feed_83 (by decide) ?_
    refine g_bipush (v := nI 8) C dX10_feed_85 (by decide) ?_
    refine g_iload C dX10_feed_87 rfl ?_
    refine g_iconst (v := nI 4) C dX10_feed_89 (by decide) ?_
    refine g_irem C dX10_feed_90 (by decide) (g_top (x' := nI 0) (by decide) ?_)
    refine g_imul C dX10_feed_91 (g_top (x' := nI 0) (by decide) ?_)
    refine g_isub C dX10_feed_92 (g_top (x' := nI 24) (by decide) ?_)
    refine g_ishr C dX10_feed_93 ?_
    refine g_sipush (v := nI 255) C dX10_feed_94 (by decide) ?_
    refine g_iand C dX10_feed_97 ?_
    refine g_iast C 1 n rfl rfl (by omega) (by decide) dX10_feed_98 (ws' := [gO h 10 (tF ad (upd iv 18 (nI n))), gA E (ad 17) 600 (upd t n ((a >>> ((nI 24) &&& 31)) &&& (nI 255)))]) rfl ?_
    refine g_aload_n C dX10_feed_99 rfl ?_
    refine g_dup C dX10_feed_100 rfl ?_
    refine g_get C i_X10 0 18 f_120 rfl rfl (by decide) rfl rfl dX10_feed_101 ?_
    refine g_iconst (v := nI 1) C dX10_feed_104 (by decide) ?_
    refine g_iadd_n C dX10_feed_105 ?_
    refine g_put C i_X10 tyX10 tyX10_ok nmX10 0 18 f_120 rfl rfl (by decide) rfl rfl rfl rfl rfl (Nat.le_of_ble_eq_true rfl) dX10_feed_106 (ws' := [gO h 10 (tF ad (upd iv 18 (nI (n + 1)))), gA E (ad 17) 600 (upd t n ((a >>> ((nI 24) &&& 31)) &&& (nI 255)))]) rfl ?_
    refine g_iinc (v := nI 1) C dX10_feed_109 rfl (by decide) (by decide) rfl (ll' := [some (.ref h), some (.int a), some (.int b), some (.int c), some (.int d), some (.int e), some (.int (nI 1)), some (.int a)]) rfl ?_
    refine g_goto (tgt := 18) C dX10_feed_112 (by decide) ?_
    refine g_iload C dX10_feed_18 rfl ?_
    refine g_bipush (v := nI 20) C dX10_feed_20 (by decide) ?_
    refine g_icmp_ge (tgt := 115) C dX10_feed_22 (by decide) (fun c22 => absurd c22 (by decide)) (fun c22 => ?_)
    refine g_iload C dX10_feed_25 rfl ?_
    refine g_iconst (v := nI 4) C dX10_feed_27 (by decide) ?_
    refine g_icmp_ge (tgt := 35) C dX10_feed_28 (by decide) (fun c28 => absurd c28 (by decide)) (fun c28 => ?_)
    refine g_iload_n C dX10_feed_31 rfl ?_
    refine g_goto (tgt := 71) C dX10_feed_32 (by decide) ?_
    refine g_istore C dX10_feed_71 (by decide) rfl (ll' := [some (.ref h), some (.int a), some (.int b), some (.int c), some (.int d), some (.int e), some (.int (nI 1)), some (.int a)]) rfl ?_
    refine g_aload_n C dX10_feed_73 rfl ?_
    refine g_get C i_X10 0 17 f_49 rfl rfl (by decide) rfl rfl dX10_feed_74 ?_
    refine g_aload_n C dX10_feed_77 rfl ?_
    refine g_get C i_X10 0 18 f_120 rfl rfl (by decide) rfl rfl dX10_feed_78 ?_
    refine g_iload C dX10_feed_81 rfl ?_
    refine g_bipush (v := nI 24) C dX10_feed_83 (by decide) ?_
    refine g_bipush (v := nI 8) C dX10_feed_85 (by decide) ?_
    refine g_iload C dX10_feed_87 rfl ?_
    refine g_iconst (v := nI 4) C dX10_feed_89 (by decide) ?_
    refine g_irem C dX10_feed_90 (by decide) (g_top (x' := nI 1) (by decide) ?_)
    refine g_imul C dX10_feed_91 (g_top (x' := nI 8) (by decide) ?_)
    refine g_isub C dX10_feed_92 (g_top (x' := nI 16) (by decide) ?_)
    refine g_ishr C dX10_feed_93 ?_
    refine g_sipush (v := nI 255) C dX10_feed_94 (by decide) ?_
    refine g_iand C dX10_feed_97 ?_
    refine g_iast C 1 (n + 1) rfl rfl (by omega) (by decide) dX10_feed_98 (ws' := [gO h 10 (tF ad (upd iv 18 (nI (n + 1)))), gA E (ad 17) 600 (upd (upd t n ((a >>> ((nI 24) &&& 31)) &&& (nI 255))) (n + 1) ((a >>> ((nI 16) &&& 31)) &&& (nI 255)))]) rfl ?_
    refine g_aload_n C dX10_feed_99 rfl ?_
    refine g_dup C dX10_feed_100 rfl ?_
    refine g_get C i_X10 0 18 f_120 rfl rfl (by decide) rfl rfl dX10_feed_101 ?_
    refine g_iconst (v := nI 1) C dX10_feed_104 (by decide) ?_
    refine g_iadd_n C dX10_feed_105 ?_
    refine g_put C i_X10 tyX10 tyX10_ok nmX10 0 18 f_120 rfl rfl (by decide) rfl rfl rfl rfl rfl (Nat.le_of_ble_eq_true rfl) dX10_feed_106 (ws' := [gO h 10 (tF ad (upd iv 18 (nI ((n + 1) + 1)))), gA E (ad 17) 600 (upd (upd t n ((a >>> ((nI 24) &&& 31)) &&& (nI 255))) (n + 1) ((a >>> ((nI 16) &&& 31)) &&& (nI 255)))]) rfl ?_
    refine g_iinc (v := nI 2) C dX10_feed_109 rfl (by decide) (by decide) rfl (ll' := [some (.ref h), some (.int a), some (.int b), some (.int c), some (.int d), some (.int e), some (.int (nI 2)), some (.int a)]) rfl ?_
    refine g_goto (tgt := 18) C dX10_feed_112 (by decide) ?_
    refine g_iload C dX10_feed_18 rfl ?_
    refine g_bipush (v := nI 20) C dX10_feed_20 (by decide) ?_
    refine g_icmp_ge (tgt := 115) C dX10_feed_22 (by decide) (fun c22 => absurd c22 (by decide)) (fun c22 => ?_)
    refine g_iload C dX10_feed_25 rfl ?_
    refine g_iconst (v := nI 4) C dX10_feed_27 (by decide) ?_
    refine g_icmp_ge (tgt := 35) C dX10_feed_28 (by decide) (fun c28 => absurd c28 (by decide)) (fun c28 => ?_)
    refine g_iload_n C dX10_feed_31 rfl ?_
    refine g_goto (tgt := 71) C dX10_feed_32 (by decide) ?_
    refine g_istore C dX10_feed_71 (by decide) rfl (ll' := [some (.ref h), some (.int a), some (.int b), some (.int c), some (.int d), some (.int e), some (.int (nI 2)), some (.int a)]) rfl ?_
    refine g_aload_n C dX10_feed_73 rfl ?_
    refine g_get C i_X10 0 17 f_49 rfl rfl (by decide) rfl rfl dX10_feed_74 ?_
    refine g_aload_n C dX10_feed_77 rfl ?_
    refine g_get C i_X10 0 18 f_120 rfl rfl (by decide) rfl rfl dX10_feed_78 ?_
    refine g_iload C dX10_feed_81 rfl ?_
    refine g_bipush (v := nI 24) C dX10_feed_83 (by decide) ?_
    refine g_bipush (v := nI 8) C dX10_feed_85 (by decide) ?_
    refine g_iload C dX10_feed_87 rfl ?_
    refine g_iconst (v := nI 4) C dX10_feed_89 (by decide) ?_
    refine g_irem C dX10_feed_90 (by decide) (g_top (x' := nI 2) (by decide) ?_)
    refine g_imul C dX10_feed_91 (g_top (x' := nI 16) (by decide) ?_)
    refine g_isub C dX10_feed_92 (g_top (x' := nI 8) (by decide) ?_)
    refine g_ishr C dX10_feed_93 ?_
    refine g_sipush (v := nI 255) C dX10_feed_94 (by decide) ?_
    refine g_iand C dX10_feed_97 ?_
    refine g_iast C 1 ((n + 1) + 1) rfl rfl (by omega) (by decide) dX10_feed_98 (ws' := [gO h 10 (tF ad (upd iv 18 (nI ((n + 1) + 1)))), gA E (ad 17) 600 (upd (upd (upd t n ((a >>> ((nI 24) &&& 31)) &&& (nI 255))) (n + 1) ((a >>> ((nI 16) &&& 31)) &&& (nI 255))) ((n + 1) + 1) ((a >>> ((nI 8) &&& 31)) &&& (nI 255)))]) rfl ?_
    refine g_aload_n C dX10_feed_99 rfl ?_
    refine g_dup C dX10_feed_100 rfl ?_
    refine g_get C i_X10 0 18 f_120 rfl rfl (by decide) rfl rfl dX10_feed_101 ?_
    refine g_iconst (v := nI 1) C dX10_feed_104 (by decide) ?_
    refine g_iadd_n C dX10_feed_105 ?_
    refine g_put C i_X10 tyX10 tyX10_ok nmX10 0 18 f_120 rfl rfl (by decide) rfl rfl rfl rfl rfl (Nat.le_of_ble_eq_true rfl) dX10_feed_106 (ws' := [gO h 10 (tF ad (upd iv 18 (nI (((n + 1) + 1) + 1)))), gA E (ad 17) 600 (upd (upd (upd t n ((a >>> ((nI 24) &&& 31)) &&& (nI 255))) (n + 1) ((a >>> ((nI 16) &&& 31)) &&& (nI 255))) ((n + 1) + 1) ((a >>> ((nI 8) &&& 31)) &&& (nI 255)))]) rfl ?_
    refine g_iinc (v := nI 3) C dX10_feed_109 rfl (by decide) (by decide) rfl (ll' := [some (.ref h), some (.int a), some (.int b), some (.int c), some (.int d), some (.int e), some (.int (nI 3)), some (.int a)]) rfl ?_
    refine g_goto (tgt := 18) C dX10_feed_112 (by decide) ?_
    refine g_iload C dX10_feed_18 rfl ?_
    refine g_bipush (v := nI 20) C dX10_feed_20 (by decide) ?_
    refine g_icmp_ge (tgt := 115) C dX10_feed_22 (by decide) (fun c22 => absurd c22 (by decide)) (fun c22 => ?_)
    refine g_iload C dX10_feed_25 rfl ?_
    refine g_iconst (v := nI 4) C dX10_feed_27 (by decide) ?_
    refine g_icmp_ge (tgt := 35) C dX10_feed_28 (by decide) (fun c28 => absurd c28 (by decide)) (fun c28 => ?_)
    refine g_iload_n C dX10_feed_31 rfl ?_
    refine g_goto (tgt := 71) C dX10_feed_32 (by decide) ?_
    refine g_istore C dX10_feed_71 (by decide) rfl (ll' := [some (.ref h), some (.int a), some (.int b), some (.int c), some (.int d), some (.int e), some (.int (nI 3)), some (.int a)]) rfl ?_
    refine g_aload_n C dX10_feed_73 rfl ?_
    refine g_get C i_X10 0 17 f_49 rfl rfl (by decide) rfl rfl dX10_feed_74 ?_
    refine g_aload_n C dX10_feed_77 rfl ?_
    refine g_get C i_X10 0 18 f_120 rfl rfl (by decide) rfl rfl dX10_feed_78 ?_
    refine g_iload C dX10_feed_81 rfl ?_
    refine g_bipush (v := nI 24) C dX10_feed_83 (by decide) ?_
    refine g_bipush (v := nI 8) C dX10_feed_85 (by decide) ?_
    refine g_iload C dX10_feed_87 rfl ?_
    refine g_iconst (v := nI 4) C dX10_feed_89 (by decide) ?_
    refine g_irem C dX10_feed_90 (by decide) (g_top (x' := nI 3) (by decide) ?_)
    refine g_imul C dX10_feed_91 (g_top (x' := nI 24) (by decide) ?_)
    refine g_isub C dX10_feed_92 (g_top (x' := nI 0) (by decide) ?_)
    refine g_ishr C dX10_feed_93 ?_
    refine g_sipush (v := nI 255) C dX10_feed_94 (by decide) ?_
    refine g_iand C dX10_feed_97 ?_
    refine g_iast C 1 (((n + 1) + 1) + 1) rfl rfl (by omega) (by decide) dX10_feed_98 (ws' := [gO h 10 (tF ad (upd iv 18 (nI (((n + 1) + 1) + 1)))), gA E (ad 17) 600 (upd (upd (upd (upd t n ((a >>> ((nI 24) &&& 31)) &&& (nI 255))) (n + 1) ((a >>> ((nI 16) &&& 31)) &&& (nI 255))) ((n + 1) + 1) ((a >>> ((nI 8) &&& 31)) &&& (nI 255))) (((n + 1) + 1) + 1) ((a >>> ((nI 0) &&& 31)) &&& (nI 255)))]) rfl ?_
    refine g_aload_n C dX10_feed_99 rfl ?_
    refine g_dup C dX10_feed_100 rfl ?_
    refine g_get C i_X10 0 18 f_120 rfl rfl (by decide) rfl rfl dX10_feed_101 ?_
    refine g_iconst (v := nI 1) C dX10_feed_104 (by decide) ?_
    refine g_iadd_n C dX10_feed_105 ?_
    refine g_put C i_X10 tyX10 tyX10_ok nmX10 0 18 f_120 rfl rfl (by decide) rfl rfl rfl rfl rfl (Nat.le_of_ble_eq_true rfl) dX10_feed_106 (ws' := [gO h 10 (tF ad (upd iv 18 (nI ((((n + 1) + 1) + 1) + 1)))), gA E (ad 17) 600 (upd (upd (upd (upd t n ((a >>> ((nI 24) &&& 31)) &&& (nI 255))) (n + 1) ((a >>> ((nI 16) &&& 31)) &&& (nI 255))) ((n + 1) + 1) ((a >>> ((nI 8) &&& 31)) &&& (nI 255))) (((n + 1) + 1) + 1) ((a >>> ((nI 0) &&& 31)) &&& (nI 255)))]) rfl ?_
    refine g_iinc (v := nI 4) C dX10_feed_109 rfl (by decide) (by decide) rfl (ll' := [some (.ref h), some (.int a), some (.int b), some (.int c), some (.int d), some (.int e), some (.int (nI 4)), some (.int a)]) rfl ?_
    refine g_goto (tgt := 18) C dX10_feed_112 (by decide) ?_
    refine g_iload C dX10_feed_18 rfl ?_
    refine g_bipush (v := nI 20) C dX10_feed_20 (by decide) ?_
    refine g_icmp_ge (tgt := 115) C dX10_feed_22 (by decide) (fun c22 => absurd c22 (by decide)) (fun c22 => ?_)
    refine g_iload C dX10_feed_25 rfl ?_
    refine g_iconst (v := nI 4) C dX10_feed_27 (by decide) ?_
    refine g_icmp_ge (tgt := 35) C dX10_feed_28 (by decide) (fun c28 => ?_) (fun c28 => absurd c28 (by decide))
    refine g_iload C dX10_feed_35 rfl ?_
    refine g_bipush (v := nI 8) C dX10_feed_37 (by decide) ?_
    refine g_icmp_ge (tgt := 46) C dX10_feed_39 (by decide) (fun c39 => absurd c39 (by decide)) (fun c39 => ?_)
    refine g_iload_n C dX10_feed_42 rfl ?_
    refine g_goto (tgt := 71) C dX10_feed_43 (by decide) ?_
    refine g_istore C dX10_feed_71 (by decide) rfl (ll' := [some (.ref h), some (.int a), some (.int b), some (.int c), some (.int d), some (.int e), some (.int (nI 4)), some (.int b)]) rfl ?_
    refine g_aload_n C dX10_feed_73 rfl ?_
    refine g_get C i_X10 0 17 f_49 rfl rfl (by decide) rfl rfl dX10_feed_74 ?_
    refine g_aload_n C dX10_feed_77 rfl ?_
    refine g_get C i_X10 0 18 f_120 rfl rfl (by decide) rfl rfl dX10_feed_78 ?_
    refine g_iload C dX10_feed_81 rfl ?_
    refine g_bipush (v := nI 24) C dX10_feed_83 (by decide) ?_
    refine g_bipush (v := nI 8) C dX10_feed_85 (by decide) ?_
    refine g_iload C dX10_feed_87 rfl ?_
    refine g_iconst (v := nI 4) C dX10_feed_89 (by decide) ?_
    refine g_irem C dX10_feed_90 (by decide) (g_top (x' := nI 0) (by decide) ?_)
    refine g_imul C dX10_feed_91 (g_top (x' := nI 0) (by decide) ?_)
    refine g_isub C dX10_feed_92 (g_top (x' := nI 24) (by decide) ?_)
    refine g_ishr C dX10_feed_93 ?_
    refine g_sipush (v := nI 255) C dX10_feed_94 (by decide) ?_
    refine g_iand C dX10_feed_97 ?_
    refine g_iast C 1 ((((n + 1) + 1) + 1) + 1) rfl rfl (by omega) (by decide) dX10_feed_98 (ws' := [gO h 10 (tF ad (upd iv 18 (nI ((((n + 1) + 1) + 1) + 1)))), gA E (ad 17) 600 (upd (upd (upd (upd (upd t n ((a >>> ((nI 24) &&& 31)) &&& (nI 255))) (n + 1) ((a >>> ((nI 16) &&& 31)) &&& (nI 255))) ((n + 1) + 1) ((a >>> ((nI 8) &&& 31)) &&& (nI 255))) (((n + 1) + 1) + 1) ((a >>> ((nI 0) &&& 31)) &&& (nI 255))) ((((n + 1) + 1) + 1) + 1) ((b >>> ((nI 24) &&& 31)) &&& (nI 255)))]) rfl ?_
    refine g_aload_n C dX10_feed_99 rfl ?_
    refine g_dup C dX10_feed_100 rfl ?_
    refine g_get C i_X10 0 18 f_120 rfl rfl (by decide) rfl rfl dX10_feed_101 ?_
    refine g_iconst (v := nI 1) C dX10_feed_104 (by decide) ?_
    refine g_iadd_n C dX10_feed_105 ?_
    refine g_put C i_X10 tyX10 tyX10_ok nmX10 0 18 f_120 rfl rfl (by decide) rfl rfl rfl rfl rfl (Nat.le_of_ble_eq_true rfl) dX10_feed_106 (ws' := [gO h 10 (tF ad (upd iv 18 (nI (((((n + 1) + 1) + 1) + 1) + 1)))), gA E (ad 17) 600 (upd (upd (upd (upd (upd t n ((a >>> ((nI 24) &&& 31)) &&& (nI 255))) (n + 1) ((a >>> ((nI 16) &&& 31)) &&& (nI 255))) ((n + 1) + 1) ((a >>> ((nI 8) &&& 31)) &&& (nI 255))) (((n + 1) + 1) + 1) ((a >>> ((nI 0) &&& 31)) &&& (nI 255))) ((((n + 1) + 1) + 1) + 1) ((b >>> ((nI 24) &&& 31)) &&& (nI 255)))]) rfl ?_
    refine g_iinc (v := nI 5) C dX10_feed_109 rfl (by decide) (by decide) rfl (ll' := [some (.ref h), some (.int a), some (.int b), some (.int c), some (.int d), some (.int e), some (.int (nI 5)), some (.int b)]) rfl ?_
    refine g_goto (tgt := 18) C dX10_feed_112 (by decide) ?_
    refine g_iload C dX10_feed_18 rfl ?_
    refine g_bipush (v := nI 20) C dX10_feed_20 (by decide) ?_
    refine g_icmp_ge (tgt := 115) C dX10_feed_22 (by decide) (fun c22 => absurd c22 (by decide)) (fun c22 => ?_)
    refine g_iload C dX10_feed_25 rfl ?_
    refine g_iconst (v := nI 4) C dX10_feed_27 (by decide) ?_
    refine g_icmp_ge (tgt := 35) C dX10_feed_28 (by decide) (fun c28 => ?_) (fun c28 => absurd c28 (by decide))
    refine g_iload C dX10_feed_35 rfl ?_
    refine g_bipush (v := nI 8) C dX10_feed_37 (by decide) ?_
    refine g_icmp_ge (tgt := 46) C dX10_feed_39 (by decide) (fun c39 => absurd c39 (by decide)) (fun c39 => ?_)
    refine g_iload_n C dX10_feed_42 rfl ?_
    refine g_goto (tgt := 71) C dX10_feed_43 (by decide) ?_
    refine g_istore C dX10_feed_71 (by decide) rfl (ll' := [some (.ref h), some (.int a), some (.int b), some (.int c), some (.int d), some (.int e), some (.int (nI 5)), some (.int b)]) rfl ?_
    refine g_aload_n C dX10_feed_73 rfl ?_
    refine g_get C i_X10 0 17 f_49 rfl rfl (by decide) rfl rfl dX10_feed_74 ?_
    refine g_aload_n C dX10_feed_77 rfl ?_
    refine g_get C i_X10 0 18 f_120 rfl rfl (by decide) rfl rfl dX10_feed_78 ?_
    refine g_iload C dX10_feed_81 rfl ?_
    refine g_bipush (v := nI 24) C dX10_feed_83 (by decide) ?_
    refine g_bipush (v := nI 8) C dX10_feed_85 (by decide) ?_
    refine g_iload C dX10_feed_87 rfl ?_
    refine g_iconst (v := nI 4) C dX10_feed_89 (by decide) ?_
    refine g_irem C dX10_feed_90 (by decide) (g_top (x' := nI 1) (by decide) ?_)
    refine g_imul C dX10_feed_91 (g_top (x' := nI 8) (by decide) ?_)
    refine g_isub C dX10_feed_92 (g_top (x' := nI 16) (by decide) ?_)
    refine g_ishr C dX10_feed_93 ?_
    refine g_sipush (v := nI 255) C dX10_feed_94 (by decide) ?_
    refine g_iand C dX10_feed_97 ?_
    refine g_iast C 1 (((((n + 1) + 1) + 1) + 1) + 1) rfl rfl (by omega) (by decide) dX10_feed_98 (ws' := [gO h 10 (tF ad (upd iv 18 (nI (((((n + 1) + 1) + 1) + 1) + 1)))), gA E (ad 17) 600 (upd (upd (upd (upd (upd (upd t n ((a >>> ((nI 24) &&& 31)) &&& (nI 255))) (n + 1) ((a >>> ((nI 16) &&& 31)) &&& (nI 255))) ((n + 1) + 1) ((a >>> ((nI 8) &&& 31)) &&& (nI 255))) (((n + 1) + 1) + 1) ((a >>> ((nI 0) &&& 31)) &&& (nI 255))) ((((n + 1) + 1) + 1) + 1) ((b >>> ((nI 24) &&& 31)) &&& (nI 255))) (((((n + 1) + 1) + 1) + 1) + 1) ((b >>> ((nI 16) &&& 31)) &&& (nI 255)))]) rfl ?_
    refine g_aload_n C dX10_feed_99 rfl ?_
    refine g_dup C dX10_feed_100 rfl ?_
    refine g_get C i_X10 0 18 f_120 rfl rfl (by decide) rfl rfl dX10_feed_101 ?_
    refine g_iconst (v := nI 1) C dX10_feed_104 (by decide) ?_
    refine g_iadd_n C dX10_feed_105 ?_
    refine g_put C i_X10 tyX10 tyX10_ok nmX10 0 18 f_120 rfl rfl (by decide) rfl rfl rfl rfl rfl (Nat.le_of_ble_eq_true rfl) dX10_feed_106 (ws' := [gO h 10 (tF ad (upd iv 18 (nI ((((((n + 1) + 1) + 1) + 1) + 1) + 1)))), gA E (ad 17) 600 (upd (upd (upd (upd (upd (upd t n ((a >>> ((nI 24) &&& 31)) &&& (nI 255))) (n + 1) ((a >>> ((nI 16) &&& 31)) &&& (nI 255))) ((n + 1) + 1) ((a >>> ((nI 8) &&& 31)) &&& (nI 255))) (((n + 1) + 1) + 1) ((a >>> ((nI 0) &&& 31)) &&& (nI 255))) ((((n + 1) + 1) + 1) + 1) ((b >>> ((nI 24) &&& 31)) &&& (nI 255))) (((((n + 1) + 1) + 1) + 1) + 1) ((b >>> ((nI 16) &&& 31)) &&& (nI 255)))]) rfl ?_
    refine g_iinc (v := nI 6) C dX10_feed_109 rfl (by decide) (by decide) rfl (ll' := [some (.ref h), some (.int a), some (.int b), some (.int c), some (.int d), some (.int e), some (.int (nI 6)), some (.int b)]) rfl ?_
    refine g_goto (tgt := 18) C dX10_feed_112 (by decide) ?_
    refine g_iload C dX10_feed_18 rfl ?_
    refine g_bipush (v := nI 20) C dX10_feed_20 (by decide) ?_
    refine g_icmp_ge (tgt := 115) C dX10_feed_22 (by decide) (fun c22 => absurd c22 (by decide)) (fun c22 => ?_)
    refine g_iload C dX10_feed_25 rfl ?_
    refine g_iconst (v := nI 4) C dX10_feed_27 (by decide) ?_
    refine g_icmp_ge (tgt := 35) C dX10_feed_28 (by decide) (fun c28 => ?_) (fun c28 => absurd c28 (by decide))
    refine g_iload C dX10_feed_35 rfl ?_
    refine g_bipush (v := nI 8) C dX10_feed_37 (by decide) ?_
    refine g_icmp_ge (tgt := 46) C dX10_feed_39 (by decide) (fun c39 => absurd c39 (by decide)) (fun c39 => ?_)
    refine g_iload_n C dX10_feed_42 rfl ?_
    refine g_goto (tgt := 71) C dX10_feed_43 (by decide) ?_
    refine g_istore C dX10_feed_71 (by decide) rfl (ll' := [some (.ref h), some (.int a), some (.int b), some (.int c), some (.int d), some (.int e), some (.int (nI 6)), some (.int b)]) rfl ?_
    refine g_aload_n C dX10_feed_73 rfl ?_
    refine g_get C i_X10 0 17 f_49 rfl rfl (by decide) rfl rfl dX10_feed_74 ?_
    refine g_aload_n C dX10_feed_77 rfl ?_
    refine g_get C i_X10 0 18 f_120 rfl rfl (by decide) rfl rfl dX10_feed_78 ?_
    refine g_iload C dX10_feed_81 rfl ?_
    refine g_bipush (v := nI 24) C dX10_feed_83 (by decide) ?_
    refine g_bipush (v := nI 8) C dX10_feed_85 (by decide) ?_
    refine g_iload C dX10_feed_87 rfl ?_
    refine g_iconst (v := nI 4) C dX10_feed_89 (by decide) ?_
    refine g_irem C dX10_feed_90 (by decide) (g_top (x' := nI 2) (by decide) ?_)
    refine g_imul C dX10_feed_91 (g_top (x' := nI 16) (by decide) ?_)
    refine g_isub C dX10_feed_92 (g_top (x' := nI 8) (by decide) ?_)
    refine g_ishr C dX10_feed_93 ?_
    refine g_sipush (v := nI 255) C dX10_feed_94 (by decide) ?_
    refine g_iand C dX10_feed_97 ?_
    refine g_iast C 1 ((((((n + 1) + 1) + 1) + 1) + 1) + 1) rfl rfl (by omega) (by decide) dX10_feed_98 (ws' := [gO h 10 (tF ad (upd iv 18 (nI ((((((n + 1) + 1) + 1) + 1) + 1) + 1)))), gA E (ad 17) 600 (upd (upd (upd (upd (upd (upd (upd t n ((a >>> ((nI 24) &&& 31)) &&& (nI 255))) (n + 1) ((a >>> ((nI 16) &&& 31)) &&& (nI 255))) ((n + 1) + 1) ((a >>> ((nI 8) &&& 31)) &&& (nI 255))) (((n + 1) + 1) + 1) ((a >>> ((nI 0) &&& 31)) &&& (nI 255))) ((((n + 1) + 1) + 1) + 1) ((b >>> ((nI 24) &&& 31)) &&& (nI 255))) (((((n + 1) + 1) + 1) + 1) + 1) ((b >>> ((nI 16) &&& 31)) &&& (nI 255))) ((((((n + 1) + 1) + 1) + 1) + 1) + 1) ((b >>> ((nI 8) &&& 31)) &&& (nI 255)))]) rfl ?_
    refine g_aload_n C dX10_feed_99 rfl ?_
    refine g_dup C dX10_feed_100 rfl ?_
    refine g_get C i_X10 0 18 f_120 rfl rfl (by decide) rfl rfl dX10_feed_101 ?_
    refine g_iconst (v := nI 1) C dX10_feed_104 (by decide) ?_
    refine g_iadd_n C dX10_feed_105 ?_
    refine g_put C i_X10 tyX10 tyX10_ok nmX10 0 18 f_120 rfl rfl (by decide) rfl rfl rfl rfl rfl (Nat.le_of_ble_eq_true rfl) dX10_feed_106 (ws' := [gO h 10 (tF ad (upd iv 18 (nI (((((((n + 1) + 1) + 1) + 1) + 1) + 1) + 1)))), gA E (ad 17) 600 (upd (upd (upd (upd (upd (upd (upd t n ((a >>> ((nI 24) &&& 31)) &&& (nI 255))) (n + 1) ((a >>> ((nI 16) &&& 31)) &&& (nI 255))) ((n + 1) + 1) ((a >>> ((nI 8) &&& 31)) &&& (nI 255))) (((n + 1) + 1) + 1) ((a >>> ((nI 0) &&& 31)) &&& (nI 255))) ((((n + 1) + 1) + 1) + 1) ((b >>> ((nI 24) &&& 31)) &&& (nI 255))) (((((n + 1) + 1) + 1) + 1) + 1) ((b >>> ((nI 16) &&& 31)) &&& (nI 255))) ((((((n + 1) + 1) + 1) + 1) + 1) + 1) ((b >>> ((nI 8) &&& 31)) &&& (nI 255)))]) rfl ?_
    refine g_iinc (v := nI 7) C dX10_feed_109 rfl (by decide) (by decide) rfl (ll' := [some (.ref h), some (.int a), some (.int b), some (.int c), some (.int d), some (.int e), some (.int (nI 7)), some (.int b)]) rfl ?_
    refine g_goto (tgt := 18) C dX10_feed_112 (by decide) ?_
    refine g_iload C dX10_feed_18 rfl ?_
    refine g_bipush (v := nI 20) C dX10_feed_20 (by decide) ?_
    refine g_icmp_ge (tgt := 115) C dX10_feed_22 (by decide) (fun c22 => absurd c22 (by decide)) (fun c22 => ?_)
    refine g_iload C dX10_feed_25 rfl ?_
    refine g_iconst (v := nI 4) C dX10_feed_27 (by decide) ?_
    refine g_icmp_ge (tgt := 35) C dX10_feed_28 (by decide) (fun c28 => ?_) (fun c28 => absurd c28 (by decide))
    refine g_iload C dX10_feed_35 rfl ?_
    refine g_bipush (v := nI 8) C dX10_feed_37 (by decide) ?_
    refine g_icmp_ge (tgt := 46) C dX10_feed_39 (by decide) (fun c39 => absurd c39 (by decide)) (fun c39 => ?_)
    refine g_iload_n C dX10_feed_42 rfl ?_
    refine g_goto (tgt := 71) C dX10_feed_43 (by decide) ?_
    refine g_istore C dX10_feed_71 (by decide) rfl (ll' := [some (.ref h), some (.int a), some (.int b), some (.int c), some (.int d), some (.int e), some (.int (nI 7)), some (.int b)]) rfl ?_
    refine g_aload_n C dX10_feed_73 rfl ?_
    refine g_get C i_X10 0 17 f_49 rfl rfl (by decide) rfl rfl dX10_feed_74 ?_
    refine g_aload_n C dX10_feed_77 rfl ?_
    refine g_get C i_X10 0 18 f_120 rfl rfl (by decide) rfl rfl dX10_feed_78 ?_
    refine g_iload C dX10_feed_81 rfl ?_
    refine g_bipush (v := nI 24) C dX10_feed_83 (by decide) ?_
    refine g_bipush (v := nI 8) C dX10_feed_85 (by decide) ?_
    refine g_iload C dX10_feed_87 rfl ?_
    refine g_iconst (v := nI 4) C dX10_feed_89 (by decide) ?_
    refine g_irem C dX10_feed_90 (by decide) (g_top (x' := nI 3) (by decide) ?_)
    refine g_imul C dX10_feed_91 (g_top (x' := nI 24) (by decide) ?_)
    refine g_isub C dX10_feed_92 (g_top (x' := nI 0) (by decide) ?_)
    refine g_ishr C dX10_feed_93 ?_
    refine g_sipush (v := nI 255) C dX10_feed_94 (by decide) ?_
    refine g_iand C dX10_feed_97 ?_
    refine g_iast C 1 (((((((n + 1) + 1) + 1) + 1) + 1) + 1) + 1) rfl rfl (by omega) (by decide) dX10_feed_98 (ws' := [gO h 10 (tF ad (upd iv 18 (nI (((((((n + 1) + 1) + 1) + 1) + 1) + 1) + 1)))), gA E (ad 17) 600 (upd (upd (upd (upd (upd (upd (upd (upd t n ((a >>> ((nI 24) &&& 31)) &&& (nI 255))) (n + 1) ((a >>> ((nI 16) &&& 31)) &&& (nI 255))) ((n + 1) + 1) ((a >>> ((nI 8) &&& 31)) &&& (nI 255))) (((n + 1) + 1) + 1) ((a >>> ((nI 0) &&& 31)) &&& (nI 255))) ((((n + 1) + 1) + 1) + 1) ((b >>> ((nI 24) &&& 31)) &&& (nI 255))) (((((n + 1) + 1) + 1) + 1) + 1) ((b >>> ((nI 16) &&& 31)) &&& (nI 255))) ((((((n + 1) + 1) + 1) + 1) + 1) + 1) ((b >>> ((nI 8) &&& 31)) &&& (nI 255))) (((((((n + 1) + 1) + 1) + 1) + 1) + 1) + 1) ((b >>> ((nI 0) &&& 31)) &&& (nI 255)))]) rfl ?_
    refine g_aload_n C dX10_feed_99 rfl ?_
    refine g_dup C dX10_feed_100 rfl ?_
    refine g_get C i_X10 0 18 f_120 rfl rfl (by decide) rfl rfl dX10_feed_101 ?_
    refine g_iconst (v := nI 1) C dX10_feed_104 (by decide) ?_
    refine g_iadd_n C dX10_feed_105 ?_
    refine g_put C i_X10 tyX10 tyX10_ok nmX10 0 18 f_120 rfl rfl (by decide) rfl rfl rfl rfl rfl (Nat.le_of_ble_eq_true rfl) dX10_feed_106 (ws' := [gO h 10 (tF ad (upd iv 18 (nI ((((((((n + 1) + 1) + 1) + 1) + 1) + 1) + 1) + 1)))), gA E (ad 17) 600 (upd (upd (upd (upd (upd (upd (upd (upd t n ((a >>> ((nI 24) &&& 31)) &&& (nI 255))) (n + 1) ((a >>> ((nI 16) &&& 31)) &&& (nI 255))) ((n + 1) + 1) ((a >>> ((nI 8) &&& 31)) &&& (nI 255))) (((n + 1) + 1) + 1) ((a >>> ((nI 0) &&& 31)) &&& (nI 255))) ((((n + 1) + 1) + 1) + 1) ((b >>> ((nI 24) &&& 31)) &&& (nI 255))) (((((n + 1) + 1) + 1) + 1) + 1) ((b >>> ((nI 16) &&& 31)) &&& (nI 255))) ((((((n + 1) + 1) + 1) + 1) + 1) + 1) ((b >>> ((nI 8) &&& 31)) &&& (nI 255))) (((((((n + 1) + 1) + 1) + 1) + 1) + 1) + 1) ((b >>> ((nI 0) &&& 31)) &&& (nI 255)))]) rfl ?_
    refine g_iinc (v := nI 8) C dX10_feed_109 rfl (by decide) (by decide) rfl (ll' := [some (.ref h), some (.int a), some (.int b), some (.int c), some (.int d), some (.int e), some (.int (nI 8)), some (.int b)]) rfl ?_
    refine g_goto (tgt := 18) C dX10_feed_112 (by decide) ?_
    refine g_iload C dX10_feed_18 rfl ?_
    refine g_bipush (v := nI 20) C dX10_feed_20 (by decide) ?_
    refine g_icmp_ge (tgt := 115) C dX10_feed_22 (by decide) (fun c22 => absurd c22 (by decide)) (fun c22 => ?_)
    refine g_iload C dX10_feed_25 rfl ?_
    refine g_iconst (v := nI 4) C dX10_feed_27 (by decide) ?_
    refine g_icmp_ge (tgt := 35) C dX10_feed_28 (by decide) (fun c28 => ?_) (fun c28 => absurd c28 (by decide))
    refine g_iload C dX10_feed_35 rfl ?_
    refine g_bipush (v := nI 8) C dX10_feed_37 (by decide) ?_
    refine g_icmp_ge (tgt := 46) C dX10_feed_39 (by decide) (fun c39 => ?_) (fun c39 => absurd c39 (by decide))
    refine g_iload C dX10_feed_46 rfl ?_
    refine g_bipush (v := nI 12) C dX10_feed_48 (by decide) ?_
    refine g_icmp_ge (tgt := 57) C dX10_feed_50 (by decide) (fun c50 => absurd c50 (by decide)) (fun c50 => ?_)
    refine g_iload_n C dX10_feed_53 rfl ?_
    refine g_goto (tgt := 71) C dX10_feed_54 (by decide) ?_
    refine g_istore C dX10_feed_71 (by decide) rfl (ll' := [some (.ref h), some (.int a), some (.int b), some (.int c), some (.int d), some (.int e), some (.int (nI 8)), some (.int c)]) rfl ?_
    refine g_aload_n C dX10_feed_73 rfl ?_
    refine g_get C i_X10 0 17 f_49 rfl rfl (by decide) rfl rfl dX10_feed_74 ?_
    refine g_aload_n C dX10_feed_77 rfl ?_
    refine g_get C i_X10 0 18 f_120 rfl rfl (by decide) rfl rfl dX10_feed_78 ?_
    refine g_iload C dX10_feed_81 rfl ?_
    refine g_bipush (v := nI 24) C dX10_feed_83 (by decide) ?_
    refine g_bipush (v := nI 8) C dX10_feed_85 (by decide) ?_
    refine g_iload C dX10_feed_87 rfl ?_
    refine g_iconst (v := nI 4) C dX10_feed_89 (by decide) ?_
    refine g_irem C dX10_feed_90 (by decide) (g_top (x' := nI 0) (by decide) ?_)
    refine g_imul C dX10_feed_91 (g_top (x' := nI 0) (by decide) ?_)
    refine g_isub C dX10_feed_92 (g_top (x' := nI 24) (by decide) ?_)
    refine g_ishr C dX10_feed_93 ?_
    refine g_sipush (v := nI 255) C dX10_feed_94 (by decide) ?_
    refine g_iand C dX10_feed_97 ?_
    refine g_iast C 1 ((((((((n + 1) + 1) + 1) + 1) + 1) + 1) + 1) + 1) rfl rfl (by omega) (by decide) dX10_feed_98 (ws' := [gO h 10 (tF ad (upd iv 18 (nI ((((((((n + 1) + 1) + 1) + 1) + 1) + 1) + 1) + 1)))), gA E (ad 17) 600 (upd (upd (upd (upd (upd (upd (upd (upd (upd t n ((a >>> ((nI 24) &&& 31)) &&& (nI 255))) (n + 1) ((a >>> ((nI 16) &&& 31)) &&& (nI 255))) ((n + 1) + 1) ((a >>> ((nI 8) &&& 31)) &&& (nI 255))) (((n + 1) + 1) + 1) ((a >>> ((nI 0) &&& 31)) &&& (nI 255))) ((((n + 1) + 1) + 1) + 1) ((b >>> ((nI 24) &&& 31)) &&& (nI 255))) (((((n + 1) + 1) + 1) + 1) + 1) ((b >>> ((nI 16) &&& 31)) &&& (nI 255))) ((((((n + 1) + 1) + 1) + 1) + 1) + 1) ((b >>> ((nI 8) &&& 31)) &&& (nI 255))) (((((((n + 1) + 1) + 1) + 1) + 1) + 1) + 1) ((b >>> ((nI 0) &&& 31)) &&& (nI 255))) ((((((((n + 1) + 1) + 1) + 1) + 1) + 1) + 1) + 1) ((c >>> ((nI 24) &&& 31)) &&& (nI 255)))]) rfl ?_
    refine g_aload_n C dX10_feed_99 rfl ?_
    refine g_dup C dX10_feed_100 rfl ?_
    refine g_get C i_X10 0 18 f_120 rfl rfl (by decide) rfl rfl dX10_feed_101 ?_
    refine g_iconst (v := nI 1) C dX10_feed_104 (by decide) ?_
    refine g_iadd_n C dX10_feed_105 ?_
    refine g_put C i_X10 tyX10 tyX10_ok nmX10 0 18 f_120 rfl rfl (by decide) rfl rfl rfl rfl rfl (Nat.le_of_ble_eq_true rfl) dX10_feed_106 (ws' := [gO h 10 (tF ad (upd iv 18 (nI (((((((((n + 1) + 1) + 1) + 1) + 1) + 1) + 1) + 1) + 1)))), gA E (ad 17) 600 (upd (upd (upd (upd (upd (upd (upd (upd (upd t n ((a >>> ((nI 24) &&& 31)) &&& (nI 255))) (n + 1) ((a >>> ((nI 16) &&& 31)) &&& (nI 255))) ((n + 1) + 1) ((a >>> ((nI 8) &&& 31)) &&& (nI 255))) (((n + 1) + 1) + 1) ((a >>> ((nI 0) &&& 31)) &&& (nI 255))) ((((n + 1) + 1) + 1) + 1) ((b >>> ((nI 24) &&& 31)) &&& (nI 255))) (((((n + 1) + 1) + 1) + 1) + 1) ((b >>> ((nI 16) &&& 31)) &&& (nI 255))) ((((((n + 1) + 1) + 1) + 1) + 1) + 1) ((b >>> ((nI 8) &&& 31)) &&& (nI 255))) (((((((n + 1) + 1) + 1) + 1) + 1) + 1) + 1) ((b >>> ((nI 0) &&& 31)) &&& (nI 255))) ((((((((n + 1) + 1) + 1) + 1) + 1) + 1) + 1) + 1) ((c >>> ((nI 24) &&& 31)) &&& (nI 255)))]) rfl ?_
    refine g_iinc (v := nI 9) C dX10_feed_109 rfl (by decide) (by decide) rfl (ll' := [some (.ref h), some (.int a), some (.int b), some (.int c), some (.int d), some (.int e), some (.int (nI 9)), some (.int c)]) rfl ?_
    refine g_goto (tgt := 18) C dX10_feed_112 (by decide) ?_
    refine g_iload C dX10_feed_18 rfl ?_
    refine g_bipush (v := nI 20) C dX10_feed_20 (by decide) ?_
    refine g_icmp_ge (tgt := 115) C dX10_feed_22 (by decide) (fun c22 => absurd c22 (by decide)) (fun c22 => ?_)
    refine g_iload C dX10_feed_25 rfl ?_
    refine g_iconst (v := nI 4) C dX10_feed_27 (by decide) ?_
    refine g_icmp_ge (tgt := 35) C dX10_feed_28 (by decide) (fun c28 => ?_) (fun c28 => absurd c28 (by decide))
    refine g_iload C dX10_feed_35 rfl ?_
    refine g_bipush (v := nI 8) C dX10_feed_37 (by decide) ?_
    refine g_icmp_ge (tgt := 46) C dX10_feed_39 (by decide) (fun c39 => ?_) (fun c39 => absurd c39 (by decide))
    refine g_iload C dX10_feed_46 rfl ?_
    refine g_bipush (v := nI 12) C dX10_feed_48 (by decide) ?_
    refine g_icmp_ge (tgt := 57) C dX10_feed_50 (by decide) (fun c50 => absurd c50 (by decide)) (fun c50 => ?_)
    refine g_iload_n C dX10_feed_53 rfl ?_
    refine g_goto (tgt := 71) C dX10_feed_54 (by decide) ?_
    refine g_istore C dX10_feed_71 (by decide) rfl (ll' := [some (.ref h), some (.int a), some (.int b), some (.int c), some (.int d), some (.int e), some (.int (nI 9)), some (.int c)]) rfl ?_
    refine g_aload_n C dX10_feed_73 rfl ?_
    refine g_get C i_X10 0 17 f_49 rfl rfl (by decide) rfl rfl dX10_feed_74 ?_
    refine g_aload_n C dX10_feed_77 rfl ?_
    refine g_get C i_X10 0 18 f_120 rfl rfl (by decide) rfl rfl dX10_feed_78 ?_
    refine g_iload C dX10_feed_81 rfl ?_
    refine g_bipush (v := nI 24) C dX10_feed_83 (by decide) ?_
    refine g_bipush (v := nI 8) C dX10_feed_85 (by decide) ?_
    refine g_iload C dX10_feed_87 rfl ?_
    refine g_iconst (v := nI 4) C dX10_feed_89 (by decide) ?_
    refine g_irem C dX10_feed_90 (by decide) (g_top (x' := nI 1) (by decide) ?_)
    refine g_imul C dX10_feed_91 (g_top (x' := nI 8) (by decide) ?_)
    refine g_isub C dX10_feed_92 (g_top (x' := nI 16) (by decide) ?_)
    refine g_ishr C dX10_feed_93 ?_
    refine g_sipush (v := nI 255) C dX10_feed_94 (by decide) ?_
    refine g_iand C dX10_feed_97 ?_
    refine g_iast C 1 (((((((((n + 1) + 1) + 1) + 1) + 1) + 1) + 1) + 1) + 1) rfl rfl (by omega) (by decide) dX10_feed_98 (ws' := [gO h 10 (tF ad (upd iv 18 (nI (((((((((n + 1) + 1) + 1) + 1) + 1) + 1) + 1) + 1) + 1)))), gA E (ad 17) 600 (upd (upd (upd (upd (upd (upd (upd (upd (upd (upd t n ((a >>> ((nI 24) &&& 31)) &&& (nI 255))) (n + 1) ((a >>> ((nI 16) &&& 31)) &&& (nI 255))) ((n + 1) + 1) ((a >>> ((nI 8) &&& 31)) &&& (nI 255))) (((n + 1) + 1) + 1) ((a >>> ((nI 0) &&& 31)) &&& (nI 255))) ((((n + 1) + 1) + 1) + 1) ((b >>> ((nI 24) &&& 31)) &&& (nI 255))) (((((n + 1) + 1) + 1) + 1) + 1) ((b >>> ((nI 16) &&& 31)) &&& (nI 255))) ((((((n + 1) + 1) + 1) + 1) + 1) + 1) ((b >>> ((nI 8) &&& 31)) &&& (nI 255))) (((((((n + 1) + 1) + 1) + 1) + 1) + 1) + 1) ((b >>> ((nI 0) &&& 31)) &&& (nI 255))) ((((((((n + 1) + 1) + 1) + 1) + 1) + 1) + 1) + 1) ((c >>> ((nI 24) &&& 31)) &&& (nI 255))) (((((((((n + 1) + 1) + 1) + 1) + 1) + 1) + 1) + 1) + 1) ((c >>> ((nI 16) &&& 31)) &&& (nI 255)))]) rfl ?_
    refine g_aload_n C dX10_feed_99 rfl ?_
    refine g_dup C dX10_feed_100 rfl ?_
    refine g_get C i_X10 0 18 f_120 rfl rfl (by decide) rfl rfl dX10_feed_101 ?_
    refine g_iconst (v := nI 1) C dX10_feed_104 (by decide) ?_
    refine g_iadd_n C dX10_feed_105 ?_
    refine g_put C i_X10 tyX10 tyX10_ok nmX10 0 18 f_120 rfl rfl (by decide) rfl rfl rfl rfl rfl (Nat.le_of_ble_eq_true rfl) dX10_feed_106 (ws' := [gO h 10 (tF ad (upd iv 18 (nI ((((((((((n + 1) + 1) + 1) + 1) + 1) + 1) + 1) + 1) + 1) + 1)))), gA E (ad 17) 600 (upd (upd (upd (upd (upd (upd (upd (upd (upd (upd t n ((a >>> ((nI 24) &&& 31)) &&& (nI 255))) (n + 1) ((a >>> ((nI 16) &&& 31)) &&& (nI 255))) ((n + 1) + 1) ((a >>> ((nI 8) &&& 31)) &&& (nI 255))) (((n + 1) + 1) + 1) ((a >>> ((nI 0) &&& 31)) &&& (nI 255))) ((((n + 1) + 1) + 1) + 1) ((b >>> ((nI 24) &&& 31)) &&& (nI 255))) (((((n + 1) + 1) + 1) + 1) + 1) ((b >>> ((nI 16) &&& 31)) &&& (nI 255))) ((((((n + 1) + 1) + 1) + 1) + 1) + 1) ((b >>> ((nI 8) &&& 31)) &&& (nI 255))) (((((((n + 1) + 1) + 1) + 1) + 1) + 1) + 1) ((b >>> ((nI 0) &&& 31)) &&& (nI 255))) ((((((((n + 1) + 1) + 1) + 1) + 1) + 1) + 1) + 1) ((c >>> ((nI 24) &&& 31)) &&& (nI 255))) (((((((((n + 1) + 1) + 1) + 1) + 1) + 1) + 1) + 1) + 1) ((c >>> ((nI 16) &&& 31)) &&& (nI 255)))]) rfl ?_
    refine g_iinc (v := nI 10) C dX10_feed_109 rfl (by decide) (by decide) rfl (ll' := [some (.ref h), some (.int a), some (.int b), some (.int c), some (.int d), some (.int e), some (.int (nI 10)), some (.int c)]) rfl ?_
    refine g_goto (tgt := 18) C dX10_feed_112 (by decide) ?_
    refine g_iload C dX10_feed_18 rfl ?_
    refine g_bipush (v := nI 20) C dX10_feed_20 (by decide) ?_
    refine g_icmp_ge (tgt := 115) C dX10_feed_22 (by decide) (fun c22 => absurd c22 (by decide)) (fun c22 => ?_)
    refine g_iload C dX10_feed_25 rfl ?_
    refine g_iconst (v := nI 4) C dX10_feed_27 (by decide) ?_
    refine g_icmp_ge (tgt := 35) C dX10_feed_28 (by decide) (fun c28 => ?_) (fun c28 => absurd c28 (by decide))
    refine g_iload C dX10_feed_35 rfl ?_
    refine g_bipush (v := nI 8) C dX10_feed_37 (by decide) ?_
    refine g_icmp_ge (tgt := 46) C dX10_feed_39 (by decide) (fun c39 => ?_) (fun c39 => absurd c39 (by decide))
    refine g_iload C dX10_feed_46 rfl ?_
    refine g_bipush (v := nI 12) C dX10_feed_48 (by decide) ?_
    refine g_icmp_ge (tgt := 57) C dX10_feed_50 (by decide) (fun c50 => absurd c50 (by decide)) (fun c50 => ?_)
    refine g_iload_n C dX10_feed_53 rfl ?_
    refine g_goto (tgt := 71) C dX10_feed_54 (by decide) ?_
    refine g_istore C dX10_feed_71 (by decide) rfl (ll' := [some (.ref h), some (.int a), some (.int b), some (.int c), some (.int d), some (.int e), some (.int (nI 10)), some (.int c)]) rfl ?_
    refine g_aload_n C dX10_feed_73 rfl ?_
    refine g_get C i_X10 0 17 f_49 rfl rfl (by decide) rfl rfl dX10_feed_74 ?_
    refine g_aload_n C dX10_feed_77 rfl ?_
    refine g_get C i_X10 0 18 f_120 rfl rfl (by decide) rfl rfl dX10_feed_78 ?_
    refine g_iload C dX10_feed_81 rfl ?_
    refine g_bipush (v := nI 24) C dX10_feed_83 (by decide) ?_
    refine g_bipush (v := nI 8) C dX10_feed_85 (by decide) ?_
    refine g_iload C dX10_feed_87 rfl ?_
    refine g_iconst (v := nI 4) C dX10_feed_89 (by decide) ?_
    refine g_irem C dX10_feed_90 (by decide) (g_top (x' := nI 2) (by decide) ?_)
    refine g_imul C dX10_feed_91 (g_top (x' := nI 16) (by decide) ?_)
    refine g_isub C dX10_feed_92 (g_top (x' := nI 8) (by decide) ?_)
    refine g_ishr C dX10_feed_93 ?_
    refine g_sipush (v := nI 255) C dX10_feed_94 (by decide) ?_
    refine g_iand C dX10_feed_97 ?_
    refine g_iast C 1 ((((((((((n + 1) + 1) + 1) + 1) + 1) + 1) + 1) + 1) + 1) + 1) rfl rfl (by omega) (by decide) dX10_feed_98 (ws' := [gO h 10 (tF ad (upd iv 18 (nI ((((((((((n + 1) + 1) + 1) + 1) + 1) + 1) + 1) + 1) + 1) + 1)))), gA E (ad 17) 600 (upd (upd (upd (upd (upd (upd (upd (upd (upd (upd (upd t n ((a >>> ((nI 24) &&& 31)) &&& (nI 255))) (n + 1) ((a >>> ((nI 16) &&& 31)) &&& (nI 255))) ((n + 1) + 1) ((a >>> ((nI 8) &&& 31)) &&& (nI 255))) (((n + 1) + 1) + 1) ((a >>> ((nI 0) &&& 31)) &&& (nI 255))) ((((n + 1) + 1) + 1) + 1) ((b >>> ((nI 24) &&& 31)) &&& (nI 255))) (((((n + 1) + 1) + 1) + 1) + 1) ((b >>> ((nI 16) &&& 31)) &&& (nI 255))) ((((((n + 1) + 1) + 1) + 1) + 1) + 1) ((b >>> ((nI 8) &&& 31)) &&& (nI 255))) (((((((n + 1) + 1) + 1) + 1) + 1) + 1) + 1) ((b >>> ((nI 0) &&& 31)) &&& (nI 255))) ((((((((n + 1) + 1) + 1) + 1) + 1) + 1) + 1) + 1) ((c >>> ((nI 24) &&& 31)) &&& (nI 255))) (((((((((n + 1) + 1) + 1) + 1) + 1) + 1) + 1) + 1) + 1) ((c >>> ((nI 16) &&& 31)) &&& (nI 255))) ((((((((((n + 1) + 1) + 1) + 1) + 1) + 1) + 1) + 1) + 1) + 1) ((c >>> ((nI 8) &&& 31)) &&& (nI 255)))]) rfl ?_
    refine g_aload_n C dX10_feed_99 rfl ?_
    refine g_dup C dX10_feed_100 rfl ?_
    refine g_get C i_X10 0 18 f_120 rfl rfl (by decide) rfl rfl dX10_feed_101 ?_
    refine g_iconst (v := nI 1) C dX10_feed_104 (by decide) ?_
    refine g_iadd_n C dX10_feed_105 ?_
    refine g_put C i_X10 tyX10 tyX10_ok nmX10 0 18 f_120 rfl rfl (by decide) rfl rfl rfl rfl rfl (Nat.le_of_ble_eq_true rfl) dX10_feed_106 (ws' := [gO h 10 (tF ad (upd iv 18 (nI (((((((((((n + 1) + 1) + 1) + 1) + 1) + 1) + 1) + 1) + 1) + 1) + 1)))), gA E (ad 17) 600 (upd (upd (upd (upd (upd (upd (upd (upd (upd (upd (upd t n ((a >>> ((nI 24) &&& 31)) &&& (nI 255))) (n + 1) ((a >>> ((nI 16) &&& 31)) &&& (nI 255))) ((n + 1) + 1) ((a >>> ((nI 8) &&& 31)) &&& (nI 255))) (((n + 1) + 1) + 1) ((a >>> ((nI 0) &&& 31)) &&& (nI 255))) ((((n + 1) + 1) + 1) + 1) ((b >>> ((nI 24) &&& 31)) &&& (nI 255))) (((((n + 1) + 1) + 1) + 1) + 1) ((b >>> ((nI 16) &&& 31)) &&& (nI 255))) ((((((n + 1) + 1) + 1) + 1) + 1) + 1) ((b >>> ((nI 8) &&& 31)) &&& (nI 255))) (((((((n + 1) + 1) + 1) + 1) + 1) + 1) + 1) ((b >>> ((nI 0) &&& 31)) &&& (nI 255))) ((((((((n + 1) + 1) + 1) + 1) + 1) + 1) + 1) + 1) ((c >>> ((nI 24) &&& 31)) &&& (nI 255))) (((((((((n + 1) + 1) + 1) + 1) + 1) + 1) + 1) + 1) + 1) ((c >>> ((nI 16) &&& 31)) &&& (nI 255))) ((((((((((n + 1) + 1) + 1) + 1) + 1) + 1) + 1) + 1) + 1) + 1) ((c >>> ((nI 8) &&& 31)) &&& (nI 255)))]) rfl ?_
    refine g_iinc (v := nI 11) C dX10_feed_109 rfl (by decide) (by decide) rfl (ll' := [some (.ref h), some (.int a), some (.int b), some (.int c), some (.int d), some (.int e), some (.int (nI 11)), some (.int c)]) rfl ?_
    refine g_goto (tgt := 18) C dX10_feed_112 (by decide) ?_
    refine g_iload C dX10_feed_18 rfl ?_
    refine g_bipush (v := nI 20) C dX10_feed_20 (by decide) ?_
    refine g_icmp_ge (tgt := 115) C dX10_feed_22 (by decide) (fun c22 => absurd c22 (by decide)) (fun c22 => ?_)
    refine g_iload C dX10_feed_25 rfl ?_
    refine g_iconst (v := nI 4) C dX10_feed_27 (by decide) ?_
    refine g_icmp_ge (tgt := 35) C dX10_feed_28 (by decide) (fun c28 => ?_) (fun c28 => absurd c28 (by decide))
    refine g_iload C dX10_feed_35 rfl ?_
    refine g_bipush (v := nI 8) C dX10_feed_37 (by decide) ?_
    refine g_icmp_ge (tgt := 46) C dX10_feed_39 (by decide) (fun c39 => ?_) (fun c39 => absurd c39 (by decide))
    refine g_iload C dX10_feed_46 rfl ?_
    refine g_bipush (v := nI 12) C dX10_feed_48 (by decide) ?_
    refine g_icmp_ge (tgt := 57) C dX10_feed_50 (by decide) (fun c50 => absurd c50 (by decide)) (fun c50 => ?_)
    refine g_iload_n C dX10_feed_53 rfl ?_
    refine g_goto (tgt := 71) C dX10_feed_54 (by decide) ?_
    refine g_istore C dX10_feed_71 (by decide) rfl (ll' := [some (.ref h), some (.int a), some (.int b), some (.int c), some (.int d), some (.int e), some (.int (nI 11)), some (.int c)]) rfl ?_
    refine g_aload_n C dX10_feed_73 rfl ?_
    refine g_get C i_X10 0 17 f_49 rfl rfl (by decide) rfl rfl dX10_feed_74 ?_
    refine g_aload_n C dX10_feed_77 rfl ?_
    refine g_get C i_X10 0 18 f_120 rfl rfl (by decide) rfl rfl dX10_feed_78 ?_
    refine g_iload C dX10_feed_81 rfl ?_
    refine g_bipush (v := nI 24) C dX10_feed_83 (by decide) ?_
    refine g_bipush (v := nI 8) C dX10_feed_85 (by decide) ?_
    refine g_iload C dX10_feed_87 rfl ?_
    refine g_iconst (v := nI 4) C dX10_feed_89 (by decide) ?_
    refine g_irem C dX10_feed_90 (by decide) (g_top (x' := nI 3) (by decide) ?_)
    refine g_imul C dX10_feed_91 (g_top (x' := nI 24) (by decide) ?_)
    refine g_isub C dX10_feed_92 (g_top (x' := nI 0) (by decide) ?_)
    refine g_ishr C dX10_feed_93 ?_
    refine g_sipush (v := nI 255) C dX10_feed_94 (by decide) ?_
    refine g_iand C dX10_feed_97 ?_
    refine g_iast C 1 (((((((((((n + 1) + 1) + 1) + 1) + 1) + 1) + 1) + 1) + 1) + 1) + 1) rfl rfl (by omega) (by decide) dX10_feed_98 (ws' := [gO h 10 (tF ad (upd iv 18 (nI (((((((((((n + 1) + 1) + 1) + 1) + 1) + 1) + 1) + 1) + 1) + 1) + 1)))), gA E (ad 17) 600 (upd (upd (upd (upd (upd (upd (upd (upd (upd (upd (upd (upd t n ((a >>> ((nI 24) &&& 31)) &&& (nI 255))) (n + 1) ((a >>> ((nI 16) &&& 31)) &&& (nI 255))) ((n + 1) + 1) ((a >>> ((nI 8) &&& 31)) &&& (nI 255))) (((n + 1) + 1) + 1) ((a >>> ((nI 0) &&& 31)) &&& (nI 255))) ((((n + 1) + 1) + 1) + 1) ((b >>> ((nI 24) &&& 31)) &&& (nI 255))) (((((n + 1) + 1) + 1) + 1) + 1) ((b >>> ((nI 16) &&& 31)) &&& (nI 255))) ((((((n + 1) + 1) + 1) + 1) + 1) + 1) ((b >>> ((nI 8) &&& 31)) &&& (nI 255))) (((((((n + 1) + 1) + 1) + 1) + 1) + 1) + 1) ((b >>> ((nI 0) &&& 31)) &&& (nI 255))) ((((((((n + 1) + 1) + 1) + 1) + 1) + 1) + 1) + 1) ((c >>> ((nI 24) &&& 31)) &&& (nI 255))) (((((((((n + 1) + 1) + 1) + 1) + 1) + 1) + 1) + 1) + 1) ((c >>> ((nI 16) &&& 31)) &&& (nI 255))) ((((((((((n + 1) + 1) + 1) + 1) + 1) + 1) + 1) + 1) + 1) + 1) ((c >>> ((nI 8) &&& 31)) &&& (nI 255))) (((((((((((n + 1) + 1) + 1) + 1) + 1) + 1) + 1) + 1) + 1) + 1) + 1) ((c >>> ((nI 0) &&& 31)) &&& (nI 255)))]) rfl ?_
    refine g_aload_n C dX10_feed_99 rfl ?_
    refine g_dup C dX10_feed_100 rfl ?_
    refine g_get C i_X10 0 18 f_120 rfl rfl (by decide) rfl rfl dX10_feed_101 ?_
    refine g_iconst (v := nI 1) C dX10_feed_104 (by decide) ?_
    refine g_iadd_n C dX10_feed_105 ?_
    refine g_put C i_X10 tyX10 tyX10_ok nmX10 0 18 f_120 rfl rfl (by decide) rfl rfl rfl rfl rfl (Nat.le_of_ble_eq_true rfl) dX10_feed_106 (ws' := [gO h 10 (tF ad (upd iv 18 (nI ((((((((((((n + 1) + 1) + 1) + 1) + 1) + 1) + 1) + 1) + 1) + 1) + 1) + 1)))), gA E (ad 17) 600 (upd (upd (upd (upd (upd (upd (upd (upd (upd (upd (upd (upd t n ((a >>> ((nI 24) &&& 31)) &&& (nI 255))) (n + 1) ((a >>> ((nI 16) &&& 31)) &&& (nI 255))) ((n + 1) + 1) ((a >>> ((nI 8) &&& 31)) &&& (nI 255))) (((n + 1) + 1) + 1) ((a >>> ((nI 0) &&& 31)) &&& (nI 255))) ((((n + 1) + 1) + 1) + 1) ((b >>> ((nI 24) &&& 31)) &&& (nI 255))) (((((n + 1) + 1) + 1) + 1) + 1) ((b >>> ((nI 16) &&& 31)) &&& (nI 255))) ((((((n + 1) + 1) + 1) + 1) + 1) + 1) ((b >>> ((nI 8) &&& 31)) &&& (nI 255))) (((((((n + 1) + 1) + 1) + 1) + 1) + 1) + 1) ((b >>> ((nI 0) &&& 31)) &&& (nI 255))) ((((((((n + 1) + 1) + 1) + 1) + 1) + 1) + 1) + 1) ((c >>> ((nI 24) &&& 31)) &&& (nI 255))) (((((((((n + 1) + 1) + 1) + 1) + 1) + 1) + 1) + 1) + 1) ((c >>> ((nI 16) &&& 31)) &&& (nI 255))) ((((((((((n + 1) + 1) + 1) + 1) + 1) + 1) + 1) + 1) + 1) + 1) ((c >>> ((nI 8) &&& 31)) &&& (nI 255))) (((((((((((n + 1) + 1) + 1) + 1) + 1) + 1) + 1) + 1) + 1) + 1) + 1) ((c >>> ((nI 0) &&& 31)) &&& (nI 255)))]) rfl ?_
    refine g_iinc (v := nI 12) C dX10_feed_109 rfl (by decide) (by decide) rfl (ll' := [some (.ref h), some (.int a), some (.int b), some (.int c), some (.int d), some (.int e), some (.int (nI 12)), some (.int c)]) rfl ?_
    refine g_goto (tgt := 18) C dX10_feed_112 (by decide) ?_
    refine g_iload C dX10_feed_18 rfl ?_
    refine g_bipush (v := nI 20) C dX10_feed_20 (by decide) ?_
    refine g_icmp_ge (tgt := 115) C dX10_feed_22 (by decide) (fun c22 => absurd c22 (by decide)) (fun c22 => ?_)
    refine g_iload C dX10_feed_25 rfl ?_
    refine g_iconst (v := nI 4) C dX10_feed_27 (by decide) ?_
    refine g_icmp_ge (tgt := 35) C dX10_feed_28 (by decide) (fun c28 => ?_) (fun c28 => absurd c28 (by decide))
    refine g_iload C dX10_feed_35 rfl ?_
    refine g_bipush (v := nI 8) C dX10_feed_37 (by decide) ?_
    refine g_icmp_ge (tgt := 46) C dX10_feed_39 (by decide) (fun c39 => ?_) (fun c39 => absurd c39 (by decide))
    refine g_iload C dX10_feed_46 rfl ?_
    refine g_bipush (v := nI 12) C dX10_feed_48 (by decide) ?_
    refine g_icmp_ge (tgt := 57) C dX10_feed_50 (by decide) (fun c50 => ?_) (fun c50 => absurd c50 (by decide))
    refine g_iload C dX10_feed_57 rfl ?_
    refine g_bipush (v := nI 16) C dX10_feed_59 (by decide) ?_
    refine g_icmp_ge (tgt := 69) C dX10_feed_61 (by decide) (fun c61 => absurd c61 (by decide)) (fun c61 => ?_)
    refine g_iload C dX10_feed_64 rfl ?_
    refine g_goto (tgt := 71) C dX10_feed_66 (by decide) ?_
    refine g_istore C dX10_feed_71 (by decide) rfl (ll' := [some (.ref h), some (.int a), some (.int b), some (.int c), some (.int d), some (.int e), some (.int (nI 12)), some (.int d)]) rfl ?_
    refine g_aload_n C dX10_feed_73 rfl ?_
    refine g_get C i_X10 0 17 f_49 rfl rfl (by decide) rfl rfl dX10_feed_74 ?_
    refine g_aload_n C dX10_feed_77 rfl ?_
    refine g_get C i_X10 0 18 f_120 rfl rfl (by decide) rfl rfl dX10_feed_78 ?_
    refine g_iload C dX10_feed_81 rfl ?_
    refine g_bipush (v := nI 24) C dX10_feed_83 (by decide) ?_
    refine g_bipush (v := nI 8) C dX10_feed_85 (by decide) ?_
    refine g_iload C dX10_feed_87 rfl ?_
    refine g_iconst (v := nI 4) C dX10_feed_89 (by decide) ?_
    refine g_irem C dX10_feed_90 (by decide) (g_top (x' := nI 0) (by decide) ?_)
    refine g_imul C dX10_feed_91 (g_top (x' := nI 0) (by decide) ?_)
    refine g_isub C dX10_feed_92 (g_top (x' := nI 24) (by decide) ?_)
    refine g_ishr C dX10_feed_93 ?_
    refine g_sipush (v := nI 255) C dX10_feed_94 (by decide) ?_
    refine g_iand C dX10_feed_97 ?_
    refine g_iast C 1 ((((((((((((n + 1) + 1) + 1) + 1) + 1) + 1) + 1) + 1) + 1) + 1) + 1) + 1) rfl rfl (by omega) (by decide) dX10_feed_98 (ws' := [gO h 10 (tF ad (upd iv 18 (nI ((((((((((((n + 1) + 1) + 1) + 1) + 1) + 1) + 1) + 1) + 1) + 1) + 1) + 1)))), gA E (ad 17) 600 (upd (upd (upd (upd (upd (upd (upd (upd (upd (upd (upd (upd (upd t n ((a >>> ((nI 24) &&& 31)) &&& (nI 255))) (n + 1) ((a >>> ((nI 16) &&& 31)) &&& (nI 255))) ((n + 1) + 1) ((a >>> ((nI 8) &&& 31)) &&& (nI 255))) (((n + 1) + 1) + 1) ((a >>> ((nI 0) &&& 31)) &&& (nI 255))) ((((n + 1) + 1) + 1) + 1) ((b >>> ((nI 24) &&& 31)) &&& (nI 255))) (((((n + 1) + 1) + 1) + 1) + 1) ((b >>> ((nI 16) &&& 31)) &&& (nI 255))) ((((((n + 1) + 1) + 1) + 1) + 1) + 1) ((b >>> ((nI 8) &&& 31)) &&& (nI 255))) (((((((n + 1) + 1) + 1) + 1) + 1) + 1) + 1) ((b >>> ((nI 0) &&& 31)) &&& (nI 255))) ((((((((n + 1) + 1) + 1) + 1) + 1) + 1) + 1) + 1) ((c >>> ((nI 24) &&& 31)) &&& (nI 255))) (((((((((n + 1) + 1) + 1) + 1) + 1) + 1) + 1) + 1) + 1) ((c >>> ((nI 16) &&& 31)) &&& (nI 255))) ((((((((((n + 1) + 1) + 1) + 1) + 1) + 1) + 1) + 1) + 1) + 1) ((c >>> ((nI 8) &&& 31)) &&& (nI 255))) (((((((((((n + 1) + 1) + 1) + 1) + 1) + 1) + 1) + 1) + 1) + 1) + 1) ((c >>> ((nI 0) &&& 31)) &&& (nI 255))) ((((((((((((n + 1) + 1) + 1) + 1) + 1) + 1) + 1) + 1) + 1) + 1) + 1) + 1) ((d >>> ((nI 24) &&& 31)) &&& (nI 255)))]) rfl ?_
    refine g_aload_n C dX10_feed_99 rfl ?_
    refine g_dup C dX10_feed_100 rfl ?_
    refine g_get C i_X10 0 18 f_120 rfl rfl (by decide) rfl rfl dX10_feed_101 ?_
    refine g_iconst (v := nI 1) C dX10_feed_104 (by decide) ?_
    refine g_iadd_n C dX10_feed_105 ?_
    refine g_put C i_X10 tyX10 tyX10_ok nmX10 0 18 f_120 rfl rfl (by decide) rfl rfl rfl rfl rfl (Nat.le_of_ble_eq_true rfl) dX10_feed_106 (ws' := [gO h 10 (tF ad (upd iv 18 (nI (((((((((((((n + 1) + 1) + 1) + 1) + 1) + 1) + 1) + 1) + 1) + 1) + 1) + 1) + 1)))), gA E (ad 17) 600 (upd (upd (upd (upd (upd (upd (upd (upd (upd (upd (upd (upd (upd t n ((a >>> ((nI 24) &&& 31)) &&& (nI 255))) (n + 1) ((a >>> ((nI 16) &&& 31)) &&& (nI 255))) ((n + 1) + 1) ((a >>> ((nI 8) &&& 31)) &&& (nI 255))) (((n + 1) + 1) + 1) ((a >>> ((nI 0) &&& 31)) &&& (nI 255))) ((((n + 1) + 1) + 1) + 1) ((b >>> ((nI 24) &&& 31)) &&& (nI 255))) (((((n + 1) + 1) + 1) + 1) + 1) ((b >>> ((nI 16) &&& 31)) &&& (nI 255))) ((((((n + 1) + 1) + 1) + 1) + 1) + 1) ((b >>> ((nI 8) &&& 31)) &&& (nI 255))) (((((((n + 1) + 1) + 1) + 1) + 1) + 1) + 1) ((b >>> ((nI 0) &&& 31)) &&& (nI 255))) ((((((((n + 1) + 1) + 1) + 1) + 1) + 1) + 1) + 1) ((c >>> ((nI 24) &&& 31)) &&& (nI 255))) (((((((((n + 1) + 1) + 1) + 1) + 1) + 1) + 1) + 1) + 1) ((c >>> ((nI 16) &&& 31)) &&& (nI 255))) ((((((((((n + 1) + 1) + 1) + 1) + 1) + 1) + 1) + 1) + 1) + 1) ((c >>> ((nI 8) &&& 31)) &&& (nI 255))) (((((((((((n + 1) + 1) + 1) + 1) + 1) + 1) + 1) + 1) + 1) + 1) + 1) ((c >>> ((nI 0) &&& 31)) &&& (nI 255))) ((((((((((((n + 1) + 1) + 1) + 1) + 1) + 1) + 1) + 1) + 1) + 1) + 1) + 1) ((d >>> ((nI 24) &&& 31)) &&& (nI 255)))]) rfl ?_
    refine g_iinc (v := nI 13) C dX10_feed_109 rfl (by decide) (by decide) rfl (ll' := [some (.ref h), some (.int a), some (.int b), some (.int c), some (.int d), some (.int e), some (.int (nI 13)), some (.int d)]) rfl ?_
    refine g_goto (tgt := 18) C dX10_feed_112 (by decide) ?_
    refine g_iload C dX10_feed_18 rfl ?_
    refine g_bipush (v := nI 20) C dX10_feed_20 (by decide) ?_
    refine g_icmp_ge (tgt := 115) C dX10_feed_22 (by decide) (fun c22 => absurd c22 (by decide)) (fun c22 => ?_)
    refine g_iload C dX10_feed_25 rfl ?_
    refine g_iconst (v := nI 4) C dX10_feed_27 (by decide) ?_
    refine g_icmp_ge (tgt := 35) C dX10_feed_28 (by decide) (fun c28 => ?_) (fun c28 => absurd c28 (by decide))
    refine g_iload C dX10_feed_35 rfl ?_
    refine g_bipush (v := nI 8) C dX10_feed_37 (by decide) ?_
    refine g_icmp_ge (tgt := 46) C dX10_feed_39 (by decide) (fun c39 => ?_) (fun c39 => absurd c39 (by decide))
    refine g_iload C dX10_feed_46 rfl ?_
    refine g_bipush (v := nI 12) C dX10_feed_48 (by decide) ?_
    refine g_icmp_ge (tgt := 57) C dX10_feed_50 (by decide) (fun c50 => ?_) (fun c50 => absurd c50 (by decide))
    refine g_iload C dX10_feed_57 rfl ?_
    refine g_bipush (v := nI 16) C dX10_feed_59 (by decide) ?_
    refine g_icmp_ge (tgt := 69) C dX10_feed_61 (by decide) (fun c61 => absurd c61 (by decide)) (fun c61 => ?_)
    refine g_iload C dX10_feed_64 rfl ?_
    refine g_goto (tgt := 71) C dX10_feed_66 (by decide) ?_
    refine g_istore C dX10_feed_71 (by decide) rfl (ll' := [some (.ref h), some (.int a), some (.int b), some (.int c), some (.int d), some (.int e), some (.int (nI 13)), some (.int d)]) rfl ?_
    refine g_aload_n C dX10_feed_73 rfl ?_
    refine g_get C i_X10 0 17 f_49 rfl rfl (by decide) rfl rfl dX10_feed_74 ?_
    refine g_aload_n C dX10_feed_77 rfl ?_
    refine g_get C i_X10 0 18 f_120 rfl rfl (by decide) rfl rfl dX10_feed_78 ?_
    refine g_iload C dX10_feed_81 rfl ?_
    refine g_bipush (v := nI 24) C dX10_feed_83 (by decide) ?_
    refine g_bipush (v := nI 8) C dX10_feed_85 (by decide) ?_
    refine g_iload C dX10_feed_87 rfl ?_
    refine g_iconst (v := nI 4) C dX10_feed_89 (by decide) ?_
    refine g_irem C dX10_feed_90 (by decide) (g_top (x' := nI 1) (by decide) ?_)
    refine g_imul C dX10_feed_91 (g_top (x' := nI 8) (by decide) ?_)
    refine g_isub C dX10_feed_92 (g_top (x' := nI 16) (by decide) ?_)
    refine g_ishr C dX10_feed_93 ?_
    refine g_sipush (v := nI 255) C dX10_feed_94 (by decide) ?_
    refine g_iand C dX10_feed_97 ?_
    refine g_iast C 1 (((((((((((((n + 1) + 1) + 1) + 1) + 1) + 1) + 1) + 1) + 1) + 1) + 1) + 1) + 1) rfl rfl (by omega) (by decide) dX10_feed_98 (ws' := [gO h 10 (tF ad (upd iv 18 (nI (((((((((((((n + 1) + 1) + 1) + 1) + 1) + 1) + 1) + 1) + 1) + 1) + 1) + 1) + 1)))), gA E (ad 17) 600 (upd (upd (upd (upd (upd (upd (upd (upd (upd (upd (upd (upd (upd (upd t n ((a >>> ((nI 24) &&& 31)) &&& (nI 255))) (n + 1) ((a >>> ((nI 16) &&& 31)) &&& (nI 255))) ((n + 1) + 1) ((a >>> ((nI 8) &&& 31)) &&& (nI 255))) (((n + 1) + 1) + 1) ((a >>> ((nI 0) &&& 31)) &&& (nI 255))) ((((n + 1) + 1) + 1) + 1) ((b >>> ((nI 24) &&& 31)) &&& (nI 255))) (((((n + 1) + 1) + 1) + 1) + 1) ((b >>> ((nI 16) &&& 31)) &&& (nI 255))) ((((((n + 1) + 1) + 1) + 1) + 1) + 1) ((b >>> ((nI 8) &&& 31)) &&& (nI 255))) (((((((n + 1) + 1) + 1) + 1) + 1) + 1) + 1) ((b >>> ((nI 0) &&& 31)) &&& (nI 255))) ((((((((n + 1) + 1) + 1) + 1) + 1) + 1) + 1) + 1) ((c >>> ((nI 24) &&& 31)) &&& (nI 255))) (((((((((n + 1) + 1) + 1) + 1) + 1) + 1) + 1) + 1) + 1) ((c >>> ((nI 16) &&& 31)) &&& (nI 255))) ((((((((((n + 1) + 1) + 1) + 1) + 1) + 1) + 1) + 1) + 1) + 1) ((c >>> ((nI 8) &&& 31)) &&& (nI 255))) (((((((((((n + 1) + 1) + 1) + 1) + 1) + 1) + 1) + 1) + 1) + 1) + 1) ((c >>> ((nI 0) &&& 31)) &&& (nI 255))) ((((((((((((n + 1) + 1) + 1) + 1) + 1) + 1) + 1) + 1) + 1) + 1) + 1) + 1) ((d >>> ((nI 24) &&& 31)) &&& (nI 255))) (((((((((((((n + 1) + 1) + 1) + 1) + 1) + 1) + 1) + 1) + 1) + 1) + 1) + 1) + 1) ((d >>> ((nI 16) &&& 31)) &&& (nI 255)))]) rfl ?_
    refine g_aload_n C dX10_feed_99 rfl ?_
    refine g_dup C dX10_feed_100 rfl ?_
    refine g_get C i_X10 0 18 f_120 rfl rfl (by decide) rfl rfl dX10_feed_101 ?_
    refine g_iconst (v := nI 1) C dX10_feed_104 (by decide) ?_
    refine g_iadd_n C dX10_feed_105 ?_
    refine g_put C i_X10 tyX10 tyX10_ok nmX10 0 18 f_120 rfl rfl (by decide) rfl rfl rfl rfl rfl (Nat.le_of_ble_eq_true rfl) dX10_feed_106 (ws' := [gO h 10 (tF ad (upd iv 18 (nI ((((((((((((((n + 1) + 1) + 1) + 1) + 1) + 1) + 1) + 1) + 1) + 1) + 1) + 1) + 1) + 1)))), gA E (ad 17) 600 (upd (upd (upd (upd (upd (upd (upd (upd (upd (upd (upd (upd (upd (upd t n ((a >>> ((nI 24) &&& 31)) &&& (nI 255))) (n + 1) ((a >>> ((nI 16) &&& 31)) &&& (nI 255))) ((n + 1) + 1) ((a >>> ((nI 8) &&& 31)) &&& (nI 255))) (((n + 1) + 1) + 1) ((a >>> ((nI 0) &&& 31)) &&& (nI 255))) ((((n + 1) + 1) + 1) + 1) ((b >>> ((nI 24) &&& 31)) &&& (nI 255))) (((((n + 1) + 1) + 1) + 1) + 1) ((b >>> ((nI 16) &&& 31)) &&& (nI 255))) ((((((n + 1) + 1) + 1) + 1) + 1) + 1) ((b >>> ((nI 8) &&& 31)) &&& (nI 255))) (((((((n + 1) + 1) + 1) + 1) + 1) + 1) + 1) ((b >>> ((nI 0) &&& 31)) &&& (nI 255))) ((((((((n + 1) + 1) + 1) + 1) + 1) + 1) + 1) + 1) ((c >>> ((nI 24) &&& 31)) &&& (nI 255))) (((((((((n + 1) + 1) + 1) + 1) + 1) + 1) + 1) + 1) + 1) ((c >>> ((nI 16) &&& 31)) &&& (nI 255))) ((((((((((n + 1) + 1) + 1) + 1) + 1) + 1) + 1) + 1) + 1) + 1) ((c >>> ((nI 8) &&& 31)) &&& (nI 255))) (((((((((((n + 1) + 1) + 1) + 1) + 1) + 1) + 1) + 1) + 1) + 1) + 1) ((c >>> ((nI 0) &&& 31)) &&& (nI 255))) ((((((((((((n + 1) + 1) + 1) + 1) + 1) + 1) + 1) + 1) + 1) + 1) + 1) + 1) ((d >>> ((nI 24) &&& 31)) &&& (nI 255))) (((((((((((((n + 1) + 1) + 1) + 1) + 1) + 1) + 1) + 1) + 1) + 1) + 1) + 1) + 1) ((d >>> ((nI 16) &&& 31)) &&& (nI 255)))]) rfl ?_
    refine g_iinc (v := nI 14) C dX10_feed_109 rfl (by decide) (by decide) rfl (ll' := [some (.ref h), some (.int a), some (.int b), some (.int c), some (.int d), some (.int e), some (.int (nI 14)), some (.int d)]) rfl ?_
    refine g_goto (tgt := 18) C dX10_feed_112 (by decide) ?_
    refine g_iload C dX10_feed_18 rfl ?_
    refine g_bipush (v := nI 20) C dX10_feed_20 (by decide) ?_
    refine g_icmp_ge (tgt := 115) C dX10_feed_22 (by decide) (fun c22 => absurd c22 (by decide)) (fun c22 => ?_)
    refine g_iload C dX10_feed_25 rfl ?_
    refine g_iconst (v := nI 4) C dX10_feed_27 (by decide) ?_
    refine g_icmp_ge (tgt := 35) C dX10_feed_28 (by decide) (fun c28 => ?_) (fun c28 => absurd c28 (by decide))
    refine g_iload C dX10_feed_35 rfl ?_
    refine g_bipush (v := nI 8) C dX10_feed_37 (by decide) ?_
    refine g_icmp_ge (tgt := 46) C dX10_feed_39 (by decide) (fun c39 => ?_) (fun c39 => absurd c39 (by decide))
    refine g_iload C dX10_feed_46 rfl ?_
    refine g_bipush (v := nI 12) C dX10_feed_48 (by decide) ?_
    refine g_icmp_ge (tgt := 57) C dX10_feed_50 (by decide) (fun c50 => ?_) (fun c50 => absurd c50 (by decide))
    refine g_iload C dX10_feed_57 rfl ?_
    refine g_bipush (v := nI 16) C dX10_feed_59 (by decide) ?_
    refine g_icmp_ge (tgt := 69) C dX10_feed_61 (by decide) (fun c61 => absurd c61 (by decide)) (fun c61 => ?_)
    refine g_iload C dX10_feed_64 rfl ?_
    refine g_goto (tgt := 71) C dX10_feed_66 (by decide) ?_
    refine g_istore C dX10_feed_71 (by decide) rfl (ll' := [some (.ref h), some (.int a), some (.int b), some (.int c), some (.int d), some (.int e), some (.int (nI 14)), some (.int d)]) rfl ?_
    refine g_aload_n C dX10_feed_73 rfl ?_
    refine g_get C i_X10 0 17 f_49 rfl rfl (by decide) rfl rfl dX10_feed_74 ?_
    refine g_aload_n C dX10_feed_77 rfl ?_
    refine g_get C i_X10 0 18 f_120 rfl rfl (by decide) rfl rfl dX10_feed_78 ?_
    refine g_iload C dX10_feed_81 rfl ?_
    refine g_bipush (v := nI 24) C dX10_feed_83 (by decide) ?_
    refine g_bipush (v := nI 8) C dX10_feed_85 (by decide) ?_
    refine g_iload C dX10_feed_87 rfl ?_
    refine g_iconst (v := nI 4) C dX10_feed_89 (by decide) ?_
    refine g_irem C dX10_feed_90 (by decide) (g_top (x' := nI 2) (by decide) ?_)
    refine g_imul C dX10_feed_91 (g_top (x' := nI 16) (by decide) ?_)
    refine g_isub C dX10_feed_92 (g_top (x' := nI 8) (by decide) ?_)
    refine g_ishr C dX10_feed_93 ?_
    refine g_sipush (v := nI 255) C dX10_feed_94 (by decide) ?_
    refine g_iand C dX10_feed_97 ?_
    refine g_iast C 1 ((((((((((((((n + 1) + 1) + 1) + 1) + 1) + 1) + 1) + 1) + 1) + 1) + 1) + 1) + 1) + 1) rfl rfl (by omega) (by decide) dX10_feed_98 (ws' := [gO h 10 (tF ad (upd iv 18 (nI ((((((((((((((n + 1) + 1) + 1) + 1) + 1) + 1) + 1) + 1) + 1) + 1) + 1) + 1) + 1) + 1)))), gA E (ad 17) 600 (upd (upd (upd (upd (upd (upd (upd (upd (upd (upd (upd (upd (upd (upd (upd t n ((a >>> ((nI 24) &&& 31)) &&& (nI 255))) (n + 1) ((a >>> ((nI 16) &&& 31)) &&& (nI 255))) ((n + 1) + 1) ((a >>> ((nI 8) &&& 31)) &&& (nI 255))) (((n + 1) + 1) + 1) ((a >>> ((nI 0) &&& 31)) &&& (nI 255))) ((((n + 1) + 1) + 1) + 1) ((b >>> ((nI 24) &&& 31)) &&& (nI 255))) (((((n + 1) + 1) + 1) + 1) + 1) ((b >>> ((nI 16) &&& 31)) &&& (nI 255))) ((((((n + 1) + 1) + 1) + 1) + 1) + 1) ((b >>> ((nI 8) &&& 31)) &&& (nI 255))) (((((((n + 1) + 1) + 1) + 1) + 1) + 1) + 1) ((b >>> ((nI 0) &&& 31)) &&& (nI 255))) ((((((((n + 1) + 1) + 1) + 1) + 1) + 1) + 1) + 1) ((c >>> ((nI 24) &&& 31)) &&& (nI 255))) (((((((((n + 1) + 1) + 1) + 1) + 1) + 1) + 1) + 1) + 1) ((c >>> ((nI 16) &&& 31)) &&& (nI 255))) ((((((((((n + 1) + 1) + 1) + 1) + 1) + 1) + 1) + 1) + 1) + 1) ((c >>> ((nI 8) &&& 31)) &&& (nI 255))) (((((((((((n + 1) + 1) + 1) + 1) + 1) + 1) + 1) + 1) + 1) + 1) + 1) ((c >>> ((nI 0) &&& 31)) &&& (nI 255))) ((((((((((((n + 1) + 1) + 1) + 1) + 1) + 1) + 1) + 1) + 1) + 1) + 1) + 1) ((d >>> ((nI 24) &&& 31)) &&& (nI 255))) (((((((((((((n + 1) + 1) + 1) + 1) + 1) + 1) + 1) + 1) + 1) + 1) + 1) + 1) + 1) ((d >>> ((nI 16) &&& 31)) &&& (nI 255))) ((((((((((((((n + 1) + 1) + 1) + 1) + 1) + 1) + 1) + 1) + 1) + 1) + 1) + 1) + 1) + 1) ((d >>> ((nI 8) &&& 31)) &&& (nI 255)))]) rfl ?_
    refine g_aload_n C dX10_feed_99 rfl ?_
    refine g_dup C dX10_feed_100 rfl ?_
    refine g_get C i_X10 0 18 f_120 rfl rfl (by decide) rfl rfl dX10_feed_101 ?_
    refine g_iconst (v := nI 1) C dX10_feed_104 (by decide) ?_
    refine g_iadd_n C dX10_feed_105 ?_
    refine g_put C i_X10 tyX10 tyX10_ok nmX10 0 18 f_120 rfl rfl (by decide) rfl rfl rfl rfl rfl (Nat.le_of_ble_eq_true rfl) dX10_feed_106 (ws' := [gO h 10 (tF ad (upd iv 18 (nI (((((((((((((((n + 1) + 1) + 1) + 1) + 1) + 1) + 1) + 1) + 1) + 1) + 1) + 1) + 1) + 1) + 1)))), gA E (ad 17) 600 (upd (upd (upd (upd (upd (upd (upd (upd (upd (upd (upd (upd (upd (upd (upd t n ((a >>> ((nI 24) &&& 31)) &&& (nI 255))) (n + 1) ((a >>> ((nI 16) &&& 31)) &&& (nI 255))) ((n + 1) + 1) ((a >>> ((nI 8) &&& 31)) &&& (nI 255))) (((n + 1) + 1) + 1) ((a >>> ((nI 0) &&& 31)) &&& (nI 255))) ((((n + 1) + 1) + 1) + 1) ((b >>> ((nI 24) &&& 31)) &&& (nI 255))) (((((n + 1) + 1) + 1) + 1) + 1) ((b >>> ((nI 16) &&& 31)) &&& (nI 255))) ((((((n + 1) + 1) + 1) + 1) + 1) + 1) ((b >>> ((nI 8) &&& 31)) &&& (nI 255))) (((((((n + 1) + 1) + 1) + 1) + 1) + 1) + 1) ((b >>> ((nI 0) &&& 31)) &&& (nI 255))) ((((((((n + 1) + 1) + 1) + 1) + 1) + 1) + 1) + 1) ((c >>> ((nI 24) &&& 31)) &&& (nI 255))) (((((((((n + 1) + 1) + 1) + 1) + 1) + 1) + 1) + 1) + 1) ((c >>> ((nI 16) &&& 31)) &&& (nI 255))) ((((((((((n + 1) + 1) + 1) + 1) + 1) + 1) + 1) + 1) + 1) + 1) ((c >>> ((nI 8) &&& 31)) &&& (nI 255))) (((((((((((n + 1) + 1) + 1) + 1) + 1) + 1) + 1) + 1) + 1) + 1) + 1) ((c >>> ((nI 0) &&& 31)) &&& (nI 255))) ((((((((((((n + 1) + 1) + 1) + 1) + 1) + 1) + 1) + 1) + 1) + 1) + 1) + 1) ((d >>> ((nI 24) &&& 31)) &&& (nI 255))) (((((((((((((n + 1) + 1) + 1) + 1) + 1) + 1) + 1) + 1) + 1) + 1) + 1) + 1) + 1) ((d >>> ((nI 16) &&& 31)) &&& (nI 255))) ((((((((((((((n + 1) + 1) + 1) + 1) + 1) + 1) + 1) + 1) + 1) + 1) + 1) + 1) + 1) + 1) ((d >>> ((nI 8) &&& 31)) &&& (nI 255)))]) rfl ?_
    refine g_iinc (v := nI 15) C dX10_feed_109 rfl (by decide) (by decide) rfl (ll' := [some (.ref h), some (.int a), some (.int b), some (.int c), some (.int d), some (.int e), some (.int (nI 15)), some (.int d)]) rfl ?_
    refine g_goto (tgt := 18) C dX10_feed_112 (by decide) ?_
    refine g_iload C dX10_feed_18 rfl ?_
    refine g_bipush (v := nI 20) C dX10_feed_20 (by decide) ?_
    refine g_icmp_ge (tgt := 115) C dX10_feed_22 (by decide) (fun c22 => absurd c22 (by decide)) (fun c22 => ?_)
    refine g_iload C dX10_feed_25 rfl ?_
    refine g_iconst (v := nI 4) C dX10_feed_27 (by decide) ?_
    refine g_icmp_ge (tgt := 35) C dX10_feed_28 (by decide) (fun c28 => ?_) (fun c28 => absurd c28 (by decide))
    refine g_iload C dX10_feed_35 rfl ?_
    refine g_bipush (v := nI 8) C dX10_feed_37 (by decide) ?_
    refine g_icmp_ge (tgt := 46) C dX10_feed_39 (by decide) (fun c39 => ?_) (fun c39 => absurd c39 (by decide))
    refine g_iload C dX10_feed_46 rfl ?_
    refine g_bipush (v := nI 12) C dX10_feed_48 (by decide) ?_
    refine g_icmp_ge (tgt := 57) C dX10_feed_50 (by decide) (fun c50 => ?_) (fun c50 => absurd c50 (by decide))
    refine g_iload C dX10_feed_57 rfl ?_
    refine g_bipush (v := nI 16) C dX10_feed_59 (by decide) ?_
    refine g_icmp_ge (tgt := 69) C dX10_feed_61 (by decide) (fun c61 => absurd c61 (by decide)) (fun c61 => ?_)
    refine g_iload C dX10_feed_64 rfl ?_
    refine g_goto (tgt := 71) C dX10_feed_66 (by decide) ?_
    refine g_istore C dX10_feed_71 (by decide) rfl (ll' := [some (.ref h), some (.int a), some (.int b), some (.int c), some (.int d), some (.int e), some (.int (nI 15)), some (.int d)]) rfl ?_
    refine g_aload_n C dX10_feed_73 rfl ?_
    refine g_get C i_X10 0 17 f_49 rfl rfl (by decide) rfl rfl dX10_feed_74 ?_
    refine g_aload_n C dX10_feed_77 rfl ?_
    refine g_get C i_X10 0 18 f_120 rfl rfl (by decide) rfl rfl dX10_feed_78 ?_
    refine g_iload C dX10_feed_81 rfl ?_
    refine g_bipush (v := nI 24) C dX10_feed_83 (by decide) ?_
    refine g_bipush (v := nI 8) C dX10_feed_85 (by decide) ?_
    refine g_iload C dX10_feed_87 rfl ?_
    refine g_iconst (v := nI 4) C dX10_feed_89 (by decide) ?_
    refine g_irem C dX10_feed_90 (by decide) (g_top (x' := nI 3) (by decide) ?_)
    refine g_imul C dX10_feed_91 (g_top (x' := nI 24) (by decide) ?_)
    refine g_isub C dX10_feed_92 (g_top (x' := nI 0) (by decide) ?_)
    refine g_ishr C dX10_feed_93 ?_
    refine g_sipush (v := nI 255) C dX10_feed_94 (by decide) ?_
    refine g_iand C dX10_feed_97 ?_
    refine g_iast C 1 (((((((((((((((n + 1) + 1) + 1) + 1) + 1) + 1) + 1) + 1) + 1) + 1) + 1) + 1) + 1) + 1) + 1) rfl rfl (by omega) (by decide) dX10_feed_98 (ws' := [gO h 10 (tF ad (upd iv 18 (nI (((((((((((((((n + 1) + 1) + 1) + 1) + 1) + 1) + 1) + 1) + 1) + 1) + 1) + 1) + 1) + 1) + 1)))), gA E (ad 17) 600 (upd (upd (upd (upd (upd (upd (upd (upd (upd (upd (upd (upd (upd (upd (upd (upd t n ((a >>> ((nI 24) &&& 31)) &&& (nI 255))) (n + 1) ((a >>> ((nI 16) &&& 31)) &&& (nI 255))) ((n + 1) + 1) ((a >>> ((nI 8) &&& 31)) &&& (nI 255))) (((n + 1) + 1) + 1) ((a >>> ((nI 0) &&& 31)) &&& (nI 255))) ((((n + 1) + 1) + 1) + 1) ((b >>> ((nI 24) &&& 31)) &&& (nI 255))) (((((n + 1) + 1) + 1) + 1) + 1) ((b >>> ((nI 16) &&& 31)) &&& (nI 255))) ((((((n + 1) + 1) + 1) + 1) + 1) + 1) ((b >>> ((nI 8) &&& 31)) &&& (nI 255))) (((((((n + 1) + 1) + 1) + 1) + 1) + 1) + 1) ((b >>> ((nI 0) &&& 31)) &&& (nI 255))) ((((((((n + 1) + 1) + 1) + 1) + 1) + 1) + 1) + 1) ((c >>> ((nI 24) &&& 31)) &&& (nI 255))) (((((((((n + 1) + 1) + 1) + 1) + 1) + 1) + 1) + 1) + 1) ((c >>> ((nI 16) &&& 31)) &&& (nI 255))) ((((((((((n + 1) + 1) + 1) + 1) + 1) + 1) + 1) + 1) + 1) + 1) ((c >>> ((nI 8) &&& 31)) &&& (nI 255))) (((((((((((n + 1) + 1) + 1) + 1) + 1) + 1) + 1) + 1) + 1) + 1) + 1) ((c >>> ((nI 0) &&& 31)) &&& (nI 255))) ((((((((((((n + 1) + 1) + 1) + 1) + 1) + 1) + 1) + 1) + 1) + 1) + 1) + 1) ((d >>> ((nI 24) &&& 31)) &&& (nI 255))) (((((((((((((n + 1) + 1) + 1) + 1) + 1) + 1) + 1) + 1) + 1) + 1) + 1) + 1) + 1) ((d >>> ((nI 16) &&& 31)) &&& (nI 255))) ((((((((((((((n + 1) + 1) + 1) + 1) + 1) + 1) + 1) + 1) + 1) + 1) + 1) + 1) + 1) + 1) ((d >>> ((nI 8) &&& 31)) &&& (nI 255))) (((((((((((((((n + 1) + 1) + 1) + 1) + 1) + 1) + 1) + 1) + 1) + 1) + 1) + 1) + 1) + 1) + 1) ((d >>> ((nI 0) &&& 31)) &&& (nI 255)))]) rfl ?_
    refine g_aload_n C dX10_feed_99 rfl ?_
    refine g_dup C dX10_feed_100 rfl ?_
    refine g_get C i_X10 0 18 f_120 rfl rfl (by decide) rfl rfl dX10_feed_101 ?_
    refine g_iconst (v := nI 1) C dX10_feed_104 (by decide) ?_
    refine g_iadd_n C dX10_feed_105 ?_
    refine g_put C i_X10 tyX10 tyX10_ok nmX10 0 18 f_120 rfl rfl (by decide) rfl rfl rfl rfl rfl (Nat.le_of_ble_eq_true rfl) dX10_feed_106 (ws' := [gO h 10 (tF ad (upd iv 18 (nI ((((((((((((((((n + 1) + 1) + 1) + 1) + 1) + 1) + 1) + 1) + 1) + 1) + 1) + 1) + 1) + 1) + 1) + 1)))), gA E (ad 17) 600 (upd (upd (upd (upd (upd (upd (upd (upd (upd (upd (upd (upd (upd (upd (upd (upd t n ((a >>> ((nI 24) &&& 31)) &&& (nI 255))) (n + 1) ((a >>> ((nI 16) &&& 31)) &&& (nI 255))) ((n + 1) + 1) ((a >>> ((nI 8) &&& 31)) &&& (nI 255))) (((n + 1) + 1) + 1) ((a >>> ((nI 0) &&& 31)) &&& (nI 255))) ((((n + 1) + 1) + 1) + 1) ((b >>> ((nI 24) &&& 31)) &&& (nI 255))) (((((n + 1) + 1) + 1) + 1) + 1) ((b >>> ((nI 16) &&& 31)) &&& (nI 255))) ((((((n + 1) + 1) + 1) + 1) + 1) + 1) ((b >>> ((nI 8) &&& 31)) &&& (nI 255))) (((((((n + 1) + 1) + 1) + 1) + 1) + 1) + 1) ((b >>> ((nI 0) &&& 31)) &&& (nI 255))) ((((((((n + 1) + 1) + 1) + 1) + 1) + 1) + 1) + 1) ((c >>> ((nI 24) &&& 31)) &&& (nI 255))) (((((((((n + 1) + 1) + 1) + 1) + 1) + 1) + 1) + 1) + 1) ((c >>> ((nI 16) &&& 31)) &&& (nI 255))) ((((((((((n + 1) + 1) + 1) + 1) + 1) + 1) + 1) + 1) + 1) + 1) ((c >>> ((nI 8) &&& 31)) &&& (nI 255))) (((((((((((n + 1) + 1) + 1) + 1) + 1) + 1) + 1) + 1) + 1) + 1) + 1) ((c >>> ((nI 0) &&& 31)) &&& (nI 255))) ((((((((((((n + 1) + 1) + 1) + 1) + 1) + 1) + 1) + 1) + 1) + 1) + 1) + 1) ((d >>> ((nI 24) &&& 31)) &&& (nI 255))) (((((((((((((n + 1) + 1) + 1) + 1) + 1) + 1) + 1) + 1) + 1) + 1) + 1) + 1) + 1) ((d >>> ((nI 16) &&& 31)) &&& (nI 255))) ((((((((((((((n + 1) + 1) + 1) + 1) + 1) + 1) + 1) + 1) + 1) + 1) + 1) + 1) + 1) + 1) ((d >>> ((nI 8) &&& 31)) &&& (nI 255))) (((((((((((((((n + 1) + 1) + 1) + 1) + 1) + 1) + 1) + 1) + 1) + 1) + 1) + 1) + 1) + 1) + 1) ((d >>> ((nI 0) &&& 31)) &&& (nI 255)))]) rfl ?_
    refine g_iinc (v := nI 16) C dX10_feed_109 rfl (by decide) (by decide) rfl (ll' := [some (.ref h), some (.int a), some (.int b), some (.int c), some (.int d), some (.int e), some (.int (nI 16)), some (.int d)]) rfl ?_
    refine g_goto (tgt := 18) C dX10_feed_112 (by decide) ?_
    refine g_iload C dX10_feed_18 rfl ?_
    refine g_bipush (v := nI 20) C dX10_feed_20 (by decide) ?_
    refine g_icmp_ge (tgt := 115) C dX10_feed_22 (by decide) (fun c22 => absurd c22 (by decide)) (fun c22 => ?_)
    refine g_iload C dX10_feed_25 rfl ?_
    refine g_iconst (v := nI 4) C dX10_feed_27 (by decide) ?_
    refine g_icmp_ge (tgt := 35) C dX10_feed_28 (by decide) (fun c28 => ?_) (fun c28 => absurd c28 (by decide))
    refine g_iload C dX10_feed_35 rfl ?_
    refine g_bipush (v := nI 8) C dX10_feed_37 (by decide) ?_
    refine g_icmp_ge (tgt := 46) C dX10_feed_39 (by decide) (fun c39 => ?_) (fun c39 => absurd c39 (by decide))
    refine g_iload C dX10_feed_46 rfl ?_
    refine g_bipush (v := nI 12) C dX10_feed_48 (by decide) ?_
    refine g_icmp_ge (tgt := 57) C dX10_feed_50 (by decide) (fun c50 => ?_) (fun c50 => absurd c50 (by decide))
    refine g_iload C dX10_feed_57 rfl ?_
    refine g_bipush (v := nI 16) C dX10_feed_59 (by decide) ?_
    refine g_icmp_ge (tgt := 69) C dX10_feed_61 (by decide) (fun c61 => ?_) (fun c61 => absurd c61 (by decide))
    refine g_iload C dX10_feed_69 rfl ?_
    refine g_istore C dX10_feed_71 (by decide) rfl (ll' := [some (.ref h), some (.int a), some (.int b), some (.int c), some (.int d), some (.int e), some (.int (nI 16)), some (.int e)]) rfl ?_
    refine g_aload_n C dX10_feed_73 rfl ?_
    refine g_get C i_X10 0 17 f_49 rfl rfl (by decide) rfl rfl dX10_feed_74 ?_
    refine g_aload_n C dX10_feed_77 rfl ?_
    refine g_get C i_X10 0 18 f_120 rfl rfl (by decide) rfl rfl dX10_feed_78 ?_
    refine g_iload C dX10_feed_81 rfl ?_
    refine g_bipush (v := nI 24) C dX10_feed_83 (by decide) ?_
    refine g_bipush (v := nI 8) C dX10_feed_85 (by decide) ?_
    refine g_iload C dX10_feed_87 rfl ?_
    refine g_iconst (v := nI 4) C dX10_feed_89 (by decide) ?_
    refine g_irem C dX10_feed_90 (by decide) (g_top (x' := nI 0) (by decide) ?_)
    refine g_imul C dX10_feed_91 (g_top (x' := nI 0) (by decide) ?_)
    refine g_isub C dX10_feed_92 (g_top (x' := nI 24) (by decide) ?_)
    refine g_ishr C dX10_feed_93 ?_
    refine g_sipush (v := nI 255) C dX10_feed_94 (by decide) ?_
    refine g_iand C dX10_feed_97 ?_
    refine g_iast C 1 ((((((((((((((((n + 1) + 1) + 1) + 1) + 1) + 1) + 1) + 1) + 1) + 1) + 1) + 1) + 1) + 1) + 1) + 1) rfl rfl (by omega) (by decide) dX10_feed_98 (ws' := [gO h 10 (tF ad (upd iv 18 (nI ((((((((((((((((n + 1) + 1) + 1) + 1) + 1) + 1) + 1) + 1) + 1) + 1) + 1) + 1) + 1) + 1) + 1) + 1)))), gA E (ad 17) 600 (upd (upd (upd (upd (upd (upd (upd (upd (upd (upd (upd (upd (upd (upd (upd (upd (upd t n ((a >>> ((nI 24) &&& 31)) &&& (nI 255))) (n + 1) ((a >>> ((nI 16) &&& 31)) &&& (nI 255))) ((n + 1) + 1) ((a >>> ((nI 8) &&& 31)) &&& (nI 255))) (((n + 1) + 1) + 1) ((a >>> ((nI 0) &&& 31)) &&& (nI 255))) ((((n + 1) + 1) + 1) + 1) ((b >>> ((nI 24) &&& 31)) &&& (nI 255))) (((((n + 1) + 1) + 1) + 1) + 1) ((b >>> ((nI 16) &&& 31)) &&& (nI 255))) ((((((n + 1) + 1) + 1) + 1) + 1) + 1) ((b >>> ((nI 8) &&& 31)) &&& (nI 255))) (((((((n + 1) + 1) + 1) + 1) + 1) + 1) + 1) ((b >>> ((nI 0) &&& 31)) &&& (nI 255))) ((((((((n + 1) + 1) + 1) + 1) + 1) + 1) + 1) + 1) ((c >>> ((nI 24) &&& 31)) &&& (nI 255))) (((((((((n + 1) + 1) + 1) + 1) + 1) + 1) + 1) + 1) + 1) ((c >>> ((nI 16) &&& 31)) &&& (nI 255))) ((((((((((n + 1) + 1) + 1) + 1) + 1) + 1) + 1) + 1) + 1) + 1) ((c >>> ((nI 8) &&& 31)) &&& (nI 255))) (((((((((((n + 1) + 1) + 1) + 1) + 1) + 1) + 1) + 1) + 1) + 1) + 1) ((c >>> ((nI 0) &&& 31)) &&& (nI 255))) ((((((((((((n + 1) + 1) + 1) + 1) + 1) + 1) + 1) + 1) + 1) + 1) + 1) + 1) ((d >>> ((nI 24) &&& 31)) &&& (nI 255))) (((((((((((((n + 1) + 1) + 1) + 1) + 1) + 1) + 1) + 1) + 1) + 1) + 1) + 1) + 1) ((d >>> ((nI 16) &&& 31)) &&& (nI 255))) ((((((((((((((n + 1) + 1) + 1) + 1) + 1) + 1) + 1) + 1) + 1) + 1) + 1) + 1) + 1) + 1) ((d >>> ((nI 8) &&& 31)) &&& (nI 255))) (((((((((((((((n + 1) + 1) + 1) + 1) + 1) + 1) + 1) + 1) + 1) + 1) + 1) + 1) + 1) + 1) + 1) ((d >>> ((nI 0) &&& 31)) &&& (nI 255))) ((((((((((((((((n + 1) + 1) + 1) + 1) + 1) + 1) + 1) + 1) + 1) + 1) + 1) + 1) + 1) + 1) + 1) + 1) ((e >>> ((nI 24) &&& 31)) &&& (nI 255)))]) rfl ?_
    refine g_aload_n C dX10_feed_99 rfl ?_
    refine g_dup C dX10_feed_100 rfl ?_
    refine g_get C i_X10 0 18 f_120 rfl rfl (by decide) rfl rfl dX10_feed_101 ?_
    refine g_iconst (v := nI 1) C dX10_feed_104 (by decide) ?_
    refine g_iadd_n C dX10_feed_105 ?_
    refine g_put C i_X10 tyX10 tyX10_ok nmX10 0 18 f_120 rfl rfl (by decide) rfl rfl rfl rfl rfl (Nat.le_of_ble_eq_true rfl) dX10_feed_106 (ws' := [gO h 10 (tF ad (upd iv 18 (nI (((((((((((((((((n + 1) + 1) + 1) + 1) + 1) + 1) + 1) + 1) + 1) + 1) + 1) + 1) + 1) + 1) + 1) + 1) + 1)))), gA E (ad 17) 600 (upd (upd (upd (upd (upd (upd (upd (upd (upd (upd (upd (upd (upd (upd (upd (upd (upd t n ((a >>> ((nI 24) &&& 31)) &&& (nI 255))) (n + 1) ((a >>> ((nI 16) &&& 31)) &&& (nI 255))) ((n + 1) + 1) ((a >>> ((nI 8) &&& 31)) &&& (nI 255))) (((n + 1) + 1) + 1) ((a >>> ((nI 0) &&& 31)) &&& (nI 255))) ((((n + 1) + 1) + 1) + 1) ((b >>> ((nI 24) &&& 31)) &&& (nI 255))) (((((n + 1) + 1) + 1) + 1) + 1) ((b >>> ((nI 16) &&& 31)) &&& (nI 255))) ((((((n + 1) + 1) + 1) + 1) + 1) + 1) ((b >>> ((nI 8) &&& 31)) &&& (nI 255))) (((((((n + 1) + 1) + 1) + 1) + 1) + 1) + 1) ((b >>> ((nI 0) &&& 31)) &&& (nI 255))) ((((((((n + 1) + 1) + 1) + 1) + 1) + 1) + 1) + 1) ((c >>> ((nI 24) &&& 31)) &&& (nI 255))) (((((((((n + 1) + 1) + 1) + 1) + 1) + 1) + 1) + 1) + 1) ((c >>> ((nI 16) &&& 31)) &&& (nI 255))) ((((((((((n + 1) + 1) + 1) + 1) + 1) + 1) + 1) + 1) + 1) + 1) ((c >>> ((nI 8) &&& 31)) &&& (nI 255))) (((((((((((n + 1) + 1) + 1) + 1) + 1) + 1) + 1) + 1) + 1) + 1) + 1) ((c >>> ((nI 0) &&& 31)) &&& (nI 255))) ((((((((((((n + 1) + 1) + 1) + 1) + 1) + 1) + 1) + 1) + 1) + 1) + 1) + 1) ((d >>> ((nI 24) &&& 31)) &&& (nI 255))) (((((((((((((n + 1) + 1) + 1) + 1) + 1) + 1) + 1) + 1) + 1) + 1) + 1) + 1) + 1) ((d >>> ((nI 16) &&& 31)) &&& (nI 255))) ((((((((((((((n + 1) + 1) + 1) + 1) + 1) + 1) + 1) + 1) + 1) + 1) + 1) + 1) + 1) + 1) ((d >>> ((nI 8) &&& 31)) &&& (nI 255))) (((((((((((((((n + 1) + 1) + 1) + 1) + 1) + 1) + 1) + 1) + 1) + 1) + 1) + 1) + 1) + 1) + 1) ((d >>> ((nI 0) &&& 31)) &&& (nI 255))) ((((((((((((((((n + 1) + 1) + 1) + 1) + 1) + 1) + 1) + 1) + 1) + 1) + 1) + 1) + 1) + 1) + 1) + 1) ((e >>> ((nI 24) &&& 31)) &&& (nI 255)))]) rfl ?_
    refine g_iinc (v := nI 17) C dX10_feed_109 rfl (by decide) (by decide) rfl (ll' := [some (.ref h), some (.int a), some (.int b), some (.int c), some (.int d), some (.int e), some (.int (nI 17)), some (.int e)]) rfl ?_
    refine g_goto (tgt := 18) C dX10_feed_112 (by decide) ?_
    refine g_iload C dX10_feed_18 rfl ?_
    refine g_bipush (v := nI 20) C dX10_feed_20 (by decide) ?_
    refine g_icmp_ge (tgt := 115) C dX10_feed_22 (by decide) (fun c22 => absurd c22 (by decide)) (fun c22 => ?_)
    refine g_iload C dX10_feed_25 rfl ?_
    refine g_iconst (v := nI 4) C dX10_feed_27 (by decide) ?_
    refine g_icmp_ge (tgt := 35) C dX10_feed_28 (by decide) (fun c28 => ?_) (fun c28 => absurd c28 (by decide))
    refine g_iload C dX10_feed_35 rfl ?_
    refine g_bipush (v := nI 8) C dX10_feed_37 (by decide) ?_
    refine g_icmp_ge (tgt := 46) C dX10_feed_39 (by decide) (fun c39 => ?_) (fun c39 => absurd c39 (by decide))
    refine g_iload C dX10_feed_46 rfl ?_
    refine g_bipush (v := nI 12) C dX10_feed_48 (by decide) ?_
    refine g_icmp_ge (tgt := 57) C dX10_feed_50 (by decide) (fun c50 => ?_) (fun c50 => absurd c50 (by decide))
    refine g_iload C dX10_feed_57 rfl ?_
    refine g_bipush (v := nI 16) C dX10_feed_59 (by decide) ?_
    refine g_icmp_ge (tgt := 69) C dX10_feed_61 (by decide) (fun c61 => ?_) (fun c61 => absurd c61 (by decide))
    refine g_iload C dX10_feed_69 rfl ?_
    refine g_istore C dX10_feed_71 (by decide) rfl (ll' := [some (.ref h), some (.int a), some (.int b), some (.int c), some (.int d), some (.int e), some (.int (nI 17)), some (.int e)]) rfl ?_
    refine g_aload_n C dX10_feed_73 rfl ?_
    refine g_get C i_X10 0 17 f_49 rfl rfl (by decide) rfl rfl dX10_feed_74 ?_
    refine g_aload_n C dX10_feed_77 rfl ?_
    refine g_get C i_X10 0 18 f_120 rfl rfl (by decide) rfl rfl dX10_feed_78 ?_
    refine g_iload C dX10_feed_81 rfl ?_
    refine g_bipush (v := nI 24) C dX10_feed_83 (by decide) ?_
    refine g_bipush (v := nI 8) C dX10_feed_85 (by decide) ?_
    refine g_iload C dX10_feed_87 rfl ?_
    refine g_iconst (v := nI 4) C dX10_feed_89 (by decide) ?_
    refine g_irem C dX10_feed_90 (by decide) (g_top (x' := nI 1) (by decide) ?_)
    refine g_imul C dX10_feed_91 (g_top (x' := nI 8) (by decide) ?_)
    refine g_isub C dX10_feed_92 (g_top (x' := nI 16) (by decide) ?_)
    refine g_ishr C dX10_feed_93 ?_
    refine g_sipush (v := nI 255) C dX10_feed_94 (by decide) ?_
    refine g_iand C dX10_feed_97 ?_
    refine g_iast C 1 (((((((((((((((((n + 1) + 1) + 1) + 1) + 1) + 1) + 1) + 1) + 1) + 1) + 1) + 1) + 1) + 1) + 1) + 1) + 1) rfl rfl (by omega) (by decide) dX10_feed_98 (ws' := [gO h 10 (tF ad (upd iv 18 (nI (((((((((((((((((n + 1) + 1) + 1) + 1) + 1) + 1) + 1) + 1) + 1) + 1) + 1) + 1) + 1) + 1) + 1) + 1) + 1)))), gA E (ad 17) 600 (upd (upd (upd (upd (upd (upd (upd (upd (upd (upd (upd (upd (upd (upd (upd (upd (upd (upd t n ((a >>> ((nI 24) &&& 31)) &&& (nI 255))) (n + 1) ((a >>> ((nI 16) &&& 31)) &&& (nI 255))) ((n + 1) + 1) ((a >>> ((nI 8) &&& 31)) &&& (nI 255))) (((n + 1) + 1) + 1) ((a >>> ((nI 0) &&& 31)) &&& (nI 255))) ((((n + 1) + 1) + 1) + 1) ((b >>> ((nI 24) &&& 31)) &&& (nI 255))) (((((n + 1) + 1) + 1) + 1) + 1) ((b >>> ((nI 16) &&& 31)) &&& (nI 255))) ((((((n + 1) + 1) + 1) + 1) + 1) + 1) ((b >>> ((nI 8) &&& 31)) &&& (nI 255))) (((((((n + 1) + 1) + 1) + 1) + 1) + 1) + 1) ((b >>> ((nI 0) &&& 31)) &&& (nI 255))) ((((((((n + 1) + 1) + 1) + 1) + 1) + 1) + 1) + 1) ((c >>> ((nI 24) &&& 31)) &&& (nI 255))) (((((((((n + 1) + 1) + 1) + 1) + 1) + 1) + 1) + 1) + 1) ((c >>> ((nI 16) &&& 31)) &&& (nI 255))) ((((((((((n + 1) + 1) + 1) + 1) + 1) + 1) + 1) + 1) + 1) + 1) ((c >>> ((nI 8) &&& 31)) &&& (nI 255))) (((((((((((n + 1) + 1) + 1) + 1) + 1) + 1) + 1) + 1) + 1) + 1) + 1) ((c >>> ((nI 0) &&& 31)) &&& (nI 255))) ((((((((((((n + 1) + 1) + 1) + 1) + 1) + 1) + 1) + 1) + 1) + 1) + 1) + 1) ((d >>> ((nI 24) &&& 31)) &&& (nI 255))) (((((((((((((n + 1) + 1) + 1) + 1) + 1) + 1) + 1) + 1) + 1) + 1) + 1) + 1) + 1) ((d >>> ((nI 16) &&& 31)) &&& (nI 255))) ((((((((((((((n + 1) + 1) + 1) + 1) + 1) + 1) + 1) + 1) + 1) + 1) + 1) + 1) + 1) + 1) ((d >>> ((nI 8) &&& 31)) &&& (nI 255))) (((((((((((((((n + 1) + 1) + 1) + 1) + 1) + 1) + 1) + 1) + 1) + 1) + 1) + 1) + 1) + 1) + 1) ((d >>> ((nI 0) &&& 31)) &&& (nI 255))) ((((((((((((((((n + 1) + 1) + 1) + 1) + 1) + 1) + 1) + 1) + 1) + 1) + 1) + 1) + 1) + 1) + 1) + 1) ((e >>> ((nI 24) &&& 31)) &&& (nI 255))) (((((((((((((((((n + 1) + 1) + 1) + 1) + 1) + 1) + 1) + 1) + 1) + 1) + 1) + 1) + 1) + 1) + 1) + 1) + 1) ((e >>> ((nI 16) &&& 31)) &&& (nI 255)))]) rfl ?_
    refine g_aload_n C dX10_feed_99 rfl ?_
    refine g_dup C dX10_feed_100 rfl ?_
    refine g_get C i_X10 0 18 f_120 rfl rfl (by decide) rfl rfl dX10_feed_101 ?_
    refine g_iconst (v := nI 1) C dX10_feed_104 (by decide) ?_
    refine g_iadd_n C dX10_feed_105 ?_
    refine g_put C i_X10 tyX10 tyX10_ok nmX10 0 18 f_120 rfl rfl (by decide) rfl rfl rfl rfl rfl (Nat.le_of_ble_eq_true rfl) dX10_feed_106 (ws' := [gO h 10 (tF ad (upd iv 18 (nI ((((((((((((((((((n + 1) + 1) + 1) + 1) + 1) + 1) + 1) + 1) + 1) + 1) + 1) + 1) + 1) + 1) + 1) + 1) + 1) + 1)))), gA E (ad 17) 600 (upd (upd (upd (upd (upd (upd (upd (upd (upd (upd (upd (upd (upd (upd (upd (upd (upd (upd t n ((a >>> ((nI 24) &&& 31)) &&& (nI 255))) (n + 1) ((a >>> ((nI 16) &&& 31)) &&& (nI 255))) ((n + 1) + 1) ((a >>> ((nI 8) &&& 31)) &&& (nI 255))) (((n + 1) + 1) + 1) ((a >>> ((nI 0) &&& 31)) &&& (nI 255))) ((((n + 1) + 1) + 1) + 1) ((b >>> ((nI 24) &&& 31)) &&& (nI 255))) (((((n + 1) + 1) + 1) + 1) + 1) ((b >>> ((nI 16) &&& 31)) &&& (nI 255))) ((((((n + 1) + 1) + 1) + 1) + 1) + 1) ((b >>> ((nI 8) &&& 31)) &&& (nI 255))) (((((((n + 1) + 1) + 1) + 1) + 1) + 1) + 1) ((b >>> ((nI 0) &&& 31)) &&& (nI 255))) ((((((((n + 1) + 1) + 1) + 1) + 1) + 1) + 1) + 1) ((c >>> ((nI 24) &&& 31)) &&& (nI 255))) (((((((((n + 1) + 1) + 1) + 1) + 1) + 1) + 1) + 1) + 1) ((c >>> ((nI 16) &&& 31)) &&& (nI 255))) ((((((((((n + 1) + 1) + 1) + 1) + 1) + 1) + 1) + 1) + 1) + 1) ((c >>> ((nI 8) &&& 31)) &&& (nI 255))) (((((((((((n + 1) + 1) + 1) + 1) + 1) + 1) + 1) + 1) + 1) + 1) + 1) ((c >>> ((nI 0) &&& 31)) &&& (nI 255))) ((((((((((((n + 1) + 1) + 1) + 1) + 1) + 1) + 1) + 1) + 1) + 1) + 1) + 1) ((d >>> ((nI 24) &&& 31)) &&& (nI 255))) (((((((((((((n + 1) + 1) + 1) + 1) + 1) + 1) + 1) + 1) + 1) + 1) + 1) + 1) + 1) ((d >>> ((nI 16) &&& 31)) &&& (nI 255))) ((((((((((((((n + 1) + 1) + 1) + 1) + 1) + 1) + 1) + 1) + 1) + 1) + 1) + 1) + 1) + 1) ((d >>> ((nI 8) &&& 31)) &&& (nI 255))) (((((((((((((((n + 1) + 1) + 1) + 1) + 1) + 1) + 1) + 1) + 1) + 1) + 1) + 1) + 1) + 1) + 1) ((d >>> ((nI 0) &&& 31)) &&& (nI 255))) ((((((((((((((((n + 1) + 1) + 1) + 1) + 1) + 1) + 1) + 1) + 1) + 1) + 1) + 1) + 1) + 1) + 1) + 1) ((e >>> ((nI 24) &&& 31)) &&& (nI 255))) (((((((((((((((((n + 1) + 1) + 1) + 1) + 1) + 1) + 1) + 1) + 1) + 1) + 1) + 1) + 1) + 1) + 1) + 1) + 1) ((e >>> ((nI 16) &&& 31)) &&& (nI 255)))]) rfl ?_
    refine g_iinc (v := nI 18) C dX10_feed_109 rfl (by decide) (by decide) rfl (ll' := [some (.ref h), some (.int a), some (.int b), some (.int c), some (.int d), some (.int e), some (.int (nI 18)), some (.int e)]) rfl ?_
    refine g_goto (tgt := 18) C dX10_feed_112 (by decide) ?_
    refine g_iload C dX10_feed_18 rfl ?_
    refine g_bipush (v := nI 20) C dX10_feed_20 (by decide) ?_
    refine g_icmp_ge (tgt := 115) C dX10_feed_22 (by decide) (fun c22 => absurd c22 (by decide)) (fun c22 => ?_)
    refine g_iload C dX10_feed_25 rfl ?_
    refine g_iconst (v := nI 4) C dX10_feed_27 (by decide) ?_
    refine g_icmp_ge (tgt := 35) C dX10_feed_28 (by decide) (fun c28 => ?_) (fun c28 => absurd c28 (by decide))
    refine g_iload C dX10_feed_35 rfl ?_
    refine g_bipush (v := nI 8) C dX10_feed_37 (by decide) ?_
    refine g_icmp_ge (tgt := 46) C dX10_feed_39 (by decide) (fun c39 => ?_) (fun c39 => absurd c39 (by decide))
    refine g_iload C dX10_feed_46 rfl ?_
    refine g_bipush (v := nI 12) C dX10_feed_48 (by decide) ?_
    refine g_icmp_ge (tgt := 57) C dX10_feed_50 (by decide) (fun c50 => ?_) (fun c50 => absurd c50 (by decide))
    refine g_iload C dX10_feed_57 rfl ?_
    refine g_bipush (v := nI 16) C dX10_feed_59 (by decide) ?_
    refine g_icmp_ge (tgt := 69) C dX10_feed_61 (by decide) (fun c61 => ?_) (fun c61 => absurd c61 (by decide))
    refine g_iload C dX10_feed_69 rfl ?_
    refine g_istore C dX10_feed_71 (by decide) rfl (ll' := [some (.ref h), some (.int a), some (.int b), some (.int c), some (.int d), some (.int e), some (.int (nI 18)), some (.int e)]) rfl ?_
    refine g_aload_n C dX10_feed_73 rfl ?_
    refine g_get C i_X10 0 17 f_49 rfl rfl (by decide) rfl rfl dX10_feed_74 ?_
    refine g_aload_n C dX10_feed_77 rfl ?_
    refine g_get C i_X10 0 18 f_120 rfl rfl (by decide) rfl rfl dX10_feed_78 ?_
    refine g_iload C dX10_feed_81 rfl ?_
    refine g_bipush (v := nI 24) C dX10_feed_83 (by decide) ?_
    refine g_bipush (v := nI 8) C dX10_feed_85 (by decide) ?_
    refine g_iload C dX10_feed_87 rfl ?_
    refine g_iconst (v := nI 4) C dX10_feed_89 (by decide) ?_
    refine g_irem C dX10_feed_90 (by decide) (g_top (x' := nI 2) (by decide) ?_)
    refine g_imul C dX10_feed_91 (g_top (x' := nI 16) (by decide) ?_)
    refine g_isub C dX10_feed_92 (g_top (x' := nI 8) (by decide) ?_)
    refine g_ishr C dX10_feed_93 ?_
    refine g_sipush (v := nI 255) C dX10_feed_94 (by decide) ?_
    refine g_iand C dX10_feed_97 ?_
    refine g_iast C 1 ((((((((((((((((((n + 1) + 1) + 1) + 1) + 1) + 1) + 1) + 1) + 1) + 1) + 1) + 1) + 1) + 1) + 1) + 1) + 1) + 1) rfl rfl (by omega) (by decide) dX10_feed_98 (ws' := [gO h 10 (tF ad (upd iv 18 (nI ((((((((((((((((((n + 1) + 1) + 1) + 1) + 1) + 1) + 1) + 1) + 1) + 1) + 1) + 1) + 1) + 1) + 1) + 1) + 1) + 1)))), gA E (ad 17) 600 (upd (upd (upd (upd (upd (upd (upd (upd (upd (upd (upd (upd (upd (upd (upd (upd (upd (upd (upd t n ((a >>> ((nI 24) &&& 31)) &&& (nI 255))) (n + 1) ((a >>> ((nI 16) &&& 31)) &&& (nI 255))) ((n + 1) + 1) ((a >>> ((nI 8) &&& 31)) &&& (nI 255))) (((n + 1) + 1) + 1) ((a >>> ((nI 0) &&& 31)) &&& (nI 255))) ((((n + 1) + 1) + 1) + 1) ((b >>> ((nI 24) &&& 31)) &&& (nI 255))) (((((n + 1) + 1) + 1) + 1) + 1) ((b >>> ((nI 16) &&& 31)) &&& (nI 255))) ((((((n + 1) + 1) + 1) + 1) + 1) + 1) ((b >>> ((nI 8) &&& 31)) &&& (nI 255))) (((((((n + 1) + 1) + 1) + 1) + 1) + 1) + 1) ((b >>> ((nI 0) &&& 31)) &&& (nI 255))) ((((((((n + 1) + 1) + 1) + 1) + 1) + 1) + 1) + 1) ((c >>> ((nI 24) &&& 31)) &&& (nI 255))) (((((((((n + 1) + 1) + 1) + 1) + 1) + 1) + 1) + 1) + 1) ((c >>> ((nI 16) &&& 31)) &&& (nI 255))) ((((((((((n + 1) + 1) + 1) + 1) + 1) + 1) + 1) + 1) + 1) + 1) ((c >>> ((nI 8) &&& 31)) &&& (nI 255))) (((((((((((n + 1) + 1) + 1) + 1) + 1) + 1) + 1) + 1) + 1) + 1) + 1) ((c >>> ((nI 0) &&& 31)) &&& (nI 255))) ((((((((((((n + 1) + 1) + 1) + 1) + 1) + 1) + 1) + 1) + 1) + 1) + 1) + 1) ((d >>> ((nI 24) &&& 31)) &&& (nI 255))) (((((((((((((n + 1) + 1) + 1) + 1) + 1) + 1) + 1) + 1) + 1) + 1) + 1) + 1) + 1) ((d >>> ((nI 16) &&& 31)) &&& (nI 255))) ((((((((((((((n + 1) + 1) + 1) + 1) + 1) + 1) + 1) + 1) + 1) + 1) + 1) + 1) + 1) + 1) ((d >>> ((nI 8) &&& 31)) &&& (nI 255))) (((((((((((((((n + 1) + 1) + 1) + 1) + 1) + 1) + 1) + 1) + 1) + 1) + 1) + 1) + 1) + 1) + 1) ((d >>> ((nI 0) &&& 31)) &&& (nI 255))) ((((((((((((((((n + 1) + 1) + 1) + 1) + 1) + 1) + 1) + 1) + 1) + 1) + 1) + 1) + 1) + 1) + 1) + 1) ((e >>> ((nI 24) &&& 31)) &&& (nI 255))) (((((((((((((((((n + 1) + 1) + 1) + 1) + 1) + 1) + 1) + 1) + 1) + 1) + 1) + 1) + 1) + 1) + 1) + 1) + 1) ((e >>> ((nI 16) &&& 31)) &&& (nI 255))) ((((((((((((((((((n + 1) + 1) + 1) + 1) + 1) + 1) + 1) + 1) + 1) + 1) + 1) + 1) + 1) + 1) + 1) + 1) + 1) + 1) ((e >>> ((nI 8) &&& 31)) &&& (nI 255)))]) rfl ?_
    refine g_aload_n C dX10_feed_99 rfl ?_
    refine g_dup C dX10_feed_100 rfl ?_
    refine g_get C i_X10 0 18 f_120 rfl rfl (by decide) rfl rfl dX10_feed_101 ?_
    refine g_iconst (v := nI 1) C dX10_feed_104 (by decide) ?_
    refine g_iadd_n C dX10_feed_105 ?_
    refine g_put C i_X10 tyX10 tyX10_ok nmX10 0 18 f_120 rfl rfl (by decide) rfl rfl rfl rfl rfl (Nat.le_of_ble_eq_true rfl) dX10_feed_106 (ws' := [gO h 10 (tF ad (upd iv 18 (nI (((((((((((((((((((n + 1) + 1) + 1) + 1) + 1) + 1) + 1) + 1) + 1) + 1) + 1) + 1) + 1) + 1) + 1) + 1) + 1) + 1) + 1)))), gA E (ad 17) 600 (upd (upd (upd (upd (upd (upd (upd (upd (upd (upd (upd (upd (upd (upd (upd (upd (upd (upd (upd t n ((a >>> ((nI 24) &&& 31)) &&& (nI 255))) (n + 1) ((a >>> ((nI 16) &&& 31)) &&& (nI 255))) ((n + 1) + 1) ((a >>> ((nI 8) &&& 31)) &&& (nI 255))) (((n + 1) + 1) + 1) ((a >>> ((nI 0) &&& 31)) &&& (nI 255))) ((((n + 1) + 1) + 1) + 1) ((b >>> ((nI 24) &&& 31)) &&& (nI 255))) (((((n + 1) + 1) + 1) + 1) + 1) ((b >>> ((nI 16) &&& 31)) &&& (nI 255))) ((((((n + 1) + 1) + 1) + 1) + 1) + 1) ((b >>> ((nI 8) &&& 31)) &&& (nI 255))) (((((((n + 1) + 1) + 1) + 1) + 1) + 1) + 1) ((b >>> ((nI 0) &&& 31)) &&& (nI 255))) ((((((((n + 1) + 1) + 1) + 1) + 1) + 1) + 1) + 1) ((c >>> ((nI 24) &&& 31)) &&& (nI 255))) (((((((((n + 1) + 1) + 1) + 1) + 1) + 1) + 1) + 1) + 1) ((c >>> ((nI 16) &&& 31)) &&& (nI 255))) ((((((((((n + 1) + 1) + 1) + 1) + 1) + 1) + 1) + 1) + 1) + 1) ((c >>> ((nI 8) &&& 31)) &&& (nI 255))) (((((((((((n + 1) + 1) + 1) + 1) + 1) + 1) + 1) + 1) + 1) + 1) + 1) ((c >>> ((nI 0) &&& 31)) &&& (nI 255))) ((((((((((((n + 1) + 1) + 1) + 1) + 1) + 1) + 1) + 1) + 1) + 1) + 1) + 1) ((d >>> ((nI 24) &&& 31)) &&& (nI 255))) (((((((((((((n + 1) + 1) + 1) + 1) + 1) + 1) + 1) + 1) + 1) + 1) + 1) + 1) + 1) ((d >>> ((nI 16) &&& 31)) &&& (nI 255))) ((((((((((((((n + 1) + 1) + 1) + 1) + 1) + 1) + 1) + 1) + 1) + 1) + 1) + 1) + 1) + 1) ((d >>> ((nI 8) &&& 31)) &&& (nI 255))) (((((((((((((((n + 1) + 1) + 1) + 1) + 1) + 1) + 1) + 1) + 1) + 1) + 1) + 1) + 1) + 1) + 1) ((d >>> ((nI 0) &&& 31)) &&& (nI 255))) ((((((((((((((((n + 1) + 1) + 1) + 1) + 1) + 1) + 1) + 1) + 1) + 1) + 1) + 1) + 1) + 1) + 1) + 1) ((e >>> ((nI 24) &&& 31)) &&& (nI 255))) (((((((((((((((((n + 1) + 1) + 1) + 1) + 1) + 1) + 1) + 1) + 1) + 1) + 1) + 1) + 1) + 1) + 1) + 1) + 1) ((e >>> ((nI 16) &&& 31)) &&& (nI 255))) ((((((((((((((((((n + 1) + 1) + 1) + 1) + 1) + 1) + 1) + 1) + 1) + 1) + 1) + 1) + 1) + 1) + 1) + 1) + 1) + 1) ((e >>> ((nI 8) &&& 31)) &&& (nI 255)))]) rfl ?_
    refine g_iinc (v := nI 19) C dX10_feed_109 rfl (by decide) (by decide) rfl (ll' := [some (.ref h), some (.int a), some (.int b), some (.int c), some (.int d), some (.int e), some (.int (nI 19)), some (.int e)]) rfl ?_
    refine g_goto (tgt := 18) C dX10_feed_112 (by decide) ?_
    refine g_iload C dX10_feed_18 rfl ?_
    refine g_bipush (v := nI 20) C dX10_feed_20 (by decide) ?_
    refine g_icmp_ge (tgt := 115) C dX10_feed_22 (by decide) (fun c22 => absurd c22 (by decide)) (fun c22 => ?_)
    refine g_iload C dX10_feed_25 rfl ?_
    refine g_iconst (v := nI 4) C dX10_feed_27 (by decide) ?_
    refine g_icmp_ge (tgt := 35) C dX10_feed_28 (by decide) (fun c28 => ?_) (fun c28 => absurd c28 (by decide))
    refine g_iload C dX10_feed_35 rfl ?_
    refine g_bipush (v := nI 8) C dX10_feed_37 (by decide) ?_
    refine g_icmp_ge (tgt := 46) C dX10_feed_39 (by decide) (fun c39 => ?_) (fun c39 => absurd c39 (by decide))
    refine g_iload C dX10_feed_46 rfl ?_
    refine g_bipush (v := nI 12) C dX10_feed_48 (by decide) ?_
    refine g_icmp_ge (tgt := 57) C dX10_feed_50 (by decide) (fun c50 => ?_) (fun c50 => absurd c50 (by decide))
    refine g_iload C dX10_feed_57 rfl ?_
    refine g_bipush (v := nI 16) C dX10_feed_59 (by decide) ?_
    refine g_icmp_ge (tgt := 69) C dX10_feed_61 (by decide) (fun c61 => ?_) (fun c61 => absurd c61 (by decide))
    refine g_iload C dX10_feed_69 rfl ?_
    refine g_istore C dX10_feed_71 (by decide) rfl (ll' := [some (.ref h), some (.int a), some (.int b), some (.int c), some (.int d), some (.int e), some (.int (nI 19)), some (.int e)]) rfl ?_
    refine g_aload_n C dX10_feed_73 rfl ?_
    refine g_get C i_X10 0 17 f_49 rfl rfl (by decide) rfl rfl dX10_feed_74 ?_
    refine g_aload_n C dX10_feed_77 rfl ?_
    refine g_get C i_X10 0 18 f_120 rfl rfl (by decide) rfl rfl dX10_feed_78 ?_
    refine g_iload C dX10_feed_81 rfl ?_
    refine g_bipush (v := nI 24) C dX10_feed_83 (by decide) ?_
    refine g_bipush (v := nI 8) C dX10_feed_85 (by decide) ?_
    refine g_iload C dX10_feed_87 rfl ?_
    refine g_iconst (v := nI 4) C dX10_feed_89 (by decide) ?_
    refine g_irem C dX10_feed_90 (by decide) (g_top (x' := nI 3) (by decide) ?_)
    refine g_imul C dX10_feed_91 (g_top (x' := nI 24) (by decide) ?_)
    refine g_isub C dX10_feed_92 (g_top (x' := nI 0) (by decide) ?_)
    refine g_ishr C dX10_feed_93 ?_
    refine g_sipush (v := nI 255) C dX10_feed_94 (by decide) ?_
    refine g_iand C dX10_feed_97 ?_
    refine g_iast C 1 (((((((((((((((((((n + 1) + 1) + 1) + 1) + 1) + 1) + 1) + 1) + 1) + 1) + 1) + 1) + 1) + 1) + 1) + 1) + 1) + 1) + 1) rfl rfl (by omega) (by decide) dX10_feed_98 (ws' := [gO h 10 (tF ad (upd iv 18 (nI (((((((((((((((((((n + 1) + 1) + 1) + 1) + 1) + 1) + 1) + 1) + 1) + 1) + 1) + 1) + 1) + 1) + 1) + 1) + 1) + 1) + 1)))), gA E (ad 17) 600 (upd (upd (upd (upd (upd (upd (upd (upd (upd (upd (upd (upd (upd (upd (upd (upd (upd (upd (upd (upd t n ((a >>> ((nI 24) &&& 31)) &&& (nI 255))) (n + 1) ((a >>> ((nI 16) &&& 31)) &&& (nI 255))) ((n + 1) + 1) ((a >>> ((nI 8) &&& 31)) &&& (nI 255))) (((n + 1) + 1) + 1) ((a >>> ((nI 0) &&& 31)) &&& (nI 255))) ((((n + 1) + 1) + 1) + 1) ((b >>> ((nI 24) &&& 31)) &&& (nI 255))) (((((n + 1) + 1) + 1) + 1) + 1) ((b >>> ((nI 16) &&& 31)) &&& (nI 255))) ((((((n + 1) + 1) + 1) + 1) + 1) + 1) ((b >>> ((nI 8) &&& 31)) &&& (nI 255))) (((((((n + 1) + 1) + 1) + 1) + 1) + 1) + 1) ((b >>> ((nI 0) &&& 31)) &&& (nI 255))) ((((((((n + 1) + 1) + 1) + 1) + 1) + 1) + 1) + 1) ((c >>> ((nI 24) &&& 31)) &&& (nI 255))) (((((((((n + 1) + 1) + 1) + 1) + 1) + 1) + 1) + 1) + 1) ((c >>> ((nI 16) &&& 31)) &&& (nI 255))) ((((((((((n + 1) + 1) + 1) + 1) + 1) + 1) + 1) + 1) + 1) + 1) ((c >>> ((nI 8) &&& 31)) &&& (nI 255))) (((((((((((n + 1) + 1) + 1) + 1) + 1) + 1) + 1) + 1) + 1) + 1) + 1) ((c >>> ((nI 0) &&& 31)) &&& (nI 255))) ((((((((((((n + 1) + 1) + 1) + 1) + 1) + 1) + 1) + 1) + 1) + 1) + 1) + 1) ((d >>> ((nI 24) &&& 31)) &&& (nI 255))) (((((((((((((n + 1) + 1) + 1) + 1) + 1) + 1) + 1) + 1) + 1) + 1) + 1) + 1) + 1) ((d >>> ((nI 16) &&& 31)) &&& (nI 255))) ((((((((((((((n + 1) + 1) + 1) + 1) + 1) + 1) + 1) + 1) + 1) + 1) + 1) + 1) + 1) + 1) ((d >>> ((nI 8) &&& 31)) &&& (nI 255))) (((((((((((((((n + 1) + 1) + 1) + 1) + 1) + 1) + 1) + 1) + 1) + 1) + 1) + 1) + 1) + 1) + 1) ((d >>> ((nI 0) &&& 31)) &&& (nI 255))) ((((((((((((((((n + 1) + 1) + 1) + 1) + 1) + 1) + 1) + 1) + 1) + 1) + 1) + 1) + 1) + 1) + 1) + 1) ((e >>> ((nI 24) &&& 31)) &&& (nI 255))) (((((((((((((((((n + 1) + 1) + 1) + 1) + 1) + 1) + 1) + 1) + 1) + 1) + 1) + 1) + 1) + 1) + 1) + 1) + 1) ((e >>> ((nI 16) &&& 31)) &&& (nI 255))) ((((((((((((((((((n + 1) + 1) + 1) + 1) + 1) + 1) + 1) + 1) + 1) + 1) + 1) + 1) + 1) + 1) + 1) + 1) + 1) + 1) ((e >>> ((nI 8) &&& 31)) &&& (nI 255))) (((((((((((((((((((n + 1) + 1) + 1) + 1) + 1) + 1) + 1) + 1) + 1) + 1) + 1) + 1) + 1) + 1) + 1) + 1) + 1) + 1) + 1) ((e >>> ((nI 0) &&& 31)) &&& (nI 255)))]) rfl ?_
    refine g_aload_n C dX10_feed_99 rfl ?_
    refine g_dup C dX10_feed_100 rfl ?_
    refine g_get C i_X10 0 18 f_120 rfl rfl (by decide) rfl rfl dX10_feed_101 ?_
    refine g_iconst (v := nI 1) C dX10_feed_104 (by decide) ?_
    refine g_iadd_n C dX10_feed_105 ?_
    refine g_put C i_X10 tyX10 tyX10_ok nmX10 0 18 f_120 rfl rfl (by decide) rfl rfl rfl rfl rfl (Nat.le_of_ble_eq_true rfl) dX10_feed_106 (ws' := [gO h 10 (tF ad (upd iv 18 (nI ((((((((((((((((((((n + 1) + 1) + 1) + 1) + 1) + 1) + 1) + 1) + 1) + 1) + 1) + 1) + 1) + 1) + 1) + 1) + 1) + 1) + 1) + 1)))), gA E (ad 17) 600 (upd (upd (upd (upd (upd (upd (upd (upd (upd (upd (upd (upd (upd (upd (upd (upd (upd (upd (upd (upd t n ((a >>> ((nI 24) &&& 31)) &&& (nI 255))) (n + 1) ((a >>> ((nI 16) &&& 31)) &&& (nI 255))) ((n + 1) + 1) ((a >>> ((nI 8) &&& 31)) &&& (nI 255))) (((n + 1) + 1) + 1) ((a >>> ((nI 0) &&& 31)) &&& (nI 255))) ((((n + 1) + 1) + 1) + 1) ((b >>> ((nI 24) &&& 31)) &&& (nI 255))) (((((n + 1) + 1) + 1) + 1) + 1) ((b >>> ((nI 16) &&& 31)) &&& (nI 255))) ((((((n + 1) + 1) + 1) + 1) + 1) + 1) ((b >>> ((nI 8) &&& 31)) &&& (nI 255))) (((((((n + 1) + 1) + 1) + 1) + 1) + 1) + 1) ((b >>> ((nI 0) &&& 31)) &&& (nI 255))) ((((((((n + 1) + 1) + 1) + 1) + 1) + 1) + 1) + 1) ((c >>> ((nI 24) &&& 31)) &&& (nI 255))) (((((((((n + 1) + 1) + 1) + 1) + 1) + 1) + 1) + 1) + 1) ((c >>> ((nI 16) &&& 31)) &&& (nI 255))) ((((((((((n + 1) + 1) + 1) + 1) + 1) + 1) + 1) + 1) + 1) + 1) ((c >>> ((nI 8) &&& 31)) &&& (nI 255))) (((((((((((n + 1) + 1) + 1) + 1) + 1) + 1) + 1) + 1) + 1) + 1) + 1) ((c >>> ((nI 0) &&& 31)) &&& (nI 255))) ((((((((((((n + 1) + 1) + 1) + 1) + 1) + 1) + 1) + 1) + 1) + 1) + 1) + 1) ((d >>> ((nI 24) &&& 31)) &&& (nI 255))) (((((((((((((n + 1) + 1) + 1) + 1) + 1) + 1) + 1) + 1) + 1) + 1) + 1) + 1) + 1) ((d >>> ((nI 16) &&& 31)) &&& (nI 255))) ((((((((((((((n + 1) + 1) + 1) + 1) + 1) + 1) + 1) + 1) + 1) + 1) + 1) + 1) + 1) + 1) ((d >>> ((nI 8) &&& 31)) &&& (nI 255))) (((((((((((((((n + 1) + 1) + 1) + 1) + 1) + 1) + 1) + 1) + 1) + 1) + 1) + 1) + 1) + 1) + 1) ((d >>> ((nI 0) &&& 31)) &&& (nI 255))) ((((((((((((((((n + 1) + 1) + 1) + 1) + 1) + 1) + 1) + 1) + 1) + 1) + 1) + 1) + 1) + 1) + 1) + 1) ((e >>> ((nI 24) &&& 31)) &&& (nI 255))) (((((((((((((((((n + 1) + 1) + 1) + 1) + 1) + 1) + 1) + 1) + 1) + 1) + 1) + 1) + 1) + 1) + 1) + 1) + 1) ((e >>> ((nI 16) &&& 31)) &&& (nI 255))) ((((((((((((((((((n + 1) + 1) + 1) + 1) + 1) + 1) + 1) + 1) + 1) + 1) + 1) + 1) + 1) + 1) + 1) + 1) + 1) + 1) ((e >>> ((nI 8) &&& 31)) &&& (nI 255))) (((((((((((((((((((n + 1) + 1) + 1) + 1) + 1) + 1) + 1) + 1) + 1) + 1) + 1) + 1) + 1) + 1) + 1) + 1) + 1) + 1) + 1) ((e >>> ((nI 0) &&& 31)) &&& (nI 255)))]) rfl ?_
    refine g_iinc (v := nI 20) C dX10_feed_109 rfl (by decide) (by decide) rfl (ll' := [some (.ref h), some (.int a), some (.int b), some (.int c), some (.int d), some (.int e), some (.int (nI 20)), some (.int e)]) rfl ?_
    refine g_goto (tgt := 18) C dX10_feed_112 (by decide) ?_
    refine g_iload C dX10_feed_18 rfl ?_
    refine g_bipush (v := nI 20) C dX10_feed_20 (by decide) ?_
    refine g_icmp_ge (tgt := 115) C dX10_feed_22 (by decide) (fun c22 => ?_) (fun c22 => absurd c22 (by decide))
    refine g_aload_n C dX10_feed_115 rfl ?_
    refine g_get C i_X10 0 18 f_120 rfl rfl (by decide) rfl rfl dX10_feed_116 ?_
    exact g_iret C Rt dX10_feed_119 (by decide) (by decide) (⟨rfl, rfl⟩)
  · exact absurd hn (by omega)

abbrev rm_c_X10_feed_bad : Room := { frames := 0, cells := 0, slots := 0, locals := 0 }
set_option maxHeartbeats 4000000 in
set_option maxRecDepth 100000 in
theorem c_X10_feed_bad (E : gE) (h : Nat) (ad : Nat → Nat) (iv : Nat → Int32) (n : Nat) (t : Nat → Int32) (a b c d e : Int32) (hn : 580 < n) (hn2 : n ≤ 600) : MM E yX10_feed wsX10_feed rm_c_X10_feed_bad [.ref h, .int a, .int b, .int c, .int d, .int e] [gO h 10 (tF ad (upd iv 18 (nI n))), gA E (ad 17) 600 t] (fun rv_ ru_ => rv_ = some (.int (-1)) ∧ ru_ = [gO h 10 (tF ad (upd iv 18 (nI n))), gA E (ad 17) 600 t]) := by
  refine MM.ofG (cc := cX10_feed) (maxL := 8) (ret := (some .int)) (by decide) rfl (Nat.le_of_ble_eq_true rfl) (ll := [some (.ref h), some (.int a), some (.int b), some (.int c), some (.int d), some (.int e), none, none]) rfl ?_
  intro X C Rt
  have C : gx E X cX10_feed 8 wsX10_feed RX10 := C
  have i_X10 : ∀ w ∈ u_ws RX10 TX10 40, w ∈ wsX10_feed := by decide +kernel
  have f_120 : Cond.fieldLink RX10 120 "MarkPagesModel" "taped" "I" ∈ wsX10_feed := by decide +kernel
  refine g_aload_n C dX10_feed_0 rfl ?_
  refine g_get C i_X10 0 18 f_120 rfl rfl (by decide) rfl rfl dX10_feed_1 ?_
  refine g_bipush (v := nI 20) C dX10_feed_4 (by decide) ?_
  refine g_iadd_n C dX10_feed_6 ?_
  refine g_sipush (v := nI 600) C dX10_feed_7 (by decide) ?_
  refine g_icmp_le_n (tgt := 15) C dX10_feed_10 (by decide) (by omega) (by omega) (fun c10 => ?_) (fun c10 => ?_)
  · exact absurd hn (by omega)
  · refine g_iconst (v := -1) C dX10_feed_13 (by decide) ?_
    exact g_iret C Rt dX10_feed_14 (by decide) (by decide) (⟨rfl, rfl⟩)

abbrev rm_c_X9_end_ok : Room := { frames := 0, cells := 0, slots := 0, locals := 0 }
set_option maxHeartbeats 4000000 in
set_option maxRecDepth 100000 in
theorem c_X9_end_ok (E : gE) (m f0 f1 f2 f3 f4 f5 f6 f7 f8 f9 f10 : Nat) (tb n : Nat) (t : Nat → Int32) (k : Nat) (hk : k ≤ n) (hn : n ≤ 600) : MM E yX9_end wsX9_end rm_c_X9_end_ok [.ref m, .int (nI k)] [gO m 9 [.ref f0, .ref f1, .ref f2, .ref f3, .ref f4, .ref f5, .ref f6, .ref f7, .ref f8, .ref f9, .ref f10], gO f1 6 [.ref tb, .int (nI n)], gA E tb 600 t] (fun rv_ ru_ => rv_ = some (.int (nI 1)) ∧ ru_ = [gO m 9 [.ref f0, .ref f1, .ref f2, .ref f3, .ref f4, .ref f5, .ref f6, .ref f7, .ref f8, .ref f9, .ref f10], gO f1 6 [.ref tb, .int (nI k)], gA E tb 600 t]) := by
  refine MM.ofG (cc := cX9_end) (maxL := 2) (ret := (some .boolean)) (by decide) rfl (Nat.le_of_ble_eq_true rfl) (ll := [some (.ref m), some (.int (nI k))]) rfl ?_
  intro X C Rt
  have C : gx E X cX9_end 2 wsX9_end RX9 := C
  have i_X6 : ∀ w ∈ u_ws RX6 TX6 2, w ∈ wsX9_end := by decide +kernel
  have i_X9 : ∀ w ∈ u_ws RX9 TX9 11, w ∈ wsX9_end := by decide +kernel
  have f_113 : Cond.fieldLink RX9 113 "MarkPages$Tape" "count" "I" ∈ wsX9_end := by decide +kernel
  have f_19 : Cond.fieldLink RX9 19 "MarkPages" "tape" "LMarkPages$Tape;" ∈ wsX9_end := by decide +kernel
  refine g_iload_n C dX9_end_0 rfl ?_
  refine g_if_lt_n (tgt := 15) C dX9_end_1 (by decide) (by omega) ?_
  refine g_iload_n C dX9_end_4 rfl ?_
  refine g_aload_n C dX9_end_5 rfl ?_
  refine g_get C i_X9 0 1 f_19 rfl rfl (by decide) rfl rfl dX9_end_6 ?_
  refine g_get C i_X6 1 1 f_113 rfl rfl (by decide) rfl rfl dX9_end_9 ?_
  refine g_icmp_le_n (tgt := 17) C dX9_end_12 (by decide) (by omega) (by omega) (fun c12 => ?_) (fun c12 => ?_)
  · refine g_aload_n C dX9_end_17 rfl ?_
    refine g_get C i_X9 0 1 f_19 rfl rfl (by decide) rfl rfl dX9_end_18 ?_
    refine g_iload_n C dX9_end_21 rfl ?_
    refine g_put C i_X6 tyX6 tyX6_ok nmX6 1 1 f_113 rfl rfl (by decide) rfl rfl rfl rfl rfl (Nat.le_of_ble_eq_true rfl) dX9_end_22 (ws' := [gO m 9 [.ref f0, .ref f1, .ref f2, .ref f3, .ref f4, .ref f5, .ref f6, .ref f7, .ref f8, .ref f9, .ref f10], gO f1 6 [.ref tb, .int (nI k)], gA E tb 600 t]) rfl ?_
    refine g_iconst (v := nI 1) C dX9_end_25 (by decide) ?_
    exact g_zret C Rt dX9_end_26 (by decide) (by decide) (by decide) (⟨rfl, rfl⟩)
  · exact absurd hk (by omega)

abbrev rm_c_X9_end_bad : Room := { frames := 0, cells := 0, slots := 0, locals := 0 }
set_option maxHeartbeats 4000000 in
set_option maxRecDepth 100000 in
theorem c_X9_end_bad (E : gE) (m f0 f1 f2 f3 f4 f5 f6 f7 f8 f9 f10 : Nat) (tb n : Nat) (t : Nat → Int32) (k : Int32) (hb : k < 0 ∨ nI n < k) : MM E yX9_end wsX9_end rm_c_X9_end_bad [.ref m, .int k] [gO m 9 [.ref f0, .ref f1, .ref f2, .ref f3, .ref f4, .ref f5, .ref f6, .ref f7, .ref f8, .ref f9, .ref f10], gO f1 6 [.ref tb, .int (nI n)], gA E tb 600 t] (fun rv_ ru_ => rv_ = some (.int (nI 0)) ∧ ru_ = [gO m 9 [.ref f0, .ref f1, .ref f2, .ref f3, .ref f4, .ref f5, .ref f6, .ref f7, .ref f8, .ref f9, .ref f10], gO f1 6 [.ref tb, .int (nI n)], gA E tb 600 t]) := by
  refine MM.ofG (cc := cX9_end) (maxL := 2) (ret := (some .boolean)) (by decide) rfl (Nat.le_of_ble_eq_true rfl) (ll := [some (.ref m), some (.int k)]) rfl ?_
  intro X C Rt
  have C : gx E X cX9_end 2 wsX9_end RX9 := C
  have i_X6 : ∀ w ∈ u_ws RX6 TX6 2, w ∈ wsX9_end := by decide +kernel
  have i_X9 : ∀ w ∈ u_ws RX9 TX9 11, w ∈ wsX9_end := by decide +kernel
  have f_113 : Cond.fieldLink RX9 113 "MarkPages$Tape" "count" "I" ∈ wsX9_end := by decide +kernel
  have f_19 : Cond.fieldLink RX9 19 "MarkPages" "tape" "LMarkPages$Tape;" ∈ wsX9_end := by decide +kernel
  refine g_iload_n C dX9_end_0 rfl ?_
  refine g_if_lt (tgt := 15) C dX9_end_1 (by decide) (fun c1 => ?_) (fun c1 => ?_)
  · refine g_iconst (v := nI 0) C dX9_end_15 (by decide) ?_
    exact g_zret C Rt dX9_end_16 (by decide) (by decide) (by decide) (⟨rfl, rfl⟩)
  · refine g_iload_n C dX9_end_4 rfl ?_
    refine g_aload_n C dX9_end_5 rfl ?_
    refine g_get C i_X9 0 1 f_19 rfl rfl (by decide) rfl rfl dX9_end_6 ?_
    refine g_get C i_X6 1 1 f_113 rfl rfl (by decide) rfl rfl dX9_end_9 ?_
    refine g_icmp_le (tgt := 17) C dX9_end_12 (by decide) (fun c12 => ?_) (fun c12 => ?_)
    · exact hb.elim (fun z => absurd z c1) (fun z => absurd c12 (Int32.not_le.mpr z))
    · refine g_iconst (v := nI 0) C dX9_end_15 (by decide) ?_
      exact g_zret C Rt dX9_end_16 (by decide) (by decide) (by decide) (⟨rfl, rfl⟩)

abbrev rm_c_X10_end_ok : Room := { frames := 1, cells := 0, slots := 0, locals := 22 }
set_option maxHeartbeats 4000000 in
set_option maxRecDepth 100000 in
theorem c_X10_end_ok (E : gE) (h : Nat) (ad : Nat → Nat) (iv : Nat → Int32) (n k : Nat) (hk : k ≤ n) (hn : n ≤ 600) : MM E yX10_end wsX10_end rm_c_X10_end_ok [.ref h, .int (nI k)] [gO h 10 (tF ad (upd iv 18 (nI n)))] (fun rv_ ru_ => rv_ = some (.int (nI 1)) ∧ ru_ = [gO h 10 (tF ad (upd iv 18 (nI k)))]) := by
  refine MM.ofG (cc := cX10_end) (maxL := 2) (ret := (some .boolean)) (by decide) rfl (Nat.le_of_ble_eq_true rfl) (ll := [some (.ref h), some (.int (nI k))]) rfl ?_
  intro X C Rt
  have C : gx E X cX10_end 2 wsX10_end RX10 := C
  have i_X10 : ∀ w ∈ u_ws RX10 TX10 40, w ∈ wsX10_end := by decide +kernel
  have f_120 : Cond.fieldLink RX10 120 "MarkPagesModel" "taped" "I" ∈ wsX10_end := by decide +kernel
  refine g_iload_n C dX10_end_0 rfl ?_
  refine g_iconst (v := nI 0) C dX10_end_1 (by decide) ?_
  refine g_aload_n C dX10_end_2 rfl ?_
  refine g_get C i_X10 0 18 f_120 rfl rfl (by decide) rfl rfl dX10_end_3 ?_
  refine g_callS C (c_X10_isIn_y E (nI k) (nI 0) (nI n) (nI_nlt (Nat.zero_le k) (by omega)) (nI_nlt hk (by omega))) gX10_end_X10_isIn rfl 3 (by decide +kernel) ⟨by decide, by decide⟩ ⟨by decide, by decide⟩ [] [0] (wr := [gO h 10 (tF ad (upd iv 18 (nI n)))]) rfl (by decide) rfl (by decide) (by decide) rfl rfl (Nat.le_of_ble_eq_true rfl) dX10_end_6 ?_
  rintro _ _ ⟨rfl, rfl⟩
  show gg E _ 2 X 0 0 9 [some (.ref h), some (.int (nI k))] [.int (nI 1)] [gO h 10 (tF ad (upd iv 18 (nI n)))]
  refine g_if_ne (tgt := 14) C dX10_end_9 (by decide) (fun c9 => ?_) (fun c9 => absurd c9 (by decide))
  refine g_aload_n C dX10_end_14 rfl ?_
  refine g_iload_n C dX10_end_15 rfl ?_
  refine g_put C i_X10 tyX10 tyX10_ok nmX10 0 18 f_120 rfl rfl (by decide) rfl rfl rfl rfl rfl (Nat.le_of_ble_eq_true rfl) dX10_end_16 (ws' := [gO h 10 (tF ad (upd iv 18 (nI k)))]) rfl ?_
  refine g_iconst (v := nI 1) C dX10_end_19 (by decide) ?_
  exact g_zret C Rt dX10_end_20 (by decide) (by decide) (by decide) (⟨rfl, rfl⟩)

abbrev rm_c_X10_end_bad : Room := { frames := 1, cells := 0, slots := 0, locals := 22 }
set_option maxHeartbeats 4000000 in
set_option maxRecDepth 100000 in
theorem c_X10_end_bad (E : gE) (h : Nat) (ad : Nat → Nat) (iv : Nat → Int32) (n : Nat) (k : Int32) (hb : k < 0 ∨ nI n < k) : MM E yX10_end wsX10_end rm_c_X10_end_bad [.ref h, .int k] [gO h 10 (tF ad (upd iv 18 (nI n)))] (fun rv_ ru_ => rv_ = some (.int (nI 0)) ∧ ru_ = [gO h 10 (tF ad (upd iv 18 (nI n)))]) := by
  refine MM.ofG (cc := cX10_end) (maxL := 2) (ret := (some .boolean)) (by decide) rfl (Nat.le_of_ble_eq_true rfl) (ll := [some (.ref h), some (.int k)]) rfl ?_
  intro X C Rt
  have C : gx E X cX10_end 2 wsX10_end RX10 := C
  have i_X10 : ∀ w ∈ u_ws RX10 TX10 40, w ∈ wsX10_end := by decide +kernel
  have f_120 : Cond.fieldLink RX10 120 "MarkPagesModel" "taped" "I" ∈ wsX10_end := by decide +kernel
  refine g_iload_n C dX10_end_0 rfl ?_
  refine g_iconst (v := nI 0) C dX10_end_1 (by decide) ?_
  refine g_aload_n C dX10_end_2 rfl ?_
  refine g_get C i_X10 0 18 f_120 rfl rfl (by decide) rfl rfl dX10_end_3 ?_
  refine g_callS C (c_X10_isIn E k (nI 0) (nI n) ) gX10_end_X10_isIn rfl 3 (by decide +kernel) ⟨by decide, by decide⟩ ⟨by decide, by decide⟩ [] [0] (wr := [gO h 10 (tF ad (upd iv 18 (nI n)))]) rfl (by decide) rfl (by decide) (by decide) rfl rfl (Nat.le_of_ble_eq_true rfl) dX10_end_6 ?_
  rintro _ _ ⟨rfl, rfl⟩
  show gg E _ 2 X 0 0 9 [some (.ref h), some (.int k)] [.int (b2i (decide (¬ k < (nI 0) ∧ ¬ (nI n) < k)))] [gO h 10 (tF ad (upd iv 18 (nI n)))]
  refine g_if_ne (tgt := 14) C dX10_end_9 (by decide) (fun c9 => ?_) (fun c9 => ?_)
  · exact (have z := of_decide_eq_true (b2i_t.mp c9); hb.elim (fun y => absurd y z.1) (fun y => absurd y z.2))
  · refine g_iconst (v := nI 0) C dX10_end_12 (by decide) ?_
    exact g_zret C Rt dX10_end_13 (by decide) (by decide) (by decide) (⟨rfl, rfl⟩)

abbrev rm_c_X9_fault : Room := { frames := 0, cells := 0, slots := 0, locals := 0 }
set_option maxHeartbeats 4000000 in
set_option maxRecDepth 100000 in
theorem c_X9_fault (E : gE) (m f0 f1 f2 f3 f4 f5 f6 f7 f8 f9 f10 : Nat) (tk_ dr : Nat) (ra rn fk fp : Int32) (what : Int32)  : MM E yX9_fault wsX9_fault rm_c_X9_fault [.ref m, .int what] [gO m 9 [.ref f0, .ref f1, .ref f2, .ref f3, .ref f4, .ref f5, .ref f6, .ref f7, .ref f8, .ref f9, .ref f10], gO f2 5 [.ref tk_, .ref dr, .int ra, .int rn, .int fk, .int fp]] (fun rv_ ru_ => rv_ = some (.int (if what = 0 then fk else if what = nI 1 then fp else -1)) ∧ ru_ = [gO m 9 [.ref f0, .ref f1, .ref f2, .ref f3, .ref f4, .ref f5, .ref f6, .ref f7, .ref f8, .ref f9, .ref f10], gO f2 5 [.ref tk_, .ref dr, .int ra, .int rn, .int fk, .int fp]]) := by
  refine MM.ofG (cc := cX9_fault) (maxL := 2) (ret := (some .int)) (by decide) rfl (Nat.le_of_ble_eq_true rfl) (ll := [some (.ref m), some (.int what)]) rfl ?_
  intro X C Rt
  have C : gx E X cX9_fault 2 wsX9_fault RX9 := C
  have i_X5 : ∀ w ∈ u_ws RX5 TX5 6, w ∈ wsX9_fault := by decide +kernel
  have i_X9 : ∀ w ∈ u_ws RX9 TX9 11, w ∈ wsX9_fault := by decide +kernel
  have f_136 : Cond.fieldLink RX9 136 "MarkPages$RuleReader" "faultKind" "I" ∈ wsX9_fault := by decide +kernel
  have f_139 : Cond.fieldLink RX9 139 "MarkPages$RuleReader" "faultPlace" "I" ∈ wsX9_fault := by decide +kernel
  have f_26 : Cond.fieldLink RX9 26 "MarkPages" "reader" "LMarkPages$RuleReader;" ∈ wsX9_fault := by decide +kernel
  refine g_iload_n C dX9_fault_0 rfl ?_
  refine g_if_ne (tgt := 12) C dX9_fault_1 (by decide) (fun c1 => ?_) (fun c1 => ?_)
  · refine g_iload_n C dX9_fault_12 rfl ?_
    refine g_iconst (v := nI 1) C dX9_fault_13 (by decide) ?_
    refine g_icmp_ne (tgt := 27) C dX9_fault_14 (by decide) (fun c14 => ?_) (fun c14 => ?_)
    · refine g_iconst (v := -1) C dX9_fault_27 (by decide) ?_
      exact g_iret C Rt dX9_fault_28 (by decide) (by decide) (⟨by rw [if_neg c1, if_neg c14], rfl⟩)
    · refine g_aload_n C dX9_fault_17 rfl ?_
      refine g_get C i_X9 0 2 f_26 rfl rfl (by decide) rfl rfl dX9_fault_18 ?_
      refine g_get C i_X5 1 5 f_139 rfl rfl (by decide) rfl rfl dX9_fault_21 ?_
      refine g_goto (tgt := 28) C dX9_fault_24 (by decide) ?_
      exact g_iret C Rt dX9_fault_28 (by decide) (by decide) (⟨by rw [if_neg c1, if_pos c14], rfl⟩)
  · refine g_aload_n C dX9_fault_4 rfl ?_
    refine g_get C i_X9 0 2 f_26 rfl rfl (by decide) rfl rfl dX9_fault_5 ?_
    refine g_get C i_X5 1 4 f_136 rfl rfl (by decide) rfl rfl dX9_fault_8 ?_
    exact g_iret C Rt dX9_fault_11 (by decide) (by decide) (⟨by rw [if_pos c1], rfl⟩)

abbrev rm_c_X10_fault : Room := { frames := 0, cells := 0, slots := 0, locals := 0 }
set_option maxHeartbeats 4000000 in
set_option maxRecDepth 100000 in
theorem c_X10_fault (E : gE) (h : Nat) (ad : Nat → Nat) (iv : Nat → Int32) (what : Int32)  : MM E yX10_fault wsX10_fault rm_c_X10_fault [.ref h, .int what] [gO h 10 (tF ad iv)] (fun rv_ ru_ => rv_ = some (.int (if what = 0 then iv 25 else if what = nI 1 then iv 28 else -1)) ∧ ru_ = [gO h 10 (tF ad iv)]) := by
  refine MM.ofG (cc := cX10_fault) (maxL := 2) (ret := (some .int)) (by decide) rfl (Nat.le_of_ble_eq_true rfl) (ll := [some (.ref h), some (.int what)]) rfl ?_
  intro X C Rt
  have C : gx E X cX10_fault 2 wsX10_fault RX10 := C
  have i_X10 : ∀ w ∈ u_ws RX10 TX10 40, w ∈ wsX10_fault := by decide +kernel
  have f_226 : Cond.fieldLink RX10 226 "MarkPagesModel" "faultKind" "I" ∈ wsX10_fault := by decide +kernel
  have f_52 : Cond.fieldLink RX10 52 "MarkPagesModel" "faultPlace" "I" ∈ wsX10_fault := by decide +kernel
  refine g_iload_n C dX10_fault_0 rfl ?_
  refine g_if_ne (tgt := 11) C dX10_fault_1 (by decide) (fun c1 => ?_) (fun c1 => ?_)
  · refine g_iload_n C dX10_fault_11 rfl ?_
    refine g_iconst (v := nI 1) C dX10_fault_12 (by decide) ?_
    refine g_icmp_ne (tgt := 23) C dX10_fault_13 (by decide) (fun c13 => ?_) (fun c13 => ?_)
    · refine g_iconst (v := -1) C dX10_fault_23 (by decide) ?_
      exact g_iret C Rt dX10_fault_24 (by decide) (by decide) (⟨by rw [if_neg c1, if_neg c13], rfl⟩)
    · refine g_aload_n C dX10_fault_16 rfl ?_
      refine g_get C i_X10 0 28 f_52 rfl rfl (by decide) rfl rfl dX10_fault_17 ?_
      refine g_goto (tgt := 24) C dX10_fault_20 (by decide) ?_
      exact g_iret C Rt dX10_fault_24 (by decide) (by decide) (⟨by rw [if_neg c1, if_pos c13], rfl⟩)
  · refine g_aload_n C dX10_fault_4 rfl ?_
    refine g_get C i_X10 0 25 f_226 rfl rfl (by decide) rfl rfl dX10_fault_5 ?_
    refine g_goto (tgt := 24) C dX10_fault_8 (by decide) ?_
    exact g_iret C Rt dX10_fault_24 (by decide) (by decide) (⟨by rw [if_pos c1], rfl⟩)

abbrev rm_c_X9_out_ok : Room := { frames := 0, cells := 0, slots := 0, locals := 0 }
set_option maxHeartbeats 4000000 in
set_option maxRecDepth 100000 in
theorem c_X9_out_ok (E : gE) (m f0 f1 f2 f3 f4 f5 f6 f7 f8 f9 f10 : Nat) (ob : Nat) (o : Nat → Int32) (W : List Int32) (i : Nat) (hW : W.length ≤ 2412) (hi : i < W.length) (ho : oR W o) : MM E yX9_out wsX9_out rm_c_X9_out_ok [.ref m, .int (nI i)] [gO m 9 [.ref f0, .ref f1, .ref f2, .ref f3, .ref f4, .ref f5, .ref f6, .ref f7, .ref f8, .ref f9, .ref f10], gO f9 1 [.ref ob, .int (nI W.length)], gA E ob 2412 o] (fun rv_ ru_ => rv_ = some (.int (W.getD i 0)) ∧ ru_ = [gO m 9 [.ref f0, .ref f1, .ref f2, .ref f3, .ref f4, .ref f5, .ref f6, .ref f7, .ref f8, .ref f9, .ref f10], gO f9 1 [.ref ob, .int (nI W.length)], gA E ob 2412 o]) := by
  refine MM.ofG (cc := cX9_out) (maxL := 2) (ret := (some .int)) (by decide) rfl (Nat.le_of_ble_eq_true rfl) (ll := [some (.ref m), some (.int (nI i))]) rfl ?_
  intro X C Rt
  have C : gx E X cX9_out 2 wsX9_out RX9 := C
  have i_X1 : ∀ w ∈ u_ws RX1 TX1 2, w ∈ wsX9_out := by decide +kernel
  have i_X9 : ∀ w ∈ u_ws RX9 TX9 11, w ∈ wsX9_out := by decide +kernel
  have f_170 : Cond.fieldLink RX9 170 "MarkPages$Out" "count" "I" ∈ wsX9_out := by decide +kernel
  have f_174 : Cond.fieldLink RX9 174 "MarkPages$Out" "bytes" "[I" ∈ wsX9_out := by decide +kernel
  have f_67 : Cond.fieldLink RX9 67 "MarkPages" "written" "LMarkPages$Out;" ∈ wsX9_out := by decide +kernel
  refine g_iload_n C dX9_out_0 rfl ?_
  refine g_if_lt_n (tgt := 27) C dX9_out_1 (by decide) (by omega) ?_
  refine g_iload_n C dX9_out_4 rfl ?_
  refine g_aload_n C dX9_out_5 rfl ?_
  refine g_get C i_X9 0 9 f_67 rfl rfl (by decide) rfl rfl dX9_out_6 ?_
  refine g_get C i_X1 1 1 f_170 rfl rfl (by decide) rfl rfl dX9_out_9 ?_
  refine g_icmp_ge_n (tgt := 27) C dX9_out_12 (by decide) (by omega) (by omega) (fun c12 => ?_) (fun c12 => ?_)
  · exact absurd hi (by omega)
  · refine g_aload_n C dX9_out_15 rfl ?_
    refine g_get C i_X9 0 9 f_67 rfl rfl (by decide) rfl rfl dX9_out_16 ?_
    refine g_get C i_X1 1 0 f_174 rfl rfl (by decide) rfl rfl dX9_out_19 ?_
    refine g_iload_n C dX9_out_22 rfl ?_
    refine g_iald C 2 i rfl rfl (by omega) (by decide) dX9_out_23 ?_
    refine g_goto (tgt := 28) C dX9_out_24 (by decide) ?_
    exact g_iret C Rt dX9_out_28 (by decide) (by decide) (⟨by rw [ho i hi], rfl⟩)

abbrev rm_c_X9_out_bad : Room := { frames := 0, cells := 0, slots := 0, locals := 0 }
set_option maxHeartbeats 4000000 in
set_option maxRecDepth 100000 in
theorem c_X9_out_bad (E : gE) (m f0 f1 f2 f3 f4 f5 f6 f7 f8 f9 f10 : Nat) (ob : Nat) (o : Nat → Int32) (W : List Int32) (i : Int32) (hb : i < 0 ∨ nI W.length ≤ i) : MM E yX9_out wsX9_out rm_c_X9_out_bad [.ref m, .int i] [gO m 9 [.ref f0, .ref f1, .ref f2, .ref f3, .ref f4, .ref f5, .ref f6, .ref f7, .ref f8, .ref f9, .ref f10], gO f9 1 [.ref ob, .int (nI W.length)], gA E ob 2412 o] (fun rv_ ru_ => rv_ = some (.int (-1)) ∧ ru_ = [gO m 9 [.ref f0, .ref f1, .ref f2, .ref f3, .ref f4, .ref f5, .ref f6, .ref f7, .ref f8, .ref f9, .ref f10], gO f9 1 [.ref ob, .int (nI W.length)], gA E ob 2412 o]) := by
  refine MM.ofG (cc := cX9_out) (maxL := 2) (ret := (some .int)) (by decide) rfl (Nat.le_of_ble_eq_true rfl) (ll := [some (.ref m), some (.int i)]) rfl ?_
  intro X C Rt
  have C : gx E X cX9_out 2 wsX9_out RX9 := C
  have i_X1 : ∀ w ∈ u_ws RX1 TX1 2, w ∈ wsX9_out := by decide +kernel
  have i_X9 : ∀ w ∈ u_ws RX9 TX9 11, w ∈ wsX9_out := by decide +kernel
  have f_170 : Cond.fieldLink RX9 170 "MarkPages$Out" "count" "I" ∈ wsX9_out := by decide +kernel
  have f_67 : Cond.fieldLink RX9 67 "MarkPages" "written" "LMarkPages$Out;" ∈ wsX9_out := by decide +kernel
  refine g_iload_n C dX9_out_0 rfl ?_
  refine g_if_lt (tgt := 27) C dX9_out_1 (by decide) (fun c1 => ?_) (fun c1 => ?_)
  · refine g_iconst (v := -1) C dX9_out_27 (by decide) ?_
    exact g_iret C Rt dX9_out_28 (by decide) (by decide) (⟨rfl, rfl⟩)
  · refine g_iload_n C dX9_out_4 rfl ?_
    refine g_aload_n C dX9_out_5 rfl ?_
    refine g_get C i_X9 0 9 f_67 rfl rfl (by decide) rfl rfl dX9_out_6 ?_
    refine g_get C i_X1 1 1 f_170 rfl rfl (by decide) rfl rfl dX9_out_9 ?_
    refine g_icmp_ge (tgt := 27) C dX9_out_12 (by decide) (fun c12 => ?_) (fun c12 => ?_)
    · refine g_iconst (v := -1) C dX9_out_27 (by decide) ?_
      exact g_iret C Rt dX9_out_28 (by decide) (by decide) (⟨rfl, rfl⟩)
    · exact hb.elim (fun z => absurd z c1) (fun z => absurd z c12)

abbrev rm_c_X10_out_ok : Room := { frames := 1, cells := 0, slots := 0, locals := 22 }
set_option maxHeartbeats 4000000 in
set_option maxRecDepth 100000 in
theorem c_X10_out_ok (E : gE) (h : Nat) (ad : Nat → Nat) (iv : Nat → Int32) (o : Nat → Int32) (W : List Int32) (i : Nat) (hW : W.length ≤ 2412) (hi : i < W.length) (ho : oR W o) : MM E yX10_out wsX10_out rm_c_X10_out_ok [.ref h, .int (nI i)] [gO h 10 (tF ad (upd iv 37 (nI W.length))), gA E (ad 36) 2500 o] (fun rv_ ru_ => rv_ = some (.int (W.getD i 0)) ∧ ru_ = [gO h 10 (tF ad (upd iv 37 (nI W.length))), gA E (ad 36) 2500 o]) := by
  refine MM.ofG (cc := cX10_out) (maxL := 2) (ret := (some .int)) (by decide) rfl (Nat.le_of_ble_eq_true rfl) (ll := [some (.ref h), some (.int (nI i))]) rfl ?_
  intro X C Rt
  have C : gx E X cX10_out 2 wsX10_out RX10 := C
  have i_X10 : ∀ w ∈ u_ws RX10 TX10 40, w ∈ wsX10_out := by decide +kernel
  have f_260 : Cond.fieldLink RX10 260 "MarkPagesModel" "outs" "I" ∈ wsX10_out := by decide +kernel
  have f_74 : Cond.fieldLink RX10 74 "MarkPagesModel" "out" "[I" ∈ wsX10_out := by decide +kernel
  refine g_iload_n C dX10_out_0 rfl ?_
  refine g_iconst (v := nI 0) C dX10_out_1 (by decide) ?_
  refine g_aload_n C dX10_out_2 rfl ?_
  refine g_get C i_X10 0 37 f_260 rfl rfl (by decide) rfl rfl dX10_out_3 ?_
  refine g_iconst (v := nI 1) C dX10_out_6 (by decide) ?_
  refine g_isub_n C dX10_out_7 (by omega) ?_
  refine g_callS C (c_X10_isIn_y E (nI i) (nI 0) (nI (W.length - 1)) (nI_nlt (Nat.zero_le i) (by omega)) (nI_nlt (by omega) (by omega))) gX10_out_X10_isIn rfl 3 (by decide +kernel) ⟨by decide, by decide⟩ ⟨by decide, by decide⟩ [] [0, 1] (wr := [gO h 10 (tF ad (upd iv 37 (nI W.length))), gA E (ad 36) 2500 o]) rfl (by decide) rfl (by decide) (by decide) rfl rfl (Nat.le_of_ble_eq_true rfl) dX10_out_8 ?_
  rintro _ _ ⟨rfl, rfl⟩
  show gg E _ 2 X 0 0 11 [some (.ref h), some (.int (nI i))] [.int (nI 1)] [gO h 10 (tF ad (upd iv 37 (nI W.length))), gA E (ad 36) 2500 o]
  refine g_if_eq (tgt := 23) C dX10_out_11 (by decide) (fun c11 => absurd c11 (by decide)) (fun c11 => ?_)
  refine g_aload_n C dX10_out_14 rfl ?_
  refine g_get C i_X10 0 36 f_74 rfl rfl (by decide) rfl rfl dX10_out_15 ?_
  refine g_iload_n C dX10_out_18 rfl ?_
  refine g_iald C 1 i rfl rfl (by omega) (by decide) dX10_out_19 ?_
  refine g_goto (tgt := 24) C dX10_out_20 (by decide) ?_
  exact g_iret C Rt dX10_out_24 (by decide) (by decide) (⟨by rw [ho i hi], rfl⟩)

abbrev rm_c_X10_out_bad : Room := { frames := 1, cells := 0, slots := 0, locals := 22 }
set_option maxHeartbeats 4000000 in
set_option maxRecDepth 100000 in
theorem c_X10_out_bad (E : gE) (h : Nat) (ad : Nat → Nat) (iv : Nat → Int32) (o : Nat → Int32) (W : List Int32) (i : Int32) (hW : W.length ≤ 2412) (hb : i < 0 ∨ nI W.length ≤ i) : MM E yX10_out wsX10_out rm_c_X10_out_bad [.ref h, .int i] [gO h 10 (tF ad (upd iv 37 (nI W.length))), gA E (ad 36) 2500 o] (fun rv_ ru_ => rv_ = some (.int (-1)) ∧ ru_ = [gO h 10 (tF ad (upd iv 37 (nI W.length))), gA E (ad 36) 2500 o]) := by
  refine MM.ofG (cc := cX10_out) (maxL := 2) (ret := (some .int)) (by decide) rfl (Nat.le_of_ble_eq_true rfl) (ll := [some (.ref h), some (.int i)]) rfl ?_
  intro X C Rt
  have C : gx E X cX10_out 2 wsX10_out RX10 := C
  have i_X10 : ∀ w ∈ u_ws RX10 TX10 40, w ∈ wsX10_out := by decide +kernel
  have f_260 : Cond.fieldLink RX10 260 "MarkPagesModel" "outs" "I" ∈ wsX10_out := by decide +kernel
  refine g_iload_n C dX10_out_0 rfl ?_
  refine g_iconst (v := nI 0) C dX10_out_1 (by decide) ?_
  refine g_aload_n C dX10_out_2 rfl ?_
  refine g_get C i_X10 0 37 f_260 rfl rfl (by decide) rfl rfl dX10_out_3 ?_
  refine g_iconst (v := nI 1) C dX10_out_6 (by decide) ?_
  refine g_isub C dX10_out_7 ?_
  refine g_callS C (c_X10_isIn E i (nI 0) ((nI W.length) - (nI 1)) ) gX10_out_X10_isIn rfl 3 (by decide +kernel) ⟨by decide, by decide⟩ ⟨by decide, by decide⟩ [] [0, 1] (wr := [gO h 10 (tF ad (upd iv 37 (nI W.length))), gA E (ad 36) 2500 o]) rfl (by decide) rfl (by decide) (by decide) rfl rfl (Nat.le_of_ble_eq_true rfl) dX10_out_8 ?_
  rintro _ _ ⟨rfl, rfl⟩
  show gg E _ 2 X 0 0 11 [some (.ref h), some (.int i)] [.int (b2i (decide (¬ i < (nI 0) ∧ ¬ ((nI W.length) - (nI 1)) < i)))] [gO h 10 (tF ad (upd iv 37 (nI W.length))), gA E (ad 36) 2500 o]
  refine g_if_eq (tgt := 23) C dX10_out_11 (by decide) (fun c11 => ?_) (fun c11 => ?_)
  · refine g_iconst (v := -1) C dX10_out_23 (by decide) ?_
    exact g_iret C Rt dX10_out_24 (by decide) (by decide) (⟨rfl, rfl⟩)
  · exact (have z := of_decide_eq_true (b2i_t.mp c11); hb.elim (fun y => absurd y z.1) (fun y => absurd ((le_pred (by omega)).mpr y) z.2))

abbrev rm_c_X7_keep_p : Room := { frames := 1, cells := 0, slots := 0, locals := 40 }
set_option maxHeartbeats 4000000 in
set_option maxRecDepth 100000 in
theorem c_X7_keep_p (E : gE) (h a0 a1 th tb n r : Nat) (le by_ t : Nat → Int32) (hr : r < 120) (hn : n ≤ 20) : MM E yX7_keep wsX7_keep rm_c_X7_keep_p [.ref h, .int (nI r), .ref th] [gO h 7 [.int (nI 20), .ref a0, .ref a1], gA E a0 120 le, gA E a1 2400 by_, gO th 6 [.ref tb, .int (nI n)], gA E tb 600 t] (fun rv_ ru_ => rv_ = some (.int (nI 1)) ∧ ru_ = [gO h 7 [.int (nI 20), .ref a0, .ref a1], gA E a0 120 (upd le r (nI n)), gA E a1 2400 (va_cpy t by_ 0 (20 * r) n), gO th 6 [.ref tb, .int (nI n)], gA E tb 600 t]) := by
  refine MM.ofG (cc := cX7_keep) (maxL := 3) (ret := (some .boolean)) (by decide) rfl (Nat.le_of_ble_eq_true rfl) (ll := [some (.ref h), some (.int (nI r)), some (.ref th)]) rfl ?_
  intro X C Rt
  have C : gx E X cX7_keep 3 wsX7_keep RX7 := C
  have i_X6 : ∀ w ∈ u_ws RX6 TX6 2, w ∈ wsX7_keep := by decide +kernel
  have i_X7 : ∀ w ∈ u_ws RX7 TX7 3, w ∈ wsX7_keep := by decide +kernel
  have ac_i : Cond.initialized "java/lang/System" ∈ wsX7_keep := by decide +kernel
  have ac_l : Cond.methodLink RX7 26 arraycopyName ∈ wsX7_keep := by decide +kernel
  have ac_n : Cond.native arraycopyName ∈ wsX7_keep := by decide +kernel
  have ac_s : Cond.static arraycopyName ∈ wsX7_keep := by decide +kernel
  have f_13 : Cond.fieldLink RX7 13 "MarkPages$Texts" "lengths" "[I" ∈ wsX7_keep := by decide +kernel
  have f_17 : Cond.fieldLink RX7 17 "MarkPages$Texts" "bytes" "[I" ∈ wsX7_keep := by decide +kernel
  have f_20 : Cond.fieldLink RX7 20 "MarkPages$Tape" "count" "I" ∈ wsX7_keep := by decide +kernel
  have f_25 : Cond.fieldLink RX7 25 "MarkPages$Tape" "bytes" "[I" ∈ wsX7_keep := by decide +kernel
  have f_7 : Cond.fieldLink RX7 7 "MarkPages$Texts" "width" "I" ∈ wsX7_keep := by decide +kernel
  refine g_iload_n C dX7_keep_0 rfl ?_
  refine g_if_lt_n (tgt := 24) C dX7_keep_1 (by decide) (by omega) ?_
  refine g_iload_n C dX7_keep_4 rfl ?_
  refine g_aload_n C dX7_keep_5 rfl ?_
  refine g_get C i_X7 0 1 f_13 rfl rfl (by decide) rfl rfl dX7_keep_6 ?_
  refine g_alen C 1 rfl dX7_keep_9 ?_
  refine g_icmp_ge_n (tgt := 24) C dX7_keep_10 (by decide) (by omega) (by omega) (fun c10 => ?_) (fun c10 => ?_)
  · exact absurd hr (by omega)
  · refine g_aload_n C dX7_keep_13 rfl ?_
    refine g_get C i_X6 3 1 f_20 rfl rfl (by decide) rfl rfl dX7_keep_14 ?_
    refine g_aload_n C dX7_keep_17 rfl ?_
    refine g_get C i_X7 0 0 f_7 rfl rfl (by decide) rfl rfl dX7_keep_18 ?_
    refine g_icmp_le_n (tgt := 26) C dX7_keep_21 (by decide) (by omega) (by omega) (fun c21 => ?_) (fun c21 => ?_)
    · refine g_aload_n C dX7_keep_26 rfl ?_
      refine g_get C i_X6 3 0 f_25 rfl rfl (by decide) rfl rfl dX7_keep_27 ?_
      refine g_iconst (v := nI 0) C dX7_keep_30 (by decide) ?_
      refine g_aload_n C dX7_keep_31 rfl ?_
      refine g_get C i_X7 0 2 f_17 rfl rfl (by decide) rfl rfl dX7_keep_32 ?_
      refine g_iload_n C dX7_keep_35 rfl ?_
      refine g_aload_n C dX7_keep_36 rfl ?_
      refine g_get C i_X7 0 0 f_7 rfl rfl (by decide) rfl rfl dX7_keep_37 ?_
      refine g_imul_n C dX7_keep_40 ?_
      refine g_aload_n C dX7_keep_41 rfl ?_
      refine g_get C i_X6 3 1 f_20 rfl rfl (by decide) rfl rfl dX7_keep_42 ?_
      refine g_copyi (sp := 0) (dp := (r * 20)) (cn := n) C ac_l ac_n ac_s ac_i 4 2 rfl rfl (by omega) (by omega) (by omega) (by omega) (by omega) (by decide) (Nat.le_of_ble_eq_true rfl) dX7_keep_45 (ws' := [gO h 7 [.int (nI 20), .ref a0, .ref a1], gA E a0 120 le, gA E a1 2400 (va_cpy t by_ 0 (r * 20) n), gO th 6 [.ref tb, .int (nI n)], gA E tb 600 t]) rfl ?_
      refine g_aload_n C dX7_keep_48 rfl ?_
      refine g_get C i_X7 0 1 f_13 rfl rfl (by decide) rfl rfl dX7_keep_49 ?_
      refine g_iload_n C dX7_keep_52 rfl ?_
      refine g_aload_n C dX7_keep_53 rfl ?_
      refine g_get C i_X6 3 1 f_20 rfl rfl (by decide) rfl rfl dX7_keep_54 ?_
      refine g_iast C 1 r rfl rfl (by omega) (by decide) dX7_keep_57 (ws' := [gO h 7 [.int (nI 20), .ref a0, .ref a1], gA E a0 120 (upd le r (nI n)), gA E a1 2400 (va_cpy t by_ 0 (r * 20) n), gO th 6 [.ref tb, .int (nI n)], gA E tb 600 t]) rfl ?_
      refine g_iconst (v := nI 1) C dX7_keep_58 (by decide) ?_
      exact g_zret C Rt dX7_keep_59 (by decide) (by decide) (by decide) (⟨rfl, by rw [Nat.mul_comm r 20]⟩)
    · exact absurd hn (by omega)

abbrev rm_c_X7_keep_px : Room := { frames := 1, cells := 0, slots := 0, locals := 40 }
set_option maxHeartbeats 4000000 in
set_option maxRecDepth 100000 in
theorem c_X7_keep_px (E : gE) (h a0 a1 th tb n : Nat) (le by_ t : Nat → Int32) (q : Int32) (hb : q < 0 ∨ 20 < n) (hn : n ≤ 600) : MM E yX7_keep wsX7_keep rm_c_X7_keep_px [.ref h, .int q, .ref th] [gO h 7 [.int (nI 20), .ref a0, .ref a1], gA E a0 120 le, gA E a1 2400 by_, gO th 6 [.ref tb, .int (nI n)], gA E tb 600 t] (fun rv_ ru_ => rv_ = some (.int (nI 0)) ∧ ru_ = [gO h 7 [.int (nI 20), .ref a0, .ref a1], gA E a0 120 le, gA E a1 2400 by_, gO th 6 [.ref tb, .int (nI n)], gA E tb 600 t]) := by
  refine MM.ofG (cc := cX7_keep) (maxL := 3) (ret := (some .boolean)) (by decide) rfl (Nat.le_of_ble_eq_true rfl) (ll := [some (.ref h), some (.int q), some (.ref th)]) rfl ?_
  intro X C Rt
  have C : gx E X cX7_keep 3 wsX7_keep RX7 := C
  have i_X6 : ∀ w ∈ u_ws RX6 TX6 2, w ∈ wsX7_keep := by decide +kernel
  have i_X7 : ∀ w ∈ u_ws RX7 TX7 3, w ∈ wsX7_keep := by decide +kernel
  have f_13 : Cond.fieldLink RX7 13 "MarkPages$Texts" "lengths" "[I" ∈ wsX7_keep := by decide +kernel
  have f_20 : Cond.fieldLink RX7 20 "MarkPages$Tape" "count" "I" ∈ wsX7_keep := by decide +kernel
  have f_7 : Cond.fieldLink RX7 7 "MarkPages$Texts" "width" "I" ∈ wsX7_keep := by decide +kernel
  refine g_iload_n C dX7_keep_0 rfl ?_
  refine g_if_lt (tgt := 24) C dX7_keep_1 (by decide) (fun c1 => ?_) (fun c1 => ?_)
  · refine g_iconst (v := nI 0) C dX7_keep_24 (by decide) ?_
    exact g_zret C Rt dX7_keep_25 (by decide) (by decide) (by decide) (⟨rfl, rfl⟩)
  · refine g_iload_n C dX7_keep_4 rfl ?_
    refine g_aload_n C dX7_keep_5 rfl ?_
    refine g_get C i_X7 0 1 f_13 rfl rfl (by decide) rfl rfl dX7_keep_6 ?_
    refine g_alen C 1 rfl dX7_keep_9 ?_
    refine g_icmp_ge (tgt := 24) C dX7_keep_10 (by decide) (fun c10 => ?_) (fun c10 => ?_)
    · refine g_iconst (v := nI 0) C dX7_keep_24 (by decide) ?_
      exact g_zret C Rt dX7_keep_25 (by decide) (by decide) (by decide) (⟨rfl, rfl⟩)
    · refine g_aload_n C dX7_keep_13 rfl ?_
      refine g_get C i_X6 3 1 f_20 rfl rfl (by decide) rfl rfl dX7_keep_14 ?_
      refine g_aload_n C dX7_keep_17 rfl ?_
      refine g_get C i_X7 0 0 f_7 rfl rfl (by decide) rfl rfl dX7_keep_18 ?_
      refine g_icmp_le_n (tgt := 26) C dX7_keep_21 (by decide) (by omega) (by omega) (fun c21 => ?_) (fun c21 => ?_)
      · exact hb.elim (fun z => absurd z c1) (fun z => absurd c21 (by omega))
      · refine g_iconst (v := nI 0) C dX7_keep_24 (by decide) ?_
        exact g_zret C Rt dX7_keep_25 (by decide) (by decide) (by decide) (⟨rfl, rfl⟩)

abbrev rm_c_X9_keepTape_p : Room := { frames := 2, cells := 0, slots := 0, locals := 62 }
set_option maxHeartbeats 4000000 in
set_option maxRecDepth 100000 in
theorem c_X9_keepTape_p (E : gE) (m f0 f1 f2 f3 f4 f5 f6 f7 f8 f9 f10 : Nat) (a0 a1 tb n r : Nat) (le by_ t : Nat → Int32) (hr : r < 120) (hn : n ≤ 20) : MM E yX9_keepTape wsX9_keepTape rm_c_X9_keepTape_p [.ref m, .ref f4, .int (nI r)] [gO m 9 [.ref f0, .ref f1, .ref f2, .ref f3, .ref f4, .ref f5, .ref f6, .ref f7, .ref f8, .ref f9, .ref f10], gO f4 7 [.int (nI 20), .ref a0, .ref a1], gA E a0 120 le, gA E a1 2400 by_, gO f1 6 [.ref tb, .int (nI n)], gA E tb 600 t] (fun rv_ ru_ => rv_ = some (.int (nI 1)) ∧ ru_ = [gO m 9 [.ref f0, .ref f1, .ref f2, .ref f3, .ref f4, .ref f5, .ref f6, .ref f7, .ref f8, .ref f9, .ref f10], gO f4 7 [.int (nI 20), .ref a0, .ref a1], gA E a0 120 (upd le r (nI n)), gA E a1 2400 (va_cpy t by_ 0 (20 * r) n), gO f1 6 [.ref tb, .int (nI 0)], gA E tb 600 t]) := by
  refine MM.ofG (cc := cX9_keepTape) (maxL := 4) (ret := (some .boolean)) (by decide) rfl (Nat.le_of_ble_eq_true rfl) (ll := [some (.ref m), some (.ref f4), some (.int (nI r)), none]) rfl ?_
  intro X C Rt
  have C : gx E X cX9_keepTape 4 wsX9_keepTape RX9 := C
  have i_X6 : ∀ w ∈ u_ws RX6 TX6 2, w ∈ wsX9_keepTape := by decide +kernel
  have i_X9 : ∀ w ∈ u_ws RX9 TX9 11, w ∈ wsX9_keepTape := by decide +kernel
  have f_113 : Cond.fieldLink RX9 113 "MarkPages$Tape" "count" "I" ∈ wsX9_keepTape := by decide +kernel
  have f_19 : Cond.fieldLink RX9 19 "MarkPages" "tape" "LMarkPages$Tape;" ∈ wsX9_keepTape := by decide +kernel
  refine g_aload_n C dX9_keepTape_0 rfl ?_
  refine g_iload_n C dX9_keepTape_1 rfl ?_
  refine g_aload_n C dX9_keepTape_2 rfl ?_
  refine g_get C i_X9 0 1 f_19 rfl rfl (by decide) rfl rfl dX9_keepTape_3 ?_
  refine g_callV C (c_X7_keep_p E f4 a0 a1 f1 tb n r le by_ t (by omega) (by omega)) gX9_keepTape_X7_keep rfl 2 (by decide +kernel) ⟨by decide, by decide⟩ ⟨by decide, by decide⟩ 1 rfl rfl [1, 2, 3, 4, 5] [0] (wr := [gO m 9 [.ref f0, .ref f1, .ref f2, .ref f3, .ref f4, .ref f5, .ref f6, .ref f7, .ref f8, .ref f9, .ref f10]]) rfl (by decide) rfl (by decide) (by decide) rfl rfl (Nat.le_of_ble_eq_true rfl) dX9_keepTape_6 ?_
  rintro _ _ ⟨rfl, rfl⟩
  show gg E _ 4 X 0 0 9 [some (.ref m), some (.ref f4), some (.int (nI r)), none] [.int (nI 1)] [gO m 9 [.ref f0, .ref f1, .ref f2, .ref f3, .ref f4, .ref f5, .ref f6, .ref f7, .ref f8, .ref f9, .ref f10], gO f4 7 [.int (nI 20), .ref a0, .ref a1], gA E a0 120 (upd le r (nI n)), gA E a1 2400 (va_cpy t by_ 0 (20 * r) n), gO f1 6 [.ref tb, .int (nI n)], gA E tb 600 t]
  refine g_istore_n C dX9_keepTape_9 (by decide) rfl (ll' := [some (.ref m), some (.ref f4), some (.int (nI r)), some (.int (nI 1))]) rfl ?_
  refine g_aload_n C dX9_keepTape_10 rfl ?_
  refine g_get C i_X9 0 1 f_19 rfl rfl (by decide) rfl rfl dX9_keepTape_11 ?_
  refine g_iconst (v := nI 0) C dX9_keepTape_14 (by decide) ?_
  refine g_put C i_X6 tyX6 tyX6_ok nmX6 4 1 f_113 rfl rfl (by decide) rfl rfl rfl rfl rfl (Nat.le_of_ble_eq_true rfl) dX9_keepTape_15 (ws' := [gO m 9 [.ref f0, .ref f1, .ref f2, .ref f3, .ref f4, .ref f5, .ref f6, .ref f7, .ref f8, .ref f9, .ref f10], gO f4 7 [.int (nI 20), .ref a0, .ref a1], gA E a0 120 (upd le r (nI n)), gA E a1 2400 (va_cpy t by_ 0 (20 * r) n), gO f1 6 [.ref tb, .int (nI 0)], gA E tb 600 t]) rfl ?_
  refine g_iload_n C dX9_keepTape_18 rfl ?_
  exact g_zret C Rt dX9_keepTape_19 (by decide) (by decide) (by decide) (⟨rfl, rfl⟩)

abbrev rm_c_X9_keepTape_px : Room := { frames := 2, cells := 0, slots := 0, locals := 62 }
set_option maxHeartbeats 4000000 in
set_option maxRecDepth 100000 in
theorem c_X9_keepTape_px (E : gE) (m f0 f1 f2 f3 f4 f5 f6 f7 f8 f9 f10 : Nat) (a0 a1 tb n : Nat) (le by_ t : Nat → Int32) (q : Int32) (hb : q < 0 ∨ 20 < n) (hn : n ≤ 600) : MM E yX9_keepTape wsX9_keepTape rm_c_X9_keepTape_px [.ref m, .ref f4, .int q] [gO m 9 [.ref f0, .ref f1, .ref f2, .ref f3, .ref f4, .ref f5, .ref f6, .ref f7, .ref f8, .ref f9, .ref f10], gO f4 7 [.int (nI 20), .ref a0, .ref a1], gA E a0 120 le, gA E a1 2400 by_, gO f1 6 [.ref tb, .int (nI n)], gA E tb 600 t] (fun rv_ ru_ => rv_ = some (.int (nI 0)) ∧ ru_ = [gO m 9 [.ref f0, .ref f1, .ref f2, .ref f3, .ref f4, .ref f5, .ref f6, .ref f7, .ref f8, .ref f9, .ref f10], gO f4 7 [.int (nI 20), .ref a0, .ref a1], gA E a0 120 le, gA E a1 2400 by_, gO f1 6 [.ref tb, .int (nI 0)], gA E tb 600 t]) := by
  refine MM.ofG (cc := cX9_keepTape) (maxL := 4) (ret := (some .boolean)) (by decide) rfl (Nat.le_of_ble_eq_true rfl) (ll := [some (.ref m), some (.ref f4), some (.int q), none]) rfl ?_
  intro X C Rt
  have C : gx E X cX9_keepTape 4 wsX9_keepTape RX9 := C
  have i_X6 : ∀ w ∈ u_ws RX6 TX6 2, w ∈ wsX9_keepTape := by decide +kernel
  have i_X9 : ∀ w ∈ u_ws RX9 TX9 11, w ∈ wsX9_keepTape := by decide +kernel
  have f_113 : Cond.fieldLink RX9 113 "MarkPages$Tape" "count" "I" ∈ wsX9_keepTape := by decide +kernel
  have f_19 : Cond.fieldLink RX9 19 "MarkPages" "tape" "LMarkPages$Tape;" ∈ wsX9_keepTape := by decide +kernel
  refine g_aload_n C dX9_keepTape_0 rfl ?_
  refine g_iload_n C dX9_keepTape_1 rfl ?_
  refine g_aload_n C dX9_keepTape_2 rfl ?_
  refine g_get C i_X9 0 1 f_19 rfl rfl (by decide) rfl rfl dX9_keepTape_3 ?_
  refine g_callV C (c_X7_keep_px E f4 a0 a1 f1 tb n le by_ t q (hb) (by omega)) gX9_keepTape_X7_keep rfl 2 (by decide +kernel) ⟨by decide, by decide⟩ ⟨by decide, by decide⟩ 1 rfl rfl [1, 2, 3, 4, 5] [0] (wr := [gO m 9 [.ref f0, .ref f1, .ref f2, .ref f3, .ref f4, .ref f5, .ref f6, .ref f7, .ref f8, .ref f9, .ref f10]]) rfl (by decide) rfl (by decide) (by decide) rfl rfl (Nat.le_of_ble_eq_true rfl) dX9_keepTape_6 ?_
  rintro _ _ ⟨rfl, rfl⟩
  show gg E _ 4 X 0 0 9 [some (.ref m), some (.ref f4), some (.int q), none] [.int (nI 0)] [gO m 9 [.ref f0, .ref f1, .ref f2, .ref f3, .ref f4, .ref f5, .ref f6, .ref f7, .ref f8, .ref f9, .ref f10], gO f4 7 [.int (nI 20), .ref a0, .ref a1], gA E a0 120 le, gA E a1 2400 by_, gO f1 6 [.ref tb, .int (nI n)], gA E tb 600 t]
  refine g_istore_n C dX9_keepTape_9 (by decide) rfl (ll' := [some (.ref m), some (.ref f4), some (.int q), some (.int (nI 0))]) rfl ?_
  refine g_aload_n C dX9_keepTape_10 rfl ?_
  refine g_get C i_X9 0 1 f_19 rfl rfl (by decide) rfl rfl dX9_keepTape_11 ?_
  refine g_iconst (v := nI 0) C dX9_keepTape_14 (by decide) ?_
  refine g_put C i_X6 tyX6 tyX6_ok nmX6 4 1 f_113 rfl rfl (by decide) rfl rfl rfl rfl rfl (Nat.le_of_ble_eq_true rfl) dX9_keepTape_15 (ws' := [gO m 9 [.ref f0, .ref f1, .ref f2, .ref f3, .ref f4, .ref f5, .ref f6, .ref f7, .ref f8, .ref f9, .ref f10], gO f4 7 [.int (nI 20), .ref a0, .ref a1], gA E a0 120 le, gA E a1 2400 by_, gO f1 6 [.ref tb, .int (nI 0)], gA E tb 600 t]) rfl ?_
  refine g_iload_n C dX9_keepTape_18 rfl ?_
  exact g_zret C Rt dX9_keepTape_19 (by decide) (by decide) (by decide) (⟨rfl, rfl⟩)

abbrev rm_c_X9_phrase_ok : Room := { frames := 3, cells := 0, slots := 0, locals := 85 }
set_option maxHeartbeats 4000000 in
set_option maxRecDepth 100000 in
theorem c_X9_phrase_ok (E : gE) (m f0 f1 f2 f3 f4 f5 f6 f7 f8 f9 f10 : Nat) (a0 a1 tb n : Nat) (le by_ t : Nat → Int32) (y g : Nat) (hy : y < 40) (hg : g < 3) (hn : n ≤ 20) : MM E yX9_phrase wsX9_phrase rm_c_X9_phrase_ok [.ref m, .int (nI y), .int (nI g)] [gO m 9 [.ref f0, .ref f1, .ref f2, .ref f3, .ref f4, .ref f5, .ref f6, .ref f7, .ref f8, .ref f9, .ref f10], gO f4 7 [.int (nI 20), .ref a0, .ref a1], gA E a0 120 le, gA E a1 2400 by_, gO f1 6 [.ref tb, .int (nI n)], gA E tb 600 t] (fun rv_ ru_ => rv_ = some (.int (nI 1)) ∧ ru_ = [gO m 9 [.ref f0, .ref f1, .ref f2, .ref f3, .ref f4, .ref f5, .ref f6, .ref f7, .ref f8, .ref f9, .ref f10], gO f4 7 [.int (nI 20), .ref a0, .ref a1], gA E a0 120 (upd le (3 * y + g) (nI n)), gA E a1 2400 (va_cpy t by_ 0 (20 * (3 * y + g)) n), gO f1 6 [.ref tb, .int (nI 0)], gA E tb 600 t]) := by
  refine MM.ofG (cc := cX9_phrase) (maxL := 4) (ret := (some .boolean)) (by decide) rfl (Nat.le_of_ble_eq_true rfl) (ll := [some (.ref m), some (.int (nI y)), some (.int (nI g)), none]) rfl ?_
  intro X C Rt
  have C : gx E X cX9_phrase 4 wsX9_phrase RX9 := C
  have i_X9 : ∀ w ∈ u_ws RX9 TX9 11, w ∈ wsX9_phrase := by decide +kernel
  have f_42 : Cond.fieldLink RX9 42 "MarkPages" "phrases" "LMarkPages$Texts;" ∈ wsX9_phrase := by decide +kernel
  refine g_iload_n C dX9_phrase_0 rfl ?_
  refine g_if_lt_n (tgt := 21) C dX9_phrase_1 (by decide) (by omega) ?_
  refine g_iload_n C dX9_phrase_4 rfl ?_
  refine g_bipush (v := nI 40) C dX9_phrase_5 (by decide) ?_
  refine g_icmp_ge_n (tgt := 21) C dX9_phrase_7 (by decide) (by omega) (by omega) (fun c7 => ?_) (fun c7 => ?_)
  · exact absurd hy (by omega)
  · refine g_iload_n C dX9_phrase_10 rfl ?_
    refine g_callS C (c_X9_isTongue_y E g (by omega)) gX9_phrase_X9_isTongue rfl 1 (by decide +kernel) ⟨by decide, by decide⟩ ⟨by decide, by decide⟩ [] [0, 1, 2, 3, 4, 5] (wr := [gO m 9 [.ref f0, .ref f1, .ref f2, .ref f3, .ref f4, .ref f5, .ref f6, .ref f7, .ref f8, .ref f9, .ref f10], gO f4 7 [.int (nI 20), .ref a0, .ref a1], gA E a0 120 le, gA E a1 2400 by_, gO f1 6 [.ref tb, .int (nI n)], gA E tb 600 t]) rfl (by decide) rfl (by decide) (by decide) rfl rfl (Nat.le_of_ble_eq_true rfl) dX9_phrase_11 ?_
    rintro _ _ ⟨rfl, rfl⟩
    show gg E _ 4 X 0 0 14 [some (.ref m), some (.int (nI y)), some (.int (nI g)), none] [.int (nI 1)] [gO m 9 [.ref f0, .ref f1, .ref f2, .ref f3, .ref f4, .ref f5, .ref f6, .ref f7, .ref f8, .ref f9, .ref f10], gO f4 7 [.int (nI 20), .ref a0, .ref a1], gA E a0 120 le, gA E a1 2400 by_, gO f1 6 [.ref tb, .int (nI n)], gA E tb 600 t]
    refine g_if_eq (tgt := 21) C dX9_phrase_14 (by decide) (fun c14 => absurd c14 (by decide)) (fun c14 => ?_)
    refine g_iconst (v := nI 1) C dX9_phrase_17 (by decide) ?_
    refine g_goto (tgt := 22) C dX9_phrase_18 (by decide) ?_
    refine g_istore_n C dX9_phrase_22 (by decide) rfl (ll' := [some (.ref m), some (.int (nI y)), some (.int (nI g)), some (.int (nI 1))]) rfl ?_
    refine g_aload_n C dX9_phrase_23 rfl ?_
    refine g_aload_n C dX9_phrase_24 rfl ?_
    refine g_get C i_X9 0 4 f_42 rfl rfl (by decide) rfl rfl dX9_phrase_25 ?_
    refine g_iload_n C dX9_phrase_28 rfl ?_
    refine g_if_eq (tgt := 40) C dX9_phrase_29 (by decide) (fun c29 => absurd c29 (by decide)) (fun c29 => ?_)
    refine g_iload_n C dX9_phrase_32 rfl ?_
    refine g_iload_n C dX9_phrase_33 rfl ?_
    refine g_callS C (c_X9_rowOf E y g ) gX9_phrase_X9_rowOf rfl 2 (by decide +kernel) ⟨by decide, by decide⟩ ⟨by decide, by decide⟩ [] [0, 1, 2, 3, 4, 5] (wr := [gO m 9 [.ref f0, .ref f1, .ref f2, .ref f3, .ref f4, .ref f5, .ref f6, .ref f7, .ref f8, .ref f9, .ref f10], gO f4 7 [.int (nI 20), .ref a0, .ref a1], gA E a0 120 le, gA E a1 2400 by_, gO f1 6 [.ref tb, .int (nI n)], gA E tb 600 t]) rfl (by decide) rfl (by decide) (by decide) rfl rfl (Nat.le_of_ble_eq_true rfl) dX9_phrase_34 ?_
    rintro _ _ ⟨rfl, rfl⟩
    show gg E _ 4 X 0 0 37 [some (.ref m), some (.int (nI y)), some (.int (nI g)), some (.int (nI 1))] [.int (nI (3 * y + g)), .ref f4, .ref m] [gO m 9 [.ref f0, .ref f1, .ref f2, .ref f3, .ref f4, .ref f5, .ref f6, .ref f7, .ref f8, .ref f9, .ref f10], gO f4 7 [.int (nI 20), .ref a0, .ref a1], gA E a0 120 le, gA E a1 2400 by_, gO f1 6 [.ref tb, .int (nI n)], gA E tb 600 t]
    refine g_goto (tgt := 41) C dX9_phrase_37 (by decide) ?_
    refine g_callV C (c_X9_keepTape_p E m f0 f1 f2 f3 f4 f5 f6 f7 f8 f9 f10 a0 a1 tb n (3 * y + g) le by_ t (by omega) (by omega)) gX9_phrase_X9_keepTape rfl 2 (by decide +kernel) ⟨by decide, by decide⟩ ⟨by decide, by decide⟩ 0 rfl rfl [0, 1, 2, 3, 4, 5] [] (wr := []) rfl (by decide) rfl (by decide) (by decide) rfl rfl (Nat.le_of_ble_eq_true rfl) dX9_phrase_41 ?_
    rintro _ _ ⟨rfl, rfl⟩
    show gg E _ 4 X 0 0 44 [some (.ref m), some (.int (nI y)), some (.int (nI g)), some (.int (nI 1))] [.int (nI 1)] [gO m 9 [.ref f0, .ref f1, .ref f2, .ref f3, .ref f4, .ref f5, .ref f6, .ref f7, .ref f8, .ref f9, .ref f10], gO f4 7 [.int (nI 20), .ref a0, .ref a1], gA E a0 120 (upd le (3 * y + g) (nI n)), gA E a1 2400 (va_cpy t by_ 0 (20 * (3 * y + g)) n), gO f1 6 [.ref tb, .int (nI 0)], gA E tb 600 t]
    exact g_zret C Rt dX9_phrase_44 (by decide) (by decide) (by decide) (⟨rfl, rfl⟩)

abbrev rm_c_X9_phrase_long : Room := { frames := 3, cells := 0, slots := 0, locals := 85 }
set_option maxHeartbeats 4000000 in
set_option maxRecDepth 100000 in
theorem c_X9_phrase_long (E : gE) (m f0 f1 f2 f3 f4 f5 f6 f7 f8 f9 f10 : Nat) (a0 a1 tb n : Nat) (le by_ t : Nat → Int32) (y g : Nat) (hy : y < 40) (hg : g < 3) (hl : 20 < n) (hn : n ≤ 600) : MM E yX9_phrase wsX9_phrase rm_c_X9_phrase_long [.ref m, .int (nI y), .int (nI g)] [gO m 9 [.ref f0, .ref f1, .ref f2, .ref f3, .ref f4, .ref f5, .ref f6, .ref f7, .ref f8, .ref f9, .ref f10], gO f4 7 [.int (nI 20), .ref a0, .ref a1], gA E a0 120 le, gA E a1 2400 by_, gO f1 6 [.ref tb, .int (nI n)], gA E tb 600 t] (fun rv_ ru_ => rv_ = some (.int (nI 0)) ∧ ru_ = [gO m 9 [.ref f0, .ref f1, .ref f2, .ref f3, .ref f4, .ref f5, .ref f6, .ref f7, .ref f8, .ref f9, .ref f10], gO f4 7 [.int (nI 20), .ref a0, .ref a1], gA E a0 120 le, gA E a1 2400 by_, gO f1 6 [.ref tb, .int (nI 0)], gA E tb 600 t]) := by
  refine MM.ofG (cc := cX9_phrase) (maxL := 4) (ret := (some .boolean)) (by decide) rfl (Nat.le_of_ble_eq_true rfl) (ll := [some (.ref m), some (.int (nI y)), some (.int (nI g)), none]) rfl ?_
  intro X C Rt
  have C : gx E X cX9_phrase 4 wsX9_phrase RX9 := C
  have i_X9 : ∀ w ∈ u_ws RX9 TX9 11, w ∈ wsX9_phrase := by decide +kernel
  have f_42 : Cond.fieldLink RX9 42 "MarkPages" "phrases" "LMarkPages$Texts;" ∈ wsX9_phrase := by decide +kernel
  refine g_iload_n C dX9_phrase_0 rfl ?_
  refine g_if_lt_n (tgt := 21) C dX9_phrase_1 (by decide) (by omega) ?_
  refine g_iload_n C dX9_phrase_4 rfl ?_
  refine g_bipush (v := nI 40) C dX9_phrase_5 (by decide) ?_
  refine g_icmp_ge_n (tgt := 21) C dX9_phrase_7 (by decide) (by omega) (by omega) (fun c7 => ?_) (fun c7 => ?_)
  · exact absurd hy (by omega)
  · refine g_iload_n C dX9_phrase_10 rfl ?_
    refine g_callS C (c_X9_isTongue_y E g (by omega)) gX9_phrase_X9_isTongue rfl 1 (by decide +kernel) ⟨by decide, by decide⟩ ⟨by decide, by decide⟩ [] [0, 1, 2, 3, 4, 5] (wr := [gO m 9 [.ref f0, .ref f1, .ref f2, .ref f3, .ref f4, .ref f5, .ref f6, .ref f7, .ref f8, .ref f9, .ref f10], gO f4 7 [.int (nI 20), .ref a0, .ref a1], gA E a0 120 le, gA E a1 2400 by_, gO f1 6 [.ref tb, .int (nI n)], gA E tb 600 t]) rfl (by decide) rfl (by decide) (by decide) rfl rfl (Nat.le_of_ble_eq_true rfl) dX9_phrase_11 ?_
    rintro _ _ ⟨rfl, rfl⟩
    show gg E _ 4 X 0 0 14 [some (.ref m), some (.int (nI y)), some (.int (nI g)), none] [.int (nI 1)] [gO m 9 [.ref f0, .ref f1, .ref f2, .ref f3, .ref f4, .ref f5, .ref f6, .ref f7, .ref f8, .ref f9, .ref f10], gO f4 7 [.int (nI 20), .ref a0, .ref a1], gA E a0 120 le, gA E a1 2400 by_, gO f1 6 [.ref tb, .int (nI n)], gA E tb 600 t]
    refine g_if_eq (tgt := 21) C dX9_phrase_14 (by decide) (fun c14 => absurd c14 (by decide)) (fun c14 => ?_)
    refine g_iconst (v := nI 1) C dX9_phrase_17 (by decide) ?_
    refine g_goto (tgt := 22) C dX9_phrase_18 (by decide) ?_
    refine g_istore_n C dX9_phrase_22 (by decide) rfl (ll' := [some (.ref m), some (.int (nI y)), some (.int (nI g)), some (.int (nI 1))]) rfl ?_
    refine g_aload_n C dX9_phrase_23 rfl ?_
    refine g_aload_n C dX9_phrase_24 rfl ?_
    refine g_get C i_X9 0 4 f_42 rfl rfl (by decide) rfl rfl dX9_phrase_25 ?_
    refine g_iload_n C dX9_phrase_28 rfl ?_
    refine g_if_eq (tgt := 40) C dX9_phrase_29 (by decide) (fun c29 => absurd c29 (by decide)) (fun c29 => ?_)
    refine g_iload_n C dX9_phrase_32 rfl ?_
    refine g_iload_n C dX9_phrase_33 rfl ?_
    refine g_callS C (c_X9_rowOf E y g ) gX9_phrase_X9_rowOf rfl 2 (by decide +kernel) ⟨by decide, by decide⟩ ⟨by decide, by decide⟩ [] [0, 1, 2, 3, 4, 5] (wr := [gO m 9 [.ref f0, .ref f1, .ref f2, .ref f3, .ref f4, .ref f5, .ref f6, .ref f7, .ref f8, .ref f9, .ref f10], gO f4 7 [.int (nI 20), .ref a0, .ref a1], gA E a0 120 le, gA E a1 2400 by_, gO f1 6 [.ref tb, .int (nI n)], gA E tb 600 t]) rfl (by decide) rfl (by decide) (by decide) rfl rfl (Nat.le_of_ble_eq_true rfl) dX9_phrase_34 ?_
    rintro _ _ ⟨rfl, rfl⟩
    show gg E _ 4 X 0 0 37 [some (.ref m), some (.int (nI y)), some (.int (nI g)), some (.int (nI 1))] [.int (nI (3 * y + g)), .ref f4, .ref m] [gO m 9 [.ref f0, .ref f1, .ref f2, .ref f3, .ref f4, .ref f5, .ref f6, .ref f7, .ref f8, .ref f9, .ref f10], gO f4 7 [.int (nI 20), .ref a0, .ref a1], gA E a0 120 le, gA E a1 2400 by_, gO f1 6 [.ref tb, .int (nI n)], gA E tb 600 t]
    refine g_goto (tgt := 41) C dX9_phrase_37 (by decide) ?_
    refine g_callV C (c_X9_keepTape_px E m f0 f1 f2 f3 f4 f5 f6 f7 f8 f9 f10 a0 a1 tb n le by_ t (nI (3 * y + g)) (Or.inr hl) (by omega)) gX9_phrase_X9_keepTape rfl 2 (by decide +kernel) ⟨by decide, by decide⟩ ⟨by decide, by decide⟩ 0 rfl rfl [0, 1, 2, 3, 4, 5] [] (wr := []) rfl (by decide) rfl (by decide) (by decide) rfl rfl (Nat.le_of_ble_eq_true rfl) dX9_phrase_41 ?_
    rintro _ _ ⟨rfl, rfl⟩
    show gg E _ 4 X 0 0 44 [some (.ref m), some (.int (nI y)), some (.int (nI g)), some (.int (nI 1))] [.int (nI 0)] [gO m 9 [.ref f0, .ref f1, .ref f2, .ref f3, .ref f4, .ref f5, .ref f6, .ref f7, .ref f8, .ref f9, .ref f10], gO f4 7 [.int (nI 20), .ref a0, .ref a1], gA E a0 120 le, gA E a1 2400 by_, gO f1 6 [.ref tb, .int (nI 0)], gA E tb 600 t]
    exact g_zret C Rt dX9_phrase_44 (by decide) (by decide) (by decide) (⟨rfl, rfl⟩)

abbrev rm_c_X9_phrase_bad : Room := { frames := 3, cells := 0, slots := 0, locals := 85 }
set_option maxHeartbeats 4000000 in
set_option maxRecDepth 100000 in
theorem c_X9_phrase_bad (E : gE) (m f0 f1 f2 f3 f4 f5 f6 f7 f8 f9 f10 : Nat) (a0 a1 tb n : Nat) (le by_ t : Nat → Int32) (y g : Int32) (hb : y < 0 ∨ nI 40 ≤ y ∨ g < 0 ∨ nI 3 ≤ g) (hn : n ≤ 600) : MM E yX9_phrase wsX9_phrase rm_c_X9_phrase_bad [.ref m, .int y, .int g] [gO m 9 [.ref f0, .ref f1, .ref f2, .ref f3, .ref f4, .ref f5, .ref f6, .ref f7, .ref f8, .ref f9, .ref f10], gO f4 7 [.int (nI 20), .ref a0, .ref a1], gA E a0 120 le, gA E a1 2400 by_, gO f1 6 [.ref tb, .int (nI n)], gA E tb 600 t] (fun rv_ ru_ => rv_ = some (.int (nI 0)) ∧ ru_ = [gO m 9 [.ref f0, .ref f1, .ref f2, .ref f3, .ref f4, .ref f5, .ref f6, .ref f7, .ref f8, .ref f9, .ref f10], gO f4 7 [.int (nI 20), .ref a0, .ref a1], gA E a0 120 le, gA E a1 2400 by_, gO f1 6 [.ref tb, .int (nI 0)], gA E tb 600 t]) := by
  refine MM.ofG (cc := cX9_phrase) (maxL := 4) (ret := (some .boolean)) (by decide) rfl (Nat.le_of_ble_eq_true rfl) (ll := [some (.ref m), some (.int y), some (.int g), none]) rfl ?_
  intro X C Rt
  have C : gx E X cX9_phrase 4 wsX9_phrase RX9 := C
  have i_X9 : ∀ w ∈ u_ws RX9 TX9 11, w ∈ wsX9_phrase := by decide +kernel
  have f_42 : Cond.fieldLink RX9 42 "MarkPages" "phrases" "LMarkPages$Texts;" ∈ wsX9_phrase := by decide +kernel
  refine g_iload_n C dX9_phrase_0 rfl ?_
  refine g_if_lt (tgt := 21) C dX9_phrase_1 (by decide) (fun c1 => ?_) (fun c1 => ?_)
  · refine g_iconst (v := nI 0) C dX9_phrase_21 (by decide) ?_
    refine g_istore_n C dX9_phrase_22 (by decide) rfl (ll' := [some (.ref m), some (.int y), some (.int g), some (.int (nI 0))]) rfl ?_
    refine g_aload_n C dX9_phrase_23 rfl ?_
    refine g_aload_n C dX9_phrase_24 rfl ?_
    refine g_get C i_X9 0 4 f_42 rfl rfl (by decide) rfl rfl dX9_phrase_25 ?_
    refine g_iload_n C dX9_phrase_28 rfl ?_
    refine g_if_eq (tgt := 40) C dX9_phrase_29 (by decide) (fun c29 => ?_) (fun c29 => absurd c29 (by decide))
    refine g_iconst (v := -1) C dX9_phrase_40 (by decide) ?_
    refine g_callV C (c_X9_keepTape_px E m f0 f1 f2 f3 f4 f5 f6 f7 f8 f9 f10 a0 a1 tb n le by_ t (-1) (Or.inl (by decide)) (by omega)) gX9_phrase_X9_keepTape rfl 2 (by decide +kernel) ⟨by decide, by decide⟩ ⟨by decide, by decide⟩ 0 rfl rfl [0, 1, 2, 3, 4, 5] [] (wr := []) rfl (by decide) rfl (by decide) (by decide) rfl rfl (Nat.le_of_ble_eq_true rfl) dX9_phrase_41 ?_
    rintro _ _ ⟨rfl, rfl⟩
    show gg E _ 4 X 0 0 44 [some (.ref m), some (.int y), some (.int g), some (.int (nI 0))] [.int (nI 0)] [gO m 9 [.ref f0, .ref f1, .ref f2, .ref f3, .ref f4, .ref f5, .ref f6, .ref f7, .ref f8, .ref f9, .ref f10], gO f4 7 [.int (nI 20), .ref a0, .ref a1], gA E a0 120 le, gA E a1 2400 by_, gO f1 6 [.ref tb, .int (nI 0)], gA E tb 600 t]
    exact g_zret C Rt dX9_phrase_44 (by decide) (by decide) (by decide) (⟨rfl, rfl⟩)
  · refine g_iload_n C dX9_phrase_4 rfl ?_
    refine g_bipush (v := nI 40) C dX9_phrase_5 (by decide) ?_
    refine g_icmp_ge (tgt := 21) C dX9_phrase_7 (by decide) (fun c7 => ?_) (fun c7 => ?_)
    · refine g_iconst (v := nI 0) C dX9_phrase_21 (by decide) ?_
      refine g_istore_n C dX9_phrase_22 (by decide) rfl (ll' := [some (.ref m), some (.int y), some (.int g), some (.int (nI 0))]) rfl ?_
      refine g_aload_n C dX9_phrase_23 rfl ?_
      refine g_aload_n C dX9_phrase_24 rfl ?_
      refine g_get C i_X9 0 4 f_42 rfl rfl (by decide) rfl rfl dX9_phrase_25 ?_
      refine g_iload_n C dX9_phrase_28 rfl ?_
      refine g_if_eq (tgt := 40) C dX9_phrase_29 (by decide) (fun c29 => ?_) (fun c29 => absurd c29 (by decide))
      refine g_iconst (v := -1) C dX9_phrase_40 (by decide) ?_
      refine g_callV C (c_X9_keepTape_px E m f0 f1 f2 f3 f4 f5 f6 f7 f8 f9 f10 a0 a1 tb n le by_ t (-1) (Or.inl (by decide)) (by omega)) gX9_phrase_X9_keepTape rfl 2 (by decide +kernel) ⟨by decide, by decide⟩ ⟨by decide, by decide⟩ 0 rfl rfl [0, 1, 2, 3, 4, 5] [] (wr := []) rfl (by decide) rfl (by decide) (by decide) rfl rfl (Nat.le_of_ble_eq_true rfl) dX9_phrase_41 ?_
      rintro _ _ ⟨rfl, rfl⟩
      show gg E _ 4 X 0 0 44 [some (.ref m), some (.int y), some (.int g), some (.int (nI 0))] [.int (nI 0)] [gO m 9 [.ref f0, .ref f1, .ref f2, .ref f3, .ref f4, .ref f5, .ref f6, .ref f7, .ref f8, .ref f9, .ref f10], gO f4 7 [.int (nI 20), .ref a0, .ref a1], gA E a0 120 le, gA E a1 2400 by_, gO f1 6 [.ref tb, .int (nI 0)], gA E tb 600 t]
      exact g_zret C Rt dX9_phrase_44 (by decide) (by decide) (by decide) (⟨rfl, rfl⟩)
    · refine g_iload_n C dX9_phrase_10 rfl ?_
      refine g_callS C (c_X9_isTongue E g ) gX9_phrase_X9_isTongue rfl 1 (by decide +kernel) ⟨by decide, by decide⟩ ⟨by decide, by decide⟩ [] [0, 1, 2, 3, 4, 5] (wr := [gO m 9 [.ref f0, .ref f1, .ref f2, .ref f3, .ref f4, .ref f5, .ref f6, .ref f7, .ref f8, .ref f9, .ref f10], gO f4 7 [.int (nI 20), .ref a0, .ref a1], gA E a0 120 le, gA E a1 2400 by_, gO f1 6 [.ref tb, .int (nI n)], gA E tb 600 t]) rfl (by decide) rfl (by decide) (by decide) rfl rfl (Nat.le_of_ble_eq_true rfl) dX9_phrase_11 ?_
      rintro _ _ ⟨rfl, rfl⟩
      show gg E _ 4 X 0 0 14 [some (.ref m), some (.int y), some (.int g), none] [.int (b2i (decide (¬ g < 0 ∧ ¬ nI 3 ≤ g)))] [gO m 9 [.ref f0, .ref f1, .ref f2, .ref f3, .ref f4, .ref f5, .ref f6, .ref f7, .ref f8, .ref f9, .ref f10], gO f4 7 [.int (nI 20), .ref a0, .ref a1], gA E a0 120 le, gA E a1 2400 by_, gO f1 6 [.ref tb, .int (nI n)], gA E tb 600 t]
      refine g_if_eq (tgt := 21) C dX9_phrase_14 (by decide) (fun c14 => ?_) (fun c14 => ?_)
      · refine g_iconst (v := nI 0) C dX9_phrase_21 (by decide) ?_
        refine g_istore_n C dX9_phrase_22 (by decide) rfl (ll' := [some (.ref m), some (.int y), some (.int g), some (.int (nI 0))]) rfl ?_
        refine g_aload_n C dX9_phrase_23 rfl ?_
        refine g_aload_n C dX9_phrase_24 rfl ?_
        refine g_get C i_X9 0 4 f_42 rfl rfl (by decide) rfl rfl dX9_phrase_25 ?_
        refine g_iload_n C dX9_phrase_28 rfl ?_
        refine g_if_eq (tgt := 40) C dX9_phrase_29 (by decide) (fun c29 => ?_) (fun c29 => absurd c29 (by decide))
        refine g_iconst (v := -1) C dX9_phrase_40 (by decide) ?_
        refine g_callV C (c_X9_keepTape_px E m f0 f1 f2 f3 f4 f5 f6 f7 f8 f9 f10 a0 a1 tb n le by_ t (-1) (Or.inl (by decide)) (by omega)) gX9_phrase_X9_keepTape rfl 2 (by decide +kernel) ⟨by decide, by decide⟩ ⟨by decide, by decide⟩ 0 rfl rfl [0, 1, 2, 3, 4, 5] [] (wr := []) rfl (by decide) rfl (by decide) (by decide) rfl rfl (Nat.le_of_ble_eq_true rfl) dX9_phrase_41 ?_
        rintro _ _ ⟨rfl, rfl⟩
        show gg E _ 4 X 0 0 44 [some (.ref m), some (.int y), some (.int g), some (.int (nI 0))] [.int (nI 0)] [gO m 9 [.ref f0, .ref f1, .ref f2, .ref f3, .ref f4, .ref f5, .ref f6, .ref f7, .ref f8, .ref f9, .ref f10], gO f4 7 [.int (nI 20), .ref a0, .ref a1], gA E a0 120 le, gA E a1 2400 by_, gO f1 6 [.ref tb, .int (nI 0)], gA E tb 600 t]
        exact g_zret C Rt dX9_phrase_44 (by decide) (by decide) (by decide) (⟨rfl, rfl⟩)
      · exact (have z2 := of_decide_eq_true (b2i_t.mp c14); hb.elim (fun z => absurd z c1) (fun z => z.elim (fun z => absurd z c7) (fun z => z.elim (fun z => absurd z z2.1) (fun z => absurd z z2.2))))

abbrev rm_c_X10_phrase_ok : Room := { frames := 2, cells := 0, slots := 0, locals := 42 }
set_option maxHeartbeats 4000000 in
set_option maxRecDepth 100000 in
theorem c_X10_phrase_ok (E : gE) (h : Nat) (ad : Nat → Nat) (iv : Nat → Int32) (n : Nat) (le by_ t : Nat → Int32) (y g : Nat) (hy : y < 40) (hg : g < 3) (hn : n ≤ 20) : MM E yX10_phrase wsX10_phrase rm_c_X10_phrase_ok [.ref h, .int (nI y), .int (nI g)] [gO h 10 (tF ad (upd iv 18 (nI n))), gA E (ad 17) 600 t, gA E (ad 32) 120 le, gA E (ad 33) 2400 by_] (fun rv_ ru_ => rv_ = some (.int (nI 1)) ∧ ru_ = [gO h 10 (tF ad (upd iv 18 (nI 0))), gA E (ad 17) 600 t, gA E (ad 32) 120 (upd le (3 * y + g) (nI n)), gA E (ad 33) 2400 (va_cpy t by_ 0 (20 * (3 * y + g)) n)]) := by
  refine MM.ofG (cc := cX10_phrase) (maxL := 5) (ret := (some .boolean)) (by decide) rfl (Nat.le_of_ble_eq_true rfl) (ll := [some (.ref h), some (.int (nI y)), some (.int (nI g)), none, none]) rfl ?_
  intro X C Rt
  have C : gx E X cX10_phrase 5 wsX10_phrase RX10 := C
  have i_X10 : ∀ w ∈ u_ws RX10 TX10 40, w ∈ wsX10_phrase := by decide +kernel
  have f_120 : Cond.fieldLink RX10 120 "MarkPagesModel" "taped" "I" ∈ wsX10_phrase := by decide +kernel
  have f_49 : Cond.fieldLink RX10 49 "MarkPagesModel" "tape" "[I" ∈ wsX10_phrase := by decide +kernel
  have f_62 : Cond.fieldLink RX10 62 "MarkPagesModel" "phraseLong" "[I" ∈ wsX10_phrase := by decide +kernel
  have f_65 : Cond.fieldLink RX10 65 "MarkPagesModel" "phrase" "[I" ∈ wsX10_phrase := by decide +kernel
  refine g_aload_n C dX10_phrase_0 rfl ?_
  refine g_get C i_X10 0 18 f_120 rfl rfl (by decide) rfl rfl dX10_phrase_1 ?_
  refine g_istore_n C dX10_phrase_4 (by decide) rfl (ll' := [some (.ref h), some (.int (nI y)), some (.int (nI g)), some (.int (nI n)), none]) rfl ?_
  refine g_aload_n C dX10_phrase_5 rfl ?_
  refine g_iconst (v := nI 0) C dX10_phrase_6 (by decide) ?_
  refine g_put C i_X10 tyX10 tyX10_ok nmX10 0 18 f_120 rfl rfl (by decide) rfl rfl rfl rfl rfl (Nat.le_of_ble_eq_true rfl) dX10_phrase_7 (ws' := [gO h 10 (tF ad (upd iv 18 (nI 0))), gA E (ad 17) 600 t, gA E (ad 32) 120 le, gA E (ad 33) 2400 by_]) rfl ?_
  refine g_iload_n C dX10_phrase_10 rfl ?_
  refine g_iconst (v := nI 0) C dX10_phrase_11 (by decide) ?_
  refine g_bipush (v := nI 39) C dX10_phrase_12 (by decide) ?_
  refine g_callS C (c_X10_isIn_y E (nI y) (nI 0) (nI 39) (nI_nlt (Nat.zero_le y) (by omega)) (nI_nlt (by omega) (by omega))) gX10_phrase_X10_isIn rfl 3 (by decide +kernel) ⟨by decide, by decide⟩ ⟨by decide, by decide⟩ [] [0, 1, 2, 3] (wr := [gO h 10 (tF ad (upd iv 18 (nI 0))), gA E (ad 17) 600 t, gA E (ad 32) 120 le, gA E (ad 33) 2400 by_]) rfl (by decide) rfl (by decide) (by decide) rfl rfl (Nat.le_of_ble_eq_true rfl) dX10_phrase_14 ?_
  rintro _ _ ⟨rfl, rfl⟩
  show gg E _ 5 X 0 0 17 [some (.ref h), some (.int (nI y)), some (.int (nI g)), some (.int (nI n)), none] [.int (nI 1)] [gO h 10 (tF ad (upd iv 18 (nI 0))), gA E (ad 17) 600 t, gA E (ad 32) 120 le, gA E (ad 33) 2400 by_]
  refine g_if_eq (tgt := 33) C dX10_phrase_17 (by decide) (fun c17 => absurd c17 (by decide)) (fun c17 => ?_)
  refine g_iload_n C dX10_phrase_20 rfl ?_
  refine g_callS C (c_X10_isTongue_y E g (by omega)) gX10_phrase_X10_isTongue rfl 1 (by decide +kernel) ⟨by decide, by decide⟩ ⟨by decide, by decide⟩ [] [0, 1, 2, 3] (wr := [gO h 10 (tF ad (upd iv 18 (nI 0))), gA E (ad 17) 600 t, gA E (ad 32) 120 le, gA E (ad 33) 2400 by_]) rfl (by decide) rfl (by decide) (by decide) rfl rfl (Nat.le_of_ble_eq_true rfl) dX10_phrase_21 ?_
  rintro _ _ ⟨rfl, rfl⟩
  show gg E _ 5 X 0 0 24 [some (.ref h), some (.int (nI y)), some (.int (nI g)), some (.int (nI n)), none] [.int (nI 1)] [gO h 10 (tF ad (upd iv 18 (nI 0))), gA E (ad 17) 600 t, gA E (ad 32) 120 le, gA E (ad 33) 2400 by_]
  refine g_if_eq (tgt := 33) C dX10_phrase_24 (by decide) (fun c24 => absurd c24 (by decide)) (fun c24 => ?_)
  refine g_iload_n C dX10_phrase_27 rfl ?_
  refine g_bipush (v := nI 20) C dX10_phrase_28 (by decide) ?_
  refine g_icmp_le_n (tgt := 35) C dX10_phrase_30 (by decide) (by omega) (by omega) (fun c30 => ?_) (fun c30 => ?_)
  · refine g_aload_n C dX10_phrase_35 rfl ?_
    refine g_get C i_X10 0 32 f_62 rfl rfl (by decide) rfl rfl dX10_phrase_36 ?_
    refine g_iconst (v := nI 3) C dX10_phrase_39 (by decide) ?_
    refine g_iload_n C dX10_phrase_40 rfl ?_
    refine g_imul_n C dX10_phrase_41 ?_
    refine g_iload_n C dX10_phrase_42 rfl ?_
    refine g_iadd_n C dX10_phrase_43 ?_
    refine g_iload_n C dX10_phrase_44 rfl ?_
    refine g_iast C 2 ((3 * y) + g) rfl rfl (by omega) (by decide) dX10_phrase_45 (ws' := [gO h 10 (tF ad (upd iv 18 (nI 0))), gA E (ad 17) 600 t, gA E (ad 32) 120 (upd le ((3 * y) + g) (nI n)), gA E (ad 33) 2400 by_]) rfl ?_
    refine g_iconst (v := nI 0) C dX10_phrase_46 (by decide) ?_
    refine g_istore C dX10_phrase_47 (by decide) rfl (ll' := [some (.ref h), some (.int (nI y)), some (.int (nI g)), some (.int (nI n)), some (.int (nI 0))]) rfl ?_
    have L49 : ∀ (n49 : Nat) (j : Nat) (b1 : Nat → Int32), n - j < n49 → (j ≤ n) → (b1 = va_cpy t by_ 0 (20 * (3 * y + g)) j) → gg E rm_c_X10_phrase_ok 5 X 0 0 49 [some (.ref h), some (.int (nI y)), some (.int (nI g)), some (.int (nI n)), some (.int (nI j))] [] [gO h 10 (tF ad (upd iv 18 (nI 0))), gA E (ad 17) 600 t, gA E (ad 32) 120 (upd le (3 * y + g) (nI n)), gA E (ad 33) 2400 b1] := by
      intro n49
      induction n49 with
      | zero => intro j b1 hm49; exact absurd hm49 (Nat.not_lt_zero _)
      | succ n49 ih49 =>
        intro j b1 hm49 hj hb
        refine g_iload C dX10_phrase_49 rfl ?_
        refine g_iload_n C dX10_phrase_51 rfl ?_
        refine g_icmp_ge_n (tgt := 84) C dX10_phrase_52 (by decide) (by omega) (by omega) (fun c52 => ?_) (fun c52 => ?_)
        · refine g_iconst (v := nI 1) C dX10_phrase_84 (by decide) ?_
          exact g_zret C Rt dX10_phrase_85 (by decide) (by decide) (by decide) (⟨rfl, by rw [hb, show j = n by omega]⟩)
        · refine g_aload_n C dX10_phrase_55 rfl ?_
          refine g_get C i_X10 0 33 f_65 rfl rfl (by decide) rfl rfl dX10_phrase_56 ?_
          refine g_bipush (v := nI 20) C dX10_phrase_59 (by decide) ?_
          refine g_iconst (v := nI 3) C dX10_phrase_61 (by decide) ?_
          refine g_iload_n C dX10_phrase_62 rfl ?_
          refine g_imul_n C dX10_phrase_63 ?_
          refine g_iload_n C dX10_phrase_64 rfl ?_
          refine g_iadd_n C dX10_phrase_65 ?_
          refine g_imul_n C dX10_phrase_66 ?_
          refine g_iload C dX10_phrase_67 rfl ?_
          refine g_iadd_n C dX10_phrase_69 ?_
          refine g_aload_n C dX10_phrase_70 rfl ?_
          refine g_get C i_X10 0 17 f_49 rfl rfl (by decide) rfl rfl dX10_phrase_71 ?_
          refine g_iload C dX10_phrase_74 rfl ?_
          refine g_iald C 1 j rfl rfl (by omega) (by decide) dX10_phrase_76 ?_
          refine g_iast C 3 ((20 * ((3 * y) + g)) + j) rfl rfl (by omega) (by decide) dX10_phrase_77 (ws' := [gO h 10 (tF ad (upd iv 18 (nI 0))), gA E (ad 17) 600 t, gA E (ad 32) 120 (upd le (3 * y + g) (nI n)), gA E (ad 33) 2400 (upd b1 ((20 * ((3 * y) + g)) + j) (t j))]) rfl ?_
          refine g_iinc_n (y := 1) C dX10_phrase_78 rfl (by decide) (by decide) rfl (ll' := [some (.ref h), some (.int (nI y)), some (.int (nI g)), some (.int (nI n)), some (.int (nI (j + 1)))]) rfl ?_
          refine g_goto (tgt := 49) C dX10_phrase_81 (by decide) ?_
          exact ih49 (j + 1) (upd b1 ((20 * ((3 * y) + g)) + j) (t j)) (by omega) (by omega) (by rw [hb, cpy_succ])
    exact L49 _ 0 by_ (Nat.lt_succ_self _) (by omega) ((cpy_zero _ _ _).symm)
  · exact absurd hn (by omega)

abbrev rm_c_X10_phrase_long : Room := { frames := 2, cells := 0, slots := 0, locals := 42 }
set_option maxHeartbeats 4000000 in
set_option maxRecDepth 100000 in
theorem c_X10_phrase_long (E : gE) (h : Nat) (ad : Nat → Nat) (iv : Nat → Int32) (n : Nat) (le by_ t : Nat → Int32) (y g : Nat) (hy : y < 40) (hg : g < 3) (hl : 20 < n) (hn : n ≤ 600) : MM E yX10_phrase wsX10_phrase rm_c_X10_phrase_long [.ref h, .int (nI y), .int (nI g)] [gO h 10 (tF ad (upd iv 18 (nI n))), gA E (ad 17) 600 t, gA E (ad 32) 120 le, gA E (ad 33) 2400 by_] (fun rv_ ru_ => rv_ = some (.int (nI 0)) ∧ ru_ = [gO h 10 (tF ad (upd iv 18 (nI 0))), gA E (ad 17) 600 t, gA E (ad 32) 120 le, gA E (ad 33) 2400 by_]) := by
  refine MM.ofG (cc := cX10_phrase) (maxL := 5) (ret := (some .boolean)) (by decide) rfl (Nat.le_of_ble_eq_true rfl) (ll := [some (.ref h), some (.int (nI y)), some (.int (nI g)), none, none]) rfl ?_
  intro X C Rt
  have C : gx E X cX10_phrase 5 wsX10_phrase RX10 := C
  have i_X10 : ∀ w ∈ u_ws RX10 TX10 40, w ∈ wsX10_phrase := by decide +kernel
  have f_120 : Cond.fieldLink RX10 120 "MarkPagesModel" "taped" "I" ∈ wsX10_phrase := by decide +kernel
  refine g_aload_n C dX10_phrase_0 rfl ?_
  refine g_get C i_X10 0 18 f_120 rfl rfl (by decide) rfl rfl dX10_phrase_1 ?_
  refine g_istore_n C dX10_phrase_4 (by decide) rfl (ll' := [some (.ref h), some (.int (nI y)), some (.int (nI g)), some (.int (nI n)), none]) rfl ?_
  refine g_aload_n C dX10_phrase_5 rfl ?_
  refine g_iconst (v := nI 0) C dX10_phrase_6 (by decide) ?_
  refine g_put C i_X10 tyX10 tyX10_ok nmX10 0 18 f_120 rfl rfl (by decide) rfl rfl rfl rfl rfl (Nat.le_of_ble_eq_true rfl) dX10_phrase_7 (ws' := [gO h 10 (tF ad (upd iv 18 (nI 0))), gA E (ad 17) 600 t, gA E (ad 32) 120 le, gA E (ad 33) 2400 by_]) rfl ?_
  refine g_iload_n C dX10_phrase_10 rfl ?_
  refine g_iconst (v := nI 0) C dX10_phrase_11 (by decide) ?_
  refine g_bipush (v := nI 39) C dX10_phrase_12 (by decide) ?_
  refine g_callS C (c_X10_isIn_y E (nI y) (nI 0) (nI 39) (nI_nlt (Nat.zero_le y) (by omega)) (nI_nlt (by omega) (by omega))) gX10_phrase_X10_isIn rfl 3 (by decide +kernel) ⟨by decide, by decide⟩ ⟨by decide, by decide⟩ [] [0, 1, 2, 3] (wr := [gO h 10 (tF ad (upd iv 18 (nI 0))), gA E (ad 17) 600 t, gA E (ad 32) 120 le, gA E (ad 33) 2400 by_]) rfl (by decide) rfl (by decide) (by decide) rfl rfl (Nat.le_of_ble_eq_true rfl) dX10_phrase_14 ?_
  rintro _ _ ⟨rfl, rfl⟩
  show gg E _ 5 X 0 0 17 [some (.ref h), some (.int (nI y)), some (.int (nI g)), some (.int (nI n)), none] [.int (nI 1)] [gO h 10 (tF ad (upd iv 18 (nI 0))), gA E (ad 17) 600 t, gA E (ad 32) 120 le, gA E (ad 33) 2400 by_]
  refine g_if_eq (tgt := 33) C dX10_phrase_17 (by decide) (fun c17 => absurd c17 (by decide)) (fun c17 => ?_)
  refine g_iload_n C dX10_phrase_20 rfl ?_
  refine g_callS C (c_X10_isTongue_y E g (by omega)) gX10_phrase_X10_isTongue rfl 1 (by decide +kernel) ⟨by decide, by decide⟩ ⟨by decide, by decide⟩ [] [0, 1, 2, 3] (wr := [gO h 10 (tF ad (upd iv 18 (nI 0))), gA E (ad 17) 600 t, gA E (ad 32) 120 le, gA E (ad 33) 2400 by_]) rfl (by decide) rfl (by decide) (by decide) rfl rfl (Nat.le_of_ble_eq_true rfl) dX10_phrase_21 ?_
  rintro _ _ ⟨rfl, rfl⟩
  show gg E _ 5 X 0 0 24 [some (.ref h), some (.int (nI y)), some (.int (nI g)), some (.int (nI n)), none] [.int (nI 1)] [gO h 10 (tF ad (upd iv 18 (nI 0))), gA E (ad 17) 600 t, gA E (ad 32) 120 le, gA E (ad 33) 2400 by_]
  refine g_if_eq (tgt := 33) C dX10_phrase_24 (by decide) (fun c24 => absurd c24 (by decide)) (fun c24 => ?_)
  refine g_iload_n C dX10_phrase_27 rfl ?_
  refine g_bipush (v := nI 20) C dX10_phrase_28 (by decide) ?_
  refine g_icmp_le_n (tgt := 35) C dX10_phrase_30 (by decide) (by omega) (by omega) (fun c30 => ?_) (fun c30 => ?_)
  · exact absurd hl (by omega)
  · refine g_iconst (v := nI 0) C dX10_phrase_33 (by decide) ?_
    exact g_zret C Rt dX10_phrase_34 (by decide) (by decide) (by decide) (⟨rfl, rfl⟩)

abbrev rm_c_X10_phrase_bad : Room := { frames := 2, cells := 0, slots := 0, locals := 42 }
set_option maxHeartbeats 4000000 in
set_option maxRecDepth 100000 in
theorem c_X10_phrase_bad (E : gE) (h : Nat) (ad : Nat → Nat) (iv : Nat → Int32) (n : Nat) (y g : Int32) (hb : y < 0 ∨ nI 39 < y ∨ g < 0 ∨ nI 2 < g) : MM E yX10_phrase wsX10_phrase rm_c_X10_phrase_bad [.ref h, .int y, .int g] [gO h 10 (tF ad (upd iv 18 (nI n)))] (fun rv_ ru_ => rv_ = some (.int (nI 0)) ∧ ru_ = [gO h 10 (tF ad (upd iv 18 (nI 0)))]) := by
  refine MM.ofG (cc := cX10_phrase) (maxL := 5) (ret := (some .boolean)) (by decide) rfl (Nat.le_of_ble_eq_true rfl) (ll := [some (.ref h), some (.int y), some (.int g), none, none]) rfl ?_
  intro X C Rt
  have C : gx E X cX10_phrase 5 wsX10_phrase RX10 := C
  have i_X10 : ∀ w ∈ u_ws RX10 TX10 40, w ∈ wsX10_phrase := by decide +kernel
  have f_120 : Cond.fieldLink RX10 120 "MarkPagesModel" "taped" "I" ∈ wsX10_phrase := by decide +kernel
  refine g_aload_n C dX10_phrase_0 rfl ?_
  refine g_get C i_X10 0 18 f_120 rfl rfl (by decide) rfl rfl dX10_phrase_1 ?_
  refine g_istore_n C dX10_phrase_4 (by decide) rfl (ll' := [some (.ref h), some (.int y), some (.int g), some (.int (nI n)), none]) rfl ?_
  refine g_aload_n C dX10_phrase_5 rfl ?_
  refine g_iconst (v := nI 0) C dX10_phrase_6 (by decide) ?_
  refine g_put C i_X10 tyX10 tyX10_ok nmX10 0 18 f_120 rfl rfl (by decide) rfl rfl rfl rfl rfl (Nat.le_of_ble_eq_true rfl) dX10_phrase_7 (ws' := [gO h 10 (tF ad (upd iv 18 (nI 0)))]) rfl ?_
  refine g_iload_n C dX10_phrase_10 rfl ?_
  refine g_iconst (v := nI 0) C dX10_phrase_11 (by decide) ?_
  refine g_bipush (v := nI 39) C dX10_phrase_12 (by decide) ?_
  refine g_callS C (c_X10_isIn E y (nI 0) (nI 39) ) gX10_phrase_X10_isIn rfl 3 (by decide +kernel) ⟨by decide, by decide⟩ ⟨by decide, by decide⟩ [] [0] (wr := [gO h 10 (tF ad (upd iv 18 (nI 0)))]) rfl (by decide) rfl (by decide) (by decide) rfl rfl (Nat.le_of_ble_eq_true rfl) dX10_phrase_14 ?_
  rintro _ _ ⟨rfl, rfl⟩
  show gg E _ 5 X 0 0 17 [some (.ref h), some (.int y), some (.int g), some (.int (nI n)), none] [.int (b2i (decide (¬ y < (nI 0) ∧ ¬ (nI 39) < y)))] [gO h 10 (tF ad (upd iv 18 (nI 0)))]
  refine g_if_eq (tgt := 33) C dX10_phrase_17 (by decide) (fun c17 => ?_) (fun c17 => ?_)
  · refine g_iconst (v := nI 0) C dX10_phrase_33 (by decide) ?_
    exact g_zret C Rt dX10_phrase_34 (by decide) (by decide) (by decide) (⟨rfl, rfl⟩)
  · refine g_iload_n C dX10_phrase_20 rfl ?_
    refine g_callS C (c_X10_isTongue E g ) gX10_phrase_X10_isTongue rfl 1 (by decide +kernel) ⟨by decide, by decide⟩ ⟨by decide, by decide⟩ [] [0] (wr := [gO h 10 (tF ad (upd iv 18 (nI 0)))]) rfl (by decide) rfl (by decide) (by decide) rfl rfl (Nat.le_of_ble_eq_true rfl) dX10_phrase_21 ?_
    rintro _ _ ⟨rfl, rfl⟩
    show gg E _ 5 X 0 0 24 [some (.ref h), some (.int y), some (.int g), some (.int (nI n)), none] [.int (b2i (decide (¬ g < nI 0 ∧ ¬ nI 2 < g)))] [gO h 10 (tF ad (upd iv 18 (nI 0)))]
    refine g_if_eq (tgt := 33) C dX10_phrase_24 (by decide) (fun c24 => ?_) (fun c24 => ?_)
    · refine g_iconst (v := nI 0) C dX10_phrase_33 (by decide) ?_
      exact g_zret C Rt dX10_phrase_34 (by decide) (by decide) (by decide) (⟨rfl, rfl⟩)
    · exact (have z1 := of_decide_eq_true (b2i_t.mp c17); have z2 := of_decide_eq_true (b2i_t.mp c24); hb.elim (fun z => absurd z z1.1) (fun z => z.elim (fun z => absurd z z1.2) (fun z => z.elim (fun z => absurd z z2.1) (fun z => absurd z z2.2))))

abbrev rm_c_X7_keep_n : Room := { frames := 1, cells := 0, slots := 0, locals := 40 }
set_option maxHeartbeats 4000000 in
set_option maxRecDepth 100000 in
theorem c_X7_keep_n (E : gE) (h a0 a1 th tb n r : Nat) (le by_ t : Nat → Int32) (hr : r < 15) (hn : n ≤ 10) : MM E yX7_keep wsX7_keep rm_c_X7_keep_n [.ref h, .int (nI r), .ref th] [gO h 7 [.int (nI 10), .ref a0, .ref a1], gA E a0 15 le, gA E a1 150 by_, gO th 6 [.ref tb, .int (nI n)], gA E tb 600 t] (fun rv_ ru_ => rv_ = some (.int (nI 1)) ∧ ru_ = [gO h 7 [.int (nI 10), .ref a0, .ref a1], gA E a0 15 (upd le r (nI n)), gA E a1 150 (va_cpy t by_ 0 (10 * r) n), gO th 6 [.ref tb, .int (nI n)], gA E tb 600 t]) := by
  refine MM.ofG (cc := cX7_keep) (maxL := 3) (ret := (some .boolean)) (by decide) rfl (Nat.le_of_ble_eq_true rfl) (ll := [some (.ref h), some (.int (nI r)), some (.ref th)]) rfl ?_
  intro X C Rt
  have C : gx E X cX7_keep 3 wsX7_keep RX7 := C
  have i_X6 : ∀ w ∈ u_ws RX6 TX6 2, w ∈ wsX7_keep := by decide +kernel
  have i_X7 : ∀ w ∈ u_ws RX7 TX7 3, w ∈ wsX7_keep := by decide +kernel
  have ac_i : Cond.initialized "java/lang/System" ∈ wsX7_keep := by decide +kernel
  have ac_l : Cond.methodLink RX7 26 arraycopyName ∈ wsX7_keep := by decide +kernel
  have ac_n : Cond.native arraycopyName ∈ wsX7_keep := by decide +kernel
  have ac_s : Cond.static arraycopyName ∈ wsX7_keep := by decide +kernel
  have f_13 : Cond.fieldLink RX7 13 "MarkPages$Texts" "lengths" "[I" ∈ wsX7_keep := by decide +kernel
  have f_17 : Cond.fieldLink RX7 17 "MarkPages$Texts" "bytes" "[I" ∈ wsX7_keep := by decide +kernel
  have f_20 : Cond.fieldLink RX7 20 "MarkPages$Tape" "count" "I" ∈ wsX7_keep := by decide +kernel
  have f_25 : Cond.fieldLink RX7 25 "MarkPages$Tape" "bytes" "[I" ∈ wsX7_keep := by decide +kernel
  have f_7 : Cond.fieldLink RX7 7 "MarkPages$Texts" "width" "I" ∈ wsX7_keep := by decide +kernel
  refine g_iload_n C dX7_keep_0 rfl ?_
  refine g_if_lt_n (tgt := 24) C dX7_keep_1 (by decide) (by omega) ?_
  refine g_iload_n C dX7_keep_4 rfl ?_
  refine g_aload_n C dX7_keep_5 rfl ?_
  refine g_get C i_X7 0 1 f_13 rfl rfl (by decide) rfl rfl dX7_keep_6 ?_
  refine g_alen C 1 rfl dX7_keep_9 ?_
  refine g_icmp_ge_n (tgt := 24) C dX7_keep_10 (by decide) (by omega) (by omega) (fun c10 => ?_) (fun c10 => ?_)
  · exact absurd hr (by omega)
  · refine g_aload_n C dX7_keep_13 rfl ?_
    refine g_get C i_X6 3 1 f_20 rfl rfl (by decide) rfl rfl dX7_keep_14 ?_
    refine g_aload_n C dX7_keep_17 rfl ?_
    refine g_get C i_X7 0 0 f_7 rfl rfl (by decide) rfl rfl dX7_keep_18 ?_
    refine g_icmp_le_n (tgt := 26) C dX7_keep_21 (by decide) (by omega) (by omega) (fun c21 => ?_) (fun c21 => ?_)
    · refine g_aload_n C dX7_keep_26 rfl ?_
      refine g_get C i_X6 3 0 f_25 rfl rfl (by decide) rfl rfl dX7_keep_27 ?_
      refine g_iconst (v := nI 0) C dX7_keep_30 (by decide) ?_
      refine g_aload_n C dX7_keep_31 rfl ?_
      refine g_get C i_X7 0 2 f_17 rfl rfl (by decide) rfl rfl dX7_keep_32 ?_
      refine g_iload_n C dX7_keep_35 rfl ?_
      refine g_aload_n C dX7_keep_36 rfl ?_
      refine g_get C i_X7 0 0 f_7 rfl rfl (by decide) rfl rfl dX7_keep_37 ?_
      refine g_imul_n C dX7_keep_40 ?_
      refine g_aload_n C dX7_keep_41 rfl ?_
      refine g_get C i_X6 3 1 f_20 rfl rfl (by decide) rfl rfl dX7_keep_42 ?_
      refine g_copyi (sp := 0) (dp := (r * 10)) (cn := n) C ac_l ac_n ac_s ac_i 4 2 rfl rfl (by omega) (by omega) (by omega) (by omega) (by omega) (by decide) (Nat.le_of_ble_eq_true rfl) dX7_keep_45 (ws' := [gO h 7 [.int (nI 10), .ref a0, .ref a1], gA E a0 15 le, gA E a1 150 (va_cpy t by_ 0 (r * 10) n), gO th 6 [.ref tb, .int (nI n)], gA E tb 600 t]) rfl ?_
      refine g_aload_n C dX7_keep_48 rfl ?_
      refine g_get C i_X7 0 1 f_13 rfl rfl (by decide) rfl rfl dX7_keep_49 ?_
      refine g_iload_n C dX7_keep_52 rfl ?_
      refine g_aload_n C dX7_keep_53 rfl ?_
      refine g_get C i_X6 3 1 f_20 rfl rfl (by decide) rfl rfl dX7_keep_54 ?_
      refine g_iast C 1 r rfl rfl (by omega) (by decide) dX7_keep_57 (ws' := [gO h 7 [.int (nI 10), .ref a0, .ref a1], gA E a0 15 (upd le r (nI n)), gA E a1 150 (va_cpy t by_ 0 (r * 10) n), gO th 6 [.ref tb, .int (nI n)], gA E tb 600 t]) rfl ?_
      refine g_iconst (v := nI 1) C dX7_keep_58 (by decide) ?_
      exact g_zret C Rt dX7_keep_59 (by decide) (by decide) (by decide) (⟨rfl, by rw [Nat.mul_comm r 10]⟩)
    · exact absurd hn (by omega)

abbrev rm_c_X7_keep_nx : Room := { frames := 1, cells := 0, slots := 0, locals := 40 }
set_option maxHeartbeats 4000000 in
set_option maxRecDepth 100000 in
theorem c_X7_keep_nx (E : gE) (h a0 a1 th tb n : Nat) (le by_ t : Nat → Int32) (q : Int32) (hb : q < 0 ∨ 10 < n) (hn : n ≤ 600) : MM E yX7_keep wsX7_keep rm_c_X7_keep_nx [.ref h, .int q, .ref th] [gO h 7 [.int (nI 10), .ref a0, .ref a1], gA E a0 15 le, gA E a1 150 by_, gO th 6 [.ref tb, .int (nI n)], gA E tb 600 t] (fun rv_ ru_ => rv_ = some (.int (nI 0)) ∧ ru_ = [gO h 7 [.int (nI 10), .ref a0, .ref a1], gA E a0 15 le, gA E a1 150 by_, gO th 6 [.ref tb, .int (nI n)], gA E tb 600 t]) := by
  refine MM.ofG (cc := cX7_keep) (maxL := 3) (ret := (some .boolean)) (by decide) rfl (Nat.le_of_ble_eq_true rfl) (ll := [some (.ref h), some (.int q), some (.ref th)]) rfl ?_
  intro X C Rt
  have C : gx E X cX7_keep 3 wsX7_keep RX7 := C
  have i_X6 : ∀ w ∈ u_ws RX6 TX6 2, w ∈ wsX7_keep := by decide +kernel
  have i_X7 : ∀ w ∈ u_ws RX7 TX7 3, w ∈ wsX7_keep := by decide +kernel
  have f_13 : Cond.fieldLink RX7 13 "MarkPages$Texts" "lengths" "[I" ∈ wsX7_keep := by decide +kernel
  have f_20 : Cond.fieldLink RX7 20 "MarkPages$Tape" "count" "I" ∈ wsX7_keep := by decide +kernel
  have f_7 : Cond.fieldLink RX7 7 "MarkPages$Texts" "width" "I" ∈ wsX7_keep := by decide +kernel
  refine g_iload_n C dX7_keep_0 rfl ?_
  refine g_if_lt (tgt := 24) C dX7_keep_1 (by decide) (fun c1 => ?_) (fun c1 => ?_)
  · refine g_iconst (v := nI 0) C dX7_keep_24 (by decide) ?_
    exact g_zret C Rt dX7_keep_25 (by decide) (by decide) (by decide) (⟨rfl, rfl⟩)
  · refine g_iload_n C dX7_keep_4 rfl ?_
    refine g_aload_n C dX7_keep_5 rfl ?_
    refine g_get C i_X7 0 1 f_13 rfl rfl (by decide) rfl rfl dX7_keep_6 ?_
    refine g_alen C 1 rfl dX7_keep_9 ?_
    refine g_icmp_ge (tgt := 24) C dX7_keep_10 (by decide) (fun c10 => ?_) (fun c10 => ?_)
    · refine g_iconst (v := nI 0) C dX7_keep_24 (by decide) ?_
      exact g_zret C Rt dX7_keep_25 (by decide) (by decide) (by decide) (⟨rfl, rfl⟩)
    · refine g_aload_n C dX7_keep_13 rfl ?_
      refine g_get C i_X6 3 1 f_20 rfl rfl (by decide) rfl rfl dX7_keep_14 ?_
      refine g_aload_n C dX7_keep_17 rfl ?_
      refine g_get C i_X7 0 0 f_7 rfl rfl (by decide) rfl rfl dX7_keep_18 ?_
      refine g_icmp_le_n (tgt := 26) C dX7_keep_21 (by decide) (by omega) (by omega) (fun c21 => ?_) (fun c21 => ?_)
      · exact hb.elim (fun z => absurd z c1) (fun z => absurd c21 (by omega))
      · refine g_iconst (v := nI 0) C dX7_keep_24 (by decide) ?_
        exact g_zret C Rt dX7_keep_25 (by decide) (by decide) (by decide) (⟨rfl, rfl⟩)

abbrev rm_c_X9_keepTape_n : Room := { frames := 2, cells := 0, slots := 0, locals := 62 }
set_option maxHeartbeats 4000000 in
set_option maxRecDepth 100000 in
theorem c_X9_keepTape_n (E : gE) (m f0 f1 f2 f3 f4 f5 f6 f7 f8 f9 f10 : Nat) (a0 a1 tb n r : Nat) (le by_ t : Nat → Int32) (hr : r < 15) (hn : n ≤ 10) : MM E yX9_keepTape wsX9_keepTape rm_c_X9_keepTape_n [.ref m, .ref f5, .int (nI r)] [gO m 9 [.ref f0, .ref f1, .ref f2, .ref f3, .ref f4, .ref f5, .ref f6, .ref f7, .ref f8, .ref f9, .ref f10], gO f5 7 [.int (nI 10), .ref a0, .ref a1], gA E a0 15 le, gA E a1 150 by_, gO f1 6 [.ref tb, .int (nI n)], gA E tb 600 t] (fun rv_ ru_ => rv_ = some (.int (nI 1)) ∧ ru_ = [gO m 9 [.ref f0, .ref f1, .ref f2, .ref f3, .ref f4, .ref f5, .ref f6, .ref f7, .ref f8, .ref f9, .ref f10], gO f5 7 [.int (nI 10), .ref a0, .ref a1], gA E a0 15 (upd le r (nI n)), gA E a1 150 (va_cpy t by_ 0 (10 * r) n), gO f1 6 [.ref tb, .int (nI 0)], gA E tb 600 t]) := by
  refine MM.ofG (cc := cX9_keepTape) (maxL := 4) (ret := (some .boolean)) (by decide) rfl (Nat.le_of_ble_eq_true rfl) (ll := [some (.ref m), some (.ref f5), some (.int (nI r)), none]) rfl ?_
  intro X C Rt
  have C : gx E X cX9_keepTape 4 wsX9_keepTape RX9 := C
  have i_X6 : ∀ w ∈ u_ws RX6 TX6 2, w ∈ wsX9_keepTape := by decide +kernel
  have i_X9 : ∀ w ∈ u_ws RX9 TX9 11, w ∈ wsX9_keepTape := by decide +kernel
  have f_113 : Cond.fieldLink RX9 113 "MarkPages$Tape" "count" "I" ∈ wsX9_keepTape := by decide +kernel
  have f_19 : Cond.fieldLink RX9 19 "MarkPages" "tape" "LMarkPages$Tape;" ∈ wsX9_keepTape := by decide +kernel
  refine g_aload_n C dX9_keepTape_0 rfl ?_
  refine g_iload_n C dX9_keepTape_1 rfl ?_
  refine g_aload_n C dX9_keepTape_2 rfl ?_
  refine g_get C i_X9 0 1 f_19 rfl rfl (by decide) rfl rfl dX9_keepTape_3 ?_
  refine g_callV C (c_X7_keep_n E f5 a0 a1 f1 tb n r le by_ t (by omega) (by omega)) gX9_keepTape_X7_keep rfl 2 (by decide +kernel) ⟨by decide, by decide⟩ ⟨by decide, by decide⟩ 1 rfl rfl [1, 2, 3, 4, 5] [0] (wr := [gO m 9 [.ref f0, .ref f1, .ref f2, .ref f3, .ref f4, .ref f5, .ref f6, .ref f7, .ref f8, .ref f9, .ref f10]]) rfl (by decide) rfl (by decide) (by decide) rfl rfl (Nat.le_of_ble_eq_true rfl) dX9_keepTape_6 ?_
  rintro _ _ ⟨rfl, rfl⟩
  show gg E _ 4 X 0 0 9 [some (.ref m), some (.ref f5), some (.int (nI r)), none] [.int (nI 1)] [gO m 9 [.ref f0, .ref f1, .ref f2, .ref f3, .ref f4, .ref f5, .ref f6, .ref f7, .ref f8, .ref f9, .ref f10], gO f5 7 [.int (nI 10), .ref a0, .ref a1], gA E a0 15 (upd le r (nI n)), gA E a1 150 (va_cpy t by_ 0 (10 * r) n), gO f1 6 [.ref tb, .int (nI n)], gA E tb 600 t]
  refine g_istore_n C dX9_keepTape_9 (by decide) rfl (ll' := [some (.ref m), some (.ref f5), some (.int (nI r)), some (.int (nI 1))]) rfl ?_
  refine g_aload_n C dX9_keepTape_10 rfl ?_
  refine g_get C i_X9 0 1 f_19 rfl rfl (by decide) rfl rfl dX9_keepTape_11 ?_
  refine g_iconst (v := nI 0) C dX9_keepTape_14 (by decide) ?_
  refine g_put C i_X6 tyX6 tyX6_ok nmX6 4 1 f_113 rfl rfl (by decide) rfl rfl rfl rfl rfl (Nat.le_of_ble_eq_true rfl) dX9_keepTape_15 (ws' := [gO m 9 [.ref f0, .ref f1, .ref f2, .ref f3, .ref f4, .ref f5, .ref f6, .ref f7, .ref f8, .ref f9, .ref f10], gO f5 7 [.int (nI 10), .ref a0, .ref a1], gA E a0 15 (upd le r (nI n)), gA E a1 150 (va_cpy t by_ 0 (10 * r) n), gO f1 6 [.ref tb, .int (nI 0)], gA E tb 600 t]) rfl ?_
  refine g_iload_n C dX9_keepTape_18 rfl ?_
  exact g_zret C Rt dX9_keepTape_19 (by decide) (by decide) (by decide) (⟨rfl, rfl⟩)

abbrev rm_c_X9_keepTape_nx : Room := { frames := 2, cells := 0, slots := 0, locals := 62 }
set_option maxHeartbeats 4000000 in
set_option maxRecDepth 100000 in
theorem c_X9_keepTape_nx (E : gE) (m f0 f1 f2 f3 f4 f5 f6 f7 f8 f9 f10 : Nat) (a0 a1 tb n : Nat) (le by_ t : Nat → Int32) (q : Int32) (hb : q < 0 ∨ 10 < n) (hn : n ≤ 600) : MM E yX9_keepTape wsX9_keepTape rm_c_X9_keepTape_nx [.ref m, .ref f5, .int q] [gO m 9 [.ref f0, .ref f1, .ref f2, .ref f3, .ref f4, .ref f5, .ref f6, .ref f7, .ref f8, .ref f9, .ref f10], gO f5 7 [.int (nI 10), .ref a0, .ref a1], gA E a0 15 le, gA E a1 150 by_, gO f1 6 [.ref tb, .int (nI n)], gA E tb 600 t] (fun rv_ ru_ => rv_ = some (.int (nI 0)) ∧ ru_ = [gO m 9 [.ref f0, .ref f1, .ref f2, .ref f3, .ref f4, .ref f5, .ref f6, .ref f7, .ref f8, .ref f9, .ref f10], gO f5 7 [.int (nI 10), .ref a0, .ref a1], gA E a0 15 le, gA E a1 150 by_, gO f1 6 [.ref tb, .int (nI 0)], gA E tb 600 t]) := by
  refine MM.ofG (cc := cX9_keepTape) (maxL := 4) (ret := (some .boolean)) (by decide) rfl (Nat.le_of_ble_eq_true rfl) (ll := [some (.ref m), some (.ref f5), some (.int q), none]) rfl ?_
  intro X C Rt
  have C : gx E X cX9_keepTape 4 wsX9_keepTape RX9 := C
  have i_X6 : ∀ w ∈ u_ws RX6 TX6 2, w ∈ wsX9_keepTape := by decide +kernel
  have i_X9 : ∀ w ∈ u_ws RX9 TX9 11, w ∈ wsX9_keepTape := by decide +kernel
  have f_113 : Cond.fieldLink RX9 113 "MarkPages$Tape" "count" "I" ∈ wsX9_keepTape := by decide +kernel
  have f_19 : Cond.fieldLink RX9 19 "MarkPages" "tape" "LMarkPages$Tape;" ∈ wsX9_keepTape := by decide +kernel
  refine g_aload_n C dX9_keepTape_0 rfl ?_
  refine g_iload_n C dX9_keepTape_1 rfl ?_
  refine g_aload_n C dX9_keepTape_2 rfl ?_
  refine g_get C i_X9 0 1 f_19 rfl rfl (by decide) rfl rfl dX9_keepTape_3 ?_
  refine g_callV C (c_X7_keep_nx E f5 a0 a1 f1 tb n le by_ t q (hb) (by omega)) gX9_keepTape_X7_keep rfl 2 (by decide +kernel) ⟨by decide, by decide⟩ ⟨by decide, by decide⟩ 1 rfl rfl [1, 2, 3, 4, 5] [0] (wr := [gO m 9 [.ref f0, .ref f1, .ref f2, .ref f3, .ref f4, .ref f5, .ref f6, .ref f7, .ref f8, .ref f9, .ref f10]]) rfl (by decide) rfl (by decide) (by decide) rfl rfl (Nat.le_of_ble_eq_true rfl) dX9_keepTape_6 ?_
  rintro _ _ ⟨rfl, rfl⟩
  show gg E _ 4 X 0 0 9 [some (.ref m), some (.ref f5), some (.int q), none] [.int (nI 0)] [gO m 9 [.ref f0, .ref f1, .ref f2, .ref f3, .ref f4, .ref f5, .ref f6, .ref f7, .ref f8, .ref f9, .ref f10], gO f5 7 [.int (nI 10), .ref a0, .ref a1], gA E a0 15 le, gA E a1 150 by_, gO f1 6 [.ref tb, .int (nI n)], gA E tb 600 t]
  refine g_istore_n C dX9_keepTape_9 (by decide) rfl (ll' := [some (.ref m), some (.ref f5), some (.int q), some (.int (nI 0))]) rfl ?_
  refine g_aload_n C dX9_keepTape_10 rfl ?_
  refine g_get C i_X9 0 1 f_19 rfl rfl (by decide) rfl rfl dX9_keepTape_11 ?_
  refine g_iconst (v := nI 0) C dX9_keepTape_14 (by decide) ?_
  refine g_put C i_X6 tyX6 tyX6_ok nmX6 4 1 f_113 rfl rfl (by decide) rfl rfl rfl rfl rfl (Nat.le_of_ble_eq_true rfl) dX9_keepTape_15 (ws' := [gO m 9 [.ref f0, .ref f1, .ref f2, .ref f3, .ref f4, .ref f5, .ref f6, .ref f7, .ref f8, .ref f9, .ref f10], gO f5 7 [.int (nI 10), .ref a0, .ref a1], gA E a0 15 le, gA E a1 150 by_, gO f1 6 [.ref tb, .int (nI 0)], gA E tb 600 t]) rfl ?_
  refine g_iload_n C dX9_keepTape_18 rfl ?_
  exact g_zret C Rt dX9_keepTape_19 (by decide) (by decide) (by decide) (⟨rfl, rfl⟩)

abbrev rm_c_X9_name_ok : Room := { frames := 3, cells := 0, slots := 0, locals := 85 }
set_option maxHeartbeats 4000000 in
set_option maxRecDepth 100000 in
theorem c_X9_name_ok (E : gE) (m f0 f1 f2 f3 f4 f5 f6 f7 f8 f9 f10 : Nat) (a0 a1 tb n : Nat) (le by_ t : Nat → Int32) (y g : Nat) (hy : y < 5) (hg : g < 3) (hn : n ≤ 10) : MM E yX9_name wsX9_name rm_c_X9_name_ok [.ref m, .int (nI y), .int (nI g)] [gO m 9 [.ref f0, .ref f1, .ref f2, .ref f3, .ref f4, .ref f5, .ref f6, .ref f7, .ref f8, .ref f9, .ref f10], gO f5 7 [.int (nI 10), .ref a0, .ref a1], gA E a0 15 le, gA E a1 150 by_, gO f1 6 [.ref tb, .int (nI n)], gA E tb 600 t] (fun rv_ ru_ => rv_ = some (.int (nI 1)) ∧ ru_ = [gO m 9 [.ref f0, .ref f1, .ref f2, .ref f3, .ref f4, .ref f5, .ref f6, .ref f7, .ref f8, .ref f9, .ref f10], gO f5 7 [.int (nI 10), .ref a0, .ref a1], gA E a0 15 (upd le (3 * y + g) (nI n)), gA E a1 150 (va_cpy t by_ 0 (10 * (3 * y + g)) n), gO f1 6 [.ref tb, .int (nI 0)], gA E tb 600 t]) := by
  refine MM.ofG (cc := cX9_name) (maxL := 4) (ret := (some .boolean)) (by decide) rfl (Nat.le_of_ble_eq_true rfl) (ll := [some (.ref m), some (.int (nI y)), some (.int (nI g)), none]) rfl ?_
  intro X C Rt
  have C : gx E X cX9_name 4 wsX9_name RX9 := C
  have i_X9 : ∀ w ∈ u_ws RX9 TX9 11, w ∈ wsX9_name := by decide +kernel
  have f_46 : Cond.fieldLink RX9 46 "MarkPages" "names" "LMarkPages$Texts;" ∈ wsX9_name := by decide +kernel
  refine g_iload_n C dX9_name_0 rfl ?_
  refine g_callS C (c_X9_isSkill_y E y (by omega)) gX9_name_X9_isSkill rfl 1 (by decide +kernel) ⟨by decide, by decide⟩ ⟨by decide, by decide⟩ [] [0, 1, 2, 3, 4, 5] (wr := [gO m 9 [.ref f0, .ref f1, .ref f2, .ref f3, .ref f4, .ref f5, .ref f6, .ref f7, .ref f8, .ref f9, .ref f10], gO f5 7 [.int (nI 10), .ref a0, .ref a1], gA E a0 15 le, gA E a1 150 by_, gO f1 6 [.ref tb, .int (nI n)], gA E tb 600 t]) rfl (by decide) rfl (by decide) (by decide) rfl rfl (Nat.le_of_ble_eq_true rfl) dX9_name_1 ?_
  rintro _ _ ⟨rfl, rfl⟩
  show gg E _ 4 X 0 0 4 [some (.ref m), some (.int (nI y)), some (.int (nI g)), none] [.int (nI 1)] [gO m 9 [.ref f0, .ref f1, .ref f2, .ref f3, .ref f4, .ref f5, .ref f6, .ref f7, .ref f8, .ref f9, .ref f10], gO f5 7 [.int (nI 10), .ref a0, .ref a1], gA E a0 15 le, gA E a1 150 by_, gO f1 6 [.ref tb, .int (nI n)], gA E tb 600 t]
  refine g_if_eq (tgt := 18) C dX9_name_4 (by decide) (fun c4 => absurd c4 (by decide)) (fun c4 => ?_)
  refine g_iload_n C dX9_name_7 rfl ?_
  refine g_callS C (c_X9_isTongue_y E g (by omega)) gX9_name_X9_isTongue rfl 1 (by decide +kernel) ⟨by decide, by decide⟩ ⟨by decide, by decide⟩ [] [0, 1, 2, 3, 4, 5] (wr := [gO m 9 [.ref f0, .ref f1, .ref f2, .ref f3, .ref f4, .ref f5, .ref f6, .ref f7, .ref f8, .ref f9, .ref f10], gO f5 7 [.int (nI 10), .ref a0, .ref a1], gA E a0 15 le, gA E a1 150 by_, gO f1 6 [.ref tb, .int (nI n)], gA E tb 600 t]) rfl (by decide) rfl (by decide) (by decide) rfl rfl (Nat.le_of_ble_eq_true rfl) dX9_name_8 ?_
  rintro _ _ ⟨rfl, rfl⟩
  show gg E _ 4 X 0 0 11 [some (.ref m), some (.int (nI y)), some (.int (nI g)), none] [.int (nI 1)] [gO m 9 [.ref f0, .ref f1, .ref f2, .ref f3, .ref f4, .ref f5, .ref f6, .ref f7, .ref f8, .ref f9, .ref f10], gO f5 7 [.int (nI 10), .ref a0, .ref a1], gA E a0 15 le, gA E a1 150 by_, gO f1 6 [.ref tb, .int (nI n)], gA E tb 600 t]
  refine g_if_eq (tgt := 18) C dX9_name_11 (by decide) (fun c11 => absurd c11 (by decide)) (fun c11 => ?_)
  refine g_iconst (v := nI 1) C dX9_name_14 (by decide) ?_
  refine g_goto (tgt := 19) C dX9_name_15 (by decide) ?_
  refine g_istore_n C dX9_name_19 (by decide) rfl (ll' := [some (.ref m), some (.int (nI y)), some (.int (nI g)), some (.int (nI 1))]) rfl ?_
  refine g_aload_n C dX9_name_20 rfl ?_
  refine g_aload_n C dX9_name_21 rfl ?_
  refine g_get C i_X9 0 5 f_46 rfl rfl (by decide) rfl rfl dX9_name_22 ?_
  refine g_iload_n C dX9_name_25 rfl ?_
  refine g_if_eq (tgt := 37) C dX9_name_26 (by decide) (fun c26 => absurd c26 (by decide)) (fun c26 => ?_)
  refine g_iload_n C dX9_name_29 rfl ?_
  refine g_iload_n C dX9_name_30 rfl ?_
  refine g_callS C (c_X9_rowOf E y g ) gX9_name_X9_rowOf rfl 2 (by decide +kernel) ⟨by decide, by decide⟩ ⟨by decide, by decide⟩ [] [0, 1, 2, 3, 4, 5] (wr := [gO m 9 [.ref f0, .ref f1, .ref f2, .ref f3, .ref f4, .ref f5, .ref f6, .ref f7, .ref f8, .ref f9, .ref f10], gO f5 7 [.int (nI 10), .ref a0, .ref a1], gA E a0 15 le, gA E a1 150 by_, gO f1 6 [.ref tb, .int (nI n)], gA E tb 600 t]) rfl (by decide) rfl (by decide) (by decide) rfl rfl (Nat.le_of_ble_eq_true rfl) dX9_name_31 ?_
  rintro _ _ ⟨rfl, rfl⟩
  show gg E _ 4 X 0 0 34 [some (.ref m), some (.int (nI y)), some (.int (nI g)), some (.int (nI 1))] [.int (nI (3 * y + g)), .ref f5, .ref m] [gO m 9 [.ref f0, .ref f1, .ref f2, .ref f3, .ref f4, .ref f5, .ref f6, .ref f7, .ref f8, .ref f9, .ref f10], gO f5 7 [.int (nI 10), .ref a0, .ref a1], gA E a0 15 le, gA E a1 150 by_, gO f1 6 [.ref tb, .int (nI n)], gA E tb 600 t]
  refine g_goto (tgt := 38) C dX9_name_34 (by decide) ?_
  refine g_callV C (c_X9_keepTape_n E m f0 f1 f2 f3 f4 f5 f6 f7 f8 f9 f10 a0 a1 tb n (3 * y + g) le by_ t (by omega) (by omega)) gX9_name_X9_keepTape rfl 2 (by decide +kernel) ⟨by decide, by decide⟩ ⟨by decide, by decide⟩ 0 rfl rfl [0, 1, 2, 3, 4, 5] [] (wr := []) rfl (by decide) rfl (by decide) (by decide) rfl rfl (Nat.le_of_ble_eq_true rfl) dX9_name_38 ?_
  rintro _ _ ⟨rfl, rfl⟩
  show gg E _ 4 X 0 0 41 [some (.ref m), some (.int (nI y)), some (.int (nI g)), some (.int (nI 1))] [.int (nI 1)] [gO m 9 [.ref f0, .ref f1, .ref f2, .ref f3, .ref f4, .ref f5, .ref f6, .ref f7, .ref f8, .ref f9, .ref f10], gO f5 7 [.int (nI 10), .ref a0, .ref a1], gA E a0 15 (upd le (3 * y + g) (nI n)), gA E a1 150 (va_cpy t by_ 0 (10 * (3 * y + g)) n), gO f1 6 [.ref tb, .int (nI 0)], gA E tb 600 t]
  exact g_zret C Rt dX9_name_41 (by decide) (by decide) (by decide) (⟨rfl, rfl⟩)

abbrev rm_c_X9_name_long : Room := { frames := 3, cells := 0, slots := 0, locals := 85 }
set_option maxHeartbeats 4000000 in
set_option maxRecDepth 100000 in
theorem c_X9_name_long (E : gE) (m f0 f1 f2 f3 f4 f5 f6 f7 f8 f9 f10 : Nat) (a0 a1 tb n : Nat) (le by_ t : Nat → Int32) (y g : Nat) (hy : y < 5) (hg : g < 3) (hl : 10 < n) (hn : n ≤ 600) : MM E yX9_name wsX9_name rm_c_X9_name_long [.ref m, .int (nI y), .int (nI g)] [gO m 9 [.ref f0, .ref f1, .ref f2, .ref f3, .ref f4, .ref f5, .ref f6, .ref f7, .ref f8, .ref f9, .ref f10], gO f5 7 [.int (nI 10), .ref a0, .ref a1], gA E a0 15 le, gA E a1 150 by_, gO f1 6 [.ref tb, .int (nI n)], gA E tb 600 t] (fun rv_ ru_ => rv_ = some (.int (nI 0)) ∧ ru_ = [gO m 9 [.ref f0, .ref f1, .ref f2, .ref f3, .ref f4, .ref f5, .ref f6, .ref f7, .ref f8, .ref f9, .ref f10], gO f5 7 [.int (nI 10), .ref a0, .ref a1], gA E a0 15 le, gA E a1 150 by_, gO f1 6 [.ref tb, .int (nI 0)], gA E tb 600 t]) := by
  refine MM.ofG (cc := cX9_name) (maxL := 4) (ret := (some .boolean)) (by decide) rfl (Nat.le_of_ble_eq_true rfl) (ll := [some (.ref m), some (.int (nI y)), some (.int (nI g)), none]) rfl ?_
  intro X C Rt
  have C : gx E X cX9_name 4 wsX9_name RX9 := C
  have i_X9 : ∀ w ∈ u_ws RX9 TX9 11, w ∈ wsX9_name := by decide +kernel
  have f_46 : Cond.fieldLink RX9 46 "MarkPages" "names" "LMarkPages$Texts;" ∈ wsX9_name := by decide +kernel
  refine g_iload_n C dX9_name_0 rfl ?_
  refine g_callS C (c_X9_isSkill_y E y (by omega)) gX9_name_X9_isSkill rfl 1 (by decide +kernel) ⟨by decide, by decide⟩ ⟨by decide, by decide⟩ [] [0, 1, 2, 3, 4, 5] (wr := [gO m 9 [.ref f0, .ref f1, .ref f2, .ref f3, .ref f4, .ref f5, .ref f6, .ref f7, .ref f8, .ref f9, .ref f10], gO f5 7 [.int (nI 10), .ref a0, .ref a1], gA E a0 15 le, gA E a1 150 by_, gO f1 6 [.ref tb, .int (nI n)], gA E tb 600 t]) rfl (by decide) rfl (by decide) (by decide) rfl rfl (Nat.le_of_ble_eq_true rfl) dX9_name_1 ?_
  rintro _ _ ⟨rfl, rfl⟩
  show gg E _ 4 X 0 0 4 [some (.ref m), some (.int (nI y)), some (.int (nI g)), none] [.int (nI 1)] [gO m 9 [.ref f0, .ref f1, .ref f2, .ref f3, .ref f4, .ref f5, .ref f6, .ref f7, .ref f8, .ref f9, .ref f10], gO f5 7 [.int (nI 10), .ref a0, .ref a1], gA E a0 15 le, gA E a1 150 by_, gO f1 6 [.ref tb, .int (nI n)], gA E tb 600 t]
  refine g_if_eq (tgt := 18) C dX9_name_4 (by decide) (fun c4 => absurd c4 (by decide)) (fun c4 => ?_)
  refine g_iload_n C dX9_name_7 rfl ?_
  refine g_callS C (c_X9_isTongue_y E g (by omega)) gX9_name_X9_isTongue rfl 1 (by decide +kernel) ⟨by decide, by decide⟩ ⟨by decide, by decide⟩ [] [0, 1, 2, 3, 4, 5] (wr := [gO m 9 [.ref f0, .ref f1, .ref f2, .ref f3, .ref f4, .ref f5, .ref f6, .ref f7, .ref f8, .ref f9, .ref f10], gO f5 7 [.int (nI 10), .ref a0, .ref a1], gA E a0 15 le, gA E a1 150 by_, gO f1 6 [.ref tb, .int (nI n)], gA E tb 600 t]) rfl (by decide) rfl (by decide) (by decide) rfl rfl (Nat.le_of_ble_eq_true rfl) dX9_name_8 ?_
  rintro _ _ ⟨rfl, rfl⟩
  show gg E _ 4 X 0 0 11 [some (.ref m), some (.int (nI y)), some (.int (nI g)), none] [.int (nI 1)] [gO m 9 [.ref f0, .ref f1, .ref f2, .ref f3, .ref f4, .ref f5, .ref f6, .ref f7, .ref f8, .ref f9, .ref f10], gO f5 7 [.int (nI 10), .ref a0, .ref a1], gA E a0 15 le, gA E a1 150 by_, gO f1 6 [.ref tb, .int (nI n)], gA E tb 600 t]
  refine g_if_eq (tgt := 18) C dX9_name_11 (by decide) (fun c11 => absurd c11 (by decide)) (fun c11 => ?_)
  refine g_iconst (v := nI 1) C dX9_name_14 (by decide) ?_
  refine g_goto (tgt := 19) C dX9_name_15 (by decide) ?_
  refine g_istore_n C dX9_name_19 (by decide) rfl (ll' := [some (.ref m), some (.int (nI y)), some (.int (nI g)), some (.int (nI 1))]) rfl ?_
  refine g_aload_n C dX9_name_20 rfl ?_
  refine g_aload_n C dX9_name_21 rfl ?_
  refine g_get C i_X9 0 5 f_46 rfl rfl (by decide) rfl rfl dX9_name_22 ?_
  refine g_iload_n C dX9_name_25 rfl ?_
  refine g_if_eq (tgt := 37) C dX9_name_26 (by decide) (fun c26 => absurd c26 (by decide)) (fun c26 => ?_)
  refine g_iload_n C dX9_name_29 rfl ?_
  refine g_iload_n C dX9_name_30 rfl ?_
  refine g_callS C (c_X9_rowOf E y g ) gX9_name_X9_rowOf rfl 2 (by decide +kernel) ⟨by decide, by decide⟩ ⟨by decide, by decide⟩ [] [0, 1, 2, 3, 4, 5] (wr := [gO m 9 [.ref f0, .ref f1, .ref f2, .ref f3, .ref f4, .ref f5, .ref f6, .ref f7, .ref f8, .ref f9, .ref f10], gO f5 7 [.int (nI 10), .ref a0, .ref a1], gA E a0 15 le, gA E a1 150 by_, gO f1 6 [.ref tb, .int (nI n)], gA E tb 600 t]) rfl (by decide) rfl (by decide) (by decide) rfl rfl (Nat.le_of_ble_eq_true rfl) dX9_name_31 ?_
  rintro _ _ ⟨rfl, rfl⟩
  show gg E _ 4 X 0 0 34 [some (.ref m), some (.int (nI y)), some (.int (nI g)), some (.int (nI 1))] [.int (nI (3 * y + g)), .ref f5, .ref m] [gO m 9 [.ref f0, .ref f1, .ref f2, .ref f3, .ref f4, .ref f5, .ref f6, .ref f7, .ref f8, .ref f9, .ref f10], gO f5 7 [.int (nI 10), .ref a0, .ref a1], gA E a0 15 le, gA E a1 150 by_, gO f1 6 [.ref tb, .int (nI n)], gA E tb 600 t]
  refine g_goto (tgt := 38) C dX9_name_34 (by decide) ?_
  refine g_callV C (c_X9_keepTape_nx E m f0 f1 f2 f3 f4 f5 f6 f7 f8 f9 f10 a0 a1 tb n le by_ t (nI (3 * y + g)) (Or.inr hl) (by omega)) gX9_name_X9_keepTape rfl 2 (by decide +kernel) ⟨by decide, by decide⟩ ⟨by decide, by decide⟩ 0 rfl rfl [0, 1, 2, 3, 4, 5] [] (wr := []) rfl (by decide) rfl (by decide) (by decide) rfl rfl (Nat.le_of_ble_eq_true rfl) dX9_name_38 ?_
  rintro _ _ ⟨rfl, rfl⟩
  show gg E _ 4 X 0 0 41 [some (.ref m), some (.int (nI y)), some (.int (nI g)), some (.int (nI 1))] [.int (nI 0)] [gO m 9 [.ref f0, .ref f1, .ref f2, .ref f3, .ref f4, .ref f5, .ref f6, .ref f7, .ref f8, .ref f9, .ref f10], gO f5 7 [.int (nI 10), .ref a0, .ref a1], gA E a0 15 le, gA E a1 150 by_, gO f1 6 [.ref tb, .int (nI 0)], gA E tb 600 t]
  exact g_zret C Rt dX9_name_41 (by decide) (by decide) (by decide) (⟨rfl, rfl⟩)

abbrev rm_c_X9_name_bad : Room := { frames := 3, cells := 0, slots := 0, locals := 85 }
set_option maxHeartbeats 4000000 in
set_option maxRecDepth 100000 in
theorem c_X9_name_bad (E : gE) (m f0 f1 f2 f3 f4 f5 f6 f7 f8 f9 f10 : Nat) (a0 a1 tb n : Nat) (le by_ t : Nat → Int32) (y g : Int32) (hb : y < 0 ∨ nI 5 ≤ y ∨ g < 0 ∨ nI 3 ≤ g) (hn : n ≤ 600) : MM E yX9_name wsX9_name rm_c_X9_name_bad [.ref m, .int y, .int g] [gO m 9 [.ref f0, .ref f1, .ref f2, .ref f3, .ref f4, .ref f5, .ref f6, .ref f7, .ref f8, .ref f9, .ref f10], gO f5 7 [.int (nI 10), .ref a0, .ref a1], gA E a0 15 le, gA E a1 150 by_, gO f1 6 [.ref tb, .int (nI n)], gA E tb 600 t] (fun rv_ ru_ => rv_ = some (.int (nI 0)) ∧ ru_ = [gO m 9 [.ref f0, .ref f1, .ref f2, .ref f3, .ref f4, .ref f5, .ref f6, .ref f7, .ref f8, .ref f9, .ref f10], gO f5 7 [.int (nI 10), .ref a0, .ref a1], gA E a0 15 le, gA E a1 150 by_, gO f1 6 [.ref tb, .int (nI 0)], gA E tb 600 t]) := by
  refine MM.ofG (cc := cX9_name) (maxL := 4) (ret := (some .boolean)) (by decide) rfl (Nat.le_of_ble_eq_true rfl) (ll := [some (.ref m), some (.int y), some (.int g), none]) rfl ?_
  intro X C Rt
  have C : gx E X cX9_name 4 wsX9_name RX9 := C
  have i_X9 : ∀ w ∈ u_ws RX9 TX9 11, w ∈ wsX9_name := by decide +kernel
  have f_46 : Cond.fieldLink RX9 46 "MarkPages" "names" "LMarkPages$Texts;" ∈ wsX9_name := by decide +kernel
  refine g_iload_n C dX9_name_0 rfl ?_
  refine g_callS C (c_X9_isSkill E y ) gX9_name_X9_isSkill rfl 1 (by decide +kernel) ⟨by decide, by decide⟩ ⟨by decide, by decide⟩ [] [0, 1, 2, 3, 4, 5] (wr := [gO m 9 [.ref f0, .ref f1, .ref f2, .ref f3, .ref f4, .ref f5, .ref f6, .ref f7, .ref f8, .ref f9, .ref f10], gO f5 7 [.int (nI 10), .ref a0, .ref a1], gA E a0 15 le, gA E a1 150 by_, gO f1 6 [.ref tb, .int (nI n)], gA E tb 600 t]) rfl (by decide) rfl (by decide) (by decide) rfl rfl (Nat.le_of_ble_eq_true rfl) dX9_name_1 ?_
  rintro _ _ ⟨rfl, rfl⟩
  show gg E _ 4 X 0 0 4 [some (.ref m), some (.int y), some (.int g), none] [.int (b2i (decide (¬ y < 0 ∧ ¬ nI 5 ≤ y)))] [gO m 9 [.ref f0, .ref f1, .ref f2, .ref f3, .ref f4, .ref f5, .ref f6, .ref f7, .ref f8, .ref f9, .ref f10], gO f5 7 [.int (nI 10), .ref a0, .ref a1], gA E a0 15 le, gA E a1 150 by_, gO f1 6 [.ref tb, .int (nI n)], gA E tb 600 t]
  refine g_if_eq (tgt := 18) C dX9_name_4 (by decide) (fun c4 => ?_) (fun c4 => ?_)
  · refine g_iconst (v := nI 0) C dX9_name_18 (by decide) ?_
    refine g_istore_n C dX9_name_19 (by decide) rfl (ll' := [some (.ref m), some (.int y), some (.int g), some (.int (nI 0))]) rfl ?_
    refine g_aload_n C dX9_name_20 rfl ?_
    refine g_aload_n C dX9_name_21 rfl ?_
    refine g_get C i_X9 0 5 f_46 rfl rfl (by decide) rfl rfl dX9_name_22 ?_
    refine g_iload_n C dX9_name_25 rfl ?_
    refine g_if_eq (tgt := 37) C dX9_name_26 (by decide) (fun c26 => ?_) (fun c26 => absurd c26 (by decide))
    refine g_iconst (v := -1) C dX9_name_37 (by decide) ?_
    refine g_callV C (c_X9_keepTape_nx E m f0 f1 f2 f3 f4 f5 f6 f7 f8 f9 f10 a0 a1 tb n le by_ t (-1) (Or.inl (by decide)) (by omega)) gX9_name_X9_keepTape rfl 2 (by decide +kernel) ⟨by decide, by decide⟩ ⟨by decide, by decide⟩ 0 rfl rfl [0, 1, 2, 3, 4, 5] [] (wr := []) rfl (by decide) rfl (by decide) (by decide) rfl rfl (Nat.le_of_ble_eq_true rfl) dX9_name_38 ?_
    rintro _ _ ⟨rfl, rfl⟩
    show gg E _ 4 X 0 0 41 [some (.ref m), some (.int y), some (.int g), some (.int (nI 0))] [.int (nI 0)] [gO m 9 [.ref f0, .ref f1, .ref f2, .ref f3, .ref f4, .ref f5, .ref f6, .ref f7, .ref f8, .ref f9, .ref f10], gO f5 7 [.int (nI 10), .ref a0, .ref a1], gA E a0 15 le, gA E a1 150 by_, gO f1 6 [.ref tb, .int (nI 0)], gA E tb 600 t]
    exact g_zret C Rt dX9_name_41 (by decide) (by decide) (by decide) (⟨rfl, rfl⟩)
  · refine g_iload_n C dX9_name_7 rfl ?_
    refine g_callS C (c_X9_isTongue E g ) gX9_name_X9_isTongue rfl 1 (by decide +kernel) ⟨by decide, by decide⟩ ⟨by decide, by decide⟩ [] [0, 1, 2, 3, 4, 5] (wr := [gO m 9 [.ref f0, .ref f1, .ref f2, .ref f3, .ref f4, .ref f5, .ref f6, .ref f7, .ref f8, .ref f9, .ref f10], gO f5 7 [.int (nI 10), .ref a0, .ref a1], gA E a0 15 le, gA E a1 150 by_, gO f1 6 [.ref tb, .int (nI n)], gA E tb 600 t]) rfl (by decide) rfl (by decide) (by decide) rfl rfl (Nat.le_of_ble_eq_true rfl) dX9_name_8 ?_
    rintro _ _ ⟨rfl, rfl⟩
    show gg E _ 4 X 0 0 11 [some (.ref m), some (.int y), some (.int g), none] [.int (b2i (decide (¬ g < 0 ∧ ¬ nI 3 ≤ g)))] [gO m 9 [.ref f0, .ref f1, .ref f2, .ref f3, .ref f4, .ref f5, .ref f6, .ref f7, .ref f8, .ref f9, .ref f10], gO f5 7 [.int (nI 10), .ref a0, .ref a1], gA E a0 15 le, gA E a1 150 by_, gO f1 6 [.ref tb, .int (nI n)], gA E tb 600 t]
    refine g_if_eq (tgt := 18) C dX9_name_11 (by decide) (fun c11 => ?_) (fun c11 => ?_)
    · refine g_iconst (v := nI 0) C dX9_name_18 (by decide) ?_
      refine g_istore_n C dX9_name_19 (by decide) rfl (ll' := [some (.ref m), some (.int y), some (.int g), some (.int (nI 0))]) rfl ?_
      refine g_aload_n C dX9_name_20 rfl ?_
      refine g_aload_n C dX9_name_21 rfl ?_
      refine g_get C i_X9 0 5 f_46 rfl rfl (by decide) rfl rfl dX9_name_22 ?_
      refine g_iload_n C dX9_name_25 rfl ?_
      refine g_if_eq (tgt := 37) C dX9_name_26 (by decide) (fun c26 => ?_) (fun c26 => absurd c26 (by decide))
      refine g_iconst (v := -1) C dX9_name_37 (by decide) ?_
      refine g_callV C (c_X9_keepTape_nx E m f0 f1 f2 f3 f4 f5 f6 f7 f8 f9 f10 a0 a1 tb n le by_ t (-1) (Or.inl (by decide)) (by omega)) gX9_name_X9_keepTape rfl 2 (by decide +kernel) ⟨by decide, by decide⟩ ⟨by decide, by decide⟩ 0 rfl rfl [0, 1, 2, 3, 4, 5] [] (wr := []) rfl (by decide) rfl (by decide) (by decide) rfl rfl (Nat.le_of_ble_eq_true rfl) dX9_name_38 ?_
      rintro _ _ ⟨rfl, rfl⟩
      show gg E _ 4 X 0 0 41 [some (.ref m), some (.int y), some (.int g), some (.int (nI 0))] [.int (nI 0)] [gO m 9 [.ref f0, .ref f1, .ref f2, .ref f3, .ref f4, .ref f5, .ref f6, .ref f7, .ref f8, .ref f9, .ref f10], gO f5 7 [.int (nI 10), .ref a0, .ref a1], gA E a0 15 le, gA E a1 150 by_, gO f1 6 [.ref tb, .int (nI 0)], gA E tb 600 t]
      exact g_zret C Rt dX9_name_41 (by decide) (by decide) (by decide) (⟨rfl, rfl⟩)
    · exact (have z1 := of_decide_eq_true (b2i_t.mp c4); have z2 := of_decide_eq_true (b2i_t.mp c11); hb.elim (fun z => absurd z z1.1) (fun z => z.elim (fun z => absurd z z1.2) (fun z => z.elim (fun z => absurd z z2.1) (fun z => absurd z z2.2))))

abbrev rm_c_X10_name_ok : Room := { frames := 2, cells := 0, slots := 0, locals := 42 }
set_option maxHeartbeats 4000000 in
set_option maxRecDepth 100000 in
theorem c_X10_name_ok (E : gE) (h : Nat) (ad : Nat → Nat) (iv : Nat → Int32) (n : Nat) (le by_ t : Nat → Int32) (y g : Nat) (hy : y < 5) (hg : g < 3) (hn : n ≤ 10) : MM E yX10_name wsX10_name rm_c_X10_name_ok [.ref h, .int (nI y), .int (nI g)] [gO h 10 (tF ad (upd iv 18 (nI n))), gA E (ad 17) 600 t, gA E (ad 34) 15 le, gA E (ad 35) 150 by_] (fun rv_ ru_ => rv_ = some (.int (nI 1)) ∧ ru_ = [gO h 10 (tF ad (upd iv 18 (nI 0))), gA E (ad 17) 600 t, gA E (ad 34) 15 (upd le (3 * y + g) (nI n)), gA E (ad 35) 150 (va_cpy t by_ 0 (10 * (3 * y + g)) n)]) := by
  refine MM.ofG (cc := cX10_name) (maxL := 5) (ret := (some .boolean)) (by decide) rfl (Nat.le_of_ble_eq_true rfl) (ll := [some (.ref h), some (.int (nI y)), some (.int (nI g)), none, none]) rfl ?_
  intro X C Rt
  have C : gx E X cX10_name 5 wsX10_name RX10 := C
  have i_X10 : ∀ w ∈ u_ws RX10 TX10 40, w ∈ wsX10_name := by decide +kernel
  have f_120 : Cond.fieldLink RX10 120 "MarkPagesModel" "taped" "I" ∈ wsX10_name := by decide +kernel
  have f_49 : Cond.fieldLink RX10 49 "MarkPagesModel" "tape" "[I" ∈ wsX10_name := by decide +kernel
  have f_68 : Cond.fieldLink RX10 68 "MarkPagesModel" "nameLong" "[I" ∈ wsX10_name := by decide +kernel
  have f_71 : Cond.fieldLink RX10 71 "MarkPagesModel" "name" "[I" ∈ wsX10_name := by decide +kernel
  refine g_aload_n C dX10_name_0 rfl ?_
  refine g_get C i_X10 0 18 f_120 rfl rfl (by decide) rfl rfl dX10_name_1 ?_
  refine g_istore_n C dX10_name_4 (by decide) rfl (ll' := [some (.ref h), some (.int (nI y)), some (.int (nI g)), some (.int (nI n)), none]) rfl ?_
  refine g_aload_n C dX10_name_5 rfl ?_
  refine g_iconst (v := nI 0) C dX10_name_6 (by decide) ?_
  refine g_put C i_X10 tyX10 tyX10_ok nmX10 0 18 f_120 rfl rfl (by decide) rfl rfl rfl rfl rfl (Nat.le_of_ble_eq_true rfl) dX10_name_7 (ws' := [gO h 10 (tF ad (upd iv 18 (nI 0))), gA E (ad 17) 600 t, gA E (ad 34) 15 le, gA E (ad 35) 150 by_]) rfl ?_
  refine g_iload_n C dX10_name_10 rfl ?_
  refine g_callS C (c_X10_isSkill_y E y (by omega)) gX10_name_X10_isSkill rfl 1 (by decide +kernel) ⟨by decide, by decide⟩ ⟨by decide, by decide⟩ [] [0, 1, 2, 3] (wr := [gO h 10 (tF ad (upd iv 18 (nI 0))), gA E (ad 17) 600 t, gA E (ad 34) 15 le, gA E (ad 35) 150 by_]) rfl (by decide) rfl (by decide) (by decide) rfl rfl (Nat.le_of_ble_eq_true rfl) dX10_name_11 ?_
  rintro _ _ ⟨rfl, rfl⟩
  show gg E _ 5 X 0 0 14 [some (.ref h), some (.int (nI y)), some (.int (nI g)), some (.int (nI n)), none] [.int (nI 1)] [gO h 10 (tF ad (upd iv 18 (nI 0))), gA E (ad 17) 600 t, gA E (ad 34) 15 le, gA E (ad 35) 150 by_]
  refine g_if_eq (tgt := 30) C dX10_name_14 (by decide) (fun c14 => absurd c14 (by decide)) (fun c14 => ?_)
  refine g_iload_n C dX10_name_17 rfl ?_
  refine g_callS C (c_X10_isTongue_y E g (by omega)) gX10_name_X10_isTongue rfl 1 (by decide +kernel) ⟨by decide, by decide⟩ ⟨by decide, by decide⟩ [] [0, 1, 2, 3] (wr := [gO h 10 (tF ad (upd iv 18 (nI 0))), gA E (ad 17) 600 t, gA E (ad 34) 15 le, gA E (ad 35) 150 by_]) rfl (by decide) rfl (by decide) (by decide) rfl rfl (Nat.le_of_ble_eq_true rfl) dX10_name_18 ?_
  rintro _ _ ⟨rfl, rfl⟩
  show gg E _ 5 X 0 0 21 [some (.ref h), some (.int (nI y)), some (.int (nI g)), some (.int (nI n)), none] [.int (nI 1)] [gO h 10 (tF ad (upd iv 18 (nI 0))), gA E (ad 17) 600 t, gA E (ad 34) 15 le, gA E (ad 35) 150 by_]
  refine g_if_eq (tgt := 30) C dX10_name_21 (by decide) (fun c21 => absurd c21 (by decide)) (fun c21 => ?_)
  refine g_iload_n C dX10_name_24 rfl ?_
  refine g_bipush (v := nI 10) C dX10_name_25 (by decide) ?_
  refine g_icmp_le_n (tgt := 32) C dX10_name_27 (by decide) (by omega) (by omega) (fun c27 => ?_) (fun c27 => ?_)
  · refine g_aload_n C dX10_name_32 rfl ?_
    refine g_get C i_X10 0 34 f_68 rfl rfl (by decide) rfl rfl dX10_name_33 ?_
    refine g_iconst (v := nI 3) C dX10_name_36 (by decide) ?_
    refine g_iload_n C dX10_name_37 rfl ?_
    refine g_imul_n C dX10_name_38 ?_
    refine g_iload_n C dX10_name_39 rfl ?_
    refine g_iadd_n C dX10_name_40 ?_
    refine g_iload_n C dX10_name_41 rfl ?_
    refine g_iast C 2 ((3 * y) + g) rfl rfl (by omega) (by decide) dX10_name_42 (ws' := [gO h 10 (tF ad (upd iv 18 (nI 0))), gA E (ad 17) 600 t, gA E (ad 34) 15 (upd le ((3 * y) + g) (nI n)), gA E (ad 35) 150 by_]) rfl ?_
    refine g_iconst (v := nI 0) C dX10_name_43 (by decide) ?_
    refine g_istore C dX10_name_44 (by decide) rfl (ll' := [some (.ref h), some (.int (nI y)), some (.int (nI g)), some (.int (nI n)), some (.int (nI 0))]) rfl ?_
    have L46 : ∀ (n46 : Nat) (j : Nat) (b1 : Nat → Int32), n - j < n46 → (j ≤ n) → (b1 = va_cpy t by_ 0 (10 * (3 * y + g)) j) → gg E rm_c_X10_name_ok 5 X 0 0 46 [some (.ref h), some (.int (nI y)), some (.int (nI g)), some (.int (nI n)), some (.int (nI j))] [] [gO h 10 (tF ad (upd iv 18 (nI 0))), gA E (ad 17) 600 t, gA E (ad 34) 15 (upd le (3 * y + g) (nI n)), gA E (ad 35) 150 b1] := by
      intro n46
      induction n46 with
      | zero => intro j b1 hm46; exact absurd hm46 (Nat.not_lt_zero _)
      | succ n46 ih46 =>
        intro j b1 hm46 hj hb
        refine g_iload C dX10_name_46 rfl ?_
        refine g_iload_n C dX10_name_48 rfl ?_
        refine g_icmp_ge_n (tgt := 81) C dX10_name_49 (by decide) (by omega) (by omega) (fun c49 => ?_) (fun c49 => ?_)
        · refine g_iconst (v := nI 1) C dX10_name_81 (by decide) ?_
          exact g_zret C Rt dX10_name_82 (by decide) (by decide) (by decide) (⟨rfl, by rw [hb, show j = n by omega]⟩)
        · refine g_aload_n C dX10_name_52 rfl ?_
          refine g_get C i_X10 0 35 f_71 rfl rfl (by decide) rfl rfl dX10_name_53 ?_
          refine g_bipush (v := nI 10) C dX10_name_56 (by decide) ?_
          refine g_iconst (v := nI 3) C dX10_name_58 (by decide) ?_
          refine g_iload_n C dX10_name_59 rfl ?_
          refine g_imul_n C dX10_name_60 ?_
          refine g_iload_n C dX10_name_61 rfl ?_
          refine g_iadd_n C dX10_name_62 ?_
          refine g_imul_n C dX10_name_63 ?_
          refine g_iload C dX10_name_64 rfl ?_
          refine g_iadd_n C dX10_name_66 ?_
          refine g_aload_n C dX10_name_67 rfl ?_
          refine g_get C i_X10 0 17 f_49 rfl rfl (by decide) rfl rfl dX10_name_68 ?_
          refine g_iload C dX10_name_71 rfl ?_
          refine g_iald C 1 j rfl rfl (by omega) (by decide) dX10_name_73 ?_
          refine g_iast C 3 ((10 * ((3 * y) + g)) + j) rfl rfl (by omega) (by decide) dX10_name_74 (ws' := [gO h 10 (tF ad (upd iv 18 (nI 0))), gA E (ad 17) 600 t, gA E (ad 34) 15 (upd le (3 * y + g) (nI n)), gA E (ad 35) 150 (upd b1 ((10 * ((3 * y) + g)) + j) (t j))]) rfl ?_
          refine g_iinc_n (y := 1) C dX10_name_75 rfl (by decide) (by decide) rfl (ll' := [some (.ref h), some (.int (nI y)), some (.int (nI g)), some (.int (nI n)), some (.int (nI (j + 1)))]) rfl ?_
          refine g_goto (tgt := 46) C dX10_name_78 (by decide) ?_
          exact ih46 (j + 1) (upd b1 ((10 * ((3 * y) + g)) + j) (t j)) (by omega) (by omega) (by rw [hb, cpy_succ])
    exact L46 _ 0 by_ (Nat.lt_succ_self _) (by omega) ((cpy_zero _ _ _).symm)
  · exact absurd hn (by omega)

abbrev rm_c_X10_name_long : Room := { frames := 2, cells := 0, slots := 0, locals := 42 }
set_option maxHeartbeats 4000000 in
set_option maxRecDepth 100000 in
theorem c_X10_name_long (E : gE) (h : Nat) (ad : Nat → Nat) (iv : Nat → Int32) (n : Nat) (le by_ t : Nat → Int32) (y g : Nat) (hy : y < 5) (hg : g < 3) (hl : 10 < n) (hn : n ≤ 600) : MM E yX10_name wsX10_name rm_c_X10_name_long [.ref h, .int (nI y), .int (nI g)] [gO h 10 (tF ad (upd iv 18 (nI n))), gA E (ad 17) 600 t, gA E (ad 34) 15 le, gA E (ad 35) 150 by_] (fun rv_ ru_ => rv_ = some (.int (nI 0)) ∧ ru_ = [gO h 10 (tF ad (upd iv 18 (nI 0))), gA E (ad 17) 600 t, gA E (ad 34) 15 le, gA E (ad 35) 150 by_]) := by
  refine MM.ofG (cc := cX10_name) (maxL := 5) (ret := (some .boolean)) (by decide) rfl (Nat.le_of_ble_eq_true rfl) (ll := [some (.ref h), some (.int (nI y)), some (.int (nI g)), none, none]) rfl ?_
  intro X C Rt
  have C : gx E X cX10_name 5 wsX10_name RX10 := C
  have i_X10 : ∀ w ∈ u_ws RX10 TX10 40, w ∈ wsX10_name := by decide +kernel
  have f_120 : Cond.fieldLink RX10 120 "MarkPagesModel" "taped" "I" ∈ wsX10_name := by decide +kernel
  refine g_aload_n C dX10_name_0 rfl ?_
  refine g_get C i_X10 0 18 f_120 rfl rfl (by decide) rfl rfl dX10_name_1 ?_
  refine g_istore_n C dX10_name_4 (by decide) rfl (ll' := [some (.ref h), some (.int (nI y)), some (.int (nI g)), some (.int (nI n)), none]) rfl ?_
  refine g_aload_n C dX10_name_5 rfl ?_
  refine g_iconst (v := nI 0) C dX10_name_6 (by decide) ?_
  refine g_put C i_X10 tyX10 tyX10_ok nmX10 0 18 f_120 rfl rfl (by decide) rfl rfl rfl rfl rfl (Nat.le_of_ble_eq_true rfl) dX10_name_7 (ws' := [gO h 10 (tF ad (upd iv 18 (nI 0))), gA E (ad 17) 600 t, gA E (ad 34) 15 le, gA E (ad 35) 150 by_]) rfl ?_
  refine g_iload_n C dX10_name_10 rfl ?_
  refine g_callS C (c_X10_isSkill_y E y (by omega)) gX10_name_X10_isSkill rfl 1 (by decide +kernel) ⟨by decide, by decide⟩ ⟨by decide, by decide⟩ [] [0, 1, 2, 3] (wr := [gO h 10 (tF ad (upd iv 18 (nI 0))), gA E (ad 17) 600 t, gA E (ad 34) 15 le, gA E (ad 35) 150 by_]) rfl (by decide) rfl (by decide) (by decide) rfl rfl (Nat.le_of_ble_eq_true rfl) dX10_name_11 ?_
  rintro _ _ ⟨rfl, rfl⟩
  show gg E _ 5 X 0 0 14 [some (.ref h), some (.int (nI y)), some (.int (nI g)), some (.int (nI n)), none] [.int (nI 1)] [gO h 10 (tF ad (upd iv 18 (nI 0))), gA E (ad 17) 600 t, gA E (ad 34) 15 le, gA E (ad 35) 150 by_]
  refine g_if_eq (tgt := 30) C dX10_name_14 (by decide) (fun c14 => absurd c14 (by decide)) (fun c14 => ?_)
  refine g_iload_n C dX10_name_17 rfl ?_
  refine g_callS C (c_X10_isTongue_y E g (by omega)) gX10_name_X10_isTongue rfl 1 (by decide +kernel) ⟨by decide, by decide⟩ ⟨by decide, by decide⟩ [] [0, 1, 2, 3] (wr := [gO h 10 (tF ad (upd iv 18 (nI 0))), gA E (ad 17) 600 t, gA E (ad 34) 15 le, gA E (ad 35) 150 by_]) rfl (by decide) rfl (by decide) (by decide) rfl rfl (Nat.le_of_ble_eq_true rfl) dX10_name_18 ?_
  rintro _ _ ⟨rfl, rfl⟩
  show gg E _ 5 X 0 0 21 [some (.ref h), some (.int (nI y)), some (.int (nI g)), some (.int (nI n)), none] [.int (nI 1)] [gO h 10 (tF ad (upd iv 18 (nI 0))), gA E (ad 17) 600 t, gA E (ad 34) 15 le, gA E (ad 35) 150 by_]
  refine g_if_eq (tgt := 30) C dX10_name_21 (by decide) (fun c21 => absurd c21 (by decide)) (fun c21 => ?_)
  refine g_iload_n C dX10_name_24 rfl ?_
  refine g_bipush (v := nI 10) C dX10_name_25 (by decide) ?_
  refine g_icmp_le_n (tgt := 32) C dX10_name_27 (by decide) (by omega) (by omega) (fun c27 => ?_) (fun c27 => ?_)
  · exact absurd hl (by omega)
  · refine g_iconst (v := nI 0) C dX10_name_30 (by decide) ?_
    exact g_zret C Rt dX10_name_31 (by decide) (by decide) (by decide) (⟨rfl, rfl⟩)

abbrev rm_c_X10_name_bad : Room := { frames := 2, cells := 0, slots := 0, locals := 42 }
set_option maxHeartbeats 4000000 in
set_option maxRecDepth 100000 in
theorem c_X10_name_bad (E : gE) (h : Nat) (ad : Nat → Nat) (iv : Nat → Int32) (n : Nat) (y g : Int32) (hb : y < 0 ∨ nI 4 < y ∨ g < 0 ∨ nI 2 < g) : MM E yX10_name wsX10_name rm_c_X10_name_bad [.ref h, .int y, .int g] [gO h 10 (tF ad (upd iv 18 (nI n)))] (fun rv_ ru_ => rv_ = some (.int (nI 0)) ∧ ru_ = [gO h 10 (tF ad (upd iv 18 (nI 0)))]) := by
  refine MM.ofG (cc := cX10_name) (maxL := 5) (ret := (some .boolean)) (by decide) rfl (Nat.le_of_ble_eq_true rfl) (ll := [some (.ref h), some (.int y), some (.int g), none, none]) rfl ?_
  intro X C Rt
  have C : gx E X cX10_name 5 wsX10_name RX10 := C
  have i_X10 : ∀ w ∈ u_ws RX10 TX10 40, w ∈ wsX10_name := by decide +kernel
  have f_120 : Cond.fieldLink RX10 120 "MarkPagesModel" "taped" "I" ∈ wsX10_name := by decide +kernel
  refine g_aload_n C dX10_name_0 rfl ?_
  refine g_get C i_X10 0 18 f_120 rfl rfl (by decide) rfl rfl dX10_name_1 ?_
  refine g_istore_n C dX10_name_4 (by decide) rfl (ll' := [some (.ref h), some (.int y), some (.int g), some (.int (nI n)), none]) rfl ?_
  refine g_aload_n C dX10_name_5 rfl ?_
  refine g_iconst (v := nI 0) C dX10_name_6 (by decide) ?_
  refine g_put C i_X10 tyX10 tyX10_ok nmX10 0 18 f_120 rfl rfl (by decide) rfl rfl rfl rfl rfl (Nat.le_of_ble_eq_true rfl) dX10_name_7 (ws' := [gO h 10 (tF ad (upd iv 18 (nI 0)))]) rfl ?_
  refine g_iload_n C dX10_name_10 rfl ?_
  refine g_callS C (c_X10_isSkill E y ) gX10_name_X10_isSkill rfl 1 (by decide +kernel) ⟨by decide, by decide⟩ ⟨by decide, by decide⟩ [] [0] (wr := [gO h 10 (tF ad (upd iv 18 (nI 0)))]) rfl (by decide) rfl (by decide) (by decide) rfl rfl (Nat.le_of_ble_eq_true rfl) dX10_name_11 ?_
  rintro _ _ ⟨rfl, rfl⟩
  show gg E _ 5 X 0 0 14 [some (.ref h), some (.int y), some (.int g), some (.int (nI n)), none] [.int (b2i (decide (¬ y < nI 0 ∧ ¬ nI 4 < y)))] [gO h 10 (tF ad (upd iv 18 (nI 0)))]
  refine g_if_eq (tgt := 30) C dX10_name_14 (by decide) (fun c14 => ?_) (fun c14 => ?_)
  · refine g_iconst (v := nI 0) C dX10_name_30 (by decide) ?_
    exact g_zret C Rt dX10_name_31 (by decide) (by decide) (by decide) (⟨rfl, rfl⟩)
  · refine g_iload_n C dX10_name_17 rfl ?_
    refine g_callS C (c_X10_isTongue E g ) gX10_name_X10_isTongue rfl 1 (by decide +kernel) ⟨by decide, by decide⟩ ⟨by decide, by decide⟩ [] [0] (wr := [gO h 10 (tF ad (upd iv 18 (nI 0)))]) rfl (by decide) rfl (by decide) (by decide) rfl rfl (Nat.le_of_ble_eq_true rfl) dX10_name_18 ?_
    rintro _ _ ⟨rfl, rfl⟩
    show gg E _ 5 X 0 0 21 [some (.ref h), some (.int y), some (.int g), some (.int (nI n)), none] [.int (b2i (decide (¬ g < nI 0 ∧ ¬ nI 2 < g)))] [gO h 10 (tF ad (upd iv 18 (nI 0)))]
    refine g_if_eq (tgt := 30) C dX10_name_21 (by decide) (fun c21 => ?_) (fun c21 => ?_)
    · refine g_iconst (v := nI 0) C dX10_name_30 (by decide) ?_
      exact g_zret C Rt dX10_name_31 (by decide) (by decide) (by decide) (⟨rfl, rfl⟩)
    · exact (have z1 := of_decide_eq_true (b2i_t.mp c14); have z2 := of_decide_eq_true (b2i_t.mp c21); hb.elim (fun z => absurd z z1.1) (fun z => z.elim (fun z => absurd z z1.2) (fun z => z.elim (fun z => absurd z z2.1) (fun z => absurd z z2.2))))

