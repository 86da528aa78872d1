/-! sheet, group, of both -/
/-- pupil k's page -/
def pgL (ms sk pt : Nat → Int32) (cnt : Nat) (bs bk co : Nat → Int32) (sn : Nat → Nat) (nr k : Nat) : List (Nat × Nat) := pgA bs bk (soF (ioF ms sk pt cnt k) co sn) (fun s => mkN sk pt k s cnt) nr
theorem pgL_len (ms sk pt : Nat → Int32) (cnt : Nat) (bs bk co : Nat → Int32) (sn : Nat → Nat) (nr k : Nat) : (pgL ms sk pt cnt bs bk co sn nr k).length ≤ 12 := pgA_len nr
/-- the first pupil that has a mark and is alike -/
def prA (ms sk pt : Nat → Int32) (cnt : Nat) (bs bk co : Nat → Int32) (sn : Nat → Nat) (nr P i : Nat) : Bool := haM pt i cnt && alL bs (pgL ms sk pt cnt bs bk co sn nr i) (pgL ms sk pt cnt bs bk co sn nr P)
theorem prA_self {ms sk pt : Nat → Int32} {cnt : Nat} {bs bk co : Nat → Int32} {sn : Nat → Nat} {nr P : Nat} (h : haM pt P cnt = true) : prA ms sk pt cnt bs bk co sn nr P P = true := by rw [prA, h, alL_self]; rfl
theorem first_eq {p : Nat → Bool} {n q : Nat} (hq : q ≤ n) (h0 : ∀ i, i < q → p i = false) (h1 : q < n → p q = true) : fa_first p n = q := by
  rcases Nat.lt_trichotomy (fa_first p n) q with h | h | h
  · have := fa_first_yes p n (by omega)
    rw [h0 _ h] at this; cases this
  · exact h
  · have h2 := fa_first_le p n
    have := fa_first_no p n q h
    rw [h1 (by omega)] at this; cases this
/-- how many groups begin below b -/
def grP (ms sk pt : Nat → Int32) (cnt : Nat) (bs bk co : Nat → Int32) (sn : Nat → Nat) (nr i : Nat) : Bool := haM pt i cnt && decide (fa_first (prA ms sk pt cnt bs bk co sn nr i) i = i)
theorem nI_nm1 {n : Nat} (h : n < 2147483648) : ¬ nI n = -1 := fun e => by
  have h1 := congrArg Int32.toInt e
  rw [nI_toInt h] at h1
  have h2 : (-1 : Int32).toInt = -1 := by decide
  omega

abbrev rm_c_X10_hasMark : Room := { frames := 0, cells := 0, slots := 0, locals := 0 }
set_option maxHeartbeats 4000000 in
set_option maxRecDepth 100000 in
theorem c_X10_hasMark (E : gE) (h : Nat) (ad : Nat → Nat) (iv : Nat → Int32) (cnt : Nat) (pt : Nat → Int32) (P : Nat) (hcnt : cnt ≤ 10) (hP : P < 8) : MM E yX10_hasMark wsX10_hasMark rm_c_X10_hasMark [.ref h, .int (nI P)] [gO h 10 (tF ad (upd iv 0 (nI cnt))), gA E (ad 3) 80 pt] (fun rv_ ru_ => rv_ = some (.int (b2i (haM pt P cnt))) ∧ ru_ = [gO h 10 (tF ad (upd iv 0 (nI cnt))), gA E (ad 3) 80 pt]) := by
  refine MM.ofG (cc := cX10_hasMark) (maxL := 4) (ret := (some .boolean)) (by decide) rfl (Nat.le_of_ble_eq_true rfl) (ll := [some (.ref h), some (.int (nI P)), none, none]) rfl ?_
  intro X C Rt
  have C : gx E X cX10_hasMark 4 wsX10_hasMark RX10 := C
  have i_X10 : ∀ w ∈ u_ws RX10 TX10 40, w ∈ wsX10_hasMark := by decide +kernel
  have f_16 : Cond.fieldLink RX10 16 "MarkPagesModel" "points" "[I" ∈ wsX10_hasMark := by decide +kernel
  have f_87 : Cond.fieldLink RX10 87 "MarkPagesModel" "questions" "I" ∈ wsX10_hasMark := by decide +kernel
  refine g_iconst (v := nI 0) C dX10_hasMark_0 (by decide) ?_
  refine g_istore_n C dX10_hasMark_1 (by decide) rfl (ll' := [some (.ref h), some (.int (nI P)), some (.int (nI 0)), none]) rfl ?_
  refine g_iconst (v := nI 0) C dX10_hasMark_2 (by decide) ?_
  refine g_istore_n C dX10_hasMark_3 (by decide) rfl (ll' := [some (.ref h), some (.int (nI P)), some (.int (nI 0)), some (.int (nI 0))]) rfl ?_
  have L4 : ∀ (n4 : Nat) (j : Nat) (v : Int32), cnt - j < n4 → (j ≤ cnt) → (v = b2i (haM pt P j)) → gg E rm_c_X10_hasMark 4 X 0 0 4 [some (.ref h), some (.int (nI P)), some (.int v), some (.int (nI j))] [] [gO h 10 (tF ad (upd iv 0 (nI cnt))), gA E (ad 3) 80 pt] := by
    intro n4
    induction n4 with
    | zero => intro j v hm4; exact absurd hm4 (Nat.not_lt_zero _)
    | succ n4 ih4 =>
      intro j v hm4 hj hv
      refine g_iload_n C dX10_hasMark_4 rfl ?_
      refine g_aload_n C dX10_hasMark_5 rfl ?_
      refine g_get C i_X10 0 0 f_87 rfl rfl (by decide) rfl rfl dX10_hasMark_6 ?_
      refine g_icmp_ge_n (tgt := 43) C dX10_hasMark_9 (by decide) (by omega) (by omega) (fun c9 => ?_) (fun c9 => ?_)
      · refine g_iload_n C dX10_hasMark_43 rfl ?_
        exact g_zret C Rt dX10_hasMark_44 (by decide) (by decide) (by rw [hv]; exact b2i_01 _) (⟨by rw [hv, show j = cnt by omega], rfl⟩)
      · refine g_iload_n C dX10_hasMark_12 rfl ?_
        refine g_if_ne (tgt := 31) C dX10_hasMark_13 (by decide) (fun c13 => ?_) (fun c13 => ?_)
        · refine g_iconst (v := nI 1) C dX10_hasMark_31 (by decide) ?_
          refine g_goto (tgt := 36) C dX10_hasMark_32 (by decide) ?_
          refine g_istore_n C dX10_hasMark_36 (by decide) rfl (ll' := [some (.ref h), some (.int (nI P)), some (.int (nI 1)), some (.int (nI j))]) rfl ?_
          refine g_iinc_n (y := 1) C dX10_hasMark_37 rfl (by decide) (by decide) rfl (ll' := [some (.ref h), some (.int (nI P)), some (.int (nI 1)), some (.int (nI (j + 1)))]) rfl ?_
          refine g_goto (tgt := 4) C dX10_hasMark_40 (by decide) ?_
          exact ih4 (j + 1) (nI 1) (by omega) (by omega) (by rw [haM, (b2i_t (b := haM pt P j)).mp (by rw [← hv]; exact c13)]; rfl)
        · refine g_aload_n C dX10_hasMark_16 rfl ?_
          refine g_get C i_X10 0 3 f_16 rfl rfl (by decide) rfl rfl dX10_hasMark_17 ?_
          refine g_bipush (v := nI 10) C dX10_hasMark_20 (by decide) ?_
          refine g_iload_n C dX10_hasMark_22 rfl ?_
          refine g_imul_n C dX10_hasMark_23 ?_
          refine g_iload_n C dX10_hasMark_24 rfl ?_
          refine g_iadd_n C dX10_hasMark_25 ?_
          refine g_iald C 1 ((10 * P) + j) rfl rfl (by omega) (by decide) dX10_hasMark_26 ?_
          refine g_iconst (v := -1) C dX10_hasMark_27 (by decide) ?_
          refine g_icmp_eq (tgt := 35) C dX10_hasMark_28 (by decide) (fun c28 => ?_) (fun c28 => ?_)
          · refine g_iconst (v := nI 0) C dX10_hasMark_35 (by decide) ?_
            refine g_istore_n C dX10_hasMark_36 (by decide) rfl (ll' := [some (.ref h), some (.int (nI P)), some (.int (nI 0)), some (.int (nI j))]) rfl ?_
            refine g_iinc_n (y := 1) C dX10_hasMark_37 rfl (by decide) (by decide) rfl (ll' := [some (.ref h), some (.int (nI P)), some (.int (nI 0)), some (.int (nI (j + 1)))]) rfl ?_
            refine g_goto (tgt := 4) C dX10_hasMark_40 (by decide) ?_
            exact ih4 (j + 1) (nI 0) (by omega) (by omega) (by rw [haM, (b2i_f (b := haM pt P j)).mp (by rw [← hv]; exact c13), c28]; rfl)
          · refine g_iconst (v := nI 1) C dX10_hasMark_31 (by decide) ?_
            refine g_goto (tgt := 36) C dX10_hasMark_32 (by decide) ?_
            refine g_istore_n C dX10_hasMark_36 (by decide) rfl (ll' := [some (.ref h), some (.int (nI P)), some (.int (nI 1)), some (.int (nI j))]) rfl ?_
            refine g_iinc_n (y := 1) C dX10_hasMark_37 rfl (by decide) (by decide) rfl (ll' := [some (.ref h), some (.int (nI P)), some (.int (nI 1)), some (.int (nI (j + 1)))]) rfl ?_
            refine g_goto (tgt := 4) C dX10_hasMark_40 (by decide) ?_
            exact ih4 (j + 1) (nI 1) (by omega) (by omega) (by rw [haM, (b2i_f (b := haM pt P j)).mp (by rw [← hv]; exact c13), decide_eq_true c28]; rfl)
  exact L4 _ 0 (nI 0) (Nat.lt_succ_self _) (by omega) (rfl)

abbrev rm_c_X10_alike_ok : Room := { frames := 5, cells := 0, slots := 0, locals := 125 }
set_option maxHeartbeats 4000000 in
set_option maxRecDepth 100000 in
theorem c_X10_alike_ok (E : gE) (h : Nat) (ad : Nat → Nat) (iv : Nat → Int32) (cnt nr : Nat) (ms sk pt ro ts tk fr sp pi lr ls bs bk co : Nat → Int32) (sn : Nat → Nat) (ln0 P : Nat) (Q : Nat) (y1 y2 : Nat → Int32) (hcnt : cnt ≤ 10) (hP : P < 8) (hms : okM ms cnt) (hnr : nr ≤ 12) (hts : ∀ q, q < nr → ts q = bs q) (htk : ∀ q, q < nr → tk q = bk q) (hst : ∀ q, q ≤ nr → fr q = nI (sn q)) (hok : okB nr sn co) (hsp : ∀ i, i < sn nr → sp i = trJ (co i)) (hQ : Q < 8) : MM E yX10_alike wsX10_alike rm_c_X10_alike_ok [.ref h, .int (nI P), .int (nI Q)] [gO h 10 (tF ad (upd (upd (upd iv 0 (nI cnt)) 5 (nI nr)) 31 (nI ln0))), gA E (ad 1) 10 ms, gA E (ad 2) 10 sk, gA E (ad 3) 80 pt, gA E (ad 4) 8 ro, gA E (ad 8) 12 ts, gA E (ad 9) 12 tk, gA E (ad 10) 13 fr, gA E (ad 11) 620 sp, gA E (ad 16) 620 pi, gA E (ad 29) 12 lr, gA E (ad 30) 12 ls, gA E (ad 38) 12 y1, gA E (ad 39) 12 y2] (fun rv_ ru_ => ∃ (ln2 : Nat) (ro2 pi2 lr2 ls2 y3 y4 : Nat → Int32), rv_ = some (.int (b2i (alL bs (pgA bs bk (soF (ioF ms sk pt cnt P) co sn) (fun s => mkN sk pt P s cnt) nr) (pgA bs bk (soF (ioF ms sk pt cnt Q) co sn) (fun s => mkN sk pt Q s cnt) nr)))) ∧ ru_ = [gO h 10 (tF ad (upd (upd (upd iv 0 (nI cnt)) 5 (nI nr)) 31 (nI ln2))), gA E (ad 1) 10 ms, gA E (ad 2) 10 sk, gA E (ad 3) 80 pt, gA E (ad 4) 8 ro2, gA E (ad 8) 12 ts, gA E (ad 9) 12 tk, gA E (ad 10) 13 fr, gA E (ad 11) 620 sp, gA E (ad 16) 620 pi2, gA E (ad 29) 12 lr2, gA E (ad 30) 12 ls2, gA E (ad 38) 12 y3, gA E (ad 39) 12 y4]) := by
  refine MM.ofG (cc := cX10_alike) (maxL := 3) (ret := (some .int)) (by decide) rfl (Nat.le_of_ble_eq_true rfl) (ll := [some (.ref h), some (.int (nI P)), some (.int (nI Q))]) rfl ?_
  intro X C Rt
  have C : gx E X cX10_alike 3 wsX10_alike RX10 := C
  refine g_iload_n C dX10_alike_0 rfl ?_
  refine g_callS C (c_X10_isPupil_y E P (by omega)) gX10_alike_X10_isPupil rfl 1 (by decide +kernel) ⟨by decide, by decide⟩ ⟨by decide, by decide⟩ [] [0, 1, 2, 3, 4, 5, 6, 7, 8, 9, 10, 11, 12, 13] (wr := [gO h 10 (tF ad (upd (upd (upd iv 0 (nI cnt)) 5 (nI nr)) 31 (nI ln0))), gA E (ad 1) 10 ms, gA E (ad 2) 10 sk, gA E (ad 3) 80 pt, gA E (ad 4) 8 ro, gA E (ad 8) 12 ts, gA E (ad 9) 12 tk, gA E (ad 10) 13 fr, gA E (ad 11) 620 sp, gA E (ad 16) 620 pi, gA E (ad 29) 12 lr, gA E (ad 30) 12 ls, gA E (ad 38) 12 y1, gA E (ad 39) 12 y2]) rfl (by decide) rfl (by decide) (by decide) rfl rfl (Nat.le_of_ble_eq_true rfl) dX10_alike_1 ?_
  rintro _ _ ⟨rfl, rfl⟩
  show gg E _ 3 X 0 0 4 [some (.ref h), some (.int (nI P)), some (.int (nI Q))] [.int (nI 1)] [gO h 10 (tF ad (upd (upd (upd iv 0 (nI cnt)) 5 (nI nr)) 31 (nI ln0))), gA E (ad 1) 10 ms, gA E (ad 2) 10 sk, gA E (ad 3) 80 pt, gA E (ad 4) 8 ro, gA E (ad 8) 12 ts, gA E (ad 9) 12 tk, gA E (ad 10) 13 fr, gA E (ad 11) 620 sp, gA E (ad 16) 620 pi, gA E (ad 29) 12 lr, gA E (ad 30) 12 ls, gA E (ad 38) 12 y1, gA E (ad 39) 12 y2]
  refine g_if_eq (tgt := 14) C dX10_alike_4 (by decide) (fun c4 => absurd c4 (by decide)) (fun c4 => ?_)
  refine g_iload_n C dX10_alike_7 rfl ?_
  refine g_callS C (c_X10_isPupil_y E Q (by omega)) gX10_alike_X10_isPupil rfl 1 (by decide +kernel) ⟨by decide, by decide⟩ ⟨by decide, by decide⟩ [] [0, 1, 2, 3, 4, 5, 6, 7, 8, 9, 10, 11, 12, 13] (wr := [gO h 10 (tF ad (upd (upd (upd iv 0 (nI cnt)) 5 (nI nr)) 31 (nI ln0))), gA E (ad 1) 10 ms, gA E (ad 2) 10 sk, gA E (ad 3) 80 pt, gA E (ad 4) 8 ro, gA E (ad 8) 12 ts, gA E (ad 9) 12 tk, gA E (ad 10) 13 fr, gA E (ad 11) 620 sp, gA E (ad 16) 620 pi, gA E (ad 29) 12 lr, gA E (ad 30) 12 ls, gA E (ad 38) 12 y1, gA E (ad 39) 12 y2]) rfl (by decide) rfl (by decide) (by decide) rfl rfl (Nat.le_of_ble_eq_true rfl) dX10_alike_8 ?_
  rintro _ _ ⟨rfl, rfl⟩
  show gg E _ 3 X 0 0 11 [some (.ref h), some (.int (nI P)), some (.int (nI Q))] [.int (nI 1)] [gO h 10 (tF ad (upd (upd (upd iv 0 (nI cnt)) 5 (nI nr)) 31 (nI ln0))), gA E (ad 1) 10 ms, gA E (ad 2) 10 sk, gA E (ad 3) 80 pt, gA E (ad 4) 8 ro, gA E (ad 8) 12 ts, gA E (ad 9) 12 tk, gA E (ad 10) 13 fr, gA E (ad 11) 620 sp, gA E (ad 16) 620 pi, gA E (ad 29) 12 lr, gA E (ad 30) 12 ls, gA E (ad 38) 12 y1, gA E (ad 39) 12 y2]
  refine g_if_ne (tgt := 18) C dX10_alike_11 (by decide) (fun c11 => ?_) (fun c11 => absurd c11 (by decide))
  refine g_aload_n C dX10_alike_18 rfl ?_
  refine g_iload_n C dX10_alike_19 rfl ?_
  refine g_iload_n C dX10_alike_20 rfl ?_
  refine g_callV C (c_X10_areAlike E h ad iv cnt nr ms sk pt ro ts tk fr sp pi lr ls bs bk co sn ln0 P Q y1 y2 (by omega) (by omega) (hms) (by omega) (hts) (htk) (hst) (hok) (hsp) (by omega)) gX10_alike_X10_areAlike rfl 2 (by decide +kernel) ⟨by decide, by decide⟩ ⟨by decide, by decide⟩ 0 rfl rfl [0, 1, 2, 3, 4, 5, 6, 7, 8, 9, 10, 11, 12, 13] [] (wr := []) rfl (by decide) rfl (by decide) (by decide) rfl rfl (Nat.le_of_ble_eq_true rfl) dX10_alike_21 ?_
  rintro _ _ ⟨ro2_21, pi2_21, lr2_21, ls2_21, y3_21, y4_21, rfl, rfl⟩
  show gg E _ 3 X 0 0 24 [some (.ref h), some (.int (nI P)), some (.int (nI Q))] [.int (b2i (alL bs (pgA bs bk (soF (ioF ms sk pt cnt P) co sn) (fun s => mkN sk pt P s cnt) nr) (pgA bs bk (soF (ioF ms sk pt cnt Q) co sn) (fun s => mkN sk pt Q s cnt) nr)))] [gO h 10 (tF ad (upd (upd (upd iv 0 (nI cnt)) 5 (nI nr)) 31 (nI ((pgA bs bk (soF (ioF ms sk pt cnt Q) co sn) (fun s => mkN sk pt Q s cnt) nr).length)))), gA E (ad 1) 10 ms, gA E (ad 2) 10 sk, gA E (ad 3) 80 pt, gA E (ad 4) 8 ro2_21, gA E (ad 8) 12 ts, gA E (ad 9) 12 tk, gA E (ad 10) 13 fr, gA E (ad 11) 620 sp, gA E (ad 16) 620 pi2_21, gA E (ad 29) 12 lr2_21, gA E (ad 30) 12 ls2_21, gA E (ad 38) 12 y3_21, gA E (ad 39) 12 y4_21]
  refine g_if_eq (tgt := 31) C dX10_alike_24 (by decide) (fun c24 => ?_) (fun c24 => ?_)
  · refine g_iconst (v := nI 0) C dX10_alike_31 (by decide) ?_
    exact g_iret C Rt dX10_alike_32 (by decide) (by decide) (⟨_, _, _, _, _, _, _, by rw [b2i_f.mp c24]; rfl, rfl⟩)
  · refine g_iconst (v := nI 1) C dX10_alike_27 (by decide) ?_
    refine g_goto (tgt := 32) C dX10_alike_28 (by decide) ?_
    exact g_iret C Rt dX10_alike_32 (by decide) (by decide) (⟨_, _, _, _, _, _, _, by rw [b2i_t.mp c24]; rfl, rfl⟩)

abbrev rm_c_X10_alike_bad : Room := { frames := 5, cells := 0, slots := 0, locals := 125 }
set_option maxHeartbeats 4000000 in
set_option maxRecDepth 100000 in
theorem c_X10_alike_bad (E : gE) (h : Nat) (ad : Nat → Nat) (iv : Nat → Int32) (p q : Int32) (hb : p < 0 ∨ nI 7 < p ∨ q < 0 ∨ nI 7 < q) : MM E yX10_alike wsX10_alike rm_c_X10_alike_bad [.ref h, .int p, .int q] [gO h 10 (tF ad iv)] (fun rv_ ru_ => rv_ = some (.int (-1)) ∧ ru_ = [gO h 10 (tF ad iv)]) := by
  refine MM.ofG (cc := cX10_alike) (maxL := 3) (ret := (some .int)) (by decide) rfl (Nat.le_of_ble_eq_true rfl) (ll := [some (.ref h), some (.int p), some (.int q)]) rfl ?_
  intro X C Rt
  have C : gx E X cX10_alike 3 wsX10_alike RX10 := C
  refine g_iload_n C dX10_alike_0 rfl ?_
  refine g_callS C (c_X10_isPupil E p ) gX10_alike_X10_isPupil rfl 1 (by decide +kernel) ⟨by decide, by decide⟩ ⟨by decide, by decide⟩ [] [0] (wr := [gO h 10 (tF ad iv)]) rfl (by decide) rfl (by decide) (by decide) rfl rfl (Nat.le_of_ble_eq_true rfl) dX10_alike_1 ?_
  rintro _ _ ⟨rfl, rfl⟩
  show gg E _ 3 X 0 0 4 [some (.ref h), some (.int p), some (.int q)] [.int (b2i (decide (¬ p < nI 0 ∧ ¬ nI 7 < p)))] [gO h 10 (tF ad iv)]
  refine g_if_eq (tgt := 14) C dX10_alike_4 (by decide) (fun c4 => ?_) (fun c4 => ?_)
  · refine g_iconst (v := -1) C dX10_alike_14 (by decide) ?_
    refine g_goto (tgt := 32) C dX10_alike_15 (by decide) ?_
    exact g_iret C Rt dX10_alike_32 (by decide) (by decide) (⟨rfl, rfl⟩)
  · refine g_iload_n C dX10_alike_7 rfl ?_
    refine g_callS C (c_X10_isPupil E q ) gX10_alike_X10_isPupil rfl 1 (by decide +kernel) ⟨by decide, by decide⟩ ⟨by decide, by decide⟩ [] [0] (wr := [gO h 10 (tF ad iv)]) rfl (by decide) rfl (by decide) (by decide) rfl rfl (Nat.le_of_ble_eq_true rfl) dX10_alike_8 ?_
    rintro _ _ ⟨rfl, rfl⟩
    show gg E _ 3 X 0 0 11 [some (.ref h), some (.int p), some (.int q)] [.int (b2i (decide (¬ q < nI 0 ∧ ¬ nI 7 < q)))] [gO h 10 (tF ad iv)]
    refine g_if_ne (tgt := 18) C dX10_alike_11 (by decide) (fun c11 => ?_) (fun c11 => ?_)
    · exact (have z1 := of_decide_eq_true (b2i_t.mp c4); have z2 := of_decide_eq_true (b2i_t.mp c11); hb.elim (fun z => absurd z z1.1) (fun z => z.elim (fun z => absurd z z1.2) (fun z => z.elim (fun z => absurd z z2.1) (fun z => absurd z z2.2))))
    · refine g_iconst (v := -1) C dX10_alike_14 (by decide) ?_
      refine g_goto (tgt := 32) C dX10_alike_15 (by decide) ?_
      exact g_iret C Rt dX10_alike_32 (by decide) (by decide) (⟨rfl, rfl⟩)

abbrev rm_c_X10_first : Room := { frames := 5, cells := 0, slots := 0, locals := 125 }
set_option maxHeartbeats 4000000 in
set_option maxRecDepth 100000 in
theorem c_X10_first (E : gE) (h : Nat) (ad : Nat → Nat) (iv : Nat → Int32) (cnt nr : Nat) (ms sk pt ro ts tk fr sp pi lr ls bs bk co : Nat → Int32) (sn : Nat → Nat) (ln0 P : Nat) (y1 y2 : Nat → Int32) (hcnt : cnt ≤ 10) (hP : P < 8) (hms : okM ms cnt) (hnr : nr ≤ 12) (hts : ∀ q, q < nr → ts q = bs q) (htk : ∀ q, q < nr → tk q = bk q) (hst : ∀ q, q ≤ nr → fr q = nI (sn q)) (hok : okB nr sn co) (hsp : ∀ i, i < sn nr → sp i = trJ (co i)) (hmk : haM pt P cnt = true) : MM E yX10_first wsX10_first rm_c_X10_first [.ref h, .int (nI P)] [gO h 10 (tF ad (upd (upd (upd iv 0 (nI cnt)) 5 (nI nr)) 31 (nI ln0))), gA E (ad 1) 10 ms, gA E (ad 2) 10 sk, gA E (ad 3) 80 pt, gA E (ad 4) 8 ro, gA E (ad 8) 12 ts, gA E (ad 9) 12 tk, gA E (ad 10) 13 fr, gA E (ad 11) 620 sp, gA E (ad 16) 620 pi, gA E (ad 29) 12 lr, gA E (ad 30) 12 ls, gA E (ad 38) 12 y1, gA E (ad 39) 12 y2] (fun rv_ ru_ => ∃ (ln2 : Nat) (ro2 pi2 lr2 ls2 y3 y4 : Nat → Int32), rv_ = some (.int (nI (fa_first (prA ms sk pt cnt bs bk co sn nr P) P))) ∧ ru_ = [gO h 10 (tF ad (upd (upd (upd iv 0 (nI cnt)) 5 (nI nr)) 31 (nI ln2))), gA E (ad 1) 10 ms, gA E (ad 2) 10 sk, gA E (ad 3) 80 pt, gA E (ad 4) 8 ro2, gA E (ad 8) 12 ts, gA E (ad 9) 12 tk, gA E (ad 10) 13 fr, gA E (ad 11) 620 sp, gA E (ad 16) 620 pi2, gA E (ad 29) 12 lr2, gA E (ad 30) 12 ls2, gA E (ad 38) 12 y3, gA E (ad 39) 12 y4]) := by
  refine MM.ofG (cc := cX10_first) (maxL := 3) (ret := (some .int)) (by decide) rfl (Nat.le_of_ble_eq_true rfl) (ll := [some (.ref h), some (.int (nI P)), none]) rfl ?_
  intro X C Rt
  have C : gx E X cX10_first 3 wsX10_first RX10 := C
  refine g_iconst (v := nI 0) C dX10_first_0 (by decide) ?_
  refine g_istore_n C dX10_first_1 (by decide) rfl (ll' := [some (.ref h), some (.int (nI P)), some (.int (nI 0))]) rfl ?_
  have L2 : ∀ (n2 : Nat) (q : Nat) (ln1 : Nat) (ro1 pi1 lr1 ls1 y5 y6 : Nat → Int32), 8 - q < n2 → (q ≤ P) → (∀ i, i < q → prA ms sk pt cnt bs bk co sn nr P i = false) → gg E rm_c_X10_first 3 X 0 0 2 [some (.ref h), some (.int (nI P)), some (.int (nI q))] [] [gO h 10 (tF ad (upd (upd (upd iv 0 (nI cnt)) 5 (nI nr)) 31 (nI ln1))), gA E (ad 1) 10 ms, gA E (ad 2) 10 sk, gA E (ad 3) 80 pt, gA E (ad 4) 8 ro1, gA E (ad 8) 12 ts, gA E (ad 9) 12 tk, gA E (ad 10) 13 fr, gA E (ad 11) 620 sp, gA E (ad 16) 620 pi1, gA E (ad 29) 12 lr1, gA E (ad 30) 12 ls1, gA E (ad 38) 12 y5, gA E (ad 39) 12 y6] := by
    intro n2
    induction n2 with
    | zero => intro q ln1 ro1 pi1 lr1 ls1 y5 y6 hm2; exact absurd hm2 (Nat.not_lt_zero _)
    | succ n2 ih2 =>
      intro q ln1 ro1 pi1 lr1 ls1 y5 y6 hm2 hq hn
      refine g_aload_n C dX10_first_2 rfl ?_
      refine g_iload_n C dX10_first_3 rfl ?_
      refine g_callV C (c_X10_hasMark E h ad (upd (upd iv 5 (nI nr)) 31 (nI ln1)) cnt pt q (by omega) (by omega)) gX10_first_X10_hasMark rfl 1 (by decide +kernel) ⟨by decide, by decide⟩ ⟨by decide, by decide⟩ 0 rfl rfl [0, 3] [1, 2, 4, 5, 6, 7, 8, 9, 10, 11, 12, 13] (wr := [gA E (ad 1) 10 ms, gA E (ad 2) 10 sk, gA E (ad 4) 8 ro1, gA E (ad 8) 12 ts, gA E (ad 9) 12 tk, gA E (ad 10) 13 fr, gA E (ad 11) 620 sp, gA E (ad 16) 620 pi1, gA E (ad 29) 12 lr1, gA E (ad 30) 12 ls1, gA E (ad 38) 12 y5, gA E (ad 39) 12 y6]) rfl (by decide) rfl (by decide) (by decide) rfl rfl (Nat.le_of_ble_eq_true rfl) dX10_first_4 ?_
      rintro _ _ ⟨rfl, rfl⟩
      refine gg.perm (ws' := [gO h 10 (tF ad (upd (upd (upd iv 0 (nI cnt)) 5 (nI nr)) 31 (nI ln1))), gA E (ad 1) 10 ms, gA E (ad 2) 10 sk, gA E (ad 3) 80 pt, gA E (ad 4) 8 ro1, gA E (ad 8) 12 ts, gA E (ad 9) 12 tk, gA E (ad 10) 13 fr, gA E (ad 11) 620 sp, gA E (ad 16) 620 pi1, gA E (ad 29) 12 lr1, gA E (ad 30) 12 ls1, gA E (ad 38) 12 y5, gA E (ad 39) 12 y6]) [12, 0, 1, 13, 2, 3, 4, 5, 6, 7, 8, 9, 10, 11] (by decide) rfl ?_
      show gg E _ 3 X 0 0 7 [some (.ref h), some (.int (nI P)), some (.int (nI q))] [.int (b2i (haM pt q cnt))] [gO h 10 (tF ad (upd (upd (upd iv 0 (nI cnt)) 5 (nI nr)) 31 (nI ln1))), gA E (ad 1) 10 ms, gA E (ad 2) 10 sk, gA E (ad 3) 80 pt, gA E (ad 4) 8 ro1, gA E (ad 8) 12 ts, gA E (ad 9) 12 tk, gA E (ad 10) 13 fr, gA E (ad 11) 620 sp, gA E (ad 16) 620 pi1, gA E (ad 29) 12 lr1, gA E (ad 30) 12 ls1, gA E (ad 38) 12 y5, gA E (ad 39) 12 y6]
      refine g_if_eq (tgt := 19) C dX10_first_7 (by decide) (fun c7 => ?_) (fun c7 => ?_)
      · have hpq : prA ms sk pt cnt bs bk co sn nr P q = false := by rw [prA, b2i_f.mp c7]; rfl
        have hne : q ≠ P := fun e => by rw [e, prA_self hmk] at hpq; cases hpq
        refine g_iinc_n (y := 1) C dX10_first_19 rfl (by decide) (by decide) rfl (ll' := [some (.ref h), some (.int (nI P)), some (.int (nI (q + 1)))]) rfl ?_
        refine g_goto (tgt := 2) C dX10_first_22 (by decide) ?_
        exact ih2 (q + 1) ln1 ro1 pi1 lr1 ls1 y5 y6 (by omega) (by omega) (fun i hi => by
        by_cases e : i = q
        · rw [e]; exact hpq
        · exact hn i (by omega))
      · refine g_aload_n C dX10_first_10 rfl ?_
        refine g_iload_n C dX10_first_11 rfl ?_
        refine g_iload_n C dX10_first_12 rfl ?_
        refine g_callV C (c_X10_areAlike E h ad iv cnt nr ms sk pt ro1 ts tk fr sp pi1 lr1 ls1 bs bk co sn ln1 q P y5 y6 (by omega) (by omega) (hms) (by omega) (hts) (htk) (hst) (hok) (hsp) (by omega)) gX10_first_X10_areAlike rfl 2 (by decide +kernel) ⟨by decide, by decide⟩ ⟨by decide, by decide⟩ 0 rfl rfl [0, 1, 2, 3, 4, 5, 6, 7, 8, 9, 10, 11, 12, 13] [] (wr := []) rfl (by decide) rfl (by decide) (by decide) rfl rfl (Nat.le_of_ble_eq_true rfl) dX10_first_13 ?_
        rintro _ _ ⟨ro2_13, pi2_13, lr2_13, ls2_13, y3_13, y4_13, rfl, rfl⟩
        show gg E _ 3 X 0 0 16 [some (.ref h), some (.int (nI P)), some (.int (nI q))] [.int (b2i (alL bs (pgA bs bk (soF (ioF ms sk pt cnt q) co sn) (fun s => mkN sk pt q s cnt) nr) (pgA bs bk (soF (ioF ms sk pt cnt P) co sn) (fun s => mkN sk pt P s cnt) nr)))] [gO h 10 (tF ad (upd (upd (upd iv 0 (nI cnt)) 5 (nI nr)) 31 (nI ((pgA bs bk (soF (ioF ms sk pt cnt P) co sn) (fun s => mkN sk pt P s cnt) nr).length)))), gA E (ad 1) 10 ms, gA E (ad 2) 10 sk, gA E (ad 3) 80 pt, gA E (ad 4) 8 ro2_13, gA E (ad 8) 12 ts, gA E (ad 9) 12 tk, gA E (ad 10) 13 fr, gA E (ad 11) 620 sp, gA E (ad 16) 620 pi2_13, gA E (ad 29) 12 lr2_13, gA E (ad 30) 12 ls2_13, gA E (ad 38) 12 y3_13, gA E (ad 39) 12 y4_13]
        refine g_if_ne (tgt := 25) C dX10_first_16 (by decide) (fun c16 => ?_) (fun c16 => ?_)
        · refine g_iload_n C dX10_first_25 rfl ?_
          exact g_iret C Rt dX10_first_26 (by decide) (by decide) (⟨_, _, _, _, _, _, _, by rw [first_eq hq hn (fun _ => by rw [prA, b2i_t.mp c7]; exact b2i_t.mp c16)], rfl⟩)
        · have hpq : prA ms sk pt cnt bs bk co sn nr P q = false := by rw [prA, Bool.and_eq_false_iff]; exact Or.inr (b2i_f.mp c16)
          have hne : q ≠ P := fun e => by rw [e, prA_self hmk] at hpq; cases hpq
          refine g_iinc_n (y := 1) C dX10_first_19 rfl (by decide) (by decide) rfl (ll' := [some (.ref h), some (.int (nI P)), some (.int (nI (q + 1)))]) rfl ?_
          refine g_goto (tgt := 2) C dX10_first_22 (by decide) ?_
          exact ih2 (q + 1) ((pgA bs bk (soF (ioF ms sk pt cnt P) co sn) (fun s => mkN sk pt P s cnt) nr).length) ro2_13 pi2_13 lr2_13 ls2_13 y3_13 y4_13 (by omega) (by omega) (fun i hi => by
        by_cases e : i = q
        · rw [e]; exact hpq
        · exact hn i (by omega))
  exact L2 _ 0 ln0 ro pi lr ls y1 y2 (Nat.lt_succ_self _) (by omega) (fun i hi => absurd hi (Nat.not_lt_zero i))

abbrev rm_c_X10_sheet_ok : Room := { frames := 4, cells := 0, slots := 0, locals := 100 }
set_option maxHeartbeats 4000000 in
set_option maxRecDepth 100000 in
theorem c_X10_sheet_ok (E : gE) (h : Nat) (ad : Nat → Nat) (iv : Nat → Int32) (cnt nr : Nat) (ms sk pt ro ts tk fr sp pi lr ls bs bk co : Nat → Int32) (sn : Nat → Nat) (ln0 S t : Nat) (hcnt : cnt ≤ 10) (hms : okM ms cnt) (hnr : nr ≤ 12) (hts : ∀ q, q < nr → ts q = bs q) (htk : ∀ q, q < nr → tk q = bk q) (hst : ∀ q, q ≤ nr → fr q = nI (sn q)) (hok : okB nr sn co) (hsp : ∀ i, i < sn nr → sp i = trJ (co i)) (hS : S < 5) (hT : t < 4) : MM E yX10_sheet wsX10_sheet rm_c_X10_sheet_ok [.ref h, .int (nI S), .int (nI t)] [gO h 10 (tF ad (upd (upd (upd iv 0 (nI cnt)) 5 (nI nr)) 31 (nI ln0))), gA E (ad 1) 10 ms, gA E (ad 2) 10 sk, gA E (ad 3) 80 pt, gA E (ad 4) 8 ro, gA E (ad 8) 12 ts, gA E (ad 9) 12 tk, gA E (ad 10) 13 fr, gA E (ad 11) 620 sp, gA E (ad 16) 620 pi, gA E (ad 29) 12 lr, gA E (ad 30) 12 ls] (fun rv_ ru_ => ∃ (ln2 : Nat) (ro2 pi2 lr2 ls2 : Nat → Int32), rv_ = some (.int (nI (fa_cnt (fun p => hasL bs (pgL ms sk pt cnt bs bk co sn nr p) (nI S) (nI t)) 8))) ∧ ru_ = [gO h 10 (tF ad (upd (upd (upd iv 0 (nI cnt)) 5 (nI nr)) 31 (nI ln2))), gA E (ad 1) 10 ms, gA E (ad 2) 10 sk, gA E (ad 3) 80 pt, gA E (ad 4) 8 ro2, gA E (ad 8) 12 ts, gA E (ad 9) 12 tk, gA E (ad 10) 13 fr, gA E (ad 11) 620 sp, gA E (ad 16) 620 pi2, gA E (ad 29) 12 lr2, gA E (ad 30) 12 ls2]) := by
  refine MM.ofG (cc := cX10_sheet) (maxL := 5) (ret := (some .int)) (by decide) rfl (Nat.le_of_ble_eq_true rfl) (ll := [some (.ref h), some (.int (nI S)), some (.int (nI t)), none, none]) rfl ?_
  intro X C Rt
  have C : gx E X cX10_sheet 5 wsX10_sheet RX10 := C
  refine g_iload_n C dX10_sheet_0 rfl ?_
  refine g_callS C (c_X10_isSkill_y E S (by omega)) gX10_sheet_X10_isSkill rfl 1 (by decide +kernel) ⟨by decide, by decide⟩ ⟨by decide, by decide⟩ [] [0, 1, 2, 3, 4, 5, 6, 7, 8, 9, 10, 11] (wr := [gO h 10 (tF ad (upd (upd (upd iv 0 (nI cnt)) 5 (nI nr)) 31 (nI ln0))), gA E (ad 1) 10 ms, gA E (ad 2) 10 sk, gA E (ad 3) 80 pt, gA E (ad 4) 8 ro, gA E (ad 8) 12 ts, gA E (ad 9) 12 tk, gA E (ad 10) 13 fr, gA E (ad 11) 620 sp, gA E (ad 16) 620 pi, gA E (ad 29) 12 lr, gA E (ad 30) 12 ls]) rfl (by decide) rfl (by decide) (by decide) rfl rfl (Nat.le_of_ble_eq_true rfl) dX10_sheet_1 ?_
  rintro _ _ ⟨rfl, rfl⟩
  show gg E _ 5 X 0 0 4 [some (.ref h), some (.int (nI S)), some (.int (nI t)), none, none] [.int (nI 1)] [gO h 10 (tF ad (upd (upd (upd iv 0 (nI cnt)) 5 (nI nr)) 31 (nI ln0))), gA E (ad 1) 10 ms, gA E (ad 2) 10 sk, gA E (ad 3) 80 pt, gA E (ad 4) 8 ro, gA E (ad 8) 12 ts, gA E (ad 9) 12 tk, gA E (ad 10) 13 fr, gA E (ad 11) 620 sp, gA E (ad 16) 620 pi, gA E (ad 29) 12 lr, gA E (ad 30) 12 ls]
  refine g_if_eq (tgt := 16) C dX10_sheet_4 (by decide) (fun c4 => absurd c4 (by decide)) (fun c4 => ?_)
  refine g_iload_n C dX10_sheet_7 rfl ?_
  refine g_iconst (v := nI 0) C dX10_sheet_8 (by decide) ?_
  refine g_iconst (v := nI 3) C dX10_sheet_9 (by decide) ?_
  refine g_callS C (c_X10_isIn_y E (nI t) (nI 0) (nI 3) (nI_nlt (Nat.zero_le t) (by omega)) (nI_nlt (by omega) (by omega))) gX10_sheet_X10_isIn rfl 3 (by decide +kernel) ⟨by decide, by decide⟩ ⟨by decide, by decide⟩ [] [0, 1, 2, 3, 4, 5, 6, 7, 8, 9, 10, 11] (wr := [gO h 10 (tF ad (upd (upd (upd iv 0 (nI cnt)) 5 (nI nr)) 31 (nI ln0))), gA E (ad 1) 10 ms, gA E (ad 2) 10 sk, gA E (ad 3) 80 pt, gA E (ad 4) 8 ro, gA E (ad 8) 12 ts, gA E (ad 9) 12 tk, gA E (ad 10) 13 fr, gA E (ad 11) 620 sp, gA E (ad 16) 620 pi, gA E (ad 29) 12 lr, gA E (ad 30) 12 ls]) rfl (by decide) rfl (by decide) (by decide) rfl rfl (Nat.le_of_ble_eq_true rfl) dX10_sheet_10 ?_
  rintro _ _ ⟨rfl, rfl⟩
  show gg E _ 5 X 0 0 13 [some (.ref h), some (.int (nI S)), some (.int (nI t)), none, none] [.int (nI 1)] [gO h 10 (tF ad (upd (upd (upd iv 0 (nI cnt)) 5 (nI nr)) 31 (nI ln0))), gA E (ad 1) 10 ms, gA E (ad 2) 10 sk, gA E (ad 3) 80 pt, gA E (ad 4) 8 ro, gA E (ad 8) 12 ts, gA E (ad 9) 12 tk, gA E (ad 10) 13 fr, gA E (ad 11) 620 sp, gA E (ad 16) 620 pi, gA E (ad 29) 12 lr, gA E (ad 30) 12 ls]
  refine g_if_ne (tgt := 18) C dX10_sheet_13 (by decide) (fun c13 => ?_) (fun c13 => absurd c13 (by decide))
  refine g_iconst (v := nI 0) C dX10_sheet_18 (by decide) ?_
  refine g_istore_n C dX10_sheet_19 (by decide) rfl (ll' := [some (.ref h), some (.int (nI S)), some (.int (nI t)), some (.int (nI 0)), none]) rfl ?_
  refine g_iconst (v := nI 0) C dX10_sheet_20 (by decide) ?_
  refine g_istore C dX10_sheet_21 (by decide) rfl (ll' := [some (.ref h), some (.int (nI S)), some (.int (nI t)), some (.int (nI 0)), some (.int (nI 0))]) rfl ?_
  have L23 : ∀ (n23 : Nat) (p n : Nat) (ln1 : Nat) (ro1 pi1 lr1 ls1 : Nat → Int32), 8 - p < n23 → (p ≤ 8) → (n = fa_cnt (fun p => hasL bs (pgL ms sk pt cnt bs bk co sn nr p) (nI S) (nI t)) p) → gg E rm_c_X10_sheet_ok 5 X 0 0 23 [some (.ref h), some (.int (nI S)), some (.int (nI t)), some (.int (nI n)), some (.int (nI p))] [] [gO h 10 (tF ad (upd (upd (upd iv 0 (nI cnt)) 5 (nI nr)) 31 (nI ln1))), gA E (ad 1) 10 ms, gA E (ad 2) 10 sk, gA E (ad 3) 80 pt, gA E (ad 4) 8 ro1, gA E (ad 8) 12 ts, gA E (ad 9) 12 tk, gA E (ad 10) 13 fr, gA E (ad 11) 620 sp, gA E (ad 16) 620 pi1, gA E (ad 29) 12 lr1, gA E (ad 30) 12 ls1] := by
    intro n23
    induction n23 with
    | zero => intro p n ln1 ro1 pi1 lr1 ls1 hm23; exact absurd hm23 (Nat.not_lt_zero _)
    | succ n23 ih23 =>
      intro p n ln1 ro1 pi1 lr1 ls1 hm23 hp hn
      refine g_iload C dX10_sheet_23 rfl ?_
      refine g_bipush (v := nI 8) C dX10_sheet_25 (by decide) ?_
      refine g_icmp_ge_n (tgt := 59) C dX10_sheet_27 (by decide) (by omega) (by omega) (fun c27 => ?_) (fun c27 => ?_)
      · refine g_iload_n C dX10_sheet_59 rfl ?_
        exact g_iret C Rt dX10_sheet_60 (by decide) (by decide) (⟨_, _, _, _, _, by rw [hn, show p = 8 by omega], rfl⟩)
      · refine g_aload_n C dX10_sheet_30 rfl ?_
        refine g_iload C dX10_sheet_31 rfl ?_
        refine g_callV C (c_X10_pages E h ad iv cnt nr ms sk pt ro1 ts tk fr sp pi1 lr1 ls1 bs bk co sn ln1 p (by omega) (by omega) (hms) (by omega) (hts) (htk) (hst) (hok) (hsp)) gX10_sheet_X10_pages rfl 1 (by decide +kernel) ⟨by decide, by decide⟩ ⟨by decide, by decide⟩ 0 rfl rfl [0, 1, 2, 3, 4, 5, 6, 7, 8, 9, 10, 11] [] (wr := []) rfl (by decide) rfl (by decide) (by decide) rfl rfl (Nat.le_of_ble_eq_true rfl) dX10_sheet_33 ?_
        rintro _ _ ⟨ro2_33, pi2_33, lr2_33, ls2_33, rfl, rfl, ht_33⟩
        show gg E _ 5 X 0 0 36 [some (.ref h), some (.int (nI S)), some (.int (nI t)), some (.int (nI n)), some (.int (nI p))] [] [gO h 10 (tF ad (upd (upd (upd iv 0 (nI cnt)) 5 (nI nr)) 31 (nI ((pgA bs bk (soF (ioF ms sk pt cnt p) co sn) (fun s => mkN sk pt p s cnt) nr).length)))), gA E (ad 1) 10 ms, gA E (ad 2) 10 sk, gA E (ad 3) 80 pt, gA E (ad 4) 8 ro2_33, gA E (ad 8) 12 ts, gA E (ad 9) 12 tk, gA E (ad 10) 13 fr, gA E (ad 11) 620 sp, gA E (ad 16) 620 pi2_33, gA E (ad 29) 12 lr2_33, gA E (ad 30) 12 ls2_33]
        refine g_iload_n C dX10_sheet_36 rfl ?_
        refine g_aload_n C dX10_sheet_37 rfl ?_
        refine g_iload_n C dX10_sheet_38 rfl ?_
        refine g_iload_n C dX10_sheet_39 rfl ?_
        refine g_callV C (c_X10_has E h ad (upd (upd iv 0 (nI cnt)) 5 (nI nr)) ts lr2_33 ls2_33 bs (pgA bs bk (soF (ioF ms sk pt cnt p) co sn) (fun s => mkN sk pt p s cnt) nr) nr (nI S) (nI t) (pgA_len nr) (by omega) (pgA_in nr (Nat.le_refl nr)) (ht_33) (hts)) gX10_sheet_X10_has rfl 2 (by decide +kernel) ⟨by decide, by decide⟩ ⟨by decide, by decide⟩ 0 rfl rfl [0, 5, 10, 11] [1, 2, 3, 4, 6, 7, 8, 9] (wr := [gA E (ad 1) 10 ms, gA E (ad 2) 10 sk, gA E (ad 3) 80 pt, gA E (ad 4) 8 ro2_33, gA E (ad 9) 12 tk, gA E (ad 10) 13 fr, gA E (ad 11) 620 sp, gA E (ad 16) 620 pi2_33]) rfl (by decide) rfl (by decide) (by decide) rfl rfl (Nat.le_of_ble_eq_true rfl) dX10_sheet_40 ?_
        rintro _ _ ⟨rfl, rfl⟩
        refine gg.perm (ws' := [gO h 10 (tF ad (upd (upd (upd iv 0 (nI cnt)) 5 (nI nr)) 31 (nI ((pgA bs bk (soF (ioF ms sk pt cnt p) co sn) (fun s => mkN sk pt p s cnt) nr).length)))), gA E (ad 1) 10 ms, gA E (ad 2) 10 sk, gA E (ad 3) 80 pt, gA E (ad 4) 8 ro2_33, gA E (ad 8) 12 ts, gA E (ad 9) 12 tk, gA E (ad 10) 13 fr, gA E (ad 11) 620 sp, gA E (ad 16) 620 pi2_33, gA E (ad 29) 12 lr2_33, gA E (ad 30) 12 ls2_33]) [8, 0, 1, 2, 3, 9, 4, 5, 6, 7, 10, 11] (by decide) rfl ?_
        show gg E _ 5 X 0 0 43 [some (.ref h), some (.int (nI S)), some (.int (nI t)), some (.int (nI n)), some (.int (nI p))] [.int (b2i (hasL bs (pgA bs bk (soF (ioF ms sk pt cnt p) co sn) (fun s => mkN sk pt p s cnt) nr) (nI S) (nI t))), .int (nI n)] [gO h 10 (tF ad (upd (upd (upd iv 0 (nI cnt)) 5 (nI nr)) 31 (nI ((pgA bs bk (soF (ioF ms sk pt cnt p) co sn) (fun s => mkN sk pt p s cnt) nr).length)))), gA E (ad 1) 10 ms, gA E (ad 2) 10 sk, gA E (ad 3) 80 pt, gA E (ad 4) 8 ro2_33, gA E (ad 8) 12 ts, gA E (ad 9) 12 tk, gA E (ad 10) 13 fr, gA E (ad 11) 620 sp, gA E (ad 16) 620 pi2_33, gA E (ad 29) 12 lr2_33, gA E (ad 30) 12 ls2_33]
        refine g_if_eq (tgt := 50) C dX10_sheet_43 (by decide) (fun c43 => ?_) (fun c43 => ?_)
        · refine g_iconst (v := nI 0) C dX10_sheet_50 (by decide) ?_
          refine g_iadd_n C dX10_sheet_51 ?_
          refine g_istore_n C dX10_sheet_52 (by decide) rfl (ll' := [some (.ref h), some (.int (nI S)), some (.int (nI t)), some (.int (nI (n + 0))), some (.int (nI p))]) rfl ?_
          refine g_iinc_n (y := 1) C dX10_sheet_53 rfl (by decide) (by decide) rfl (ll' := [some (.ref h), some (.int (nI S)), some (.int (nI t)), some (.int (nI (n + 0))), some (.int (nI (p + 1)))]) rfl ?_
          refine g_goto (tgt := 23) C dX10_sheet_56 (by decide) ?_
          exact ih23 (p + 1) (n + 0) ((pgA bs bk (soF (ioF ms sk pt cnt p) co sn) (fun s => mkN sk pt p s cnt) nr).length) ro2_33 pi2_33 lr2_33 ls2_33 (by omega) (by omega) (by rw [fa_cnt_no (p := (fun p => hasL bs (pgL ms sk pt cnt bs bk co sn nr p) (nI S) (nI t))) (n := p) (b2i_f.mp c43), hn, Nat.add_zero])
        · refine g_iconst (v := nI 1) C dX10_sheet_46 (by decide) ?_
          refine g_goto (tgt := 51) C dX10_sheet_47 (by decide) ?_
          refine g_iadd_n C dX10_sheet_51 ?_
          refine g_istore_n C dX10_sheet_52 (by decide) rfl (ll' := [some (.ref h), some (.int (nI S)), some (.int (nI t)), some (.int (nI (n + 1))), some (.int (nI p))]) rfl ?_
          refine g_iinc_n (y := 1) C dX10_sheet_53 rfl (by decide) (by decide) rfl (ll' := [some (.ref h), some (.int (nI S)), some (.int (nI t)), some (.int (nI (n + 1))), some (.int (nI (p + 1)))]) rfl ?_
          refine g_goto (tgt := 23) C dX10_sheet_56 (by decide) ?_
          exact ih23 (p + 1) (n + 1) ((pgA bs bk (soF (ioF ms sk pt cnt p) co sn) (fun s => mkN sk pt p s cnt) nr).length) ro2_33 pi2_33 lr2_33 ls2_33 (by omega) (by omega) (by rw [fa_cnt_yes (p := (fun p => hasL bs (pgL ms sk pt cnt bs bk co sn nr p) (nI S) (nI t))) (n := p) (b2i_t.mp c43), hn])
  exact L23 _ 0 0 ln0 ro pi lr ls (Nat.lt_succ_self _) (by omega) (rfl)

abbrev rm_c_X10_sheet_bad : Room := { frames := 4, cells := 0, slots := 0, locals := 100 }
set_option maxHeartbeats 4000000 in
set_option maxRecDepth 100000 in
theorem c_X10_sheet_bad (E : gE) (h : Nat) (ad : Nat → Nat) (iv : Nat → Int32) (p q : Int32) (hb : p < 0 ∨ nI 4 < p ∨ q < 0 ∨ nI 3 < q) : MM E yX10_sheet wsX10_sheet rm_c_X10_sheet_bad [.ref h, .int p, .int q] [gO h 10 (tF ad iv)] (fun rv_ ru_ => rv_ = some (.int (-1)) ∧ ru_ = [gO h 10 (tF ad iv)]) := by
  refine MM.ofG (cc := cX10_sheet) (maxL := 5) (ret := (some .int)) (by decide) rfl (Nat.le_of_ble_eq_true rfl) (ll := [some (.ref h), some (.int p), some (.int q), none, none]) rfl ?_
  intro X C Rt
  have C : gx E X cX10_sheet 5 wsX10_sheet RX10 := C
  refine g_iload_n C dX10_sheet_0 rfl ?_
  refine g_callS C (c_X10_isSkill E p ) gX10_sheet_X10_isSkill rfl 1 (by decide +kernel) ⟨by decide, by decide⟩ ⟨by decide, by decide⟩ [] [0] (wr := [gO h 10 (tF ad iv)]) rfl (by decide) rfl (by decide) (by decide) rfl rfl (Nat.le_of_ble_eq_true rfl) dX10_sheet_1 ?_
  rintro _ _ ⟨rfl, rfl⟩
  show gg E _ 5 X 0 0 4 [some (.ref h), some (.int p), some (.int q), none, none] [.int (b2i (decide (¬ p < nI 0 ∧ ¬ nI 4 < p)))] [gO h 10 (tF ad iv)]
  refine g_if_eq (tgt := 16) C dX10_sheet_4 (by decide) (fun c4 => ?_) (fun c4 => ?_)
  · refine g_iconst (v := -1) C dX10_sheet_16 (by decide) ?_
    exact g_iret C Rt dX10_sheet_17 (by decide) (by decide) (⟨rfl, rfl⟩)
  · refine g_iload_n C dX10_sheet_7 rfl ?_
    refine g_iconst (v := nI 0) C dX10_sheet_8 (by decide) ?_
    refine g_iconst (v := nI 3) C dX10_sheet_9 (by decide) ?_
    refine g_callS C (c_X10_isIn E q (nI 0) (nI 3) ) gX10_sheet_X10_isIn rfl 3 (by decide +kernel) ⟨by decide, by decide⟩ ⟨by decide, by decide⟩ [] [0] (wr := [gO h 10 (tF ad iv)]) rfl (by decide) rfl (by decide) (by decide) rfl rfl (Nat.le_of_ble_eq_true rfl) dX10_sheet_10 ?_
    rintro _ _ ⟨rfl, rfl⟩
    show gg E _ 5 X 0 0 13 [some (.ref h), some (.int p), some (.int q), none, none] [.int (b2i (decide (¬ q < (nI 0) ∧ ¬ (nI 3) < q)))] [gO h 10 (tF ad iv)]
    refine g_if_ne (tgt := 18) C dX10_sheet_13 (by decide) (fun c13 => ?_) (fun c13 => ?_)
    · exact (have z1 := of_decide_eq_true (b2i_t.mp c4); have z2 := of_decide_eq_true (b2i_t.mp c13); hb.elim (fun z => absurd z z1.1) (fun z => z.elim (fun z => absurd z z1.2) (fun z => z.elim (fun z => absurd z z2.1) (fun z => absurd z z2.2))))
    · refine g_iconst (v := -1) C dX10_sheet_16 (by decide) ?_
      exact g_iret C Rt dX10_sheet_17 (by decide) (by decide) (⟨rfl, rfl⟩)

abbrev rm_c_X10_group_all : Room := { frames := 6, cells := 0, slots := 0, locals := 147 }
set_option maxHeartbeats 4000000 in
set_option maxRecDepth 100000 in
theorem c_X10_group_all (E : gE) (h : Nat) (ad : Nat → Nat) (iv : Nat → Int32) (cnt nr : Nat) (ms sk pt ro ts tk fr sp pi lr ls bs bk co : Nat → Int32) (sn : Nat → Nat) (ln0 : Nat) (y1 y2 : Nat → Int32) (hcnt : cnt ≤ 10) (hms : okM ms cnt) (hnr : nr ≤ 12) (hts : ∀ q, q < nr → ts q = bs q) (htk : ∀ q, q < nr → tk q = bk q) (hst : ∀ q, q ≤ nr → fr q = nI (sn q)) (hok : okB nr sn co) (hsp : ∀ i, i < sn nr → sp i = trJ (co i)) : MM E yX10_group wsX10_group rm_c_X10_group_all [.ref h, .int (-1)] [gO h 10 (tF ad (upd (upd (upd iv 0 (nI cnt)) 5 (nI nr)) 31 (nI ln0))), gA E (ad 1) 10 ms, gA E (ad 2) 10 sk, gA E (ad 3) 80 pt, gA E (ad 4) 8 ro, gA E (ad 8) 12 ts, gA E (ad 9) 12 tk, gA E (ad 10) 13 fr, gA E (ad 11) 620 sp, gA E (ad 16) 620 pi, gA E (ad 29) 12 lr, gA E (ad 30) 12 ls, gA E (ad 38) 12 y1, gA E (ad 39) 12 y2] (fun rv_ ru_ => ∃ (ln2 : Nat) (ro2 pi2 lr2 ls2 y3 y4 : Nat → Int32), rv_ = some (.int (nI (fa_cnt (grP ms sk pt cnt bs bk co sn nr) 8))) ∧ ru_ = [gO h 10 (tF ad (upd (upd (upd iv 0 (nI cnt)) 5 (nI nr)) 31 (nI ln2))), gA E (ad 1) 10 ms, gA E (ad 2) 10 sk, gA E (ad 3) 80 pt, gA E (ad 4) 8 ro2, gA E (ad 8) 12 ts, gA E (ad 9) 12 tk, gA E (ad 10) 13 fr, gA E (ad 11) 620 sp, gA E (ad 16) 620 pi2, gA E (ad 29) 12 lr2, gA E (ad 30) 12 ls2, gA E (ad 38) 12 y3, gA E (ad 39) 12 y4]) := by
  refine MM.ofG (cc := cX10_group) (maxL := 5) (ret := (some .int)) (by decide) rfl (Nat.le_of_ble_eq_true rfl) (ll := [some (.ref h), some (.int (-1)), none, none, none]) rfl ?_
  intro X C Rt
  have C : gx E X cX10_group 5 wsX10_group RX10 := C
  refine g_iload_n C dX10_group_0 rfl ?_
  refine g_iconst (v := -1) C dX10_group_1 (by decide) ?_
  refine g_icmp_eq (tgt := 22) C dX10_group_2 (by decide) (fun c2 => ?_) (fun c2 => absurd c2 (by decide))
  refine g_iconst (v := nI 0) C dX10_group_22 (by decide) ?_
  refine g_istore_n C dX10_group_23 (by decide) rfl (ll' := [some (.ref h), some (.int (-1)), some (.int (nI 0)), none, none]) rfl ?_
  refine g_iload_n C dX10_group_24 rfl ?_
  refine g_iconst (v := -1) C dX10_group_25 (by decide) ?_
  refine g_icmp_ne (tgt := 34) C dX10_group_26 (by decide) (fun c26 => absurd c26 (by decide)) (fun c26 => ?_)
  refine g_bipush (v := nI 8) C dX10_group_29 (by decide) ?_
  refine g_goto (tgt := 39) C dX10_group_31 (by decide) ?_
  refine g_istore_n C dX10_group_39 (by decide) rfl (ll' := [some (.ref h), some (.int (-1)), some (.int (nI 0)), some (.int (nI 8)), none]) rfl ?_
  refine g_iconst (v := nI 0) C dX10_group_40 (by decide) ?_
  refine g_istore C dX10_group_41 (by decide) rfl (ll' := [some (.ref h), some (.int (-1)), some (.int (nI 0)), some (.int (nI 8)), some (.int (nI 0))]) rfl ?_
  have L43 : ∀ (n43 : Nat) (q n : Nat) (ln1 : Nat) (ro1 pi1 lr1 ls1 y5 y6 : Nat → Int32), 8 - q < n43 → (q ≤ 8) → (n = fa_cnt (grP ms sk pt cnt bs bk co sn nr) q) → gg E rm_c_X10_group_all 5 X 0 0 43 [some (.ref h), some (.int (-1)), some (.int (nI n)), some (.int (nI 8)), some (.int (nI q))] [] [gO h 10 (tF ad (upd (upd (upd iv 0 (nI cnt)) 5 (nI nr)) 31 (nI ln1))), gA E (ad 1) 10 ms, gA E (ad 2) 10 sk, gA E (ad 3) 80 pt, gA E (ad 4) 8 ro1, gA E (ad 8) 12 ts, gA E (ad 9) 12 tk, gA E (ad 10) 13 fr, gA E (ad 11) 620 sp, gA E (ad 16) 620 pi1, gA E (ad 29) 12 lr1, gA E (ad 30) 12 ls1, gA E (ad 38) 12 y5, gA E (ad 39) 12 y6] := by
    intro n43
    induction n43 with
    | zero => intro q n ln1 ro1 pi1 lr1 ls1 y5 y6 hm43; exact absurd hm43 (Nat.not_lt_zero _)
    | succ n43 ih43 =>
      intro q n ln1 ro1 pi1 lr1 ls1 y5 y6 hm43 hq hn
      refine g_iload C dX10_group_43 rfl ?_
      refine g_iload_n C dX10_group_45 rfl ?_
      refine g_icmp_ge_n (tgt := 83) C dX10_group_46 (by decide) (by omega) (by omega) (fun c46 => ?_) (fun c46 => ?_)
      · refine g_iload_n C dX10_group_83 rfl ?_
        exact g_iret C Rt dX10_group_84 (by decide) (by decide) (⟨_, _, _, _, _, _, _, by rw [hn, show q = 8 by omega], rfl⟩)
      · refine g_iload_n C dX10_group_49 rfl ?_
        refine g_aload_n C dX10_group_50 rfl ?_
        refine g_iload C dX10_group_51 rfl ?_
        refine g_callV C (c_X10_hasMark E h ad (upd (upd iv 5 (nI nr)) 31 (nI ln1)) cnt pt q (by omega) (by omega)) gX10_group_X10_hasMark rfl 1 (by decide +kernel) ⟨by decide, by decide⟩ ⟨by decide, by decide⟩ 0 rfl rfl [0, 3] [1, 2, 4, 5, 6, 7, 8, 9, 10, 11, 12, 13] (wr := [gA E (ad 1) 10 ms, gA E (ad 2) 10 sk, gA E (ad 4) 8 ro1, gA E (ad 8) 12 ts, gA E (ad 9) 12 tk, gA E (ad 10) 13 fr, gA E (ad 11) 620 sp, gA E (ad 16) 620 pi1, gA E (ad 29) 12 lr1, gA E (ad 30) 12 ls1, gA E (ad 38) 12 y5, gA E (ad 39) 12 y6]) rfl (by decide) rfl (by decide) (by decide) rfl rfl (Nat.le_of_ble_eq_true rfl) dX10_group_53 ?_
        rintro _ _ ⟨rfl, rfl⟩
        refine gg.perm (ws' := [gO h 10 (tF ad (upd (upd (upd iv 0 (nI cnt)) 5 (nI nr)) 31 (nI ln1))), gA E (ad 1) 10 ms, gA E (ad 2) 10 sk, gA E (ad 3) 80 pt, gA E (ad 4) 8 ro1, gA E (ad 8) 12 ts, gA E (ad 9) 12 tk, gA E (ad 10) 13 fr, gA E (ad 11) 620 sp, gA E (ad 16) 620 pi1, gA E (ad 29) 12 lr1, gA E (ad 30) 12 ls1, gA E (ad 38) 12 y5, gA E (ad 39) 12 y6]) [12, 0, 1, 13, 2, 3, 4, 5, 6, 7, 8, 9, 10, 11] (by decide) rfl ?_
        show gg E _ 5 X 0 0 56 [some (.ref h), some (.int (-1)), some (.int (nI n)), some (.int (nI 8)), some (.int (nI q))] [.int (b2i (haM pt q cnt)), .int (nI n)] [gO h 10 (tF ad (upd (upd (upd iv 0 (nI cnt)) 5 (nI nr)) 31 (nI ln1))), gA E (ad 1) 10 ms, gA E (ad 2) 10 sk, gA E (ad 3) 80 pt, gA E (ad 4) 8 ro1, gA E (ad 8) 12 ts, gA E (ad 9) 12 tk, gA E (ad 10) 13 fr, gA E (ad 11) 620 sp, gA E (ad 16) 620 pi1, gA E (ad 29) 12 lr1, gA E (ad 30) 12 ls1, gA E (ad 38) 12 y5, gA E (ad 39) 12 y6]
        refine g_if_eq (tgt := 74) C dX10_group_56 (by decide) (fun c56 => ?_) (fun c56 => ?_)
        · refine g_iconst (v := nI 0) C dX10_group_74 (by decide) ?_
          refine g_iadd_n C dX10_group_75 ?_
          refine g_istore_n C dX10_group_76 (by decide) rfl (ll' := [some (.ref h), some (.int (-1)), some (.int (nI (n + 0))), some (.int (nI 8)), some (.int (nI q))]) rfl ?_
          refine g_iinc_n (y := 1) C dX10_group_77 rfl (by decide) (by decide) rfl (ll' := [some (.ref h), some (.int (-1)), some (.int (nI (n + 0))), some (.int (nI 8)), some (.int (nI (q + 1)))]) rfl ?_
          refine g_goto (tgt := 43) C dX10_group_80 (by decide) ?_
          exact ih43 (q + 1) (n + 0) ln1 ro1 pi1 lr1 ls1 y5 y6 (by omega) (by omega) (by rw [fa_cnt_no (p := (grP ms sk pt cnt bs bk co sn nr)) (n := q) (by rw [grP, b2i_f.mp c56]; rfl), hn, Nat.add_zero])
        · refine g_aload_n C dX10_group_59 rfl ?_
          refine g_iload C dX10_group_60 rfl ?_
          refine g_callV C (c_X10_first E h ad iv cnt nr ms sk pt ro1 ts tk fr sp pi1 lr1 ls1 bs bk co sn ln1 q y5 y6 (by omega) (by omega) (hms) (by omega) (hts) (htk) (hst) (hok) (hsp) (b2i_t.mp c56)) gX10_group_X10_first rfl 1 (by decide +kernel) ⟨by decide, by decide⟩ ⟨by decide, by decide⟩ 0 rfl rfl [0, 1, 2, 3, 4, 5, 6, 7, 8, 9, 10, 11, 12, 13] [] (wr := []) rfl (by decide) rfl (by decide) (by decide) rfl rfl (Nat.le_of_ble_eq_true rfl) dX10_group_62 ?_
          rintro _ _ ⟨ln2_62, ro2_62, pi2_62, lr2_62, ls2_62, y3_62, y4_62, rfl, rfl⟩
          show gg E _ 5 X 0 0 65 [some (.ref h), some (.int (-1)), some (.int (nI n)), some (.int (nI 8)), some (.int (nI q))] [.int (nI (fa_first (prA ms sk pt cnt bs bk co sn nr q) q)), .int (nI n)] [gO h 10 (tF ad (upd (upd (upd iv 0 (nI cnt)) 5 (nI nr)) 31 (nI ln2_62))), gA E (ad 1) 10 ms, gA E (ad 2) 10 sk, gA E (ad 3) 80 pt, gA E (ad 4) 8 ro2_62, gA E (ad 8) 12 ts, gA E (ad 9) 12 tk, gA E (ad 10) 13 fr, gA E (ad 11) 620 sp, gA E (ad 16) 620 pi2_62, gA E (ad 29) 12 lr2_62, gA E (ad 30) 12 ls2_62, gA E (ad 38) 12 y3_62, gA E (ad 39) 12 y4_62]
          refine g_iload C dX10_group_65 rfl ?_
          refine g_icmp_ne_n (tgt := 74) C dX10_group_67 (by decide) (by have := fa_first_le (prA ms sk pt cnt bs bk co sn nr q) q; omega) (by have := fa_first_le (prA ms sk pt cnt bs bk co sn nr q) q; omega) (fun c67 => ?_) (fun c67 => ?_)
          · refine g_iconst (v := nI 0) C dX10_group_74 (by decide) ?_
            refine g_iadd_n C dX10_group_75 ?_
            refine g_istore_n C dX10_group_76 (by decide) rfl (ll' := [some (.ref h), some (.int (-1)), some (.int (nI (n + 0))), some (.int (nI 8)), some (.int (nI q))]) rfl ?_
            refine g_iinc_n (y := 1) C dX10_group_77 rfl (by decide) (by decide) rfl (ll' := [some (.ref h), some (.int (-1)), some (.int (nI (n + 0))), some (.int (nI 8)), some (.int (nI (q + 1)))]) rfl ?_
            refine g_goto (tgt := 43) C dX10_group_80 (by decide) ?_
            exact ih43 (q + 1) (n + 0) ln2_62 ro2_62 pi2_62 lr2_62 ls2_62 y3_62 y4_62 (by omega) (by omega) (by rw [fa_cnt_no (p := (grP ms sk pt cnt bs bk co sn nr)) (n := q) (by rw [grP, b2i_t.mp c56, decide_eq_false c67]; rfl), hn, Nat.add_zero])
          · refine g_iconst (v := nI 1) C dX10_group_70 (by decide) ?_
            refine g_goto (tgt := 75) C dX10_group_71 (by decide) ?_
            refine g_iadd_n C dX10_group_75 ?_
            refine g_istore_n C dX10_group_76 (by decide) rfl (ll' := [some (.ref h), some (.int (-1)), some (.int (nI (n + 1))), some (.int (nI 8)), some (.int (nI q))]) rfl ?_
            refine g_iinc_n (y := 1) C dX10_group_77 rfl (by decide) (by decide) rfl (ll' := [some (.ref h), some (.int (-1)), some (.int (nI (n + 1))), some (.int (nI 8)), some (.int (nI (q + 1)))]) rfl ?_
            refine g_goto (tgt := 43) C dX10_group_80 (by decide) ?_
            exact ih43 (q + 1) (n + 1) ln2_62 ro2_62 pi2_62 lr2_62 ls2_62 y3_62 y4_62 (by omega) (by omega) (by rw [fa_cnt_yes (p := (grP ms sk pt cnt bs bk co sn nr)) (n := q) (by rw [grP, b2i_t.mp c56, decide_eq_true c67]; rfl), hn])
  exact L43 _ 0 0 ln0 ro pi lr ls y1 y2 (Nat.lt_succ_self _) (by omega) (rfl)

abbrev rm_c_X10_group_ok : Room := { frames := 6, cells := 0, slots := 0, locals := 147 }
set_option maxHeartbeats 4000000 in
set_option maxRecDepth 100000 in
theorem c_X10_group_ok (E : gE) (h : Nat) (ad : Nat → Nat) (iv : Nat → Int32) (cnt nr : Nat) (ms sk pt ro ts tk fr sp pi lr ls bs bk co : Nat → Int32) (sn : Nat → Nat) (ln0 P : Nat) (y1 y2 : Nat → Int32) (hcnt : cnt ≤ 10) (hP : P < 8) (hms : okM ms cnt) (hnr : nr ≤ 12) (hts : ∀ q, q < nr → ts q = bs q) (htk : ∀ q, q < nr → tk q = bk q) (hst : ∀ q, q ≤ nr → fr q = nI (sn q)) (hok : okB nr sn co) (hsp : ∀ i, i < sn nr → sp i = trJ (co i)) (hmk : haM pt P cnt = true) : MM E yX10_group wsX10_group rm_c_X10_group_ok [.ref h, .int (nI P)] [gO h 10 (tF ad (upd (upd (upd iv 0 (nI cnt)) 5 (nI nr)) 31 (nI ln0))), gA E (ad 1) 10 ms, gA E (ad 2) 10 sk, gA E (ad 3) 80 pt, gA E (ad 4) 8 ro, gA E (ad 8) 12 ts, gA E (ad 9) 12 tk, gA E (ad 10) 13 fr, gA E (ad 11) 620 sp, gA E (ad 16) 620 pi, gA E (ad 29) 12 lr, gA E (ad 30) 12 ls, gA E (ad 38) 12 y1, gA E (ad 39) 12 y2] (fun rv_ ru_ => ∃ (ln2 : Nat) (ro2 pi2 lr2 ls2 y3 y4 : Nat → Int32), rv_ = some (.int (nI (fa_cnt (grP ms sk pt cnt bs bk co sn nr) (fa_first (prA ms sk pt cnt bs bk co sn nr P) P)))) ∧ ru_ = [gO h 10 (tF ad (upd (upd (upd iv 0 (nI cnt)) 5 (nI nr)) 31 (nI ln2))), gA E (ad 1) 10 ms, gA E (ad 2) 10 sk, gA E (ad 3) 80 pt, gA E (ad 4) 8 ro2, gA E (ad 8) 12 ts, gA E (ad 9) 12 tk, gA E (ad 10) 13 fr, gA E (ad 11) 620 sp, gA E (ad 16) 620 pi2, gA E (ad 29) 12 lr2, gA E (ad 30) 12 ls2, gA E (ad 38) 12 y3, gA E (ad 39) 12 y4]) := by
  refine MM.ofG (cc := cX10_group) (maxL := 5) (ret := (some .int)) (by decide) rfl (Nat.le_of_ble_eq_true rfl) (ll := [some (.ref h), some (.int (nI P)), none, none, none]) rfl ?_
  intro X C Rt
  have C : gx E X cX10_group 5 wsX10_group RX10 := C
  have hfl := fa_first_le (prA ms sk pt cnt bs bk co sn nr P) P
  refine g_iload_n C dX10_group_0 rfl ?_
  refine g_iconst (v := -1) C dX10_group_1 (by decide) ?_
  refine g_icmp_eq (tgt := 22) C dX10_group_2 (by decide) (fun c2 => ?_) (fun c2 => ?_)
  · exact absurd c2 (nI_nm1 (by omega))
  · refine g_iload_n C dX10_group_5 rfl ?_
    refine g_callS C (c_X10_isPupil_y E P (by omega)) gX10_group_X10_isPupil rfl 1 (by decide +kernel) ⟨by decide, by decide⟩ ⟨by decide, by decide⟩ [] [0, 1, 2, 3, 4, 5, 6, 7, 8, 9, 10, 11, 12, 13] (wr := [gO h 10 (tF ad (upd (upd (upd iv 0 (nI cnt)) 5 (nI nr)) 31 (nI ln0))), gA E (ad 1) 10 ms, gA E (ad 2) 10 sk, gA E (ad 3) 80 pt, gA E (ad 4) 8 ro, gA E (ad 8) 12 ts, gA E (ad 9) 12 tk, gA E (ad 10) 13 fr, gA E (ad 11) 620 sp, gA E (ad 16) 620 pi, gA E (ad 29) 12 lr, gA E (ad 30) 12 ls, gA E (ad 38) 12 y1, gA E (ad 39) 12 y2]) rfl (by decide) rfl (by decide) (by decide) rfl rfl (Nat.le_of_ble_eq_true rfl) dX10_group_6 ?_
    rintro _ _ ⟨rfl, rfl⟩
    show gg E _ 5 X 0 0 9 [some (.ref h), some (.int (nI P)), none, none, none] [.int (nI 1)] [gO h 10 (tF ad (upd (upd (upd iv 0 (nI cnt)) 5 (nI nr)) 31 (nI ln0))), gA E (ad 1) 10 ms, gA E (ad 2) 10 sk, gA E (ad 3) 80 pt, gA E (ad 4) 8 ro, gA E (ad 8) 12 ts, gA E (ad 9) 12 tk, gA E (ad 10) 13 fr, gA E (ad 11) 620 sp, gA E (ad 16) 620 pi, gA E (ad 29) 12 lr, gA E (ad 30) 12 ls, gA E (ad 38) 12 y1, gA E (ad 39) 12 y2]
    refine g_if_eq (tgt := 20) C dX10_group_9 (by decide) (fun c9 => absurd c9 (by decide)) (fun c9 => ?_)
    refine g_aload_n C dX10_group_12 rfl ?_
    refine g_iload_n C dX10_group_13 rfl ?_
    refine g_callV C (c_X10_hasMark E h ad (upd (upd iv 5 (nI nr)) 31 (nI ln0)) cnt pt P (by omega) (by omega)) gX10_group_X10_hasMark rfl 1 (by decide +kernel) ⟨by decide, by decide⟩ ⟨by decide, by decide⟩ 0 rfl rfl [0, 3] [1, 2, 4, 5, 6, 7, 8, 9, 10, 11, 12, 13] (wr := [gA E (ad 1) 10 ms, gA E (ad 2) 10 sk, gA E (ad 4) 8 ro, gA E (ad 8) 12 ts, gA E (ad 9) 12 tk, gA E (ad 10) 13 fr, gA E (ad 11) 620 sp, gA E (ad 16) 620 pi, gA E (ad 29) 12 lr, gA E (ad 30) 12 ls, gA E (ad 38) 12 y1, gA E (ad 39) 12 y2]) rfl (by decide) rfl (by decide) (by decide) rfl rfl (Nat.le_of_ble_eq_true rfl) dX10_group_14 ?_
    rintro _ _ ⟨rfl, rfl⟩
    refine gg.perm (ws' := [gO h 10 (tF ad (upd (upd (upd iv 0 (nI cnt)) 5 (nI nr)) 31 (nI ln0))), gA E (ad 1) 10 ms, gA E (ad 2) 10 sk, gA E (ad 3) 80 pt, gA E (ad 4) 8 ro, gA E (ad 8) 12 ts, gA E (ad 9) 12 tk, gA E (ad 10) 13 fr, gA E (ad 11) 620 sp, gA E (ad 16) 620 pi, gA E (ad 29) 12 lr, gA E (ad 30) 12 ls, gA E (ad 38) 12 y1, gA E (ad 39) 12 y2]) [12, 0, 1, 13, 2, 3, 4, 5, 6, 7, 8, 9, 10, 11] (by decide) rfl ?_
    show gg E _ 5 X 0 0 17 [some (.ref h), some (.int (nI P)), none, none, none] [.int (b2i (haM pt P cnt))] [gO h 10 (tF ad (upd (upd (upd iv 0 (nI cnt)) 5 (nI nr)) 31 (nI ln0))), gA E (ad 1) 10 ms, gA E (ad 2) 10 sk, gA E (ad 3) 80 pt, gA E (ad 4) 8 ro, gA E (ad 8) 12 ts, gA E (ad 9) 12 tk, gA E (ad 10) 13 fr, gA E (ad 11) 620 sp, gA E (ad 16) 620 pi, gA E (ad 29) 12 lr, gA E (ad 30) 12 ls, gA E (ad 38) 12 y1, gA E (ad 39) 12 y2]
    refine g_top (x' := nI 1) (by rw [hmk]; rfl) ?_
    refine g_if_ne (tgt := 22) C dX10_group_17 (by decide) (fun c17 => ?_) (fun c17 => absurd c17 (by decide))
    refine g_iconst (v := nI 0) C dX10_group_22 (by decide) ?_
    refine g_istore_n C dX10_group_23 (by decide) rfl (ll' := [some (.ref h), some (.int (nI P)), some (.int (nI 0)), none, none]) rfl ?_
    refine g_iload_n C dX10_group_24 rfl ?_
    refine g_iconst (v := -1) C dX10_group_25 (by decide) ?_
    refine g_icmp_ne (tgt := 34) C dX10_group_26 (by decide) (fun c26 => ?_) (fun c26 => ?_)
    · refine g_aload_n C dX10_group_34 rfl ?_
      refine g_iload_n C dX10_group_35 rfl ?_
      refine g_callV C (c_X10_first E h ad iv cnt nr ms sk pt ro ts tk fr sp pi lr ls bs bk co sn ln0 P y1 y2 (by omega) (by omega) (hms) (by omega) (hts) (htk) (hst) (hok) (hsp) (hmk)) gX10_group_X10_first rfl 1 (by decide +kernel) ⟨by decide, by decide⟩ ⟨by decide, by decide⟩ 0 rfl rfl [0, 1, 2, 3, 4, 5, 6, 7, 8, 9, 10, 11, 12, 13] [] (wr := []) rfl (by decide) rfl (by decide) (by decide) rfl rfl (Nat.le_of_ble_eq_true rfl) dX10_group_36 ?_
      rintro _ _ ⟨ln2_36, ro2_36, pi2_36, lr2_36, ls2_36, y3_36, y4_36, rfl, rfl⟩
      show gg E _ 5 X 0 0 39 [some (.ref h), some (.int (nI P)), some (.int (nI 0)), none, none] [.int (nI (fa_first (prA ms sk pt cnt bs bk co sn nr P) P))] [gO h 10 (tF ad (upd (upd (upd iv 0 (nI cnt)) 5 (nI nr)) 31 (nI ln2_36))), gA E (ad 1) 10 ms, gA E (ad 2) 10 sk, gA E (ad 3) 80 pt, gA E (ad 4) 8 ro2_36, gA E (ad 8) 12 ts, gA E (ad 9) 12 tk, gA E (ad 10) 13 fr, gA E (ad 11) 620 sp, gA E (ad 16) 620 pi2_36, gA E (ad 29) 12 lr2_36, gA E (ad 30) 12 ls2_36, gA E (ad 38) 12 y3_36, gA E (ad 39) 12 y4_36]
      refine g_istore_n C dX10_group_39 (by decide) rfl (ll' := [some (.ref h), some (.int (nI P)), some (.int (nI 0)), some (.int (nI (fa_first (prA ms sk pt cnt bs bk co sn nr P) P))), none]) rfl ?_
      refine g_iconst (v := nI 0) C dX10_group_40 (by decide) ?_
      refine g_istore C dX10_group_41 (by decide) rfl (ll' := [some (.ref h), some (.int (nI P)), some (.int (nI 0)), some (.int (nI (fa_first (prA ms sk pt cnt bs bk co sn nr P) P))), some (.int (nI 0))]) rfl ?_
      have L43 : ∀ (n43 : Nat) (q n : Nat) (ln1 : Nat) (ro1 pi1 lr1 ls1 y5 y6 : Nat → Int32), 8 - q < n43 → (q ≤ (fa_first (prA ms sk pt cnt bs bk co sn nr P) P)) → (n = fa_cnt (grP ms sk pt cnt bs bk co sn nr) q) → gg E rm_c_X10_group_ok 5 X 0 0 43 [some (.ref h), some (.int (nI P)), some (.int (nI n)), some (.int (nI (fa_first (prA ms sk pt cnt bs bk co sn nr P) P))), some (.int (nI q))] [] [gO h 10 (tF ad (upd (upd (upd iv 0 (nI cnt)) 5 (nI nr)) 31 (nI ln1))), gA E (ad 1) 10 ms, gA E (ad 2) 10 sk, gA E (ad 3) 80 pt, gA E (ad 4) 8 ro1, gA E (ad 8) 12 ts, gA E (ad 9) 12 tk, gA E (ad 10) 13 fr, gA E (ad 11) 620 sp, gA E (ad 16) 620 pi1, gA E (ad 29) 12 lr1, gA E (ad 30) 12 ls1, gA E (ad 38) 12 y5, gA E (ad 39) 12 y6] := by
        intro n43
        induction n43 with
        | zero => intro q n ln1 ro1 pi1 lr1 ls1 y5 y6 hm43; exact absurd hm43 (Nat.not_lt_zero _)
        | succ n43 ih43 =>
          intro q n ln1 ro1 pi1 lr1 ls1 y5 y6 hm43 hq hn
          refine g_iload C dX10_group_43 rfl ?_
          refine g_iload_n C dX10_group_45 rfl ?_
          refine g_icmp_ge_n (tgt := 83) C dX10_group_46 (by decide) (by omega) (by omega) (fun c46 => ?_) (fun c46 => ?_)
          · refine g_iload_n C dX10_group_83 rfl ?_
            exact g_iret C Rt dX10_group_84 (by decide) (by decide) (⟨_, _, _, _, _, _, _, by rw [hn, show q = (fa_first (prA ms sk pt cnt bs bk co sn nr P) P) by omega], rfl⟩)
          · refine g_iload_n C dX10_group_49 rfl ?_
            refine g_aload_n C dX10_group_50 rfl ?_
            refine g_iload C dX10_group_51 rfl ?_
            refine g_callV C (c_X10_hasMark E h ad (upd (upd iv 5 (nI nr)) 31 (nI ln1)) cnt pt q (by omega) (by omega)) gX10_group_X10_hasMark rfl 1 (by decide +kernel) ⟨by decide, by decide⟩ ⟨by decide, by decide⟩ 0 rfl rfl [0, 3] [1, 2, 4, 5, 6, 7, 8, 9, 10, 11, 12, 13] (wr := [gA E (ad 1) 10 ms, gA E (ad 2) 10 sk, gA E (ad 4) 8 ro1, gA E (ad 8) 12 ts, gA E (ad 9) 12 tk, gA E (ad 10) 13 fr, gA E (ad 11) 620 sp, gA E (ad 16) 620 pi1, gA E (ad 29) 12 lr1, gA E (ad 30) 12 ls1, gA E (ad 38) 12 y5, gA E (ad 39) 12 y6]) rfl (by decide) rfl (by decide) (by decide) rfl rfl (Nat.le_of_ble_eq_true rfl) dX10_group_53 ?_
            rintro _ _ ⟨rfl, rfl⟩
            refine gg.perm (ws' := [gO h 10 (tF ad (upd (upd (upd iv 0 (nI cnt)) 5 (nI nr)) 31 (nI ln1))), gA E (ad 1) 10 ms, gA E (ad 2) 10 sk, gA E (ad 3) 80 pt, gA E (ad 4) 8 ro1, gA E (ad 8) 12 ts, gA E (ad 9) 12 tk, gA E (ad 10) 13 fr, gA E (ad 11) 620 sp, gA E (ad 16) 620 pi1, gA E (ad 29) 12 lr1, gA E (ad 30) 12 ls1, gA E (ad 38) 12 y5, gA E (ad 39) 12 y6]) [12, 0, 1, 13, 2, 3, 4, 5, 6, 7, 8, 9, 10, 11] (by decide) rfl ?_
            show gg E _ 5 X 0 0 56 [some (.ref h), some (.int (nI P)), some (.int (nI n)), some (.int (nI (fa_first (prA ms sk pt cnt bs bk co sn nr P) P))), some (.int (nI q))] [.int (b2i (haM pt q cnt)), .int (nI n)] [gO h 10 (tF ad (upd (upd (upd iv 0 (nI cnt)) 5 (nI nr)) 31 (nI ln1))), gA E (ad 1) 10 ms, gA E (ad 2) 10 sk, gA E (ad 3) 80 pt, gA E (ad 4) 8 ro1, gA E (ad 8) 12 ts, gA E (ad 9) 12 tk, gA E (ad 10) 13 fr, gA E (ad 11) 620 sp, gA E (ad 16) 620 pi1, gA E (ad 29) 12 lr1, gA E (ad 30) 12 ls1, gA E (ad 38) 12 y5, gA E (ad 39) 12 y6]
            refine g_if_eq (tgt := 74) C dX10_group_56 (by decide) (fun c56 => ?_) (fun c56 => ?_)
            · refine g_iconst (v := nI 0) C dX10_group_74 (by decide) ?_
              refine g_iadd_n C dX10_group_75 ?_
              refine g_istore_n C dX10_group_76 (by decide) rfl (ll' := [some (.ref h), some (.int (nI P)), some (.int (nI (n + 0))), some (.int (nI (fa_first (prA ms sk pt cnt bs bk co sn nr P) P))), some (.int (nI q))]) rfl ?_
              refine g_iinc_n (y := 1) C dX10_group_77 rfl (by decide) (by decide) rfl (ll' := [some (.ref h), some (.int (nI P)), some (.int (nI (n + 0))), some (.int (nI (fa_first (prA ms sk pt cnt bs bk co sn nr P) P))), some (.int (nI (q + 1)))]) rfl ?_
              refine g_goto (tgt := 43) C dX10_group_80 (by decide) ?_
              exact ih43 (q + 1) (n + 0) ln1 ro1 pi1 lr1 ls1 y5 y6 (by omega) (by omega) (by rw [fa_cnt_no (p := (grP ms sk pt cnt bs bk co sn nr)) (n := q) (by rw [grP, b2i_f.mp c56]; rfl), hn, Nat.add_zero])
            · refine g_aload_n C dX10_group_59 rfl ?_
              refine g_iload C dX10_group_60 rfl ?_
              refine g_callV C (c_X10_first E h ad iv cnt nr ms sk pt ro1 ts tk fr sp pi1 lr1 ls1 bs bk co sn ln1 q y5 y6 (by omega) (by omega) (hms) (by omega) (hts) (htk) (hst) (hok) (hsp) (b2i_t.mp c56)) gX10_group_X10_first rfl 1 (by decide +kernel) ⟨by decide, by decide⟩ ⟨by decide, by decide⟩ 0 rfl rfl [0, 1, 2, 3, 4, 5, 6, 7, 8, 9, 10, 11, 12, 13] [] (wr := []) rfl (by decide) rfl (by decide) (by decide) rfl rfl (Nat.le_of_ble_eq_true rfl) dX10_group_62 ?_
              rintro _ _ ⟨ln2_62, ro2_62, pi2_62, lr2_62, ls2_62, y3_62, y4_62, rfl, rfl⟩
              show gg E _ 5 X 0 0 65 [some (.ref h), some (.int (nI P)), some (.int (nI n)), some (.int (nI (fa_first (prA ms sk pt cnt bs bk co sn nr P) P))), some (.int (nI q))] [.int (nI (fa_first (prA ms sk pt cnt bs bk co sn nr q) q)), .int (nI n)] [gO h 10 (tF ad (upd (upd (upd iv 0 (nI cnt)) 5 (nI nr)) 31 (nI ln2_62))), gA E (ad 1) 10 ms, gA E (ad 2) 10 sk, gA E (ad 3) 80 pt, gA E (ad 4) 8 ro2_62, gA E (ad 8) 12 ts, gA E (ad 9) 12 tk, gA E (ad 10) 13 fr, gA E (ad 11) 620 sp, gA E (ad 16) 620 pi2_62, gA E (ad 29) 12 lr2_62, gA E (ad 30) 12 ls2_62, gA E (ad 38) 12 y3_62, gA E (ad 39) 12 y4_62]
              refine g_iload C dX10_group_65 rfl ?_
              refine g_icmp_ne_n (tgt := 74) C dX10_group_67 (by decide) (by have := fa_first_le (prA ms sk pt cnt bs bk co sn nr q) q; omega) (by have := fa_first_le (prA ms sk pt cnt bs bk co sn nr q) q; omega) (fun c67 => ?_) (fun c67 => ?_)
              · refine g_iconst (v := nI 0) C dX10_group_74 (by decide) ?_
                refine g_iadd_n C dX10_group_75 ?_
                refine g_istore_n C dX10_group_76 (by decide) rfl (ll' := [some (.ref h), some (.int (nI P)), some (.int (nI (n + 0))), some (.int (nI (fa_first (prA ms sk pt cnt bs bk co sn nr P) P))), some (.int (nI q))]) rfl ?_
                refine g_iinc_n (y := 1) C dX10_group_77 rfl (by decide) (by decide) rfl (ll' := [some (.ref h), some (.int (nI P)), some (.int (nI (n + 0))), some (.int (nI (fa_first (prA ms sk pt cnt bs bk co sn nr P) P))), some (.int (nI (q + 1)))]) rfl ?_
                refine g_goto (tgt := 43) C dX10_group_80 (by decide) ?_
                exact ih43 (q + 1) (n + 0) ln2_62 ro2_62 pi2_62 lr2_62 ls2_62 y3_62 y4_62 (by omega) (by omega) (by rw [fa_cnt_no (p := (grP ms sk pt cnt bs bk co sn nr)) (n := q) (by rw [grP, b2i_t.mp c56, decide_eq_false c67]; rfl), hn, Nat.add_zero])
              · refine g_iconst (v := nI 1) C dX10_group_70 (by decide) ?_
                refine g_goto (tgt := 75) C dX10_group_71 (by decide) ?_
                refine g_iadd_n C dX10_group_75 ?_
                refine g_istore_n C dX10_group_76 (by decide) rfl (ll' := [some (.ref h), some (.int (nI P)), some (.int (nI (n + 1))), some (.int (nI (fa_first (prA ms sk pt cnt bs bk co sn nr P) P))), some (.int (nI q))]) rfl ?_
                refine g_iinc_n (y := 1) C dX10_group_77 rfl (by decide) (by decide) rfl (ll' := [some (.ref h), some (.int (nI P)), some (.int (nI (n + 1))), some (.int (nI (fa_first (prA ms sk pt cnt bs bk co sn nr P) P))), some (.int (nI (q + 1)))]) rfl ?_
                refine g_goto (tgt := 43) C dX10_group_80 (by decide) ?_
                exact ih43 (q + 1) (n + 1) ln2_62 ro2_62 pi2_62 lr2_62 ls2_62 y3_62 y4_62 (by omega) (by omega) (by rw [fa_cnt_yes (p := (grP ms sk pt cnt bs bk co sn nr)) (n := q) (by rw [grP, b2i_t.mp c56, decide_eq_true c67]; rfl), hn])
      exact L43 _ 0 0 ln2_36 ro2_36 pi2_36 lr2_36 ls2_36 y3_36 y4_36 (Nat.lt_succ_self _) (by omega) (rfl)
    · exact absurd c26 (nI_nm1 (by omega))

abbrev rm_c_X10_group_bad : Room := { frames := 6, cells := 0, slots := 0, locals := 147 }
set_option maxHeartbeats 4000000 in
set_option maxRecDepth 100000 in
theorem c_X10_group_bad (E : gE) (h : Nat) (ad : Nat → Nat) (iv : Nat → Int32) (cnt : Nat) (pt : Nat → Int32) (p : Int32) (hcnt : cnt ≤ 10) (h1 : ¬ p = -1) (hb : ∀ P, P < 8 → p = nI P → haM pt P cnt = false) : MM E yX10_group wsX10_group rm_c_X10_group_bad [.ref h, .int p] [gO h 10 (tF ad (upd iv 0 (nI cnt))), gA E (ad 3) 80 pt] (fun rv_ ru_ => rv_ = some (.int (-1)) ∧ ru_ = [gO h 10 (tF ad (upd iv 0 (nI cnt))), gA E (ad 3) 80 pt]) := by
  refine MM.ofG (cc := cX10_group) (maxL := 5) (ret := (some .int)) (by decide) rfl (Nat.le_of_ble_eq_true rfl) (ll := [some (.ref h), some (.int p), none, none, none]) rfl ?_
  intro X C Rt
  have C : gx E X cX10_group 5 wsX10_group RX10 := C
  refine g_iload_n C dX10_group_0 rfl ?_
  refine g_iconst (v := -1) C dX10_group_1 (by decide) ?_
  refine g_icmp_eq (tgt := 22) C dX10_group_2 (by decide) (fun c2 => ?_) (fun c2 => ?_)
  · exact absurd c2 h1
  · refine g_iload_n C dX10_group_5 rfl ?_
    refine g_callS C (c_X10_isPupil E p ) gX10_group_X10_isPupil rfl 1 (by decide +kernel) ⟨by decide, by decide⟩ ⟨by decide, by decide⟩ [] [0, 1] (wr := [gO h 10 (tF ad (upd iv 0 (nI cnt))), gA E (ad 3) 80 pt]) rfl (by decide) rfl (by decide) (by decide) rfl rfl (Nat.le_of_ble_eq_true rfl) dX10_group_6 ?_
    rintro _ _ ⟨rfl, rfl⟩
    show gg E _ 5 X 0 0 9 [some (.ref h), some (.int p), none, none, none] [.int (b2i (decide (¬ p < nI 0 ∧ ¬ nI 7 < p)))] [gO h 10 (tF ad (upd iv 0 (nI cnt))), gA E (ad 3) 80 pt]
    refine g_if_eq (tgt := 20) C dX10_group_9 (by decide) (fun c9 => ?_) (fun c9 => ?_)
    · refine g_iconst (v := -1) C dX10_group_20 (by decide) ?_
      exact g_iret C Rt dX10_group_21 (by decide) (by decide) (⟨rfl, rfl⟩)
    · obtain ⟨P, hP, rfl⟩ := in_nI (n := 8) (by decide) (of_decide_eq_true (b2i_t.mp c9)).1 ((nlt_pred (by decide)).mp (of_decide_eq_true (b2i_t.mp c9)).2)
      refine g_aload_n C dX10_group_12 rfl ?_
      refine g_iload_n C dX10_group_13 rfl ?_
      refine g_callV C (c_X10_hasMark E h ad iv cnt pt P (by omega) (by omega)) gX10_group_X10_hasMark rfl 1 (by decide +kernel) ⟨by decide, by decide⟩ ⟨by decide, by decide⟩ 0 rfl rfl [0, 1] [] (wr := []) rfl (by decide) rfl (by decide) (by decide) rfl rfl (Nat.le_of_ble_eq_true rfl) dX10_group_14 ?_
      rintro _ _ ⟨rfl, rfl⟩
      show gg E _ 5 X 0 0 17 [some (.ref h), some (.int (nI P)), none, none, none] [.int (b2i (haM pt P cnt))] [gO h 10 (tF ad (upd iv 0 (nI cnt))), gA E (ad 3) 80 pt]
      refine g_if_ne (tgt := 22) C dX10_group_17 (by decide) (fun c17 => ?_) (fun c17 => ?_)
      · exact absurd (hb P hP rfl) (by rw [b2i_t.mp c17]; decide)
      · refine g_iconst (v := -1) C dX10_group_20 (by decide) ?_
        exact g_iret C Rt dX10_group_21 (by decide) (by decide) (⟨rfl, rfl⟩)

