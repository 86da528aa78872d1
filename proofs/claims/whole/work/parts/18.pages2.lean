/-! PAGES of the reference: has, pages, page -/
def tgR (L : List (Nat × Nat)) (lr ls : Nat → Int32) : Prop := ∀ i, i < L.length → lr i = pRu L i ∧ ls i = pSk L i
theorem tgR.nil {lr ls : Nat → Int32} : tgR [] lr ls := fun i hi => absurd hi (Nat.not_lt_zero i)
theorem tgR.snoc {L : List (Nat × Nat)} {lr ls : Nat → Int32} (h : tgR L lr ls) (r s : Nat) : tgR (L ++ [(r, s)]) (upd lr L.length (nI r)) (upd ls L.length (nI s)) := by
  intro i hi
  rw [List.length_append] at hi
  have hi : i < L.length + 1 := hi
  rw [pSk, pRu]
  by_cases e : i = L.length
  · subst e
    rw [getD_e]
    simp [upd]
  · rw [getD_l (by omega)]
    simp only [upd, if_neg e]
    exact h i (by omega)

abbrev rm_c_X10_has : Room := { frames := 0, cells := 0, slots := 0, locals := 0 }
set_option maxHeartbeats 4000000 in
set_option maxRecDepth 100000 in
theorem c_X10_has (E : gE) (h : Nat) (ad : Nat → Nat) (iv : Nat → Int32) (ts lr ls bs : Nat → Int32) (L : List (Nat × Nat)) (nr : Nat) (s t : Int32) (hL : L.length ≤ 12) (hnr : nr ≤ 12) (hin : pgIn nr L) (htg : tgR L lr ls) (hts : ∀ q, q < nr → ts q = bs q) : MM E yX10_has wsX10_has rm_c_X10_has [.ref h, .int s, .int t] [gO h 10 (tF ad (upd iv 31 (nI L.length))), gA E (ad 8) 12 ts, gA E (ad 29) 12 lr, gA E (ad 30) 12 ls] (fun rv_ ru_ => rv_ = some (.int (b2i (hasL bs L s t))) ∧ ru_ = [gO h 10 (tF ad (upd iv 31 (nI L.length))), gA E (ad 8) 12 ts, gA E (ad 29) 12 lr, gA E (ad 30) 12 ls]) := by
  refine MM.ofG (cc := cX10_has) (maxL := 5) (ret := (some .boolean)) (by decide) rfl (Nat.le_of_ble_eq_true rfl) (ll := [some (.ref h), some (.int s), some (.int t), none, none]) rfl ?_
  intro X C Rt
  have C : gx E X cX10_has 5 wsX10_has RX10 := C
  have i_X10 : ∀ w ∈ u_ws RX10 TX10 40, w ∈ wsX10_has := by decide +kernel
  have f_22 : Cond.fieldLink RX10 22 "MarkPagesModel" "saying" "[I" ∈ wsX10_has := by decide +kernel
  have f_240 : Cond.fieldLink RX10 240 "MarkPagesModel" "lines" "I" ∈ wsX10_has := by decide +kernel
  have f_56 : Cond.fieldLink RX10 56 "MarkPagesModel" "lineRule" "[I" ∈ wsX10_has := by decide +kernel
  have f_59 : Cond.fieldLink RX10 59 "MarkPagesModel" "lineSkill" "[I" ∈ wsX10_has := by decide +kernel
  refine g_iconst (v := nI 0) C dX10_has_0 (by decide) ?_
  refine g_istore_n C dX10_has_1 (by decide) rfl (ll' := [some (.ref h), some (.int s), some (.int t), some (.int (nI 0)), none]) rfl ?_
  refine g_iconst (v := nI 0) C dX10_has_2 (by decide) ?_
  refine g_istore C dX10_has_3 (by decide) rfl (ll' := [some (.ref h), some (.int s), some (.int t), some (.int (nI 0)), some (.int (nI 0))]) rfl ?_
  have L5 : ∀ (n5 : Nat) (j : Nat) (v : Int32), L.length - j < n5 → (j ≤ L.length) → (v = b2i (hsS (pSa bs L) (pSk L) s t j)) → gg E rm_c_X10_has 5 X 0 0 5 [some (.ref h), some (.int s), some (.int t), some (.int v), some (.int (nI j))] [] [gO h 10 (tF ad (upd iv 31 (nI L.length))), gA E (ad 8) 12 ts, gA E (ad 29) 12 lr, gA E (ad 30) 12 ls] := by
    intro n5
    induction n5 with
    | zero => intro j v hm5; exact absurd hm5 (Nat.not_lt_zero _)
    | succ n5 ih5 =>
      intro j v hm5 hj hv
      refine g_iload C dX10_has_5 rfl ?_
      refine g_aload_n C dX10_has_7 rfl ?_
      refine g_get C i_X10 0 31 f_240 rfl rfl (by decide) rfl rfl dX10_has_8 ?_
      refine g_icmp_ge_n (tgt := 60) C dX10_has_11 (by decide) (by omega) (by omega) (fun c11 => ?_) (fun c11 => ?_)
      · refine g_iload_n C dX10_has_60 rfl ?_
        exact g_zret C Rt dX10_has_61 (by decide) (by decide) (by rw [hv]; exact b2i_01 _) (⟨by rw [hv, show j = L.length by omega]; rfl, rfl⟩)
      · refine g_iload_n C dX10_has_14 rfl ?_
        refine g_if_ne (tgt := 48) C dX10_has_15 (by decide) (fun c15 => ?_) (fun c15 => ?_)
        · refine g_iconst (v := nI 1) C dX10_has_48 (by decide) ?_
          refine g_goto (tgt := 53) C dX10_has_49 (by decide) ?_
          refine g_istore_n C dX10_has_53 (by decide) rfl (ll' := [some (.ref h), some (.int s), some (.int t), some (.int (nI 1)), some (.int (nI j))]) rfl ?_
          refine g_iinc_n (y := 1) C dX10_has_54 rfl (by decide) (by decide) rfl (ll' := [some (.ref h), some (.int s), some (.int t), some (.int (nI 1)), some (.int (nI (j + 1)))]) rfl ?_
          refine g_goto (tgt := 5) C dX10_has_57 (by decide) ?_
          exact ih5 (j + 1) (nI 1) (by omega) (by omega) (by rw [hsS, (b2i_t (b := hsS (pSa bs L) (pSk L) s t j)).mp (by rw [← hv]; exact c15)]; rfl)
        · refine g_aload_n C dX10_has_18 rfl ?_
          refine g_get C i_X10 0 30 f_59 rfl rfl (by decide) rfl rfl dX10_has_19 ?_
          refine g_iload C dX10_has_22 rfl ?_
          refine g_iald C 3 j rfl rfl (by omega) (by decide) dX10_has_24 ?_
          refine g_top ((htg j c11).2) ?_
          refine g_iload_n C dX10_has_25 rfl ?_
          refine g_icmp_ne (tgt := 52) C dX10_has_26 (by decide) (fun c26 => ?_) (fun c26 => ?_)
          · refine g_iconst (v := nI 0) C dX10_has_52 (by decide) ?_
            refine g_istore_n C dX10_has_53 (by decide) rfl (ll' := [some (.ref h), some (.int s), some (.int t), some (.int (nI 0)), some (.int (nI j))]) rfl ?_
            refine g_iinc_n (y := 1) C dX10_has_54 rfl (by decide) (by decide) rfl (ll' := [some (.ref h), some (.int s), some (.int t), some (.int (nI 0)), some (.int (nI (j + 1)))]) rfl ?_
            refine g_goto (tgt := 5) C dX10_has_57 (by decide) ?_
            exact ih5 (j + 1) (nI 0) (by omega) (by omega) (by rw [hsS, (b2i_f (b := hsS (pSa bs L) (pSk L) s t j)).mp (by rw [← hv]; exact c15), decide_eq_false (fun z => c26 z.1)]; rfl)
          · refine g_aload_n C dX10_has_29 rfl ?_
            refine g_get C i_X10 0 8 f_22 rfl rfl (by decide) rfl rfl dX10_has_30 ?_
            refine g_aload_n C dX10_has_33 rfl ?_
            refine g_get C i_X10 0 29 f_56 rfl rfl (by decide) rfl rfl dX10_has_34 ?_
            refine g_iload C dX10_has_37 rfl ?_
            refine g_iald C 2 j rfl rfl (by omega) (by decide) dX10_has_39 ?_
            refine g_top ((htg j c11).1) ?_
            refine g_iald C 1 ((L.getD j (0, 0)).1) rfl rfl (by have := (hin.at c11).1; omega) (by decide) dX10_has_40 ?_
            refine g_top (hts _ (hin.at c11).1) ?_
            refine g_bipush (v := nI 10) C dX10_has_41 (by decide) ?_
            refine g_idiv C dX10_has_43 (by decide) ?_
            refine g_iload_n C dX10_has_44 rfl ?_
            refine g_icmp_ne (tgt := 52) C dX10_has_45 (by decide) (fun c45 => ?_) (fun c45 => ?_)
            · refine g_iconst (v := nI 0) C dX10_has_52 (by decide) ?_
              refine g_istore_n C dX10_has_53 (by decide) rfl (ll' := [some (.ref h), some (.int s), some (.int t), some (.int (nI 0)), some (.int (nI j))]) rfl ?_
              refine g_iinc_n (y := 1) C dX10_has_54 rfl (by decide) (by decide) rfl (ll' := [some (.ref h), some (.int s), some (.int t), some (.int (nI 0)), some (.int (nI (j + 1)))]) rfl ?_
              refine g_goto (tgt := 5) C dX10_has_57 (by decide) ?_
              exact ih5 (j + 1) (nI 0) (by omega) (by omega) (by rw [hsS, (b2i_f (b := hsS (pSa bs L) (pSk L) s t j)).mp (by rw [← hv]; exact c15), decide_eq_false (fun z => c45 z.2)]; rfl)
            · refine g_iconst (v := nI 1) C dX10_has_48 (by decide) ?_
              refine g_goto (tgt := 53) C dX10_has_49 (by decide) ?_
              refine g_istore_n C dX10_has_53 (by decide) rfl (ll' := [some (.ref h), some (.int s), some (.int t), some (.int (nI 1)), some (.int (nI j))]) rfl ?_
              refine g_iinc_n (y := 1) C dX10_has_54 rfl (by decide) (by decide) rfl (ll' := [some (.ref h), some (.int s), some (.int t), some (.int (nI 1)), some (.int (nI (j + 1)))]) rfl ?_
              refine g_goto (tgt := 5) C dX10_has_57 (by decide) ?_
              exact ih5 (j + 1) (nI 1) (by omega) (by omega) (by rw [hsS, (b2i_f (b := hsS (pSa bs L) (pSk L) s t j)).mp (by rw [← hv]; exact c15), decide_eq_true ⟨c26, c45⟩]; rfl)
  exact L5 _ 0 (nI 0) (Nat.lt_succ_self _) (by omega) (rfl)

abbrev rm_c_X10_pages : Room := { frames := 3, cells := 0, slots := 0, locals := 76 }
set_option maxHeartbeats 4000000 in
set_option maxRecDepth 100000 in
theorem c_X10_pages (E : gE) (h : Nat) (ad : Nat → Nat) (iv : Nat → Int32) (cnt nr : Nat) (ms sk pt ro ts tk fr sp pi lr ls bs bk co : Nat → Int32) (sn : Nat → Nat) (ln0 P : Nat) (hcnt : cnt ≤ 10) (hP : P < 8) (hms : okM ms cnt) (hnr : nr ≤ 12) (hts : ∀ q, q < nr → ts q = bs q) (htk : ∀ q, q < nr → tk q = bk q) (hst : ∀ q, q ≤ nr → fr q = nI (sn q)) (hok : okB nr sn co) (hsp : ∀ i, i < sn nr → sp i = trJ (co i)) : MM E yX10_pages wsX10_pages rm_c_X10_pages [.ref h, .int (nI P)] [gO h 10 (tF ad (upd (upd (upd iv 0 (nI cnt)) 5 (nI nr)) 31 (nI ln0))), gA E (ad 1) 10 ms, gA E (ad 2) 10 sk, gA E (ad 3) 80 pt, gA E (ad 4) 8 ro, gA E (ad 8) 12 ts, gA E (ad 9) 12 tk, gA E (ad 10) 13 fr, gA E (ad 11) 620 sp, gA E (ad 16) 620 pi, gA E (ad 29) 12 lr, gA E (ad 30) 12 ls] (fun rv_ ru_ => ∃ (ro2 pi2 lr2 ls2 : Nat → Int32), rv_ = none ∧ ru_ = [gO h 10 (tF ad (upd (upd (upd iv 0 (nI cnt)) 5 (nI nr)) 31 (nI ((pgA bs bk (soF (ioF ms sk pt cnt P) co sn) (fun s => mkN sk pt P s cnt) nr).length)))), gA E (ad 1) 10 ms, gA E (ad 2) 10 sk, gA E (ad 3) 80 pt, gA E (ad 4) 8 ro2, gA E (ad 8) 12 ts, gA E (ad 9) 12 tk, gA E (ad 10) 13 fr, gA E (ad 11) 620 sp, gA E (ad 16) 620 pi2, gA E (ad 29) 12 lr2, gA E (ad 30) 12 ls2] ∧ (tgR (pgA bs bk (soF (ioF ms sk pt cnt P) co sn) (fun s => mkN sk pt P s cnt) nr) lr2 ls2)) := by
  refine MM.ofG (cc := cX10_pages) (maxL := 5) (ret := none) (by decide) rfl (Nat.le_of_ble_eq_true rfl) (ll := [some (.ref h), some (.int (nI P)), none, none, none]) rfl ?_
  intro X C Rt
  have C : gx E X cX10_pages 5 wsX10_pages RX10 := C
  have i_X10 : ∀ w ∈ u_ws RX10 TX10 40, w ∈ wsX10_pages := by decide +kernel
  have f_22 : Cond.fieldLink RX10 22 "MarkPagesModel" "saying" "[I" ∈ wsX10_pages := by decide +kernel
  have f_229 : Cond.fieldLink RX10 229 "MarkPagesModel" "rules" "I" ∈ wsX10_pages := by decide +kernel
  have f_240 : Cond.fieldLink RX10 240 "MarkPagesModel" "lines" "I" ∈ wsX10_pages := by decide +kernel
  have f_25 : Cond.fieldLink RX10 25 "MarkPagesModel" "skillOf" "[I" ∈ wsX10_pages := by decide +kernel
  have f_56 : Cond.fieldLink RX10 56 "MarkPagesModel" "lineRule" "[I" ∈ wsX10_pages := by decide +kernel
  have f_59 : Cond.fieldLink RX10 59 "MarkPagesModel" "lineSkill" "[I" ∈ wsX10_pages := by decide +kernel
  refine g_aload_n C dX10_pages_0 rfl ?_
  refine g_iconst (v := nI 0) C dX10_pages_1 (by decide) ?_
  refine g_put C i_X10 tyX10 tyX10_ok nmX10 0 31 f_240 rfl rfl (by decide) rfl rfl rfl rfl rfl (Nat.le_of_ble_eq_true rfl) dX10_pages_2 (ws' := [gO h 10 (tF ad (upd (upd (upd iv 0 (nI cnt)) 5 (nI nr)) 31 (nI 0))), gA E (ad 1) 10 ms, gA E (ad 2) 10 sk, gA E (ad 3) 80 pt, gA E (ad 4) 8 ro, gA E (ad 8) 12 ts, gA E (ad 9) 12 tk, gA E (ad 10) 13 fr, gA E (ad 11) 620 sp, gA E (ad 16) 620 pi, gA E (ad 29) 12 lr, gA E (ad 30) 12 ls]) rfl ?_
  refine g_iconst (v := nI 0) C dX10_pages_5 (by decide) ?_
  refine g_istore_n C dX10_pages_6 (by decide) rfl (ll' := [some (.ref h), some (.int (nI P)), some (.int (nI 0)), none, none]) rfl ?_
  have L7 : ∀ (n7 : Nat) (r : Nat) (ro1 pi1 lr1 ls1 : Nat → Int32), nr - r < n7 → (r ≤ nr) → (tgR (pgA bs bk (soF (ioF ms sk pt cnt P) co sn) (fun s => mkN sk pt P s cnt) r) lr1 ls1) → gg E rm_c_X10_pages 5 X 0 0 7 [some (.ref h), some (.int (nI P)), some (.int (nI r)), none, none] [] [gO h 10 (tF ad (upd (upd (upd iv 0 (nI cnt)) 5 (nI nr)) 31 (nI ((pgA bs bk (soF (ioF ms sk pt cnt P) co sn) (fun s => mkN sk pt P s cnt) r).length)))), gA E (ad 1) 10 ms, gA E (ad 2) 10 sk, gA E (ad 3) 80 pt, gA E (ad 4) 8 ro1, gA E (ad 8) 12 ts, gA E (ad 9) 12 tk, gA E (ad 10) 13 fr, gA E (ad 11) 620 sp, gA E (ad 16) 620 pi1, gA E (ad 29) 12 lr1, gA E (ad 30) 12 ls1] := by
    intro n7
    induction n7 with
    | zero => intro r ro1 pi1 lr1 ls1 hm7; exact absurd hm7 (Nat.not_lt_zero _)
    | succ n7 ih7 =>
      intro r ro1 pi1 lr1 ls1 hm7 hr ht
      refine g_iload_n C dX10_pages_7 rfl ?_
      refine g_aload_n C dX10_pages_8 rfl ?_
      refine g_get C i_X10 0 5 f_229 rfl rfl (by decide) rfl rfl dX10_pages_9 ?_
      refine g_icmp_ge_n (tgt := 145) C dX10_pages_12 (by decide) (by omega) (by omega) (fun c12 => ?_) (fun c12 => ?_)
      · exact g_vret C Rt dX10_pages_145 (by decide) (by decide) (⟨_, _, _, _, rfl, by rw [show nr = r by omega], by rw [show nr = r by omega]; exact ht⟩)
      · refine g_iconst (v := nI 0) C dX10_pages_15 (by decide) ?_
        refine g_istore_n C dX10_pages_16 (by decide) rfl (ll' := [some (.ref h), some (.int (nI P)), some (.int (nI r)), some (.int (nI 0)), none]) rfl ?_
        have L17 : ∀ (n17 : Nat) (s : Nat) (ro2 pi2 lr2 ls2 : Nat → Int32), 5 - s < n17 → (s ≤ 5) → (tgR (pgS bs bk (soF (ioF ms sk pt cnt P) co sn) (fun s => mkN sk pt P s cnt) r s (pgA bs bk (soF (ioF ms sk pt cnt P) co sn) (fun s => mkN sk pt P s cnt) r)) lr2 ls2) → gg E rm_c_X10_pages 5 X 0 0 17 [some (.ref h), some (.int (nI P)), some (.int (nI r)), some (.int (nI s)), none] [] [gO h 10 (tF ad (upd (upd (upd iv 0 (nI cnt)) 5 (nI nr)) 31 (nI ((pgS bs bk (soF (ioF ms sk pt cnt P) co sn) (fun s => mkN sk pt P s cnt) r s (pgA bs bk (soF (ioF ms sk pt cnt P) co sn) (fun s => mkN sk pt P s cnt) r)).length)))), gA E (ad 1) 10 ms, gA E (ad 2) 10 sk, gA E (ad 3) 80 pt, gA E (ad 4) 8 ro2, gA E (ad 8) 12 ts, gA E (ad 9) 12 tk, gA E (ad 10) 13 fr, gA E (ad 11) 620 sp, gA E (ad 16) 620 pi2, gA E (ad 29) 12 lr2, gA E (ad 30) 12 ls2] := by
          intro n17
          induction n17 with
          | zero => intro s ro2 pi2 lr2 ls2 hm17; exact absurd hm17 (Nat.not_lt_zero _)
          | succ n17 ih17 =>
            intro s ro2 pi2 lr2 ls2 hm17 hs hti
            refine g_iload_n C dX10_pages_17 rfl ?_
            refine g_iconst (v := nI 5) C dX10_pages_18 (by decide) ?_
            refine g_icmp_ge_n (tgt := 139) C dX10_pages_19 (by decide) (by omega) (by omega) (fun c19 => ?_) (fun c19 => ?_)
            · refine gg.less (ll' := [some (.ref h), some (.int (nI P)), some (.int (nI r)), none, none]) (by intro i v h; match i, h with | 0, h => exact h | 1, h => exact h | 2, h => exact h | 3, h => exact absurd h (by simp) | 4, h => exact absurd h (by simp) | (i + 5), h => exact absurd h (by simp)) ?_
              rw [show s = 5 by omega]
              refine g_iinc_n (y := 1) C dX10_pages_139 rfl (by decide) (by decide) rfl (ll' := [some (.ref h), some (.int (nI P)), some (.int (nI (r + 1))), none, none]) rfl ?_
              refine g_goto (tgt := 7) C dX10_pages_142 (by decide) ?_
              exact ih7 (r + 1) ro2 pi2 lr2 ls2 (by omega) (by omega) (by rw [pgA, ← show s = 5 by omega]; exact hti)
            · refine g_aload_n C dX10_pages_22 rfl ?_
              refine g_get C i_X10 0 9 f_25 rfl rfl (by decide) rfl rfl dX10_pages_23 ?_
              refine g_iload_n C dX10_pages_26 rfl ?_
              refine g_iald C 6 r rfl rfl (by omega) (by decide) dX10_pages_27 ?_
              refine g_top (htk r c12) ?_
              refine g_iconst (v := -1) C dX10_pages_28 (by decide) ?_
              refine g_icmp_eq (tgt := 42) C dX10_pages_29 (by decide) (fun c29 => ?_) (fun c29 => ?_)
              · refine g_aload_n C dX10_pages_42 rfl ?_
                refine g_get C i_X10 0 31 f_240 rfl rfl (by decide) rfl rfl dX10_pages_43 ?_
                refine g_bipush (v := nI 12) C dX10_pages_46 (by decide) ?_
                refine g_icmp_ne_n (tgt := 54) C dX10_pages_48 (by decide) (by have := pgS_len (bs := bs) (bk := bk) (so := soF (ioF ms sk pt cnt P) co sn) (mk := (fun s => mkN sk pt P s cnt)) (r := r) (pgA_len (bs := bs) (bk := bk) (so := soF (ioF ms sk pt cnt P) co sn) (mk := (fun s => mkN sk pt P s cnt)) r) s; omega) (by have := pgS_len (bs := bs) (bk := bk) (so := soF (ioF ms sk pt cnt P) co sn) (mk := (fun s => mkN sk pt P s cnt)) (r := r) (pgA_len (bs := bs) (bk := bk) (so := soF (ioF ms sk pt cnt P) co sn) (mk := (fun s => mkN sk pt P s cnt)) r) s; omega) (fun c48 => ?_) (fun c48 => ?_)
                · refine g_aload_n C dX10_pages_54 rfl ?_
                  refine g_iload_n C dX10_pages_55 rfl ?_
                  refine g_iload_n C dX10_pages_56 rfl ?_
                  refine g_callV C (c_X10_markedOf E h ad (upd (upd iv 5 (nI nr)) 31 (nI ((pgS bs bk (soF (ioF ms sk pt cnt P) co sn) (fun s => mkN sk pt P s cnt) r s (pgA bs bk (soF (ioF ms sk pt cnt P) co sn) (fun s => mkN sk pt P s cnt) r)).length))) cnt sk pt P s (by omega) (by omega) (by omega)) gX10_pages_X10_markedOf rfl 2 (by decide +kernel) ⟨by decide, by decide⟩ ⟨by decide, by decide⟩ 0 rfl rfl [0, 2, 3] [1, 4, 5, 6, 7, 8, 9, 10, 11] (wr := [gA E (ad 1) 10 ms, gA E (ad 4) 8 ro2, gA E (ad 8) 12 ts, gA E (ad 9) 12 tk, gA E (ad 10) 13 fr, gA E (ad 11) 620 sp, gA E (ad 16) 620 pi2, gA E (ad 29) 12 lr2, gA E (ad 30) 12 ls2]) rfl (by decide) rfl (by decide) (by decide) rfl rfl (Nat.le_of_ble_eq_true rfl) dX10_pages_57 ?_
                  rintro _ _ ⟨rfl, rfl⟩
                  refine gg.perm (ws' := [gO h 10 (tF ad (upd (upd (upd iv 0 (nI cnt)) 5 (nI nr)) 31 (nI ((pgS bs bk (soF (ioF ms sk pt cnt P) co sn) (fun s => mkN sk pt P s cnt) r s (pgA bs bk (soF (ioF ms sk pt cnt P) co sn) (fun s => mkN sk pt P s cnt) r)).length)))), gA E (ad 1) 10 ms, gA E (ad 2) 10 sk, gA E (ad 3) 80 pt, gA E (ad 4) 8 ro2, gA E (ad 8) 12 ts, gA E (ad 9) 12 tk, gA E (ad 10) 13 fr, gA E (ad 11) 620 sp, gA E (ad 16) 620 pi2, gA E (ad 29) 12 lr2, gA E (ad 30) 12 ls2]) [9, 0, 10, 11, 1, 2, 3, 4, 5, 6, 7, 8] (by decide) rfl ?_
                  show gg E _ 5 X 0 0 60 [some (.ref h), some (.int (nI P)), some (.int (nI r)), some (.int (nI s)), none] [.int (nI (mkN sk pt P s cnt))] [gO h 10 (tF ad (upd (upd (upd iv 0 (nI cnt)) 5 (nI nr)) 31 (nI ((pgS bs bk (soF (ioF ms sk pt cnt P) co sn) (fun s => mkN sk pt P s cnt) r s (pgA bs bk (soF (ioF ms sk pt cnt P) co sn) (fun s => mkN sk pt P s cnt) r)).length)))), gA E (ad 1) 10 ms, gA E (ad 2) 10 sk, gA E (ad 3) 80 pt, gA E (ad 4) 8 ro2, gA E (ad 8) 12 ts, gA E (ad 9) 12 tk, gA E (ad 10) 13 fr, gA E (ad 11) 620 sp, gA E (ad 16) 620 pi2, gA E (ad 29) 12 lr2, gA E (ad 30) 12 ls2]
                  refine g_istore C dX10_pages_60 (by decide) rfl (ll' := [some (.ref h), some (.int (nI P)), some (.int (nI r)), some (.int (nI s)), some (.int (nI (mkN sk pt P s cnt)))]) rfl ?_
                  refine g_iload C dX10_pages_62 rfl ?_
                  refine g_if_eq_n (tgt := 133) C dX10_pages_64 (by decide) (by have := mkN_1024 sk pt P s hcnt; omega) (fun c64 => ?_) (fun c64 => ?_)
                  · refine gg.less (ll' := [some (.ref h), some (.int (nI P)), some (.int (nI r)), some (.int (nI s)), none]) (by intro i v h; match i, h with | 0, h => exact h | 1, h => exact h | 2, h => exact h | 3, h => exact h | 4, h => exact absurd h (by simp) | (i + 5), h => exact absurd h (by simp)) ?_
                    have hS := pgS_no (bs := bs) (bk := bk) (so := soF (ioF ms sk pt cnt P) co sn) (mk := (fun s => mkN sk pt P s cnt)) (r := r) (L := pgA bs bk (soF (ioF ms sk pt cnt P) co sn) (fun s => mkN sk pt P s cnt) r) (s := s) (fun z => absurd z.2.1 (by show ¬ 0 < mkN sk pt P s cnt; omega))
                    rw [← hS]
                    refine g_iinc_n (y := 1) C dX10_pages_133 rfl (by decide) (by decide) rfl (ll' := [some (.ref h), some (.int (nI P)), some (.int (nI r)), some (.int (nI (s + 1))), none]) rfl ?_
                    refine g_goto (tgt := 17) C dX10_pages_136 (by decide) ?_
                    exact ih17 (s + 1) ro2 pi2 lr2 ls2 (by omega) (by omega) (by rw [hS]; exact hti)
                  · refine g_aload_n C dX10_pages_67 rfl ?_
                    refine g_iload_n C dX10_pages_68 rfl ?_
                    refine g_aload_n C dX10_pages_69 rfl ?_
                    refine g_get C i_X10 0 8 f_22 rfl rfl (by decide) rfl rfl dX10_pages_70 ?_
                    refine g_iload_n C dX10_pages_73 rfl ?_
                    refine g_iald C 5 r rfl rfl (by omega) (by decide) dX10_pages_74 ?_
                    refine g_top (hts r c12) ?_
                    refine g_bipush (v := nI 10) C dX10_pages_75 (by decide) ?_
                    refine g_idiv C dX10_pages_77 (by decide) ?_
                    refine g_callV C (c_X10_has E h ad (upd (upd iv 0 (nI cnt)) 5 (nI nr)) ts lr2 ls2 bs (pgS bs bk (soF (ioF ms sk pt cnt P) co sn) (fun s => mkN sk pt P s cnt) r s (pgA bs bk (soF (ioF ms sk pt cnt P) co sn) (fun s => mkN sk pt P s cnt) r)) nr (nI s) ((bs r) / (nI 10)) (pgS_len (pgA_len r) s) (by omega) (pgS_in c12 (pgA_in r hr) s hs) (hti) (hts)) gX10_pages_X10_has rfl 2 (by decide +kernel) ⟨by decide, by decide⟩ ⟨by decide, by decide⟩ 0 rfl rfl [0, 5, 10, 11] [1, 2, 3, 4, 6, 7, 8, 9] (wr := [gA E (ad 1) 10 ms, gA E (ad 2) 10 sk, gA E (ad 3) 80 pt, gA E (ad 4) 8 ro2, gA E (ad 9) 12 tk, gA E (ad 10) 13 fr, gA E (ad 11) 620 sp, gA E (ad 16) 620 pi2]) rfl (by decide) rfl (by decide) (by decide) rfl rfl (Nat.le_of_ble_eq_true rfl) dX10_pages_78 ?_
                    rintro _ _ ⟨rfl, rfl⟩
                    refine gg.perm (ws' := [gO h 10 (tF ad (upd (upd (upd iv 0 (nI cnt)) 5 (nI nr)) 31 (nI ((pgS bs bk (soF (ioF ms sk pt cnt P) co sn) (fun s => mkN sk pt P s cnt) r s (pgA bs bk (soF (ioF ms sk pt cnt P) co sn) (fun s => mkN sk pt P s cnt) r)).length)))), gA E (ad 1) 10 ms, gA E (ad 2) 10 sk, gA E (ad 3) 80 pt, gA E (ad 4) 8 ro2, gA E (ad 8) 12 ts, gA E (ad 9) 12 tk, gA E (ad 10) 13 fr, gA E (ad 11) 620 sp, gA E (ad 16) 620 pi2, gA E (ad 29) 12 lr2, gA E (ad 30) 12 ls2]) [8, 0, 1, 2, 3, 9, 4, 5, 6, 7, 10, 11] (by decide) rfl ?_
                    show gg E _ 5 X 0 0 81 [some (.ref h), some (.int (nI P)), some (.int (nI r)), some (.int (nI s)), some (.int (nI (mkN sk pt P s cnt)))] [.int (b2i (hasL bs (pgS bs bk (soF (ioF ms sk pt cnt P) co sn) (fun s => mkN sk pt P s cnt) r s (pgA bs bk (soF (ioF ms sk pt cnt P) co sn) (fun s => mkN sk pt P s cnt) r)) (nI s) ((bs r) / (nI 10))))] [gO h 10 (tF ad (upd (upd (upd iv 0 (nI cnt)) 5 (nI nr)) 31 (nI ((pgS bs bk (soF (ioF ms sk pt cnt P) co sn) (fun s => mkN sk pt P s cnt) r s (pgA bs bk (soF (ioF ms sk pt cnt P) co sn) (fun s => mkN sk pt P s cnt) r)).length)))), gA E (ad 1) 10 ms, gA E (ad 2) 10 sk, gA E (ad 3) 80 pt, gA E (ad 4) 8 ro2, gA E (ad 8) 12 ts, gA E (ad 9) 12 tk, gA E (ad 10) 13 fr, gA E (ad 11) 620 sp, gA E (ad 16) 620 pi2, gA E (ad 29) 12 lr2, gA E (ad 30) 12 ls2]
                    refine g_if_ne (tgt := 133) C dX10_pages_81 (by decide) (fun c81 => ?_) (fun c81 => ?_)
                    · refine gg.less (ll' := [some (.ref h), some (.int (nI P)), some (.int (nI r)), some (.int (nI s)), none]) (by intro i v h; match i, h with | 0, h => exact h | 1, h => exact h | 2, h => exact h | 3, h => exact h | 4, h => exact absurd h (by simp) | (i + 5), h => exact absurd h (by simp)) ?_
                      have hS := pgS_no (bs := bs) (bk := bk) (so := soF (ioF ms sk pt cnt P) co sn) (mk := (fun s => mkN sk pt P s cnt)) (r := r) (L := pgA bs bk (soF (ioF ms sk pt cnt P) co sn) (fun s => mkN sk pt P s cnt) r) (s := s) (fun z => absurd (b2i_t.mp c81) (by rw [z.2.2.1]; decide))
                      rw [← hS]
                      refine g_iinc_n (y := 1) C dX10_pages_133 rfl (by decide) (by decide) rfl (ll' := [some (.ref h), some (.int (nI P)), some (.int (nI r)), some (.int (nI (s + 1))), none]) rfl ?_
                      refine g_goto (tgt := 17) C dX10_pages_136 (by decide) ?_
                      exact ih17 (s + 1) ro2 pi2 lr2 ls2 (by omega) (by omega) (by rw [hS]; exact hti)
                    · refine g_aload_n C dX10_pages_84 rfl ?_
                      refine g_iload_n C dX10_pages_85 rfl ?_
                      refine g_iload_n C dX10_pages_86 rfl ?_
                      refine g_iload C dX10_pages_87 rfl ?_
                      refine g_aload_n C dX10_pages_89 rfl ?_
                      refine g_iload_n C dX10_pages_90 rfl ?_
                      refine g_callV C (c_X10_classOf E h ad (upd (upd iv 5 (nI nr)) 31 (nI ((pgS bs bk (soF (ioF ms sk pt cnt P) co sn) (fun s => mkN sk pt P s cnt) r s (pgA bs bk (soF (ioF ms sk pt cnt P) co sn) (fun s => mkN sk pt P s cnt) r)).length))) cnt ms sk pt ro2 s (by omega) (by omega)) gX10_pages_X10_classOf rfl 1 (by decide +kernel) ⟨by decide, by decide⟩ ⟨by decide, by decide⟩ 0 rfl rfl [0, 1, 2, 3, 4] [5, 6, 7, 8, 9, 10, 11] (wr := [gA E (ad 8) 12 ts, gA E (ad 9) 12 tk, gA E (ad 10) 13 fr, gA E (ad 11) 620 sp, gA E (ad 16) 620 pi2, gA E (ad 29) 12 lr2, gA E (ad 30) 12 ls2]) rfl (by decide) rfl (by decide) (by decide) rfl rfl (Nat.le_of_ble_eq_true rfl) dX10_pages_91 ?_
                      rintro _ _ ⟨ri2_91, rfl, rfl⟩
                      refine gg.perm (ws' := [gO h 10 (tF ad (upd (upd (upd iv 0 (nI cnt)) 5 (nI nr)) 31 (nI ((pgS bs bk (soF (ioF ms sk pt cnt P) co sn) (fun s => mkN sk pt P s cnt) r s (pgA bs bk (soF (ioF ms sk pt cnt P) co sn) (fun s => mkN sk pt P s cnt) r)).length)))), gA E (ad 1) 10 ms, gA E (ad 2) 10 sk, gA E (ad 3) 80 pt, gA E (ad 4) 8 ri2_91, gA E (ad 8) 12 ts, gA E (ad 9) 12 tk, gA E (ad 10) 13 fr, gA E (ad 11) 620 sp, gA E (ad 16) 620 pi2, gA E (ad 29) 12 lr2, gA E (ad 30) 12 ls2]) [7, 8, 9, 10, 11, 0, 1, 2, 3, 4, 5, 6] (by decide) rfl ?_
                      show gg E _ 5 X 0 0 94 [some (.ref h), some (.int (nI P)), some (.int (nI r)), some (.int (nI s)), some (.int (nI (mkN sk pt P s cnt)))] [.int (meV ms sk pt cnt s), .int (nI (mkN sk pt P s cnt)), .int (nI P), .int (nI r), .ref h] [gO h 10 (tF ad (upd (upd (upd iv 0 (nI cnt)) 5 (nI nr)) 31 (nI ((pgS bs bk (soF (ioF ms sk pt cnt P) co sn) (fun s => mkN sk pt P s cnt) r s (pgA bs bk (soF (ioF ms sk pt cnt P) co sn) (fun s => mkN sk pt P s cnt) r)).length)))), gA E (ad 1) 10 ms, gA E (ad 2) 10 sk, gA E (ad 3) 80 pt, gA E (ad 4) 8 ri2_91, gA E (ad 8) 12 ts, gA E (ad 9) 12 tk, gA E (ad 10) 13 fr, gA E (ad 11) 620 sp, gA E (ad 16) 620 pi2, gA E (ad 29) 12 lr2, gA E (ad 30) 12 ls2]
                      refine g_callV C (c_X10_isSo E h ad (upd (upd iv 5 (nI nr)) 31 (nI ((pgS bs bk (soF (ioF ms sk pt cnt P) co sn) (fun s => mkN sk pt P s cnt) r s (pgA bs bk (soF (ioF ms sk pt cnt P) co sn) (fun s => mkN sk pt P s cnt) r)).length))) cnt ms pt fr sp pi2 co (ioF ms sk pt cnt P s) r P (mkN sk pt P s cnt) (sn r) (sn (r + 1) - sn r) (meV ms sk pt cnt s) (by omega) (by omega) (mkN_1024 sk pt P s hcnt) (hms) (by omega) (hst r hr) (by rw [hst (r + 1) (by omega), show sn r + (sn (r + 1) - sn r) = sn (r + 1) by have := (hok.1 r c12).1; omega]) (by have := (hok.1 r c12).1; have := hok.mono (Nat.le_refl nr) (show r + 1 ≤ nr by omega); have := hok.2; omega) ((hok.1 r c12).2) (fun i hi => hsp _ (by have := hok.mono (Nat.le_refl nr) (show r + 1 ≤ nr by omega); omega)) (fun k hk => rfl)) gX10_pages_X10_isSo rfl 4 (by decide +kernel) ⟨by decide, by decide⟩ ⟨by decide, by decide⟩ 0 rfl rfl [0, 1, 3, 7, 8, 9] [2, 4, 5, 6, 10, 11] (wr := [gA E (ad 2) 10 sk, gA E (ad 4) 8 ri2_91, gA E (ad 8) 12 ts, gA E (ad 9) 12 tk, gA E (ad 29) 12 lr2, gA E (ad 30) 12 ls2]) rfl (by decide) rfl (by decide) (by decide) rfl rfl (Nat.le_of_ble_eq_true rfl) dX10_pages_94 ?_
                      rintro _ _ ⟨pi2_94, rfl, rfl⟩
                      refine gg.perm (ws' := [gO h 10 (tF ad (upd (upd (upd iv 0 (nI cnt)) 5 (nI nr)) 31 (nI ((pgS bs bk (soF (ioF ms sk pt cnt P) co sn) (fun s => mkN sk pt P s cnt) r s (pgA bs bk (soF (ioF ms sk pt cnt P) co sn) (fun s => mkN sk pt P s cnt) r)).length)))), gA E (ad 1) 10 ms, gA E (ad 2) 10 sk, gA E (ad 3) 80 pt, gA E (ad 4) 8 ri2_91, gA E (ad 8) 12 ts, gA E (ad 9) 12 tk, gA E (ad 10) 13 fr, gA E (ad 11) 620 sp, gA E (ad 16) 620 pi2_94, gA E (ad 29) 12 lr2, gA E (ad 30) 12 ls2]) [6, 7, 0, 8, 1, 2, 3, 9, 10, 11, 4, 5] (by decide) rfl ?_
                      show gg E _ 5 X 0 0 97 [some (.ref h), some (.int (nI P)), some (.int (nI r)), some (.int (nI s)), some (.int (nI (mkN sk pt P s cnt)))] [.int (b2i (decide (¬ jV (ioF ms sk pt cnt P s) co (sn r) (sn (r + 1) - sn r) = 0)))] [gO h 10 (tF ad (upd (upd (upd iv 0 (nI cnt)) 5 (nI nr)) 31 (nI ((pgS bs bk (soF (ioF ms sk pt cnt P) co sn) (fun s => mkN sk pt P s cnt) r s (pgA bs bk (soF (ioF ms sk pt cnt P) co sn) (fun s => mkN sk pt P s cnt) r)).length)))), gA E (ad 1) 10 ms, gA E (ad 2) 10 sk, gA E (ad 3) 80 pt, gA E (ad 4) 8 ri2_91, gA E (ad 8) 12 ts, gA E (ad 9) 12 tk, gA E (ad 10) 13 fr, gA E (ad 11) 620 sp, gA E (ad 16) 620 pi2_94, gA E (ad 29) 12 lr2, gA E (ad 30) 12 ls2]
                      refine g_if_ne (tgt := 103) C dX10_pages_97 (by decide) (fun c97 => ?_) (fun c97 => ?_)
                      · refine g_aload_n C dX10_pages_103 rfl ?_
                        refine g_get C i_X10 0 29 f_56 rfl rfl (by decide) rfl rfl dX10_pages_104 ?_
                        refine g_aload_n C dX10_pages_107 rfl ?_
                        refine g_get C i_X10 0 31 f_240 rfl rfl (by decide) rfl rfl dX10_pages_108 ?_
                        refine g_iload_n C dX10_pages_111 rfl ?_
                        refine g_iast C 10 ((pgS bs bk (soF (ioF ms sk pt cnt P) co sn) (fun s => mkN sk pt P s cnt) r s (pgA bs bk (soF (ioF ms sk pt cnt P) co sn) (fun s => mkN sk pt P s cnt) r)).length) rfl rfl (by have := pgS_len (bs := bs) (bk := bk) (so := soF (ioF ms sk pt cnt P) co sn) (mk := (fun s => mkN sk pt P s cnt)) (r := r) (pgA_len (bs := bs) (bk := bk) (so := soF (ioF ms sk pt cnt P) co sn) (mk := (fun s => mkN sk pt P s cnt)) r) s; omega) (by decide) dX10_pages_112 (ws' := [gO h 10 (tF ad (upd (upd (upd iv 0 (nI cnt)) 5 (nI nr)) 31 (nI ((pgS bs bk (soF (ioF ms sk pt cnt P) co sn) (fun s => mkN sk pt P s cnt) r s (pgA bs bk (soF (ioF ms sk pt cnt P) co sn) (fun s => mkN sk pt P s cnt) r)).length)))), gA E (ad 1) 10 ms, gA E (ad 2) 10 sk, gA E (ad 3) 80 pt, gA E (ad 4) 8 ri2_91, gA E (ad 8) 12 ts, gA E (ad 9) 12 tk, gA E (ad 10) 13 fr, gA E (ad 11) 620 sp, gA E (ad 16) 620 pi2_94, gA E (ad 29) 12 (upd lr2 ((pgS bs bk (soF (ioF ms sk pt cnt P) co sn) (fun s => mkN sk pt P s cnt) r s (pgA bs bk (soF (ioF ms sk pt cnt P) co sn) (fun s => mkN sk pt P s cnt) r)).length) (nI r)), gA E (ad 30) 12 ls2]) rfl ?_
                        refine g_aload_n C dX10_pages_113 rfl ?_
                        refine g_get C i_X10 0 30 f_59 rfl rfl (by decide) rfl rfl dX10_pages_114 ?_
                        refine g_aload_n C dX10_pages_117 rfl ?_
                        refine g_get C i_X10 0 31 f_240 rfl rfl (by decide) rfl rfl dX10_pages_118 ?_
                        refine g_iload_n C dX10_pages_121 rfl ?_
                        refine g_iast C 11 ((pgS bs bk (soF (ioF ms sk pt cnt P) co sn) (fun s => mkN sk pt P s cnt) r s (pgA bs bk (soF (ioF ms sk pt cnt P) co sn) (fun s => mkN sk pt P s cnt) r)).length) rfl rfl (by have := pgS_len (bs := bs) (bk := bk) (so := soF (ioF ms sk pt cnt P) co sn) (mk := (fun s => mkN sk pt P s cnt)) (r := r) (pgA_len (bs := bs) (bk := bk) (so := soF (ioF ms sk pt cnt P) co sn) (mk := (fun s => mkN sk pt P s cnt)) r) s; omega) (by decide) dX10_pages_122 (ws' := [gO h 10 (tF ad (upd (upd (upd iv 0 (nI cnt)) 5 (nI nr)) 31 (nI ((pgS bs bk (soF (ioF ms sk pt cnt P) co sn) (fun s => mkN sk pt P s cnt) r s (pgA bs bk (soF (ioF ms sk pt cnt P) co sn) (fun s => mkN sk pt P s cnt) r)).length)))), gA E (ad 1) 10 ms, gA E (ad 2) 10 sk, gA E (ad 3) 80 pt, gA E (ad 4) 8 ri2_91, gA E (ad 8) 12 ts, gA E (ad 9) 12 tk, gA E (ad 10) 13 fr, gA E (ad 11) 620 sp, gA E (ad 16) 620 pi2_94, gA E (ad 29) 12 (upd lr2 ((pgS bs bk (soF (ioF ms sk pt cnt P) co sn) (fun s => mkN sk pt P s cnt) r s (pgA bs bk (soF (ioF ms sk pt cnt P) co sn) (fun s => mkN sk pt P s cnt) r)).length) (nI r)), gA E (ad 30) 12 (upd ls2 ((pgS bs bk (soF (ioF ms sk pt cnt P) co sn) (fun s => mkN sk pt P s cnt) r s (pgA bs bk (soF (ioF ms sk pt cnt P) co sn) (fun s => mkN sk pt P s cnt) r)).length) (nI s))]) rfl ?_
                        refine g_aload_n C dX10_pages_123 rfl ?_
                        refine g_dup C dX10_pages_124 rfl ?_
                        refine g_get C i_X10 0 31 f_240 rfl rfl (by decide) rfl rfl dX10_pages_125 ?_
                        refine g_iconst (v := nI 1) C dX10_pages_128 (by decide) ?_
                        refine g_iadd_n C dX10_pages_129 ?_
                        refine g_put C i_X10 tyX10 tyX10_ok nmX10 0 31 f_240 rfl rfl (by decide) rfl rfl rfl rfl rfl (Nat.le_of_ble_eq_true rfl) dX10_pages_130 (ws' := [gO h 10 (tF ad (upd (upd (upd iv 0 (nI cnt)) 5 (nI nr)) 31 (nI (((pgS bs bk (soF (ioF ms sk pt cnt P) co sn) (fun s => mkN sk pt P s cnt) r s (pgA bs bk (soF (ioF ms sk pt cnt P) co sn) (fun s => mkN sk pt P s cnt) r)).length) + 1)))), gA E (ad 1) 10 ms, gA E (ad 2) 10 sk, gA E (ad 3) 80 pt, gA E (ad 4) 8 ri2_91, gA E (ad 8) 12 ts, gA E (ad 9) 12 tk, gA E (ad 10) 13 fr, gA E (ad 11) 620 sp, gA E (ad 16) 620 pi2_94, gA E (ad 29) 12 (upd lr2 ((pgS bs bk (soF (ioF ms sk pt cnt P) co sn) (fun s => mkN sk pt P s cnt) r s (pgA bs bk (soF (ioF ms sk pt cnt P) co sn) (fun s => mkN sk pt P s cnt) r)).length) (nI r)), gA E (ad 30) 12 (upd ls2 ((pgS bs bk (soF (ioF ms sk pt cnt P) co sn) (fun s => mkN sk pt P s cnt) r s (pgA bs bk (soF (ioF ms sk pt cnt P) co sn) (fun s => mkN sk pt P s cnt) r)).length) (nI s))]) rfl ?_
                        refine gg.less (ll' := [some (.ref h), some (.int (nI P)), some (.int (nI r)), some (.int (nI s)), none]) (by intro i v h; match i, h with | 0, h => exact h | 1, h => exact h | 2, h => exact h | 3, h => exact h | 4, h => exact absurd h (by simp) | (i + 5), h => exact absurd h (by simp)) ?_
                        have hS := pgS_yes (bs := bs) (bk := bk) (so := soF (ioF ms sk pt cnt P) co sn) (mk := (fun s => mkN sk pt P s cnt)) (r := r) (L := pgA bs bk (soF (ioF ms sk pt cnt P) co sn) (fun s => mkN sk pt P s cnt) r) (s := s) (Or.inl c29) (by have := pgS_len (bs := bs) (bk := bk) (so := soF (ioF ms sk pt cnt P) co sn) (mk := (fun s => mkN sk pt P s cnt)) (r := r) (pgA_len (bs := bs) (bk := bk) (so := soF (ioF ms sk pt cnt P) co sn) (mk := (fun s => mkN sk pt P s cnt)) r) s; omega) c64 (b2i_f.mp c81) (b2i_t.mp c97)
                        have hS1 : (pgS bs bk (soF (ioF ms sk pt cnt P) co sn) (fun s => mkN sk pt P s cnt) r s (pgA bs bk (soF (ioF ms sk pt cnt P) co sn) (fun s => mkN sk pt P s cnt) r)).length + 1 = (pgS bs bk (soF (ioF ms sk pt cnt P) co sn) (fun s => mkN sk pt P s cnt) r (s + 1) (pgA bs bk (soF (ioF ms sk pt cnt P) co sn) (fun s => mkN sk pt P s cnt) r)).length := by rw [hS, List.length_append]; rfl
                        rw [hS1]
                        refine g_iinc_n (y := 1) C dX10_pages_133 rfl (by decide) (by decide) rfl (ll' := [some (.ref h), some (.int (nI P)), some (.int (nI r)), some (.int (nI (s + 1))), none]) rfl ?_
                        refine g_goto (tgt := 17) C dX10_pages_136 (by decide) ?_
                        exact ih17 (s + 1) ri2_91 pi2_94 (upd lr2 ((pgS bs bk (soF (ioF ms sk pt cnt P) co sn) (fun s => mkN sk pt P s cnt) r s (pgA bs bk (soF (ioF ms sk pt cnt P) co sn) (fun s => mkN sk pt P s cnt) r)).length) (nI r)) (upd ls2 ((pgS bs bk (soF (ioF ms sk pt cnt P) co sn) (fun s => mkN sk pt P s cnt) r s (pgA bs bk (soF (ioF ms sk pt cnt P) co sn) (fun s => mkN sk pt P s cnt) r)).length) (nI s)) (by omega) (by omega) (by rw [hS]; exact hti.snoc r s)
                      · refine g_goto (tgt := 133) C dX10_pages_100 (by decide) ?_
                        refine gg.less (ll' := [some (.ref h), some (.int (nI P)), some (.int (nI r)), some (.int (nI s)), none]) (by intro i v h; match i, h with | 0, h => exact h | 1, h => exact h | 2, h => exact h | 3, h => exact h | 4, h => exact absurd h (by simp) | (i + 5), h => exact absurd h (by simp)) ?_
                        have hS := pgS_no (bs := bs) (bk := bk) (so := soF (ioF ms sk pt cnt P) co sn) (mk := (fun s => mkN sk pt P s cnt)) (r := r) (L := pgA bs bk (soF (ioF ms sk pt cnt P) co sn) (fun s => mkN sk pt P s cnt) r) (s := s) (fun z => absurd z.2.2.2 (by rw [soF, b2i_f.mp c97]; decide))
                        rw [← hS]
                        refine g_iinc_n (y := 1) C dX10_pages_133 rfl (by decide) (by decide) rfl (ll' := [some (.ref h), some (.int (nI P)), some (.int (nI r)), some (.int (nI (s + 1))), none]) rfl ?_
                        refine g_goto (tgt := 17) C dX10_pages_136 (by decide) ?_
                        exact ih17 (s + 1) ri2_91 pi2_94 lr2 ls2 (by omega) (by omega) (by rw [hS]; exact hti)
                · refine g_goto (tgt := 133) C dX10_pages_51 (by decide) ?_
                  refine gg.less (ll' := [some (.ref h), some (.int (nI P)), some (.int (nI r)), some (.int (nI s)), none]) (by intro i v h; match i, h with | 0, h => exact h | 1, h => exact h | 2, h => exact h | 3, h => exact h | 4, h => exact absurd h (by simp) | (i + 5), h => exact absurd h (by simp)) ?_
                  have hS := pgS_full (bs := bs) (bk := bk) (so := soF (ioF ms sk pt cnt P) co sn) (mk := (fun s => mkN sk pt P s cnt)) (r := r) (L := pgA bs bk (soF (ioF ms sk pt cnt P) co sn) (fun s => mkN sk pt P s cnt) r) (s := s) (by rw [c48]; decide)
                  rw [← hS]
                  refine g_iinc_n (y := 1) C dX10_pages_133 rfl (by decide) (by decide) rfl (ll' := [some (.ref h), some (.int (nI P)), some (.int (nI r)), some (.int (nI (s + 1))), none]) rfl ?_
                  refine g_goto (tgt := 17) C dX10_pages_136 (by decide) ?_
                  exact ih17 (s + 1) ro2 pi2 lr2 ls2 (by omega) (by omega) (by rw [hS]; exact hti)
              · refine g_aload_n C dX10_pages_32 rfl ?_
                refine g_get C i_X10 0 9 f_25 rfl rfl (by decide) rfl rfl dX10_pages_33 ?_
                refine g_iload_n C dX10_pages_36 rfl ?_
                refine g_iald C 6 r rfl rfl (by omega) (by decide) dX10_pages_37 ?_
                refine g_top (htk r c12) ?_
                refine g_iload_n C dX10_pages_38 rfl ?_
                refine g_icmp_ne (tgt := 133) C dX10_pages_39 (by decide) (fun c39 => ?_) (fun c39 => ?_)
                · refine gg.less (ll' := [some (.ref h), some (.int (nI P)), some (.int (nI r)), some (.int (nI s)), none]) (by intro i v h; match i, h with | 0, h => exact h | 1, h => exact h | 2, h => exact h | 3, h => exact h | 4, h => exact absurd h (by simp) | (i + 5), h => exact absurd h (by simp)) ?_
                  have hS := pgS_no (bs := bs) (bk := bk) (so := soF (ioF ms sk pt cnt P) co sn) (mk := (fun s => mkN sk pt P s cnt)) (r := r) (L := pgA bs bk (soF (ioF ms sk pt cnt P) co sn) (fun s => mkN sk pt P s cnt) r) (s := s) (fun z => z.1.elim c29 c39)
                  rw [← hS]
                  refine g_iinc_n (y := 1) C dX10_pages_133 rfl (by decide) (by decide) rfl (ll' := [some (.ref h), some (.int (nI P)), some (.int (nI r)), some (.int (nI (s + 1))), none]) rfl ?_
                  refine g_goto (tgt := 17) C dX10_pages_136 (by decide) ?_
                  exact ih17 (s + 1) ro2 pi2 lr2 ls2 (by omega) (by omega) (by rw [hS]; exact hti)
                · refine g_aload_n C dX10_pages_42 rfl ?_
                  refine g_get C i_X10 0 31 f_240 rfl rfl (by decide) rfl rfl dX10_pages_43 ?_
                  refine g_bipush (v := nI 12) C dX10_pages_46 (by decide) ?_
                  refine g_icmp_ne_n (tgt := 54) C dX10_pages_48 (by decide) (by have := pgS_len (bs := bs) (bk := bk) (so := soF (ioF ms sk pt cnt P) co sn) (mk := (fun s => mkN sk pt P s cnt)) (r := r) (pgA_len (bs := bs) (bk := bk) (so := soF (ioF ms sk pt cnt P) co sn) (mk := (fun s => mkN sk pt P s cnt)) r) s; omega) (by have := pgS_len (bs := bs) (bk := bk) (so := soF (ioF ms sk pt cnt P) co sn) (mk := (fun s => mkN sk pt P s cnt)) (r := r) (pgA_len (bs := bs) (bk := bk) (so := soF (ioF ms sk pt cnt P) co sn) (mk := (fun s => mkN sk pt P s cnt)) r) s; omega) (fun c48 => ?_) (fun c48 => ?_)
                  · refine g_aload_n C dX10_pages_54 rfl ?_
                    refine g_iload_n C dX10_pages_55 rfl ?_
                    refine g_iload_n C dX10_pages_56 rfl ?_
                    refine g_callV C (c_X10_markedOf E h ad (upd (upd iv 5 (nI nr)) 31 (nI ((pgS bs bk (soF (ioF ms sk pt cnt P) co sn) (fun s => mkN sk pt P s cnt) r s (pgA bs bk (soF (ioF ms sk pt cnt P) co sn) (fun s => mkN sk pt P s cnt) r)).length))) cnt sk pt P s (by omega) (by omega) (by omega)) gX10_pages_X10_markedOf rfl 2 (by decide +kernel) ⟨by decide, by decide⟩ ⟨by decide, by decide⟩ 0 rfl rfl [0, 2, 3] [1, 4, 5, 6, 7, 8, 9, 10, 11] (wr := [gA E (ad 1) 10 ms, gA E (ad 4) 8 ro2, gA E (ad 8) 12 ts, gA E (ad 9) 12 tk, gA E (ad 10) 13 fr, gA E (ad 11) 620 sp, gA E (ad 16) 620 pi2, gA E (ad 29) 12 lr2, gA E (ad 30) 12 ls2]) rfl (by decide) rfl (by decide) (by decide) rfl rfl (Nat.le_of_ble_eq_true rfl) dX10_pages_57 ?_
                    rintro _ _ ⟨rfl, rfl⟩
                    refine gg.perm (ws' := [gO h 10 (tF ad (upd (upd (upd iv 0 (nI cnt)) 5 (nI nr)) 31 (nI ((pgS bs bk (soF (ioF ms sk pt cnt P) co sn) (fun s => mkN sk pt P s cnt) r s (pgA bs bk (soF (ioF ms sk pt cnt P) co sn) (fun s => mkN sk pt P s cnt) r)).length)))), gA E (ad 1) 10 ms, gA E (ad 2) 10 sk, gA E (ad 3) 80 pt, gA E (ad 4) 8 ro2, gA E (ad 8) 12 ts, gA E (ad 9) 12 tk, gA E (ad 10) 13 fr, gA E (ad 11) 620 sp, gA E (ad 16) 620 pi2, gA E (ad 29) 12 lr2, gA E (ad 30) 12 ls2]) [9, 0, 10, 11, 1, 2, 3, 4, 5, 6, 7, 8] (by decide) rfl ?_
                    show gg E _ 5 X 0 0 60 [some (.ref h), some (.int (nI P)), some (.int (nI r)), some (.int (nI s)), none] [.int (nI (mkN sk pt P s cnt))] [gO h 10 (tF ad (upd (upd (upd iv 0 (nI cnt)) 5 (nI nr)) 31 (nI ((pgS bs bk (soF (ioF ms sk pt cnt P) co sn) (fun s => mkN sk pt P s cnt) r s (pgA bs bk (soF (ioF ms sk pt cnt P) co sn) (fun s => mkN sk pt P s cnt) r)).length)))), gA E (ad 1) 10 ms, gA E (ad 2) 10 sk, gA E (ad 3) 80 pt, gA E (ad 4) 8 ro2, gA E (ad 8) 12 ts, gA E (ad 9) 12 tk, gA E (ad 10) 13 fr, gA E (ad 11) 620 sp, gA E (ad 16) 620 pi2, gA E (ad 29) 12 lr2, gA E (ad 30) 12 ls2]
                    refine g_istore C dX10_pages_60 (by decide) rfl (ll' := [some (.ref h), some (.int (nI P)), some (.int (nI r)), some (.int (nI s)), some (.int (nI (mkN sk pt P s cnt)))]) rfl ?_
                    refine g_iload C dX10_pages_62 rfl ?_
                    refine g_if_eq_n (tgt := 133) C dX10_pages_64 (by decide) (by have := mkN_1024 sk pt P s hcnt; omega) (fun c64 => ?_) (fun c64 => ?_)
                    · refine gg.less (ll' := [some (.ref h), some (.int (nI P)), some (.int (nI r)), some (.int (nI s)), none]) (by intro i v h; match i, h with | 0, h => exact h | 1, h => exact h | 2, h => exact h | 3, h => exact h | 4, h => exact absurd h (by simp) | (i + 5), h => exact absurd h (by simp)) ?_
                      have hS := pgS_no (bs := bs) (bk := bk) (so := soF (ioF ms sk pt cnt P) co sn) (mk := (fun s => mkN sk pt P s cnt)) (r := r) (L := pgA bs bk (soF (ioF ms sk pt cnt P) co sn) (fun s => mkN sk pt P s cnt) r) (s := s) (fun z => absurd z.2.1 (by show ¬ 0 < mkN sk pt P s cnt; omega))
                      rw [← hS]
                      refine g_iinc_n (y := 1) C dX10_pages_133 rfl (by decide) (by decide) rfl (ll' := [some (.ref h), some (.int (nI P)), some (.int (nI r)), some (.int (nI (s + 1))), none]) rfl ?_
                      refine g_goto (tgt := 17) C dX10_pages_136 (by decide) ?_
                      exact ih17 (s + 1) ro2 pi2 lr2 ls2 (by omega) (by omega) (by rw [hS]; exact hti)
                    · refine g_aload_n C dX10_pages_67 rfl ?_
                      refine g_iload_n C dX10_pages_68 rfl ?_
                      refine g_aload_n C dX10_pages_69 rfl ?_
                      refine g_get C i_X10 0 8 f_22 rfl rfl (by decide) rfl rfl dX10_pages_70 ?_
                      refine g_iload_n C dX10_pages_73 rfl ?_
                      refine g_iald C 5 r rfl rfl (by omega) (by decide) dX10_pages_74 ?_
                      refine g_top (hts r c12) ?_
                      refine g_bipush (v := nI 10) C dX10_pages_75 (by decide) ?_
                      refine g_idiv C dX10_pages_77 (by decide) ?_
                      refine g_callV C (c_X10_has E h ad (upd (upd iv 0 (nI cnt)) 5 (nI nr)) ts lr2 ls2 bs (pgS bs bk (soF (ioF ms sk pt cnt P) co sn) (fun s => mkN sk pt P s cnt) r s (pgA bs bk (soF (ioF ms sk pt cnt P) co sn) (fun s => mkN sk pt P s cnt) r)) nr (nI s) ((bs r) / (nI 10)) (pgS_len (pgA_len r) s) (by omega) (pgS_in c12 (pgA_in r hr) s hs) (hti) (hts)) gX10_pages_X10_has rfl 2 (by decide +kernel) ⟨by decide, by decide⟩ ⟨by decide, by decide⟩ 0 rfl rfl [0, 5, 10, 11] [1, 2, 3, 4, 6, 7, 8, 9] (wr := [gA E (ad 1) 10 ms, gA E (ad 2) 10 sk, gA E (ad 3) 80 pt, gA E (ad 4) 8 ro2, gA E (ad 9) 12 tk, gA E (ad 10) 13 fr, gA E (ad 11) 620 sp, gA E (ad 16) 620 pi2]) rfl (by decide) rfl (by decide) (by decide) rfl rfl (Nat.le_of_ble_eq_true rfl) dX10_pages_78 ?_
                      rintro _ _ ⟨rfl, rfl⟩
                      refine gg.perm (ws' := [gO h 10 (tF ad (upd (upd (upd iv 0 (nI cnt)) 5 (nI nr)) 31 (nI ((pgS bs bk (soF (ioF ms sk pt cnt P) co sn) (fun s => mkN sk pt P s cnt) r s (pgA bs bk (soF (ioF ms sk pt cnt P) co sn) (fun s => mkN sk pt P s cnt) r)).length)))), gA E (ad 1) 10 ms, gA E (ad 2) 10 sk, gA E (ad 3) 80 pt, gA E (ad 4) 8 ro2, gA E (ad 8) 12 ts, gA E (ad 9) 12 tk, gA E (ad 10) 13 fr, gA E (ad 11) 620 sp, gA E (ad 16) 620 pi2, gA E (ad 29) 12 lr2, gA E (ad 30) 12 ls2]) [8, 0, 1, 2, 3, 9, 4, 5, 6, 7, 10, 11] (by decide) rfl ?_
                      show gg E _ 5 X 0 0 81 [some (.ref h), some (.int (nI P)), some (.int (nI r)), some (.int (nI s)), some (.int (nI (mkN sk pt P s cnt)))] [.int (b2i (hasL bs (pgS bs bk (soF (ioF ms sk pt cnt P) co sn) (fun s => mkN sk pt P s cnt) r s (pgA bs bk (soF (ioF ms sk pt cnt P) co sn) (fun s => mkN sk pt P s cnt) r)) (nI s) ((bs r) / (nI 10))))] [gO h 10 (tF ad (upd (upd (upd iv 0 (nI cnt)) 5 (nI nr)) 31 (nI ((pgS bs bk (soF (ioF ms sk pt cnt P) co sn) (fun s => mkN sk pt P s cnt) r s (pgA bs bk (soF (ioF ms sk pt cnt P) co sn) (fun s => mkN sk pt P s cnt) r)).length)))), gA E (ad 1) 10 ms, gA E (ad 2) 10 sk, gA E (ad 3) 80 pt, gA E (ad 4) 8 ro2, gA E (ad 8) 12 ts, gA E (ad 9) 12 tk, gA E (ad 10) 13 fr, gA E (ad 11) 620 sp, gA E (ad 16) 620 pi2, gA E (ad 29) 12 lr2, gA E (ad 30) 12 ls2]
                      refine g_if_ne (tgt := 133) C dX10_pages_81 (by decide) (fun c81 => ?_) (fun c81 => ?_)
                      · refine gg.less (ll' := [some (.ref h), some (.int (nI P)), some (.int (nI r)), some (.int (nI s)), none]) (by intro i v h; match i, h with | 0, h => exact h | 1, h => exact h | 2, h => exact h | 3, h => exact h | 4, h => exact absurd h (by simp) | (i + 5), h => exact absurd h (by simp)) ?_
                        have hS := pgS_no (bs := bs) (bk := bk) (so := soF (ioF ms sk pt cnt P) co sn) (mk := (fun s => mkN sk pt P s cnt)) (r := r) (L := pgA bs bk (soF (ioF ms sk pt cnt P) co sn) (fun s => mkN sk pt P s cnt) r) (s := s) (fun z => absurd (b2i_t.mp c81) (by rw [z.2.2.1]; decide))
                        rw [← hS]
                        refine g_iinc_n (y := 1) C dX10_pages_133 rfl (by decide) (by decide) rfl (ll' := [some (.ref h), some (.int (nI P)), some (.int (nI r)), some (.int (nI (s + 1))), none]) rfl ?_
                        refine g_goto (tgt := 17) C dX10_pages_136 (by decide) ?_
                        exact ih17 (s + 1) ro2 pi2 lr2 ls2 (by omega) (by omega) (by rw [hS]; exact hti)
                      · refine g_aload_n C dX10_pages_84 rfl ?_
                        refine g_iload_n C dX10_pages_85 rfl ?_
                        refine g_iload_n C dX10_pages_86 rfl ?_
                        refine g_iload C dX10_pages_87 rfl ?_
                        refine g_aload_n C dX10_pages_89 rfl ?_
                        refine g_iload_n C dX10_pages_90 rfl ?_
                        refine g_callV C (c_X10_classOf E h ad (upd (upd iv 5 (nI nr)) 31 (nI ((pgS bs bk (soF (ioF ms sk pt cnt P) co sn) (fun s => mkN sk pt P s cnt) r s (pgA bs bk (soF (ioF ms sk pt cnt P) co sn) (fun s => mkN sk pt P s cnt) r)).length))) cnt ms sk pt ro2 s (by omega) (by omega)) gX10_pages_X10_classOf rfl 1 (by decide +kernel) ⟨by decide, by decide⟩ ⟨by decide, by decide⟩ 0 rfl rfl [0, 1, 2, 3, 4] [5, 6, 7, 8, 9, 10, 11] (wr := [gA E (ad 8) 12 ts, gA E (ad 9) 12 tk, gA E (ad 10) 13 fr, gA E (ad 11) 620 sp, gA E (ad 16) 620 pi2, gA E (ad 29) 12 lr2, gA E (ad 30) 12 ls2]) rfl (by decide) rfl (by decide) (by decide) rfl rfl (Nat.le_of_ble_eq_true rfl) dX10_pages_91 ?_
                        rintro _ _ ⟨ri2_91, rfl, rfl⟩
                        refine gg.perm (ws' := [gO h 10 (tF ad (upd (upd (upd iv 0 (nI cnt)) 5 (nI nr)) 31 (nI ((pgS bs bk (soF (ioF ms sk pt cnt P) co sn) (fun s => mkN sk pt P s cnt) r s (pgA bs bk (soF (ioF ms sk pt cnt P) co sn) (fun s => mkN sk pt P s cnt) r)).length)))), gA E (ad 1) 10 ms, gA E (ad 2) 10 sk, gA E (ad 3) 80 pt, gA E (ad 4) 8 ri2_91, gA E (ad 8) 12 ts, gA E (ad 9) 12 tk, gA E (ad 10) 13 fr, gA E (ad 11) 620 sp, gA E (ad 16) 620 pi2, gA E (ad 29) 12 lr2, gA E (ad 30) 12 ls2]) [7, 8, 9, 10, 11, 0, 1, 2, 3, 4, 5, 6] (by decide) rfl ?_
                        show gg E _ 5 X 0 0 94 [some (.ref h), some (.int (nI P)), some (.int (nI r)), some (.int (nI s)), some (.int (nI (mkN sk pt P s cnt)))] [.int (meV ms sk pt cnt s), .int (nI (mkN sk pt P s cnt)), .int (nI P), .int (nI r), .ref h] [gO h 10 (tF ad (upd (upd (upd iv 0 (nI cnt)) 5 (nI nr)) 31 (nI ((pgS bs bk (soF (ioF ms sk pt cnt P) co sn) (fun s => mkN sk pt P s cnt) r s (pgA bs bk (soF (ioF ms sk pt cnt P) co sn) (fun s => mkN sk pt P s cnt) r)).length)))), gA E (ad 1) 10 ms, gA E (ad 2) 10 sk, gA E (ad 3) 80 pt, gA E (ad 4) 8 ri2_91, gA E (ad 8) 12 ts, gA E (ad 9) 12 tk, gA E (ad 10) 13 fr, gA E (ad 11) 620 sp, gA E (ad 16) 620 pi2, gA E (ad 29) 12 lr2, gA E (ad 30) 12 ls2]
                        refine g_callV C (c_X10_isSo E h ad (upd (upd iv 5 (nI nr)) 31 (nI ((pgS bs bk (soF (ioF ms sk pt cnt P) co sn) (fun s => mkN sk pt P s cnt) r s (pgA bs bk (soF (ioF ms sk pt cnt P) co sn) (fun s => mkN sk pt P s cnt) r)).length))) cnt ms pt fr sp pi2 co (ioF ms sk pt cnt P s) r P (mkN sk pt P s cnt) (sn r) (sn (r + 1) - sn r) (meV ms sk pt cnt s) (by omega) (by omega) (mkN_1024 sk pt P s hcnt) (hms) (by omega) (hst r hr) (by rw [hst (r + 1) (by omega), show sn r + (sn (r + 1) - sn r) = sn (r + 1) by have := (hok.1 r c12).1; omega]) (by have := (hok.1 r c12).1; have := hok.mono (Nat.le_refl nr) (show r + 1 ≤ nr by omega); have := hok.2; omega) ((hok.1 r c12).2) (fun i hi => hsp _ (by have := hok.mono (Nat.le_refl nr) (show r + 1 ≤ nr by omega); omega)) (fun k hk => rfl)) gX10_pages_X10_isSo rfl 4 (by decide +kernel) ⟨by decide, by decide⟩ ⟨by decide, by decide⟩ 0 rfl rfl [0, 1, 3, 7, 8, 9] [2, 4, 5, 6, 10, 11] (wr := [gA E (ad 2) 10 sk, gA E (ad 4) 8 ri2_91, gA E (ad 8) 12 ts, gA E (ad 9) 12 tk, gA E (ad 29) 12 lr2, gA E (ad 30) 12 ls2]) rfl (by decide) rfl (by decide) (by decide) rfl rfl (Nat.le_of_ble_eq_true rfl) dX10_pages_94 ?_
                        rintro _ _ ⟨pi2_94, rfl, rfl⟩
                        refine gg.perm (ws' := [gO h 10 (tF ad (upd (upd (upd iv 0 (nI cnt)) 5 (nI nr)) 31 (nI ((pgS bs bk (soF (ioF ms sk pt cnt P) co sn) (fun s => mkN sk pt P s cnt) r s (pgA bs bk (soF (ioF ms sk pt cnt P) co sn) (fun s => mkN sk pt P s cnt) r)).length)))), gA E (ad 1) 10 ms, gA E (ad 2) 10 sk, gA E (ad 3) 80 pt, gA E (ad 4) 8 ri2_91, gA E (ad 8) 12 ts, gA E (ad 9) 12 tk, gA E (ad 10) 13 fr, gA E (ad 11) 620 sp, gA E (ad 16) 620 pi2_94, gA E (ad 29) 12 lr2, gA E (ad 30) 12 ls2]) [6, 7, 0, 8, 1, 2, 3, 9, 10, 11, 4, 5] (by decide) rfl ?_
                        show gg E _ 5 X 0 0 97 [some (.ref h), some (.int (nI P)), some (.int (nI r)), some (.int (nI s)), some (.int (nI (mkN sk pt P s cnt)))] [.int (b2i (decide (¬ jV (ioF ms sk pt cnt P s) co (sn r) (sn (r + 1) - sn r) = 0)))] [gO h 10 (tF ad (upd (upd (upd iv 0 (nI cnt)) 5 (nI nr)) 31 (nI ((pgS bs bk (soF (ioF ms sk pt cnt P) co sn) (fun s => mkN sk pt P s cnt) r s (pgA bs bk (soF (ioF ms sk pt cnt P) co sn) (fun s => mkN sk pt P s cnt) r)).length)))), gA E (ad 1) 10 ms, gA E (ad 2) 10 sk, gA E (ad 3) 80 pt, gA E (ad 4) 8 ri2_91, gA E (ad 8) 12 ts, gA E (ad 9) 12 tk, gA E (ad 10) 13 fr, gA E (ad 11) 620 sp, gA E (ad 16) 620 pi2_94, gA E (ad 29) 12 lr2, gA E (ad 30) 12 ls2]
                        refine g_if_ne (tgt := 103) C dX10_pages_97 (by decide) (fun c97 => ?_) (fun c97 => ?_)
                        · refine g_aload_n C dX10_pages_103 rfl ?_
                          refine g_get C i_X10 0 29 f_56 rfl rfl (by decide) rfl rfl dX10_pages_104 ?_
                          refine g_aload_n C dX10_pages_107 rfl ?_
                          refine g_get C i_X10 0 31 f_240 rfl rfl (by decide) rfl rfl dX10_pages_108 ?_
                          refine g_iload_n C dX10_pages_111 rfl ?_
                          refine g_iast C 10 ((pgS bs bk (soF (ioF ms sk pt cnt P) co sn) (fun s => mkN sk pt P s cnt) r s (pgA bs bk (soF (ioF ms sk pt cnt P) co sn) (fun s => mkN sk pt P s cnt) r)).length) rfl rfl (by have := pgS_len (bs := bs) (bk := bk) (so := soF (ioF ms sk pt cnt P) co sn) (mk := (fun s => mkN sk pt P s cnt)) (r := r) (pgA_len (bs := bs) (bk := bk) (so := soF (ioF ms sk pt cnt P) co sn) (mk := (fun s => mkN sk pt P s cnt)) r) s; omega) (by decide) dX10_pages_112 (ws' := [gO h 10 (tF ad (upd (upd (upd iv 0 (nI cnt)) 5 (nI nr)) 31 (nI ((pgS bs bk (soF (ioF ms sk pt cnt P) co sn) (fun s => mkN sk pt P s cnt) r s (pgA bs bk (soF (ioF ms sk pt cnt P) co sn) (fun s => mkN sk pt P s cnt) r)).length)))), gA E (ad 1) 10 ms, gA E (ad 2) 10 sk, gA E (ad 3) 80 pt, gA E (ad 4) 8 ri2_91, gA E (ad 8) 12 ts, gA E (ad 9) 12 tk, gA E (ad 10) 13 fr, gA E (ad 11) 620 sp, gA E (ad 16) 620 pi2_94, gA E (ad 29) 12 (upd lr2 ((pgS bs bk (soF (ioF ms sk pt cnt P) co sn) (fun s => mkN sk pt P s cnt) r s (pgA bs bk (soF (ioF ms sk pt cnt P) co sn) (fun s => mkN sk pt P s cnt) r)).length) (nI r)), gA E (ad 30) 12 ls2]) rfl ?_
                          refine g_aload_n C dX10_pages_113 rfl ?_
                          refine g_get C i_X10 0 30 f_59 rfl rfl (by decide) rfl rfl dX10_pages_114 ?_
                          refine g_aload_n C dX10_pages_117 rfl ?_
                          refine g_get C i_X10 0 31 f_240 rfl rfl (by decide) rfl rfl dX10_pages_118 ?_
                          refine g_iload_n C dX10_pages_121 rfl ?_
                          refine g_iast C 11 ((pgS bs bk (soF (ioF ms sk pt cnt P) co sn) (fun s => mkN sk pt P s cnt) r s (pgA bs bk (soF (ioF ms sk pt cnt P) co sn) (fun s => mkN sk pt P s cnt) r)).length) rfl rfl (by have := pgS_len (bs := bs) (bk := bk) (so := soF (ioF ms sk pt cnt P) co sn) (mk := (fun s => mkN sk pt P s cnt)) (r := r) (pgA_len (bs := bs) (bk := bk) (so := soF (ioF ms sk pt cnt P) co sn) (mk := (fun s => mkN sk pt P s cnt)) r) s; omega) (by decide) dX10_pages_122 (ws' := [gO h 10 (tF ad (upd (upd (upd iv 0 (nI cnt)) 5 (nI nr)) 31 (nI ((pgS bs bk (soF (ioF ms sk pt cnt P) co sn) (fun s => mkN sk pt P s cnt) r s (pgA bs bk (soF (ioF ms sk pt cnt P) co sn) (fun s => mkN sk pt P s cnt) r)).length)))), gA E (ad 1) 10 ms, gA E (ad 2) 10 sk, gA E (ad 3) 80 pt, gA E (ad 4) 8 ri2_91, gA E (ad 8) 12 ts, gA E (ad 9) 12 tk, gA E (ad 10) 13 fr, gA E (ad 11) 620 sp, gA E (ad 16) 620 pi2_94, gA E (ad 29) 12 (upd lr2 ((pgS bs bk (soF (ioF ms sk pt cnt P) co sn) (fun s => mkN sk pt P s cnt) r s (pgA bs bk (soF (ioF ms sk pt cnt P) co sn) (fun s => mkN sk pt P s cnt) r)).length) (nI r)), gA E (ad 30) 12 (upd ls2 ((pgS bs bk (soF (ioF ms sk pt cnt P) co sn) (fun s => mkN sk pt P s cnt) r s (pgA bs bk (soF (ioF ms sk pt cnt P) co sn) (fun s => mkN sk pt P s cnt) r)).length) (nI s))]) rfl ?_
                          refine g_aload_n C dX10_pages_123 rfl ?_
                          refine g_dup C dX10_pages_124 rfl ?_
                          refine g_get C i_X10 0 31 f_240 rfl rfl (by decide) rfl rfl dX10_pages_125 ?_
                          refine g_iconst (v := nI 1) C dX10_pages_128 (by decide) ?_
                          refine g_iadd_n C dX10_pages_129 ?_
                          refine g_put C i_X10 tyX10 tyX10_ok nmX10 0 31 f_240 rfl rfl (by decide) rfl rfl rfl rfl rfl (Nat.le_of_ble_eq_true rfl) dX10_pages_130 (ws' := [gO h 10 (tF ad (upd (upd (upd iv 0 (nI cnt)) 5 (nI nr)) 31 (nI (((pgS bs bk (soF (ioF ms sk pt cnt P) co sn) (fun s => mkN sk pt P s cnt) r s (pgA bs bk (soF (ioF ms sk pt cnt P) co sn) (fun s => mkN sk pt P s cnt) r)).length) + 1)))), gA E (ad 1) 10 ms, gA E (ad 2) 10 sk, gA E (ad 3) 80 pt, gA E (ad 4) 8 ri2_91, gA E (ad 8) 12 ts, gA E (ad 9) 12 tk, gA E (ad 10) 13 fr, gA E (ad 11) 620 sp, gA E (ad 16) 620 pi2_94, gA E (ad 29) 12 (upd lr2 ((pgS bs bk (soF (ioF ms sk pt cnt P) co sn) (fun s => mkN sk pt P s cnt) r s (pgA bs bk (soF (ioF ms sk pt cnt P) co sn) (fun s => mkN sk pt P s cnt) r)).length) (nI r)), gA E (ad 30) 12 (upd ls2 ((pgS bs bk (soF (ioF ms sk pt cnt P) co sn) (fun s => mkN sk pt P s cnt) r s (pgA bs bk (soF (ioF ms sk pt cnt P) co sn) (fun s => mkN sk pt P s cnt) r)).length) (nI s))]) rfl ?_
                          refine gg.less (ll' := [some (.ref h), some (.int (nI P)), some (.int (nI r)), some (.int (nI s)), none]) (by intro i v h; match i, h with | 0, h => exact h | 1, h => exact h | 2, h => exact h | 3, h => exact h | 4, h => exact absurd h (by simp) | (i + 5), h => exact absurd h (by simp)) ?_
                          have hS := pgS_yes (bs := bs) (bk := bk) (so := soF (ioF ms sk pt cnt P) co sn) (mk := (fun s => mkN sk pt P s cnt)) (r := r) (L := pgA bs bk (soF (ioF ms sk pt cnt P) co sn) (fun s => mkN sk pt P s cnt) r) (s := s) (Or.inr c39) (by have := pgS_len (bs := bs) (bk := bk) (so := soF (ioF ms sk pt cnt P) co sn) (mk := (fun s => mkN sk pt P s cnt)) (r := r) (pgA_len (bs := bs) (bk := bk) (so := soF (ioF ms sk pt cnt P) co sn) (mk := (fun s => mkN sk pt P s cnt)) r) s; omega) c64 (b2i_f.mp c81) (b2i_t.mp c97)
                          have hS1 : (pgS bs bk (soF (ioF ms sk pt cnt P) co sn) (fun s => mkN sk pt P s cnt) r s (pgA bs bk (soF (ioF ms sk pt cnt P) co sn) (fun s => mkN sk pt P s cnt) r)).length + 1 = (pgS bs bk (soF (ioF ms sk pt cnt P) co sn) (fun s => mkN sk pt P s cnt) r (s + 1) (pgA bs bk (soF (ioF ms sk pt cnt P) co sn) (fun s => mkN sk pt P s cnt) r)).length := by rw [hS, List.length_append]; rfl
                          rw [hS1]
                          refine g_iinc_n (y := 1) C dX10_pages_133 rfl (by decide) (by decide) rfl (ll' := [some (.ref h), some (.int (nI P)), some (.int (nI r)), some (.int (nI (s + 1))), none]) rfl ?_
                          refine g_goto (tgt := 17) C dX10_pages_136 (by decide) ?_
                          exact ih17 (s + 1) ri2_91 pi2_94 (upd lr2 ((pgS bs bk (soF (ioF ms sk pt cnt P) co sn) (fun s => mkN sk pt P s cnt) r s (pgA bs bk (soF (ioF ms sk pt cnt P) co sn) (fun s => mkN sk pt P s cnt) r)).length) (nI r)) (upd ls2 ((pgS bs bk (soF (ioF ms sk pt cnt P) co sn) (fun s => mkN sk pt P s cnt) r s (pgA bs bk (soF (ioF ms sk pt cnt P) co sn) (fun s => mkN sk pt P s cnt) r)).length) (nI s)) (by omega) (by omega) (by rw [hS]; exact hti.snoc r s)
                        · refine g_goto (tgt := 133) C dX10_pages_100 (by decide) ?_
                          refine gg.less (ll' := [some (.ref h), some (.int (nI P)), some (.int (nI r)), some (.int (nI s)), none]) (by intro i v h; match i, h with | 0, h => exact h | 1, h => exact h | 2, h => exact h | 3, h => exact h | 4, h => exact absurd h (by simp) | (i + 5), h => exact absurd h (by simp)) ?_
                          have hS := pgS_no (bs := bs) (bk := bk) (so := soF (ioF ms sk pt cnt P) co sn) (mk := (fun s => mkN sk pt P s cnt)) (r := r) (L := pgA bs bk (soF (ioF ms sk pt cnt P) co sn) (fun s => mkN sk pt P s cnt) r) (s := s) (fun z => absurd z.2.2.2 (by rw [soF, b2i_f.mp c97]; decide))
                          rw [← hS]
                          refine g_iinc_n (y := 1) C dX10_pages_133 rfl (by decide) (by decide) rfl (ll' := [some (.ref h), some (.int (nI P)), some (.int (nI r)), some (.int (nI (s + 1))), none]) rfl ?_
                          refine g_goto (tgt := 17) C dX10_pages_136 (by decide) ?_
                          exact ih17 (s + 1) ri2_91 pi2_94 lr2 ls2 (by omega) (by omega) (by rw [hS]; exact hti)
                  · refine g_goto (tgt := 133) C dX10_pages_51 (by decide) ?_
                    refine gg.less (ll' := [some (.ref h), some (.int (nI P)), some (.int (nI r)), some (.int (nI s)), none]) (by intro i v h; match i, h with | 0, h => exact h | 1, h => exact h | 2, h => exact h | 3, h => exact h | 4, h => exact absurd h (by simp) | (i + 5), h => exact absurd h (by simp)) ?_
                    have hS := pgS_full (bs := bs) (bk := bk) (so := soF (ioF ms sk pt cnt P) co sn) (mk := (fun s => mkN sk pt P s cnt)) (r := r) (L := pgA bs bk (soF (ioF ms sk pt cnt P) co sn) (fun s => mkN sk pt P s cnt) r) (s := s) (by rw [c48]; decide)
                    rw [← hS]
                    refine g_iinc_n (y := 1) C dX10_pages_133 rfl (by decide) (by decide) rfl (ll' := [some (.ref h), some (.int (nI P)), some (.int (nI r)), some (.int (nI (s + 1))), none]) rfl ?_
                    refine g_goto (tgt := 17) C dX10_pages_136 (by decide) ?_
                    exact ih17 (s + 1) ro2 pi2 lr2 ls2 (by omega) (by omega) (by rw [hS]; exact hti)
        exact L17 _ 0 ro1 pi1 lr1 ls1 (Nat.lt_succ_self _) (by omega) (ht)
  exact L7 _ 0 ro pi lr ls (Nat.lt_succ_self _) (by omega) (tgR.nil)

abbrev rm_c_X10_page_ok : Room := { frames := 4, cells := 0, slots := 0, locals := 100 }
set_option maxHeartbeats 4000000 in
set_option maxRecDepth 100000 in
theorem c_X10_page_ok (E : gE) (h : Nat) (ad : Nat → Nat) (iv : Nat → Int32) (cnt nr : Nat) (ms sk pt ro ts tk fr sp pi lr ls bs bk co : Nat → Int32) (sn : Nat → Nat) (ln0 P : Nat) (hcnt : cnt ≤ 10) (hP : P < 8) (hms : okM ms cnt) (hnr : nr ≤ 12) (hts : ∀ q, q < nr → ts q = bs q) (htk : ∀ q, q < nr → tk q = bk q) (hst : ∀ q, q ≤ nr → fr q = nI (sn q)) (hok : okB nr sn co) (hsp : ∀ i, i < sn nr → sp i = trJ (co i)) : MM E yX10_page wsX10_page rm_c_X10_page_ok [.ref h, .int (nI P)] [gO h 10 (tF ad (upd (upd (upd iv 0 (nI cnt)) 5 (nI nr)) 31 (nI ln0))), gA E (ad 1) 10 ms, gA E (ad 2) 10 sk, gA E (ad 3) 80 pt, gA E (ad 4) 8 ro, gA E (ad 8) 12 ts, gA E (ad 9) 12 tk, gA E (ad 10) 13 fr, gA E (ad 11) 620 sp, gA E (ad 16) 620 pi, gA E (ad 29) 12 lr, gA E (ad 30) 12 ls] (fun rv_ ru_ => ∃ (ro2 pi2 lr2 ls2 : Nat → Int32), rv_ = some (.int (nI ((pgA bs bk (soF (ioF ms sk pt cnt P) co sn) (fun s => mkN sk pt P s cnt) nr).length))) ∧ ru_ = [gO h 10 (tF ad (upd (upd (upd iv 0 (nI cnt)) 5 (nI nr)) 31 (nI ((pgA bs bk (soF (ioF ms sk pt cnt P) co sn) (fun s => mkN sk pt P s cnt) nr).length)))), gA E (ad 1) 10 ms, gA E (ad 2) 10 sk, gA E (ad 3) 80 pt, gA E (ad 4) 8 ro2, gA E (ad 8) 12 ts, gA E (ad 9) 12 tk, gA E (ad 10) 13 fr, gA E (ad 11) 620 sp, gA E (ad 16) 620 pi2, gA E (ad 29) 12 lr2, gA E (ad 30) 12 ls2] ∧ (tgR (pgA bs bk (soF (ioF ms sk pt cnt P) co sn) (fun s => mkN sk pt P s cnt) nr) lr2 ls2)) := by
  refine MM.ofG (cc := cX10_page) (maxL := 2) (ret := (some .int)) (by decide) rfl (Nat.le_of_ble_eq_true rfl) (ll := [some (.ref h), some (.int (nI P))]) rfl ?_
  intro X C Rt
  have C : gx E X cX10_page 2 wsX10_page RX10 := C
  have i_X10 : ∀ w ∈ u_ws RX10 TX10 40, w ∈ wsX10_page := by decide +kernel
  have f_240 : Cond.fieldLink RX10 240 "MarkPagesModel" "lines" "I" ∈ wsX10_page := by decide +kernel
  refine g_iload_n C dX10_page_0 rfl ?_
  refine g_callS C (c_X10_isPupil_y E P (by omega)) gX10_page_X10_isPupil rfl 1 (by decide +kernel) ⟨by decide, by decide⟩ ⟨by decide, by decide⟩ [] [0, 1, 2, 3, 4, 5, 6, 7, 8, 9, 10, 11] (wr := [gO h 10 (tF ad (upd (upd (upd iv 0 (nI cnt)) 5 (nI nr)) 31 (nI ln0))), gA E (ad 1) 10 ms, gA E (ad 2) 10 sk, gA E (ad 3) 80 pt, gA E (ad 4) 8 ro, gA E (ad 8) 12 ts, gA E (ad 9) 12 tk, gA E (ad 10) 13 fr, gA E (ad 11) 620 sp, gA E (ad 16) 620 pi, gA E (ad 29) 12 lr, gA E (ad 30) 12 ls]) rfl (by decide) rfl (by decide) (by decide) rfl rfl (Nat.le_of_ble_eq_true rfl) dX10_page_1 ?_
  rintro _ _ ⟨rfl, rfl⟩
  show gg E _ 2 X 0 0 4 [some (.ref h), some (.int (nI P))] [.int (nI 1)] [gO h 10 (tF ad (upd (upd (upd iv 0 (nI cnt)) 5 (nI nr)) 31 (nI ln0))), gA E (ad 1) 10 ms, gA E (ad 2) 10 sk, gA E (ad 3) 80 pt, gA E (ad 4) 8 ro, gA E (ad 8) 12 ts, gA E (ad 9) 12 tk, gA E (ad 10) 13 fr, gA E (ad 11) 620 sp, gA E (ad 16) 620 pi, gA E (ad 29) 12 lr, gA E (ad 30) 12 ls]
  refine g_if_ne (tgt := 9) C dX10_page_4 (by decide) (fun c4 => ?_) (fun c4 => absurd c4 (by decide))
  refine g_aload_n C dX10_page_9 rfl ?_
  refine g_iload_n C dX10_page_10 rfl ?_
  refine g_callV C (c_X10_pages E h ad iv cnt nr ms sk pt ro ts tk fr sp pi lr ls bs bk co sn ln0 P (by omega) (by omega) (hms) (by omega) (hts) (htk) (hst) (hok) (hsp)) gX10_page_X10_pages rfl 1 (by decide +kernel) ⟨by decide, by decide⟩ ⟨by decide, by decide⟩ 0 rfl rfl [0, 1, 2, 3, 4, 5, 6, 7, 8, 9, 10, 11] [] (wr := []) rfl (by decide) rfl (by decide) (by decide) rfl rfl (Nat.le_of_ble_eq_true rfl) dX10_page_11 ?_
  rintro _ _ ⟨ro2_11, pi2_11, lr2_11, ls2_11, rfl, rfl, ht_11⟩
  show gg E _ 2 X 0 0 14 [some (.ref h), some (.int (nI P))] [] [gO h 10 (tF ad (upd (upd (upd iv 0 (nI cnt)) 5 (nI nr)) 31 (nI ((pgA bs bk (soF (ioF ms sk pt cnt P) co sn) (fun s => mkN sk pt P s cnt) nr).length)))), gA E (ad 1) 10 ms, gA E (ad 2) 10 sk, gA E (ad 3) 80 pt, gA E (ad 4) 8 ro2_11, gA E (ad 8) 12 ts, gA E (ad 9) 12 tk, gA E (ad 10) 13 fr, gA E (ad 11) 620 sp, gA E (ad 16) 620 pi2_11, gA E (ad 29) 12 lr2_11, gA E (ad 30) 12 ls2_11]
  refine g_aload_n C dX10_page_14 rfl ?_
  refine g_get C i_X10 0 31 f_240 rfl rfl (by decide) rfl rfl dX10_page_15 ?_
  exact g_iret C Rt dX10_page_18 (by decide) (by decide) (⟨_, _, _, _, rfl, rfl, ht_11⟩)

abbrev rm_c_X10_page_bad : Room := { frames := 4, cells := 0, slots := 0, locals := 100 }
set_option maxHeartbeats 4000000 in
set_option maxRecDepth 100000 in
theorem c_X10_page_bad (E : gE) (h : Nat) (ad : Nat → Nat) (iv : Nat → Int32) (p : Int32) (hb : p < 0 ∨ nI 7 < p) : MM E yX10_page wsX10_page rm_c_X10_page_bad [.ref h, .int p] [gO h 10 (tF ad iv)] (fun rv_ ru_ => rv_ = some (.int (-1)) ∧ ru_ = [gO h 10 (tF ad iv)]) := by
  refine MM.ofG (cc := cX10_page) (maxL := 2) (ret := (some .int)) (by decide) rfl (Nat.le_of_ble_eq_true rfl) (ll := [some (.ref h), some (.int p)]) rfl ?_
  intro X C Rt
  have C : gx E X cX10_page 2 wsX10_page RX10 := C
  refine g_iload_n C dX10_page_0 rfl ?_
  refine g_callS C (c_X10_isPupil E p ) gX10_page_X10_isPupil rfl 1 (by decide +kernel) ⟨by decide, by decide⟩ ⟨by decide, by decide⟩ [] [0] (wr := [gO h 10 (tF ad iv)]) rfl (by decide) rfl (by decide) (by decide) rfl rfl (Nat.le_of_ble_eq_true rfl) dX10_page_1 ?_
  rintro _ _ ⟨rfl, rfl⟩
  show gg E _ 2 X 0 0 4 [some (.ref h), some (.int p)] [.int (b2i (decide (¬ p < nI 0 ∧ ¬ nI 7 < p)))] [gO h 10 (tF ad iv)]
  refine g_if_ne (tgt := 9) C dX10_page_4 (by decide) (fun c4 => ?_) (fun c4 => ?_)
  · exact (have q := of_decide_eq_true (b2i_t.mp c4); hb.elim (fun z => absurd z q.1) (fun z => absurd z q.2))
  · refine g_iconst (v := -1) C dX10_page_7 (by decide) ?_
    exact g_iret C Rt dX10_page_8 (by decide) (by decide) (⟨rfl, rfl⟩)

