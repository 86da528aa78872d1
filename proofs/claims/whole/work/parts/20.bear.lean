/-! bears, bearersOf; borne -/

abbrev rm_c_X9_bears : Room := { frames := 4, cells := 0, slots := 0, locals := 90 }
set_option maxHeartbeats 4000000 in
set_option maxRecDepth 100000 in
theorem c_X9_bears (E : gE) (m f0 f1 f2 f3 f4 f5 f6 f7 f8 f9 f10 : Nat) (a0 a1 a2 a3 a4 : Nat) (cnt : Nat) (ms sk pt md ri : Nat → Int32) (jb jh : Nat) (jp : Nat → Int32) (k0 k1 k2 k3 nr us : Nat) (bs bk st co : Nat → Int32) (tr : Nat → Int32) (sn : Nat → Nat) (P s r M : Nat) (hcnt : cnt ≤ 10) (hP : P < 8) (hS : s < 5) (hms : okM ms cnt) (hmd : md s = meV ms sk pt cnt s) (hr : r < nr) (hnr : nr ≤ 12) (hst : ∀ q, q ≤ nr → st q = nI (sn q)) (hok : okB nr sn co) (hM : M < 1024) : MM E yX9_bears wsX9_bears rm_c_X9_bears [.ref m, .int (nI P), .int (nI s), .int (nI r), .int (nI M)] [gO m 9 [.ref f0, .ref f1, .ref f2, .ref f3, .ref f4, .ref f5, .ref f6, .ref f7, .ref f8, .ref f9, .ref f10], gO f0 3 [.ref a0, .ref a1, .ref a2, .ref a3, .ref a4, .int (nI cnt)], gA E a0 10 ms, gA E a1 10 sk, gA E a2 80 pt, gA E a3 5 md, gA E a4 8 ri, gO f3 0 [.ref jb, .int (nI jh)], gA E jb 32 jp, gO f10 4 [.ref k0, .ref k1, .ref k2, .ref k3, .int (nI nr), .int (nI us)], gA E k0 12 bs, gA E k1 12 bk, gA E k2 13 st, gA E k3 600 co, gA E f8 5 tr] (fun rv_ ru_ => ∃ (jh2 : Nat) (jp2 tr2 : Nat → Int32), rv_ = some (.int (b2i (beF ms sk pt cnt P s co sn r M))) ∧ ru_ = [gO m 9 [.ref f0, .ref f1, .ref f2, .ref f3, .ref f4, .ref f5, .ref f6, .ref f7, .ref f8, .ref f9, .ref f10], gO f0 3 [.ref a0, .ref a1, .ref a2, .ref a3, .ref a4, .int (nI cnt)], gA E a0 10 ms, gA E a1 10 sk, gA E a2 80 pt, gA E a3 5 md, gA E a4 8 ri, gO f3 0 [.ref jb, .int (nI jh2)], gA E jb 32 jp2, gO f10 4 [.ref k0, .ref k1, .ref k2, .ref k3, .int (nI nr), .int (nI us)], gA E k0 12 bs, gA E k1 12 bk, gA E k2 13 st, gA E k3 600 co, gA E f8 5 tr2]) := by
  refine MM.ofG (cc := cX9_bears) (maxL := 5) (ret := (some .boolean)) (by decide) rfl (Nat.le_of_ble_eq_true rfl) (ll := [some (.ref m), some (.int (nI P)), some (.int (nI s)), some (.int (nI r)), some (.int (nI M))]) rfl ?_
  intro X C Rt
  have C : gx E X cX9_bears 5 wsX9_bears RX9 := C
  have i_X9 : ∀ w ∈ u_ws RX9 TX9 11, w ∈ wsX9_bears := by decide +kernel
  have f_12 : Cond.fieldLink RX9 12 "MarkPages" "papers" "LMarkPages$Papers;" ∈ wsX9_bears := by decide +kernel
  have f_33 : Cond.fieldLink RX9 33 "MarkPages" "judge" "LMarkPages$Judge;" ∈ wsX9_bears := by decide +kernel
  have f_60 : Cond.fieldLink RX9 60 "MarkPages" "trial" "[I" ∈ wsX9_bears := by decide +kernel
  have f_74 : Cond.fieldLink RX9 74 "MarkPages" "book" "LMarkPages$RuleBook;" ∈ wsX9_bears := by decide +kernel
  refine g_aload_n C dX9_bears_0 rfl ?_
  refine g_get C i_X9 0 0 f_12 rfl rfl (by decide) rfl rfl dX9_bears_1 ?_
  refine g_iload_n C dX9_bears_4 rfl ?_
  refine g_iload_n C dX9_bears_5 rfl ?_
  refine g_iload C dX9_bears_6 rfl ?_
  refine g_aload_n C dX9_bears_8 rfl ?_
  refine g_get C i_X9 0 8 f_60 rfl rfl (by decide) rfl rfl dX9_bears_9 ?_
  refine g_callV C (c_X3_measure E f0 a0 a1 a2 a3 a4 cnt ms sk pt md ri f8 tr P s M (by omega) (by omega) (by omega) (by omega) (hms)) gX9_bears_X3_measure rfl 4 (by decide +kernel) ⟨by decide, by decide⟩ ⟨by decide, by decide⟩ 1 rfl rfl [1, 2, 3, 4, 5, 6, 14] [0, 7, 8, 9, 10, 11, 12, 13] (wr := [gO m 9 [.ref f0, .ref f1, .ref f2, .ref f3, .ref f4, .ref f5, .ref f6, .ref f7, .ref f8, .ref f9, .ref f10], gO f3 0 [.ref jb, .int (nI jh)], gA E jb 32 jp, gO f10 4 [.ref k0, .ref k1, .ref k2, .ref k3, .int (nI nr), .int (nI us)], gA E k0 12 bs, gA E k1 12 bk, gA E k2 13 st, gA E k3 600 co]) rfl (by decide) rfl (by decide) (by decide) rfl rfl (Nat.le_of_ble_eq_true rfl) dX9_bears_12 ?_
  rintro _ _ ⟨rfl, rfl⟩
  refine gg.perm (ws' := [gO m 9 [.ref f0, .ref f1, .ref f2, .ref f3, .ref f4, .ref f5, .ref f6, .ref f7, .ref f8, .ref f9, .ref f10], gO f0 3 [.ref a0, .ref a1, .ref a2, .ref a3, .ref a4, .int (nI cnt)], gA E a0 10 ms, gA E a1 10 sk, gA E a2 80 pt, gA E a3 5 md, gA E a4 8 ri, gO f3 0 [.ref jb, .int (nI jh)], gA E jb 32 jp, gO f10 4 [.ref k0, .ref k1, .ref k2, .ref k3, .int (nI nr), .int (nI us)], gA E k0 12 bs, gA E k1 12 bk, gA E k2 13 st, gA E k3 600 co, gA E f8 5 (msr tr (nI (bcN M 10)) (shV ms pt P M cnt) (nI (miN pt P M cnt)) (shV ms pt P (laS M cnt) cnt) (md s))]) [0, 8, 9, 10, 11, 12, 13, 1, 2, 3, 4, 5, 6, 7, 14] (by decide) rfl ?_
  show gg E _ 5 X 0 0 15 [some (.ref m), some (.int (nI P)), some (.int (nI s)), some (.int (nI r)), some (.int (nI M))] [] [gO m 9 [.ref f0, .ref f1, .ref f2, .ref f3, .ref f4, .ref f5, .ref f6, .ref f7, .ref f8, .ref f9, .ref f10], gO f0 3 [.ref a0, .ref a1, .ref a2, .ref a3, .ref a4, .int (nI cnt)], gA E a0 10 ms, gA E a1 10 sk, gA E a2 80 pt, gA E a3 5 md, gA E a4 8 ri, gO f3 0 [.ref jb, .int (nI jh)], gA E jb 32 jp, gO f10 4 [.ref k0, .ref k1, .ref k2, .ref k3, .int (nI nr), .int (nI us)], gA E k0 12 bs, gA E k1 12 bk, gA E k2 13 st, gA E k3 600 co, gA E f8 5 (msr tr (nI (bcN M 10)) (shV ms pt P M cnt) (nI (miN pt P M cnt)) (shV ms pt P (laS M cnt) cnt) (md s))]
  refine g_aload_n C dX9_bears_15 rfl ?_
  refine g_get C i_X9 0 3 f_33 rfl rfl (by decide) rfl rfl dX9_bears_16 ?_
  refine g_aload_n C dX9_bears_19 rfl ?_
  refine g_get C i_X9 0 10 f_74 rfl rfl (by decide) rfl rfl dX9_bears_20 ?_
  refine g_iload_n C dX9_bears_23 rfl ?_
  refine g_aload_n C dX9_bears_24 rfl ?_
  refine g_get C i_X9 0 8 f_60 rfl rfl (by decide) rfl rfl dX9_bears_25 ?_
  refine g_callV C (c_X0_isSo E f3 jb jh jp f10 k0 k1 k2 k3 nr us bs bk st co f8 (msr tr (nI (bcN M 10)) (shV ms pt P M cnt) (nI (miN pt P M cnt)) (shV ms pt P (laS M cnt) cnt) (md s)) r (sn r) (sn (r + 1) - sn r) (by omega) (hst r (by omega)) (by rw [hst (r + 1) (by omega), show sn r + (sn (r + 1) - sn r) = sn (r + 1) by have := (hok.1 r hr).1; omega]) (by have := (hok.1 r hr).1; have := hok.mono (Nat.le_refl nr) (show r + 1 ≤ nr by omega); have := hok.2; omega) ((hok.1 r hr).2)) gX9_bears_X0_isSo rfl 3 (by decide +kernel) ⟨by decide, by decide⟩ ⟨by decide, by decide⟩ 7 rfl rfl [7, 8, 9, 10, 11, 12, 13, 14] [0, 1, 2, 3, 4, 5, 6] (wr := [gO m 9 [.ref f0, .ref f1, .ref f2, .ref f3, .ref f4, .ref f5, .ref f6, .ref f7, .ref f8, .ref f9, .ref f10], gO f0 3 [.ref a0, .ref a1, .ref a2, .ref a3, .ref a4, .int (nI cnt)], gA E a0 10 ms, gA E a1 10 sk, gA E a2 80 pt, gA E a3 5 md, gA E a4 8 ri]) rfl (by decide) rfl (by decide) (by decide) rfl rfl (Nat.le_of_ble_eq_true rfl) dX9_bears_28 ?_
  rintro _ _ ⟨hh2_28, pi2_28, rfl, rfl⟩
  show gg E _ 5 X 0 0 31 [some (.ref m), some (.int (nI P)), some (.int (nI s)), some (.int (nI r)), some (.int (nI M))] [.int (b2i (decide (¬ jV (msr tr (nI (bcN M 10)) (shV ms pt P M cnt) (nI (miN pt P M cnt)) (shV ms pt P (laS M cnt) cnt) (md s)) co (sn r) (sn (r + 1) - sn r) = 0)))] [gO m 9 [.ref f0, .ref f1, .ref f2, .ref f3, .ref f4, .ref f5, .ref f6, .ref f7, .ref f8, .ref f9, .ref f10], gO f0 3 [.ref a0, .ref a1, .ref a2, .ref a3, .ref a4, .int (nI cnt)], gA E a0 10 ms, gA E a1 10 sk, gA E a2 80 pt, gA E a3 5 md, gA E a4 8 ri, gO f3 0 [.ref jb, .int (nI hh2_28)], gA E jb 32 pi2_28, gO f10 4 [.ref k0, .ref k1, .ref k2, .ref k3, .int (nI nr), .int (nI us)], gA E k0 12 bs, gA E k1 12 bk, gA E k2 13 st, gA E k3 600 co, gA E f8 5 (msr tr (nI (bcN M 10)) (shV ms pt P M cnt) (nI (miN pt P M cnt)) (shV ms pt P (laS M cnt) cnt) (md s))]
  exact g_zret C Rt dX9_bears_31 (by decide) (by decide) (b2i_01 _) (⟨_, _, _, by rw [beF, ← jV_cong (msr_kno (io := tr) (mid := meV ms sk pt cnt s) hms), ← hmd], rfl⟩)

abbrev rm_c_X9_bearersOf : Room := { frames := 5, cells := 0, slots := 0, locals := 114 }
set_option maxHeartbeats 4000000 in
set_option maxRecDepth 100000 in
theorem c_X9_bearersOf (E : gE) (m f0 f1 f2 f3 f4 f5 f6 f7 f8 f9 f10 : Nat) (a0 a1 a2 a3 a4 : Nat) (cnt : Nat) (ms sk pt md ri : Nat → Int32) (jb jh : Nat) (jp : Nat → Int32) (k0 k1 k2 k3 nr us : Nat) (bs bk st co : Nat → Int32) (tr : Nat → Int32) (sn : Nat → Nat) (P s r : Nat) (hcnt : cnt ≤ 10) (hP : P < 8) (hS : s < 5) (hms : okM ms cnt) (hmd : md s = meV ms sk pt cnt s) (hr : r < nr) (hnr : nr ≤ 12) (hst : ∀ q, q ≤ nr → st q = nI (sn q)) (hok : okB nr sn co) : MM E yX9_bearersOf wsX9_bearersOf rm_c_X9_bearersOf [.ref m, .int (nI P), .int (nI s), .int (nI r)] [gO m 9 [.ref f0, .ref f1, .ref f2, .ref f3, .ref f4, .ref f5, .ref f6, .ref f7, .ref f8, .ref f9, .ref f10], gO f0 3 [.ref a0, .ref a1, .ref a2, .ref a3, .ref a4, .int (nI cnt)], gA E a0 10 ms, gA E a1 10 sk, gA E a2 80 pt, gA E a3 5 md, gA E a4 8 ri, gO f3 0 [.ref jb, .int (nI jh)], gA E jb 32 jp, gO f10 4 [.ref k0, .ref k1, .ref k2, .ref k3, .int (nI nr), .int (nI us)], gA E k0 12 bs, gA E k1 12 bk, gA E k2 13 st, gA E k3 600 co, gA E f8 5 tr] (fun rv_ ru_ => ∃ (x jh2 : Nat) (jp2 tr2 : Nat → Int32), rv_ = some (.int (nI x)) ∧ ru_ = [gO m 9 [.ref f0, .ref f1, .ref f2, .ref f3, .ref f4, .ref f5, .ref f6, .ref f7, .ref f8, .ref f9, .ref f10], gO f0 3 [.ref a0, .ref a1, .ref a2, .ref a3, .ref a4, .int (nI cnt)], gA E a0 10 ms, gA E a1 10 sk, gA E a2 80 pt, gA E a3 5 md, gA E a4 8 ri, gO f3 0 [.ref jb, .int (nI jh2)], gA E jb 32 jp2, gO f10 4 [.ref k0, .ref k1, .ref k2, .ref k3, .int (nI nr), .int (nI us)], gA E k0 12 bs, gA E k1 12 bk, gA E k2 13 st, gA E k3 600 co, gA E f8 5 tr2] ∧ (leB (mkN sk pt P s cnt) (beF ms sk pt cnt P s co sn r) x)) := by
  refine MM.ofG (cc := cX9_bearersOf) (maxL := 9) (ret := (some .int)) (by decide) rfl (Nat.le_of_ble_eq_true rfl) (ll := [some (.ref m), some (.int (nI P)), some (.int (nI s)), some (.int (nI r)), none, none, none, none, none]) rfl ?_
  intro X C Rt
  have C : gx E X cX9_bearersOf 9 wsX9_bearersOf RX9 := C
  have i_X9 : ∀ w ∈ u_ws RX9 TX9 11, w ∈ wsX9_bearersOf := by decide +kernel
  have f_12 : Cond.fieldLink RX9 12 "MarkPages" "papers" "LMarkPages$Papers;" ∈ wsX9_bearersOf := by decide +kernel
  have hM := mkN_1024 sk pt P s hcnt
  have hbc := bcN_le (mkN sk pt P s cnt) 10
  refine g_aload_n C dX9_bearersOf_0 rfl ?_
  refine g_get C i_X9 0 0 f_12 rfl rfl (by decide) rfl rfl dX9_bearersOf_1 ?_
  refine g_iload_n C dX9_bearersOf_4 rfl ?_
  refine g_iload_n C dX9_bearersOf_5 rfl ?_
  refine g_callV C (c_X3_markedOf E f0 a0 a1 a2 a3 a4 cnt ms sk pt md ri P s (by omega) (by omega) (by omega)) gX9_bearersOf_X3_markedOf rfl 2 (by decide +kernel) ⟨by decide, by decide⟩ ⟨by decide, by decide⟩ 1 rfl rfl [1, 2, 3, 4, 5, 6] [0, 7, 8, 9, 10, 11, 12, 13, 14] (wr := [gO m 9 [.ref f0, .ref f1, .ref f2, .ref f3, .ref f4, .ref f5, .ref f6, .ref f7, .ref f8, .ref f9, .ref f10], gO f3 0 [.ref jb, .int (nI jh)], gA E jb 32 jp, gO f10 4 [.ref k0, .ref k1, .ref k2, .ref k3, .int (nI nr), .int (nI us)], gA E k0 12 bs, gA E k1 12 bk, gA E k2 13 st, gA E k3 600 co, gA E f8 5 tr]) rfl (by decide) rfl (by decide) (by decide) rfl rfl (Nat.le_of_ble_eq_true rfl) dX9_bearersOf_6 ?_
  rintro _ _ ⟨rfl, rfl⟩
  refine gg.perm (ws' := [gO m 9 [.ref f0, .ref f1, .ref f2, .ref f3, .ref f4, .ref f5, .ref f6, .ref f7, .ref f8, .ref f9, .ref f10], gO f0 3 [.ref a0, .ref a1, .ref a2, .ref a3, .ref a4, .int (nI cnt)], gA E a0 10 ms, gA E a1 10 sk, gA E a2 80 pt, gA E a3 5 md, gA E a4 8 ri, gO f3 0 [.ref jb, .int (nI jh)], gA E jb 32 jp, gO f10 4 [.ref k0, .ref k1, .ref k2, .ref k3, .int (nI nr), .int (nI us)], gA E k0 12 bs, gA E k1 12 bk, gA E k2 13 st, gA E k3 600 co, gA E f8 5 tr]) [0, 9, 10, 11, 12, 13, 14, 1, 2, 3, 4, 5, 6, 7, 8] (by decide) rfl ?_
  show gg E _ 9 X 0 0 9 [some (.ref m), some (.int (nI P)), some (.int (nI s)), some (.int (nI r)), none, none, none, none, none] [.int (nI (mkN sk pt P s cnt))] [gO m 9 [.ref f0, .ref f1, .ref f2, .ref f3, .ref f4, .ref f5, .ref f6, .ref f7, .ref f8, .ref f9, .ref f10], gO f0 3 [.ref a0, .ref a1, .ref a2, .ref a3, .ref a4, .int (nI cnt)], gA E a0 10 ms, gA E a1 10 sk, gA E a2 80 pt, gA E a3 5 md, gA E a4 8 ri, gO f3 0 [.ref jb, .int (nI jh)], gA E jb 32 jp, gO f10 4 [.ref k0, .ref k1, .ref k2, .ref k3, .int (nI nr), .int (nI us)], gA E k0 12 bs, gA E k1 12 bk, gA E k2 13 st, gA E k3 600 co, gA E f8 5 tr]
  refine g_istore C dX9_bearersOf_9 (by decide) rfl (ll' := [some (.ref m), some (.int (nI P)), some (.int (nI s)), some (.int (nI r)), some (.int (nI (mkN sk pt P s cnt))), none, none, none, none]) rfl ?_
  refine g_iload C dX9_bearersOf_11 rfl ?_
  refine g_callS C (c_J6_bitCount_0f7a4 E (mkN sk pt P s cnt) (by omega)) gX9_bearersOf_J6_bitCount_0f7a4 rfl 1 (by decide +kernel) ⟨by decide, by decide⟩ ⟨by decide, by decide⟩ [] [0, 1, 2, 3, 4, 5, 6, 7, 8, 9, 10, 11, 12, 13, 14] (wr := [gO m 9 [.ref f0, .ref f1, .ref f2, .ref f3, .ref f4, .ref f5, .ref f6, .ref f7, .ref f8, .ref f9, .ref f10], gO f0 3 [.ref a0, .ref a1, .ref a2, .ref a3, .ref a4, .int (nI cnt)], gA E a0 10 ms, gA E a1 10 sk, gA E a2 80 pt, gA E a3 5 md, gA E a4 8 ri, gO f3 0 [.ref jb, .int (nI jh)], gA E jb 32 jp, gO f10 4 [.ref k0, .ref k1, .ref k2, .ref k3, .int (nI nr), .int (nI us)], gA E k0 12 bs, gA E k1 12 bk, gA E k2 13 st, gA E k3 600 co, gA E f8 5 tr]) rfl (by decide) rfl (by decide) (by decide) rfl rfl (Nat.le_of_ble_eq_true rfl) dX9_bearersOf_13 ?_
  rintro _ _ ⟨rfl, rfl⟩
  show gg E _ 9 X 0 0 16 [some (.ref m), some (.int (nI P)), some (.int (nI s)), some (.int (nI r)), some (.int (nI (mkN sk pt P s cnt))), none, none, none, none] [.int (nI (bcN (mkN sk pt P s cnt) 10))] [gO m 9 [.ref f0, .ref f1, .ref f2, .ref f3, .ref f4, .ref f5, .ref f6, .ref f7, .ref f8, .ref f9, .ref f10], gO f0 3 [.ref a0, .ref a1, .ref a2, .ref a3, .ref a4, .int (nI cnt)], gA E a0 10 ms, gA E a1 10 sk, gA E a2 80 pt, gA E a3 5 md, gA E a4 8 ri, gO f3 0 [.ref jb, .int (nI jh)], gA E jb 32 jp, gO f10 4 [.ref k0, .ref k1, .ref k2, .ref k3, .int (nI nr), .int (nI us)], gA E k0 12 bs, gA E k1 12 bk, gA E k2 13 st, gA E k3 600 co, gA E f8 5 tr]
  refine g_istore C dX9_bearersOf_16 (by decide) rfl (ll' := [some (.ref m), some (.int (nI P)), some (.int (nI s)), some (.int (nI r)), some (.int (nI (mkN sk pt P s cnt))), some (.int (nI (bcN (mkN sk pt P s cnt) 10))), none, none, none]) rfl ?_
  refine g_iconst (v := nI 1) C dX9_bearersOf_18 (by decide) ?_
  refine g_istore C dX9_bearersOf_19 (by decide) rfl (ll' := [some (.ref m), some (.int (nI P)), some (.int (nI s)), some (.int (nI r)), some (.int (nI (mkN sk pt P s cnt))), some (.int (nI (bcN (mkN sk pt P s cnt) 10))), some (.int (nI 1)), none, none]) rfl ?_
  have L21 : ∀ (n21 : Nat) (sz jh1 : Nat) (jp1 tr1 : Nat → Int32), 11 - sz < n21 → (1 ≤ sz) → (sz ≤ 11) → (∀ y, 0 < y → y &&& mkN sk pt P s cnt = y → (beF ms sk pt cnt P s co sn r) y = true → sz ≤ bcN y 10) → gg E rm_c_X9_bearersOf 9 X 0 0 21 [some (.ref m), some (.int (nI P)), some (.int (nI s)), some (.int (nI r)), some (.int (nI (mkN sk pt P s cnt))), some (.int (nI (bcN (mkN sk pt P s cnt) 10))), some (.int (nI sz)), none, none] [] [gO m 9 [.ref f0, .ref f1, .ref f2, .ref f3, .ref f4, .ref f5, .ref f6, .ref f7, .ref f8, .ref f9, .ref f10], gO f0 3 [.ref a0, .ref a1, .ref a2, .ref a3, .ref a4, .int (nI cnt)], gA E a0 10 ms, gA E a1 10 sk, gA E a2 80 pt, gA E a3 5 md, gA E a4 8 ri, gO f3 0 [.ref jb, .int (nI jh1)], gA E jb 32 jp1, gO f10 4 [.ref k0, .ref k1, .ref k2, .ref k3, .int (nI nr), .int (nI us)], gA E k0 12 bs, gA E k1 12 bk, gA E k2 13 st, gA E k3 600 co, gA E f8 5 tr1] := by
    intro n21
    induction n21 with
    | zero => intro sz jh1 jp1 tr1 hm21; exact absurd hm21 (Nat.not_lt_zero _)
    | succ n21 ih21 =>
      intro sz jh1 jp1 tr1 hm21 h1 h1b h2
      refine g_iload C dX9_bearersOf_21 rfl ?_
      refine g_iload C dX9_bearersOf_23 rfl ?_
      refine g_icmp_gt_n (tgt := 97) C dX9_bearersOf_25 (by decide) (by omega) (by omega) (fun c25 => ?_) (fun c25 => ?_)
      · refine g_iload C dX9_bearersOf_97 rfl ?_
        exact g_iret C Rt dX9_bearersOf_99 (by decide) (by decide) (⟨_, _, _, _, rfl, rfl, Or.inl rfl, fun y h0 hs hb => by
    have q1 := h2 y h0 hs hb
    have q2 := (bc_sub hs 10).1
    omega⟩)
      · refine g_iconst (v := nI 1) C dX9_bearersOf_28 (by decide) ?_
        refine g_istore C dX9_bearersOf_29 (by decide) rfl (ll' := [some (.ref m), some (.int (nI P)), some (.int (nI s)), some (.int (nI r)), some (.int (nI (mkN sk pt P s cnt))), some (.int (nI (bcN (mkN sk pt P s cnt) 10))), some (.int (nI sz)), some (.int (nI 1)), none]) rfl ?_
        have L31 : ∀ (n31 : Nat) (se jh1 : Nat) (jp1 tr1 : Nat → Int32), 1024 - se < n31 → (1 ≤ se) → (se ≤ mkN sk pt P s cnt + 1) → (∀ y, 0 < y → y < se → y &&& mkN sk pt P s cnt = y → bcN y 10 = sz → (beF ms sk pt cnt P s co sn r) y = false) → gg E rm_c_X9_bearersOf 9 X 0 0 31 [some (.ref m), some (.int (nI P)), some (.int (nI s)), some (.int (nI r)), some (.int (nI (mkN sk pt P s cnt))), some (.int (nI (bcN (mkN sk pt P s cnt) 10))), some (.int (nI sz)), some (.int (nI se)), none] [] [gO m 9 [.ref f0, .ref f1, .ref f2, .ref f3, .ref f4, .ref f5, .ref f6, .ref f7, .ref f8, .ref f9, .ref f10], gO f0 3 [.ref a0, .ref a1, .ref a2, .ref a3, .ref a4, .int (nI cnt)], gA E a0 10 ms, gA E a1 10 sk, gA E a2 80 pt, gA E a3 5 md, gA E a4 8 ri, gO f3 0 [.ref jb, .int (nI jh1)], gA E jb 32 jp1, gO f10 4 [.ref k0, .ref k1, .ref k2, .ref k3, .int (nI nr), .int (nI us)], gA E k0 12 bs, gA E k1 12 bk, gA E k2 13 st, gA E k3 600 co, gA E f8 5 tr1] := by
          intro n31
          induction n31 with
          | zero => intro se jh1 jp1 tr1 hm31; exact absurd hm31 (Nat.not_lt_zero _)
          | succ n31 ih31 =>
            intro se jh1 jp1 tr1 hm31 g1 g2 h3
            refine g_iload C dX9_bearersOf_31 rfl ?_
            refine g_iload C dX9_bearersOf_33 rfl ?_
            refine g_icmp_gt_n (tgt := 91) C dX9_bearersOf_35 (by decide) (by omega) (by omega) (fun c35 => ?_) (fun c35 => ?_)
            · refine gg.less (ll' := [some (.ref m), some (.int (nI P)), some (.int (nI s)), some (.int (nI r)), some (.int (nI (mkN sk pt P s cnt))), some (.int (nI (bcN (mkN sk pt P s cnt) 10))), some (.int (nI sz)), none, none]) (by intro i v h; match i, h with | 0, h => exact h | 1, h => exact h | 2, h => exact h | 3, h => exact h | 4, h => exact h | 5, h => exact h | 6, h => exact h | 7, h => exact absurd h (by simp) | 8, h => exact absurd h (by simp) | (i + 9), h => exact absurd h (by simp)) ?_
              refine g_iinc_n (y := 1) C dX9_bearersOf_91 rfl (by decide) (by decide) rfl (ll' := [some (.ref m), some (.int (nI P)), some (.int (nI s)), some (.int (nI r)), some (.int (nI (mkN sk pt P s cnt))), some (.int (nI (bcN (mkN sk pt P s cnt) 10))), some (.int (nI (sz + 1))), none, none]) rfl ?_
              refine g_goto (tgt := 21) C dX9_bearersOf_94 (by decide) ?_
              exact ih21 (sz + 1) jh1 jp1 tr1 (by omega) (by omega) (by omega) (fun y hy hs hb => by
        have q1 := h2 y hy hs hb
        have q2 : y ≤ mkN sk pt P s cnt := by rw [← hs]; exact Nat.and_le_right
        rcases Nat.lt_or_ge sz (bcN y 10) with q | q
        · exact q
        · have := h3 y hy (by omega) hs (by omega)
          rw [hb] at this; cases this)
            · refine g_iload C dX9_bearersOf_38 rfl ?_
              refine g_iload C dX9_bearersOf_40 rfl ?_
              refine g_iconst (v := -1) C dX9_bearersOf_42 (by decide) ?_
              refine g_ixor C dX9_bearersOf_43 ?_
              refine g_iand C dX9_bearersOf_44 ?_
              refine g_if_ne (tgt := 62) C dX9_bearersOf_45 (by decide) (fun c45 => ?_) (fun c45 => ?_)
              · refine g_iconst (v := nI 0) C dX9_bearersOf_62 (by decide) ?_
                refine g_istore C dX9_bearersOf_63 (by decide) rfl (ll' := [some (.ref m), some (.int (nI P)), some (.int (nI s)), some (.int (nI r)), some (.int (nI (mkN sk pt P s cnt))), some (.int (nI (bcN (mkN sk pt P s cnt) 10))), some (.int (nI sz)), some (.int (nI se)), some (.int (nI 0))]) rfl ?_
                refine g_iload C dX9_bearersOf_65 rfl ?_
                refine g_if_eq (tgt := 85) C dX9_bearersOf_67 (by decide) (fun c67 => ?_) (fun c67 => absurd c67 (by decide))
                refine gg.less (ll' := [some (.ref m), some (.int (nI P)), some (.int (nI s)), some (.int (nI r)), some (.int (nI (mkN sk pt P s cnt))), some (.int (nI (bcN (mkN sk pt P s cnt) 10))), some (.int (nI sz)), some (.int (nI se)), none]) (by intro i v h; match i, h with | 0, h => exact h | 1, h => exact h | 2, h => exact h | 3, h => exact h | 4, h => exact h | 5, h => exact h | 6, h => exact h | 7, h => exact h | 8, h => exact absurd h (by simp) | (i + 9), h => exact absurd h (by simp)) ?_
                refine g_iinc_n (y := 1) C dX9_bearersOf_85 rfl (by decide) (by decide) rfl (ll' := [some (.ref m), some (.int (nI P)), some (.int (nI s)), some (.int (nI r)), some (.int (nI (mkN sk pt P s cnt))), some (.int (nI (bcN (mkN sk pt P s cnt) 10))), some (.int (nI sz)), some (.int (nI (se + 1))), none]) rfl ?_
                refine g_goto (tgt := 31) C dX9_bearersOf_88 (by decide) ?_
                exact ih31 (se + 1) jh1 jp1 tr1 (by omega) (by omega) (by omega) (fun y h0 hl hs hb => by
          by_cases e : y = se
          · exact absurd ((sub_iff (by omega)).mpr (e ▸ hs)) c45
          · exact h3 y h0 (by omega) hs hb)
              · refine g_iload C dX9_bearersOf_48 rfl ?_
                refine g_callS C (c_J6_bitCount_0f7a4 E se (by omega)) gX9_bearersOf_J6_bitCount_0f7a4 rfl 1 (by decide +kernel) ⟨by decide, by decide⟩ ⟨by decide, by decide⟩ [] [0, 1, 2, 3, 4, 5, 6, 7, 8, 9, 10, 11, 12, 13, 14] (wr := [gO m 9 [.ref f0, .ref f1, .ref f2, .ref f3, .ref f4, .ref f5, .ref f6, .ref f7, .ref f8, .ref f9, .ref f10], gO f0 3 [.ref a0, .ref a1, .ref a2, .ref a3, .ref a4, .int (nI cnt)], gA E a0 10 ms, gA E a1 10 sk, gA E a2 80 pt, gA E a3 5 md, gA E a4 8 ri, gO f3 0 [.ref jb, .int (nI jh1)], gA E jb 32 jp1, gO f10 4 [.ref k0, .ref k1, .ref k2, .ref k3, .int (nI nr), .int (nI us)], gA E k0 12 bs, gA E k1 12 bk, gA E k2 13 st, gA E k3 600 co, gA E f8 5 tr1]) rfl (by decide) rfl (by decide) (by decide) rfl rfl (Nat.le_of_ble_eq_true rfl) dX9_bearersOf_50 ?_
                rintro _ _ ⟨rfl, rfl⟩
                show gg E _ 9 X 0 0 53 [some (.ref m), some (.int (nI P)), some (.int (nI s)), some (.int (nI r)), some (.int (nI (mkN sk pt P s cnt))), some (.int (nI (bcN (mkN sk pt P s cnt) 10))), some (.int (nI sz)), some (.int (nI se)), none] [.int (nI (bcN se 10))] [gO m 9 [.ref f0, .ref f1, .ref f2, .ref f3, .ref f4, .ref f5, .ref f6, .ref f7, .ref f8, .ref f9, .ref f10], gO f0 3 [.ref a0, .ref a1, .ref a2, .ref a3, .ref a4, .int (nI cnt)], gA E a0 10 ms, gA E a1 10 sk, gA E a2 80 pt, gA E a3 5 md, gA E a4 8 ri, gO f3 0 [.ref jb, .int (nI jh1)], gA E jb 32 jp1, gO f10 4 [.ref k0, .ref k1, .ref k2, .ref k3, .int (nI nr), .int (nI us)], gA E k0 12 bs, gA E k1 12 bk, gA E k2 13 st, gA E k3 600 co, gA E f8 5 tr1]
                refine g_iload C dX9_bearersOf_53 rfl ?_
                refine g_icmp_ne_n (tgt := 62) C dX9_bearersOf_55 (by decide) (by have := bcN_le se 10; omega) (by have := bcN_le se 10; omega) (fun c55 => ?_) (fun c55 => ?_)
                · refine g_iconst (v := nI 0) C dX9_bearersOf_62 (by decide) ?_
                  refine g_istore C dX9_bearersOf_63 (by decide) rfl (ll' := [some (.ref m), some (.int (nI P)), some (.int (nI s)), some (.int (nI r)), some (.int (nI (mkN sk pt P s cnt))), some (.int (nI (bcN (mkN sk pt P s cnt) 10))), some (.int (nI sz)), some (.int (nI se)), some (.int (nI 0))]) rfl ?_
                  refine g_iload C dX9_bearersOf_65 rfl ?_
                  refine g_if_eq (tgt := 85) C dX9_bearersOf_67 (by decide) (fun c67 => ?_) (fun c67 => absurd c67 (by decide))
                  refine gg.less (ll' := [some (.ref m), some (.int (nI P)), some (.int (nI s)), some (.int (nI r)), some (.int (nI (mkN sk pt P s cnt))), some (.int (nI (bcN (mkN sk pt P s cnt) 10))), some (.int (nI sz)), some (.int (nI se)), none]) (by intro i v h; match i, h with | 0, h => exact h | 1, h => exact h | 2, h => exact h | 3, h => exact h | 4, h => exact h | 5, h => exact h | 6, h => exact h | 7, h => exact h | 8, h => exact absurd h (by simp) | (i + 9), h => exact absurd h (by simp)) ?_
                  refine g_iinc_n (y := 1) C dX9_bearersOf_85 rfl (by decide) (by decide) rfl (ll' := [some (.ref m), some (.int (nI P)), some (.int (nI s)), some (.int (nI r)), some (.int (nI (mkN sk pt P s cnt))), some (.int (nI (bcN (mkN sk pt P s cnt) 10))), some (.int (nI sz)), some (.int (nI (se + 1))), none]) rfl ?_
                  refine g_goto (tgt := 31) C dX9_bearersOf_88 (by decide) ?_
                  exact ih31 (se + 1) jh1 jp1 tr1 (by omega) (by omega) (by omega) (fun y h0 hl hs hb => by
          by_cases e : y = se
          · exact absurd (e ▸ hb) c55
          · exact h3 y h0 (by omega) hs hb)
                · have hsub := (sub_iff (show se < 1024 by omega)).mp c45
                  refine g_iconst (v := nI 1) C dX9_bearersOf_58 (by decide) ?_
                  refine g_goto (tgt := 63) C dX9_bearersOf_59 (by decide) ?_
                  refine g_istore C dX9_bearersOf_63 (by decide) rfl (ll' := [some (.ref m), some (.int (nI P)), some (.int (nI s)), some (.int (nI r)), some (.int (nI (mkN sk pt P s cnt))), some (.int (nI (bcN (mkN sk pt P s cnt) 10))), some (.int (nI sz)), some (.int (nI se)), some (.int (nI 1))]) rfl ?_
                  refine g_iload C dX9_bearersOf_65 rfl ?_
                  refine g_if_eq (tgt := 85) C dX9_bearersOf_67 (by decide) (fun c67 => absurd c67 (by decide)) (fun c67 => ?_)
                  refine g_aload_n C dX9_bearersOf_70 rfl ?_
                  refine g_iload_n C dX9_bearersOf_71 rfl ?_
                  refine g_iload_n C dX9_bearersOf_72 rfl ?_
                  refine g_iload_n C dX9_bearersOf_73 rfl ?_
                  refine g_iload C dX9_bearersOf_74 rfl ?_
                  refine g_callV C (c_X9_bears E m f0 f1 f2 f3 f4 f5 f6 f7 f8 f9 f10 a0 a1 a2 a3 a4 cnt ms sk pt md ri jb jh1 jp1 k0 k1 k2 k3 nr us bs bk st co tr1 sn P s r se (by omega) (by omega) (by omega) (hms) (hmd) (by omega) (by omega) (hst) (hok) (by omega)) gX9_bearersOf_X9_bears rfl 4 (by decide +kernel) ⟨by decide, by decide⟩ ⟨by decide, by decide⟩ 0 rfl rfl [0, 1, 2, 3, 4, 5, 6, 7, 8, 9, 10, 11, 12, 13, 14] [] (wr := []) rfl (by decide) rfl (by decide) (by decide) rfl rfl (Nat.le_of_ble_eq_true rfl) dX9_bearersOf_76 ?_
                  rintro _ _ ⟨jh2_76, jp2_76, tr2_76, rfl, rfl⟩
                  show gg E _ 9 X 0 0 79 [some (.ref m), some (.int (nI P)), some (.int (nI s)), some (.int (nI r)), some (.int (nI (mkN sk pt P s cnt))), some (.int (nI (bcN (mkN sk pt P s cnt) 10))), some (.int (nI sz)), some (.int (nI se)), some (.int (nI 1))] [.int (b2i (beF ms sk pt cnt P s co sn r se))] [gO m 9 [.ref f0, .ref f1, .ref f2, .ref f3, .ref f4, .ref f5, .ref f6, .ref f7, .ref f8, .ref f9, .ref f10], gO f0 3 [.ref a0, .ref a1, .ref a2, .ref a3, .ref a4, .int (nI cnt)], gA E a0 10 ms, gA E a1 10 sk, gA E a2 80 pt, gA E a3 5 md, gA E a4 8 ri, gO f3 0 [.ref jb, .int (nI jh2_76)], gA E jb 32 jp2_76, gO f10 4 [.ref k0, .ref k1, .ref k2, .ref k3, .int (nI nr), .int (nI us)], gA E k0 12 bs, gA E k1 12 bk, gA E k2 13 st, gA E k3 600 co, gA E f8 5 tr2_76]
                  refine g_if_eq (tgt := 85) C dX9_bearersOf_79 (by decide) (fun c79 => ?_) (fun c79 => ?_)
                  · refine gg.less (ll' := [some (.ref m), some (.int (nI P)), some (.int (nI s)), some (.int (nI r)), some (.int (nI (mkN sk pt P s cnt))), some (.int (nI (bcN (mkN sk pt P s cnt) 10))), some (.int (nI sz)), some (.int (nI se)), none]) (by intro i v h; match i, h with | 0, h => exact h | 1, h => exact h | 2, h => exact h | 3, h => exact h | 4, h => exact h | 5, h => exact h | 6, h => exact h | 7, h => exact h | 8, h => exact absurd h (by simp) | (i + 9), h => exact absurd h (by simp)) ?_
                    refine g_iinc_n (y := 1) C dX9_bearersOf_85 rfl (by decide) (by decide) rfl (ll' := [some (.ref m), some (.int (nI P)), some (.int (nI s)), some (.int (nI r)), some (.int (nI (mkN sk pt P s cnt))), some (.int (nI (bcN (mkN sk pt P s cnt) 10))), some (.int (nI sz)), some (.int (nI (se + 1))), none]) rfl ?_
                    refine g_goto (tgt := 31) C dX9_bearersOf_88 (by decide) ?_
                    exact ih31 (se + 1) jh2_76 jp2_76 tr2_76 (by omega) (by omega) (by omega) (fun y h0 hl hs hb => by
          by_cases e : y = se
          · rw [e]; exact b2i_f.mp c79
          · exact h3 y h0 (by omega) hs hb)
                  · refine g_iload C dX9_bearersOf_82 rfl ?_
                    exact g_iret C Rt dX9_bearersOf_84 (by decide) (by decide) (⟨_, _, _, _, rfl, rfl, Or.inr ⟨by omega, hsub, b2i_t.mp c79⟩, fun y h0 hs hb hk => by
    have q1 := h2 y h0 hs hb
    rcases hk with q | ⟨q, q2⟩
    · omega
    · have := h3 y h0 q2 hs (by omega)
      rw [hb] at this; cases this⟩)
        exact L31 _ 1 jh1 jp1 tr1 (Nat.lt_succ_self _) (by omega) (by omega) (fun y h0 h1 => by omega)
  exact L21 _ 1 jh jp tr (Nat.lt_succ_self _) (by omega) (by omega) (fun y hy hs hb => Nat.pos_of_ne_zero (fun z => absurd ((bcN_0 y (sub_lt hM hs)).mp z) (by omega)))

theorem kLt_trans {a b c : Nat} (h1 : kLt a b) (h2 : kLt b c) : kLt a c := by
  rw [kLt] at h1 h2 ⊢
  omega

abbrev rm_c_X10_borne : Room := { frames := 3, cells := 0, slots := 0, locals := 76 }
set_option maxHeartbeats 4000000 in
set_option maxRecDepth 100000 in
theorem c_X10_borne (E : gE) (h : Nat) (ad : Nat → Nat) (iv : Nat → Int32) (cnt : Nat) (ms sk pt ro fr sp pi lr ls co : Nat → Int32) (sn : Nat → Nat) (L : List (Nat × Nat)) (nr P i : Nat) (hcnt : cnt ≤ 10) (hP : P < 8) (hms : okM ms cnt) (hnr : nr ≤ 12) (hst : ∀ q, q ≤ nr → fr q = nI (sn q)) (hok : okB nr sn co) (hsp : ∀ i, i < sn nr → sp i = trJ (co i)) (hin : pgIn nr L) (htg : tgR L lr ls) (hL : L.length ≤ 12) (hi : i < L.length) : MM E yX10_borne wsX10_borne rm_c_X10_borne [.ref h, .int (nI P), .int (nI i)] [gO h 10 (tF ad (upd iv 0 (nI cnt))), gA E (ad 1) 10 ms, gA E (ad 2) 10 sk, gA E (ad 3) 80 pt, gA E (ad 4) 8 ro, gA E (ad 10) 13 fr, gA E (ad 11) 620 sp, gA E (ad 16) 620 pi, gA E (ad 29) 12 lr, gA E (ad 30) 12 ls] (fun rv_ ru_ => ∃ (x : Nat) (ro2 pi2 : Nat → Int32), rv_ = some (.int (nI x)) ∧ ru_ = [gO h 10 (tF ad (upd iv 0 (nI cnt))), gA E (ad 1) 10 ms, gA E (ad 2) 10 sk, gA E (ad 3) 80 pt, gA E (ad 4) 8 ro2, gA E (ad 10) 13 fr, gA E (ad 11) 620 sp, gA E (ad 16) 620 pi2, gA E (ad 29) 12 lr, gA E (ad 30) 12 ls] ∧ (leB (mkN sk pt P (L.getD i (0, 0)).2 cnt) (beF ms sk pt cnt P (L.getD i (0, 0)).2 co sn (L.getD i (0, 0)).1) x)) := by
  refine MM.ofG (cc := cX10_borne) (maxL := 7) (ret := (some .int)) (by decide) rfl (Nat.le_of_ble_eq_true rfl) (ll := [some (.ref h), some (.int (nI P)), some (.int (nI i)), none, none, none, none]) rfl ?_
  intro X C Rt
  have C : gx E X cX10_borne 7 wsX10_borne RX10 := C
  have i_X10 : ∀ w ∈ u_ws RX10 TX10 40, w ∈ wsX10_borne := by decide +kernel
  have f_56 : Cond.fieldLink RX10 56 "MarkPagesModel" "lineRule" "[I" ∈ wsX10_borne := by decide +kernel
  have f_59 : Cond.fieldLink RX10 59 "MarkPagesModel" "lineSkill" "[I" ∈ wsX10_borne := by decide +kernel
  have f_87 : Cond.fieldLink RX10 87 "MarkPagesModel" "questions" "I" ∈ wsX10_borne := by decide +kernel
  have hq := hin.at hi
  have hM := mkN_1024 sk pt P (L.getD i (0, 0)).2 hcnt
  have hMl := mkN_lt sk pt P (L.getD i (0, 0)).2 cnt
  have hpw := pw_le hcnt
  refine g_aload_n C dX10_borne_0 rfl ?_
  refine g_iload_n C dX10_borne_1 rfl ?_
  refine g_aload_n C dX10_borne_2 rfl ?_
  refine g_get C i_X10 0 30 f_59 rfl rfl (by decide) rfl rfl dX10_borne_3 ?_
  refine g_iload_n C dX10_borne_6 rfl ?_
  refine g_iald C 9 i rfl rfl (by omega) (by decide) dX10_borne_7 ?_
  refine g_top ((htg i hi).2) ?_
  refine g_callV C (c_X10_markedOf E h ad iv cnt sk pt P ((L.getD i (0, 0)).2) (by omega) (by omega) (by omega)) gX10_borne_X10_markedOf rfl 2 (by decide +kernel) ⟨by decide, by decide⟩ ⟨by decide, by decide⟩ 0 rfl rfl [0, 2, 3] [1, 4, 5, 6, 7, 8, 9] (wr := [gA E (ad 1) 10 ms, gA E (ad 4) 8 ro, gA E (ad 10) 13 fr, gA E (ad 11) 620 sp, gA E (ad 16) 620 pi, gA E (ad 29) 12 lr, gA E (ad 30) 12 ls]) rfl (by decide) rfl (by decide) (by decide) rfl rfl (Nat.le_of_ble_eq_true rfl) dX10_borne_8 ?_
  rintro _ _ ⟨rfl, rfl⟩
  refine gg.perm (ws' := [gO h 10 (tF ad (upd iv 0 (nI cnt))), gA E (ad 1) 10 ms, gA E (ad 2) 10 sk, gA E (ad 3) 80 pt, gA E (ad 4) 8 ro, gA E (ad 10) 13 fr, gA E (ad 11) 620 sp, gA E (ad 16) 620 pi, gA E (ad 29) 12 lr, gA E (ad 30) 12 ls]) [7, 0, 8, 9, 1, 2, 3, 4, 5, 6] (by decide) rfl ?_
  show gg E _ 7 X 0 0 11 [some (.ref h), some (.int (nI P)), some (.int (nI i)), none, none, none, none] [.int (nI (mkN sk pt P ((L.getD i (0, 0)).2) cnt))] [gO h 10 (tF ad (upd iv 0 (nI cnt))), gA E (ad 1) 10 ms, gA E (ad 2) 10 sk, gA E (ad 3) 80 pt, gA E (ad 4) 8 ro, gA E (ad 10) 13 fr, gA E (ad 11) 620 sp, gA E (ad 16) 620 pi, gA E (ad 29) 12 lr, gA E (ad 30) 12 ls]
  refine g_istore_n C dX10_borne_11 (by decide) rfl (ll' := [some (.ref h), some (.int (nI P)), some (.int (nI i)), some (.int (nI (mkN sk pt P ((L.getD i (0, 0)).2) cnt))), none, none, none]) rfl ?_
  refine g_aload_n C dX10_borne_12 rfl ?_
  refine g_aload_n C dX10_borne_13 rfl ?_
  refine g_get C i_X10 0 30 f_59 rfl rfl (by decide) rfl rfl dX10_borne_14 ?_
  refine g_iload_n C dX10_borne_17 rfl ?_
  refine g_iald C 9 i rfl rfl (by omega) (by decide) dX10_borne_18 ?_
  refine g_top ((htg i hi).2) ?_
  refine g_callV C (c_X10_classOf E h ad iv cnt ms sk pt ro ((L.getD i (0, 0)).2) (by omega) (by omega)) gX10_borne_X10_classOf rfl 1 (by decide +kernel) ⟨by decide, by decide⟩ ⟨by decide, by decide⟩ 0 rfl rfl [0, 1, 2, 3, 4] [5, 6, 7, 8, 9] (wr := [gA E (ad 10) 13 fr, gA E (ad 11) 620 sp, gA E (ad 16) 620 pi, gA E (ad 29) 12 lr, gA E (ad 30) 12 ls]) rfl (by decide) rfl (by decide) (by decide) rfl rfl (Nat.le_of_ble_eq_true rfl) dX10_borne_19 ?_
  rintro _ _ ⟨ri2_19, rfl, rfl⟩
  refine gg.perm (ws' := [gO h 10 (tF ad (upd iv 0 (nI cnt))), gA E (ad 1) 10 ms, gA E (ad 2) 10 sk, gA E (ad 3) 80 pt, gA E (ad 4) 8 ri2_19, gA E (ad 10) 13 fr, gA E (ad 11) 620 sp, gA E (ad 16) 620 pi, gA E (ad 29) 12 lr, gA E (ad 30) 12 ls]) [5, 6, 7, 8, 9, 0, 1, 2, 3, 4] (by decide) rfl ?_
  show gg E _ 7 X 0 0 22 [some (.ref h), some (.int (nI P)), some (.int (nI i)), some (.int (nI (mkN sk pt P ((L.getD i (0, 0)).2) cnt))), none, none, none] [.int (meV ms sk pt cnt ((L.getD i (0, 0)).2))] [gO h 10 (tF ad (upd iv 0 (nI cnt))), gA E (ad 1) 10 ms, gA E (ad 2) 10 sk, gA E (ad 3) 80 pt, gA E (ad 4) 8 ri2_19, gA E (ad 10) 13 fr, gA E (ad 11) 620 sp, gA E (ad 16) 620 pi, gA E (ad 29) 12 lr, gA E (ad 30) 12 ls]
  refine g_istore C dX10_borne_22 (by decide) rfl (ll' := [some (.ref h), some (.int (nI P)), some (.int (nI i)), some (.int (nI (mkN sk pt P ((L.getD i (0, 0)).2) cnt))), some (.int (meV ms sk pt cnt ((L.getD i (0, 0)).2))), none, none]) rfl ?_
  refine g_iload_n C dX10_borne_24 rfl ?_
  refine g_istore C dX10_borne_25 (by decide) rfl (ll' := [some (.ref h), some (.int (nI P)), some (.int (nI i)), some (.int (nI (mkN sk pt P ((L.getD i (0, 0)).2) cnt))), some (.int (meV ms sk pt cnt ((L.getD i (0, 0)).2))), some (.int (nI (mkN sk pt P ((L.getD i (0, 0)).2) cnt))), none]) rfl ?_
  refine g_iconst (v := nI 1) C dX10_borne_27 (by decide) ?_
  refine g_istore C dX10_borne_28 (by decide) rfl (ll' := [some (.ref h), some (.int (nI P)), some (.int (nI i)), some (.int (nI (mkN sk pt P ((L.getD i (0, 0)).2) cnt))), some (.int (meV ms sk pt cnt ((L.getD i (0, 0)).2))), some (.int (nI (mkN sk pt P ((L.getD i (0, 0)).2) cnt))), some (.int (nI 1))]) rfl ?_
  have L30 : ∀ (n30 : Nat) (be_ se : Nat) (pi1 : Nat → Int32), 1024 - se < n30 → (1 ≤ se) → (se ≤ 1024) → (be_ < 1024) → (be_ = mkN sk pt P (L.getD i (0, 0)).2 cnt ∨ (0 < be_ ∧ be_ &&& mkN sk pt P (L.getD i (0, 0)).2 cnt = be_ ∧ (beF ms sk pt cnt P (L.getD i (0, 0)).2 co sn (L.getD i (0, 0)).1) be_ = true)) → (∀ y, 0 < y → y < se → y &&& mkN sk pt P (L.getD i (0, 0)).2 cnt = y → (beF ms sk pt cnt P (L.getD i (0, 0)).2 co sn (L.getD i (0, 0)).1) y = true → ¬ kLt y be_) → gg E rm_c_X10_borne 7 X 0 0 30 [some (.ref h), some (.int (nI P)), some (.int (nI i)), some (.int (nI (mkN sk pt P (L.getD i (0, 0)).2 cnt))), some (.int (meV ms sk pt cnt (L.getD i (0, 0)).2)), some (.int (nI be_)), some (.int (nI se))] [] [gO h 10 (tF ad (upd iv 0 (nI cnt))), gA E (ad 1) 10 ms, gA E (ad 2) 10 sk, gA E (ad 3) 80 pt, gA E (ad 4) 8 ri2_19, gA E (ad 10) 13 fr, gA E (ad 11) 620 sp, gA E (ad 16) 620 pi1, gA E (ad 29) 12 lr, gA E (ad 30) 12 ls] := by
    intro n30
    induction n30 with
    | zero => intro be_ se pi1 hm30; exact absurd hm30 (Nat.not_lt_zero _)
    | succ n30 ih30 =>
      intro be_ se pi1 hm30 g1 g2 gb h3 h4
      refine g_iload C dX10_borne_30 rfl ?_
      refine g_iconst (v := nI 1) C dX10_borne_32 (by decide) ?_
      refine g_aload_n C dX10_borne_33 rfl ?_
      refine g_get C i_X10 0 0 f_87 rfl rfl (by decide) rfl rfl dX10_borne_34 ?_
      refine g_ishl_n C dX10_borne_37 (by omega) (by omega) ?_
      refine g_icmp_ge_n (tgt := 111) C dX10_borne_38 (by decide) (by omega) (by omega) (fun c38 => ?_) (fun c38 => ?_)
      · refine g_iload C dX10_borne_111 rfl ?_
        exact g_iret C Rt dX10_borne_113 (by decide) (by decide) (⟨_, _, _, rfl, rfl, h3, fun y h0 hs hb => h4 y h0 (by have : y ≤ mkN sk pt P (L.getD i (0, 0)).2 cnt := (by rw [← hs]; exact Nat.and_le_right); omega) hs hb⟩)
      · refine g_iload C dX10_borne_41 rfl ?_
        refine g_iload_n C dX10_borne_43 rfl ?_
        refine g_iconst (v := -1) C dX10_borne_44 (by decide) ?_
        refine g_ixor C dX10_borne_45 ?_
        refine g_iand C dX10_borne_46 ?_
        refine g_if_ne (tgt := 105) C dX10_borne_47 (by decide) (fun c47 => ?_) (fun c47 => ?_)
        · refine g_iinc_n (y := 1) C dX10_borne_105 rfl (by decide) (by decide) rfl (ll' := [some (.ref h), some (.int (nI P)), some (.int (nI i)), some (.int (nI (mkN sk pt P (L.getD i (0, 0)).2 cnt))), some (.int (meV ms sk pt cnt (L.getD i (0, 0)).2)), some (.int (nI be_)), some (.int (nI (se + 1)))]) rfl ?_
          refine g_goto (tgt := 30) C dX10_borne_108 (by decide) ?_
          exact ih30 be_ (se + 1) pi1 (by omega) (by omega) (by omega) (by omega) (h3) (fun y h0 hl hs hb => by
          by_cases e : y = se
          · exact absurd ((sub_iff (by omega)).mpr (e ▸ hs)) c47
          · exact h4 y h0 (by omega) hs hb)
        · refine g_iload C dX10_borne_50 rfl ?_
          refine g_callS C (c_X10_bits E se (by omega)) gX10_borne_X10_bits rfl 1 (by decide +kernel) ⟨by decide, by decide⟩ ⟨by decide, by decide⟩ [] [0, 1, 2, 3, 4, 5, 6, 7, 8, 9] (wr := [gO h 10 (tF ad (upd iv 0 (nI cnt))), gA E (ad 1) 10 ms, gA E (ad 2) 10 sk, gA E (ad 3) 80 pt, gA E (ad 4) 8 ri2_19, gA E (ad 10) 13 fr, gA E (ad 11) 620 sp, gA E (ad 16) 620 pi1, gA E (ad 29) 12 lr, gA E (ad 30) 12 ls]) rfl (by decide) rfl (by decide) (by decide) rfl rfl (Nat.le_of_ble_eq_true rfl) dX10_borne_52 ?_
          rintro _ _ ⟨rfl, rfl⟩
          show gg E _ 7 X 0 0 55 [some (.ref h), some (.int (nI P)), some (.int (nI i)), some (.int (nI (mkN sk pt P (L.getD i (0, 0)).2 cnt))), some (.int (meV ms sk pt cnt (L.getD i (0, 0)).2)), some (.int (nI be_)), some (.int (nI se))] [.int (nI (bcN se 10))] [gO h 10 (tF ad (upd iv 0 (nI cnt))), gA E (ad 1) 10 ms, gA E (ad 2) 10 sk, gA E (ad 3) 80 pt, gA E (ad 4) 8 ri2_19, gA E (ad 10) 13 fr, gA E (ad 11) 620 sp, gA E (ad 16) 620 pi1, gA E (ad 29) 12 lr, gA E (ad 30) 12 ls]
          refine g_iload C dX10_borne_55 rfl ?_
          refine g_callS C (c_X10_bits E be_ (by omega)) gX10_borne_X10_bits rfl 1 (by decide +kernel) ⟨by decide, by decide⟩ ⟨by decide, by decide⟩ [] [0, 1, 2, 3, 4, 5, 6, 7, 8, 9] (wr := [gO h 10 (tF ad (upd iv 0 (nI cnt))), gA E (ad 1) 10 ms, gA E (ad 2) 10 sk, gA E (ad 3) 80 pt, gA E (ad 4) 8 ri2_19, gA E (ad 10) 13 fr, gA E (ad 11) 620 sp, gA E (ad 16) 620 pi1, gA E (ad 29) 12 lr, gA E (ad 30) 12 ls]) rfl (by decide) rfl (by decide) (by decide) rfl rfl (Nat.le_of_ble_eq_true rfl) dX10_borne_57 ?_
          rintro _ _ ⟨rfl, rfl⟩
          show gg E _ 7 X 0 0 60 [some (.ref h), some (.int (nI P)), some (.int (nI i)), some (.int (nI (mkN sk pt P (L.getD i (0, 0)).2 cnt))), some (.int (meV ms sk pt cnt (L.getD i (0, 0)).2)), some (.int (nI be_)), some (.int (nI se))] [.int (nI (bcN be_ 10)), .int (nI (bcN se 10))] [gO h 10 (tF ad (upd iv 0 (nI cnt))), gA E (ad 1) 10 ms, gA E (ad 2) 10 sk, gA E (ad 3) 80 pt, gA E (ad 4) 8 ri2_19, gA E (ad 10) 13 fr, gA E (ad 11) 620 sp, gA E (ad 16) 620 pi1, gA E (ad 29) 12 lr, gA E (ad 30) 12 ls]
          refine g_icmp_lt_n (tgt := 83) C dX10_borne_60 (by decide) (by have := bcN_le se 10; have := bcN_le be_ 10; omega) (by have := bcN_le se 10; have := bcN_le be_ 10; omega) (fun c60 => ?_) (fun c60 => ?_)
          · refine g_aload_n C dX10_borne_83 rfl ?_
            refine g_aload_n C dX10_borne_84 rfl ?_
            refine g_get C i_X10 0 29 f_56 rfl rfl (by decide) rfl rfl dX10_borne_85 ?_
            refine g_iload_n C dX10_borne_88 rfl ?_
            refine g_iald C 8 i rfl rfl (by omega) (by decide) dX10_borne_89 ?_
            refine g_top ((htg i hi).1) ?_
            refine g_iload_n C dX10_borne_90 rfl ?_
            refine g_iload C dX10_borne_91 rfl ?_
            refine g_iload C dX10_borne_93 rfl ?_
            refine g_callV C (c_X10_isSo E h ad iv cnt ms pt fr sp pi1 co (fun k => kno ms pt P se cnt (meV ms sk pt cnt (L.getD i (0, 0)).2) (k + 1001)) ((L.getD i (0, 0)).1) P se (sn (L.getD i (0, 0)).1) (sn ((L.getD i (0, 0)).1 + 1) - sn (L.getD i (0, 0)).1) (meV ms sk pt cnt (L.getD i (0, 0)).2) (by omega) (by omega) (by omega) (hms) (by omega) (hst _ (by omega)) (by rw [hst ((L.getD i (0, 0)).1 + 1) (by omega), show sn (L.getD i (0, 0)).1 + (sn ((L.getD i (0, 0)).1 + 1) - sn (L.getD i (0, 0)).1) = sn ((L.getD i (0, 0)).1 + 1) by have := (hok.1 _ hq.1).1; omega]) (by have := (hok.1 _ hq.1).1; have := hok.mono (Nat.le_refl nr) (show (L.getD i (0, 0)).1 + 1 ≤ nr by omega); have := hok.2; omega) ((hok.1 _ hq.1).2) (fun i2 hi2 => hsp _ (by have := hok.mono (Nat.le_refl nr) (show (L.getD i (0, 0)).1 + 1 ≤ nr by omega); omega)) (fun k hk => rfl)) gX10_borne_X10_isSo rfl 4 (by decide +kernel) ⟨by decide, by decide⟩ ⟨by decide, by decide⟩ 0 rfl rfl [0, 1, 3, 5, 6, 7] [2, 4, 8, 9] (wr := [gA E (ad 2) 10 sk, gA E (ad 4) 8 ri2_19, gA E (ad 29) 12 lr, gA E (ad 30) 12 ls]) rfl (by decide) rfl (by decide) (by decide) rfl rfl (Nat.le_of_ble_eq_true rfl) dX10_borne_95 ?_
            rintro _ _ ⟨pi2_95, rfl, rfl⟩
            refine gg.perm (ws' := [gO h 10 (tF ad (upd iv 0 (nI cnt))), gA E (ad 1) 10 ms, gA E (ad 2) 10 sk, gA E (ad 3) 80 pt, gA E (ad 4) 8 ri2_19, gA E (ad 10) 13 fr, gA E (ad 11) 620 sp, gA E (ad 16) 620 pi2_95, gA E (ad 29) 12 lr, gA E (ad 30) 12 ls]) [4, 5, 0, 6, 1, 7, 8, 9, 2, 3] (by decide) rfl ?_
            show gg E _ 7 X 0 0 98 [some (.ref h), some (.int (nI P)), some (.int (nI i)), some (.int (nI (mkN sk pt P (L.getD i (0, 0)).2 cnt))), some (.int (meV ms sk pt cnt (L.getD i (0, 0)).2)), some (.int (nI be_)), some (.int (nI se))] [.int (b2i (decide (¬ jV (fun k => kno ms pt P se cnt (meV ms sk pt cnt (L.getD i (0, 0)).2) (k + 1001)) co (sn (L.getD i (0, 0)).1) (sn ((L.getD i (0, 0)).1 + 1) - sn (L.getD i (0, 0)).1) = 0)))] [gO h 10 (tF ad (upd iv 0 (nI cnt))), gA E (ad 1) 10 ms, gA E (ad 2) 10 sk, gA E (ad 3) 80 pt, gA E (ad 4) 8 ri2_19, gA E (ad 10) 13 fr, gA E (ad 11) 620 sp, gA E (ad 16) 620 pi2_95, gA E (ad 29) 12 lr, gA E (ad 30) 12 ls]
            refine g_if_eq (tgt := 105) C dX10_borne_98 (by decide) (fun c98 => ?_) (fun c98 => ?_)
            · refine g_iinc_n (y := 1) C dX10_borne_105 rfl (by decide) (by decide) rfl (ll' := [some (.ref h), some (.int (nI P)), some (.int (nI i)), some (.int (nI (mkN sk pt P (L.getD i (0, 0)).2 cnt))), some (.int (meV ms sk pt cnt (L.getD i (0, 0)).2)), some (.int (nI be_)), some (.int (nI (se + 1)))]) rfl ?_
              refine g_goto (tgt := 30) C dX10_borne_108 (by decide) ?_
              exact ih30 be_ (se + 1) pi2_95 (by omega) (by omega) (by omega) (by omega) (h3) (fun y h0 hl hs hb => by
          by_cases e : y = se
          · exact absurd hb (by rw [e]; exact fun z => by rw [show (beF ms sk pt cnt P (L.getD i (0, 0)).2 co sn (L.getD i (0, 0)).1) se = false from b2i_f.mp c98] at z; cases z)
          · exact h4 y h0 (by omega) hs hb)
            · refine g_iload C dX10_borne_101 rfl ?_
              refine g_istore C dX10_borne_103 (by decide) rfl (ll' := [some (.ref h), some (.int (nI P)), some (.int (nI i)), some (.int (nI (mkN sk pt P (L.getD i (0, 0)).2 cnt))), some (.int (meV ms sk pt cnt (L.getD i (0, 0)).2)), some (.int (nI se)), some (.int (nI se))]) rfl ?_
              refine g_iinc_n (y := 1) C dX10_borne_105 rfl (by decide) (by decide) rfl (ll' := [some (.ref h), some (.int (nI P)), some (.int (nI i)), some (.int (nI (mkN sk pt P (L.getD i (0, 0)).2 cnt))), some (.int (meV ms sk pt cnt (L.getD i (0, 0)).2)), some (.int (nI se)), some (.int (nI (se + 1)))]) rfl ?_
              refine g_goto (tgt := 30) C dX10_borne_108 (by decide) ?_
              exact ih30 se (se + 1) pi2_95 (by omega) (by omega) (by omega) (by omega) (Or.inr ⟨by omega, (sub_iff (by omega)).mp c47, b2i_t.mp c98⟩) (fun y h0 hl hs hb => by
          by_cases e : y = se
          · rw [e]; intro hk; rcases hk with q | q <;> omega
          · exact fun hk => h4 y h0 (by omega) hs hb (kLt_trans hk (Or.inl c60)))
          · refine g_iload C dX10_borne_63 rfl ?_
            refine g_callS C (c_X10_bits E se (by omega)) gX10_borne_X10_bits rfl 1 (by decide +kernel) ⟨by decide, by decide⟩ ⟨by decide, by decide⟩ [] [0, 1, 2, 3, 4, 5, 6, 7, 8, 9] (wr := [gO h 10 (tF ad (upd iv 0 (nI cnt))), gA E (ad 1) 10 ms, gA E (ad 2) 10 sk, gA E (ad 3) 80 pt, gA E (ad 4) 8 ri2_19, gA E (ad 10) 13 fr, gA E (ad 11) 620 sp, gA E (ad 16) 620 pi1, gA E (ad 29) 12 lr, gA E (ad 30) 12 ls]) rfl (by decide) rfl (by decide) (by decide) rfl rfl (Nat.le_of_ble_eq_true rfl) dX10_borne_65 ?_
            rintro _ _ ⟨rfl, rfl⟩
            show gg E _ 7 X 0 0 68 [some (.ref h), some (.int (nI P)), some (.int (nI i)), some (.int (nI (mkN sk pt P (L.getD i (0, 0)).2 cnt))), some (.int (meV ms sk pt cnt (L.getD i (0, 0)).2)), some (.int (nI be_)), some (.int (nI se))] [.int (nI (bcN se 10))] [gO h 10 (tF ad (upd iv 0 (nI cnt))), gA E (ad 1) 10 ms, gA E (ad 2) 10 sk, gA E (ad 3) 80 pt, gA E (ad 4) 8 ri2_19, gA E (ad 10) 13 fr, gA E (ad 11) 620 sp, gA E (ad 16) 620 pi1, gA E (ad 29) 12 lr, gA E (ad 30) 12 ls]
            refine g_iload C dX10_borne_68 rfl ?_
            refine g_callS C (c_X10_bits E be_ (by omega)) gX10_borne_X10_bits rfl 1 (by decide +kernel) ⟨by decide, by decide⟩ ⟨by decide, by decide⟩ [] [0, 1, 2, 3, 4, 5, 6, 7, 8, 9] (wr := [gO h 10 (tF ad (upd iv 0 (nI cnt))), gA E (ad 1) 10 ms, gA E (ad 2) 10 sk, gA E (ad 3) 80 pt, gA E (ad 4) 8 ri2_19, gA E (ad 10) 13 fr, gA E (ad 11) 620 sp, gA E (ad 16) 620 pi1, gA E (ad 29) 12 lr, gA E (ad 30) 12 ls]) rfl (by decide) rfl (by decide) (by decide) rfl rfl (Nat.le_of_ble_eq_true rfl) dX10_borne_70 ?_
            rintro _ _ ⟨rfl, rfl⟩
            show gg E _ 7 X 0 0 73 [some (.ref h), some (.int (nI P)), some (.int (nI i)), some (.int (nI (mkN sk pt P (L.getD i (0, 0)).2 cnt))), some (.int (meV ms sk pt cnt (L.getD i (0, 0)).2)), some (.int (nI be_)), some (.int (nI se))] [.int (nI (bcN be_ 10)), .int (nI (bcN se 10))] [gO h 10 (tF ad (upd iv 0 (nI cnt))), gA E (ad 1) 10 ms, gA E (ad 2) 10 sk, gA E (ad 3) 80 pt, gA E (ad 4) 8 ri2_19, gA E (ad 10) 13 fr, gA E (ad 11) 620 sp, gA E (ad 16) 620 pi1, gA E (ad 29) 12 lr, gA E (ad 30) 12 ls]
            refine g_icmp_ne_n (tgt := 105) C dX10_borne_73 (by decide) (by have := bcN_le se 10; have := bcN_le be_ 10; omega) (by have := bcN_le se 10; have := bcN_le be_ 10; omega) (fun c73 => ?_) (fun c73 => ?_)
            · refine g_iinc_n (y := 1) C dX10_borne_105 rfl (by decide) (by decide) rfl (ll' := [some (.ref h), some (.int (nI P)), some (.int (nI i)), some (.int (nI (mkN sk pt P (L.getD i (0, 0)).2 cnt))), some (.int (meV ms sk pt cnt (L.getD i (0, 0)).2)), some (.int (nI be_)), some (.int (nI (se + 1)))]) rfl ?_
              refine g_goto (tgt := 30) C dX10_borne_108 (by decide) ?_
              exact ih30 be_ (se + 1) pi1 (by omega) (by omega) (by omega) (by omega) (h3) (fun y h0 hl hs hb => by
          by_cases e : y = se
          · rw [e]; intro hk; rcases hk with q | q <;> omega
          · exact h4 y h0 (by omega) hs hb)
            · refine g_iload C dX10_borne_76 rfl ?_
              refine g_iload C dX10_borne_78 rfl ?_
              refine g_icmp_ge_n (tgt := 105) C dX10_borne_80 (by decide) (by omega) (by omega) (fun c80 => ?_) (fun c80 => ?_)
              · refine g_iinc_n (y := 1) C dX10_borne_105 rfl (by decide) (by decide) rfl (ll' := [some (.ref h), some (.int (nI P)), some (.int (nI i)), some (.int (nI (mkN sk pt P (L.getD i (0, 0)).2 cnt))), some (.int (meV ms sk pt cnt (L.getD i (0, 0)).2)), some (.int (nI be_)), some (.int (nI (se + 1)))]) rfl ?_
                refine g_goto (tgt := 30) C dX10_borne_108 (by decide) ?_
                exact ih30 be_ (se + 1) pi1 (by omega) (by omega) (by omega) (by omega) (h3) (fun y h0 hl hs hb => by
          by_cases e : y = se
          · rw [e]; intro hk; rcases hk with q | q <;> omega
          · exact h4 y h0 (by omega) hs hb)
              · refine g_aload_n C dX10_borne_83 rfl ?_
                refine g_aload_n C dX10_borne_84 rfl ?_
                refine g_get C i_X10 0 29 f_56 rfl rfl (by decide) rfl rfl dX10_borne_85 ?_
                refine g_iload_n C dX10_borne_88 rfl ?_
                refine g_iald C 8 i rfl rfl (by omega) (by decide) dX10_borne_89 ?_
                refine g_top ((htg i hi).1) ?_
                refine g_iload_n C dX10_borne_90 rfl ?_
                refine g_iload C dX10_borne_91 rfl ?_
                refine g_iload C dX10_borne_93 rfl ?_
                refine g_callV C (c_X10_isSo E h ad iv cnt ms pt fr sp pi1 co (fun k => kno ms pt P se cnt (meV ms sk pt cnt (L.getD i (0, 0)).2) (k + 1001)) ((L.getD i (0, 0)).1) P se (sn (L.getD i (0, 0)).1) (sn ((L.getD i (0, 0)).1 + 1) - sn (L.getD i (0, 0)).1) (meV ms sk pt cnt (L.getD i (0, 0)).2) (by omega) (by omega) (by omega) (hms) (by omega) (hst _ (by omega)) (by rw [hst ((L.getD i (0, 0)).1 + 1) (by omega), show sn (L.getD i (0, 0)).1 + (sn ((L.getD i (0, 0)).1 + 1) - sn (L.getD i (0, 0)).1) = sn ((L.getD i (0, 0)).1 + 1) by have := (hok.1 _ hq.1).1; omega]) (by have := (hok.1 _ hq.1).1; have := hok.mono (Nat.le_refl nr) (show (L.getD i (0, 0)).1 + 1 ≤ nr by omega); have := hok.2; omega) ((hok.1 _ hq.1).2) (fun i2 hi2 => hsp _ (by have := hok.mono (Nat.le_refl nr) (show (L.getD i (0, 0)).1 + 1 ≤ nr by omega); omega)) (fun k hk => rfl)) gX10_borne_X10_isSo rfl 4 (by decide +kernel) ⟨by decide, by decide⟩ ⟨by decide, by decide⟩ 0 rfl rfl [0, 1, 3, 5, 6, 7] [2, 4, 8, 9] (wr := [gA E (ad 2) 10 sk, gA E (ad 4) 8 ri2_19, gA E (ad 29) 12 lr, gA E (ad 30) 12 ls]) rfl (by decide) rfl (by decide) (by decide) rfl rfl (Nat.le_of_ble_eq_true rfl) dX10_borne_95 ?_
                rintro _ _ ⟨pi2_95, rfl, rfl⟩
                refine gg.perm (ws' := [gO h 10 (tF ad (upd iv 0 (nI cnt))), gA E (ad 1) 10 ms, gA E (ad 2) 10 sk, gA E (ad 3) 80 pt, gA E (ad 4) 8 ri2_19, gA E (ad 10) 13 fr, gA E (ad 11) 620 sp, gA E (ad 16) 620 pi2_95, gA E (ad 29) 12 lr, gA E (ad 30) 12 ls]) [4, 5, 0, 6, 1, 7, 8, 9, 2, 3] (by decide) rfl ?_
                show gg E _ 7 X 0 0 98 [some (.ref h), some (.int (nI P)), some (.int (nI i)), some (.int (nI (mkN sk pt P (L.getD i (0, 0)).2 cnt))), some (.int (meV ms sk pt cnt (L.getD i (0, 0)).2)), some (.int (nI be_)), some (.int (nI se))] [.int (b2i (decide (¬ jV (fun k => kno ms pt P se cnt (meV ms sk pt cnt (L.getD i (0, 0)).2) (k + 1001)) co (sn (L.getD i (0, 0)).1) (sn ((L.getD i (0, 0)).1 + 1) - sn (L.getD i (0, 0)).1) = 0)))] [gO h 10 (tF ad (upd iv 0 (nI cnt))), gA E (ad 1) 10 ms, gA E (ad 2) 10 sk, gA E (ad 3) 80 pt, gA E (ad 4) 8 ri2_19, gA E (ad 10) 13 fr, gA E (ad 11) 620 sp, gA E (ad 16) 620 pi2_95, gA E (ad 29) 12 lr, gA E (ad 30) 12 ls]
                refine g_if_eq (tgt := 105) C dX10_borne_98 (by decide) (fun c98 => ?_) (fun c98 => ?_)
                · refine g_iinc_n (y := 1) C dX10_borne_105 rfl (by decide) (by decide) rfl (ll' := [some (.ref h), some (.int (nI P)), some (.int (nI i)), some (.int (nI (mkN sk pt P (L.getD i (0, 0)).2 cnt))), some (.int (meV ms sk pt cnt (L.getD i (0, 0)).2)), some (.int (nI be_)), some (.int (nI (se + 1)))]) rfl ?_
                  refine g_goto (tgt := 30) C dX10_borne_108 (by decide) ?_
                  exact ih30 be_ (se + 1) pi2_95 (by omega) (by omega) (by omega) (by omega) (h3) (fun y h0 hl hs hb => by
          by_cases e : y = se
          · exact absurd hb (by rw [e]; exact fun z => by rw [show (beF ms sk pt cnt P (L.getD i (0, 0)).2 co sn (L.getD i (0, 0)).1) se = false from b2i_f.mp c98] at z; cases z)
          · exact h4 y h0 (by omega) hs hb)
                · refine g_iload C dX10_borne_101 rfl ?_
                  refine g_istore C dX10_borne_103 (by decide) rfl (ll' := [some (.ref h), some (.int (nI P)), some (.int (nI i)), some (.int (nI (mkN sk pt P (L.getD i (0, 0)).2 cnt))), some (.int (meV ms sk pt cnt (L.getD i (0, 0)).2)), some (.int (nI se)), some (.int (nI se))]) rfl ?_
                  refine g_iinc_n (y := 1) C dX10_borne_105 rfl (by decide) (by decide) rfl (ll' := [some (.ref h), some (.int (nI P)), some (.int (nI i)), some (.int (nI (mkN sk pt P (L.getD i (0, 0)).2 cnt))), some (.int (meV ms sk pt cnt (L.getD i (0, 0)).2)), some (.int (nI se)), some (.int (nI (se + 1)))]) rfl ?_
                  refine g_goto (tgt := 30) C dX10_borne_108 (by decide) ?_
                  exact ih30 se (se + 1) pi2_95 (by omega) (by omega) (by omega) (by omega) (Or.inr ⟨by omega, (sub_iff (by omega)).mp c47, b2i_t.mp c98⟩) (fun y h0 hl hs hb => by
          by_cases e : y = se
          · rw [e]; intro hk; rcases hk with q | q <;> omega
          · exact fun hk => h4 y h0 (by omega) hs hb (kLt_trans hk (Or.inr ⟨c73, c80⟩)))
  exact L30 _ (mkN sk pt P ((L.getD i (0, 0)).2) cnt) 1 pi (Nat.lt_succ_self _) (by omega) (by omega) (by omega) (Or.inl rfl) (fun y h0 h1 => by omega)

