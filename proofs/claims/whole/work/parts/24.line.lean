/-! line, of both -/
def liV (bs : Nat → Int32) (L : List (Nat × Nat)) (i : Nat) (what : Int32) (x : Nat) : Int32 :=
  if what = nI 0 then pSa bs L i else if what = nI 1 then pSk L i else if what = nI 2 then pRu L i else if what = nI 3 then nI x else -1
theorem li0 {bs : Nat → Int32} {L : List (Nat × Nat)} {i : Nat} {what : Int32} {x : Nat} (h : what = nI 0) : liV bs L i what x = pSa bs L i := by rw [liV, if_pos h]
theorem li1 {bs : Nat → Int32} {L : List (Nat × Nat)} {i : Nat} {what : Int32} {x : Nat} (h : what = nI 1) : liV bs L i what x = pSk L i := by rw [liV, h]; rfl
theorem li2 {bs : Nat → Int32} {L : List (Nat × Nat)} {i : Nat} {what : Int32} {x : Nat} (h : what = nI 2) : liV bs L i what x = pRu L i := by rw [liV, h]; rfl
theorem li3 {bs : Nat → Int32} {L : List (Nat × Nat)} {i : Nat} {what : Int32} {x : Nat} (h : what = nI 3) : liV bs L i what x = nI x := by rw [liV, h]; rfl
theorem li4 {bs : Nat → Int32} {L : List (Nat × Nat)} {i : Nat} {what : Int32} {x : Nat} (h0 : ¬ what = nI 0) (h1 : ¬ what = nI 1) (h2 : ¬ what = nI 2) (h3 : ¬ what = nI 3) : liV bs L i what x = -1 := by rw [liV, if_neg h0, if_neg h1, if_neg h2, if_neg h3]
theorem ne3 {what : Int32} {k : Nat} {p : Prop} (h : what = nI k) (hk : k < 3) : what = nI 3 → p := fun z => absurd (h.symm.trans z) (fun e => by have := (nI_eq (by omega) (by decide)).mp e; omega)
theorem le_pred {n : Nat} {i : Int32} (hn : n < 1000000) : nI n - nI 1 < i ↔ nI n ≤ i := by
  rw [fa_lt, fa_le, pk_sub_toInt (by omega) (by decide), nI_toInt (by omega)]
  omega

abbrev rm_c_X9_line_ok : Room := { frames := 6, cells := 0, slots := 0, locals := 142 }
set_option maxHeartbeats 4000000 in
set_option maxRecDepth 100000 in
theorem c_X9_line_ok (E : gE) (m f0 f1 f2 f3 f4 f5 f6 f7 f8 f9 f10 : Nat) (a0 a1 a2 a3 a4 : Nat) (cnt : Nat) (ms sk pt md ri : Nat → Int32) (jb jh : Nat) (jp : Nat → Int32) (k0 k1 k2 k3 nr us : Nat) (bs bk st co : Nat → Int32) (pg x0 x1 x2 : Nat → Nat) (n : Nat) (sa ss ru : Nat → Int32) (gr : Nat → Nat) (w0 w1 w2 w3 w4 : Nat → Int32) (sn : Nat → Nat) (P : Nat) (tr : Nat → Int32) (i : Nat) (what : Int32) (hcnt : cnt ≤ 10) (hP : P < 8) (hms : okM ms cnt) (hmd : ∀ s, s < 5 → md s = meV ms sk pt cnt s) (hnr : nr ≤ 12) (hst : ∀ q, q ≤ nr → st q = nI (sn q)) (hok : okB nr sn co) (hi : i < (pgA bs bk (soF (ioF ms sk pt cnt P) co sn) (fun s => mkN sk pt P s cnt) nr).length) : MM E yX9_line wsX9_line rm_c_X9_line_ok [.ref m, .int (nI P), .int (nI i), .int what] [gO m 9 [.ref f0, .ref f1, .ref f2, .ref f3, .ref f4, .ref f5, .ref f6, .ref f7, .ref f8, .ref f9, .ref f10], gO f0 3 [.ref a0, .ref a1, .ref a2, .ref a3, .ref a4, .int (nI cnt)], gA E a0 10 ms, gA E a1 10 sk, gA E a2 80 pt, gA E a3 5 md, gA E a4 8 ri, gO f3 0 [.ref jb, .int (nI jh)], gA E jb 32 jp, gO f10 4 [.ref k0, .ref k1, .ref k2, .ref k3, .int (nI nr), .int (nI us)], gA E k0 12 bs, gA E k1 12 bk, gA E k2 13 st, gA E k3 600 co, gRow E f6 8 (fun i => some (pg i)), gO (pg P) 2 [.ref (x0 P), .ref (x1 P), .ref (x2 P), .int (nI n)], gA E (x0 P) 12 sa, gA E (x1 P) 12 ss, gA E (x2 P) 12 ru, gGrid E f7 5 (fun i => some (gr i)), gA E (gr 0) 5 w0, gA E (gr 1) 5 w1, gA E (gr 2) 5 w2, gA E (gr 3) 5 w3, gA E (gr 4) 5 w4, gA E f8 5 tr] (fun rv_ ru_ => ∃ (x jh2 : Nat) (jp2 sa2 ss2 ru2 v0 v1 v2 v3 v4 tr2 : Nat → Int32), rv_ = some (.int (liV bs (pgA bs bk (soF (ioF ms sk pt cnt P) co sn) (fun s => mkN sk pt P s cnt) nr) i what x)) ∧ ru_ = [gO m 9 [.ref f0, .ref f1, .ref f2, .ref f3, .ref f4, .ref f5, .ref f6, .ref f7, .ref f8, .ref f9, .ref f10], gO f0 3 [.ref a0, .ref a1, .ref a2, .ref a3, .ref a4, .int (nI cnt)], gA E a0 10 ms, gA E a1 10 sk, gA E a2 80 pt, gA E a3 5 md, gA E a4 8 ri, gO f3 0 [.ref jb, .int (nI jh2)], gA E jb 32 jp2, gO f10 4 [.ref k0, .ref k1, .ref k2, .ref k3, .int (nI nr), .int (nI us)], gA E k0 12 bs, gA E k1 12 bk, gA E k2 13 st, gA E k3 600 co, gRow E f6 8 (fun i => some (pg i)), gO (pg P) 2 [.ref (x0 P), .ref (x1 P), .ref (x2 P), .int (nI ((pgA bs bk (soF (ioF ms sk pt cnt P) co sn) (fun s => mkN sk pt P s cnt) nr).length))], gA E (x0 P) 12 sa2, gA E (x1 P) 12 ss2, gA E (x2 P) 12 ru2, gGrid E f7 5 (fun i => some (gr i)), gA E (gr 0) 5 v0, gA E (gr 1) 5 v1, gA E (gr 2) 5 v2, gA E (gr 3) 5 v3, gA E (gr 4) 5 v4, gA E f8 5 tr2] ∧ (what = nI 3 → leB (mkN sk pt P ((pgA bs bk (soF (ioF ms sk pt cnt P) co sn) (fun s => mkN sk pt P s cnt) nr).getD i (0, 0)).2 cnt) (beF ms sk pt cnt P ((pgA bs bk (soF (ioF ms sk pt cnt P) co sn) (fun s => mkN sk pt P s cnt) nr).getD i (0, 0)).2 co sn ((pgA bs bk (soF (ioF ms sk pt cnt P) co sn) (fun s => mkN sk pt P s cnt) nr).getD i (0, 0)).1) x)) := by
  refine MM.ofG (cc := cX9_line) (maxL := 5) (ret := (some .int)) (by decide) rfl (Nat.le_of_ble_eq_true rfl) (ll := [some (.ref m), some (.int (nI P)), some (.int (nI i)), some (.int what), none]) rfl ?_
  intro X C Rt
  have C : gx E X cX9_line 5 wsX9_line RX9 := C
  have i_X2 : ∀ w ∈ u_ws RX2 TX2 4, w ∈ wsX9_line := by decide +kernel
  have f_156 : Cond.fieldLink RX9 156 "MarkPages$Page" "count" "I" ∈ wsX9_line := by decide +kernel
  have f_157 : Cond.fieldLink RX9 157 "MarkPages$Page" "sayings" "[I" ∈ wsX9_line := by decide +kernel
  have f_160 : Cond.fieldLink RX9 160 "MarkPages$Page" "skills" "[I" ∈ wsX9_line := by decide +kernel
  have f_163 : Cond.fieldLink RX9 163 "MarkPages$Page" "ruleNumbers" "[I" ∈ wsX9_line := by decide +kernel
  have hlen : (pgA bs bk (soF (ioF ms sk pt cnt P) co sn) (fun s => mkN sk pt P s cnt) nr).length ≤ 12 := pgA_len nr
  have hq := (pgA_in (bs := bs) (bk := bk) (so := soF (ioF ms sk pt cnt P) co sn) (mk := fun s => mkN sk pt P s cnt) nr (Nat.le_refl nr)).at hi
  refine g_iload_n C dX9_line_0 rfl ?_
  refine g_callS C (c_X9_isPupil_y E P (by omega)) gX9_line_X9_isPupil rfl 1 (by decide +kernel) ⟨by decide, by decide⟩ ⟨by decide, by decide⟩ [] [0, 1, 2, 3, 4, 5, 6, 7, 8, 9, 10, 11, 12, 13, 14, 15, 16, 17, 18, 19, 20, 21, 22, 23, 24, 25] (wr := [gO m 9 [.ref f0, .ref f1, .ref f2, .ref f3, .ref f4, .ref f5, .ref f6, .ref f7, .ref f8, .ref f9, .ref f10], gO f0 3 [.ref a0, .ref a1, .ref a2, .ref a3, .ref a4, .int (nI cnt)], gA E a0 10 ms, gA E a1 10 sk, gA E a2 80 pt, gA E a3 5 md, gA E a4 8 ri, gO f3 0 [.ref jb, .int (nI jh)], gA E jb 32 jp, gO f10 4 [.ref k0, .ref k1, .ref k2, .ref k3, .int (nI nr), .int (nI us)], gA E k0 12 bs, gA E k1 12 bk, gA E k2 13 st, gA E k3 600 co, gRow E f6 8 (fun i => some (pg i)), gO (pg P) 2 [.ref (x0 P), .ref (x1 P), .ref (x2 P), .int (nI n)], gA E (x0 P) 12 sa, gA E (x1 P) 12 ss, gA E (x2 P) 12 ru, gGrid E f7 5 (fun i => some (gr i)), gA E (gr 0) 5 w0, gA E (gr 1) 5 w1, gA E (gr 2) 5 w2, gA E (gr 3) 5 w3, gA E (gr 4) 5 w4, gA E f8 5 tr]) rfl (by decide) rfl (by decide) (by decide) rfl rfl (Nat.le_of_ble_eq_true rfl) dX9_line_1 ?_
  rintro _ _ ⟨rfl, rfl⟩
  show gg E _ 5 X 0 0 4 [some (.ref m), some (.int (nI P)), some (.int (nI i)), some (.int what), none] [.int (nI 1)] [gO m 9 [.ref f0, .ref f1, .ref f2, .ref f3, .ref f4, .ref f5, .ref f6, .ref f7, .ref f8, .ref f9, .ref f10], gO f0 3 [.ref a0, .ref a1, .ref a2, .ref a3, .ref a4, .int (nI cnt)], gA E a0 10 ms, gA E a1 10 sk, gA E a2 80 pt, gA E a3 5 md, gA E a4 8 ri, gO f3 0 [.ref jb, .int (nI jh)], gA E jb 32 jp, gO f10 4 [.ref k0, .ref k1, .ref k2, .ref k3, .int (nI nr), .int (nI us)], gA E k0 12 bs, gA E k1 12 bk, gA E k2 13 st, gA E k3 600 co, gRow E f6 8 (fun i => some (pg i)), gO (pg P) 2 [.ref (x0 P), .ref (x1 P), .ref (x2 P), .int (nI n)], gA E (x0 P) 12 sa, gA E (x1 P) 12 ss, gA E (x2 P) 12 ru, gGrid E f7 5 (fun i => some (gr i)), gA E (gr 0) 5 w0, gA E (gr 1) 5 w1, gA E (gr 2) 5 w2, gA E (gr 3) 5 w3, gA E (gr 4) 5 w4, gA E f8 5 tr]
  refine g_if_ne (tgt := 9) C dX9_line_4 (by decide) (fun c4 => ?_) (fun c4 => absurd c4 (by decide))
  refine g_aload_n C dX9_line_9 rfl ?_
  refine g_iload_n C dX9_line_10 rfl ?_
  refine g_callV C (c_X9_freshPage E m f0 f1 f2 f3 f4 f5 f6 f7 f8 f9 f10 a0 a1 a2 a3 a4 cnt ms sk pt md ri jb jh jp k0 k1 k2 k3 nr us bs bk st co pg x0 x1 x2 n sa ss ru gr w0 w1 w2 w3 w4 sn P (by omega) (by omega) (hms) (hmd) (by omega) (hst) (hok)) gX9_line_X9_freshPage rfl 1 (by decide +kernel) ⟨by decide, by decide⟩ ⟨by decide, by decide⟩ 0 rfl rfl [0, 1, 2, 3, 4, 5, 6, 7, 8, 9, 10, 11, 12, 13, 14, 15, 16, 17, 18, 19, 20, 21, 22, 23, 24] [25] (wr := [gA E f8 5 tr]) rfl (by decide) rfl (by decide) (by decide) rfl rfl (Nat.le_of_ble_eq_true rfl) dX9_line_11 ?_
  rintro _ _ ⟨jh2_11, jp2_11, sa2_11, ss2_11, ru2_11, v0_11, v1_11, v2_11, v3_11, v4_11, rfl, rfl, hp_11, hv0_11, hv1_11, hv2_11, hv3_11, hv4_11⟩
  refine gg.perm (ws' := [gO m 9 [.ref f0, .ref f1, .ref f2, .ref f3, .ref f4, .ref f5, .ref f6, .ref f7, .ref f8, .ref f9, .ref f10], gO f0 3 [.ref a0, .ref a1, .ref a2, .ref a3, .ref a4, .int (nI cnt)], gA E a0 10 ms, gA E a1 10 sk, gA E a2 80 pt, gA E a3 5 md, gA E a4 8 ri, gO f3 0 [.ref jb, .int (nI jh2_11)], gA E jb 32 jp2_11, gO f10 4 [.ref k0, .ref k1, .ref k2, .ref k3, .int (nI nr), .int (nI us)], gA E k0 12 bs, gA E k1 12 bk, gA E k2 13 st, gA E k3 600 co, gRow E f6 8 (fun i => some (pg i)), gO (pg P) 2 [.ref (x0 P), .ref (x1 P), .ref (x2 P), .int (nI ((pgA bs bk (soF (ioF ms sk pt cnt P) co sn) (fun s => mkN sk pt P s cnt) nr).length))], gA E (x0 P) 12 sa2_11, gA E (x1 P) 12 ss2_11, gA E (x2 P) 12 ru2_11, gGrid E f7 5 (fun i => some (gr i)), gA E (gr 0) 5 v0_11, gA E (gr 1) 5 v1_11, gA E (gr 2) 5 v2_11, gA E (gr 3) 5 v3_11, gA E (gr 4) 5 v4_11, gA E f8 5 tr]) [1, 2, 3, 4, 5, 6, 7, 8, 9, 10, 11, 12, 13, 14, 15, 16, 17, 18, 19, 20, 21, 22, 23, 24, 25, 0] (by decide) rfl ?_
  show gg E _ 5 X 0 0 14 [some (.ref m), some (.int (nI P)), some (.int (nI i)), some (.int what), none] [.ref (pg P)] [gO m 9 [.ref f0, .ref f1, .ref f2, .ref f3, .ref f4, .ref f5, .ref f6, .ref f7, .ref f8, .ref f9, .ref f10], gO f0 3 [.ref a0, .ref a1, .ref a2, .ref a3, .ref a4, .int (nI cnt)], gA E a0 10 ms, gA E a1 10 sk, gA E a2 80 pt, gA E a3 5 md, gA E a4 8 ri, gO f3 0 [.ref jb, .int (nI jh2_11)], gA E jb 32 jp2_11, gO f10 4 [.ref k0, .ref k1, .ref k2, .ref k3, .int (nI nr), .int (nI us)], gA E k0 12 bs, gA E k1 12 bk, gA E k2 13 st, gA E k3 600 co, gRow E f6 8 (fun i => some (pg i)), gO (pg P) 2 [.ref (x0 P), .ref (x1 P), .ref (x2 P), .int (nI ((pgA bs bk (soF (ioF ms sk pt cnt P) co sn) (fun s => mkN sk pt P s cnt) nr).length))], gA E (x0 P) 12 sa2_11, gA E (x1 P) 12 ss2_11, gA E (x2 P) 12 ru2_11, gGrid E f7 5 (fun i => some (gr i)), gA E (gr 0) 5 v0_11, gA E (gr 1) 5 v1_11, gA E (gr 2) 5 v2_11, gA E (gr 3) 5 v3_11, gA E (gr 4) 5 v4_11, gA E f8 5 tr]
  refine g_astore C dX9_line_14 (by decide) rfl (ll' := [some (.ref m), some (.int (nI P)), some (.int (nI i)), some (.int what), some (.ref (pg P))]) rfl ?_
  refine g_iload_n C dX9_line_16 rfl ?_
  refine g_if_lt_n (tgt := 29) C dX9_line_17 (by decide) (by omega) ?_
  refine g_iload_n C dX9_line_20 rfl ?_
  refine g_aload C dX9_line_21 rfl ?_
  refine g_get C i_X2 15 3 f_156 rfl rfl (by decide) rfl rfl dX9_line_23 ?_
  refine g_icmp_lt_n (tgt := 31) C dX9_line_26 (by decide) (by omega) (by omega) (fun c26 => ?_) (fun c26 => ?_)
  · refine g_iload_n C dX9_line_31 rfl ?_
    by_cases s32_0 : what = nI 0
    · refine g_tableIn (off := 32) (tgt := 64) C dX9_line_32 (by rw [s32_0]; decide) (by rw [s32_0]; decide) (by rw [s32_0]; rfl) (by decide) ?_
      refine g_aload C dX9_line_64 rfl ?_
      refine g_get C i_X2 15 0 f_157 rfl rfl (by decide) rfl rfl dX9_line_66 ?_
      refine g_iload_n C dX9_line_69 rfl ?_
      refine g_iald C 16 i rfl rfl (by omega) (by decide) dX9_line_70 ?_
      refine g_top ((hp_11 i hi).1) ?_
      exact g_iret C Rt dX9_line_71 (by decide) (by decide) (⟨0, _, _, _, _, _, _, _, _, _, _, _, by rw [li0 s32_0], rfl, ne3 s32_0 (by decide)⟩)
    by_cases s32_1 : what = nI 1
    · refine g_tableIn (off := 40) (tgt := 72) C dX9_line_32 (by rw [s32_1]; decide) (by rw [s32_1]; decide) (by rw [s32_1]; rfl) (by decide) ?_
      refine g_aload C dX9_line_72 rfl ?_
      refine g_get C i_X2 15 1 f_160 rfl rfl (by decide) rfl rfl dX9_line_74 ?_
      refine g_iload_n C dX9_line_77 rfl ?_
      refine g_iald C 17 i rfl rfl (by omega) (by decide) dX9_line_78 ?_
      refine g_top ((hp_11 i hi).2.1) ?_
      exact g_iret C Rt dX9_line_79 (by decide) (by decide) (⟨0, _, _, _, _, _, _, _, _, _, _, _, by rw [li1 s32_1], rfl, ne3 s32_1 (by decide)⟩)
    by_cases s32_2 : what = nI 2
    · refine g_tableIn (off := 48) (tgt := 80) C dX9_line_32 (by rw [s32_2]; decide) (by rw [s32_2]; decide) (by rw [s32_2]; rfl) (by decide) ?_
      refine g_aload C dX9_line_80 rfl ?_
      refine g_get C i_X2 15 2 f_163 rfl rfl (by decide) rfl rfl dX9_line_82 ?_
      refine g_iload_n C dX9_line_85 rfl ?_
      refine g_iald C 18 i rfl rfl (by omega) (by decide) dX9_line_86 ?_
      refine g_top ((hp_11 i hi).2.2) ?_
      exact g_iret C Rt dX9_line_87 (by decide) (by decide) (⟨0, _, _, _, _, _, _, _, _, _, _, _, by rw [li2 s32_2], rfl, ne3 s32_2 (by decide)⟩)
    by_cases s32_3 : what = nI 3
    · refine g_tableIn (off := 56) (tgt := 88) C dX9_line_32 (by rw [s32_3]; decide) (by rw [s32_3]; decide) (by rw [s32_3]; rfl) (by decide) ?_
      refine g_aload_n C dX9_line_88 rfl ?_
      refine g_iload_n C dX9_line_89 rfl ?_
      refine g_aload C dX9_line_90 rfl ?_
      refine g_get C i_X2 15 1 f_160 rfl rfl (by decide) rfl rfl dX9_line_92 ?_
      refine g_iload_n C dX9_line_95 rfl ?_
      refine g_iald C 17 i rfl rfl (by omega) (by decide) dX9_line_96 ?_
      refine g_top ((hp_11 i hi).2.1) ?_
      refine g_aload C dX9_line_97 rfl ?_
      refine g_get C i_X2 15 2 f_163 rfl rfl (by decide) rfl rfl dX9_line_99 ?_
      refine g_iload_n C dX9_line_102 rfl ?_
      refine g_iald C 18 i rfl rfl (by omega) (by decide) dX9_line_103 ?_
      refine g_top ((hp_11 i hi).2.2) ?_
      refine g_callV C (c_X9_bearersOf E m f0 f1 f2 f3 f4 f5 f6 f7 f8 f9 f10 a0 a1 a2 a3 a4 cnt ms sk pt md ri jb jh2_11 jp2_11 k0 k1 k2 k3 nr us bs bk st co tr sn P (((pgA bs bk (soF (ioF ms sk pt cnt P) co sn) (fun s => mkN sk pt P s cnt) nr).getD i (0, 0)).2) (((pgA bs bk (soF (ioF ms sk pt cnt P) co sn) (fun s => mkN sk pt P s cnt) nr).getD i (0, 0)).1) (by omega) (by omega) (by omega) (hms) (hmd _ hq.2) (hq.1) (by omega) (hst) (hok)) gX9_line_X9_bearersOf rfl 3 (by decide +kernel) ⟨by decide, by decide⟩ ⟨by decide, by decide⟩ 0 rfl rfl [0, 1, 2, 3, 4, 5, 6, 7, 8, 9, 10, 11, 12, 13, 25] [14, 15, 16, 17, 18, 19, 20, 21, 22, 23, 24] (wr := [gRow E f6 8 (fun i => some (pg i)), gO (pg P) 2 [.ref (x0 P), .ref (x1 P), .ref (x2 P), .int (nI ((pgA bs bk (soF (ioF ms sk pt cnt P) co sn) (fun s => mkN sk pt P s cnt) nr).length))], gA E (x0 P) 12 sa2_11, gA E (x1 P) 12 ss2_11, gA E (x2 P) 12 ru2_11, gGrid E f7 5 (fun i => some (gr i)), gA E (gr 0) 5 v0_11, gA E (gr 1) 5 v1_11, gA E (gr 2) 5 v2_11, gA E (gr 3) 5 v3_11, gA E (gr 4) 5 v4_11]) rfl (by decide) rfl (by decide) (by decide) rfl rfl (Nat.le_of_ble_eq_true rfl) dX9_line_104 ?_
      rintro _ _ ⟨x_104, jh2_104, jp2_104, tr2_104, rfl, rfl, hx_104⟩
      refine gg.perm (ws' := [gO m 9 [.ref f0, .ref f1, .ref f2, .ref f3, .ref f4, .ref f5, .ref f6, .ref f7, .ref f8, .ref f9, .ref f10], gO f0 3 [.ref a0, .ref a1, .ref a2, .ref a3, .ref a4, .int (nI cnt)], gA E a0 10 ms, gA E a1 10 sk, gA E a2 80 pt, gA E a3 5 md, gA E a4 8 ri, gO f3 0 [.ref jb, .int (nI jh2_104)], gA E jb 32 jp2_104, gO f10 4 [.ref k0, .ref k1, .ref k2, .ref k3, .int (nI nr), .int (nI us)], gA E k0 12 bs, gA E k1 12 bk, gA E k2 13 st, gA E k3 600 co, gRow E f6 8 (fun i => some (pg i)), gO (pg P) 2 [.ref (x0 P), .ref (x1 P), .ref (x2 P), .int (nI ((pgA bs bk (soF (ioF ms sk pt cnt P) co sn) (fun s => mkN sk pt P s cnt) nr).length))], gA E (x0 P) 12 sa2_11, gA E (x1 P) 12 ss2_11, gA E (x2 P) 12 ru2_11, gGrid E f7 5 (fun i => some (gr i)), gA E (gr 0) 5 v0_11, gA E (gr 1) 5 v1_11, gA E (gr 2) 5 v2_11, gA E (gr 3) 5 v3_11, gA E (gr 4) 5 v4_11, gA E f8 5 tr2_104]) [11, 12, 13, 14, 15, 16, 17, 18, 19, 20, 21, 22, 23, 24, 0, 1, 2, 3, 4, 5, 6, 7, 8, 9, 10, 25] (by decide) rfl ?_
      show gg E _ 5 X 0 0 107 [some (.ref m), some (.int (nI P)), some (.int (nI i)), some (.int what), some (.ref (pg P))] [.int (nI x_104)] [gO m 9 [.ref f0, .ref f1, .ref f2, .ref f3, .ref f4, .ref f5, .ref f6, .ref f7, .ref f8, .ref f9, .ref f10], gO f0 3 [.ref a0, .ref a1, .ref a2, .ref a3, .ref a4, .int (nI cnt)], gA E a0 10 ms, gA E a1 10 sk, gA E a2 80 pt, gA E a3 5 md, gA E a4 8 ri, gO f3 0 [.ref jb, .int (nI jh2_104)], gA E jb 32 jp2_104, gO f10 4 [.ref k0, .ref k1, .ref k2, .ref k3, .int (nI nr), .int (nI us)], gA E k0 12 bs, gA E k1 12 bk, gA E k2 13 st, gA E k3 600 co, gRow E f6 8 (fun i => some (pg i)), gO (pg P) 2 [.ref (x0 P), .ref (x1 P), .ref (x2 P), .int (nI ((pgA bs bk (soF (ioF ms sk pt cnt P) co sn) (fun s => mkN sk pt P s cnt) nr).length))], gA E (x0 P) 12 sa2_11, gA E (x1 P) 12 ss2_11, gA E (x2 P) 12 ru2_11, gGrid E f7 5 (fun i => some (gr i)), gA E (gr 0) 5 v0_11, gA E (gr 1) 5 v1_11, gA E (gr 2) 5 v2_11, gA E (gr 3) 5 v3_11, gA E (gr 4) 5 v4_11, gA E f8 5 tr2_104]
      exact g_iret C Rt dX9_line_107 (by decide) (by decide) (⟨_, _, _, _, _, _, _, _, _, _, _, _, by rw [li3 s32_3], rfl, fun _ => hx_104⟩)
    refine g_tableOut (tgt := 108) C dX9_line_32 (by have e0 := ne_toInt (by decide) (show ¬ what = nI 0 from s32_0); have e1 := ne_toInt (by decide) (show ¬ what = nI 1 from s32_1); have e2 := ne_toInt (by decide) (show ¬ what = nI 2 from s32_2); have e3 := ne_toInt (by decide) (show ¬ what = nI 3 from s32_3); omega) (by decide) ?_
    refine g_iconst (v := -1) C dX9_line_108 (by decide) ?_
    exact g_iret C Rt dX9_line_109 (by decide) (by decide) (⟨0, _, _, _, _, _, _, _, _, _, _, _, by rw [li4 s32_0 s32_1 s32_2 s32_3], rfl, fun z => absurd z s32_3⟩)
  · exact absurd hi (by omega)

abbrev rm_c_X9_line_out : Room := { frames := 6, cells := 0, slots := 0, locals := 142 }
set_option maxHeartbeats 4000000 in
set_option maxRecDepth 100000 in
theorem c_X9_line_out (E : gE) (m f0 f1 f2 f3 f4 f5 f6 f7 f8 f9 f10 : Nat) (a0 a1 a2 a3 a4 : Nat) (cnt : Nat) (ms sk pt md ri : Nat → Int32) (jb jh : Nat) (jp : Nat → Int32) (k0 k1 k2 k3 nr us : Nat) (bs bk st co : Nat → Int32) (pg x0 x1 x2 : Nat → Nat) (n : Nat) (sa ss ru : Nat → Int32) (gr : Nat → Nat) (w0 w1 w2 w3 w4 : Nat → Int32) (sn : Nat → Nat) (P : Nat) (i what : Int32) (hcnt : cnt ≤ 10) (hP : P < 8) (hms : okM ms cnt) (hmd : ∀ s, s < 5 → md s = meV ms sk pt cnt s) (hnr : nr ≤ 12) (hst : ∀ q, q ≤ nr → st q = nI (sn q)) (hok : okB nr sn co) (hb : i < 0 ∨ nI (pgA bs bk (soF (ioF ms sk pt cnt P) co sn) (fun s => mkN sk pt P s cnt) nr).length ≤ i) : MM E yX9_line wsX9_line rm_c_X9_line_out [.ref m, .int (nI P), .int i, .int what] [gO m 9 [.ref f0, .ref f1, .ref f2, .ref f3, .ref f4, .ref f5, .ref f6, .ref f7, .ref f8, .ref f9, .ref f10], gO f0 3 [.ref a0, .ref a1, .ref a2, .ref a3, .ref a4, .int (nI cnt)], gA E a0 10 ms, gA E a1 10 sk, gA E a2 80 pt, gA E a3 5 md, gA E a4 8 ri, gO f3 0 [.ref jb, .int (nI jh)], gA E jb 32 jp, gO f10 4 [.ref k0, .ref k1, .ref k2, .ref k3, .int (nI nr), .int (nI us)], gA E k0 12 bs, gA E k1 12 bk, gA E k2 13 st, gA E k3 600 co, gRow E f6 8 (fun i => some (pg i)), gO (pg P) 2 [.ref (x0 P), .ref (x1 P), .ref (x2 P), .int (nI n)], gA E (x0 P) 12 sa, gA E (x1 P) 12 ss, gA E (x2 P) 12 ru, gGrid E f7 5 (fun i => some (gr i)), gA E (gr 0) 5 w0, gA E (gr 1) 5 w1, gA E (gr 2) 5 w2, gA E (gr 3) 5 w3, gA E (gr 4) 5 w4] (fun rv_ ru_ => ∃ (jh2 : Nat) (jp2 sa2 ss2 ru2 v0 v1 v2 v3 v4 : Nat → Int32), rv_ = some (.int (-1)) ∧ ru_ = [gO m 9 [.ref f0, .ref f1, .ref f2, .ref f3, .ref f4, .ref f5, .ref f6, .ref f7, .ref f8, .ref f9, .ref f10], gO f0 3 [.ref a0, .ref a1, .ref a2, .ref a3, .ref a4, .int (nI cnt)], gA E a0 10 ms, gA E a1 10 sk, gA E a2 80 pt, gA E a3 5 md, gA E a4 8 ri, gO f3 0 [.ref jb, .int (nI jh2)], gA E jb 32 jp2, gO f10 4 [.ref k0, .ref k1, .ref k2, .ref k3, .int (nI nr), .int (nI us)], gA E k0 12 bs, gA E k1 12 bk, gA E k2 13 st, gA E k3 600 co, gRow E f6 8 (fun i => some (pg i)), gO (pg P) 2 [.ref (x0 P), .ref (x1 P), .ref (x2 P), .int (nI ((pgA bs bk (soF (ioF ms sk pt cnt P) co sn) (fun s => mkN sk pt P s cnt) nr).length))], gA E (x0 P) 12 sa2, gA E (x1 P) 12 ss2, gA E (x2 P) 12 ru2, gGrid E f7 5 (fun i => some (gr i)), gA E (gr 0) 5 v0, gA E (gr 1) 5 v1, gA E (gr 2) 5 v2, gA E (gr 3) 5 v3, gA E (gr 4) 5 v4]) := by
  refine MM.ofG (cc := cX9_line) (maxL := 5) (ret := (some .int)) (by decide) rfl (Nat.le_of_ble_eq_true rfl) (ll := [some (.ref m), some (.int (nI P)), some (.int i), some (.int what), none]) rfl ?_
  intro X C Rt
  have C : gx E X cX9_line 5 wsX9_line RX9 := C
  have i_X2 : ∀ w ∈ u_ws RX2 TX2 4, w ∈ wsX9_line := by decide +kernel
  have f_156 : Cond.fieldLink RX9 156 "MarkPages$Page" "count" "I" ∈ wsX9_line := by decide +kernel
  refine g_iload_n C dX9_line_0 rfl ?_
  refine g_callS C (c_X9_isPupil_y E P (by omega)) gX9_line_X9_isPupil rfl 1 (by decide +kernel) ⟨by decide, by decide⟩ ⟨by decide, by decide⟩ [] [0, 1, 2, 3, 4, 5, 6, 7, 8, 9, 10, 11, 12, 13, 14, 15, 16, 17, 18, 19, 20, 21, 22, 23, 24] (wr := [gO m 9 [.ref f0, .ref f1, .ref f2, .ref f3, .ref f4, .ref f5, .ref f6, .ref f7, .ref f8, .ref f9, .ref f10], gO f0 3 [.ref a0, .ref a1, .ref a2, .ref a3, .ref a4, .int (nI cnt)], gA E a0 10 ms, gA E a1 10 sk, gA E a2 80 pt, gA E a3 5 md, gA E a4 8 ri, gO f3 0 [.ref jb, .int (nI jh)], gA E jb 32 jp, gO f10 4 [.ref k0, .ref k1, .ref k2, .ref k3, .int (nI nr), .int (nI us)], gA E k0 12 bs, gA E k1 12 bk, gA E k2 13 st, gA E k3 600 co, gRow E f6 8 (fun i => some (pg i)), gO (pg P) 2 [.ref (x0 P), .ref (x1 P), .ref (x2 P), .int (nI n)], gA E (x0 P) 12 sa, gA E (x1 P) 12 ss, gA E (x2 P) 12 ru, gGrid E f7 5 (fun i => some (gr i)), gA E (gr 0) 5 w0, gA E (gr 1) 5 w1, gA E (gr 2) 5 w2, gA E (gr 3) 5 w3, gA E (gr 4) 5 w4]) rfl (by decide) rfl (by decide) (by decide) rfl rfl (Nat.le_of_ble_eq_true rfl) dX9_line_1 ?_
  rintro _ _ ⟨rfl, rfl⟩
  show gg E _ 5 X 0 0 4 [some (.ref m), some (.int (nI P)), some (.int i), some (.int what), none] [.int (nI 1)] [gO m 9 [.ref f0, .ref f1, .ref f2, .ref f3, .ref f4, .ref f5, .ref f6, .ref f7, .ref f8, .ref f9, .ref f10], gO f0 3 [.ref a0, .ref a1, .ref a2, .ref a3, .ref a4, .int (nI cnt)], gA E a0 10 ms, gA E a1 10 sk, gA E a2 80 pt, gA E a3 5 md, gA E a4 8 ri, gO f3 0 [.ref jb, .int (nI jh)], gA E jb 32 jp, gO f10 4 [.ref k0, .ref k1, .ref k2, .ref k3, .int (nI nr), .int (nI us)], gA E k0 12 bs, gA E k1 12 bk, gA E k2 13 st, gA E k3 600 co, gRow E f6 8 (fun i => some (pg i)), gO (pg P) 2 [.ref (x0 P), .ref (x1 P), .ref (x2 P), .int (nI n)], gA E (x0 P) 12 sa, gA E (x1 P) 12 ss, gA E (x2 P) 12 ru, gGrid E f7 5 (fun i => some (gr i)), gA E (gr 0) 5 w0, gA E (gr 1) 5 w1, gA E (gr 2) 5 w2, gA E (gr 3) 5 w3, gA E (gr 4) 5 w4]
  refine g_if_ne (tgt := 9) C dX9_line_4 (by decide) (fun c4 => ?_) (fun c4 => absurd c4 (by decide))
  refine g_aload_n C dX9_line_9 rfl ?_
  refine g_iload_n C dX9_line_10 rfl ?_
  refine g_callV C (c_X9_freshPage E m f0 f1 f2 f3 f4 f5 f6 f7 f8 f9 f10 a0 a1 a2 a3 a4 cnt ms sk pt md ri jb jh jp k0 k1 k2 k3 nr us bs bk st co pg x0 x1 x2 n sa ss ru gr w0 w1 w2 w3 w4 sn P (by omega) (by omega) (hms) (hmd) (by omega) (hst) (hok)) gX9_line_X9_freshPage rfl 1 (by decide +kernel) ⟨by decide, by decide⟩ ⟨by decide, by decide⟩ 0 rfl rfl [0, 1, 2, 3, 4, 5, 6, 7, 8, 9, 10, 11, 12, 13, 14, 15, 16, 17, 18, 19, 20, 21, 22, 23, 24] [] (wr := []) rfl (by decide) rfl (by decide) (by decide) rfl rfl (Nat.le_of_ble_eq_true rfl) dX9_line_11 ?_
  rintro _ _ ⟨jh2_11, jp2_11, sa2_11, ss2_11, ru2_11, v0_11, v1_11, v2_11, v3_11, v4_11, rfl, rfl, hp_11, hv0_11, hv1_11, hv2_11, hv3_11, hv4_11⟩
  show gg E _ 5 X 0 0 14 [some (.ref m), some (.int (nI P)), some (.int i), some (.int what), none] [.ref (pg P)] [gO m 9 [.ref f0, .ref f1, .ref f2, .ref f3, .ref f4, .ref f5, .ref f6, .ref f7, .ref f8, .ref f9, .ref f10], gO f0 3 [.ref a0, .ref a1, .ref a2, .ref a3, .ref a4, .int (nI cnt)], gA E a0 10 ms, gA E a1 10 sk, gA E a2 80 pt, gA E a3 5 md, gA E a4 8 ri, gO f3 0 [.ref jb, .int (nI jh2_11)], gA E jb 32 jp2_11, gO f10 4 [.ref k0, .ref k1, .ref k2, .ref k3, .int (nI nr), .int (nI us)], gA E k0 12 bs, gA E k1 12 bk, gA E k2 13 st, gA E k3 600 co, gRow E f6 8 (fun i => some (pg i)), gO (pg P) 2 [.ref (x0 P), .ref (x1 P), .ref (x2 P), .int (nI ((pgA bs bk (soF (ioF ms sk pt cnt P) co sn) (fun s => mkN sk pt P s cnt) nr).length))], gA E (x0 P) 12 sa2_11, gA E (x1 P) 12 ss2_11, gA E (x2 P) 12 ru2_11, gGrid E f7 5 (fun i => some (gr i)), gA E (gr 0) 5 v0_11, gA E (gr 1) 5 v1_11, gA E (gr 2) 5 v2_11, gA E (gr 3) 5 v3_11, gA E (gr 4) 5 v4_11]
  refine g_astore C dX9_line_14 (by decide) rfl (ll' := [some (.ref m), some (.int (nI P)), some (.int i), some (.int what), some (.ref (pg P))]) rfl ?_
  refine g_iload_n C dX9_line_16 rfl ?_
  refine g_if_lt (tgt := 29) C dX9_line_17 (by decide) (fun c17 => ?_) (fun c17 => ?_)
  · refine g_iconst (v := -1) C dX9_line_29 (by decide) ?_
    exact g_iret C Rt dX9_line_30 (by decide) (by decide) (⟨_, _, _, _, _, _, _, _, _, _, rfl, rfl⟩)
  · refine g_iload_n C dX9_line_20 rfl ?_
    refine g_aload C dX9_line_21 rfl ?_
    refine g_get C i_X2 15 3 f_156 rfl rfl (by decide) rfl rfl dX9_line_23 ?_
    refine g_icmp_lt (tgt := 31) C dX9_line_26 (by decide) (fun c26 => ?_) (fun c26 => ?_)
    · exact hb.elim (fun z => absurd z c17) (fun z => absurd c26 (Int32.not_lt.mpr z))
    · refine g_iconst (v := -1) C dX9_line_29 (by decide) ?_
      exact g_iret C Rt dX9_line_30 (by decide) (by decide) (⟨_, _, _, _, _, _, _, _, _, _, rfl, rfl⟩)

abbrev rm_c_X9_line_bad : Room := { frames := 6, cells := 0, slots := 0, locals := 142 }
set_option maxHeartbeats 4000000 in
set_option maxRecDepth 100000 in
theorem c_X9_line_bad (E : gE) (m f0 f1 f2 f3 f4 f5 f6 f7 f8 f9 f10 : Nat) (p i what : Int32) (hb : p < 0 ∨ nI 8 ≤ p) : MM E yX9_line wsX9_line rm_c_X9_line_bad [.ref m, .int p, .int i, .int what] [gO m 9 [.ref f0, .ref f1, .ref f2, .ref f3, .ref f4, .ref f5, .ref f6, .ref f7, .ref f8, .ref f9, .ref f10]] (fun rv_ ru_ => rv_ = some (.int (-1)) ∧ ru_ = [gO m 9 [.ref f0, .ref f1, .ref f2, .ref f3, .ref f4, .ref f5, .ref f6, .ref f7, .ref f8, .ref f9, .ref f10]]) := by
  refine MM.ofG (cc := cX9_line) (maxL := 5) (ret := (some .int)) (by decide) rfl (Nat.le_of_ble_eq_true rfl) (ll := [some (.ref m), some (.int p), some (.int i), some (.int what), none]) rfl ?_
  intro X C Rt
  have C : gx E X cX9_line 5 wsX9_line RX9 := C
  refine g_iload_n C dX9_line_0 rfl ?_
  refine g_callS C (c_X9_isPupil E p ) gX9_line_X9_isPupil rfl 1 (by decide +kernel) ⟨by decide, by decide⟩ ⟨by decide, by decide⟩ [] [0] (wr := [gO m 9 [.ref f0, .ref f1, .ref f2, .ref f3, .ref f4, .ref f5, .ref f6, .ref f7, .ref f8, .ref f9, .ref f10]]) rfl (by decide) rfl (by decide) (by decide) rfl rfl (Nat.le_of_ble_eq_true rfl) dX9_line_1 ?_
  rintro _ _ ⟨rfl, rfl⟩
  show gg E _ 5 X 0 0 4 [some (.ref m), some (.int p), some (.int i), some (.int what), none] [.int (b2i (decide (¬ p < 0 ∧ ¬ nI 8 ≤ p)))] [gO m 9 [.ref f0, .ref f1, .ref f2, .ref f3, .ref f4, .ref f5, .ref f6, .ref f7, .ref f8, .ref f9, .ref f10]]
  refine g_if_ne (tgt := 9) C dX9_line_4 (by decide) (fun c4 => ?_) (fun c4 => ?_)
  · exact (have q := of_decide_eq_true (b2i_t.mp c4); hb.elim (fun z => absurd z q.1) (fun z => absurd z q.2))
  · refine g_iconst (v := -1) C dX9_line_7 (by decide) ?_
    exact g_iret C Rt dX9_line_8 (by decide) (by decide) (⟨rfl, rfl⟩)

abbrev rm_c_X10_line_ok : Room := { frames := 4, cells := 0, slots := 0, locals := 102 }
set_option maxHeartbeats 4000000 in
set_option maxRecDepth 100000 in
theorem c_X10_line_ok (E : gE) (h : Nat) (ad : Nat → Nat) (iv : Nat → Int32) (cnt nr : Nat) (ms sk pt ro ts tk fr sp pi lr ls bs bk co : Nat → Int32) (sn : Nat → Nat) (ln0 P : Nat) (i : Nat) (what : Int32) (hcnt : cnt ≤ 10) (hP : P < 8) (hms : okM ms cnt) (hnr : nr ≤ 12) (hts : ∀ q, q < nr → ts q = bs q) (htk : ∀ q, q < nr → tk q = bk q) (hst : ∀ q, q ≤ nr → fr q = nI (sn q)) (hok : okB nr sn co) (hsp : ∀ i, i < sn nr → sp i = trJ (co i)) (hi : i < (pgA bs bk (soF (ioF ms sk pt cnt P) co sn) (fun s => mkN sk pt P s cnt) nr).length) : MM E yX10_line wsX10_line rm_c_X10_line_ok [.ref h, .int (nI P), .int (nI i), .int what] [gO h 10 (tF ad (upd (upd (upd iv 0 (nI cnt)) 5 (nI nr)) 31 (nI ln0))), gA E (ad 1) 10 ms, gA E (ad 2) 10 sk, gA E (ad 3) 80 pt, gA E (ad 4) 8 ro, gA E (ad 8) 12 ts, gA E (ad 9) 12 tk, gA E (ad 10) 13 fr, gA E (ad 11) 620 sp, gA E (ad 16) 620 pi, gA E (ad 29) 12 lr, gA E (ad 30) 12 ls] (fun rv_ ru_ => ∃ (x : Nat) (ro2 pi2 lr2 ls2 : Nat → Int32), rv_ = some (.int (liV bs (pgA bs bk (soF (ioF ms sk pt cnt P) co sn) (fun s => mkN sk pt P s cnt) nr) i what x)) ∧ ru_ = [gO h 10 (tF ad (upd (upd (upd iv 0 (nI cnt)) 5 (nI nr)) 31 (nI ((pgA bs bk (soF (ioF ms sk pt cnt P) co sn) (fun s => mkN sk pt P s cnt) nr).length)))), gA E (ad 1) 10 ms, gA E (ad 2) 10 sk, gA E (ad 3) 80 pt, gA E (ad 4) 8 ro2, gA E (ad 8) 12 ts, gA E (ad 9) 12 tk, gA E (ad 10) 13 fr, gA E (ad 11) 620 sp, gA E (ad 16) 620 pi2, gA E (ad 29) 12 lr2, gA E (ad 30) 12 ls2] ∧ (what = nI 3 → leB (mkN sk pt P ((pgA bs bk (soF (ioF ms sk pt cnt P) co sn) (fun s => mkN sk pt P s cnt) nr).getD i (0, 0)).2 cnt) (beF ms sk pt cnt P ((pgA bs bk (soF (ioF ms sk pt cnt P) co sn) (fun s => mkN sk pt P s cnt) nr).getD i (0, 0)).2 co sn ((pgA bs bk (soF (ioF ms sk pt cnt P) co sn) (fun s => mkN sk pt P s cnt) nr).getD i (0, 0)).1) x)) := by
  refine MM.ofG (cc := cX10_line) (maxL := 4) (ret := (some .int)) (by decide) rfl (Nat.le_of_ble_eq_true rfl) (ll := [some (.ref h), some (.int (nI P)), some (.int (nI i)), some (.int what)]) rfl ?_
  intro X C Rt
  have C : gx E X cX10_line 4 wsX10_line RX10 := C
  have i_X10 : ∀ w ∈ u_ws RX10 TX10 40, w ∈ wsX10_line := by decide +kernel
  have f_22 : Cond.fieldLink RX10 22 "MarkPagesModel" "saying" "[I" ∈ wsX10_line := by decide +kernel
  have f_240 : Cond.fieldLink RX10 240 "MarkPagesModel" "lines" "I" ∈ wsX10_line := by decide +kernel
  have f_56 : Cond.fieldLink RX10 56 "MarkPagesModel" "lineRule" "[I" ∈ wsX10_line := by decide +kernel
  have f_59 : Cond.fieldLink RX10 59 "MarkPagesModel" "lineSkill" "[I" ∈ wsX10_line := by decide +kernel
  have hlen : (pgA bs bk (soF (ioF ms sk pt cnt P) co sn) (fun s => mkN sk pt P s cnt) nr).length ≤ 12 := pgA_len nr
  have hin := pgA_in (bs := bs) (bk := bk) (so := soF (ioF ms sk pt cnt P) co sn) (mk := fun s => mkN sk pt P s cnt) nr (Nat.le_refl nr)
  have hq := hin.at hi
  refine g_iload_n C dX10_line_0 rfl ?_
  refine g_callS C (c_X10_isPupil_y E P (by omega)) gX10_line_X10_isPupil rfl 1 (by decide +kernel) ⟨by decide, by decide⟩ ⟨by decide, by decide⟩ [] [0, 1, 2, 3, 4, 5, 6, 7, 8, 9, 10, 11] (wr := [gO h 10 (tF ad (upd (upd (upd iv 0 (nI cnt)) 5 (nI nr)) 31 (nI ln0))), gA E (ad 1) 10 ms, gA E (ad 2) 10 sk, gA E (ad 3) 80 pt, gA E (ad 4) 8 ro, gA E (ad 8) 12 ts, gA E (ad 9) 12 tk, gA E (ad 10) 13 fr, gA E (ad 11) 620 sp, gA E (ad 16) 620 pi, gA E (ad 29) 12 lr, gA E (ad 30) 12 ls]) rfl (by decide) rfl (by decide) (by decide) rfl rfl (Nat.le_of_ble_eq_true rfl) dX10_line_1 ?_
  rintro _ _ ⟨rfl, rfl⟩
  show gg E _ 4 X 0 0 4 [some (.ref h), some (.int (nI P)), some (.int (nI i)), some (.int what)] [.int (nI 1)] [gO h 10 (tF ad (upd (upd (upd iv 0 (nI cnt)) 5 (nI nr)) 31 (nI ln0))), gA E (ad 1) 10 ms, gA E (ad 2) 10 sk, gA E (ad 3) 80 pt, gA E (ad 4) 8 ro, gA E (ad 8) 12 ts, gA E (ad 9) 12 tk, gA E (ad 10) 13 fr, gA E (ad 11) 620 sp, gA E (ad 16) 620 pi, gA E (ad 29) 12 lr, gA E (ad 30) 12 ls]
  refine g_if_ne (tgt := 9) C dX10_line_4 (by decide) (fun c4 => ?_) (fun c4 => absurd c4 (by decide))
  refine g_aload_n C dX10_line_9 rfl ?_
  refine g_iload_n C dX10_line_10 rfl ?_
  refine g_callV C (c_X10_pages E h ad iv cnt nr ms sk pt ro ts tk fr sp pi lr ls bs bk co sn ln0 P (by omega) (by omega) (hms) (by omega) (hts) (htk) (hst) (hok) (hsp)) gX10_line_X10_pages rfl 1 (by decide +kernel) ⟨by decide, by decide⟩ ⟨by decide, by decide⟩ 0 rfl rfl [0, 1, 2, 3, 4, 5, 6, 7, 8, 9, 10, 11] [] (wr := []) rfl (by decide) rfl (by decide) (by decide) rfl rfl (Nat.le_of_ble_eq_true rfl) dX10_line_11 ?_
  rintro _ _ ⟨ro2_11, pi2_11, lr2_11, ls2_11, rfl, rfl, ht_11⟩
  show gg E _ 4 X 0 0 14 [some (.ref h), some (.int (nI P)), some (.int (nI i)), some (.int what)] [] [gO h 10 (tF ad (upd (upd (upd iv 0 (nI cnt)) 5 (nI nr)) 31 (nI ((pgA bs bk (soF (ioF ms sk pt cnt P) co sn) (fun s => mkN sk pt P s cnt) nr).length)))), gA E (ad 1) 10 ms, gA E (ad 2) 10 sk, gA E (ad 3) 80 pt, gA E (ad 4) 8 ro2_11, gA E (ad 8) 12 ts, gA E (ad 9) 12 tk, gA E (ad 10) 13 fr, gA E (ad 11) 620 sp, gA E (ad 16) 620 pi2_11, gA E (ad 29) 12 lr2_11, gA E (ad 30) 12 ls2_11]
  refine g_iload_n C dX10_line_14 rfl ?_
  refine g_iconst (v := nI 0) C dX10_line_15 (by decide) ?_
  refine g_aload_n C dX10_line_16 rfl ?_
  refine g_get C i_X10 0 31 f_240 rfl rfl (by decide) rfl rfl dX10_line_17 ?_
  refine g_iconst (v := nI 1) C dX10_line_20 (by decide) ?_
  refine g_isub_n C dX10_line_21 (by omega) ?_
  refine g_callS C (c_X10_isIn_y E (nI i) (nI 0) (nI (((pgA bs bk (soF (ioF ms sk pt cnt P) co sn) (fun s => mkN sk pt P s cnt) nr).length) - 1)) (nI_nlt (Nat.zero_le i) (by omega)) (nI_nlt (by omega) (by omega))) gX10_line_X10_isIn rfl 3 (by decide +kernel) ⟨by decide, by decide⟩ ⟨by decide, by decide⟩ [] [0, 1, 2, 3, 4, 5, 6, 7, 8, 9, 10, 11] (wr := [gO h 10 (tF ad (upd (upd (upd iv 0 (nI cnt)) 5 (nI nr)) 31 (nI ((pgA bs bk (soF (ioF ms sk pt cnt P) co sn) (fun s => mkN sk pt P s cnt) nr).length)))), gA E (ad 1) 10 ms, gA E (ad 2) 10 sk, gA E (ad 3) 80 pt, gA E (ad 4) 8 ro2_11, gA E (ad 8) 12 ts, gA E (ad 9) 12 tk, gA E (ad 10) 13 fr, gA E (ad 11) 620 sp, gA E (ad 16) 620 pi2_11, gA E (ad 29) 12 lr2_11, gA E (ad 30) 12 ls2_11]) rfl (by decide) rfl (by decide) (by decide) rfl rfl (Nat.le_of_ble_eq_true rfl) dX10_line_22 ?_
  rintro _ _ ⟨rfl, rfl⟩
  show gg E _ 4 X 0 0 25 [some (.ref h), some (.int (nI P)), some (.int (nI i)), some (.int what)] [.int (nI 1)] [gO h 10 (tF ad (upd (upd (upd iv 0 (nI cnt)) 5 (nI nr)) 31 (nI ((pgA bs bk (soF (ioF ms sk pt cnt P) co sn) (fun s => mkN sk pt P s cnt) nr).length)))), gA E (ad 1) 10 ms, gA E (ad 2) 10 sk, gA E (ad 3) 80 pt, gA E (ad 4) 8 ro2_11, gA E (ad 8) 12 ts, gA E (ad 9) 12 tk, gA E (ad 10) 13 fr, gA E (ad 11) 620 sp, gA E (ad 16) 620 pi2_11, gA E (ad 29) 12 lr2_11, gA E (ad 30) 12 ls2_11]
  refine g_if_ne (tgt := 30) C dX10_line_25 (by decide) (fun c25 => ?_) (fun c25 => absurd c25 (by decide))
  refine g_iload_n C dX10_line_30 rfl ?_
  refine g_if_ne (tgt := 48) C dX10_line_31 (by decide) (fun c31 => ?_) (fun c31 => ?_)
  · refine g_iload_n C dX10_line_48 rfl ?_
    refine g_iconst (v := nI 1) C dX10_line_49 (by decide) ?_
    refine g_icmp_ne (tgt := 62) C dX10_line_50 (by decide) (fun c50 => ?_) (fun c50 => ?_)
    · refine g_iload_n C dX10_line_62 rfl ?_
      refine g_iconst (v := nI 2) C dX10_line_63 (by decide) ?_
      refine g_icmp_ne (tgt := 76) C dX10_line_64 (by decide) (fun c64 => ?_) (fun c64 => ?_)
      · refine g_iload_n C dX10_line_76 rfl ?_
        refine g_iconst (v := nI 3) C dX10_line_77 (by decide) ?_
        refine g_icmp_ne (tgt := 90) C dX10_line_78 (by decide) (fun c78 => ?_) (fun c78 => ?_)
        · refine g_iconst (v := -1) C dX10_line_90 (by decide) ?_
          exact g_iret C Rt dX10_line_91 (by decide) (by decide) (⟨0, _, _, _, _, by rw [li4 c31 c50 c64 c78], rfl, fun z => absurd z c78⟩)
        · refine g_aload_n C dX10_line_81 rfl ?_
          refine g_iload_n C dX10_line_82 rfl ?_
          refine g_iload_n C dX10_line_83 rfl ?_
          refine g_callV C (c_X10_borne E h ad (upd (upd iv 5 (nI nr)) 31 (nI ((pgA bs bk (soF (ioF ms sk pt cnt P) co sn) (fun s => mkN sk pt P s cnt) nr).length))) cnt ms sk pt ro2_11 fr sp pi2_11 lr2_11 ls2_11 co sn (pgA bs bk (soF (ioF ms sk pt cnt P) co sn) (fun s => mkN sk pt P s cnt) nr) nr P i (by omega) (by omega) (hms) (by omega) (hst) (hok) (hsp) (hin) (ht_11) (hlen) (hi)) gX10_line_X10_borne rfl 2 (by decide +kernel) ⟨by decide, by decide⟩ ⟨by decide, by decide⟩ 0 rfl rfl [0, 1, 2, 3, 4, 7, 8, 9, 10, 11] [5, 6] (wr := [gA E (ad 8) 12 ts, gA E (ad 9) 12 tk]) rfl (by decide) rfl (by decide) (by decide) rfl rfl (Nat.le_of_ble_eq_true rfl) dX10_line_84 ?_
          rintro _ _ ⟨x_84, ro2_84, pi2_84, rfl, rfl, hx_84⟩
          refine gg.perm (ws' := [gO h 10 (tF ad (upd (upd (upd iv 0 (nI cnt)) 5 (nI nr)) 31 (nI ((pgA bs bk (soF (ioF ms sk pt cnt P) co sn) (fun s => mkN sk pt P s cnt) nr).length)))), gA E (ad 1) 10 ms, gA E (ad 2) 10 sk, gA E (ad 3) 80 pt, gA E (ad 4) 8 ro2_84, gA E (ad 8) 12 ts, gA E (ad 9) 12 tk, gA E (ad 10) 13 fr, gA E (ad 11) 620 sp, gA E (ad 16) 620 pi2_84, gA E (ad 29) 12 lr2_11, gA E (ad 30) 12 ls2_11]) [2, 3, 4, 5, 6, 0, 1, 7, 8, 9, 10, 11] (by decide) rfl ?_
          show gg E _ 4 X 0 0 87 [some (.ref h), some (.int (nI P)), some (.int (nI i)), some (.int what)] [.int (nI x_84)] [gO h 10 (tF ad (upd (upd (upd iv 0 (nI cnt)) 5 (nI nr)) 31 (nI ((pgA bs bk (soF (ioF ms sk pt cnt P) co sn) (fun s => mkN sk pt P s cnt) nr).length)))), gA E (ad 1) 10 ms, gA E (ad 2) 10 sk, gA E (ad 3) 80 pt, gA E (ad 4) 8 ro2_84, gA E (ad 8) 12 ts, gA E (ad 9) 12 tk, gA E (ad 10) 13 fr, gA E (ad 11) 620 sp, gA E (ad 16) 620 pi2_84, gA E (ad 29) 12 lr2_11, gA E (ad 30) 12 ls2_11]
          refine g_goto (tgt := 91) C dX10_line_87 (by decide) ?_
          exact g_iret C Rt dX10_line_91 (by decide) (by decide) (⟨_, _, _, _, _, by rw [li3 c78], rfl, fun _ => hx_84⟩)
      · refine g_aload_n C dX10_line_67 rfl ?_
        refine g_get C i_X10 0 29 f_56 rfl rfl (by decide) rfl rfl dX10_line_68 ?_
        refine g_iload_n C dX10_line_71 rfl ?_
        refine g_iald C 10 i rfl rfl (by omega) (by decide) dX10_line_72 ?_
        refine g_top ((ht_11 i hi).1) ?_
        refine g_goto (tgt := 91) C dX10_line_73 (by decide) ?_
        exact g_iret C Rt dX10_line_91 (by decide) (by decide) (⟨0, _, _, _, _, by rw [li2 c64], rfl, ne3 c64 (by decide)⟩)
    · refine g_aload_n C dX10_line_53 rfl ?_
      refine g_get C i_X10 0 30 f_59 rfl rfl (by decide) rfl rfl dX10_line_54 ?_
      refine g_iload_n C dX10_line_57 rfl ?_
      refine g_iald C 11 i rfl rfl (by omega) (by decide) dX10_line_58 ?_
      refine g_top ((ht_11 i hi).2) ?_
      refine g_goto (tgt := 91) C dX10_line_59 (by decide) ?_
      exact g_iret C Rt dX10_line_91 (by decide) (by decide) (⟨0, _, _, _, _, by rw [li1 c50], rfl, ne3 c50 (by decide)⟩)
  · refine g_aload_n C dX10_line_34 rfl ?_
    refine g_get C i_X10 0 8 f_22 rfl rfl (by decide) rfl rfl dX10_line_35 ?_
    refine g_aload_n C dX10_line_38 rfl ?_
    refine g_get C i_X10 0 29 f_56 rfl rfl (by decide) rfl rfl dX10_line_39 ?_
    refine g_iload_n C dX10_line_42 rfl ?_
    refine g_iald C 10 i rfl rfl (by omega) (by decide) dX10_line_43 ?_
    refine g_top ((ht_11 i hi).1) ?_
    refine g_iald C 5 (((pgA bs bk (soF (ioF ms sk pt cnt P) co sn) (fun s => mkN sk pt P s cnt) nr).getD i (0, 0)).1) rfl rfl (by omega) (by decide) dX10_line_44 ?_
    refine g_top (hts _ hq.1) ?_
    refine g_goto (tgt := 91) C dX10_line_45 (by decide) ?_
    exact g_iret C Rt dX10_line_91 (by decide) (by decide) (⟨0, _, _, _, _, by rw [li0 c31]; rfl, rfl, ne3 (k := 0) c31 (by decide)⟩)

abbrev rm_c_X10_line_out : Room := { frames := 4, cells := 0, slots := 0, locals := 102 }
set_option maxHeartbeats 4000000 in
set_option maxRecDepth 100000 in
theorem c_X10_line_out (E : gE) (h : Nat) (ad : Nat → Nat) (iv : Nat → Int32) (cnt nr : Nat) (ms sk pt ro ts tk fr sp pi lr ls bs bk co : Nat → Int32) (sn : Nat → Nat) (ln0 P : Nat) (i what : Int32) (hcnt : cnt ≤ 10) (hP : P < 8) (hms : okM ms cnt) (hnr : nr ≤ 12) (hts : ∀ q, q < nr → ts q = bs q) (htk : ∀ q, q < nr → tk q = bk q) (hst : ∀ q, q ≤ nr → fr q = nI (sn q)) (hok : okB nr sn co) (hsp : ∀ i, i < sn nr → sp i = trJ (co i)) (hb : i < 0 ∨ nI (pgA bs bk (soF (ioF ms sk pt cnt P) co sn) (fun s => mkN sk pt P s cnt) nr).length ≤ i) : MM E yX10_line wsX10_line rm_c_X10_line_out [.ref h, .int (nI P), .int i, .int what] [gO h 10 (tF ad (upd (upd (upd iv 0 (nI cnt)) 5 (nI nr)) 31 (nI ln0))), gA E (ad 1) 10 ms, gA E (ad 2) 10 sk, gA E (ad 3) 80 pt, gA E (ad 4) 8 ro, gA E (ad 8) 12 ts, gA E (ad 9) 12 tk, gA E (ad 10) 13 fr, gA E (ad 11) 620 sp, gA E (ad 16) 620 pi, gA E (ad 29) 12 lr, gA E (ad 30) 12 ls] (fun rv_ ru_ => ∃ (ro2 pi2 lr2 ls2 : Nat → Int32), rv_ = some (.int (-1)) ∧ ru_ = [gO h 10 (tF ad (upd (upd (upd iv 0 (nI cnt)) 5 (nI nr)) 31 (nI ((pgA bs bk (soF (ioF ms sk pt cnt P) co sn) (fun s => mkN sk pt P s cnt) nr).length)))), gA E (ad 1) 10 ms, gA E (ad 2) 10 sk, gA E (ad 3) 80 pt, gA E (ad 4) 8 ro2, gA E (ad 8) 12 ts, gA E (ad 9) 12 tk, gA E (ad 10) 13 fr, gA E (ad 11) 620 sp, gA E (ad 16) 620 pi2, gA E (ad 29) 12 lr2, gA E (ad 30) 12 ls2]) := by
  refine MM.ofG (cc := cX10_line) (maxL := 4) (ret := (some .int)) (by decide) rfl (Nat.le_of_ble_eq_true rfl) (ll := [some (.ref h), some (.int (nI P)), some (.int i), some (.int what)]) rfl ?_
  intro X C Rt
  have C : gx E X cX10_line 4 wsX10_line RX10 := C
  have i_X10 : ∀ w ∈ u_ws RX10 TX10 40, w ∈ wsX10_line := by decide +kernel
  have f_240 : Cond.fieldLink RX10 240 "MarkPagesModel" "lines" "I" ∈ wsX10_line := by decide +kernel
  refine g_iload_n C dX10_line_0 rfl ?_
  refine g_callS C (c_X10_isPupil_y E P (by omega)) gX10_line_X10_isPupil rfl 1 (by decide +kernel) ⟨by decide, by decide⟩ ⟨by decide, by decide⟩ [] [0, 1, 2, 3, 4, 5, 6, 7, 8, 9, 10, 11] (wr := [gO h 10 (tF ad (upd (upd (upd iv 0 (nI cnt)) 5 (nI nr)) 31 (nI ln0))), gA E (ad 1) 10 ms, gA E (ad 2) 10 sk, gA E (ad 3) 80 pt, gA E (ad 4) 8 ro, gA E (ad 8) 12 ts, gA E (ad 9) 12 tk, gA E (ad 10) 13 fr, gA E (ad 11) 620 sp, gA E (ad 16) 620 pi, gA E (ad 29) 12 lr, gA E (ad 30) 12 ls]) rfl (by decide) rfl (by decide) (by decide) rfl rfl (Nat.le_of_ble_eq_true rfl) dX10_line_1 ?_
  rintro _ _ ⟨rfl, rfl⟩
  show gg E _ 4 X 0 0 4 [some (.ref h), some (.int (nI P)), some (.int i), some (.int what)] [.int (nI 1)] [gO h 10 (tF ad (upd (upd (upd iv 0 (nI cnt)) 5 (nI nr)) 31 (nI ln0))), gA E (ad 1) 10 ms, gA E (ad 2) 10 sk, gA E (ad 3) 80 pt, gA E (ad 4) 8 ro, gA E (ad 8) 12 ts, gA E (ad 9) 12 tk, gA E (ad 10) 13 fr, gA E (ad 11) 620 sp, gA E (ad 16) 620 pi, gA E (ad 29) 12 lr, gA E (ad 30) 12 ls]
  refine g_if_ne (tgt := 9) C dX10_line_4 (by decide) (fun c4 => ?_) (fun c4 => absurd c4 (by decide))
  refine g_aload_n C dX10_line_9 rfl ?_
  refine g_iload_n C dX10_line_10 rfl ?_
  refine g_callV C (c_X10_pages E h ad iv cnt nr ms sk pt ro ts tk fr sp pi lr ls bs bk co sn ln0 P (by omega) (by omega) (hms) (by omega) (hts) (htk) (hst) (hok) (hsp)) gX10_line_X10_pages rfl 1 (by decide +kernel) ⟨by decide, by decide⟩ ⟨by decide, by decide⟩ 0 rfl rfl [0, 1, 2, 3, 4, 5, 6, 7, 8, 9, 10, 11] [] (wr := []) rfl (by decide) rfl (by decide) (by decide) rfl rfl (Nat.le_of_ble_eq_true rfl) dX10_line_11 ?_
  rintro _ _ ⟨ro2_11, pi2_11, lr2_11, ls2_11, rfl, rfl, ht_11⟩
  show gg E _ 4 X 0 0 14 [some (.ref h), some (.int (nI P)), some (.int i), some (.int what)] [] [gO h 10 (tF ad (upd (upd (upd iv 0 (nI cnt)) 5 (nI nr)) 31 (nI ((pgA bs bk (soF (ioF ms sk pt cnt P) co sn) (fun s => mkN sk pt P s cnt) nr).length)))), gA E (ad 1) 10 ms, gA E (ad 2) 10 sk, gA E (ad 3) 80 pt, gA E (ad 4) 8 ro2_11, gA E (ad 8) 12 ts, gA E (ad 9) 12 tk, gA E (ad 10) 13 fr, gA E (ad 11) 620 sp, gA E (ad 16) 620 pi2_11, gA E (ad 29) 12 lr2_11, gA E (ad 30) 12 ls2_11]
  refine g_iload_n C dX10_line_14 rfl ?_
  refine g_iconst (v := nI 0) C dX10_line_15 (by decide) ?_
  refine g_aload_n C dX10_line_16 rfl ?_
  refine g_get C i_X10 0 31 f_240 rfl rfl (by decide) rfl rfl dX10_line_17 ?_
  refine g_iconst (v := nI 1) C dX10_line_20 (by decide) ?_
  refine g_isub C dX10_line_21 ?_
  refine g_callS C (c_X10_isIn E i (nI 0) ((nI ((pgA bs bk (soF (ioF ms sk pt cnt P) co sn) (fun s => mkN sk pt P s cnt) nr).length)) - (nI 1)) ) gX10_line_X10_isIn rfl 3 (by decide +kernel) ⟨by decide, by decide⟩ ⟨by decide, by decide⟩ [] [0, 1, 2, 3, 4, 5, 6, 7, 8, 9, 10, 11] (wr := [gO h 10 (tF ad (upd (upd (upd iv 0 (nI cnt)) 5 (nI nr)) 31 (nI ((pgA bs bk (soF (ioF ms sk pt cnt P) co sn) (fun s => mkN sk pt P s cnt) nr).length)))), gA E (ad 1) 10 ms, gA E (ad 2) 10 sk, gA E (ad 3) 80 pt, gA E (ad 4) 8 ro2_11, gA E (ad 8) 12 ts, gA E (ad 9) 12 tk, gA E (ad 10) 13 fr, gA E (ad 11) 620 sp, gA E (ad 16) 620 pi2_11, gA E (ad 29) 12 lr2_11, gA E (ad 30) 12 ls2_11]) rfl (by decide) rfl (by decide) (by decide) rfl rfl (Nat.le_of_ble_eq_true rfl) dX10_line_22 ?_
  rintro _ _ ⟨rfl, rfl⟩
  show gg E _ 4 X 0 0 25 [some (.ref h), some (.int (nI P)), some (.int i), some (.int what)] [.int (b2i (decide (¬ i < (nI 0) ∧ ¬ ((nI ((pgA bs bk (soF (ioF ms sk pt cnt P) co sn) (fun s => mkN sk pt P s cnt) nr).length)) - (nI 1)) < i)))] [gO h 10 (tF ad (upd (upd (upd iv 0 (nI cnt)) 5 (nI nr)) 31 (nI ((pgA bs bk (soF (ioF ms sk pt cnt P) co sn) (fun s => mkN sk pt P s cnt) nr).length)))), gA E (ad 1) 10 ms, gA E (ad 2) 10 sk, gA E (ad 3) 80 pt, gA E (ad 4) 8 ro2_11, gA E (ad 8) 12 ts, gA E (ad 9) 12 tk, gA E (ad 10) 13 fr, gA E (ad 11) 620 sp, gA E (ad 16) 620 pi2_11, gA E (ad 29) 12 lr2_11, gA E (ad 30) 12 ls2_11]
  refine g_if_ne (tgt := 30) C dX10_line_25 (by decide) (fun c25 => ?_) (fun c25 => ?_)
  · exact (have q := of_decide_eq_true (b2i_t.mp c25); hb.elim (fun z => absurd z q.1) (fun z => absurd ((le_pred (by have : (pgA bs bk (soF (ioF ms sk pt cnt P) co sn) (fun s => mkN sk pt P s cnt) nr).length ≤ 12 := pgA_len nr; omega)).mpr z) q.2))
  · refine g_iconst (v := -1) C dX10_line_28 (by decide) ?_
    exact g_iret C Rt dX10_line_29 (by decide) (by decide) (⟨_, _, _, _, rfl, rfl⟩)

abbrev rm_c_X10_line_bad : Room := { frames := 4, cells := 0, slots := 0, locals := 102 }
set_option maxHeartbeats 4000000 in
set_option maxRecDepth 100000 in
theorem c_X10_line_bad (E : gE) (h : Nat) (ad : Nat → Nat) (iv : Nat → Int32) (p i what : Int32) (hb : p < 0 ∨ nI 7 < p) : MM E yX10_line wsX10_line rm_c_X10_line_bad [.ref h, .int p, .int i, .int what] [gO h 10 (tF ad iv)] (fun rv_ ru_ => rv_ = some (.int (-1)) ∧ ru_ = [gO h 10 (tF ad iv)]) := by
  refine MM.ofG (cc := cX10_line) (maxL := 4) (ret := (some .int)) (by decide) rfl (Nat.le_of_ble_eq_true rfl) (ll := [some (.ref h), some (.int p), some (.int i), some (.int what)]) rfl ?_
  intro X C Rt
  have C : gx E X cX10_line 4 wsX10_line RX10 := C
  refine g_iload_n C dX10_line_0 rfl ?_
  refine g_callS C (c_X10_isPupil E p ) gX10_line_X10_isPupil rfl 1 (by decide +kernel) ⟨by decide, by decide⟩ ⟨by decide, by decide⟩ [] [0] (wr := [gO h 10 (tF ad iv)]) rfl (by decide) rfl (by decide) (by decide) rfl rfl (Nat.le_of_ble_eq_true rfl) dX10_line_1 ?_
  rintro _ _ ⟨rfl, rfl⟩
  show gg E _ 4 X 0 0 4 [some (.ref h), some (.int p), some (.int i), some (.int what)] [.int (b2i (decide (¬ p < nI 0 ∧ ¬ nI 7 < p)))] [gO h 10 (tF ad iv)]
  refine g_if_ne (tgt := 9) C dX10_line_4 (by decide) (fun c4 => ?_) (fun c4 => ?_)
  · exact (have q := of_decide_eq_true (b2i_t.mp c4); hb.elim (fun z => absurd z q.1) (fun z => absurd z q.2))
  · refine g_iconst (v := -1) C dX10_line_7 (by decide) ?_
    exact g_iret C Rt dX10_line_8 (by decide) (by decide) (⟨rfl, rfl⟩)

