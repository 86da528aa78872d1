/-! alike, sheet, group, of both -/
theorem smL_cong {sa sk sa2 sk2 ta tk ta2 tk2 : Nat → Int32} : ∀ {n : Nat}, (∀ i, i < n → sa i = ta i ∧ sk i = tk i) → (∀ i, i < n → sa2 i = ta2 i ∧ sk2 i = tk2 i) → smL sa sk sa2 sk2 n = smL ta tk ta2 tk2 n
  | 0, _, _ => rfl
  | n + 1, h, h2 => by
    rw [smL, smL, smL_cong (fun i hi => h i (by omega)) (fun i hi => h2 i (by omega)), (h n (Nat.lt_succ_self n)).1, (h n (Nat.lt_succ_self n)).2, (h2 n (Nat.lt_succ_self n)).1, (h2 n (Nat.lt_succ_self n)).2]
theorem smL_mono {sa sk sa2 sk2 : Nat → Int32} {j : Nat} (h : smL sa sk sa2 sk2 j = false) : ∀ {n : Nat}, j ≤ n → smL sa sk sa2 sk2 n = false
  | 0, q => by rw [← Nat.le_zero.mp q]; exact h
  | n + 1, q => by
    by_cases e : j = n + 1
    · rw [← e]; exact h
    · rw [smL, smL_mono h (show j ≤ n by omega)]; rfl
theorem smL_self (sa sk : Nat → Int32) : ∀ n, smL sa sk sa sk n = true
  | 0 => rfl
  | n + 1 => by rw [smL, smL_self sa sk n, decide_eq_true ⟨rfl, rfl⟩]; rfl
/-- two pages are ALIKE -/
def alL (bs : Nat → Int32) (L1 L2 : List (Nat × Nat)) : Bool := decide (L1.length = L2.length) && smL (pSa bs L1) (pSk L1) (pSa bs L2) (pSk L2) L1.length
theorem alL_self (bs : Nat → Int32) (L : List (Nat × Nat)) : alL bs L L = true := by rw [alL, smL_self, decide_eq_true rfl]; rfl
theorem al_early {bs : Nat → Int32} {L1 L2 : List (Nat × Nat)} {j : Nat} (h : (decide (L1.length = L2.length) && smL (pSa bs L1) (pSk L1) (pSa bs L2) (pSk L2) j) = false) (hj : j ≤ L1.length) : alL bs L1 L2 = false := by
  rw [alL]
  rcases Bool.and_eq_false_iff.mp h with q | q
  · rw [q]; rfl
  · rw [smL_mono q hj, Bool.and_false]
theorem al_rows {bs : Nat → Int32} {L1 L2 : List (Nat × Nat)} {sa ss ru sa2 ss2 ru2 : Nat → Int32} (h1 : pgR bs L1 sa ss ru) (h2 : pgR bs L2 sa2 ss2 ru2) : (decide (L1.length = L2.length) && smL sa ss sa2 ss2 L1.length) = alL bs L1 L2 := by
  rw [alL]
  by_cases e : L1.length = L2.length
  · rw [smL_cong (fun i hi => ⟨(h1 i hi).1, (h1 i hi).2.1⟩) (fun i hi => ⟨(h2 i (e ▸ hi)).1, (h2 i (e ▸ hi)).2.1⟩)]
  · rw [decide_eq_false e]; rfl

abbrev rm_c_X2_sameLines_self : Room := { frames := 0, cells := 0, slots := 0, locals := 0 }
set_option maxHeartbeats 4000000 in
set_option maxRecDepth 100000 in
theorem c_X2_sameLines_self (E : gE) (h a0 a1 a2 n : Nat) (sa sk ru : Nat → Int32) (hn : n ≤ 12) : MM E yX2_sameLines wsX2_sameLines rm_c_X2_sameLines_self [.ref h, .ref h] [gO h 2 [.ref a0, .ref a1, .ref a2, .int (nI n)], gA E a0 12 sa, gA E a1 12 sk, gA E a2 12 ru] (fun rv_ ru_ => rv_ = some (.int (nI 1)) ∧ ru_ = [gO h 2 [.ref a0, .ref a1, .ref a2, .int (nI n)], gA E a0 12 sa, gA E a1 12 sk, gA E a2 12 ru]) := by
  refine MM.ofG (cc := cX2_sameLines) (maxL := 3) (ret := (some .boolean)) (by decide) rfl (Nat.le_of_ble_eq_true rfl) (ll := [some (.ref h), some (.ref h), none]) rfl ?_
  intro X C Rt
  have C : gx E X cX2_sameLines 3 wsX2_sameLines RX2 := C
  have i_X2 : ∀ w ∈ u_ws RX2 TX2 4, w ∈ wsX2_sameLines := by decide +kernel
  have f_15 : Cond.fieldLink RX2 15 "MarkPages$Page" "skills" "[I" ∈ wsX2_sameLines := by decide +kernel
  have f_21 : Cond.fieldLink RX2 21 "MarkPages$Page" "count" "I" ∈ wsX2_sameLines := by decide +kernel
  have f_9 : Cond.fieldLink RX2 9 "MarkPages$Page" "sayings" "[I" ∈ wsX2_sameLines := by decide +kernel
  refine g_aload_n C dX2_sameLines_0 rfl ?_
  refine g_get C i_X2 0 3 f_21 rfl rfl (by decide) rfl rfl dX2_sameLines_1 ?_
  refine g_aload_n C dX2_sameLines_4 rfl ?_
  refine g_get C i_X2 0 3 f_21 rfl rfl (by decide) rfl rfl dX2_sameLines_5 ?_
  refine g_icmp_eq_n (tgt := 13) C dX2_sameLines_8 (by decide) (by omega) (by omega) (fun c8 => ?_) (fun c8 => ?_)
  · refine g_iconst (v := nI 0) C dX2_sameLines_13 (by decide) ?_
    refine g_istore_n C dX2_sameLines_14 (by decide) rfl (ll' := [some (.ref h), some (.ref h), some (.int (nI 0))]) rfl ?_
    have L15 : ∀ (n15 : Nat) (j : Nat), n - j < n15 → (j ≤ n) → gg E rm_c_X2_sameLines_self 3 X 0 0 15 [some (.ref h), some (.ref h), some (.int (nI j))] [] [gO h 2 [.ref a0, .ref a1, .ref a2, .int (nI n)], gA E a0 12 sa, gA E a1 12 sk, gA E a2 12 ru] := by
      intro n15
      induction n15 with
      | zero => intro j hm15; exact absurd hm15 (Nat.not_lt_zero _)
      | succ n15 ih15 =>
        intro j hm15 hj
        refine g_iload_n C dX2_sameLines_15 rfl ?_
        refine g_aload_n C dX2_sameLines_16 rfl ?_
        refine g_get C i_X2 0 3 f_21 rfl rfl (by decide) rfl rfl dX2_sameLines_17 ?_
        refine g_icmp_ge_n (tgt := 61) C dX2_sameLines_20 (by decide) (by omega) (by omega) (fun c20 => ?_) (fun c20 => ?_)
        · refine g_iconst (v := nI 1) C dX2_sameLines_61 (by decide) ?_
          exact g_zret C Rt dX2_sameLines_62 (by decide) (by decide) (by decide) (⟨rfl, rfl⟩)
        · refine g_aload_n C dX2_sameLines_23 rfl ?_
          refine g_get C i_X2 0 0 f_9 rfl rfl (by decide) rfl rfl dX2_sameLines_24 ?_
          refine g_iload_n C dX2_sameLines_27 rfl ?_
          refine g_iald C 1 j rfl rfl (by omega) (by decide) dX2_sameLines_28 ?_
          refine g_aload_n C dX2_sameLines_29 rfl ?_
          refine g_get C i_X2 0 0 f_9 rfl rfl (by decide) rfl rfl dX2_sameLines_30 ?_
          refine g_iload_n C dX2_sameLines_33 rfl ?_
          refine g_iald C 1 j rfl rfl (by omega) (by decide) dX2_sameLines_34 ?_
          refine g_icmp_ne (tgt := 53) C dX2_sameLines_35 (by decide) (fun c35 => ?_) (fun c35 => ?_)
          · exact absurd rfl c35
          · refine g_aload_n C dX2_sameLines_38 rfl ?_
            refine g_get C i_X2 0 1 f_15 rfl rfl (by decide) rfl rfl dX2_sameLines_39 ?_
            refine g_iload_n C dX2_sameLines_42 rfl ?_
            refine g_iald C 2 j rfl rfl (by omega) (by decide) dX2_sameLines_43 ?_
            refine g_aload_n C dX2_sameLines_44 rfl ?_
            refine g_get C i_X2 0 1 f_15 rfl rfl (by decide) rfl rfl dX2_sameLines_45 ?_
            refine g_iload_n C dX2_sameLines_48 rfl ?_
            refine g_iald C 2 j rfl rfl (by omega) (by decide) dX2_sameLines_49 ?_
            refine g_icmp_eq (tgt := 55) C dX2_sameLines_50 (by decide) (fun c50 => ?_) (fun c50 => ?_)
            · refine g_iinc_n (y := 1) C dX2_sameLines_55 rfl (by decide) (by decide) rfl (ll' := [some (.ref h), some (.ref h), some (.int (nI (j + 1)))]) rfl ?_
              refine g_goto (tgt := 15) C dX2_sameLines_58 (by decide) ?_
              exact ih15 (j + 1) (by omega) (by omega)
            · exact absurd rfl c50
    exact L15 _ 0 (Nat.lt_succ_self _) (by omega)
  · exact absurd rfl c8

abbrev rm_c_X9_alike_ok : Room := { frames := 6, cells := 0, slots := 0, locals := 138 }
set_option maxHeartbeats 4000000 in
set_option maxRecDepth 100000 in
theorem c_X9_alike_ok (E : gE) (m f0 f1 f2 f3 f4 f5 f6 f7 f8 f9 f10 : Nat) (a0 a1 a2 a3 a4 : Nat) (cnt : Nat) (ms sk pt md ri : Nat → Int32) (jb jh : Nat) (jp : Nat → Int32) (k0 k1 k2 k3 nr us : Nat) (bs bk st co : Nat → Int32) (pg x0 x1 x2 : Nat → Nat) (n : Nat) (sa ss ru : Nat → Int32) (gr : Nat → Nat) (w0 w1 w2 w3 w4 : Nat → Int32) (sn : Nat → Nat) (P : Nat) (Q n2 : Nat) (sa_ ss_ ru_ : Nat → Int32) (hcnt : cnt ≤ 10) (hP : P < 8) (hms : okM ms cnt) (hmd : ∀ s, s < 5 → md s = meV ms sk pt cnt s) (hnr : nr ≤ 12) (hst : ∀ q, q ≤ nr → st q = nI (sn q)) (hok : okB nr sn co) (hQ : Q < 8) : MM E yX9_alike wsX9_alike rm_c_X9_alike_ok [.ref m, .int (nI P), .int (nI Q)] [gO m 9 [.ref f0, .ref f1, .ref f2, .ref f3, .ref f4, .ref f5, .ref f6, .ref f7, .ref f8, .ref f9, .ref f10], gO f0 3 [.ref a0, .ref a1, .ref a2, .ref a3, .ref a4, .int (nI cnt)], gA E a0 10 ms, gA E a1 10 sk, gA E a2 80 pt, gA E a3 5 md, gA E a4 8 ri, gO f3 0 [.ref jb, .int (nI jh)], gA E jb 32 jp, gO f10 4 [.ref k0, .ref k1, .ref k2, .ref k3, .int (nI nr), .int (nI us)], gA E k0 12 bs, gA E k1 12 bk, gA E k2 13 st, gA E k3 600 co, gRow E f6 8 (fun i => some (pg i)), gO (pg P) 2 [.ref (x0 P), .ref (x1 P), .ref (x2 P), .int (nI n)], gA E (x0 P) 12 sa, gA E (x1 P) 12 ss, gA E (x2 P) 12 ru, gGrid E f7 5 (fun i => some (gr i)), gA E (gr 0) 5 w0, gA E (gr 1) 5 w1, gA E (gr 2) 5 w2, gA E (gr 3) 5 w3, gA E (gr 4) 5 w4, gO (pg Q) 2 [.ref (x0 Q), .ref (x1 Q), .ref (x2 Q), .int (nI n2)], gA E (x0 Q) 12 sa_, gA E (x1 Q) 12 ss_, gA E (x2 Q) 12 ru_] (fun rv_ ru_ => ∃ (jh2 : Nat) (jp2 sa2 ss2 ru2 v0 v1 v2 v3 v4 sa3 ss3 ru3 : Nat → Int32), rv_ = some (.int (b2i (alL bs (pgA bs bk (soF (ioF ms sk pt cnt P) co sn) (fun s => mkN sk pt P s cnt) nr) (pgA bs bk (soF (ioF ms sk pt cnt Q) co sn) (fun s => mkN sk pt Q s cnt) nr)))) ∧ ru_ = [gO m 9 [.ref f0, .ref f1, .ref f2, .ref f3, .ref f4, .ref f5, .ref f6, .ref f7, .ref f8, .ref f9, .ref f10], gO f0 3 [.ref a0, .ref a1, .ref a2, .ref a3, .ref a4, .int (nI cnt)], gA E a0 10 ms, gA E a1 10 sk, gA E a2 80 pt, gA E a3 5 md, gA E a4 8 ri, gO f3 0 [.ref jb, .int (nI jh2)], gA E jb 32 jp2, gO f10 4 [.ref k0, .ref k1, .ref k2, .ref k3, .int (nI nr), .int (nI us)], gA E k0 12 bs, gA E k1 12 bk, gA E k2 13 st, gA E k3 600 co, gRow E f6 8 (fun i => some (pg i)), gO (pg P) 2 [.ref (x0 P), .ref (x1 P), .ref (x2 P), .int (nI ((pgA bs bk (soF (ioF ms sk pt cnt P) co sn) (fun s => mkN sk pt P s cnt) nr).length))], gA E (x0 P) 12 sa2, gA E (x1 P) 12 ss2, gA E (x2 P) 12 ru2, gGrid E f7 5 (fun i => some (gr i)), gA E (gr 0) 5 v0, gA E (gr 1) 5 v1, gA E (gr 2) 5 v2, gA E (gr 3) 5 v3, gA E (gr 4) 5 v4, gO (pg Q) 2 [.ref (x0 Q), .ref (x1 Q), .ref (x2 Q), .int (nI ((pgA bs bk (soF (ioF ms sk pt cnt Q) co sn) (fun s => mkN sk pt Q s cnt) nr).length))], gA E (x0 Q) 12 sa3, gA E (x1 Q) 12 ss3, gA E (x2 Q) 12 ru3]) := by
  refine MM.ofG (cc := cX9_alike) (maxL := 3) (ret := (some .int)) (by decide) rfl (Nat.le_of_ble_eq_true rfl) (ll := [some (.ref m), some (.int (nI P)), some (.int (nI Q))]) rfl ?_
  intro X C Rt
  have C : gx E X cX9_alike 3 wsX9_alike RX9 := C
  refine g_iload_n C dX9_alike_0 rfl ?_
  refine g_callS C (c_X9_isPupil_y E P (by omega)) gX9_alike_X9_isPupil rfl 1 (by decide +kernel) ⟨by decide, by decide⟩ ⟨by decide, by decide⟩ [] [0, 1, 2, 3, 4, 5, 6, 7, 8, 9, 10, 11, 12, 13, 14, 15, 16, 17, 18, 19, 20, 21, 22, 23, 24, 25, 26, 27, 28] (wr := [gO m 9 [.ref f0, .ref f1, .ref f2, .ref f3, .ref f4, .ref f5, .ref f6, .ref f7, .ref f8, .ref f9, .ref f10], gO f0 3 [.ref a0, .ref a1, .ref a2, .ref a3, .ref a4, .int (nI cnt)], gA E a0 10 ms, gA E a1 10 sk, gA E a2 80 pt, gA E a3 5 md, gA E a4 8 ri, gO f3 0 [.ref jb, .int (nI jh)], gA E jb 32 jp, gO f10 4 [.ref k0, .ref k1, .ref k2, .ref k3, .int (nI nr), .int (nI us)], gA E k0 12 bs, gA E k1 12 bk, gA E k2 13 st, gA E k3 600 co, gRow E f6 8 (fun i => some (pg i)), gO (pg P) 2 [.ref (x0 P), .ref (x1 P), .ref (x2 P), .int (nI n)], gA E (x0 P) 12 sa, gA E (x1 P) 12 ss, gA E (x2 P) 12 ru, gGrid E f7 5 (fun i => some (gr i)), gA E (gr 0) 5 w0, gA E (gr 1) 5 w1, gA E (gr 2) 5 w2, gA E (gr 3) 5 w3, gA E (gr 4) 5 w4, gO (pg Q) 2 [.ref (x0 Q), .ref (x1 Q), .ref (x2 Q), .int (nI n2)], gA E (x0 Q) 12 sa_, gA E (x1 Q) 12 ss_, gA E (x2 Q) 12 ru_]) rfl (by decide) rfl (by decide) (by decide) rfl rfl (Nat.le_of_ble_eq_true rfl) dX9_alike_1 ?_
  rintro _ _ ⟨rfl, rfl⟩
  show gg E _ 3 X 0 0 4 [some (.ref m), some (.int (nI P)), some (.int (nI Q))] [.int (nI 1)] [gO m 9 [.ref f0, .ref f1, .ref f2, .ref f3, .ref f4, .ref f5, .ref f6, .ref f7, .ref f8, .ref f9, .ref f10], gO f0 3 [.ref a0, .ref a1, .ref a2, .ref a3, .ref a4, .int (nI cnt)], gA E a0 10 ms, gA E a1 10 sk, gA E a2 80 pt, gA E a3 5 md, gA E a4 8 ri, gO f3 0 [.ref jb, .int (nI jh)], gA E jb 32 jp, gO f10 4 [.ref k0, .ref k1, .ref k2, .ref k3, .int (nI nr), .int (nI us)], gA E k0 12 bs, gA E k1 12 bk, gA E k2 13 st, gA E k3 600 co, gRow E f6 8 (fun i => some (pg i)), gO (pg P) 2 [.ref (x0 P), .ref (x1 P), .ref (x2 P), .int (nI n)], gA E (x0 P) 12 sa, gA E (x1 P) 12 ss, gA E (x2 P) 12 ru, gGrid E f7 5 (fun i => some (gr i)), gA E (gr 0) 5 w0, gA E (gr 1) 5 w1, gA E (gr 2) 5 w2, gA E (gr 3) 5 w3, gA E (gr 4) 5 w4, gO (pg Q) 2 [.ref (x0 Q), .ref (x1 Q), .ref (x2 Q), .int (nI n2)], gA E (x0 Q) 12 sa_, gA E (x1 Q) 12 ss_, gA E (x2 Q) 12 ru_]
  refine g_if_eq (tgt := 14) C dX9_alike_4 (by decide) (fun c4 => absurd c4 (by decide)) (fun c4 => ?_)
  refine g_iload_n C dX9_alike_7 rfl ?_
  refine g_callS C (c_X9_isPupil_y E Q (by omega)) gX9_alike_X9_isPupil rfl 1 (by decide +kernel) ⟨by decide, by decide⟩ ⟨by decide, by decide⟩ [] [0, 1, 2, 3, 4, 5, 6, 7, 8, 9, 10, 11, 12, 13, 14, 15, 16, 17, 18, 19, 20, 21, 22, 23, 24, 25, 26, 27, 28] (wr := [gO m 9 [.ref f0, .ref f1, .ref f2, .ref f3, .ref f4, .ref f5, .ref f6, .ref f7, .ref f8, .ref f9, .ref f10], gO f0 3 [.ref a0, .ref a1, .ref a2, .ref a3, .ref a4, .int (nI cnt)], gA E a0 10 ms, gA E a1 10 sk, gA E a2 80 pt, gA E a3 5 md, gA E a4 8 ri, gO f3 0 [.ref jb, .int (nI jh)], gA E jb 32 jp, gO f10 4 [.ref k0, .ref k1, .ref k2, .ref k3, .int (nI nr), .int (nI us)], gA E k0 12 bs, gA E k1 12 bk, gA E k2 13 st, gA E k3 600 co, gRow E f6 8 (fun i => some (pg i)), gO (pg P) 2 [.ref (x0 P), .ref (x1 P), .ref (x2 P), .int (nI n)], gA E (x0 P) 12 sa, gA E (x1 P) 12 ss, gA E (x2 P) 12 ru, gGrid E f7 5 (fun i => some (gr i)), gA E (gr 0) 5 w0, gA E (gr 1) 5 w1, gA E (gr 2) 5 w2, gA E (gr 3) 5 w3, gA E (gr 4) 5 w4, gO (pg Q) 2 [.ref (x0 Q), .ref (x1 Q), .ref (x2 Q), .int (nI n2)], gA E (x0 Q) 12 sa_, gA E (x1 Q) 12 ss_, gA E (x2 Q) 12 ru_]) rfl (by decide) rfl (by decide) (by decide) rfl rfl (Nat.le_of_ble_eq_true rfl) dX9_alike_8 ?_
  rintro _ _ ⟨rfl, rfl⟩
  show gg E _ 3 X 0 0 11 [some (.ref m), some (.int (nI P)), some (.int (nI Q))] [.int (nI 1)] [gO m 9 [.ref f0, .ref f1, .ref f2, .ref f3, .ref f4, .ref f5, .ref f6, .ref f7, .ref f8, .ref f9, .ref f10], gO f0 3 [.ref a0, .ref a1, .ref a2, .ref a3, .ref a4, .int (nI cnt)], gA E a0 10 ms, gA E a1 10 sk, gA E a2 80 pt, gA E a3 5 md, gA E a4 8 ri, gO f3 0 [.ref jb, .int (nI jh)], gA E jb 32 jp, gO f10 4 [.ref k0, .ref k1, .ref k2, .ref k3, .int (nI nr), .int (nI us)], gA E k0 12 bs, gA E k1 12 bk, gA E k2 13 st, gA E k3 600 co, gRow E f6 8 (fun i => some (pg i)), gO (pg P) 2 [.ref (x0 P), .ref (x1 P), .ref (x2 P), .int (nI n)], gA E (x0 P) 12 sa, gA E (x1 P) 12 ss, gA E (x2 P) 12 ru, gGrid E f7 5 (fun i => some (gr i)), gA E (gr 0) 5 w0, gA E (gr 1) 5 w1, gA E (gr 2) 5 w2, gA E (gr 3) 5 w3, gA E (gr 4) 5 w4, gO (pg Q) 2 [.ref (x0 Q), .ref (x1 Q), .ref (x2 Q), .int (nI n2)], gA E (x0 Q) 12 sa_, gA E (x1 Q) 12 ss_, gA E (x2 Q) 12 ru_]
  refine g_if_ne (tgt := 16) C dX9_alike_11 (by decide) (fun c11 => ?_) (fun c11 => absurd c11 (by decide))
  refine g_aload_n C dX9_alike_16 rfl ?_
  refine g_iload_n C dX9_alike_17 rfl ?_
  refine g_callV C (c_X9_freshPage E m f0 f1 f2 f3 f4 f5 f6 f7 f8 f9 f10 a0 a1 a2 a3 a4 cnt ms sk pt md ri jb jh jp k0 k1 k2 k3 nr us bs bk st co pg x0 x1 x2 n sa ss ru gr w0 w1 w2 w3 w4 sn P (by omega) (by omega) (hms) (hmd) (by omega) (hst) (hok)) gX9_alike_X9_freshPage rfl 1 (by decide +kernel) ⟨by decide, by decide⟩ ⟨by decide, by decide⟩ 0 rfl rfl [0, 1, 2, 3, 4, 5, 6, 7, 8, 9, 10, 11, 12, 13, 14, 15, 16, 17, 18, 19, 20, 21, 22, 23, 24] [25, 26, 27, 28] (wr := [gO (pg Q) 2 [.ref (x0 Q), .ref (x1 Q), .ref (x2 Q), .int (nI n2)], gA E (x0 Q) 12 sa_, gA E (x1 Q) 12 ss_, gA E (x2 Q) 12 ru_]) rfl (by decide) rfl (by decide) (by decide) rfl rfl (Nat.le_of_ble_eq_true rfl) dX9_alike_18 ?_
  rintro _ _ ⟨jh2_18, jp2_18, sa2_18, ss2_18, ru2_18, v0_18, v1_18, v2_18, v3_18, v4_18, rfl, rfl, hp_18, hv0_18, hv1_18, hv2_18, hv3_18, hv4_18⟩
  refine gg.perm (ws' := [gO m 9 [.ref f0, .ref f1, .ref f2, .ref f3, .ref f4, .ref f5, .ref f6, .ref f7, .ref f8, .ref f9, .ref f10], gO f0 3 [.ref a0, .ref a1, .ref a2, .ref a3, .ref a4, .int (nI cnt)], gA E a0 10 ms, gA E a1 10 sk, gA E a2 80 pt, gA E a3 5 md, gA E a4 8 ri, gO f3 0 [.ref jb, .int (nI jh2_18)], gA E jb 32 jp2_18, gO f10 4 [.ref k0, .ref k1, .ref k2, .ref k3, .int (nI nr), .int (nI us)], gA E k0 12 bs, gA E k1 12 bk, gA E k2 13 st, gA E k3 600 co, gRow E f6 8 (fun i => some (pg i)), gO (pg P) 2 [.ref (x0 P), .ref (x1 P), .ref (x2 P), .int (nI ((pgA bs bk (soF (ioF ms sk pt cnt P) co sn) (fun s => mkN sk pt P s cnt) nr).length))], gA E (x0 P) 12 sa2_18, gA E (x1 P) 12 ss2_18, gA E (x2 P) 12 ru2_18, gGrid E f7 5 (fun i => some (gr i)), gA E (gr 0) 5 v0_18, gA E (gr 1) 5 v1_18, gA E (gr 2) 5 v2_18, gA E (gr 3) 5 v3_18, gA E (gr 4) 5 v4_18, gO (pg Q) 2 [.ref (x0 Q), .ref (x1 Q), .ref (x2 Q), .int (nI n2)], gA E (x0 Q) 12 sa_, gA E (x1 Q) 12 ss_, gA E (x2 Q) 12 ru_]) [4, 5, 6, 7, 8, 9, 10, 11, 12, 13, 14, 15, 16, 17, 18, 19, 20, 21, 22, 23, 24, 25, 26, 27, 28, 0, 1, 2, 3] (by decide) rfl ?_
  show gg E _ 3 X 0 0 21 [some (.ref m), some (.int (nI P)), some (.int (nI Q))] [.ref (pg P)] [gO m 9 [.ref f0, .ref f1, .ref f2, .ref f3, .ref f4, .ref f5, .ref f6, .ref f7, .ref f8, .ref f9, .ref f10], gO f0 3 [.ref a0, .ref a1, .ref a2, .ref a3, .ref a4, .int (nI cnt)], gA E a0 10 ms, gA E a1 10 sk, gA E a2 80 pt, gA E a3 5 md, gA E a4 8 ri, gO f3 0 [.ref jb, .int (nI jh2_18)], gA E jb 32 jp2_18, gO f10 4 [.ref k0, .ref k1, .ref k2, .ref k3, .int (nI nr), .int (nI us)], gA E k0 12 bs, gA E k1 12 bk, gA E k2 13 st, gA E k3 600 co, gRow E f6 8 (fun i => some (pg i)), gO (pg P) 2 [.ref (x0 P), .ref (x1 P), .ref (x2 P), .int (nI ((pgA bs bk (soF (ioF ms sk pt cnt P) co sn) (fun s => mkN sk pt P s cnt) nr).length))], gA E (x0 P) 12 sa2_18, gA E (x1 P) 12 ss2_18, gA E (x2 P) 12 ru2_18, gGrid E f7 5 (fun i => some (gr i)), gA E (gr 0) 5 v0_18, gA E (gr 1) 5 v1_18, gA E (gr 2) 5 v2_18, gA E (gr 3) 5 v3_18, gA E (gr 4) 5 v4_18, gO (pg Q) 2 [.ref (x0 Q), .ref (x1 Q), .ref (x2 Q), .int (nI n2)], gA E (x0 Q) 12 sa_, gA E (x1 Q) 12 ss_, gA E (x2 Q) 12 ru_]
  refine g_aload_n C dX9_alike_21 rfl ?_
  refine g_iload_n C dX9_alike_22 rfl ?_
  refine g_callV C (c_X9_freshPage E m f0 f1 f2 f3 f4 f5 f6 f7 f8 f9 f10 a0 a1 a2 a3 a4 cnt ms sk pt md ri jb jh2_18 jp2_18 k0 k1 k2 k3 nr us bs bk st co pg x0 x1 x2 n2 sa_ ss_ ru_ gr v0_18 v1_18 v2_18 v3_18 v4_18 sn Q (by omega) (by omega) (hms) (hmd) (by omega) (hst) (hok)) gX9_alike_X9_freshPage rfl 1 (by decide +kernel) ⟨by decide, by decide⟩ ⟨by decide, by decide⟩ 0 rfl rfl [0, 1, 2, 3, 4, 5, 6, 7, 8, 9, 10, 11, 12, 13, 14, 25, 26, 27, 28, 19, 20, 21, 22, 23, 24] [15, 16, 17, 18] (wr := [gO (pg P) 2 [.ref (x0 P), .ref (x1 P), .ref (x2 P), .int (nI ((pgA bs bk (soF (ioF ms sk pt cnt P) co sn) (fun s => mkN sk pt P s cnt) nr).length))], gA E (x0 P) 12 sa2_18, gA E (x1 P) 12 ss2_18, gA E (x2 P) 12 ru2_18]) rfl (by decide) rfl (by decide) (by decide) rfl rfl (Nat.le_of_ble_eq_true rfl) dX9_alike_23 ?_
  rintro _ _ ⟨jh2_23, jp2_23, sa2_23, ss2_23, ru2_23, v0_23, v1_23, v2_23, v3_23, v4_23, rfl, rfl, hp_23, hv0_23, hv1_23, hv2_23, hv3_23, hv4_23⟩
  refine gg.perm (ws' := [gO m 9 [.ref f0, .ref f1, .ref f2, .ref f3, .ref f4, .ref f5, .ref f6, .ref f7, .ref f8, .ref f9, .ref f10], gO f0 3 [.ref a0, .ref a1, .ref a2, .ref a3, .ref a4, .int (nI cnt)], gA E a0 10 ms, gA E a1 10 sk, gA E a2 80 pt, gA E a3 5 md, gA E a4 8 ri, gO f3 0 [.ref jb, .int (nI jh2_23)], gA E jb 32 jp2_23, gO f10 4 [.ref k0, .ref k1, .ref k2, .ref k3, .int (nI nr), .int (nI us)], gA E k0 12 bs, gA E k1 12 bk, gA E k2 13 st, gA E k3 600 co, gRow E f6 8 (fun i => some (pg i)), gO (pg P) 2 [.ref (x0 P), .ref (x1 P), .ref (x2 P), .int (nI ((pgA bs bk (soF (ioF ms sk pt cnt P) co sn) (fun s => mkN sk pt P s cnt) nr).length))], gA E (x0 P) 12 sa2_18, gA E (x1 P) 12 ss2_18, gA E (x2 P) 12 ru2_18, gGrid E f7 5 (fun i => some (gr i)), gA E (gr 0) 5 v0_23, gA E (gr 1) 5 v1_23, gA E (gr 2) 5 v2_23, gA E (gr 3) 5 v3_23, gA E (gr 4) 5 v4_23, gO (pg Q) 2 [.ref (x0 Q), .ref (x1 Q), .ref (x2 Q), .int (nI ((pgA bs bk (soF (ioF ms sk pt cnt Q) co sn) (fun s => mkN sk pt Q s cnt) nr).length))], gA E (x0 Q) 12 sa2_23, gA E (x1 Q) 12 ss2_23, gA E (x2 Q) 12 ru2_23]) [4, 5, 6, 7, 8, 9, 10, 11, 12, 13, 14, 15, 16, 17, 18, 0, 1, 2, 3, 23, 24, 25, 26, 27, 28, 19, 20, 21, 22] (by decide) rfl ?_
  show gg E _ 3 X 0 0 26 [some (.ref m), some (.int (nI P)), some (.int (nI Q))] [.ref (pg Q), .ref (pg P)] [gO m 9 [.ref f0, .ref f1, .ref f2, .ref f3, .ref f4, .ref f5, .ref f6, .ref f7, .ref f8, .ref f9, .ref f10], gO f0 3 [.ref a0, .ref a1, .ref a2, .ref a3, .ref a4, .int (nI cnt)], gA E a0 10 ms, gA E a1 10 sk, gA E a2 80 pt, gA E a3 5 md, gA E a4 8 ri, gO f3 0 [.ref jb, .int (nI jh2_23)], gA E jb 32 jp2_23, gO f10 4 [.ref k0, .ref k1, .ref k2, .ref k3, .int (nI nr), .int (nI us)], gA E k0 12 bs, gA E k1 12 bk, gA E k2 13 st, gA E k3 600 co, gRow E f6 8 (fun i => some (pg i)), gO (pg P) 2 [.ref (x0 P), .ref (x1 P), .ref (x2 P), .int (nI ((pgA bs bk (soF (ioF ms sk pt cnt P) co sn) (fun s => mkN sk pt P s cnt) nr).length))], gA E (x0 P) 12 sa2_18, gA E (x1 P) 12 ss2_18, gA E (x2 P) 12 ru2_18, gGrid E f7 5 (fun i => some (gr i)), gA E (gr 0) 5 v0_23, gA E (gr 1) 5 v1_23, gA E (gr 2) 5 v2_23, gA E (gr 3) 5 v3_23, gA E (gr 4) 5 v4_23, gO (pg Q) 2 [.ref (x0 Q), .ref (x1 Q), .ref (x2 Q), .int (nI ((pgA bs bk (soF (ioF ms sk pt cnt Q) co sn) (fun s => mkN sk pt Q s cnt) nr).length))], gA E (x0 Q) 12 sa2_23, gA E (x1 Q) 12 ss2_23, gA E (x2 Q) 12 ru2_23]
  refine g_callV C (c_X2_sameLines E (pg P) (x0 P) (x1 P) (x2 P) ((pgA bs bk (soF (ioF ms sk pt cnt P) co sn) (fun s => mkN sk pt P s cnt) nr).length) (pg Q) (x0 Q) (x1 Q) (x2 Q) ((pgA bs bk (soF (ioF ms sk pt cnt Q) co sn) (fun s => mkN sk pt Q s cnt) nr).length) sa2_18 ss2_18 ru2_18 sa2_23 ss2_23 ru2_23 (pgA_len nr) (pgA_len nr)) gX9_alike_X2_sameLines rfl 1 (by decide +kernel) ⟨by decide, by decide⟩ ⟨by decide, by decide⟩ 15 rfl rfl [15, 16, 17, 18, 25, 26, 27, 28] [0, 1, 2, 3, 4, 5, 6, 7, 8, 9, 10, 11, 12, 13, 14, 19, 20, 21, 22, 23, 24] (wr := [gO m 9 [.ref f0, .ref f1, .ref f2, .ref f3, .ref f4, .ref f5, .ref f6, .ref f7, .ref f8, .ref f9, .ref f10], gO f0 3 [.ref a0, .ref a1, .ref a2, .ref a3, .ref a4, .int (nI cnt)], gA E a0 10 ms, gA E a1 10 sk, gA E a2 80 pt, gA E a3 5 md, gA E a4 8 ri, gO f3 0 [.ref jb, .int (nI jh2_23)], gA E jb 32 jp2_23, gO f10 4 [.ref k0, .ref k1, .ref k2, .ref k3, .int (nI nr), .int (nI us)], gA E k0 12 bs, gA E k1 12 bk, gA E k2 13 st, gA E k3 600 co, gRow E f6 8 (fun i => some (pg i)), gGrid E f7 5 (fun i => some (gr i)), gA E (gr 0) 5 v0_23, gA E (gr 1) 5 v1_23, gA E (gr 2) 5 v2_23, gA E (gr 3) 5 v3_23, gA E (gr 4) 5 v4_23]) rfl (by decide) rfl (by decide) (by decide) rfl rfl (Nat.le_of_ble_eq_true rfl) dX9_alike_26 ?_
  rintro _ _ ⟨rfl, rfl⟩
  refine gg.perm (ws' := [gO m 9 [.ref f0, .ref f1, .ref f2, .ref f3, .ref f4, .ref f5, .ref f6, .ref f7, .ref f8, .ref f9, .ref f10], gO f0 3 [.ref a0, .ref a1, .ref a2, .ref a3, .ref a4, .int (nI cnt)], gA E a0 10 ms, gA E a1 10 sk, gA E a2 80 pt, gA E a3 5 md, gA E a4 8 ri, gO f3 0 [.ref jb, .int (nI jh2_23)], gA E jb 32 jp2_23, gO f10 4 [.ref k0, .ref k1, .ref k2, .ref k3, .int (nI nr), .int (nI us)], gA E k0 12 bs, gA E k1 12 bk, gA E k2 13 st, gA E k3 600 co, gRow E f6 8 (fun i => some (pg i)), gO (pg P) 2 [.ref (x0 P), .ref (x1 P), .ref (x2 P), .int (nI ((pgA bs bk (soF (ioF ms sk pt cnt P) co sn) (fun s => mkN sk pt P s cnt) nr).length))], gA E (x0 P) 12 sa2_18, gA E (x1 P) 12 ss2_18, gA E (x2 P) 12 ru2_18, gGrid E f7 5 (fun i => some (gr i)), gA E (gr 0) 5 v0_23, gA E (gr 1) 5 v1_23, gA E (gr 2) 5 v2_23, gA E (gr 3) 5 v3_23, gA E (gr 4) 5 v4_23, gO (pg Q) 2 [.ref (x0 Q), .ref (x1 Q), .ref (x2 Q), .int (nI ((pgA bs bk (soF (ioF ms sk pt cnt Q) co sn) (fun s => mkN sk pt Q s cnt) nr).length))], gA E (x0 Q) 12 sa2_23, gA E (x1 Q) 12 ss2_23, gA E (x2 Q) 12 ru2_23]) [0, 1, 2, 3, 4, 5, 6, 7, 8, 9, 10, 11, 12, 13, 14, 21, 22, 23, 24, 15, 16, 17, 18, 19, 20, 25, 26, 27, 28] (by decide) rfl ?_
  show gg E _ 3 X 0 0 29 [some (.ref m), some (.int (nI P)), some (.int (nI Q))] [.int (b2i (decide (((pgA bs bk (soF (ioF ms sk pt cnt P) co sn) (fun s => mkN sk pt P s cnt) nr).length) = ((pgA bs bk (soF (ioF ms sk pt cnt Q) co sn) (fun s => mkN sk pt Q s cnt) nr).length)) && smL sa2_18 ss2_18 sa2_23 ss2_23 ((pgA bs bk (soF (ioF ms sk pt cnt P) co sn) (fun s => mkN sk pt P s cnt) nr).length)))] [gO m 9 [.ref f0, .ref f1, .ref f2, .ref f3, .ref f4, .ref f5, .ref f6, .ref f7, .ref f8, .ref f9, .ref f10], gO f0 3 [.ref a0, .ref a1, .ref a2, .ref a3, .ref a4, .int (nI cnt)], gA E a0 10 ms, gA E a1 10 sk, gA E a2 80 pt, gA E a3 5 md, gA E a4 8 ri, gO f3 0 [.ref jb, .int (nI jh2_23)], gA E jb 32 jp2_23, gO f10 4 [.ref k0, .ref k1, .ref k2, .ref k3, .int (nI nr), .int (nI us)], gA E k0 12 bs, gA E k1 12 bk, gA E k2 13 st, gA E k3 600 co, gRow E f6 8 (fun i => some (pg i)), gO (pg P) 2 [.ref (x0 P), .ref (x1 P), .ref (x2 P), .int (nI ((pgA bs bk (soF (ioF ms sk pt cnt P) co sn) (fun s => mkN sk pt P s cnt) nr).length))], gA E (x0 P) 12 sa2_18, gA E (x1 P) 12 ss2_18, gA E (x2 P) 12 ru2_18, gGrid E f7 5 (fun i => some (gr i)), gA E (gr 0) 5 v0_23, gA E (gr 1) 5 v1_23, gA E (gr 2) 5 v2_23, gA E (gr 3) 5 v3_23, gA E (gr 4) 5 v4_23, gO (pg Q) 2 [.ref (x0 Q), .ref (x1 Q), .ref (x2 Q), .int (nI ((pgA bs bk (soF (ioF ms sk pt cnt Q) co sn) (fun s => mkN sk pt Q s cnt) nr).length))], gA E (x0 Q) 12 sa2_23, gA E (x1 Q) 12 ss2_23, gA E (x2 Q) 12 ru2_23]
  refine g_if_eq (tgt := 36) C dX9_alike_29 (by decide) (fun c29 => ?_) (fun c29 => ?_)
  · refine g_iconst (v := nI 0) C dX9_alike_36 (by decide) ?_
    exact g_iret C Rt dX9_alike_37 (by decide) (by decide) (⟨_, _, _, _, _, _, _, _, _, _, _, _, _, by rw [← al_rows hp_18 hp_23, b2i_f.mp c29]; rfl, rfl⟩)
  · refine g_iconst (v := nI 1) C dX9_alike_32 (by decide) ?_
    refine g_goto (tgt := 37) C dX9_alike_33 (by decide) ?_
    exact g_iret C Rt dX9_alike_37 (by decide) (by decide) (⟨_, _, _, _, _, _, _, _, _, _, _, _, _, by rw [← al_rows hp_18 hp_23, b2i_t.mp c29]; rfl, rfl⟩)

abbrev rm_c_X9_alike_self : Room := { frames := 6, cells := 0, slots := 0, locals := 138 }
set_option maxHeartbeats 4000000 in
set_option maxRecDepth 100000 in
theorem c_X9_alike_self (E : gE) (m f0 f1 f2 f3 f4 f5 f6 f7 f8 f9 f10 : Nat) (a0 a1 a2 a3 a4 : Nat) (cnt : Nat) (ms sk pt md ri : Nat → Int32) (jb jh : Nat) (jp : Nat → Int32) (k0 k1 k2 k3 nr us : Nat) (bs bk st co : Nat → Int32) (pg x0 x1 x2 : Nat → Nat) (n : Nat) (sa ss ru : Nat → Int32) (gr : Nat → Nat) (w0 w1 w2 w3 w4 : Nat → Int32) (sn : Nat → Nat) (P : Nat) (hcnt : cnt ≤ 10) (hP : P < 8) (hms : okM ms cnt) (hmd : ∀ s, s < 5 → md s = meV ms sk pt cnt s) (hnr : nr ≤ 12) (hst : ∀ q, q ≤ nr → st q = nI (sn q)) (hok : okB nr sn co) : MM E yX9_alike wsX9_alike rm_c_X9_alike_self [.ref m, .int (nI P), .int (nI P)] [gO m 9 [.ref f0, .ref f1, .ref f2, .ref f3, .ref f4, .ref f5, .ref f6, .ref f7, .ref f8, .ref f9, .ref f10], gO f0 3 [.ref a0, .ref a1, .ref a2, .ref a3, .ref a4, .int (nI cnt)], gA E a0 10 ms, gA E a1 10 sk, gA E a2 80 pt, gA E a3 5 md, gA E a4 8 ri, gO f3 0 [.ref jb, .int (nI jh)], gA E jb 32 jp, gO f10 4 [.ref k0, .ref k1, .ref k2, .ref k3, .int (nI nr), .int (nI us)], gA E k0 12 bs, gA E k1 12 bk, gA E k2 13 st, gA E k3 600 co, gRow E f6 8 (fun i => some (pg i)), gO (pg P) 2 [.ref (x0 P), .ref (x1 P), .ref (x2 P), .int (nI n)], gA E (x0 P) 12 sa, gA E (x1 P) 12 ss, gA E (x2 P) 12 ru, gGrid E f7 5 (fun i => some (gr i)), gA E (gr 0) 5 w0, gA E (gr 1) 5 w1, gA E (gr 2) 5 w2, gA E (gr 3) 5 w3, gA E (gr 4) 5 w4] (fun rv_ ru_ => ∃ (jh2 : Nat) (jp2 sa2 ss2 ru2 v0 v1 v2 v3 v4 : Nat → Int32), rv_ = some (.int (b2i (alL bs (pgA bs bk (soF (ioF ms sk pt cnt P) co sn) (fun s => mkN sk pt P s cnt) nr) (pgA bs bk (soF (ioF ms sk pt cnt P) co sn) (fun s => mkN sk pt P s cnt) nr)))) ∧ ru_ = [gO m 9 [.ref f0, .ref f1, .ref f2, .ref f3, .ref f4, .ref f5, .ref f6, .ref f7, .ref f8, .ref f9, .ref f10], gO f0 3 [.ref a0, .ref a1, .ref a2, .ref a3, .ref a4, .int (nI cnt)], gA E a0 10 ms, gA E a1 10 sk, gA E a2 80 pt, gA E a3 5 md, gA E a4 8 ri, gO f3 0 [.ref jb, .int (nI jh2)], gA E jb 32 jp2, gO f10 4 [.ref k0, .ref k1, .ref k2, .ref k3, .int (nI nr), .int (nI us)], gA E k0 12 bs, gA E k1 12 bk, gA E k2 13 st, gA E k3 600 co, gRow E f6 8 (fun i => some (pg i)), gO (pg P) 2 [.ref (x0 P), .ref (x1 P), .ref (x2 P), .int (nI ((pgA bs bk (soF (ioF ms sk pt cnt P) co sn) (fun s => mkN sk pt P s cnt) nr).length))], gA E (x0 P) 12 sa2, gA E (x1 P) 12 ss2, gA E (x2 P) 12 ru2, gGrid E f7 5 (fun i => some (gr i)), gA E (gr 0) 5 v0, gA E (gr 1) 5 v1, gA E (gr 2) 5 v2, gA E (gr 3) 5 v3, gA E (gr 4) 5 v4]) := by
  refine MM.ofG (cc := cX9_alike) (maxL := 3) (ret := (some .int)) (by decide) rfl (Nat.le_of_ble_eq_true rfl) (ll := [some (.ref m), some (.int (nI P)), some (.int (nI P))]) rfl ?_
  intro X C Rt
  have C : gx E X cX9_alike 3 wsX9_alike RX9 := C
  refine g_iload_n C dX9_alike_0 rfl ?_
  refine g_callS C (c_X9_isPupil_y E P (by omega)) gX9_alike_X9_isPupil rfl 1 (by decide +kernel) ⟨by decide, by decide⟩ ⟨by decide, by decide⟩ [] [0, 1, 2, 3, 4, 5, 6, 7, 8, 9, 10, 11, 12, 13, 14, 15, 16, 17, 18, 19, 20, 21, 22, 23, 24] (wr := [gO m 9 [.ref f0, .ref f1, .ref f2, .ref f3, .ref f4, .ref f5, .ref f6, .ref f7, .ref f8, .ref f9, .ref f10], gO f0 3 [.ref a0, .ref a1, .ref a2, .ref a3, .ref a4, .int (nI cnt)], gA E a0 10 ms, gA E a1 10 sk, gA E a2 80 pt, gA E a3 5 md, gA E a4 8 ri, gO f3 0 [.ref jb, .int (nI jh)], gA E jb 32 jp, gO f10 4 [.ref k0, .ref k1, .ref k2, .ref k3, .int (nI nr), .int (nI us)], gA E k0 12 bs, gA E k1 12 bk, gA E k2 13 st, gA E k3 600 co, gRow E f6 8 (fun i => some (pg i)), gO (pg P) 2 [.ref (x0 P), .ref (x1 P), .ref (x2 P), .int (nI n)], gA E (x0 P) 12 sa, gA E (x1 P) 12 ss, gA E (x2 P) 12 ru, gGrid E f7 5 (fun i => some (gr i)), gA E (gr 0) 5 w0, gA E (gr 1) 5 w1, gA E (gr 2) 5 w2, gA E (gr 3) 5 w3, gA E (gr 4) 5 w4]) rfl (by decide) rfl (by decide) (by decide) rfl rfl (Nat.le_of_ble_eq_true rfl) dX9_alike_1 ?_
  rintro _ _ ⟨rfl, rfl⟩
  show gg E _ 3 X 0 0 4 [some (.ref m), some (.int (nI P)), some (.int (nI P))] [.int (nI 1)] [gO m 9 [.ref f0, .ref f1, .ref f2, .ref f3, .ref f4, .ref f5, .ref f6, .ref f7, .ref f8, .ref f9, .ref f10], gO f0 3 [.ref a0, .ref a1, .ref a2, .ref a3, .ref a4, .int (nI cnt)], gA E a0 10 ms, gA E a1 10 sk, gA E a2 80 pt, gA E a3 5 md, gA E a4 8 ri, gO f3 0 [.ref jb, .int (nI jh)], gA E jb 32 jp, gO f10 4 [.ref k0, .ref k1, .ref k2, .ref k3, .int (nI nr), .int (nI us)], gA E k0 12 bs, gA E k1 12 bk, gA E k2 13 st, gA E k3 600 co, gRow E f6 8 (fun i => some (pg i)), gO (pg P) 2 [.ref (x0 P), .ref (x1 P), .ref (x2 P), .int (nI n)], gA E (x0 P) 12 sa, gA E (x1 P) 12 ss, gA E (x2 P) 12 ru, gGrid E f7 5 (fun i => some (gr i)), gA E (gr 0) 5 w0, gA E (gr 1) 5 w1, gA E (gr 2) 5 w2, gA E (gr 3) 5 w3, gA E (gr 4) 5 w4]
  refine g_if_eq (tgt := 14) C dX9_alike_4 (by decide) (fun c4 => absurd c4 (by decide)) (fun c4 => ?_)
  refine g_iload_n C dX9_alike_7 rfl ?_
  refine g_callS C (c_X9_isPupil_y E P (by omega)) gX9_alike_X9_isPupil rfl 1 (by decide +kernel) ⟨by decide, by decide⟩ ⟨by decide, by decide⟩ [] [0, 1, 2, 3, 4, 5, 6, 7, 8, 9, 10, 11, 12, 13, 14, 15, 16, 17, 18, 19, 20, 21, 22, 23, 24] (wr := [gO m 9 [.ref f0, .ref f1, .ref f2, .ref f3, .ref f4, .ref f5, .ref f6, .ref f7, .ref f8, .ref f9, .ref f10], gO f0 3 [.ref a0, .ref a1, .ref a2, .ref a3, .ref a4, .int (nI cnt)], gA E a0 10 ms, gA E a1 10 sk, gA E a2 80 pt, gA E a3 5 md, gA E a4 8 ri, gO f3 0 [.ref jb, .int (nI jh)], gA E jb 32 jp, gO f10 4 [.ref k0, .ref k1, .ref k2, .ref k3, .int (nI nr), .int (nI us)], gA E k0 12 bs, gA E k1 12 bk, gA E k2 13 st, gA E k3 600 co, gRow E f6 8 (fun i => some (pg i)), gO (pg P) 2 [.ref (x0 P), .ref (x1 P), .ref (x2 P), .int (nI n)], gA E (x0 P) 12 sa, gA E (x1 P) 12 ss, gA E (x2 P) 12 ru, gGrid E f7 5 (fun i => some (gr i)), gA E (gr 0) 5 w0, gA E (gr 1) 5 w1, gA E (gr 2) 5 w2, gA E (gr 3) 5 w3, gA E (gr 4) 5 w4]) rfl (by decide) rfl (by decide) (by decide) rfl rfl (Nat.le_of_ble_eq_true rfl) dX9_alike_8 ?_
  rintro _ _ ⟨rfl, rfl⟩
  show gg E _ 3 X 0 0 11 [some (.ref m), some (.int (nI P)), some (.int (nI P))] [.int (nI 1)] [gO m 9 [.ref f0, .ref f1, .ref f2, .ref f3, .ref f4, .ref f5, .ref f6, .ref f7, .ref f8, .ref f9, .ref f10], gO f0 3 [.ref a0, .ref a1, .ref a2, .ref a3, .ref a4, .int (nI cnt)], gA E a0 10 ms, gA E a1 10 sk, gA E a2 80 pt, gA E a3 5 md, gA E a4 8 ri, gO f3 0 [.ref jb, .int (nI jh)], gA E jb 32 jp, gO f10 4 [.ref k0, .ref k1, .ref k2, .ref k3, .int (nI nr), .int (nI us)], gA E k0 12 bs, gA E k1 12 bk, gA E k2 13 st, gA E k3 600 co, gRow E f6 8 (fun i => some (pg i)), gO (pg P) 2 [.ref (x0 P), .ref (x1 P), .ref (x2 P), .int (nI n)], gA E (x0 P) 12 sa, gA E (x1 P) 12 ss, gA E (x2 P) 12 ru, gGrid E f7 5 (fun i => some (gr i)), gA E (gr 0) 5 w0, gA E (gr 1) 5 w1, gA E (gr 2) 5 w2, gA E (gr 3) 5 w3, gA E (gr 4) 5 w4]
  refine g_if_ne (tgt := 16) C dX9_alike_11 (by decide) (fun c11 => ?_) (fun c11 => absurd c11 (by decide))
  refine g_aload_n C dX9_alike_16 rfl ?_
  refine g_iload_n C dX9_alike_17 rfl ?_
  refine g_callV C (c_X9_freshPage E m f0 f1 f2 f3 f4 f5 f6 f7 f8 f9 f10 a0 a1 a2 a3 a4 cnt ms sk pt md ri jb jh jp k0 k1 k2 k3 nr us bs bk st co pg x0 x1 x2 n sa ss ru gr w0 w1 w2 w3 w4 sn P (by omega) (by omega) (hms) (hmd) (by omega) (hst) (hok)) gX9_alike_X9_freshPage rfl 1 (by decide +kernel) ⟨by decide, by decide⟩ ⟨by decide, by decide⟩ 0 rfl rfl [0, 1, 2, 3, 4, 5, 6, 7, 8, 9, 10, 11, 12, 13, 14, 15, 16, 17, 18, 19, 20, 21, 22, 23, 24] [] (wr := []) rfl (by decide) rfl (by decide) (by decide) rfl rfl (Nat.le_of_ble_eq_true rfl) dX9_alike_18 ?_
  rintro _ _ ⟨jh2_18, jp2_18, sa2_18, ss2_18, ru2_18, v0_18, v1_18, v2_18, v3_18, v4_18, rfl, rfl, hp_18, hv0_18, hv1_18, hv2_18, hv3_18, hv4_18⟩
  show gg E _ 3 X 0 0 21 [some (.ref m), some (.int (nI P)), some (.int (nI P))] [.ref (pg P)] [gO m 9 [.ref f0, .ref f1, .ref f2, .ref f3, .ref f4, .ref f5, .ref f6, .ref f7, .ref f8, .ref f9, .ref f10], gO f0 3 [.ref a0, .ref a1, .ref a2, .ref a3, .ref a4, .int (nI cnt)], gA E a0 10 ms, gA E a1 10 sk, gA E a2 80 pt, gA E a3 5 md, gA E a4 8 ri, gO f3 0 [.ref jb, .int (nI jh2_18)], gA E jb 32 jp2_18, gO f10 4 [.ref k0, .ref k1, .ref k2, .ref k3, .int (nI nr), .int (nI us)], gA E k0 12 bs, gA E k1 12 bk, gA E k2 13 st, gA E k3 600 co, gRow E f6 8 (fun i => some (pg i)), gO (pg P) 2 [.ref (x0 P), .ref (x1 P), .ref (x2 P), .int (nI ((pgA bs bk (soF (ioF ms sk pt cnt P) co sn) (fun s => mkN sk pt P s cnt) nr).length))], gA E (x0 P) 12 sa2_18, gA E (x1 P) 12 ss2_18, gA E (x2 P) 12 ru2_18, gGrid E f7 5 (fun i => some (gr i)), gA E (gr 0) 5 v0_18, gA E (gr 1) 5 v1_18, gA E (gr 2) 5 v2_18, gA E (gr 3) 5 v3_18, gA E (gr 4) 5 v4_18]
  refine g_aload_n C dX9_alike_21 rfl ?_
  refine g_iload_n C dX9_alike_22 rfl ?_
  refine g_callV C (c_X9_freshPage E m f0 f1 f2 f3 f4 f5 f6 f7 f8 f9 f10 a0 a1 a2 a3 a4 cnt ms sk pt md ri jb jh2_18 jp2_18 k0 k1 k2 k3 nr us bs bk st co pg x0 x1 x2 ((pgA bs bk (soF (ioF ms sk pt cnt P) co sn) (fun s => mkN sk pt P s cnt) nr).length) sa2_18 ss2_18 ru2_18 gr v0_18 v1_18 v2_18 v3_18 v4_18 sn P (by omega) (by omega) (hms) (hmd) (by omega) (hst) (hok)) gX9_alike_X9_freshPage rfl 1 (by decide +kernel) ⟨by decide, by decide⟩ ⟨by decide, by decide⟩ 0 rfl rfl [0, 1, 2, 3, 4, 5, 6, 7, 8, 9, 10, 11, 12, 13, 14, 15, 16, 17, 18, 19, 20, 21, 22, 23, 24] [] (wr := []) rfl (by decide) rfl (by decide) (by decide) rfl rfl (Nat.le_of_ble_eq_true rfl) dX9_alike_23 ?_
  rintro _ _ ⟨jh2_23, jp2_23, sa2_23, ss2_23, ru2_23, v0_23, v1_23, v2_23, v3_23, v4_23, rfl, rfl, hp_23, hv0_23, hv1_23, hv2_23, hv3_23, hv4_23⟩
  show gg E _ 3 X 0 0 26 [some (.ref m), some (.int (nI P)), some (.int (nI P))] [.ref (pg P), .ref (pg P)] [gO m 9 [.ref f0, .ref f1, .ref f2, .ref f3, .ref f4, .ref f5, .ref f6, .ref f7, .ref f8, .ref f9, .ref f10], gO f0 3 [.ref a0, .ref a1, .ref a2, .ref a3, .ref a4, .int (nI cnt)], gA E a0 10 ms, gA E a1 10 sk, gA E a2 80 pt, gA E a3 5 md, gA E a4 8 ri, gO f3 0 [.ref jb, .int (nI jh2_23)], gA E jb 32 jp2_23, gO f10 4 [.ref k0, .ref k1, .ref k2, .ref k3, .int (nI nr), .int (nI us)], gA E k0 12 bs, gA E k1 12 bk, gA E k2 13 st, gA E k3 600 co, gRow E f6 8 (fun i => some (pg i)), gO (pg P) 2 [.ref (x0 P), .ref (x1 P), .ref (x2 P), .int (nI ((pgA bs bk (soF (ioF ms sk pt cnt P) co sn) (fun s => mkN sk pt P s cnt) nr).length))], gA E (x0 P) 12 sa2_23, gA E (x1 P) 12 ss2_23, gA E (x2 P) 12 ru2_23, gGrid E f7 5 (fun i => some (gr i)), gA E (gr 0) 5 v0_23, gA E (gr 1) 5 v1_23, gA E (gr 2) 5 v2_23, gA E (gr 3) 5 v3_23, gA E (gr 4) 5 v4_23]
  refine g_callV C (c_X2_sameLines_self E (pg P) (x0 P) (x1 P) (x2 P) ((pgA bs bk (soF (ioF ms sk pt cnt P) co sn) (fun s => mkN sk pt P s cnt) nr).length) sa2_23 ss2_23 ru2_23 (pgA_len nr)) gX9_alike_X2_sameLines rfl 1 (by decide +kernel) ⟨by decide, by decide⟩ ⟨by decide, by decide⟩ 15 rfl rfl [15, 16, 17, 18] [0, 1, 2, 3, 4, 5, 6, 7, 8, 9, 10, 11, 12, 13, 14, 19, 20, 21, 22, 23, 24] (wr := [gO m 9 [.ref f0, .ref f1, .ref f2, .ref f3, .ref f4, .ref f5, .ref f6, .ref f7, .ref f8, .ref f9, .ref f10], gO f0 3 [.ref a0, .ref a1, .ref a2, .ref a3, .ref a4, .int (nI cnt)], gA E a0 10 ms, gA E a1 10 sk, gA E a2 80 pt, gA E a3 5 md, gA E a4 8 ri, gO f3 0 [.ref jb, .int (nI jh2_23)], gA E jb 32 jp2_23, gO f10 4 [.ref k0, .ref k1, .ref k2, .ref k3, .int (nI nr), .int (nI us)], gA E k0 12 bs, gA E k1 12 bk, gA E k2 13 st, gA E k3 600 co, gRow E f6 8 (fun i => some (pg i)), gGrid E f7 5 (fun i => some (gr i)), gA E (gr 0) 5 v0_23, gA E (gr 1) 5 v1_23, gA E (gr 2) 5 v2_23, gA E (gr 3) 5 v3_23, gA E (gr 4) 5 v4_23]) rfl (by decide) rfl (by decide) (by decide) rfl rfl (Nat.le_of_ble_eq_true rfl) dX9_alike_26 ?_
  rintro _ _ ⟨rfl, rfl⟩
  refine gg.perm (ws' := [gO m 9 [.ref f0, .ref f1, .ref f2, .ref f3, .ref f4, .ref f5, .ref f6, .ref f7, .ref f8, .ref f9, .ref f10], gO f0 3 [.ref a0, .ref a1, .ref a2, .ref a3, .ref a4, .int (nI cnt)], gA E a0 10 ms, gA E a1 10 sk, gA E a2 80 pt, gA E a3 5 md, gA E a4 8 ri, gO f3 0 [.ref jb, .int (nI jh2_23)], gA E jb 32 jp2_23, gO f10 4 [.ref k0, .ref k1, .ref k2, .ref k3, .int (nI nr), .int (nI us)], gA E k0 12 bs, gA E k1 12 bk, gA E k2 13 st, gA E k3 600 co, gRow E f6 8 (fun i => some (pg i)), gO (pg P) 2 [.ref (x0 P), .ref (x1 P), .ref (x2 P), .int (nI ((pgA bs bk (soF (ioF ms sk pt cnt P) co sn) (fun s => mkN sk pt P s cnt) nr).length))], gA E (x0 P) 12 sa2_23, gA E (x1 P) 12 ss2_23, gA E (x2 P) 12 ru2_23, gGrid E f7 5 (fun i => some (gr i)), gA E (gr 0) 5 v0_23, gA E (gr 1) 5 v1_23, gA E (gr 2) 5 v2_23, gA E (gr 3) 5 v3_23, gA E (gr 4) 5 v4_23]) [0, 1, 2, 3, 4, 5, 6, 7, 8, 9, 10, 11, 12, 13, 14, 21, 22, 23, 24, 15, 16, 17, 18, 19, 20] (by decide) rfl ?_
  show gg E _ 3 X 0 0 29 [some (.ref m), some (.int (nI P)), some (.int (nI P))] [.int (nI 1)] [gO m 9 [.ref f0, .ref f1, .ref f2, .ref f3, .ref f4, .ref f5, .ref f6, .ref f7, .ref f8, .ref f9, .ref f10], gO f0 3 [.ref a0, .ref a1, .ref a2, .ref a3, .ref a4, .int (nI cnt)], gA E a0 10 ms, gA E a1 10 sk, gA E a2 80 pt, gA E a3 5 md, gA E a4 8 ri, gO f3 0 [.ref jb, .int (nI jh2_23)], gA E jb 32 jp2_23, gO f10 4 [.ref k0, .ref k1, .ref k2, .ref k3, .int (nI nr), .int (nI us)], gA E k0 12 bs, gA E k1 12 bk, gA E k2 13 st, gA E k3 600 co, gRow E f6 8 (fun i => some (pg i)), gO (pg P) 2 [.ref (x0 P), .ref (x1 P), .ref (x2 P), .int (nI ((pgA bs bk (soF (ioF ms sk pt cnt P) co sn) (fun s => mkN sk pt P s cnt) nr).length))], gA E (x0 P) 12 sa2_23, gA E (x1 P) 12 ss2_23, gA E (x2 P) 12 ru2_23, gGrid E f7 5 (fun i => some (gr i)), gA E (gr 0) 5 v0_23, gA E (gr 1) 5 v1_23, gA E (gr 2) 5 v2_23, gA E (gr 3) 5 v3_23, gA E (gr 4) 5 v4_23]
  refine g_if_eq (tgt := 36) C dX9_alike_29 (by decide) (fun c29 => absurd c29 (by decide)) (fun c29 => ?_)
  refine g_iconst (v := nI 1) C dX9_alike_32 (by decide) ?_
  refine g_goto (tgt := 37) C dX9_alike_33 (by decide) ?_
  exact g_iret C Rt dX9_alike_37 (by decide) (by decide) (⟨_, _, _, _, _, _, _, _, _, _, by rw [alL_self]; rfl, rfl⟩)

abbrev rm_c_X9_alike_bad : Room := { frames := 6, cells := 0, slots := 0, locals := 138 }
set_option maxHeartbeats 4000000 in
set_option maxRecDepth 100000 in
theorem c_X9_alike_bad (E : gE) (m f0 f1 f2 f3 f4 f5 f6 f7 f8 f9 f10 : Nat) (p q : Int32) (hb : p < 0 ∨ nI 8 ≤ p ∨ q < 0 ∨ nI 8 ≤ q) : MM E yX9_alike wsX9_alike rm_c_X9_alike_bad [.ref m, .int p, .int q] [gO m 9 [.ref f0, .ref f1, .ref f2, .ref f3, .ref f4, .ref f5, .ref f6, .ref f7, .ref f8, .ref f9, .ref f10]] (fun rv_ ru_ => rv_ = some (.int (-1)) ∧ ru_ = [gO m 9 [.ref f0, .ref f1, .ref f2, .ref f3, .ref f4, .ref f5, .ref f6, .ref f7, .ref f8, .ref f9, .ref f10]]) := by
  refine MM.ofG (cc := cX9_alike) (maxL := 3) (ret := (some .int)) (by decide) rfl (Nat.le_of_ble_eq_true rfl) (ll := [some (.ref m), some (.int p), some (.int q)]) rfl ?_
  intro X C Rt
  have C : gx E X cX9_alike 3 wsX9_alike RX9 := C
  refine g_iload_n C dX9_alike_0 rfl ?_
  refine g_callS C (c_X9_isPupil E p ) gX9_alike_X9_isPupil rfl 1 (by decide +kernel) ⟨by decide, by decide⟩ ⟨by decide, by decide⟩ [] [0] (wr := [gO m 9 [.ref f0, .ref f1, .ref f2, .ref f3, .ref f4, .ref f5, .ref f6, .ref f7, .ref f8, .ref f9, .ref f10]]) rfl (by decide) rfl (by decide) (by decide) rfl rfl (Nat.le_of_ble_eq_true rfl) dX9_alike_1 ?_
  rintro _ _ ⟨rfl, rfl⟩
  show gg E _ 3 X 0 0 4 [some (.ref m), some (.int p), some (.int q)] [.int (b2i (decide (¬ p < 0 ∧ ¬ nI 8 ≤ p)))] [gO m 9 [.ref f0, .ref f1, .ref f2, .ref f3, .ref f4, .ref f5, .ref f6, .ref f7, .ref f8, .ref f9, .ref f10]]
  refine g_if_eq (tgt := 14) C dX9_alike_4 (by decide) (fun c4 => ?_) (fun c4 => ?_)
  · refine g_iconst (v := -1) C dX9_alike_14 (by decide) ?_
    exact g_iret C Rt dX9_alike_15 (by decide) (by decide) (⟨rfl, rfl⟩)
  · refine g_iload_n C dX9_alike_7 rfl ?_
    refine g_callS C (c_X9_isPupil E q ) gX9_alike_X9_isPupil rfl 1 (by decide +kernel) ⟨by decide, by decide⟩ ⟨by decide, by decide⟩ [] [0] (wr := [gO m 9 [.ref f0, .ref f1, .ref f2, .ref f3, .ref f4, .ref f5, .ref f6, .ref f7, .ref f8, .ref f9, .ref f10]]) rfl (by decide) rfl (by decide) (by decide) rfl rfl (Nat.le_of_ble_eq_true rfl) dX9_alike_8 ?_
    rintro _ _ ⟨rfl, rfl⟩
    show gg E _ 3 X 0 0 11 [some (.ref m), some (.int p), some (.int q)] [.int (b2i (decide (¬ q < 0 ∧ ¬ nI 8 ≤ q)))] [gO m 9 [.ref f0, .ref f1, .ref f2, .ref f3, .ref f4, .ref f5, .ref f6, .ref f7, .ref f8, .ref f9, .ref f10]]
    refine g_if_ne (tgt := 16) C dX9_alike_11 (by decide) (fun c11 => ?_) (fun c11 => ?_)
    · exact (have z1 := of_decide_eq_true (b2i_t.mp c4); have z2 := of_decide_eq_true (b2i_t.mp c11); hb.elim (fun z => absurd z z1.1) (fun z => z.elim (fun z => absurd z z1.2) (fun z => z.elim (fun z => absurd z z2.1) (fun z => absurd z z2.2))))
    · refine g_iconst (v := -1) C dX9_alike_14 (by decide) ?_
      exact g_iret C Rt dX9_alike_15 (by decide) (by decide) (⟨rfl, rfl⟩)

abbrev rm_c_X10_areAlike : Room := { frames := 4, cells := 0, slots := 0, locals := 100 }
set_option maxHeartbeats 4000000 in
set_option maxRecDepth 100000 in
theorem c_X10_areAlike (E : gE) (h : Nat) (ad : Nat → Nat) (iv : Nat → Int32) (cnt nr : Nat) (ms sk pt ro ts tk fr sp pi lr ls bs bk co : Nat → Int32) (sn : Nat → Nat) (ln0 P : Nat) (Q : Nat) (y1 y2 : Nat → Int32) (hcnt : cnt ≤ 10) (hP : P < 8) (hms : okM ms cnt) (hnr : nr ≤ 12) (hts : ∀ q, q < nr → ts q = bs q) (htk : ∀ q, q < nr → tk q = bk q) (hst : ∀ q, q ≤ nr → fr q = nI (sn q)) (hok : okB nr sn co) (hsp : ∀ i, i < sn nr → sp i = trJ (co i)) (hQ : Q < 8) : MM E yX10_areAlike wsX10_areAlike rm_c_X10_areAlike [.ref h, .int (nI P), .int (nI Q)] [gO h 10 (tF ad (upd (upd (upd iv 0 (nI cnt)) 5 (nI nr)) 31 (nI ln0))), gA E (ad 1) 10 ms, gA E (ad 2) 10 sk, gA E (ad 3) 80 pt, gA E (ad 4) 8 ro, gA E (ad 8) 12 ts, gA E (ad 9) 12 tk, gA E (ad 10) 13 fr, gA E (ad 11) 620 sp, gA E (ad 16) 620 pi, gA E (ad 29) 12 lr, gA E (ad 30) 12 ls, gA E (ad 38) 12 y1, gA E (ad 39) 12 y2] (fun rv_ ru_ => ∃ (ro2 pi2 lr2 ls2 y3 y4 : Nat → Int32), rv_ = some (.int (b2i (alL bs (pgA bs bk (soF (ioF ms sk pt cnt P) co sn) (fun s => mkN sk pt P s cnt) nr) (pgA bs bk (soF (ioF ms sk pt cnt Q) co sn) (fun s => mkN sk pt Q s cnt) nr)))) ∧ ru_ = [gO h 10 (tF ad (upd (upd (upd iv 0 (nI cnt)) 5 (nI nr)) 31 (nI ((pgA bs bk (soF (ioF ms sk pt cnt Q) co sn) (fun s => mkN sk pt Q s cnt) nr).length)))), gA E (ad 1) 10 ms, gA E (ad 2) 10 sk, gA E (ad 3) 80 pt, gA E (ad 4) 8 ro2, gA E (ad 8) 12 ts, gA E (ad 9) 12 tk, gA E (ad 10) 13 fr, gA E (ad 11) 620 sp, gA E (ad 16) 620 pi2, gA E (ad 29) 12 lr2, gA E (ad 30) 12 ls2, gA E (ad 38) 12 y3, gA E (ad 39) 12 y4]) := by
  refine MM.ofG (cc := cX10_areAlike) (maxL := 6) (ret := (some .boolean)) (by decide) rfl (Nat.le_of_ble_eq_true rfl) (ll := [some (.ref h), some (.int (nI P)), some (.int (nI Q)), none, none, none]) rfl ?_
  intro X C Rt
  have C : gx E X cX10_areAlike 6 wsX10_areAlike RX10 := C
  have i_X10 : ∀ w ∈ u_ws RX10 TX10 40, w ∈ wsX10_areAlike := by decide +kernel
  have f_22 : Cond.fieldLink RX10 22 "MarkPagesModel" "saying" "[I" ∈ wsX10_areAlike := by decide +kernel
  have f_240 : Cond.fieldLink RX10 240 "MarkPagesModel" "lines" "I" ∈ wsX10_areAlike := by decide +kernel
  have f_56 : Cond.fieldLink RX10 56 "MarkPagesModel" "lineRule" "[I" ∈ wsX10_areAlike := by decide +kernel
  have f_59 : Cond.fieldLink RX10 59 "MarkPagesModel" "lineSkill" "[I" ∈ wsX10_areAlike := by decide +kernel
  have f_77 : Cond.fieldLink RX10 77 "MarkPagesModel" "sayings" "[I" ∈ wsX10_areAlike := by decide +kernel
  have f_80 : Cond.fieldLink RX10 80 "MarkPagesModel" "others" "[I" ∈ wsX10_areAlike := by decide +kernel
  have hlp : (pgA bs bk (soF (ioF ms sk pt cnt P) co sn) (fun s => mkN sk pt P s cnt) nr).length ≤ 12 := pgA_len nr
  have hlq : (pgA bs bk (soF (ioF ms sk pt cnt Q) co sn) (fun s => mkN sk pt Q s cnt) nr).length ≤ 12 := pgA_len nr
  have hip : pgIn nr (pgA bs bk (soF (ioF ms sk pt cnt P) co sn) (fun s => mkN sk pt P s cnt) nr) := pgA_in nr (Nat.le_refl nr)
  have hiq : pgIn nr (pgA bs bk (soF (ioF ms sk pt cnt Q) co sn) (fun s => mkN sk pt Q s cnt) nr) := pgA_in nr (Nat.le_refl nr)
  refine g_aload_n C dX10_areAlike_0 rfl ?_
  refine g_iload_n C dX10_areAlike_1 rfl ?_
  refine g_callV C (c_X10_pages E h ad iv cnt nr ms sk pt ro ts tk fr sp pi lr ls bs bk co sn ln0 P (by omega) (by omega) (hms) (by omega) (hts) (htk) (hst) (hok) (hsp)) gX10_areAlike_X10_pages rfl 1 (by decide +kernel) ⟨by decide, by decide⟩ ⟨by decide, by decide⟩ 0 rfl rfl [0, 1, 2, 3, 4, 5, 6, 7, 8, 9, 10, 11] [12, 13] (wr := [gA E (ad 38) 12 y1, gA E (ad 39) 12 y2]) rfl (by decide) rfl (by decide) (by decide) rfl rfl (Nat.le_of_ble_eq_true rfl) dX10_areAlike_2 ?_
  rintro _ _ ⟨ro2_2, pi2_2, lr2_2, ls2_2, rfl, rfl, ht_2⟩
  refine gg.perm (ws' := [gO h 10 (tF ad (upd (upd (upd iv 0 (nI cnt)) 5 (nI nr)) 31 (nI ((pgA bs bk (soF (ioF ms sk pt cnt P) co sn) (fun s => mkN sk pt P s cnt) nr).length)))), gA E (ad 1) 10 ms, gA E (ad 2) 10 sk, gA E (ad 3) 80 pt, gA E (ad 4) 8 ro2_2, gA E (ad 8) 12 ts, gA E (ad 9) 12 tk, gA E (ad 10) 13 fr, gA E (ad 11) 620 sp, gA E (ad 16) 620 pi2_2, gA E (ad 29) 12 lr2_2, gA E (ad 30) 12 ls2_2, gA E (ad 38) 12 y1, gA E (ad 39) 12 y2]) [2, 3, 4, 5, 6, 7, 8, 9, 10, 11, 12, 13, 0, 1] (by decide) rfl ?_
  show gg E _ 6 X 0 0 5 [some (.ref h), some (.int (nI P)), some (.int (nI Q)), none, none, none] [] [gO h 10 (tF ad (upd (upd (upd iv 0 (nI cnt)) 5 (nI nr)) 31 (nI ((pgA bs bk (soF (ioF ms sk pt cnt P) co sn) (fun s => mkN sk pt P s cnt) nr).length)))), gA E (ad 1) 10 ms, gA E (ad 2) 10 sk, gA E (ad 3) 80 pt, gA E (ad 4) 8 ro2_2, gA E (ad 8) 12 ts, gA E (ad 9) 12 tk, gA E (ad 10) 13 fr, gA E (ad 11) 620 sp, gA E (ad 16) 620 pi2_2, gA E (ad 29) 12 lr2_2, gA E (ad 30) 12 ls2_2, gA E (ad 38) 12 y1, gA E (ad 39) 12 y2]
  refine g_aload_n C dX10_areAlike_5 rfl ?_
  refine g_get C i_X10 0 31 f_240 rfl rfl (by decide) rfl rfl dX10_areAlike_6 ?_
  refine g_istore_n C dX10_areAlike_9 (by decide) rfl (ll' := [some (.ref h), some (.int (nI P)), some (.int (nI Q)), some (.int (nI ((pgA bs bk (soF (ioF ms sk pt cnt P) co sn) (fun s => mkN sk pt P s cnt) nr).length))), none, none]) rfl ?_
  refine g_iconst (v := nI 0) C dX10_areAlike_10 (by decide) ?_
  refine g_istore C dX10_areAlike_11 (by decide) rfl (ll' := [some (.ref h), some (.int (nI P)), some (.int (nI Q)), some (.int (nI ((pgA bs bk (soF (ioF ms sk pt cnt P) co sn) (fun s => mkN sk pt P s cnt) nr).length))), some (.int (nI 0)), none]) rfl ?_
  have L13 : ∀ (n13 : Nat) (j : Nat) (y3 y4 : Nat → Int32), (pgA bs bk (soF (ioF ms sk pt cnt P) co sn) (fun s => mkN sk pt P s cnt) nr).length - j < n13 → (j ≤ (pgA bs bk (soF (ioF ms sk pt cnt P) co sn) (fun s => mkN sk pt P s cnt) nr).length) → (∀ i, i < j → y3 i = pSa bs (pgA bs bk (soF (ioF ms sk pt cnt P) co sn) (fun s => mkN sk pt P s cnt) nr) i ∧ y4 i = pSk (pgA bs bk (soF (ioF ms sk pt cnt P) co sn) (fun s => mkN sk pt P s cnt) nr) i) → gg E rm_c_X10_areAlike 6 X 0 0 13 [some (.ref h), some (.int (nI P)), some (.int (nI Q)), some (.int (nI ((pgA bs bk (soF (ioF ms sk pt cnt P) co sn) (fun s => mkN sk pt P s cnt) nr).length))), some (.int (nI j)), none] [] [gO h 10 (tF ad (upd (upd (upd iv 0 (nI cnt)) 5 (nI nr)) 31 (nI ((pgA bs bk (soF (ioF ms sk pt cnt P) co sn) (fun s => mkN sk pt P s cnt) nr).length)))), gA E (ad 1) 10 ms, gA E (ad 2) 10 sk, gA E (ad 3) 80 pt, gA E (ad 4) 8 ro2_2, gA E (ad 8) 12 ts, gA E (ad 9) 12 tk, gA E (ad 10) 13 fr, gA E (ad 11) 620 sp, gA E (ad 16) 620 pi2_2, gA E (ad 29) 12 lr2_2, gA E (ad 30) 12 ls2_2, gA E (ad 38) 12 y3, gA E (ad 39) 12 y4] := by
    intro n13
    induction n13 with
    | zero => intro j y3 y4 hm13; exact absurd hm13 (Nat.not_lt_zero _)
    | succ n13 ih13 =>
      intro j y3 y4 hm13 hj hy
      refine g_iload C dX10_areAlike_13 rfl ?_
      refine g_iload_n C dX10_areAlike_15 rfl ?_
      refine g_icmp_ge_n (tgt := 58) C dX10_areAlike_16 (by decide) (by omega) (by omega) (fun c16 => ?_) (fun c16 => ?_)
      · refine gg.less (ll' := [some (.ref h), some (.int (nI P)), some (.int (nI Q)), some (.int (nI ((pgA bs bk (soF (ioF ms sk pt cnt P) co sn) (fun s => mkN sk pt P s cnt) nr).length))), none, none]) (by intro i v h; match i, h with | 0, h => exact h | 1, h => exact h | 2, h => exact h | 3, h => exact h | 4, h => exact absurd h (by simp) | 5, h => exact absurd h (by simp) | (i + 6), h => exact absurd h (by simp)) ?_
        have hyf : ∀ i, i < (pgA bs bk (soF (ioF ms sk pt cnt P) co sn) (fun s => mkN sk pt P s cnt) nr).length → y3 i = pSa bs (pgA bs bk (soF (ioF ms sk pt cnt P) co sn) (fun s => mkN sk pt P s cnt) nr) i ∧ y4 i = pSk (pgA bs bk (soF (ioF ms sk pt cnt P) co sn) (fun s => mkN sk pt P s cnt) nr) i := fun i hi => hy i (by omega)
        refine g_aload_n C dX10_areAlike_58 rfl ?_
        refine g_iload_n C dX10_areAlike_59 rfl ?_
        refine g_callV C (c_X10_pages E h ad iv cnt nr ms sk pt ro2_2 ts tk fr sp pi2_2 lr2_2 ls2_2 bs bk co sn ((pgA bs bk (soF (ioF ms sk pt cnt P) co sn) (fun s => mkN sk pt P s cnt) nr).length) Q (by omega) (by omega) (hms) (by omega) (hts) (htk) (hst) (hok) (hsp)) gX10_areAlike_X10_pages rfl 1 (by decide +kernel) ⟨by decide, by decide⟩ ⟨by decide, by decide⟩ 0 rfl rfl [0, 1, 2, 3, 4, 5, 6, 7, 8, 9, 10, 11] [12, 13] (wr := [gA E (ad 38) 12 y3, gA E (ad 39) 12 y4]) rfl (by decide) rfl (by decide) (by decide) rfl rfl (Nat.le_of_ble_eq_true rfl) dX10_areAlike_60 ?_
        rintro _ _ ⟨ro2_60, pi2_60, lr2_60, ls2_60, rfl, rfl, ht_60⟩
        refine gg.perm (ws' := [gO h 10 (tF ad (upd (upd (upd iv 0 (nI cnt)) 5 (nI nr)) 31 (nI ((pgA bs bk (soF (ioF ms sk pt cnt Q) co sn) (fun s => mkN sk pt Q s cnt) nr).length)))), gA E (ad 1) 10 ms, gA E (ad 2) 10 sk, gA E (ad 3) 80 pt, gA E (ad 4) 8 ro2_60, gA E (ad 8) 12 ts, gA E (ad 9) 12 tk, gA E (ad 10) 13 fr, gA E (ad 11) 620 sp, gA E (ad 16) 620 pi2_60, gA E (ad 29) 12 lr2_60, gA E (ad 30) 12 ls2_60, gA E (ad 38) 12 y3, gA E (ad 39) 12 y4]) [2, 3, 4, 5, 6, 7, 8, 9, 10, 11, 12, 13, 0, 1] (by decide) rfl ?_
        show gg E _ 6 X 0 0 63 [some (.ref h), some (.int (nI P)), some (.int (nI Q)), some (.int (nI ((pgA bs bk (soF (ioF ms sk pt cnt P) co sn) (fun s => mkN sk pt P s cnt) nr).length))), none, none] [] [gO h 10 (tF ad (upd (upd (upd iv 0 (nI cnt)) 5 (nI nr)) 31 (nI ((pgA bs bk (soF (ioF ms sk pt cnt Q) co sn) (fun s => mkN sk pt Q s cnt) nr).length)))), gA E (ad 1) 10 ms, gA E (ad 2) 10 sk, gA E (ad 3) 80 pt, gA E (ad 4) 8 ro2_60, gA E (ad 8) 12 ts, gA E (ad 9) 12 tk, gA E (ad 10) 13 fr, gA E (ad 11) 620 sp, gA E (ad 16) 620 pi2_60, gA E (ad 29) 12 lr2_60, gA E (ad 30) 12 ls2_60, gA E (ad 38) 12 y3, gA E (ad 39) 12 y4]
        refine g_aload_n C dX10_areAlike_63 rfl ?_
        refine g_get C i_X10 0 31 f_240 rfl rfl (by decide) rfl rfl dX10_areAlike_64 ?_
        refine g_iload_n C dX10_areAlike_67 rfl ?_
        refine g_icmp_ne_n (tgt := 75) C dX10_areAlike_68 (by decide) (by omega) (by omega) (fun c68 => ?_) (fun c68 => ?_)
        · refine g_iconst (v := nI 0) C dX10_areAlike_75 (by decide) ?_
          refine g_istore C dX10_areAlike_76 (by decide) rfl (ll' := [some (.ref h), some (.int (nI P)), some (.int (nI Q)), some (.int (nI ((pgA bs bk (soF (ioF ms sk pt cnt P) co sn) (fun s => mkN sk pt P s cnt) nr).length))), some (.int (nI 0)), none]) rfl ?_
          refine gg.less (ll' := [some (.ref h), some (.int (nI P)), some (.int (nI Q)), some (.int (nI ((pgA bs bk (soF (ioF ms sk pt cnt P) co sn) (fun s => mkN sk pt P s cnt) nr).length))), some (.int (nI 0)), none]) (by intro i v h; match i, h with | 0, h => exact h | 1, h => exact h | 2, h => exact h | 3, h => exact h | 4, h => exact h | 5, h => exact absurd h (by simp) | (i + 6), h => exact absurd h (by simp)) ?_
          refine g_iconst (v := nI 0) C dX10_areAlike_78 (by decide) ?_
          refine g_istore C dX10_areAlike_79 (by decide) rfl (ll' := [some (.ref h), some (.int (nI P)), some (.int (nI Q)), some (.int (nI ((pgA bs bk (soF (ioF ms sk pt cnt P) co sn) (fun s => mkN sk pt P s cnt) nr).length))), some (.int (nI 0)), some (.int (nI 0))]) rfl ?_
          have L81 : ∀ (n81 : Nat) (j : Nat) (v : Int32), (pgA bs bk (soF (ioF ms sk pt cnt P) co sn) (fun s => mkN sk pt P s cnt) nr).length - j < n81 → (j ≤ (pgA bs bk (soF (ioF ms sk pt cnt P) co sn) (fun s => mkN sk pt P s cnt) nr).length) → (v = b2i (decide ((pgA bs bk (soF (ioF ms sk pt cnt P) co sn) (fun s => mkN sk pt P s cnt) nr).length = (pgA bs bk (soF (ioF ms sk pt cnt Q) co sn) (fun s => mkN sk pt Q s cnt) nr).length) && smL (pSa bs (pgA bs bk (soF (ioF ms sk pt cnt P) co sn) (fun s => mkN sk pt P s cnt) nr)) (pSk (pgA bs bk (soF (ioF ms sk pt cnt P) co sn) (fun s => mkN sk pt P s cnt) nr)) (pSa bs (pgA bs bk (soF (ioF ms sk pt cnt Q) co sn) (fun s => mkN sk pt Q s cnt) nr)) (pSk (pgA bs bk (soF (ioF ms sk pt cnt Q) co sn) (fun s => mkN sk pt Q s cnt) nr)) j)) → gg E rm_c_X10_areAlike 6 X 0 0 81 [some (.ref h), some (.int (nI P)), some (.int (nI Q)), some (.int (nI ((pgA bs bk (soF (ioF ms sk pt cnt P) co sn) (fun s => mkN sk pt P s cnt) nr).length))), some (.int v), some (.int (nI j))] [] [gO h 10 (tF ad (upd (upd (upd iv 0 (nI cnt)) 5 (nI nr)) 31 (nI ((pgA bs bk (soF (ioF ms sk pt cnt Q) co sn) (fun s => mkN sk pt Q s cnt) nr).length)))), gA E (ad 1) 10 ms, gA E (ad 2) 10 sk, gA E (ad 3) 80 pt, gA E (ad 4) 8 ro2_60, gA E (ad 8) 12 ts, gA E (ad 9) 12 tk, gA E (ad 10) 13 fr, gA E (ad 11) 620 sp, gA E (ad 16) 620 pi2_60, gA E (ad 29) 12 lr2_60, gA E (ad 30) 12 ls2_60, gA E (ad 38) 12 y3, gA E (ad 39) 12 y4] := by
            intro n81
            induction n81 with
            | zero => intro j v hm81; exact absurd hm81 (Nat.not_lt_zero _)
            | succ n81 ih81 =>
              intro j v hm81 hj2 hv
              refine g_iload C dX10_areAlike_81 rfl ?_
              refine g_iload_n C dX10_areAlike_83 rfl ?_
              refine g_icmp_ge_n (tgt := 144) C dX10_areAlike_84 (by decide) (by omega) (by omega) (fun c84 => ?_) (fun c84 => ?_)
              · refine g_iload C dX10_areAlike_144 rfl ?_
                exact g_zret C Rt dX10_areAlike_146 (by decide) (by decide) (by rw [hv]; exact b2i_01 _) (⟨_, _, _, _, _, _, by rw [hv, alL, show j = (pgA bs bk (soF (ioF ms sk pt cnt P) co sn) (fun s => mkN sk pt P s cnt) nr).length by omega], rfl⟩)
              · refine g_iload C dX10_areAlike_87 rfl ?_
                refine g_if_eq (tgt := 144) C dX10_areAlike_89 (by decide) (fun c89 => ?_) (fun c89 => ?_)
                · refine g_iload C dX10_areAlike_144 rfl ?_
                  exact g_zret C Rt dX10_areAlike_146 (by decide) (by decide) (by rw [hv]; exact b2i_01 _) (⟨_, _, _, _, _, _, by rw [hv] at c89 ⊢; rw [al_early (b2i_f.mp c89) hj2, b2i_f.mp c89], rfl⟩)
                · have hjq : j < (pgA bs bk (soF (ioF ms sk pt cnt Q) co sn) (fun s => mkN sk pt Q s cnt) nr).length := by
                    rw [show v = _ from hv] at c89
                    have hb_ := b2i_t.mp c89
                    rw [Bool.and_eq_true] at hb_
                    have := of_decide_eq_true hb_.1
                    omega
                  refine g_aload_n C dX10_areAlike_92 rfl ?_
                  refine g_get C i_X10 0 8 f_22 rfl rfl (by decide) rfl rfl dX10_areAlike_93 ?_
                  refine g_aload_n C dX10_areAlike_96 rfl ?_
                  refine g_get C i_X10 0 29 f_56 rfl rfl (by decide) rfl rfl dX10_areAlike_97 ?_
                  refine g_iload C dX10_areAlike_100 rfl ?_
                  refine g_iald C 10 j rfl rfl (by omega) (by decide) dX10_areAlike_102 ?_
                  refine g_top ((ht_60 j hjq).1) ?_
                  refine g_iald C 5 (((pgA bs bk (soF (ioF ms sk pt cnt Q) co sn) (fun s => mkN sk pt Q s cnt) nr).getD j (0, 0)).1) rfl rfl (by have := (hiq.at hjq).1; omega) (by decide) dX10_areAlike_103 ?_
                  refine g_top (hts _ (hiq.at hjq).1) ?_
                  refine g_aload_n C dX10_areAlike_104 rfl ?_
                  refine g_get C i_X10 0 38 f_77 rfl rfl (by decide) rfl rfl dX10_areAlike_105 ?_
                  refine g_iload C dX10_areAlike_108 rfl ?_
                  refine g_iald C 12 j rfl rfl (by omega) (by decide) dX10_areAlike_110 ?_
                  refine g_top ((hyf j c84).1) ?_
                  refine g_icmp_ne (tgt := 135) C dX10_areAlike_111 (by decide) (fun c111 => ?_) (fun c111 => ?_)
                  · refine g_iconst (v := nI 0) C dX10_areAlike_135 (by decide) ?_
                    refine g_istore C dX10_areAlike_136 (by decide) rfl (ll' := [some (.ref h), some (.int (nI P)), some (.int (nI Q)), some (.int (nI ((pgA bs bk (soF (ioF ms sk pt cnt P) co sn) (fun s => mkN sk pt P s cnt) nr).length))), some (.int (nI 0)), some (.int (nI j))]) rfl ?_
                    refine g_iinc_n (y := 1) C dX10_areAlike_138 rfl (by decide) (by decide) rfl (ll' := [some (.ref h), some (.int (nI P)), some (.int (nI Q)), some (.int (nI ((pgA bs bk (soF (ioF ms sk pt cnt P) co sn) (fun s => mkN sk pt P s cnt) nr).length))), some (.int (nI 0)), some (.int (nI (j + 1)))]) rfl ?_
                    refine g_goto (tgt := 81) C dX10_areAlike_141 (by decide) ?_
                    exact ih81 (j + 1) (nI 0) (by omega) (by omega) (by rw [smL]; rw [show v = _ from hv] at c89; have hb_ := b2i_t.mp c89; rw [Bool.and_eq_true] at hb_; rw [hb_.1, hb_.2, decide_eq_false (fun z => c111 z.1.symm)]; rfl)
                  · refine g_aload_n C dX10_areAlike_114 rfl ?_
                    refine g_get C i_X10 0 30 f_59 rfl rfl (by decide) rfl rfl dX10_areAlike_115 ?_
                    refine g_iload C dX10_areAlike_118 rfl ?_
                    refine g_iald C 11 j rfl rfl (by omega) (by decide) dX10_areAlike_120 ?_
                    refine g_top ((ht_60 j hjq).2) ?_
                    refine g_aload_n C dX10_areAlike_121 rfl ?_
                    refine g_get C i_X10 0 39 f_80 rfl rfl (by decide) rfl rfl dX10_areAlike_122 ?_
                    refine g_iload C dX10_areAlike_125 rfl ?_
                    refine g_iald C 13 j rfl rfl (by omega) (by decide) dX10_areAlike_127 ?_
                    refine g_top ((hyf j c84).2) ?_
                    refine g_icmp_ne (tgt := 135) C dX10_areAlike_128 (by decide) (fun c128 => ?_) (fun c128 => ?_)
                    · refine g_iconst (v := nI 0) C dX10_areAlike_135 (by decide) ?_
                      refine g_istore C dX10_areAlike_136 (by decide) rfl (ll' := [some (.ref h), some (.int (nI P)), some (.int (nI Q)), some (.int (nI ((pgA bs bk (soF (ioF ms sk pt cnt P) co sn) (fun s => mkN sk pt P s cnt) nr).length))), some (.int (nI 0)), some (.int (nI j))]) rfl ?_
                      refine g_iinc_n (y := 1) C dX10_areAlike_138 rfl (by decide) (by decide) rfl (ll' := [some (.ref h), some (.int (nI P)), some (.int (nI Q)), some (.int (nI ((pgA bs bk (soF (ioF ms sk pt cnt P) co sn) (fun s => mkN sk pt P s cnt) nr).length))), some (.int (nI 0)), some (.int (nI (j + 1)))]) rfl ?_
                      refine g_goto (tgt := 81) C dX10_areAlike_141 (by decide) ?_
                      exact ih81 (j + 1) (nI 0) (by omega) (by omega) (by rw [smL]; rw [show v = _ from hv] at c89; have hb_ := b2i_t.mp c89; rw [Bool.and_eq_true] at hb_; rw [hb_.1, hb_.2, decide_eq_false (fun z => c128 z.2.symm)]; rfl)
                    · refine g_iconst (v := nI 1) C dX10_areAlike_131 (by decide) ?_
                      refine g_goto (tgt := 136) C dX10_areAlike_132 (by decide) ?_
                      refine g_istore C dX10_areAlike_136 (by decide) rfl (ll' := [some (.ref h), some (.int (nI P)), some (.int (nI Q)), some (.int (nI ((pgA bs bk (soF (ioF ms sk pt cnt P) co sn) (fun s => mkN sk pt P s cnt) nr).length))), some (.int (nI 1)), some (.int (nI j))]) rfl ?_
                      refine g_iinc_n (y := 1) C dX10_areAlike_138 rfl (by decide) (by decide) rfl (ll' := [some (.ref h), some (.int (nI P)), some (.int (nI Q)), some (.int (nI ((pgA bs bk (soF (ioF ms sk pt cnt P) co sn) (fun s => mkN sk pt P s cnt) nr).length))), some (.int (nI 1)), some (.int (nI (j + 1)))]) rfl ?_
                      refine g_goto (tgt := 81) C dX10_areAlike_141 (by decide) ?_
                      exact ih81 (j + 1) (nI 1) (by omega) (by omega) (by rw [smL]; rw [show v = _ from hv] at c89; have hb_ := b2i_t.mp c89; rw [Bool.and_eq_true] at hb_; rw [hb_.1, hb_.2, decide_eq_true ⟨c111.symm, c128.symm⟩]; rfl)
          exact L81 _ 0 (nI 0) (Nat.lt_succ_self _) (by omega) (by rw [smL, Bool.and_true, decide_eq_false (fun z => c68 z.symm)]; rfl)
        · refine g_iconst (v := nI 1) C dX10_areAlike_71 (by decide) ?_
          refine g_goto (tgt := 76) C dX10_areAlike_72 (by decide) ?_
          refine g_istore C dX10_areAlike_76 (by decide) rfl (ll' := [some (.ref h), some (.int (nI P)), some (.int (nI Q)), some (.int (nI ((pgA bs bk (soF (ioF ms sk pt cnt P) co sn) (fun s => mkN sk pt P s cnt) nr).length))), some (.int (nI 1)), none]) rfl ?_
          refine gg.less (ll' := [some (.ref h), some (.int (nI P)), some (.int (nI Q)), some (.int (nI ((pgA bs bk (soF (ioF ms sk pt cnt P) co sn) (fun s => mkN sk pt P s cnt) nr).length))), some (.int (nI 1)), none]) (by intro i v h; match i, h with | 0, h => exact h | 1, h => exact h | 2, h => exact h | 3, h => exact h | 4, h => exact h | 5, h => exact absurd h (by simp) | (i + 6), h => exact absurd h (by simp)) ?_
          refine g_iconst (v := nI 0) C dX10_areAlike_78 (by decide) ?_
          refine g_istore C dX10_areAlike_79 (by decide) rfl (ll' := [some (.ref h), some (.int (nI P)), some (.int (nI Q)), some (.int (nI ((pgA bs bk (soF (ioF ms sk pt cnt P) co sn) (fun s => mkN sk pt P s cnt) nr).length))), some (.int (nI 1)), some (.int (nI 0))]) rfl ?_
          have L81 : ∀ (n81 : Nat) (j : Nat) (v : Int32), (pgA bs bk (soF (ioF ms sk pt cnt P) co sn) (fun s => mkN sk pt P s cnt) nr).length - j < n81 → (j ≤ (pgA bs bk (soF (ioF ms sk pt cnt P) co sn) (fun s => mkN sk pt P s cnt) nr).length) → (v = b2i (decide ((pgA bs bk (soF (ioF ms sk pt cnt P) co sn) (fun s => mkN sk pt P s cnt) nr).length = (pgA bs bk (soF (ioF ms sk pt cnt Q) co sn) (fun s => mkN sk pt Q s cnt) nr).length) && smL (pSa bs (pgA bs bk (soF (ioF ms sk pt cnt P) co sn) (fun s => mkN sk pt P s cnt) nr)) (pSk (pgA bs bk (soF (ioF ms sk pt cnt P) co sn) (fun s => mkN sk pt P s cnt) nr)) (pSa bs (pgA bs bk (soF (ioF ms sk pt cnt Q) co sn) (fun s => mkN sk pt Q s cnt) nr)) (pSk (pgA bs bk (soF (ioF ms sk pt cnt Q) co sn) (fun s => mkN sk pt Q s cnt) nr)) j)) → gg E rm_c_X10_areAlike 6 X 0 0 81 [some (.ref h), some (.int (nI P)), some (.int (nI Q)), some (.int (nI ((pgA bs bk (soF (ioF ms sk pt cnt P) co sn) (fun s => mkN sk pt P s cnt) nr).length))), some (.int v), some (.int (nI j))] [] [gO h 10 (tF ad (upd (upd (upd iv 0 (nI cnt)) 5 (nI nr)) 31 (nI ((pgA bs bk (soF (ioF ms sk pt cnt Q) co sn) (fun s => mkN sk pt Q s cnt) nr).length)))), gA E (ad 1) 10 ms, gA E (ad 2) 10 sk, gA E (ad 3) 80 pt, gA E (ad 4) 8 ro2_60, gA E (ad 8) 12 ts, gA E (ad 9) 12 tk, gA E (ad 10) 13 fr, gA E (ad 11) 620 sp, gA E (ad 16) 620 pi2_60, gA E (ad 29) 12 lr2_60, gA E (ad 30) 12 ls2_60, gA E (ad 38) 12 y3, gA E (ad 39) 12 y4] := by
            intro n81
            induction n81 with
            | zero => intro j v hm81; exact absurd hm81 (Nat.not_lt_zero _)
            | succ n81 ih81 =>
              intro j v hm81 hj2 hv
              refine g_iload C dX10_areAlike_81 rfl ?_
              refine g_iload_n C dX10_areAlike_83 rfl ?_
              refine g_icmp_ge_n (tgt := 144) C dX10_areAlike_84 (by decide) (by omega) (by omega) (fun c84 => ?_) (fun c84 => ?_)
              · refine g_iload C dX10_areAlike_144 rfl ?_
                exact g_zret C Rt dX10_areAlike_146 (by decide) (by decide) (by rw [hv]; exact b2i_01 _) (⟨_, _, _, _, _, _, by rw [hv, alL, show j = (pgA bs bk (soF (ioF ms sk pt cnt P) co sn) (fun s => mkN sk pt P s cnt) nr).length by omega], rfl⟩)
              · refine g_iload C dX10_areAlike_87 rfl ?_
                refine g_if_eq (tgt := 144) C dX10_areAlike_89 (by decide) (fun c89 => ?_) (fun c89 => ?_)
                · refine g_iload C dX10_areAlike_144 rfl ?_
                  exact g_zret C Rt dX10_areAlike_146 (by decide) (by decide) (by rw [hv]; exact b2i_01 _) (⟨_, _, _, _, _, _, by rw [hv] at c89 ⊢; rw [al_early (b2i_f.mp c89) hj2, b2i_f.mp c89], rfl⟩)
                · have hjq : j < (pgA bs bk (soF (ioF ms sk pt cnt Q) co sn) (fun s => mkN sk pt Q s cnt) nr).length := by
                    rw [show v = _ from hv] at c89
                    have hb_ := b2i_t.mp c89
                    rw [Bool.and_eq_true] at hb_
                    have := of_decide_eq_true hb_.1
                    omega
                  refine g_aload_n C dX10_areAlike_92 rfl ?_
                  refine g_get C i_X10 0 8 f_22 rfl rfl (by decide) rfl rfl dX10_areAlike_93 ?_
                  refine g_aload_n C dX10_areAlike_96 rfl ?_
                  refine g_get C i_X10 0 29 f_56 rfl rfl (by decide) rfl rfl dX10_areAlike_97 ?_
                  refine g_iload C dX10_areAlike_100 rfl ?_
                  refine g_iald C 10 j rfl rfl (by omega) (by decide) dX10_areAlike_102 ?_
                  refine g_top ((ht_60 j hjq).1) ?_
                  refine g_iald C 5 (((pgA bs bk (soF (ioF ms sk pt cnt Q) co sn) (fun s => mkN sk pt Q s cnt) nr).getD j (0, 0)).1) rfl rfl (by have := (hiq.at hjq).1; omega) (by decide) dX10_areAlike_103 ?_
                  refine g_top (hts _ (hiq.at hjq).1) ?_
                  refine g_aload_n C dX10_areAlike_104 rfl ?_
                  refine g_get C i_X10 0 38 f_77 rfl rfl (by decide) rfl rfl dX10_areAlike_105 ?_
                  refine g_iload C dX10_areAlike_108 rfl ?_
                  refine g_iald C 12 j rfl rfl (by omega) (by decide) dX10_areAlike_110 ?_
                  refine g_top ((hyf j c84).1) ?_
                  refine g_icmp_ne (tgt := 135) C dX10_areAlike_111 (by decide) (fun c111 => ?_) (fun c111 => ?_)
                  · refine g_iconst (v := nI 0) C dX10_areAlike_135 (by decide) ?_
                    refine g_istore C dX10_areAlike_136 (by decide) rfl (ll' := [some (.ref h), some (.int (nI P)), some (.int (nI Q)), some (.int (nI ((pgA bs bk (soF (ioF ms sk pt cnt P) co sn) (fun s => mkN sk pt P s cnt) nr).length))), some (.int (nI 0)), some (.int (nI j))]) rfl ?_
                    refine g_iinc_n (y := 1) C dX10_areAlike_138 rfl (by decide) (by decide) rfl (ll' := [some (.ref h), some (.int (nI P)), some (.int (nI Q)), some (.int (nI ((pgA bs bk (soF (ioF ms sk pt cnt P) co sn) (fun s => mkN sk pt P s cnt) nr).length))), some (.int (nI 0)), some (.int (nI (j + 1)))]) rfl ?_
                    refine g_goto (tgt := 81) C dX10_areAlike_141 (by decide) ?_
                    exact ih81 (j + 1) (nI 0) (by omega) (by omega) (by rw [smL]; rw [show v = _ from hv] at c89; have hb_ := b2i_t.mp c89; rw [Bool.and_eq_true] at hb_; rw [hb_.1, hb_.2, decide_eq_false (fun z => c111 z.1.symm)]; rfl)
                  · refine g_aload_n C dX10_areAlike_114 rfl ?_
                    refine g_get C i_X10 0 30 f_59 rfl rfl (by decide) rfl rfl dX10_areAlike_115 ?_
                    refine g_iload C dX10_areAlike_118 rfl ?_
                    refine g_iald C 11 j rfl rfl (by omega) (by decide) dX10_areAlike_120 ?_
                    refine g_top ((ht_60 j hjq).2) ?_
                    refine g_aload_n C dX10_areAlike_121 rfl ?_
                    refine g_get C i_X10 0 39 f_80 rfl rfl (by decide) rfl rfl dX10_areAlike_122 ?_
                    refine g_iload C dX10_areAlike_125 rfl ?_
                    refine g_iald C 13 j rfl rfl (by omega) (by decide) dX10_areAlike_127 ?_
                    refine g_top ((hyf j c84).2) ?_
                    refine g_icmp_ne (tgt := 135) C dX10_areAlike_128 (by decide) (fun c128 => ?_) (fun c128 => ?_)
                    · refine g_iconst (v := nI 0) C dX10_areAlike_135 (by decide) ?_
                      refine g_istore C dX10_areAlike_136 (by decide) rfl (ll' := [some (.ref h), some (.int (nI P)), some (.int (nI Q)), some (.int (nI ((pgA bs bk (soF (ioF ms sk pt cnt P) co sn) (fun s => mkN sk pt P s cnt) nr).length))), some (.int (nI 0)), some (.int (nI j))]) rfl ?_
                      refine g_iinc_n (y := 1) C dX10_areAlike_138 rfl (by decide) (by decide) rfl (ll' := [some (.ref h), some (.int (nI P)), some (.int (nI Q)), some (.int (nI ((pgA bs bk (soF (ioF ms sk pt cnt P) co sn) (fun s => mkN sk pt P s cnt) nr).length))), some (.int (nI 0)), some (.int (nI (j + 1)))]) rfl ?_
                      refine g_goto (tgt := 81) C dX10_areAlike_141 (by decide) ?_
                      exact ih81 (j + 1) (nI 0) (by omega) (by omega) (by rw [smL]; rw [show v = _ from hv] at c89; have hb_ := b2i_t.mp c89; rw [Bool.and_eq_true] at hb_; rw [hb_.1, hb_.2, decide_eq_false (fun z => c128 z.2.symm)]; rfl)
                    · refine g_iconst (v := nI 1) C dX10_areAlike_131 (by decide) ?_
                      refine g_goto (tgt := 136) C dX10_areAlike_132 (by decide) ?_
                      refine g_istore C dX10_areAlike_136 (by decide) rfl (ll' := [some (.ref h), some (.int (nI P)), some (.int (nI Q)), some (.int (nI ((pgA bs bk (soF (ioF ms sk pt cnt P) co sn) (fun s => mkN sk pt P s cnt) nr).length))), some (.int (nI 1)), some (.int (nI j))]) rfl ?_
                      refine g_iinc_n (y := 1) C dX10_areAlike_138 rfl (by decide) (by decide) rfl (ll' := [some (.ref h), some (.int (nI P)), some (.int (nI Q)), some (.int (nI ((pgA bs bk (soF (ioF ms sk pt cnt P) co sn) (fun s => mkN sk pt P s cnt) nr).length))), some (.int (nI 1)), some (.int (nI (j + 1)))]) rfl ?_
                      refine g_goto (tgt := 81) C dX10_areAlike_141 (by decide) ?_
                      exact ih81 (j + 1) (nI 1) (by omega) (by omega) (by rw [smL]; rw [show v = _ from hv] at c89; have hb_ := b2i_t.mp c89; rw [Bool.and_eq_true] at hb_; rw [hb_.1, hb_.2, decide_eq_true ⟨c111.symm, c128.symm⟩]; rfl)
          exact L81 _ 0 (nI 1) (Nat.lt_succ_self _) (by omega) (by rw [smL, Bool.and_true, decide_eq_true c68.symm]; rfl)
      · refine g_aload_n C dX10_areAlike_19 rfl ?_
        refine g_get C i_X10 0 38 f_77 rfl rfl (by decide) rfl rfl dX10_areAlike_20 ?_
        refine g_iload C dX10_areAlike_23 rfl ?_
        refine g_aload_n C dX10_areAlike_25 rfl ?_
        refine g_get C i_X10 0 8 f_22 rfl rfl (by decide) rfl rfl dX10_areAlike_26 ?_
        refine g_aload_n C dX10_areAlike_29 rfl ?_
        refine g_get C i_X10 0 29 f_56 rfl rfl (by decide) rfl rfl dX10_areAlike_30 ?_
        refine g_iload C dX10_areAlike_33 rfl ?_
        refine g_iald C 10 j rfl rfl (by omega) (by decide) dX10_areAlike_35 ?_
        refine g_top ((ht_2 j c16).1) ?_
        refine g_iald C 5 (((pgA bs bk (soF (ioF ms sk pt cnt P) co sn) (fun s => mkN sk pt P s cnt) nr).getD j (0, 0)).1) rfl rfl (by have := (hip.at c16).1; omega) (by decide) dX10_areAlike_36 ?_
        refine g_top (hts _ (hip.at c16).1) ?_
        refine g_iast C 12 j rfl rfl (by omega) (by decide) dX10_areAlike_37 (ws' := [gO h 10 (tF ad (upd (upd (upd iv 0 (nI cnt)) 5 (nI nr)) 31 (nI ((pgA bs bk (soF (ioF ms sk pt cnt P) co sn) (fun s => mkN sk pt P s cnt) nr).length)))), gA E (ad 1) 10 ms, gA E (ad 2) 10 sk, gA E (ad 3) 80 pt, gA E (ad 4) 8 ro2_2, gA E (ad 8) 12 ts, gA E (ad 9) 12 tk, gA E (ad 10) 13 fr, gA E (ad 11) 620 sp, gA E (ad 16) 620 pi2_2, gA E (ad 29) 12 lr2_2, gA E (ad 30) 12 ls2_2, gA E (ad 38) 12 (upd y3 j (pSa bs (pgA bs bk (soF (ioF ms sk pt cnt P) co sn) (fun s => mkN sk pt P s cnt) nr) j)), gA E (ad 39) 12 y4]) rfl ?_
        refine g_aload_n C dX10_areAlike_38 rfl ?_
        refine g_get C i_X10 0 39 f_80 rfl rfl (by decide) rfl rfl dX10_areAlike_39 ?_
        refine g_iload C dX10_areAlike_42 rfl ?_
        refine g_aload_n C dX10_areAlike_44 rfl ?_
        refine g_get C i_X10 0 30 f_59 rfl rfl (by decide) rfl rfl dX10_areAlike_45 ?_
        refine g_iload C dX10_areAlike_48 rfl ?_
        refine g_iald C 11 j rfl rfl (by omega) (by decide) dX10_areAlike_50 ?_
        refine g_top ((ht_2 j c16).2) ?_
        refine g_iast C 13 j rfl rfl (by omega) (by decide) dX10_areAlike_51 (ws' := [gO h 10 (tF ad (upd (upd (upd iv 0 (nI cnt)) 5 (nI nr)) 31 (nI ((pgA bs bk (soF (ioF ms sk pt cnt P) co sn) (fun s => mkN sk pt P s cnt) nr).length)))), gA E (ad 1) 10 ms, gA E (ad 2) 10 sk, gA E (ad 3) 80 pt, gA E (ad 4) 8 ro2_2, gA E (ad 8) 12 ts, gA E (ad 9) 12 tk, gA E (ad 10) 13 fr, gA E (ad 11) 620 sp, gA E (ad 16) 620 pi2_2, gA E (ad 29) 12 lr2_2, gA E (ad 30) 12 ls2_2, gA E (ad 38) 12 (upd y3 j (pSa bs (pgA bs bk (soF (ioF ms sk pt cnt P) co sn) (fun s => mkN sk pt P s cnt) nr) j)), gA E (ad 39) 12 (upd y4 j (pSk (pgA bs bk (soF (ioF ms sk pt cnt P) co sn) (fun s => mkN sk pt P s cnt) nr) j))]) rfl ?_
        refine g_iinc_n (y := 1) C dX10_areAlike_52 rfl (by decide) (by decide) rfl (ll' := [some (.ref h), some (.int (nI P)), some (.int (nI Q)), some (.int (nI ((pgA bs bk (soF (ioF ms sk pt cnt P) co sn) (fun s => mkN sk pt P s cnt) nr).length))), some (.int (nI (j + 1))), none]) rfl ?_
        refine g_goto (tgt := 13) C dX10_areAlike_55 (by decide) ?_
        exact ih13 (j + 1) (upd y3 j (pSa bs (pgA bs bk (soF (ioF ms sk pt cnt P) co sn) (fun s => mkN sk pt P s cnt) nr) j)) (upd y4 j (pSk (pgA bs bk (soF (ioF ms sk pt cnt P) co sn) (fun s => mkN sk pt P s cnt) nr) j)) (by omega) (by omega) (fun i hi => by
        by_cases e : i = j
        · rw [e]; simp [upd]
        · simp only [upd, if_neg e]; exact hy i (by omega))
  exact L13 _ 0 y1 y2 (Nat.lt_succ_self _) (by omega) (fun i hi => absurd hi (Nat.not_lt_zero i))

