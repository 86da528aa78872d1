/-! THE LAW'S LOOP -/
theorem and31 (x : Int32) : ∃ b, b < 32 ∧ x &&& nI 31 = nI b := by
  refine ⟨(x.toBitVec &&& 31#32).toNat, ?_, ?_⟩
  · rw [BitVec.toNat_and]; exact Nat.lt_of_le_of_lt Nat.and_le_right (by decide)
  · apply Int32.toBitVec_inj.mp
    rw [Int32.toBitVec_and]
    show x.toBitVec &&& 31#32 = BitVec.ofNat 32 _
    rw [BitVec.ofNat_toNat, BitVec.setWidth_eq]
theorem sub6 : ∀ L, L < 6 → ∀ i, i < 6 → i ≤ L → nI L - nI 6 < nI i := by decide
theorem out16 : ∀ b, b < 32 → ¬ b ≤ 16 → (nI b).toInt < 0 ∨ 16 < (nI b).toInt := by decide
set_option maxHeartbeats 4000000 in
set_option maxRecDepth 100000 in
theorem law_step {E : gE} {X : gX} {b L x h : Nat} {xs : Nat → Int32} (C : gx E X cL_law 4 wsL_law RL) (hX : va_X b L xs X.1.2.2.1 X.1.2.2.1.heap) (hbl : b < X.1.2.2.1.heap.size) (hbA : ¬ X.2.1 b) (hL : L ≤ 3072)
    (fin : ∀ (ll : List (Option Value)) (ws : va_W), gg E room_1 4 X 600000 7302250 674 ll [.int 1] ws) {i : Nat} {CW TW : va_W} (hiL : i ≤ L) (I : INV E x h CW TW) (kk : i + 6 ≤ L → ∀ CW2 TW2, INV E x h CW2 TW2 → gg E room_1 4 X 600000 7302250 667 [some (.ref b), some (.ref x), some (.ref h), some (.int (nI i))] [] (CW2 ++ TW2)) : gg E room_1 4 X 600000 7302250 18 [some (.ref b), some (.ref x), some (.ref h), some (.int (nI i))] [] (CW ++ TW) := by
    refine g_iload_n C dL_law_18 rfl ?_
    refine g_aload_n C dL_law_19 rfl ?_
    refine g_slenX C hX hbl hbA dL_law_20 ?_
    refine g_bipush (v := nI 6) C dL_law_21 (by decide) ?_
    refine g_isub C dL_law_23 ?_
    refine g_icmp_gt (tgt := 673) C dL_law_24 (by decide) (fun _ => ?_) (fun c => ?_)
    · refine g_iconst (v := 1) C dL_law_673 (by decide) ?_
      exact fin _ _
    · have hi : i + 6 ≤ L := by
        by_cases h6 : 6 ≤ L
        · rw [pk_sub h6, nI_ltI (by omega) (by omega)] at c
          omega
        · exact absurd (sub6 L (by omega) i (by omega) hiL) c
      refine g_aload_n C dL_law_27 rfl ?_
      refine g_iload_n C dL_law_28 rfl ?_
      refine g_sld C hX hbl hbA (j := i) (by omega) (by omega) dL_law_29 ?_
      refine g_bipush (v := nI 31) C dL_law_30 (by decide) ?_
      refine g_iand C dL_law_32 ?_
      obtain ⟨d, hd, e⟩ := and31 (xs i)
      rw [e]
      by_cases h16 : d ≤ 16
      · match d, h16 with
        | 0, _ => exact g_tableIn (off := 83) (tgt := 116) C dL_law_33 (by decide) (by decide) (by decide) (by decide) (Lc_question C hX hbl hbA hi hL I (kk hi))
        | 1, _ => exact g_tableIn (off := 116) (tgt := 149) C dL_law_33 (by decide) (by decide) (by decide) (by decide) (Lc_mark C hX hbl hbA hi hL I (kk hi))
        | 2, _ => exact g_tableIn (off := 159) (tgt := 192) C dL_law_33 (by decide) (by decide) (by decide) (by decide) (Lc_of C hX hbl hbA hi hL I (kk hi))
        | 3, _ => exact g_tableIn (off := 192) (tgt := 225) C dL_law_33 (by decide) (by decide) (by decide) (by decide) (Lc_got C hX hbl hbA hi hL I (kk hi))
        | 4, _ => exact g_tableIn (off := 235) (tgt := 268) C dL_law_33 (by decide) (by decide) (by decide) (by decide) (Lc_feed C hX hbl hbA hi hL I (kk hi))
        | 5, _ => exact g_tableIn (off := 298) (tgt := 331) C dL_law_33 (by decide) (by decide) (by decide) (by decide) (Lc_end C hX hbl hbA hi hL I (kk hi))
        | 6, _ => exact g_tableIn (off := 321) (tgt := 354) C dL_law_33 (by decide) (by decide) (by decide) (by decide) (Lc_rules C hX hbl hbA hi hL I (kk hi))
        | 7, _ => exact g_tableIn (off := 334) (tgt := 367) C dL_law_33 (by decide) (by decide) (by decide) (by decide) (Lc_fault C hX hbl hbA hi hL I (kk hi))
        | 8, _ => exact g_tableIn (off := 357) (tgt := 390) C dL_law_33 (by decide) (by decide) (by decide) (by decide) (Lc_phrase C hX hbl hbA hi hL I (kk hi))
        | 9, _ => exact g_tableIn (off := 390) (tgt := 423) C dL_law_33 (by decide) (by decide) (by decide) (by decide) (Lc_name C hX hbl hbA hi hL I (kk hi))
        | 10, _ => exact g_tableIn (off := 423) (tgt := 456) C dL_law_33 (by decide) (by decide) (by decide) (by decide) (Lc_page C hX hbl hbA hi hL I (kk hi))
        | 11, _ => exact g_tableIn (off := 446) (tgt := 479) C dL_law_33 (by decide) (by decide) (by decide) (by decide) (Lc_line C hX hbl hbA hi hL I (kk hi))
        | 12, _ => exact g_tableIn (off := 489) (tgt := 522) C dL_law_33 (by decide) (by decide) (by decide) (by decide) (Lc_write C hX hbl hbA hi hL I (kk hi))
        | 13, _ => exact g_tableIn (off := 522) (tgt := 555) C dL_law_33 (by decide) (by decide) (by decide) (by decide) (Lc_out C hX hbl hbA hi hL I (kk hi))
        | 14, _ => exact g_tableIn (off := 545) (tgt := 578) C dL_law_33 (by decide) (by decide) (by decide) (by decide) (Lc_alike C hX hbl hbA hi hL I (kk hi))
        | 15, _ => exact g_tableIn (off := 578) (tgt := 611) C dL_law_33 (by decide) (by decide) (by decide) (by decide) (Lc_sheet C hX hbl hbA hi hL I (kk hi))
        | 16, _ => exact g_tableIn (off := 611) (tgt := 644) C dL_law_33 (by decide) (by decide) (by decide) (by decide) (Lc_group C hX hbl hbA hi hL I (kk hi))
        | d + 17, hz => exact absurd hz (by omega)
      · exact g_tableOut (tgt := 667) C dL_law_33 (out16 d hd h16) (by decide) (kk hi CW TW I)
theorem law_loop {E : gE} {X : gX} {b L x h : Nat} {xs : Nat → Int32} (C : gx E X cL_law 4 wsL_law RL) (hX : va_X b L xs X.1.2.2.1 X.1.2.2.1.heap) (hbl : b < X.1.2.2.1.heap.size) (hbA : ¬ X.2.1 b) (hL : L ≤ 3072)
    (fin : ∀ (ll : List (Option Value)) (ws : va_W), gg E room_1 4 X 600000 7302250 674 ll [.int 1] ws) : ∀ (N i : Nat) (CW TW : va_W), L - i < N → i ≤ L → INV E x h CW TW → gg E room_1 4 X 600000 7302250 18 [some (.ref b), some (.ref x), some (.ref h), some (.int (nI i))] [] (CW ++ TW)
  | 0, i, CW, TW, hN, _, _ => absurd hN (Nat.not_lt_zero _)
  | N + 1, i, CW, TW, hN, hiL, I => law_step C hX hbl hbA hL fin hiL I (fun hi CW2 TW2 I2 => g_iinc_n (x := i) (y := 6) C dL_law_667 rfl (by decide) (by decide) rfl rfl (g_goto (tgt := 18) C dL_law_670 (by decide) (law_loop C hX hbl hbA hL fin N (i + 6) CW2 TW2 (by omega) (by omega) I2)))
