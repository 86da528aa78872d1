/-! THE REFERENCE'S JUDGE: its steps are the tokens, translated -/
def trJ (t : Int32) : Int32 :=
  if ¬ nI 999 < t then t else if ¬ t < nI 1006 ∧ ¬ nI 1010 < t then nI (t.toNatClampNeg - 5) else if t = nI 1005 then nI 2005 else if t = nI 1143 then nI 2000 else if t = nI 1145 then nI 2001 else if t = nI 1160 then nI 2002 else if t = nI 1161 then nI 2003 else if t = nI 1162 then nI 2004 else if t = nI 1004 then nI 2006 else nI 2007
/-- what the reference knows by a set: marked, share, missed, last, class -/
def kno (ms pt : Nat → Int32) (P M cnt : Nat) (mid : Int32) (w : Nat) : Int32 :=
  if w = 1001 then nI (bcN M 10) else if w = 1002 then shV ms pt P M cnt else if w = 1003 then nI (miN pt P M cnt) else if w = 1004 then laV ms pt P M cnt else mid
/-- the reference's joining -/
def tOp (w : Nat) (l r : Int32) : Int32 :=
  if w = 2000 then l + r else if w = 2001 then l - r else if w = 2002 then (if r ≤ l then nI 0 else nI 1) else if w = 2003 then (if l = r then nI 1 else nI 0) else if w = 2004 then (if l ≤ r then nI 0 else nI 1) else if w = 2005 then l ||| r else if w = 2006 then l &&& r else l ||| r
/-- a token that can stand, seen as the reference's step -/
theorem step_kinds {t : Int32} {T T2 : List Bool} (hT : tyS t T = some T2) :
    (∃ k, k ≤ 999 ∧ t = nI k ∧ trJ t = nI k ∧ T.length < 32 ∧ T2 = false :: T) ∨
    (∃ k, 1001 ≤ k ∧ k ≤ 1005 ∧ t = nI (k + 5) ∧ trJ t = nI k ∧ T.length < 32 ∧ T2 = false :: T) ∨
    (t = nI 1005 ∧ trJ t = nI 2005 ∧ T.length ≤ 32 ∧ ∃ U, T = true :: U ∧ T2 = true :: U) ∨
    (∃ w, 2000 ≤ w ∧ w ≤ 2007 ∧ w ≠ 2005 ∧ trJ t = nI w ∧ T.length ≤ 32 ∧ (∀ l r, tOp w l r = jOp t l r) ∧ (∀ io S, jS io t S = jBin t S) ∧ ∃ r l U b, T = r :: l :: U ∧ T2 = b :: U) := by
  by_cases h0 : ¬ nI 999 < t
  · obtain ⟨hl, h1, h2⟩ := tyS_num h0 hT
    left
    rw [fa_lt, nI_toInt (by decide)] at h0
    rw [fa_lt] at h1
    have e0 : (0 : Int32).toInt = 0 := rfl
    rw [e0] at h1
    refine ⟨t.toInt.toNat, by omega, ?_, ?_, hl, h2⟩
    · rw [fa_eq, nI_toInt (by omega)]
      omega
    · rw [trJ, if_pos (by rw [fa_lt, nI_toInt (by decide)]; exact h0), fa_eq, nI_toInt (by omega)]
      omega
  · have h0' := Classical.not_not.mp h0
    by_cases h1 : ¬ t < nI 1006 ∧ ¬ nI 1010 < t
    · obtain ⟨hl, h2⟩ := tyS_mea h0' h1 hT
      obtain ⟨k, hk1, hk2, rfl⟩ := mea_k h1.1 h1.2
      refine Or.inr (Or.inl ⟨k - 5, by omega, by omega, by rw [show k - 5 + 5 = k by omega], ?_, hl, h2⟩)
      rw [trJ, if_neg h0, if_pos h1, nI_clamp (by omega)]
    · by_cases h2 : t = nI 1005
      · obtain ⟨hl, hU⟩ := tyS_not h2 hT
        exact Or.inr (Or.inr (Or.inl ⟨h2, by rw [h2]; decide, hl, hU⟩))
      · obtain ⟨hl, hB⟩ := tyS_bin h0' h1 h2 hT
        obtain ⟨r, l, U, b, hU, hU2, hc⟩ := tyB_inv hB
        have key : ∀ (w : Nat), 2000 ≤ w → w ≤ 2007 → w ≠ 2005 → trJ t = nI w → (∀ l r, tOp w l r = jOp t l r) → (∃ w, 2000 ≤ w ∧ w ≤ 2007 ∧ w ≠ 2005 ∧ trJ t = nI w ∧ T.length ≤ 32 ∧ (∀ l r, tOp w l r = jOp t l r) ∧ (∀ io S, jS io t S = jBin t S) ∧ ∃ r l U b, T = r :: l :: U ∧ T2 = b :: U) := fun w a1 a2 a3 a4 a5 => ⟨w, a1, a2, a3, a4, hl, a5, fun io S => by rw [jS, if_neg h0, if_neg h1, if_neg h2], r, l, U, b, hU, hU2⟩
        refine Or.inr (Or.inr (Or.inr ?_))
        rcases hc with ⟨q, -⟩ | ⟨q, -⟩ | ⟨q, -⟩
        · rcases q with rfl | rfl
          · exact key 2000 (by decide) (by decide) (by decide) (by decide) (fun l r => rfl)
          · exact key 2001 (by decide) (by decide) (by decide) (by decide) (fun l r => rfl)
        · rcases q with rfl | rfl | rfl
          · exact key 2002 (by decide) (by decide) (by decide) (by decide) (fun l r => rfl)
          · exact key 2003 (by decide) (by decide) (by decide) (by decide) (fun l r => rfl)
          · exact key 2004 (by decide) (by decide) (by decide) (by decide) (fun l r => rfl)
        · rcases q with rfl | rfl
          · exact key 2006 (by decide) (by decide) (by decide) (by decide) (fun l r => rfl)
          · exact key 2007 (by decide) (by decide) (by decide) (by decide) (fun l r => rfl)
theorem not_01 {a : Int32} (h : a = nI 0 ∨ a = nI 1) : nI 1 - a = if a = 0 then nI 1 else nI 0 := by
  rcases h with rfl | rfl <;> decide

abbrev rm_c_X10_both : Room := { frames := 0, cells := 0, slots := 0, locals := 0 }
set_option maxHeartbeats 4000000 in
set_option maxRecDepth 100000 in
theorem c_X10_both (E : gE) (w : Nat) (l r : Int32) (h1 : 2000 ≤ w) (h2 : w ≤ 2007) : MM E yX10_both wsX10_both rm_c_X10_both [.int (nI w), .int l, .int r] [] (fun rv_ ru_ => rv_ = some (.int (tOp w l r)) ∧ ru_ = []) := by
  refine MM.ofG (cc := cX10_both) (maxL := 3) (ret := (some .int)) (by decide) rfl (Nat.le_of_ble_eq_true rfl) (ll := [some (.int (nI w)), some (.int l), some (.int r)]) rfl ?_
  intro X C Rt
  have C : gx E X cX10_both 3 wsX10_both RX10 := C
  refine g_iload_n C dX10_both_0 rfl ?_
  by_cases s1_0 : w = 2000
  · refine g_tableIn (off := 43) (tgt := 44) C dX10_both_1 (by rw [s1_0]; decide) (by rw [s1_0]; decide) (by rw [s1_0]; rfl) (by decide) ?_
    refine g_iload_n C dX10_both_44 rfl ?_
    refine g_iload_n C dX10_both_45 rfl ?_
    refine g_iadd C dX10_both_46 ?_
    exact g_iret C Rt dX10_both_47 (by decide) (by decide) (⟨by rw [tOp, if_pos s1_0], rfl⟩)
  by_cases s1_1 : w = 2001
  · refine g_tableIn (off := 47) (tgt := 48) C dX10_both_1 (by rw [s1_1]; decide) (by rw [s1_1]; decide) (by rw [s1_1]; rfl) (by decide) ?_
    refine g_iload_n C dX10_both_48 rfl ?_
    refine g_iload_n C dX10_both_49 rfl ?_
    refine g_isub C dX10_both_50 ?_
    exact g_iret C Rt dX10_both_51 (by decide) (by decide) (⟨by rw [tOp, if_neg s1_0, if_pos s1_1], rfl⟩)
  by_cases s1_2 : w = 2002
  · refine g_tableIn (off := 51) (tgt := 52) C dX10_both_1 (by rw [s1_2]; decide) (by rw [s1_2]; decide) (by rw [s1_2]; rfl) (by decide) ?_
    refine g_iload_n C dX10_both_52 rfl ?_
    refine g_iload_n C dX10_both_53 rfl ?_
    refine g_icmp_ge (tgt := 61) C dX10_both_54 (by decide) (fun c54 => ?_) (fun c54 => ?_)
    · refine g_iconst (v := nI 0) C dX10_both_61 (by decide) ?_
      exact g_iret C Rt dX10_both_62 (by decide) (by decide) (⟨by rw [tOp, if_neg s1_0, if_neg s1_1, if_pos s1_2, if_pos c54], rfl⟩)
    · refine g_iconst (v := nI 1) C dX10_both_57 (by decide) ?_
      refine g_goto (tgt := 62) C dX10_both_58 (by decide) ?_
      exact g_iret C Rt dX10_both_62 (by decide) (by decide) (⟨by rw [tOp, if_neg s1_0, if_neg s1_1, if_pos s1_2, if_neg c54], rfl⟩)
  by_cases s1_3 : w = 2003
  · refine g_tableIn (off := 62) (tgt := 63) C dX10_both_1 (by rw [s1_3]; decide) (by rw [s1_3]; decide) (by rw [s1_3]; rfl) (by decide) ?_
    refine g_iload_n C dX10_both_63 rfl ?_
    refine g_iload_n C dX10_both_64 rfl ?_
    refine g_icmp_ne (tgt := 72) C dX10_both_65 (by decide) (fun c65 => ?_) (fun c65 => ?_)
    · refine g_iconst (v := nI 0) C dX10_both_72 (by decide) ?_
      exact g_iret C Rt dX10_both_73 (by decide) (by decide) (⟨by rw [tOp, if_neg s1_0, if_neg s1_1, if_neg s1_2, if_pos s1_3, if_neg c65], rfl⟩)
    · refine g_iconst (v := nI 1) C dX10_both_68 (by decide) ?_
      refine g_goto (tgt := 73) C dX10_both_69 (by decide) ?_
      exact g_iret C Rt dX10_both_73 (by decide) (by decide) (⟨by rw [tOp, if_neg s1_0, if_neg s1_1, if_neg s1_2, if_pos s1_3, if_pos c65], rfl⟩)
  by_cases s1_4 : w = 2004
  · refine g_tableIn (off := 73) (tgt := 74) C dX10_both_1 (by rw [s1_4]; decide) (by rw [s1_4]; decide) (by rw [s1_4]; rfl) (by decide) ?_
    refine g_iload_n C dX10_both_74 rfl ?_
    refine g_iload_n C dX10_both_75 rfl ?_
    refine g_icmp_le (tgt := 83) C dX10_both_76 (by decide) (fun c76 => ?_) (fun c76 => ?_)
    · refine g_iconst (v := nI 0) C dX10_both_83 (by decide) ?_
      exact g_iret C Rt dX10_both_84 (by decide) (by decide) (⟨by rw [tOp, if_neg s1_0, if_neg s1_1, if_neg s1_2, if_neg s1_3, if_pos s1_4, if_pos c76], rfl⟩)
    · refine g_iconst (v := nI 1) C dX10_both_79 (by decide) ?_
      refine g_goto (tgt := 84) C dX10_both_80 (by decide) ?_
      exact g_iret C Rt dX10_both_84 (by decide) (by decide) (⟨by rw [tOp, if_neg s1_0, if_neg s1_1, if_neg s1_2, if_neg s1_3, if_pos s1_4, if_neg c76], rfl⟩)
  by_cases s1_5 : w = 2005
  · refine g_tableIn (off := 88) (tgt := 89) C dX10_both_1 (by rw [s1_5]; decide) (by rw [s1_5]; decide) (by rw [s1_5]; rfl) (by decide) ?_
    refine g_iload_n C dX10_both_89 rfl ?_
    refine g_iload_n C dX10_both_90 rfl ?_
    refine g_ior C dX10_both_91 ?_
    exact g_iret C Rt dX10_both_92 (by decide) (by decide) (⟨by rw [tOp, if_neg s1_0, if_neg s1_1, if_neg s1_2, if_neg s1_3, if_neg s1_4, if_pos s1_5], rfl⟩)
  by_cases s1_6 : w = 2006
  · refine g_tableIn (off := 84) (tgt := 85) C dX10_both_1 (by rw [s1_6]; decide) (by rw [s1_6]; decide) (by rw [s1_6]; rfl) (by decide) ?_
    refine g_iload_n C dX10_both_85 rfl ?_
    refine g_iload_n C dX10_both_86 rfl ?_
    refine g_iand C dX10_both_87 ?_
    exact g_iret C Rt dX10_both_88 (by decide) (by decide) (⟨by rw [tOp, if_neg s1_0, if_neg s1_1, if_neg s1_2, if_neg s1_3, if_neg s1_4, if_neg s1_5, if_pos s1_6], rfl⟩)
  refine g_tableOut (tgt := 89) C dX10_both_1 (by have e0 := ne_toInt (by decide) (show ¬ (nI w) = nI 2000 from (fun z => s1_0 ((nI_eq (by omega) (by decide)).mp z))); have e1 := ne_toInt (by decide) (show ¬ (nI w) = nI 2001 from (fun z => s1_1 ((nI_eq (by omega) (by decide)).mp z))); have e2 := ne_toInt (by decide) (show ¬ (nI w) = nI 2002 from (fun z => s1_2 ((nI_eq (by omega) (by decide)).mp z))); have e3 := ne_toInt (by decide) (show ¬ (nI w) = nI 2003 from (fun z => s1_3 ((nI_eq (by omega) (by decide)).mp z))); have e4 := ne_toInt (by decide) (show ¬ (nI w) = nI 2004 from (fun z => s1_4 ((nI_eq (by omega) (by decide)).mp z))); have e5 := ne_toInt (by decide) (show ¬ (nI w) = nI 2005 from (fun z => s1_5 ((nI_eq (by omega) (by decide)).mp z))); have e6 := ne_toInt (by decide) (show ¬ (nI w) = nI 2006 from (fun z => s1_6 ((nI_eq (by omega) (by decide)).mp z))); omega) (by decide) ?_
  refine g_iload_n C dX10_both_89 rfl ?_
  refine g_iload_n C dX10_both_90 rfl ?_
  refine g_ior C dX10_both_91 ?_
  exact g_iret C Rt dX10_both_92 (by decide) (by decide) (⟨by rw [tOp, if_neg s1_0, if_neg s1_1, if_neg s1_2, if_neg s1_3, if_neg s1_4, if_neg s1_5, if_neg s1_6], rfl⟩)

abbrev rm_c_X10_known : Room := { frames := 1, cells := 0, slots := 0, locals := 25 }
set_option maxHeartbeats 4000000 in
set_option maxRecDepth 100000 in
theorem c_X10_known (E : gE) (h : Nat) (ad : Nat → Nat) (iv : Nat → Int32) (cnt : Nat) (ms pt : Nat → Int32) (P M w : Nat) (mid : Int32) (hcnt : cnt ≤ 10) (hP : P < 8) (hM : M < 1024) (hms : okM ms cnt) (hw : w ≤ 1005) : MM E yX10_known wsX10_known rm_c_X10_known [.ref h, .int (nI P), .int (nI M), .int (nI w), .int mid] [gO h 10 (tF ad (upd iv 0 (nI cnt))), gA E (ad 1) 10 ms, gA E (ad 3) 80 pt] (fun rv_ ru_ => rv_ = some (.int (kno ms pt P M cnt mid w)) ∧ ru_ = [gO h 10 (tF ad (upd iv 0 (nI cnt))), gA E (ad 1) 10 ms, gA E (ad 3) 80 pt]) := by
  refine MM.ofG (cc := cX10_known) (maxL := 5) (ret := (some .int)) (by decide) rfl (Nat.le_of_ble_eq_true rfl) (ll := [some (.ref h), some (.int (nI P)), some (.int (nI M)), some (.int (nI w)), some (.int mid)]) rfl ?_
  intro X C Rt
  have C : gx E X cX10_known 5 wsX10_known RX10 := C
  refine g_iload_n C dX10_known_0 rfl ?_
  by_cases s1_0 : w = 1001
  · refine g_tableIn (off := 31) (tgt := 32) C dX10_known_1 (by rw [s1_0]; decide) (by rw [s1_0]; decide) (by rw [s1_0]; rfl) (by decide) ?_
    refine g_iload_n C dX10_known_32 rfl ?_
    refine g_callS C (c_X10_bits E M (by omega)) gX10_known_X10_bits rfl 1 (by decide +kernel) ⟨by decide, by decide⟩ ⟨by decide, by decide⟩ [] [0, 1, 2] (wr := [gO h 10 (tF ad (upd iv 0 (nI cnt))), gA E (ad 1) 10 ms, gA E (ad 3) 80 pt]) rfl (by decide) rfl (by decide) (by decide) rfl rfl (Nat.le_of_ble_eq_true rfl) dX10_known_33 ?_
    rintro _ _ ⟨rfl, rfl⟩
    show gg E _ 5 X 0 0 36 [some (.ref h), some (.int (nI P)), some (.int (nI M)), some (.int (nI w)), some (.int mid)] [.int (nI (bcN M 10))] [gO h 10 (tF ad (upd iv 0 (nI cnt))), gA E (ad 1) 10 ms, gA E (ad 3) 80 pt]
    exact g_iret C Rt dX10_known_36 (by decide) (by decide) (⟨by rw [kno, if_pos s1_0], rfl⟩)
  by_cases s1_1 : w = 1002
  · refine g_tableIn (off := 36) (tgt := 37) C dX10_known_1 (by rw [s1_1]; decide) (by rw [s1_1]; decide) (by rw [s1_1]; rfl) (by decide) ?_
    refine g_aload_n C dX10_known_37 rfl ?_
    refine g_iload_n C dX10_known_38 rfl ?_
    refine g_iload_n C dX10_known_39 rfl ?_
    refine g_callV C (c_X10_share E h ad iv cnt ms pt P M (by omega) (by omega) (by omega)) gX10_known_X10_share rfl 2 (by decide +kernel) ⟨by decide, by decide⟩ ⟨by decide, by decide⟩ 0 rfl rfl [0, 1, 2] [] (wr := []) rfl (by decide) rfl (by decide) (by decide) rfl rfl (Nat.le_of_ble_eq_true rfl) dX10_known_40 ?_
    rintro _ _ ⟨rfl, rfl⟩
    show gg E _ 5 X 0 0 43 [some (.ref h), some (.int (nI P)), some (.int (nI M)), some (.int (nI w)), some (.int mid)] [.int (shV ms pt P M cnt)] [gO h 10 (tF ad (upd iv 0 (nI cnt))), gA E (ad 1) 10 ms, gA E (ad 3) 80 pt]
    exact g_iret C Rt dX10_known_43 (by decide) (by decide) (⟨by rw [kno, if_neg s1_0, if_pos s1_1], rfl⟩)
  by_cases s1_2 : w = 1003
  · refine g_tableIn (off := 43) (tgt := 44) C dX10_known_1 (by rw [s1_2]; decide) (by rw [s1_2]; decide) (by rw [s1_2]; rfl) (by decide) ?_
    refine g_aload_n C dX10_known_44 rfl ?_
    refine g_iload_n C dX10_known_45 rfl ?_
    refine g_iload_n C dX10_known_46 rfl ?_
    refine g_callV C (c_X10_missed E h ad iv cnt pt P M (by omega) (by omega) (by omega)) gX10_known_X10_missed rfl 2 (by decide +kernel) ⟨by decide, by decide⟩ ⟨by decide, by decide⟩ 0 rfl rfl [0, 2] [1] (wr := [gA E (ad 1) 10 ms]) rfl (by decide) rfl (by decide) (by decide) rfl rfl (Nat.le_of_ble_eq_true rfl) dX10_known_47 ?_
    rintro _ _ ⟨rfl, rfl⟩
    refine gg.perm (ws' := [gO h 10 (tF ad (upd iv 0 (nI cnt))), gA E (ad 1) 10 ms, gA E (ad 3) 80 pt]) [1, 0, 2] (by decide) rfl ?_
    show gg E _ 5 X 0 0 50 [some (.ref h), some (.int (nI P)), some (.int (nI M)), some (.int (nI w)), some (.int mid)] [.int (nI (miN pt P M cnt))] [gO h 10 (tF ad (upd iv 0 (nI cnt))), gA E (ad 1) 10 ms, gA E (ad 3) 80 pt]
    exact g_iret C Rt dX10_known_50 (by decide) (by decide) (⟨by rw [kno, if_neg s1_0, if_neg s1_1, if_pos s1_2], rfl⟩)
  by_cases s1_3 : w = 1004
  · refine g_tableIn (off := 50) (tgt := 51) C dX10_known_1 (by rw [s1_3]; decide) (by rw [s1_3]; decide) (by rw [s1_3]; rfl) (by decide) ?_
    refine g_aload_n C dX10_known_51 rfl ?_
    refine g_iload_n C dX10_known_52 rfl ?_
    refine g_iload_n C dX10_known_53 rfl ?_
    refine g_callV C (c_X10_last E h ad iv cnt ms pt P M (by omega) (by omega) (by omega) (hms)) gX10_known_X10_last rfl 2 (by decide +kernel) ⟨by decide, by decide⟩ ⟨by decide, by decide⟩ 0 rfl rfl [0, 1, 2] [] (wr := []) rfl (by decide) rfl (by decide) (by decide) rfl rfl (Nat.le_of_ble_eq_true rfl) dX10_known_54 ?_
    rintro _ _ ⟨rfl, rfl⟩
    show gg E _ 5 X 0 0 57 [some (.ref h), some (.int (nI P)), some (.int (nI M)), some (.int (nI w)), some (.int mid)] [.int (laV ms pt P M cnt)] [gO h 10 (tF ad (upd iv 0 (nI cnt))), gA E (ad 1) 10 ms, gA E (ad 3) 80 pt]
    exact g_iret C Rt dX10_known_57 (by decide) (by decide) (⟨by rw [kno, if_neg s1_0, if_neg s1_1, if_neg s1_2, if_pos s1_3], rfl⟩)
  refine g_tableOut (tgt := 58) C dX10_known_1 (by have e0 := ne_toInt (by decide) (show ¬ (nI w) = nI 1001 from (fun z => s1_0 ((nI_eq (by omega) (by decide)).mp z))); have e1 := ne_toInt (by decide) (show ¬ (nI w) = nI 1002 from (fun z => s1_1 ((nI_eq (by omega) (by decide)).mp z))); have e2 := ne_toInt (by decide) (show ¬ (nI w) = nI 1003 from (fun z => s1_2 ((nI_eq (by omega) (by decide)).mp z))); have e3 := ne_toInt (by decide) (show ¬ (nI w) = nI 1004 from (fun z => s1_3 ((nI_eq (by omega) (by decide)).mp z))); omega) (by decide) ?_
  refine g_iload C dX10_known_58 rfl ?_
  exact g_iret C Rt dX10_known_60 (by decide) (by decide) (⟨by rw [kno, if_neg s1_0, if_neg s1_1, if_neg s1_2, if_neg s1_3], rfl⟩)

abbrev rm_c_X10_isSo : Room := { frames := 2, cells := 0, slots := 0, locals := 49 }
set_option maxHeartbeats 4000000 in
set_option maxRecDepth 100000 in
theorem c_X10_isSo (E : gE) (h : Nat) (ad : Nat → Nat) (iv : Nat → Int32) (cnt : Nat) (ms pt fr sp pi co io : Nat → Int32) (r P M a ln : Nat) (mid : Int32) (hcnt : cnt ≤ 10) (hP : P < 8) (hM : M < 1024) (hms : okM ms cnt) (hr : r < 12) (ha : fr r = nI a) (hb : fr (r + 1) = nI (a + ln)) (hl : a + ln ≤ 620) (ht : tyR co a ln = some [true]) (hco : ∀ i, i < ln → sp (a + i) = trJ (co (a + i))) (hio : ∀ k, k < 5 → io k = kno ms pt P M cnt mid (k + 1001)) : MM E yX10_isSo wsX10_isSo rm_c_X10_isSo [.ref h, .int (nI r), .int (nI P), .int (nI M), .int mid] [gO h 10 (tF ad (upd iv 0 (nI cnt))), gA E (ad 1) 10 ms, gA E (ad 3) 80 pt, gA E (ad 10) 13 fr, gA E (ad 11) 620 sp, gA E (ad 16) 620 pi] (fun rv_ ru_ => ∃ (pi2 : Nat → Int32), rv_ = some (.int (b2i (decide (¬ jV io co a ln = 0)))) ∧ ru_ = [gO h 10 (tF ad (upd iv 0 (nI cnt))), gA E (ad 1) 10 ms, gA E (ad 3) 80 pt, gA E (ad 10) 13 fr, gA E (ad 11) 620 sp, gA E (ad 16) 620 pi2]) := by
  refine MM.ofG (cc := cX10_isSo) (maxL := 8) (ret := (some .boolean)) (by decide) rfl (Nat.le_of_ble_eq_true rfl) (ll := [some (.ref h), some (.int (nI r)), some (.int (nI P)), some (.int (nI M)), some (.int mid), none, none, none]) rfl ?_
  intro X C Rt
  have C : gx E X cX10_isSo 8 wsX10_isSo RX10 := C
  have i_X10 : ∀ w ∈ u_ws RX10 TX10 40, w ∈ wsX10_isSo := by decide +kernel
  have f_28 : Cond.fieldLink RX10 28 "MarkPagesModel" "from" "[I" ∈ wsX10_isSo := by decide +kernel
  have f_31 : Cond.fieldLink RX10 31 "MarkPagesModel" "step" "[I" ∈ wsX10_isSo := by decide +kernel
  have f_46 : Cond.fieldLink RX10 46 "MarkPagesModel" "pile" "[I" ∈ wsX10_isSo := by decide +kernel
  refine g_iconst (v := nI 0) C dX10_isSo_0 (by decide) ?_
  refine g_istore C dX10_isSo_1 (by decide) rfl (ll' := [some (.ref h), some (.int (nI r)), some (.int (nI P)), some (.int (nI M)), some (.int mid), some (.int (nI 0)), none, none]) rfl ?_
  refine g_aload_n C dX10_isSo_3 rfl ?_
  refine g_get C i_X10 0 10 f_28 rfl rfl (by decide) rfl rfl dX10_isSo_4 ?_
  refine g_iload_n C dX10_isSo_7 rfl ?_
  refine g_iald C 3 r rfl rfl (by omega) (by decide) dX10_isSo_8 ?_
  refine g_top ha ?_
  refine g_istore C dX10_isSo_9 (by decide) rfl (ll' := [some (.ref h), some (.int (nI r)), some (.int (nI P)), some (.int (nI M)), some (.int mid), some (.int (nI 0)), some (.int (nI a)), none]) rfl ?_
  have L11 : ∀ (n11 : Nat) (i : Nat) (T : List Bool) (pj : Nat → Int32), ln - i < n11 → (i ≤ ln) → (tyR co a i = some T) → (stk pj T.length = jR io co a i) → gg E rm_c_X10_isSo 8 X 0 0 11 [some (.ref h), some (.int (nI r)), some (.int (nI P)), some (.int (nI M)), some (.int mid), some (.int (nI T.length)), some (.int (nI (a + i))), none] [] [gO h 10 (tF ad (upd iv 0 (nI cnt))), gA E (ad 1) 10 ms, gA E (ad 3) 80 pt, gA E (ad 10) 13 fr, gA E (ad 11) 620 sp, gA E (ad 16) 620 pj] := by
    intro n11
    induction n11 with
    | zero => intro i T pj hm11; exact absurd hm11 (Nat.not_lt_zero _)
    | succ n11 ih11 =>
      intro i T pj hm11 hi hT hs
      refine g_iload C dX10_isSo_11 rfl ?_
      refine g_aload_n C dX10_isSo_13 rfl ?_
      refine g_get C i_X10 0 10 f_28 rfl rfl (by decide) rfl rfl dX10_isSo_14 ?_
      refine g_iload_n C dX10_isSo_17 rfl ?_
      refine g_iconst (v := nI 1) C dX10_isSo_18 (by decide) ?_
      refine g_iadd_n C dX10_isSo_19 ?_
      refine g_iald C 3 (r + 1) rfl rfl (by omega) (by decide) dX10_isSo_20 ?_
      refine g_top hb ?_
      refine g_icmp_ge_n (tgt := 147) C dX10_isSo_21 (by decide) (by omega) (by omega) (fun c21 => ?_) (fun c21 => ?_)
      · have ei : i = ln := by omega
        rw [ei, ht] at hT
        have hT9 : T.length = 1 := by cases hT; rfl
        rw [ei] at hs
        have hv : pj 0 = jV io co a ln := by rw [jV, ← hs, hT9]; rfl
        have h01 := jV_01 (io := io) ht
        refine g_aload_n C dX10_isSo_147 rfl ?_
        refine g_get C i_X10 0 16 f_46 rfl rfl (by decide) rfl rfl dX10_isSo_148 ?_
        refine g_iconst (v := nI 0) C dX10_isSo_151 (by decide) ?_
        refine g_iald C 5 0 rfl rfl (by omega) (by decide) dX10_isSo_152 ?_
        refine g_iconst (v := nI 1) C dX10_isSo_153 (by decide) ?_
        refine g_icmp_ne (tgt := 161) C dX10_isSo_154 (by decide) (fun c154 => ?_) (fun c154 => ?_)
        · refine g_iconst (v := nI 0) C dX10_isSo_161 (by decide) ?_
          exact g_zret C Rt dX10_isSo_162 (by decide) (by decide) (by decide) (⟨_, by rw [decide_eq_false (fun z => z (h01.elim id (fun q => absurd (hv.trans q) c154)))]; rfl, rfl⟩)
        · refine g_iconst (v := nI 1) C dX10_isSo_157 (by decide) ?_
          refine g_goto (tgt := 162) C dX10_isSo_158 (by decide) ?_
          exact g_zret C Rt dX10_isSo_162 (by decide) (by decide) (by decide) (⟨_, by rw [decide_eq_true (show ¬ jV io co a ln = 0 by rw [← hv, c154]; decide)]; rfl, rfl⟩)
      · obtain ⟨T2, hT3⟩ := tyR_pre (show i + 1 ≤ ln by omega) ht
        obtain ⟨T1, hT1, hS1⟩ := tyR_step hT3
        have hSt : tyS (co (a + i)) T = some T2 := by rw [hT] at hT1; cases hT1; exact hS1
        refine g_aload_n C dX10_isSo_24 rfl ?_
        refine g_get C i_X10 0 11 f_31 rfl rfl (by decide) rfl rfl dX10_isSo_25 ?_
        refine g_iload C dX10_isSo_28 rfl ?_
        refine g_iald C 4 (a + i) rfl rfl (by omega) (by decide) dX10_isSo_30 ?_
        refine g_top (hco i (by omega)) ?_
        refine g_istore C dX10_isSo_31 (by decide) rfl (ll' := [some (.ref h), some (.int (nI r)), some (.int (nI P)), some (.int (nI M)), some (.int mid), some (.int (nI T.length)), some (.int (nI (a + i))), some (.int (trJ (co (a + i))))]) rfl ?_
        rcases step_kinds hSt with ⟨k, hk, ht0, htr, hlt, rfl⟩ | ⟨k, hk1, hk2, ht0, htr, hlt, rfl⟩ | ⟨ht0, htr, hlt, U, rfl, rfl⟩ | ⟨w, hw1, hw2, hw3, htr, hlt, hop, hjs, r_, l_, U, b_, rfl, rfl⟩
        · rw [htr]
          refine g_iload C dX10_isSo_33 rfl ?_
          refine g_sipush (v := nI 2000) C dX10_isSo_35 (by decide) ?_
          refine g_icmp_ge_n (tgt := 77) C dX10_isSo_38 (by decide) (by omega) (by omega) (fun c38 => ?_) (fun c38 => ?_)
          · exact absurd c38 (by omega)
          · refine g_aload_n C dX10_isSo_41 rfl ?_
            refine g_get C i_X10 0 16 f_46 rfl rfl (by decide) rfl rfl dX10_isSo_42 ?_
            refine g_iload C dX10_isSo_45 rfl ?_
            refine g_iload C dX10_isSo_47 rfl ?_
            refine g_sipush (v := nI 1001) C dX10_isSo_49 (by decide) ?_
            refine g_icmp_ge_n (tgt := 60) C dX10_isSo_52 (by decide) (by omega) (by omega) (fun c52 => ?_) (fun c52 => ?_)
            · exact absurd c52 (by omega)
            · refine g_iload C dX10_isSo_55 rfl ?_
              refine g_goto (tgt := 70) C dX10_isSo_57 (by decide) ?_
              refine g_iast C 5 T.length rfl rfl (by omega) (by decide) dX10_isSo_70 (ws' := [gO h 10 (tF ad (upd iv 0 (nI cnt))), gA E (ad 1) 10 ms, gA E (ad 3) 80 pt, gA E (ad 10) 13 fr, gA E (ad 11) 620 sp, gA E (ad 16) 620 (upd pj T.length (nI k))]) rfl ?_
              refine g_iinc_n (y := 1) C dX10_isSo_71 rfl (by decide) (by decide) rfl (ll' := [some (.ref h), some (.int (nI r)), some (.int (nI P)), some (.int (nI M)), some (.int mid), some (.int (nI (T.length + 1))), some (.int (nI (a + i))), some (.int (nI k))]) rfl ?_
              refine g_goto (tgt := 141) C dX10_isSo_74 (by decide) ?_
              refine gg.less (ll' := [some (.ref h), some (.int (nI r)), some (.int (nI P)), some (.int (nI M)), some (.int mid), some (.int (nI (T.length + 1))), some (.int (nI (a + i))), none]) (by intro i v h; match i, h with | 0, h => exact h | 1, h => exact h | 2, h => exact h | 3, h => exact h | 4, h => exact h | 5, h => exact h | 6, h => exact h | 7, h => exact absurd h (by simp) | (i + 8), h => exact absurd h (by simp)) ?_
              have hs2 : stk (upd pj T.length (nI k)) (T.length + 1) = jR io co a (i + 1) := by
                rw [stk_push, hs, jR, jS, ht0, if_pos (nI_nlt hk (by decide))]
              refine g_iinc_n (y := 1) C dX10_isSo_141 rfl (by decide) (by decide) rfl (ll' := [some (.ref h), some (.int (nI r)), some (.int (nI P)), some (.int (nI M)), some (.int mid), some (.int (nI (T.length + 1))), some (.int (nI ((a + i) + 1))), none]) rfl ?_
              refine g_goto (tgt := 11) C dX10_isSo_144 (by decide) ?_
              exact ih11 (i + 1) (false :: T) (upd pj T.length (nI k)) (by omega) (by omega) (hT3) (hs2)
        · rw [htr]
          refine g_iload C dX10_isSo_33 rfl ?_
          refine g_sipush (v := nI 2000) C dX10_isSo_35 (by decide) ?_
          refine g_icmp_ge_n (tgt := 77) C dX10_isSo_38 (by decide) (by omega) (by omega) (fun c38 => ?_) (fun c38 => ?_)
          · exact absurd c38 (by omega)
          · refine g_aload_n C dX10_isSo_41 rfl ?_
            refine g_get C i_X10 0 16 f_46 rfl rfl (by decide) rfl rfl dX10_isSo_42 ?_
            refine g_iload C dX10_isSo_45 rfl ?_
            refine g_iload C dX10_isSo_47 rfl ?_
            refine g_sipush (v := nI 1001) C dX10_isSo_49 (by decide) ?_
            refine g_icmp_ge_n (tgt := 60) C dX10_isSo_52 (by decide) (by omega) (by omega) (fun c52 => ?_) (fun c52 => ?_)
            · refine g_aload_n C dX10_isSo_60 rfl ?_
              refine g_iload_n C dX10_isSo_61 rfl ?_
              refine g_iload_n C dX10_isSo_62 rfl ?_
              refine g_iload C dX10_isSo_63 rfl ?_
              refine g_iload C dX10_isSo_65 rfl ?_
              refine g_callV C (c_X10_known E h ad iv cnt ms pt P M k mid (by omega) (by omega) (by omega) (hms) (by omega)) gX10_isSo_X10_known rfl 4 (by decide +kernel) ⟨by decide, by decide⟩ ⟨by decide, by decide⟩ 0 rfl rfl [0, 1, 2] [3, 4, 5] (wr := [gA E (ad 10) 13 fr, gA E (ad 11) 620 sp, gA E (ad 16) 620 pj]) rfl (by decide) rfl (by decide) (by decide) rfl rfl (Nat.le_of_ble_eq_true rfl) dX10_isSo_67 ?_
              rintro _ _ ⟨rfl, rfl⟩
              refine gg.perm (ws' := [gO h 10 (tF ad (upd iv 0 (nI cnt))), gA E (ad 1) 10 ms, gA E (ad 3) 80 pt, gA E (ad 10) 13 fr, gA E (ad 11) 620 sp, gA E (ad 16) 620 pj]) [3, 4, 5, 0, 1, 2] (by decide) rfl ?_
              show gg E _ 8 X 0 0 70 [some (.ref h), some (.int (nI r)), some (.int (nI P)), some (.int (nI M)), some (.int mid), some (.int (nI T.length)), some (.int (nI (a + i))), some (.int (nI k))] [.int (kno ms pt P M cnt mid k), .int (nI T.length), .ref (ad 16)] [gO h 10 (tF ad (upd iv 0 (nI cnt))), gA E (ad 1) 10 ms, gA E (ad 3) 80 pt, gA E (ad 10) 13 fr, gA E (ad 11) 620 sp, gA E (ad 16) 620 pj]
              refine g_iast C 5 T.length rfl rfl (by omega) (by decide) dX10_isSo_70 (ws' := [gO h 10 (tF ad (upd iv 0 (nI cnt))), gA E (ad 1) 10 ms, gA E (ad 3) 80 pt, gA E (ad 10) 13 fr, gA E (ad 11) 620 sp, gA E (ad 16) 620 (upd pj T.length (kno ms pt P M cnt mid k))]) rfl ?_
              refine g_iinc_n (y := 1) C dX10_isSo_71 rfl (by decide) (by decide) rfl (ll' := [some (.ref h), some (.int (nI r)), some (.int (nI P)), some (.int (nI M)), some (.int mid), some (.int (nI (T.length + 1))), some (.int (nI (a + i))), some (.int (nI k))]) rfl ?_
              refine g_goto (tgt := 141) C dX10_isSo_74 (by decide) ?_
              refine gg.less (ll' := [some (.ref h), some (.int (nI r)), some (.int (nI P)), some (.int (nI M)), some (.int mid), some (.int (nI (T.length + 1))), some (.int (nI (a + i))), none]) (by intro i v h; match i, h with | 0, h => exact h | 1, h => exact h | 2, h => exact h | 3, h => exact h | 4, h => exact h | 5, h => exact h | 6, h => exact h | 7, h => exact absurd h (by simp) | (i + 8), h => exact absurd h (by simp)) ?_
              have hs2 : stk (upd pj T.length (kno ms pt P M cnt mid k)) (T.length + 1) = jR io co a (i + 1) := by
                rw [stk_push, hs, jR, jS, ht0, if_neg (fun z => z (nI_lt (by omega) (by omega))), if_pos ⟨nI_nlt (by omega) (by omega), nI_nlt (by omega) (by omega)⟩, nI_clamp (by omega), show k + 5 - 1006 = k - 1001 by omega, hio (k - 1001) (by omega), show k - 1001 + 1001 = k by omega]
              refine g_iinc_n (y := 1) C dX10_isSo_141 rfl (by decide) (by decide) rfl (ll' := [some (.ref h), some (.int (nI r)), some (.int (nI P)), some (.int (nI M)), some (.int mid), some (.int (nI (T.length + 1))), some (.int (nI ((a + i) + 1))), none]) rfl ?_
              refine g_goto (tgt := 11) C dX10_isSo_144 (by decide) ?_
              exact ih11 (i + 1) (false :: T) (upd pj T.length (kno ms pt P M cnt mid k)) (by omega) (by omega) (hT3) (hs2)
            · exact absurd c52 (by omega)
        · rw [htr]
          simp only [List.length_cons]
          have hlt : U.length + 1 ≤ 32 := hlt
          refine g_iload C dX10_isSo_33 rfl ?_
          refine g_sipush (v := nI 2000) C dX10_isSo_35 (by decide) ?_
          refine g_icmp_ge_n (tgt := 77) C dX10_isSo_38 (by decide) (by omega) (by omega) (fun c38 => ?_) (fun c38 => ?_)
          · refine g_iload C dX10_isSo_77 rfl ?_
            refine g_sipush (v := nI 2005) C dX10_isSo_79 (by decide) ?_
            refine g_icmp_ne_n (tgt := 108) C dX10_isSo_82 (by decide) (by omega) (by omega) (fun c82 => ?_) (fun c82 => ?_)
            · exact absurd rfl c82
            · refine g_aload_n C dX10_isSo_85 rfl ?_
              refine g_get C i_X10 0 16 f_46 rfl rfl (by decide) rfl rfl dX10_isSo_86 ?_
              refine g_iload C dX10_isSo_89 rfl ?_
              refine g_iconst (v := nI 1) C dX10_isSo_91 (by decide) ?_
              refine g_isub_n C dX10_isSo_92 (by omega) ?_
              refine g_iconst (v := nI 1) C dX10_isSo_93 (by decide) ?_
              refine g_aload_n C dX10_isSo_94 rfl ?_
              refine g_get C i_X10 0 16 f_46 rfl rfl (by decide) rfl rfl dX10_isSo_95 ?_
              refine g_iload C dX10_isSo_98 rfl ?_
              refine g_iconst (v := nI 1) C dX10_isSo_100 (by decide) ?_
              refine g_isub_n C dX10_isSo_101 (by omega) ?_
              refine g_iald C 5 ((U.length + 1) - 1) rfl rfl (by omega) (by decide) dX10_isSo_102 ?_
              refine g_isub C dX10_isSo_103 ?_
              refine g_iast C 5 ((U.length + 1) - 1) rfl rfl (by omega) (by decide) dX10_isSo_104 (ws' := [gO h 10 (tF ad (upd iv 0 (nI cnt))), gA E (ad 1) 10 ms, gA E (ad 3) 80 pt, gA E (ad 10) 13 fr, gA E (ad 11) 620 sp, gA E (ad 16) 620 (upd pj ((U.length + 1) - 1) ((nI 1) - (pj ((U.length + 1) - 1))))]) rfl ?_
              refine g_goto (tgt := 141) C dX10_isSo_105 (by decide) ?_
              refine gg.less (ll' := [some (.ref h), some (.int (nI r)), some (.int (nI P)), some (.int (nI M)), some (.int mid), some (.int (nI (U.length + 1))), some (.int (nI (a + i))), none]) (by intro i v h; match i, h with | 0, h => exact h | 1, h => exact h | 2, h => exact h | 3, h => exact h | 4, h => exact h | 5, h => exact h | 6, h => exact h | 7, h => exact absurd h (by simp) | (i + 8), h => exact absurd h (by simp)) ?_
              have hs2 : stk (upd pj ((U.length + 1) - 1) ((nI 1) - (pj ((U.length + 1) - 1)))) (U.length + 1) = jR io co a (i + 1) := by
                rw [jR, jS, ht0, if_neg (by decide), if_neg (by decide), if_pos rfl, ← hs]
                show stk (upd pj U.length _) (U.length + 1) = jNot (pj U.length :: stk pj U.length)
                have hk := kiS_run (io := io) hT
                rw [← hs] at hk
                rw [stk_push, jNot, ← not_01 (hk.1 rfl)]
                rfl
              refine g_iinc_n (y := 1) C dX10_isSo_141 rfl (by decide) (by decide) rfl (ll' := [some (.ref h), some (.int (nI r)), some (.int (nI P)), some (.int (nI M)), some (.int mid), some (.int (nI (U.length + 1))), some (.int (nI ((a + i) + 1))), none]) rfl ?_
              refine g_goto (tgt := 11) C dX10_isSo_144 (by decide) ?_
              exact ih11 (i + 1) (true :: U) (upd pj ((U.length + 1) - 1) ((nI 1) - (pj ((U.length + 1) - 1)))) (by omega) (by omega) (hT3) (hs2)
          · exact absurd c38 (by omega)
        · rw [htr]
          simp only [List.length_cons]
          have hlt : U.length + 1 + 1 ≤ 32 := hlt
          refine g_iload C dX10_isSo_33 rfl ?_
          refine g_sipush (v := nI 2000) C dX10_isSo_35 (by decide) ?_
          refine g_icmp_ge_n (tgt := 77) C dX10_isSo_38 (by decide) (by omega) (by omega) (fun c38 => ?_) (fun c38 => ?_)
          · refine g_iload C dX10_isSo_77 rfl ?_
            refine g_sipush (v := nI 2005) C dX10_isSo_79 (by decide) ?_
            refine g_icmp_ne_n (tgt := 108) C dX10_isSo_82 (by decide) (by omega) (by omega) (fun c82 => ?_) (fun c82 => ?_)
            · refine g_idec_n (y := 1) C dX10_isSo_108 rfl (by decide) (by omega) (by decide) rfl (ll' := [some (.ref h), some (.int (nI r)), some (.int (nI P)), some (.int (nI M)), some (.int mid), some (.int (nI ((U.length + 1 + 1) - 1))), some (.int (nI (a + i))), some (.int (nI w))]) rfl ?_
              refine g_aload_n C dX10_isSo_111 rfl ?_
              refine g_get C i_X10 0 16 f_46 rfl rfl (by decide) rfl rfl dX10_isSo_112 ?_
              refine g_iload C dX10_isSo_115 rfl ?_
              refine g_iconst (v := nI 1) C dX10_isSo_117 (by decide) ?_
              refine g_isub_n C dX10_isSo_118 (by omega) ?_
              refine g_iload C dX10_isSo_119 rfl ?_
              refine g_aload_n C dX10_isSo_121 rfl ?_
              refine g_get C i_X10 0 16 f_46 rfl rfl (by decide) rfl rfl dX10_isSo_122 ?_
              refine g_iload C dX10_isSo_125 rfl ?_
              refine g_iconst (v := nI 1) C dX10_isSo_127 (by decide) ?_
              refine g_isub_n C dX10_isSo_128 (by omega) ?_
              refine g_iald C 5 (((U.length + 1 + 1) - 1) - 1) rfl rfl (by omega) (by decide) dX10_isSo_129 ?_
              refine g_aload_n C dX10_isSo_130 rfl ?_
              refine g_get C i_X10 0 16 f_46 rfl rfl (by decide) rfl rfl dX10_isSo_131 ?_
              refine g_iload C dX10_isSo_134 rfl ?_
              refine g_iald C 5 ((U.length + 1 + 1) - 1) rfl rfl (by omega) (by decide) dX10_isSo_136 ?_
              refine g_callS C (c_X10_both E w (pj (((U.length + 1 + 1) - 1) - 1)) (pj ((U.length + 1 + 1) - 1)) (by omega) (by omega)) gX10_isSo_X10_both rfl 3 (by decide +kernel) ⟨by decide, by decide⟩ ⟨by decide, by decide⟩ [] [0, 1, 2, 3, 4, 5] (wr := [gO h 10 (tF ad (upd iv 0 (nI cnt))), gA E (ad 1) 10 ms, gA E (ad 3) 80 pt, gA E (ad 10) 13 fr, gA E (ad 11) 620 sp, gA E (ad 16) 620 pj]) rfl (by decide) rfl (by decide) (by decide) rfl rfl (Nat.le_of_ble_eq_true rfl) dX10_isSo_137 ?_
              rintro _ _ ⟨rfl, rfl⟩
              show gg E _ 8 X 0 0 140 [some (.ref h), some (.int (nI r)), some (.int (nI P)), some (.int (nI M)), some (.int mid), some (.int (nI ((U.length + 1 + 1) - 1))), some (.int (nI (a + i))), some (.int (nI w))] [.int (tOp w (pj (((U.length + 1 + 1) - 1) - 1)) (pj ((U.length + 1 + 1) - 1))), .int (nI (((U.length + 1 + 1) - 1) - 1)), .ref (ad 16)] [gO h 10 (tF ad (upd iv 0 (nI cnt))), gA E (ad 1) 10 ms, gA E (ad 3) 80 pt, gA E (ad 10) 13 fr, gA E (ad 11) 620 sp, gA E (ad 16) 620 pj]
              refine g_iast C 5 (((U.length + 1 + 1) - 1) - 1) rfl rfl (by omega) (by decide) dX10_isSo_140 (ws' := [gO h 10 (tF ad (upd iv 0 (nI cnt))), gA E (ad 1) 10 ms, gA E (ad 3) 80 pt, gA E (ad 10) 13 fr, gA E (ad 11) 620 sp, gA E (ad 16) 620 (upd pj (((U.length + 1 + 1) - 1) - 1) (tOp w (pj (((U.length + 1 + 1) - 1) - 1)) (pj ((U.length + 1 + 1) - 1))))]) rfl ?_
              refine gg.less (ll' := [some (.ref h), some (.int (nI r)), some (.int (nI P)), some (.int (nI M)), some (.int mid), some (.int (nI ((U.length + 1 + 1) - 1))), some (.int (nI (a + i))), none]) (by intro i v h; match i, h with | 0, h => exact h | 1, h => exact h | 2, h => exact h | 3, h => exact h | 4, h => exact h | 5, h => exact h | 6, h => exact h | 7, h => exact absurd h (by simp) | (i + 8), h => exact absurd h (by simp)) ?_
              have hs2 : stk (upd pj (((U.length + 1 + 1) - 1) - 1) (tOp w (pj (((U.length + 1 + 1) - 1) - 1)) (pj ((U.length + 1 + 1) - 1)))) (U.length + 1) = jR io co a (i + 1) := by
                rw [jR, hjs, ← hs]
                show stk (upd pj U.length _) (U.length + 1) = jBin _ (pj (U.length + 1) :: pj U.length :: stk pj U.length)
                rw [stk_push, jBin, ← hop]
                rfl
              refine g_iinc_n (y := 1) C dX10_isSo_141 rfl (by decide) (by decide) rfl (ll' := [some (.ref h), some (.int (nI r)), some (.int (nI P)), some (.int (nI M)), some (.int mid), some (.int (nI ((U.length + 1 + 1) - 1))), some (.int (nI ((a + i) + 1))), none]) rfl ?_
              refine g_goto (tgt := 11) C dX10_isSo_144 (by decide) ?_
              exact ih11 (i + 1) (b_ :: U) (upd pj (((U.length + 1 + 1) - 1) - 1) (tOp w (pj (((U.length + 1 + 1) - 1) - 1)) (pj ((U.length + 1 + 1) - 1)))) (by omega) (by omega) (hT3) (hs2)
            · exact absurd c82 hw3
          · exact absurd c38 (by omega)
  exact L11 _ 0 ([]) pi (Nat.lt_succ_self _) (by omega) (rfl) (rfl)

