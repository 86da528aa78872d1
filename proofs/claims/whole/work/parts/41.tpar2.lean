/-! the reference: one, all, any by depth; aRule; rules -/

abbrev rm_c_X10_one_0 : Room := { frames := 5, cells := 0, slots := 0, locals := 107 }
set_option maxHeartbeats 4000000 in
set_option maxRecDepth 100000 in
theorem c_X10_one_0 (E : gE) (h : Nat) (ad : Nat → Nat) (iv : Nat → Int32) (n cn us i : Nat) (en : Nat → Nat) (ks ps fr t : Nat → Int32) (vl wr wa : Int32) (hn : n ≤ 600) (hb : okY t n) (hL : twL t n cn ks ps en) (hK : ∀ q, q < cn → tkC (ks q)) (hend : ks (cn - 1) = nI 1011) (hcn : cn ≤ 601) (hi : i < cn) (hv : ¬ nI 999 < ks i → vl = ks i) (hus : us ≤ i) : MM E yX10_one wsX10_one rm_c_X10_one_0 [.ref h] [gO h 10 (tF ad (upd (upd (upd (upd (upd (upd (upd (upd (upd iv 7 (nI us)) 18 (nI n)) 19 (nI (en i))) 20 (tkT (ks i))) 21 (ps i)) 22 vl) 23 wr) 24 wa) 26 (nI 8))), gA E (ad 15) 620 fr, gA E (ad 17) 600 t] (fun rv_ ru_ => ∃ (ok : Bool) (j us2 : Nat) (fr2 : Nat → Int32) (vl2 wr2 wa2 dp2 : Int32), rv_ = some (.int (b2i ok)) ∧ ru_ = [gO h 10 (tF ad (upd (upd (upd (upd (upd (upd (upd (upd (upd iv 7 (nI us2)) 18 (nI n)) 19 (nI (en j))) 20 (tkT (ks j))) 21 (ps j)) 22 vl2) 23 wr2) 24 wa2) 26 dp2)), gA E (ad 15) 620 fr2, gA E (ad 17) 600 t] ∧ (rdQ (trR (pLv ks 0 i)) ps cn i us fr wr wa ok j us2 fr2 wr2 wa2) ∧ (¬ nI 999 < ks j → vl2 = ks j) ∧ (ok = true → dp2 = nI 8)) := by
  refine MM.ofG (cc := cX10_one) (maxL := 2) (ret := (some .boolean)) (by decide) rfl (Nat.le_of_ble_eq_true rfl) (ll := [some (.ref h), none]) rfl ?_
  intro X C Rt
  have C : gx E X cX10_one 2 wsX10_one RX10 := C
  have i_X10 : ∀ w ∈ u_ws RX10 TX10 40, w ∈ wsX10_one := by decide +kernel
  have f_154 : Cond.fieldLink RX10 154 "MarkPagesModel" "token" "I" ∈ wsX10_one := by decide +kernel
  refine g_aload_n C dX10_one_0 rfl ?_
  refine g_get C i_X10 0 20 f_154 rfl rfl (by decide) rfl rfl dX10_one_1 ?_
  refine g_bipush (v := nI 8) C dX10_one_4 (by decide) ?_
  refine g_icmp_ne (tgt := 44) C dX10_one_6 (by decide) (fun c6 => ?_) (fun c6 => ?_)
  · have n5 := fun z => c6 ((tq8 (hK i hi)).mpr z)
    refine g_aload_n C dX10_one_44 rfl ?_
    refine g_get C i_X10 0 20 f_154 rfl rfl (by decide) rfl rfl dX10_one_45 ?_
    refine g_bipush (v := nI 40) C dX10_one_48 (by decide) ?_
    refine g_icmp_ne (tgt := 90) C dX10_one_50 (by decide) (fun c50 => ?_) (fun c50 => ?_)
    · have n40 := fun z => c50 ((tq40 (hK i hi)).mpr z)
      refine g_aload_n C dX10_one_90 rfl ?_
      refine g_callV C (c_X10_sum E h ad (upd iv 26 (nI 8)) n cn us i en ks ps fr t vl wr wa (by omega) (hb) (hL) (hK) (hend) (by omega) (by omega) (hv) (by omega)) gX10_one_X10_sum rfl 0 (by decide +kernel) ⟨by decide, by decide⟩ ⟨by decide, by decide⟩ 0 rfl rfl [0, 1, 2] [] (wr := []) rfl (by decide) rfl (by decide) (by decide) rfl rfl (Nat.le_of_ble_eq_true rfl) dX10_one_91 ?_
      rintro _ _ ⟨ok_91, j_91, us2_91, fr2_91, vl2_91, wr2_91, wa2_91, rfl, rfl, hq_91, hv_91⟩
      show gg E _ 2 X 0 0 94 [some (.ref h), none] [.int (b2i ok_91)] [gO h 10 (tF ad (upd (upd (upd (upd (upd (upd (upd (upd (upd iv 7 (nI us2_91)) 18 (nI n)) 19 (nI (en j_91))) 20 (tkT (ks j_91))) 21 (ps j_91)) 22 vl2_91) 23 wr2_91) 24 wa2_91) 26 (nI 8))), gA E (ad 15) 620 fr2_91, gA E (ad 17) 600 t]
      rcases rdT_two hq_91 with ⟨C_91, hr_91, rfl, rfl, rfl, rfl, rfl, b1_91, b2_91, b3_91⟩ | ⟨kd_91, ix_91, hr_91, rfl, rfl, rfl, b1_91, b2_91, b3_91, b4_91⟩
      · refine g_if_ne (tgt := 99) C dX10_one_94 (by decide) (fun c94 => ?_) (fun c94 => absurd c94 (by decide))
        refine g_aload_n C dX10_one_99 rfl ?_
        refine g_get C i_X10 0 20 f_154 rfl rfl (by decide) rfl rfl dX10_one_100 ?_
        refine g_bipush (v := nI 60) C dX10_one_103 (by decide) ?_
        refine g_icmp_ne (tgt := 114) C dX10_one_105 (by decide) (fun c105 => ?_) (fun c105 => ?_)
        · have n60 := fun z => c105 ((tq60 (hK _ b2_91)).mpr z)
          refine g_aload_n C dX10_one_114 rfl ?_
          refine g_get C i_X10 0 20 f_154 rfl rfl (by decide) rfl rfl dX10_one_115 ?_
          refine g_bipush (v := nI 61) C dX10_one_118 (by decide) ?_
          refine g_icmp_ne (tgt := 129) C dX10_one_120 (by decide) (fun c120 => ?_) (fun c120 => ?_)
          · have n61 := fun z => c120 ((tq61 (hK _ b2_91)).mpr z)
            refine g_aload_n C dX10_one_129 rfl ?_
            refine g_get C i_X10 0 20 f_154 rfl rfl (by decide) rfl rfl dX10_one_130 ?_
            refine g_bipush (v := nI 62) C dX10_one_133 (by decide) ?_
            refine g_icmp_ne (tgt := 144) C dX10_one_135 (by decide) (fun c135 => ?_) (fun c135 => ?_)
            · have n62 := fun z => c135 ((tq62 (hK _ b2_91)).mpr z)
              refine g_iconst (v := -1) C dX10_one_144 (by decide) ?_
              refine g_istore_n C dX10_one_145 (by decide) rfl (ll' := [some (.ref h), some (.int (-1))]) rfl ?_
              refine g_iload_n C dX10_one_146 rfl ?_
              refine g_iconst (v := -1) C dX10_one_147 (by decide) ?_
              refine g_icmp_ne (tgt := 157) C dX10_one_148 (by decide) (fun c148 => absurd c148 (by decide)) (fun c148 => ?_)
              refine g_aload_n C dX10_one_151 rfl ?_
              refine g_iconst (v := nI 1) C dX10_one_152 (by decide) ?_
              refine g_callV C (c_X10_bad E h ad (upd (upd (upd (upd (upd (upd iv 7 (nI (us + C_91.length))) 18 (nI n)) 19 (nI (en j_91))) 20 (tkT (ks j_91))) 22 vl2_91) 26 (nI 8)) 1 (ps j_91) wr wa ) gX10_one_X10_bad rfl 1 (by decide +kernel) ⟨by decide, by decide⟩ ⟨by decide, by decide⟩ 0 rfl rfl [0] [1, 2] (wr := [gA E (ad 15) 620 (cdW fr us (C_91.map trJ)), gA E (ad 17) 600 t]) rfl (by decide) rfl (by decide) (by decide) rfl rfl (Nat.le_of_ble_eq_true rfl) dX10_one_153 ?_
              rintro _ _ ⟨rfl, rfl⟩
              refine gg.perm (ws' := [gO h 10 (tF ad (upd (upd (upd (upd (upd (upd (upd (upd (upd iv 7 (nI (us + C_91.length))) 18 (nI n)) 19 (nI (en j_91))) 20 (tkT (ks j_91))) 21 (ps j_91)) 22 vl2_91) 23 (nI 1)) 24 (ps j_91)) 26 (nI 8))), gA E (ad 15) 620 (cdW fr us (C_91.map trJ)), gA E (ad 17) 600 t]) [2, 0, 1] (by decide) rfl ?_
              show gg E _ 2 X 0 0 156 [some (.ref h), some (.int (-1))] [.int (nI 0)] [gO h 10 (tF ad (upd (upd (upd (upd (upd (upd (upd (upd (upd iv 7 (nI (us + C_91.length))) 18 (nI n)) 19 (nI (en j_91))) 20 (tkT (ks j_91))) 21 (ps j_91)) 22 vl2_91) 23 (nI 1)) 24 (ps j_91)) 26 (nI 8))), gA E (ad 15) 620 (cdW fr us (C_91.map trJ)), gA E (ad 17) 600 t]
              exact g_zret C Rt dX10_one_156 (by decide) (by decide) (by decide) (⟨false, _, _, _, _, _, _, _, rfl, rfl, rdT_er (by rw [pLv, if_neg (fun z => z.elim n5 n40), pCmp, hr_91]; exact if_neg (fun z => z.elim n60 (fun z => z.elim n61 n62))) (b1_91) (b2_91) (b3_91) (b2_91), hv_91, fun z => absurd z (by decide)⟩)
            · have e62 := (tq62 (hK _ b2_91)).mp c135
              refine g_sipush (v := nI 2004) C dX10_one_138 (by decide) ?_
              refine g_goto (tgt := 145) C dX10_one_141 (by decide) ?_
              refine g_istore_n C dX10_one_145 (by decide) rfl (ll' := [some (.ref h), some (.int (nI 2004))]) rfl ?_
              refine g_iload_n C dX10_one_146 rfl ?_
              refine g_iconst (v := -1) C dX10_one_147 (by decide) ?_
              refine g_icmp_ne (tgt := 157) C dX10_one_148 (by decide) (fun c148 => ?_) (fun c148 => absurd c148 (by decide))
              have hn7 := not_end hend b2_91 e62 (by decide)
              refine g_aload_n C dX10_one_157 rfl ?_
              refine g_callV C (c_X10_nextT E h ad (upd (upd (upd (upd iv 7 (nI (us + C_91.length))) 23 wr) 24 wa) 26 (nI 8)) n cn j_91 en ks ps t (tkT (ks j_91)) (ps j_91) vl2_91 (by omega) (hb) (hL) (hn7)) gX10_one_X10_next0 rfl 0 (by decide +kernel) ⟨by decide, by decide⟩ ⟨by decide, by decide⟩ 0 rfl rfl [0, 2] [1] (wr := [gA E (ad 15) 620 (cdW fr us (C_91.map trJ))]) rfl (by decide) rfl (by decide) (by decide) rfl rfl (Nat.le_of_ble_eq_true rfl) dX10_one_158 ?_
              rintro _ _ ⟨vl2_158, rfl, rfl, hv_158⟩
              refine gg.perm (ws' := [gO h 10 (tF ad (upd (upd (upd (upd (upd (upd (upd (upd (upd iv 7 (nI (us + C_91.length))) 18 (nI n)) 19 (nI (en (j_91 + 1)))) 20 (tkT (ks (j_91 + 1)))) 21 (ps (j_91 + 1))) 22 vl2_158) 23 wr) 24 wa) 26 (nI 8))), gA E (ad 15) 620 (cdW fr us (C_91.map trJ)), gA E (ad 17) 600 t]) [1, 0, 2] (by decide) rfl ?_
              show gg E _ 2 X 0 0 161 [some (.ref h), some (.int (nI 2004))] [] [gO h 10 (tF ad (upd (upd (upd (upd (upd (upd (upd (upd (upd iv 7 (nI (us + C_91.length))) 18 (nI n)) 19 (nI (en (j_91 + 1)))) 20 (tkT (ks (j_91 + 1)))) 21 (ps (j_91 + 1))) 22 vl2_158) 23 wr) 24 wa) 26 (nI 8))), gA E (ad 15) 620 (cdW fr us (C_91.map trJ)), gA E (ad 17) 600 t]
              refine g_aload_n C dX10_one_161 rfl ?_
              refine g_callV C (c_X10_sum E h ad (upd iv 26 (nI 8)) n cn (us + C_91.length) (j_91 + 1) en ks ps (cdW fr us (C_91.map trJ)) t vl2_158 wr wa (by omega) (hb) (hL) (hK) (hend) (by omega) (by omega) (hv_158) (by omega)) gX10_one_X10_sum rfl 0 (by decide +kernel) ⟨by decide, by decide⟩ ⟨by decide, by decide⟩ 0 rfl rfl [0, 1, 2] [] (wr := []) rfl (by decide) rfl (by decide) (by decide) rfl rfl (Nat.le_of_ble_eq_true rfl) dX10_one_162 ?_
              rintro _ _ ⟨ok_162, j_162, us2_162, fr2_162, vl2_162, wr2_162, wa2_162, rfl, rfl, hq_162, hv_162⟩
              show gg E _ 2 X 0 0 165 [some (.ref h), some (.int (nI 2004))] [.int (b2i ok_162)] [gO h 10 (tF ad (upd (upd (upd (upd (upd (upd (upd (upd (upd iv 7 (nI us2_162)) 18 (nI n)) 19 (nI (en j_162))) 20 (tkT (ks j_162))) 21 (ps j_162)) 22 vl2_162) 23 wr2_162) 24 wa2_162) 26 (nI 8))), gA E (ad 15) 620 fr2_162, gA E (ad 17) 600 t]
              rcases rdT_two hq_162 with ⟨C_162, hr_162, rfl, rfl, rfl, rfl, rfl, b1_162, b2_162, b3_162⟩ | ⟨kd_162, ix_162, hr_162, rfl, rfl, rfl, b1_162, b2_162, b3_162, b4_162⟩
              · refine g_if_ne (tgt := 170) C dX10_one_165 (by decide) (fun c165 => ?_) (fun c165 => absurd c165 (by decide))
                refine g_aload_n C dX10_one_170 rfl ?_
                refine g_iload_n C dX10_one_171 rfl ?_
                refine g_callV C (c_X10_lay E h ad (upd (upd (upd (upd (upd (upd (upd (upd iv 18 (nI n)) 19 (nI (en j_162))) 20 (tkT (ks j_162))) 21 (ps j_162)) 22 vl2_162) 23 wr) 24 wa) 26 (nI 8)) (us + C_91.length + C_162.length) (cdW (cdW fr us (C_91.map trJ)) (us + C_91.length) (C_162.map trJ)) (nI 2004) (by omega)) gX10_one_X10_lay rfl 1 (by decide +kernel) ⟨by decide, by decide⟩ ⟨by decide, by decide⟩ 0 rfl rfl [0, 1] [2] (wr := [gA E (ad 17) 600 t]) rfl (by decide) rfl (by decide) (by decide) rfl rfl (Nat.le_of_ble_eq_true rfl) dX10_one_172 ?_
                rintro _ _ ⟨rfl, rfl⟩
                refine gg.perm (ws' := [gO h 10 (tF ad (upd (upd (upd (upd (upd (upd (upd (upd (upd iv 7 (nI ((us + C_91.length + C_162.length) + 1))) 18 (nI n)) 19 (nI (en j_162))) 20 (tkT (ks j_162))) 21 (ps j_162)) 22 vl2_162) 23 wr) 24 wa) 26 (nI 8))), gA E (ad 15) 620 (upd (cdW (cdW fr us (C_91.map trJ)) (us + C_91.length) (C_162.map trJ)) (us + C_91.length + C_162.length) (nI 2004)), gA E (ad 17) 600 t]) [1, 2, 0] (by decide) rfl ?_
                show gg E _ 2 X 0 0 175 [some (.ref h), some (.int (nI 2004))] [] [gO h 10 (tF ad (upd (upd (upd (upd (upd (upd (upd (upd (upd iv 7 (nI ((us + C_91.length + C_162.length) + 1))) 18 (nI n)) 19 (nI (en j_162))) 20 (tkT (ks j_162))) 21 (ps j_162)) 22 vl2_162) 23 wr) 24 wa) 26 (nI 8))), gA E (ad 15) 620 (upd (cdW (cdW fr us (C_91.map trJ)) (us + C_91.length) (C_162.map trJ)) (us + C_91.length + C_162.length) (nI 2004)), gA E (ad 17) 600 t]
                refine g_iconst (v := nI 1) C dX10_one_175 (by decide) ?_
                exact g_zret C Rt dX10_one_176 (by decide) (by decide) (by decide) (⟨true, _, _, _, _, _, _, _, rfl, rfl, rdT_ok (by rw [pLv, if_neg (fun z => z.elim n5 n40), pCmp, hr_91]; exact (if_pos (Or.inr (Or.inr e62))).trans (by rw [pCmp2, hr_162])) (by omega) b2_162 (by omega) (ln3 _ _ _ _) (cd3T _ _ _ _ _ _ (by rw [e62]; decide)), hv_162, fun _ => rfl⟩)
              · refine g_if_ne (tgt := 170) C dX10_one_165 (by decide) (fun c165 => absurd c165 (by decide)) (fun c165 => ?_)
                refine g_iconst (v := nI 0) C dX10_one_168 (by decide) ?_
                exact g_zret C Rt dX10_one_169 (by decide) (by decide) (by decide) (⟨false, _, _, _, _, _, _, _, rfl, rfl, rdT_er (by rw [pLv, if_neg (fun z => z.elim n5 n40), pCmp, hr_91]; exact (if_pos (Or.inr (Or.inr e62))).trans (by rw [pCmp2, hr_162])) (by omega) (b2_162) (by omega) (b4_162), hv_162, fun z => absurd z (by decide)⟩)
          · have e61 := (tq61 (hK _ b2_91)).mp c120
            refine g_sipush (v := nI 2003) C dX10_one_123 (by decide) ?_
            refine g_goto (tgt := 145) C dX10_one_126 (by decide) ?_
            refine g_istore_n C dX10_one_145 (by decide) rfl (ll' := [some (.ref h), some (.int (nI 2003))]) rfl ?_
            refine g_iload_n C dX10_one_146 rfl ?_
            refine g_iconst (v := -1) C dX10_one_147 (by decide) ?_
            refine g_icmp_ne (tgt := 157) C dX10_one_148 (by decide) (fun c148 => ?_) (fun c148 => absurd c148 (by decide))
            have hn7 := not_end hend b2_91 e61 (by decide)
            refine g_aload_n C dX10_one_157 rfl ?_
            refine g_callV C (c_X10_nextT E h ad (upd (upd (upd (upd iv 7 (nI (us + C_91.length))) 23 wr) 24 wa) 26 (nI 8)) n cn j_91 en ks ps t (tkT (ks j_91)) (ps j_91) vl2_91 (by omega) (hb) (hL) (hn7)) gX10_one_X10_next0 rfl 0 (by decide +kernel) ⟨by decide, by decide⟩ ⟨by decide, by decide⟩ 0 rfl rfl [0, 2] [1] (wr := [gA E (ad 15) 620 (cdW fr us (C_91.map trJ))]) rfl (by decide) rfl (by decide) (by decide) rfl rfl (Nat.le_of_ble_eq_true rfl) dX10_one_158 ?_
            rintro _ _ ⟨vl2_158, rfl, rfl, hv_158⟩
            refine gg.perm (ws' := [gO h 10 (tF ad (upd (upd (upd (upd (upd (upd (upd (upd (upd iv 7 (nI (us + C_91.length))) 18 (nI n)) 19 (nI (en (j_91 + 1)))) 20 (tkT (ks (j_91 + 1)))) 21 (ps (j_91 + 1))) 22 vl2_158) 23 wr) 24 wa) 26 (nI 8))), gA E (ad 15) 620 (cdW fr us (C_91.map trJ)), gA E (ad 17) 600 t]) [1, 0, 2] (by decide) rfl ?_
            show gg E _ 2 X 0 0 161 [some (.ref h), some (.int (nI 2003))] [] [gO h 10 (tF ad (upd (upd (upd (upd (upd (upd (upd (upd (upd iv 7 (nI (us + C_91.length))) 18 (nI n)) 19 (nI (en (j_91 + 1)))) 20 (tkT (ks (j_91 + 1)))) 21 (ps (j_91 + 1))) 22 vl2_158) 23 wr) 24 wa) 26 (nI 8))), gA E (ad 15) 620 (cdW fr us (C_91.map trJ)), gA E (ad 17) 600 t]
            refine g_aload_n C dX10_one_161 rfl ?_
            refine g_callV C (c_X10_sum E h ad (upd iv 26 (nI 8)) n cn (us + C_91.length) (j_91 + 1) en ks ps (cdW fr us (C_91.map trJ)) t vl2_158 wr wa (by omega) (hb) (hL) (hK) (hend) (by omega) (by omega) (hv_158) (by omega)) gX10_one_X10_sum rfl 0 (by decide +kernel) ⟨by decide, by decide⟩ ⟨by decide, by decide⟩ 0 rfl rfl [0, 1, 2] [] (wr := []) rfl (by decide) rfl (by decide) (by decide) rfl rfl (Nat.le_of_ble_eq_true rfl) dX10_one_162 ?_
            rintro _ _ ⟨ok_162, j_162, us2_162, fr2_162, vl2_162, wr2_162, wa2_162, rfl, rfl, hq_162, hv_162⟩
            show gg E _ 2 X 0 0 165 [some (.ref h), some (.int (nI 2003))] [.int (b2i ok_162)] [gO h 10 (tF ad (upd (upd (upd (upd (upd (upd (upd (upd (upd iv 7 (nI us2_162)) 18 (nI n)) 19 (nI (en j_162))) 20 (tkT (ks j_162))) 21 (ps j_162)) 22 vl2_162) 23 wr2_162) 24 wa2_162) 26 (nI 8))), gA E (ad 15) 620 fr2_162, gA E (ad 17) 600 t]
            rcases rdT_two hq_162 with ⟨C_162, hr_162, rfl, rfl, rfl, rfl, rfl, b1_162, b2_162, b3_162⟩ | ⟨kd_162, ix_162, hr_162, rfl, rfl, rfl, b1_162, b2_162, b3_162, b4_162⟩
            · refine g_if_ne (tgt := 170) C dX10_one_165 (by decide) (fun c165 => ?_) (fun c165 => absurd c165 (by decide))
              refine g_aload_n C dX10_one_170 rfl ?_
              refine g_iload_n C dX10_one_171 rfl ?_
              refine g_callV C (c_X10_lay E h ad (upd (upd (upd (upd (upd (upd (upd (upd iv 18 (nI n)) 19 (nI (en j_162))) 20 (tkT (ks j_162))) 21 (ps j_162)) 22 vl2_162) 23 wr) 24 wa) 26 (nI 8)) (us + C_91.length + C_162.length) (cdW (cdW fr us (C_91.map trJ)) (us + C_91.length) (C_162.map trJ)) (nI 2003) (by omega)) gX10_one_X10_lay rfl 1 (by decide +kernel) ⟨by decide, by decide⟩ ⟨by decide, by decide⟩ 0 rfl rfl [0, 1] [2] (wr := [gA E (ad 17) 600 t]) rfl (by decide) rfl (by decide) (by decide) rfl rfl (Nat.le_of_ble_eq_true rfl) dX10_one_172 ?_
              rintro _ _ ⟨rfl, rfl⟩
              refine gg.perm (ws' := [gO h 10 (tF ad (upd (upd (upd (upd (upd (upd (upd (upd (upd iv 7 (nI ((us + C_91.length + C_162.length) + 1))) 18 (nI n)) 19 (nI (en j_162))) 20 (tkT (ks j_162))) 21 (ps j_162)) 22 vl2_162) 23 wr) 24 wa) 26 (nI 8))), gA E (ad 15) 620 (upd (cdW (cdW fr us (C_91.map trJ)) (us + C_91.length) (C_162.map trJ)) (us + C_91.length + C_162.length) (nI 2003)), gA E (ad 17) 600 t]) [1, 2, 0] (by decide) rfl ?_
              show gg E _ 2 X 0 0 175 [some (.ref h), some (.int (nI 2003))] [] [gO h 10 (tF ad (upd (upd (upd (upd (upd (upd (upd (upd (upd iv 7 (nI ((us + C_91.length + C_162.length) + 1))) 18 (nI n)) 19 (nI (en j_162))) 20 (tkT (ks j_162))) 21 (ps j_162)) 22 vl2_162) 23 wr) 24 wa) 26 (nI 8))), gA E (ad 15) 620 (upd (cdW (cdW fr us (C_91.map trJ)) (us + C_91.length) (C_162.map trJ)) (us + C_91.length + C_162.length) (nI 2003)), gA E (ad 17) 600 t]
              refine g_iconst (v := nI 1) C dX10_one_175 (by decide) ?_
              exact g_zret C Rt dX10_one_176 (by decide) (by decide) (by decide) (⟨true, _, _, _, _, _, _, _, rfl, rfl, rdT_ok (by rw [pLv, if_neg (fun z => z.elim n5 n40), pCmp, hr_91]; exact (if_pos (Or.inr (Or.inl e61))).trans (by rw [pCmp2, hr_162])) (by omega) b2_162 (by omega) (ln3 _ _ _ _) (cd3T _ _ _ _ _ _ (by rw [e61]; decide)), hv_162, fun _ => rfl⟩)
            · refine g_if_ne (tgt := 170) C dX10_one_165 (by decide) (fun c165 => absurd c165 (by decide)) (fun c165 => ?_)
              refine g_iconst (v := nI 0) C dX10_one_168 (by decide) ?_
              exact g_zret C Rt dX10_one_169 (by decide) (by decide) (by decide) (⟨false, _, _, _, _, _, _, _, rfl, rfl, rdT_er (by rw [pLv, if_neg (fun z => z.elim n5 n40), pCmp, hr_91]; exact (if_pos (Or.inr (Or.inl e61))).trans (by rw [pCmp2, hr_162])) (by omega) (b2_162) (by omega) (b4_162), hv_162, fun z => absurd z (by decide)⟩)
        · have e60 := (tq60 (hK _ b2_91)).mp c105
          refine g_sipush (v := nI 2002) C dX10_one_108 (by decide) ?_
          refine g_goto (tgt := 145) C dX10_one_111 (by decide) ?_
          refine g_istore_n C dX10_one_145 (by decide) rfl (ll' := [some (.ref h), some (.int (nI 2002))]) rfl ?_
          refine g_iload_n C dX10_one_146 rfl ?_
          refine g_iconst (v := -1) C dX10_one_147 (by decide) ?_
          refine g_icmp_ne (tgt := 157) C dX10_one_148 (by decide) (fun c148 => ?_) (fun c148 => absurd c148 (by decide))
          have hn7 := not_end hend b2_91 e60 (by decide)
          refine g_aload_n C dX10_one_157 rfl ?_
          refine g_callV C (c_X10_nextT E h ad (upd (upd (upd (upd iv 7 (nI (us + C_91.length))) 23 wr) 24 wa) 26 (nI 8)) n cn j_91 en ks ps t (tkT (ks j_91)) (ps j_91) vl2_91 (by omega) (hb) (hL) (hn7)) gX10_one_X10_next0 rfl 0 (by decide +kernel) ⟨by decide, by decide⟩ ⟨by decide, by decide⟩ 0 rfl rfl [0, 2] [1] (wr := [gA E (ad 15) 620 (cdW fr us (C_91.map trJ))]) rfl (by decide) rfl (by decide) (by decide) rfl rfl (Nat.le_of_ble_eq_true rfl) dX10_one_158 ?_
          rintro _ _ ⟨vl2_158, rfl, rfl, hv_158⟩
          refine gg.perm (ws' := [gO h 10 (tF ad (upd (upd (upd (upd (upd (upd (upd (upd (upd iv 7 (nI (us + C_91.length))) 18 (nI n)) 19 (nI (en (j_91 + 1)))) 20 (tkT (ks (j_91 + 1)))) 21 (ps (j_91 + 1))) 22 vl2_158) 23 wr) 24 wa) 26 (nI 8))), gA E (ad 15) 620 (cdW fr us (C_91.map trJ)), gA E (ad 17) 600 t]) [1, 0, 2] (by decide) rfl ?_
          show gg E _ 2 X 0 0 161 [some (.ref h), some (.int (nI 2002))] [] [gO h 10 (tF ad (upd (upd (upd (upd (upd (upd (upd (upd (upd iv 7 (nI (us + C_91.length))) 18 (nI n)) 19 (nI (en (j_91 + 1)))) 20 (tkT (ks (j_91 + 1)))) 21 (ps (j_91 + 1))) 22 vl2_158) 23 wr) 24 wa) 26 (nI 8))), gA E (ad 15) 620 (cdW fr us (C_91.map trJ)), gA E (ad 17) 600 t]
          refine g_aload_n C dX10_one_161 rfl ?_
          refine g_callV C (c_X10_sum E h ad (upd iv 26 (nI 8)) n cn (us + C_91.length) (j_91 + 1) en ks ps (cdW fr us (C_91.map trJ)) t vl2_158 wr wa (by omega) (hb) (hL) (hK) (hend) (by omega) (by omega) (hv_158) (by omega)) gX10_one_X10_sum rfl 0 (by decide +kernel) ⟨by decide, by decide⟩ ⟨by decide, by decide⟩ 0 rfl rfl [0, 1, 2] [] (wr := []) rfl (by decide) rfl (by decide) (by decide) rfl rfl (Nat.le_of_ble_eq_true rfl) dX10_one_162 ?_
          rintro _ _ ⟨ok_162, j_162, us2_162, fr2_162, vl2_162, wr2_162, wa2_162, rfl, rfl, hq_162, hv_162⟩
          show gg E _ 2 X 0 0 165 [some (.ref h), some (.int (nI 2002))] [.int (b2i ok_162)] [gO h 10 (tF ad (upd (upd (upd (upd (upd (upd (upd (upd (upd iv 7 (nI us2_162)) 18 (nI n)) 19 (nI (en j_162))) 20 (tkT (ks j_162))) 21 (ps j_162)) 22 vl2_162) 23 wr2_162) 24 wa2_162) 26 (nI 8))), gA E (ad 15) 620 fr2_162, gA E (ad 17) 600 t]
          rcases rdT_two hq_162 with ⟨C_162, hr_162, rfl, rfl, rfl, rfl, rfl, b1_162, b2_162, b3_162⟩ | ⟨kd_162, ix_162, hr_162, rfl, rfl, rfl, b1_162, b2_162, b3_162, b4_162⟩
          · refine g_if_ne (tgt := 170) C dX10_one_165 (by decide) (fun c165 => ?_) (fun c165 => absurd c165 (by decide))
            refine g_aload_n C dX10_one_170 rfl ?_
            refine g_iload_n C dX10_one_171 rfl ?_
            refine g_callV C (c_X10_lay E h ad (upd (upd (upd (upd (upd (upd (upd (upd iv 18 (nI n)) 19 (nI (en j_162))) 20 (tkT (ks j_162))) 21 (ps j_162)) 22 vl2_162) 23 wr) 24 wa) 26 (nI 8)) (us + C_91.length + C_162.length) (cdW (cdW fr us (C_91.map trJ)) (us + C_91.length) (C_162.map trJ)) (nI 2002) (by omega)) gX10_one_X10_lay rfl 1 (by decide +kernel) ⟨by decide, by decide⟩ ⟨by decide, by decide⟩ 0 rfl rfl [0, 1] [2] (wr := [gA E (ad 17) 600 t]) rfl (by decide) rfl (by decide) (by decide) rfl rfl (Nat.le_of_ble_eq_true rfl) dX10_one_172 ?_
            rintro _ _ ⟨rfl, rfl⟩
            refine gg.perm (ws' := [gO h 10 (tF ad (upd (upd (upd (upd (upd (upd (upd (upd (upd iv 7 (nI ((us + C_91.length + C_162.length) + 1))) 18 (nI n)) 19 (nI (en j_162))) 20 (tkT (ks j_162))) 21 (ps j_162)) 22 vl2_162) 23 wr) 24 wa) 26 (nI 8))), gA E (ad 15) 620 (upd (cdW (cdW fr us (C_91.map trJ)) (us + C_91.length) (C_162.map trJ)) (us + C_91.length + C_162.length) (nI 2002)), gA E (ad 17) 600 t]) [1, 2, 0] (by decide) rfl ?_
            show gg E _ 2 X 0 0 175 [some (.ref h), some (.int (nI 2002))] [] [gO h 10 (tF ad (upd (upd (upd (upd (upd (upd (upd (upd (upd iv 7 (nI ((us + C_91.length + C_162.length) + 1))) 18 (nI n)) 19 (nI (en j_162))) 20 (tkT (ks j_162))) 21 (ps j_162)) 22 vl2_162) 23 wr) 24 wa) 26 (nI 8))), gA E (ad 15) 620 (upd (cdW (cdW fr us (C_91.map trJ)) (us + C_91.length) (C_162.map trJ)) (us + C_91.length + C_162.length) (nI 2002)), gA E (ad 17) 600 t]
            refine g_iconst (v := nI 1) C dX10_one_175 (by decide) ?_
            exact g_zret C Rt dX10_one_176 (by decide) (by decide) (by decide) (⟨true, _, _, _, _, _, _, _, rfl, rfl, rdT_ok (by rw [pLv, if_neg (fun z => z.elim n5 n40), pCmp, hr_91]; exact (if_pos (Or.inl e60)).trans (by rw [pCmp2, hr_162])) (by omega) b2_162 (by omega) (ln3 _ _ _ _) (cd3T _ _ _ _ _ _ (by rw [e60]; decide)), hv_162, fun _ => rfl⟩)
          · refine g_if_ne (tgt := 170) C dX10_one_165 (by decide) (fun c165 => absurd c165 (by decide)) (fun c165 => ?_)
            refine g_iconst (v := nI 0) C dX10_one_168 (by decide) ?_
            exact g_zret C Rt dX10_one_169 (by decide) (by decide) (by decide) (⟨false, _, _, _, _, _, _, _, rfl, rfl, rdT_er (by rw [pLv, if_neg (fun z => z.elim n5 n40), pCmp, hr_91]; exact (if_pos (Or.inl e60)).trans (by rw [pCmp2, hr_162])) (by omega) (b2_162) (by omega) (b4_162), hv_162, fun z => absurd z (by decide)⟩)
      · refine g_if_ne (tgt := 99) C dX10_one_94 (by decide) (fun c94 => absurd c94 (by decide)) (fun c94 => ?_)
        refine g_iconst (v := nI 0) C dX10_one_97 (by decide) ?_
        exact g_zret C Rt dX10_one_98 (by decide) (by decide) (by decide) (⟨false, _, _, _, _, _, _, _, rfl, rfl, rdT_er (by rw [pLv, if_neg (fun z => z.elim n5 n40), pCmp, hr_91]) (by omega) (b2_91) (by omega) (b4_91), hv_91, fun z => absurd z (by decide)⟩)
    · have e40 := (tq40 (hK i hi)).mp c50
      have hn8 := not_end hend hi e40 (by decide)
      refine g_aload_n C dX10_one_53 rfl ?_
      refine g_callV C (c_X10_opens_8 E h ad (upd iv 7 (nI us)) n cn i en ks ps t vl wr wa ) gX10_one_X10_opens rfl 0 (by decide +kernel) ⟨by decide, by decide⟩ ⟨by decide, by decide⟩ 0 rfl rfl [0, 2] [1] (wr := [gA E (ad 15) 620 fr]) rfl (by decide) rfl (by decide) (by decide) rfl rfl (Nat.le_of_ble_eq_true rfl) dX10_one_54 ?_
      rintro _ _ ⟨rfl, rfl⟩
      refine gg.perm (ws' := [gO h 10 (tF ad (upd (upd (upd (upd (upd (upd (upd (upd (upd iv 7 (nI us)) 18 (nI n)) 19 (nI (en i))) 20 (tkT (ks i))) 21 (ps i)) 22 vl) 23 (nI 3)) 24 (ps i)) 26 (nI 8))), gA E (ad 15) 620 fr, gA E (ad 17) 600 t]) [1, 0, 2] (by decide) rfl ?_
      show gg E _ 2 X 0 0 57 [some (.ref h), none] [.int (nI 0)] [gO h 10 (tF ad (upd (upd (upd (upd (upd (upd (upd (upd (upd iv 7 (nI us)) 18 (nI n)) 19 (nI (en i))) 20 (tkT (ks i))) 21 (ps i)) 22 vl) 23 (nI 3)) 24 (ps i)) 26 (nI 8))), gA E (ad 15) 620 fr, gA E (ad 17) 600 t]
      refine g_if_eq (tgt := 76) C dX10_one_57 (by decide) (fun c57 => ?_) (fun c57 => absurd c57 (by decide))
      refine g_iconst (v := nI 0) C dX10_one_76 (by decide) ?_
      exact g_zret C Rt dX10_one_77 (by decide) (by decide) (by decide) (⟨false, _, _, _, _, _, _, _, rfl, rfl, rdT_er (by rw [pLv, if_pos (Or.inr e40)]) (Nat.le_refl i) (hi) (Nat.le_refl _) (hi), hv, fun z => absurd z (by decide)⟩)
  · have e5 := (tq8 (hK i hi)).mp c6
    have hn8 := not_end hend hi e5 (by decide)
    refine g_aload_n C dX10_one_9 rfl ?_
    refine g_callV C (c_X10_opens_8 E h ad (upd iv 7 (nI us)) n cn i en ks ps t vl wr wa ) gX10_one_X10_opens rfl 0 (by decide +kernel) ⟨by decide, by decide⟩ ⟨by decide, by decide⟩ 0 rfl rfl [0, 2] [1] (wr := [gA E (ad 15) 620 fr]) rfl (by decide) rfl (by decide) (by decide) rfl rfl (Nat.le_of_ble_eq_true rfl) dX10_one_10 ?_
    rintro _ _ ⟨rfl, rfl⟩
    refine gg.perm (ws' := [gO h 10 (tF ad (upd (upd (upd (upd (upd (upd (upd (upd (upd iv 7 (nI us)) 18 (nI n)) 19 (nI (en i))) 20 (tkT (ks i))) 21 (ps i)) 22 vl) 23 (nI 3)) 24 (ps i)) 26 (nI 8))), gA E (ad 15) 620 fr, gA E (ad 17) 600 t]) [1, 0, 2] (by decide) rfl ?_
    show gg E _ 2 X 0 0 13 [some (.ref h), none] [.int (nI 0)] [gO h 10 (tF ad (upd (upd (upd (upd (upd (upd (upd (upd (upd iv 7 (nI us)) 18 (nI n)) 19 (nI (en i))) 20 (tkT (ks i))) 21 (ps i)) 22 vl) 23 (nI 3)) 24 (ps i)) 26 (nI 8))), gA E (ad 15) 620 fr, gA E (ad 17) 600 t]
    refine g_if_eq (tgt := 23) C dX10_one_13 (by decide) (fun c13 => ?_) (fun c13 => absurd c13 (by decide))
    refine g_iconst (v := nI 0) C dX10_one_23 (by decide) ?_
    exact g_zret C Rt dX10_one_24 (by decide) (by decide) (by decide) (⟨false, _, _, _, _, _, _, _, rfl, rfl, rdT_er (by rw [pLv, if_pos (Or.inl e5)]) (Nat.le_refl i) (hi) (Nat.le_refl _) (hi), hv, fun z => absurd z (by decide)⟩)

abbrev rm_c_X10_all_0 : Room := { frames := 6, cells := 0, slots := 0, locals := 128 }
set_option maxHeartbeats 4000000 in
set_option maxRecDepth 100000 in
theorem c_X10_all_0 (E : gE) (h : Nat) (ad : Nat → Nat) (iv : Nat → Int32) (n cn us i : Nat) (en : Nat → Nat) (ks ps fr t : Nat → Int32) (vl wr wa : Int32) (hn : n ≤ 600) (hb : okY t n) (hL : twL t n cn ks ps en) (hK : ∀ q, q < cn → tkC (ks q)) (hend : ks (cn - 1) = nI 1011) (hcn : cn ≤ 601) (hi : i < cn) (hv : ¬ nI 999 < ks i → vl = ks i) (hus : us ≤ i) : MM E yX10_all wsX10_all rm_c_X10_all_0 [.ref h] [gO h 10 (tF ad (upd (upd (upd (upd (upd (upd (upd (upd (upd iv 7 (nI us)) 18 (nI n)) 19 (nI (en i))) 20 (tkT (ks i))) 21 (ps i)) 22 vl) 23 wr) 24 wa) 26 (nI 8))), gA E (ad 15) 620 fr, gA E (ad 17) 600 t] (fun rv_ ru_ => ∃ (ok : Bool) (j us2 : Nat) (fr2 : Nat → Int32) (vl2 wr2 wa2 dp2 : Int32), rv_ = some (.int (b2i ok)) ∧ ru_ = [gO h 10 (tF ad (upd (upd (upd (upd (upd (upd (upd (upd (upd iv 7 (nI us2)) 18 (nI n)) 19 (nI (en j))) 20 (tkT (ks j))) 21 (ps j)) 22 vl2) 23 wr2) 24 wa2) 26 dp2)), gA E (ad 15) 620 fr2, gA E (ad 17) 600 t] ∧ (rdQ (trR (pAll ks (pLv ks 0) i)) ps cn i us fr wr wa ok j us2 fr2 wr2 wa2) ∧ (¬ nI 999 < ks j → vl2 = ks j) ∧ (ok = true → dp2 = nI 8)) := by
  refine MM.ofG (cc := cX10_all) (maxL := 1) (ret := (some .boolean)) (by decide) rfl (Nat.le_of_ble_eq_true rfl) (ll := [some (.ref h)]) rfl ?_
  intro X C Rt
  have C : gx E X cX10_all 1 wsX10_all RX10 := C
  have i_X10 : ∀ w ∈ u_ws RX10 TX10 40, w ∈ wsX10_all := by decide +kernel
  have f_154 : Cond.fieldLink RX10 154 "MarkPagesModel" "token" "I" ∈ wsX10_all := by decide +kernel
  refine g_aload_n C dX10_all_0 rfl ?_
  refine g_callV C (c_X10_one_0 E h ad iv n cn us i en ks ps fr t vl wr wa (by omega) (hb) (hL) (hK) (hend) (by omega) (by omega) (hv) (by omega)) gX10_all_X10_one rfl 0 (by decide +kernel) ⟨by decide, by decide⟩ ⟨by decide, by decide⟩ 0 rfl rfl [0, 1, 2] [] (wr := []) rfl (by decide) rfl (by decide) (by decide) rfl rfl (Nat.le_of_ble_eq_true rfl) dX10_all_1 ?_
  rintro _ _ ⟨ok_1, j_1, us2_1, fr2_1, vl2_1, wr2_1, wa2_1, dp2_1, rfl, rfl, hq_1, hv_1, hd_1⟩
  show gg E _ 1 X 0 0 4 [some (.ref h)] [.int (b2i ok_1)] [gO h 10 (tF ad (upd (upd (upd (upd (upd (upd (upd (upd (upd iv 7 (nI us2_1)) 18 (nI n)) 19 (nI (en j_1))) 20 (tkT (ks j_1))) 21 (ps j_1)) 22 vl2_1) 23 wr2_1) 24 wa2_1) 26 dp2_1)), gA E (ad 15) 620 fr2_1, gA E (ad 17) 600 t]
  rcases rdT_two hq_1 with ⟨C_1, hr_1, rfl, rfl, rfl, rfl, rfl, b1_1, b2_1, b3_1⟩ | ⟨kd_1, ix_1, hr_1, rfl, rfl, rfl, b1_1, b2_1, b3_1, b4_1⟩
  · obtain rfl := hd_1 rfl
    refine g_if_ne (tgt := 9) C dX10_all_4 (by decide) (fun c4 => ?_) (fun c4 => absurd c4 (by decide))
    have L9 : ∀ (n9 : Nat) (it j1 f1 : Nat) (C1 : List Int32) (vl1 : Int32), cn - j1 < n9 → (j1 < cn) → (i + it ≤ j1) → (f1 + it = 601) → (C1.length + i ≤ j1) → (pAll ks (pLv ks 0) i = lpO ks (nI 1004) (pLv ks 0) f1 j1 C1) → (¬ nI 999 < ks j1 → vl1 = ks j1) → gg E rm_c_X10_all_0 1 X 0 0 9 [some (.ref h)] [] [gO h 10 (tF ad (upd (upd (upd (upd (upd (upd (upd (upd (upd iv 7 (nI (us + C1.length))) 18 (nI n)) 19 (nI (en j1))) 20 (tkT (ks j1))) 21 (ps j1)) 22 vl1) 23 wr) 24 wa) 26 (nI 8))), gA E (ad 15) 620 (cdW fr us (C1.map trJ)), gA E (ad 17) 600 t] := by
      intro n9
      induction n9 with
      | zero => intro it j1 f1 C1 vl1 hm9; exact absurd hm9 (Nat.not_lt_zero _)
      | succ n9 ih9 =>
        intro it j1 f1 C1 vl1 hm9 g1 g2 g3 g4 g5 hv1
        refine g_aload_n C dX10_all_9 rfl ?_
        refine g_get C i_X10 0 20 f_154 rfl rfl (by decide) rfl rfl dX10_all_10 ?_
        refine g_bipush (v := nI 7) C dX10_all_13 (by decide) ?_
        refine g_icmp_ne (tgt := 41) C dX10_all_15 (by decide) (fun c15 => ?_) (fun c15 => ?_)
        · refine g_iconst (v := nI 1) C dX10_all_41 (by decide) ?_
          exact g_zret C Rt dX10_all_42 (by decide) (by decide) (by decide) (⟨true, _, _, _, _, _, _, _, rfl, rfl, rdT_ok (by rw [g5, show f1 = f1 - 1 + 1 by omega, lpO, if_neg (fun z => c15 ((tq7 (hK _ g1)).mpr z))]) (by omega) g1 (by omega) rfl rfl, hv1, fun _ => rfl⟩)
        · have e15 := (tq7 (hK _ g1)).mp c15
          have hn7 := not_end hend g1 e15 (by decide)
          refine g_aload_n C dX10_all_18 rfl ?_
          refine g_callV C (c_X10_nextT E h ad (upd (upd (upd (upd iv 7 (nI (us + C1.length))) 23 wr) 24 wa) 26 (nI 8)) n cn j1 en ks ps t (tkT (ks j1)) (ps j1) vl1 (by omega) (hb) (hL) (hn7)) gX10_all_X10_next0 rfl 0 (by decide +kernel) ⟨by decide, by decide⟩ ⟨by decide, by decide⟩ 0 rfl rfl [0, 2] [1] (wr := [gA E (ad 15) 620 (cdW fr us (C1.map trJ))]) rfl (by decide) rfl (by decide) (by decide) rfl rfl (Nat.le_of_ble_eq_true rfl) dX10_all_19 ?_
          rintro _ _ ⟨vl2_19, rfl, rfl, hv_19⟩
          refine gg.perm (ws' := [gO h 10 (tF ad (upd (upd (upd (upd (upd (upd (upd (upd (upd iv 7 (nI (us + C1.length))) 18 (nI n)) 19 (nI (en (j1 + 1)))) 20 (tkT (ks (j1 + 1)))) 21 (ps (j1 + 1))) 22 vl2_19) 23 wr) 24 wa) 26 (nI 8))), gA E (ad 15) 620 (cdW fr us (C1.map trJ)), gA E (ad 17) 600 t]) [1, 0, 2] (by decide) rfl ?_
          show gg E _ 1 X 0 0 22 [some (.ref h)] [] [gO h 10 (tF ad (upd (upd (upd (upd (upd (upd (upd (upd (upd iv 7 (nI (us + C1.length))) 18 (nI n)) 19 (nI (en (j1 + 1)))) 20 (tkT (ks (j1 + 1)))) 21 (ps (j1 + 1))) 22 vl2_19) 23 wr) 24 wa) 26 (nI 8))), gA E (ad 15) 620 (cdW fr us (C1.map trJ)), gA E (ad 17) 600 t]
          refine g_aload_n C dX10_all_22 rfl ?_
          refine g_callV C (c_X10_one_0 E h ad iv n cn (us + C1.length) (j1 + 1) en ks ps (cdW fr us (C1.map trJ)) t vl2_19 wr wa (by omega) (hb) (hL) (hK) (hend) (by omega) (by omega) (hv_19) (by omega)) gX10_all_X10_one rfl 0 (by decide +kernel) ⟨by decide, by decide⟩ ⟨by decide, by decide⟩ 0 rfl rfl [0, 1, 2] [] (wr := []) rfl (by decide) rfl (by decide) (by decide) rfl rfl (Nat.le_of_ble_eq_true rfl) dX10_all_23 ?_
          rintro _ _ ⟨ok_23, j_23, us2_23, fr2_23, vl2_23, wr2_23, wa2_23, dp2_23, rfl, rfl, hq_23, hv_23, hd_23⟩
          show gg E _ 1 X 0 0 26 [some (.ref h)] [.int (b2i ok_23)] [gO h 10 (tF ad (upd (upd (upd (upd (upd (upd (upd (upd (upd iv 7 (nI us2_23)) 18 (nI n)) 19 (nI (en j_23))) 20 (tkT (ks j_23))) 21 (ps j_23)) 22 vl2_23) 23 wr2_23) 24 wa2_23) 26 dp2_23)), gA E (ad 15) 620 fr2_23, gA E (ad 17) 600 t]
          rcases rdT_two hq_23 with ⟨C_23, hr_23, rfl, rfl, rfl, rfl, rfl, b1_23, b2_23, b3_23⟩ | ⟨kd_23, ix_23, hr_23, rfl, rfl, rfl, b1_23, b2_23, b3_23, b4_23⟩
          · obtain rfl := hd_23 rfl
            refine g_if_ne (tgt := 31) C dX10_all_26 (by decide) (fun c26 => ?_) (fun c26 => absurd c26 (by decide))
            refine g_aload_n C dX10_all_31 rfl ?_
            refine g_sipush (v := nI 2006) C dX10_all_32 (by decide) ?_
            refine g_callV C (c_X10_lay E h ad (upd (upd (upd (upd (upd (upd (upd (upd iv 18 (nI n)) 19 (nI (en j_23))) 20 (tkT (ks j_23))) 21 (ps j_23)) 22 vl2_23) 23 wr) 24 wa) 26 (nI 8)) (us + C1.length + C_23.length) (cdW (cdW fr us (C1.map trJ)) (us + C1.length) (C_23.map trJ)) (nI 2006) (by omega)) gX10_all_X10_lay rfl 1 (by decide +kernel) ⟨by decide, by decide⟩ ⟨by decide, by decide⟩ 0 rfl rfl [0, 1] [2] (wr := [gA E (ad 17) 600 t]) rfl (by decide) rfl (by decide) (by decide) rfl rfl (Nat.le_of_ble_eq_true rfl) dX10_all_35 ?_
            rintro _ _ ⟨rfl, rfl⟩
            refine gg.perm (ws' := [gO h 10 (tF ad (upd (upd (upd (upd (upd (upd (upd (upd (upd iv 7 (nI ((us + C1.length + C_23.length) + 1))) 18 (nI n)) 19 (nI (en j_23))) 20 (tkT (ks j_23))) 21 (ps j_23)) 22 vl2_23) 23 wr) 24 wa) 26 (nI 8))), gA E (ad 15) 620 (upd (cdW (cdW fr us (C1.map trJ)) (us + C1.length) (C_23.map trJ)) (us + C1.length + C_23.length) (nI 2006)), gA E (ad 17) 600 t]) [1, 2, 0] (by decide) rfl ?_
            show gg E _ 1 X 0 0 38 [some (.ref h)] [] [gO h 10 (tF ad (upd (upd (upd (upd (upd (upd (upd (upd (upd iv 7 (nI ((us + C1.length + C_23.length) + 1))) 18 (nI n)) 19 (nI (en j_23))) 20 (tkT (ks j_23))) 21 (ps j_23)) 22 vl2_23) 23 wr) 24 wa) 26 (nI 8))), gA E (ad 15) 620 (upd (cdW (cdW fr us (C1.map trJ)) (us + C1.length) (C_23.map trJ)) (us + C1.length + C_23.length) (nI 2006)), gA E (ad 17) 600 t]
            rw [ln3 us C1 C_23 (nI 1004), cd3T fr us C1 C_23 (nI 1004) (nI 2006) (by decide)]
            refine g_goto (tgt := 9) C dX10_all_38 (by decide) ?_
            exact ih9 (it + 1) j_23 (f1 - 1) (C1 ++ C_23 ++ [nI 1004]) vl2_23 (by omega) (by omega) (by omega) (by omega) (by have := ln3 us C1 C_23 (nI 1004); omega) (by rw [g5, show f1 = f1 - 1 + 1 by omega, lpO, if_pos e15, hr_23]; rfl) (hv_23)
          · refine g_if_ne (tgt := 31) C dX10_all_26 (by decide) (fun c26 => absurd c26 (by decide)) (fun c26 => ?_)
            refine g_iconst (v := nI 0) C dX10_all_29 (by decide) ?_
            exact g_zret C Rt dX10_all_30 (by decide) (by decide) (by decide) (⟨false, _, _, _, _, _, _, _, rfl, rfl, rdT_er (by rw [g5, show f1 = f1 - 1 + 1 by omega, lpO, if_pos e15, hr_23]) (by omega) b2_23 (by omega) b4_23, hv_23, fun z => absurd z (by decide)⟩)
    exact L9 _ 0 j_1 601 C_1 vl2_1 (Nat.lt_succ_self _) (by omega) (by omega) (by omega) (by omega) (by rw [pAll, hr_1]; rfl) (hv_1)
  · refine g_if_ne (tgt := 9) C dX10_all_4 (by decide) (fun c4 => absurd c4 (by decide)) (fun c4 => ?_)
    refine g_iconst (v := nI 0) C dX10_all_7 (by decide) ?_
    exact g_zret C Rt dX10_all_8 (by decide) (by decide) (by decide) (⟨false, _, _, _, _, _, _, _, rfl, rfl, rdT_er (by rw [pAll, hr_1]; rfl) b1_1 b2_1 b3_1 b4_1, hv_1, fun z => absurd z (by decide)⟩)

abbrev rm_c_X10_any_0 : Room := { frames := 7, cells := 0, slots := 0, locals := 148 }
set_option maxHeartbeats 4000000 in
set_option maxRecDepth 100000 in
theorem c_X10_any_0 (E : gE) (h : Nat) (ad : Nat → Nat) (iv : Nat → Int32) (n cn us i : Nat) (en : Nat → Nat) (ks ps fr t : Nat → Int32) (vl wr wa : Int32) (hn : n ≤ 600) (hb : okY t n) (hL : twL t n cn ks ps en) (hK : ∀ q, q < cn → tkC (ks q)) (hend : ks (cn - 1) = nI 1011) (hcn : cn ≤ 601) (hi : i < cn) (hv : ¬ nI 999 < ks i → vl = ks i) (hus : us ≤ i) : MM E yX10_any wsX10_any rm_c_X10_any_0 [.ref h] [gO h 10 (tF ad (upd (upd (upd (upd (upd (upd (upd (upd (upd iv 7 (nI us)) 18 (nI n)) 19 (nI (en i))) 20 (tkT (ks i))) 21 (ps i)) 22 vl) 23 wr) 24 wa) 26 (nI 8))), gA E (ad 15) 620 fr, gA E (ad 17) 600 t] (fun rv_ ru_ => ∃ (ok : Bool) (j us2 : Nat) (fr2 : Nat → Int32) (vl2 wr2 wa2 dp2 : Int32), rv_ = some (.int (b2i ok)) ∧ ru_ = [gO h 10 (tF ad (upd (upd (upd (upd (upd (upd (upd (upd (upd iv 7 (nI us2)) 18 (nI n)) 19 (nI (en j))) 20 (tkT (ks j))) 21 (ps j)) 22 vl2) 23 wr2) 24 wa2) 26 dp2)), gA E (ad 15) 620 fr2, gA E (ad 17) 600 t] ∧ (rdQ (trR (pAny ks (pLv ks 0) i)) ps cn i us fr wr wa ok j us2 fr2 wr2 wa2) ∧ (¬ nI 999 < ks j → vl2 = ks j) ∧ (ok = true → dp2 = nI 8)) := by
  refine MM.ofG (cc := cX10_any) (maxL := 1) (ret := (some .boolean)) (by decide) rfl (Nat.le_of_ble_eq_true rfl) (ll := [some (.ref h)]) rfl ?_
  intro X C Rt
  have C : gx E X cX10_any 1 wsX10_any RX10 := C
  have i_X10 : ∀ w ∈ u_ws RX10 TX10 40, w ∈ wsX10_any := by decide +kernel
  have f_154 : Cond.fieldLink RX10 154 "MarkPagesModel" "token" "I" ∈ wsX10_any := by decide +kernel
  refine g_aload_n C dX10_any_0 rfl ?_
  refine g_callV C (c_X10_all_0 E h ad iv n cn us i en ks ps fr t vl wr wa (by omega) (hb) (hL) (hK) (hend) (by omega) (by omega) (hv) (by omega)) gX10_any_X10_all rfl 0 (by decide +kernel) ⟨by decide, by decide⟩ ⟨by decide, by decide⟩ 0 rfl rfl [0, 1, 2] [] (wr := []) rfl (by decide) rfl (by decide) (by decide) rfl rfl (Nat.le_of_ble_eq_true rfl) dX10_any_1 ?_
  rintro _ _ ⟨ok_1, j_1, us2_1, fr2_1, vl2_1, wr2_1, wa2_1, dp2_1, rfl, rfl, hq_1, hv_1, hd_1⟩
  show gg E _ 1 X 0 0 4 [some (.ref h)] [.int (b2i ok_1)] [gO h 10 (tF ad (upd (upd (upd (upd (upd (upd (upd (upd (upd iv 7 (nI us2_1)) 18 (nI n)) 19 (nI (en j_1))) 20 (tkT (ks j_1))) 21 (ps j_1)) 22 vl2_1) 23 wr2_1) 24 wa2_1) 26 dp2_1)), gA E (ad 15) 620 fr2_1, gA E (ad 17) 600 t]
  rcases rdT_two hq_1 with ⟨C_1, hr_1, rfl, rfl, rfl, rfl, rfl, b1_1, b2_1, b3_1⟩ | ⟨kd_1, ix_1, hr_1, rfl, rfl, rfl, b1_1, b2_1, b3_1, b4_1⟩
  · obtain rfl := hd_1 rfl
    refine g_if_ne (tgt := 9) C dX10_any_4 (by decide) (fun c4 => ?_) (fun c4 => absurd c4 (by decide))
    have L9 : ∀ (n9 : Nat) (it j1 f1 : Nat) (C1 : List Int32) (vl1 : Int32), cn - j1 < n9 → (j1 < cn) → (i + it ≤ j1) → (f1 + it = 601) → (C1.length + i ≤ j1) → (pAny ks (pLv ks 0) i = lpO ks (nI 1003) (pAll ks (pLv ks 0)) f1 j1 C1) → (¬ nI 999 < ks j1 → vl1 = ks j1) → gg E rm_c_X10_any_0 1 X 0 0 9 [some (.ref h)] [] [gO h 10 (tF ad (upd (upd (upd (upd (upd (upd (upd (upd (upd iv 7 (nI (us + C1.length))) 18 (nI n)) 19 (nI (en j1))) 20 (tkT (ks j1))) 21 (ps j1)) 22 vl1) 23 wr) 24 wa) 26 (nI 8))), gA E (ad 15) 620 (cdW fr us (C1.map trJ)), gA E (ad 17) 600 t] := by
      intro n9
      induction n9 with
      | zero => intro it j1 f1 C1 vl1 hm9; exact absurd hm9 (Nat.not_lt_zero _)
      | succ n9 ih9 =>
        intro it j1 f1 C1 vl1 hm9 g1 g2 g3 g4 g5 hv1
        refine g_aload_n C dX10_any_9 rfl ?_
        refine g_get C i_X10 0 20 f_154 rfl rfl (by decide) rfl rfl dX10_any_10 ?_
        refine g_bipush (v := nI 6) C dX10_any_13 (by decide) ?_
        refine g_icmp_ne (tgt := 41) C dX10_any_15 (by decide) (fun c15 => ?_) (fun c15 => ?_)
        · refine g_iconst (v := nI 1) C dX10_any_41 (by decide) ?_
          exact g_zret C Rt dX10_any_42 (by decide) (by decide) (by decide) (⟨true, _, _, _, _, _, _, _, rfl, rfl, rdT_ok (by rw [g5, show f1 = f1 - 1 + 1 by omega, lpO, if_neg (fun z => c15 ((tq6 (hK _ g1)).mpr z))]) (by omega) g1 (by omega) rfl rfl, hv1, fun _ => rfl⟩)
        · have e15 := (tq6 (hK _ g1)).mp c15
          have hn7 := not_end hend g1 e15 (by decide)
          refine g_aload_n C dX10_any_18 rfl ?_
          refine g_callV C (c_X10_nextT E h ad (upd (upd (upd (upd iv 7 (nI (us + C1.length))) 23 wr) 24 wa) 26 (nI 8)) n cn j1 en ks ps t (tkT (ks j1)) (ps j1) vl1 (by omega) (hb) (hL) (hn7)) gX10_any_X10_next0 rfl 0 (by decide +kernel) ⟨by decide, by decide⟩ ⟨by decide, by decide⟩ 0 rfl rfl [0, 2] [1] (wr := [gA E (ad 15) 620 (cdW fr us (C1.map trJ))]) rfl (by decide) rfl (by decide) (by decide) rfl rfl (Nat.le_of_ble_eq_true rfl) dX10_any_19 ?_
          rintro _ _ ⟨vl2_19, rfl, rfl, hv_19⟩
          refine gg.perm (ws' := [gO h 10 (tF ad (upd (upd (upd (upd (upd (upd (upd (upd (upd iv 7 (nI (us + C1.length))) 18 (nI n)) 19 (nI (en (j1 + 1)))) 20 (tkT (ks (j1 + 1)))) 21 (ps (j1 + 1))) 22 vl2_19) 23 wr) 24 wa) 26 (nI 8))), gA E (ad 15) 620 (cdW fr us (C1.map trJ)), gA E (ad 17) 600 t]) [1, 0, 2] (by decide) rfl ?_
          show gg E _ 1 X 0 0 22 [some (.ref h)] [] [gO h 10 (tF ad (upd (upd (upd (upd (upd (upd (upd (upd (upd iv 7 (nI (us + C1.length))) 18 (nI n)) 19 (nI (en (j1 + 1)))) 20 (tkT (ks (j1 + 1)))) 21 (ps (j1 + 1))) 22 vl2_19) 23 wr) 24 wa) 26 (nI 8))), gA E (ad 15) 620 (cdW fr us (C1.map trJ)), gA E (ad 17) 600 t]
          refine g_aload_n C dX10_any_22 rfl ?_
          refine g_callV C (c_X10_all_0 E h ad iv n cn (us + C1.length) (j1 + 1) en ks ps (cdW fr us (C1.map trJ)) t vl2_19 wr wa (by omega) (hb) (hL) (hK) (hend) (by omega) (by omega) (hv_19) (by omega)) gX10_any_X10_all rfl 0 (by decide +kernel) ⟨by decide, by decide⟩ ⟨by decide, by decide⟩ 0 rfl rfl [0, 1, 2] [] (wr := []) rfl (by decide) rfl (by decide) (by decide) rfl rfl (Nat.le_of_ble_eq_true rfl) dX10_any_23 ?_
          rintro _ _ ⟨ok_23, j_23, us2_23, fr2_23, vl2_23, wr2_23, wa2_23, dp2_23, rfl, rfl, hq_23, hv_23, hd_23⟩
          show gg E _ 1 X 0 0 26 [some (.ref h)] [.int (b2i ok_23)] [gO h 10 (tF ad (upd (upd (upd (upd (upd (upd (upd (upd (upd iv 7 (nI us2_23)) 18 (nI n)) 19 (nI (en j_23))) 20 (tkT (ks j_23))) 21 (ps j_23)) 22 vl2_23) 23 wr2_23) 24 wa2_23) 26 dp2_23)), gA E (ad 15) 620 fr2_23, gA E (ad 17) 600 t]
          rcases rdT_two hq_23 with ⟨C_23, hr_23, rfl, rfl, rfl, rfl, rfl, b1_23, b2_23, b3_23⟩ | ⟨kd_23, ix_23, hr_23, rfl, rfl, rfl, b1_23, b2_23, b3_23, b4_23⟩
          · obtain rfl := hd_23 rfl
            refine g_if_ne (tgt := 31) C dX10_any_26 (by decide) (fun c26 => ?_) (fun c26 => absurd c26 (by decide))
            refine g_aload_n C dX10_any_31 rfl ?_
            refine g_sipush (v := nI 2007) C dX10_any_32 (by decide) ?_
            refine g_callV C (c_X10_lay E h ad (upd (upd (upd (upd (upd (upd (upd (upd iv 18 (nI n)) 19 (nI (en j_23))) 20 (tkT (ks j_23))) 21 (ps j_23)) 22 vl2_23) 23 wr) 24 wa) 26 (nI 8)) (us + C1.length + C_23.length) (cdW (cdW fr us (C1.map trJ)) (us + C1.length) (C_23.map trJ)) (nI 2007) (by omega)) gX10_any_X10_lay rfl 1 (by decide +kernel) ⟨by decide, by decide⟩ ⟨by decide, by decide⟩ 0 rfl rfl [0, 1] [2] (wr := [gA E (ad 17) 600 t]) rfl (by decide) rfl (by decide) (by decide) rfl rfl (Nat.le_of_ble_eq_true rfl) dX10_any_35 ?_
            rintro _ _ ⟨rfl, rfl⟩
            refine gg.perm (ws' := [gO h 10 (tF ad (upd (upd (upd (upd (upd (upd (upd (upd (upd iv 7 (nI ((us + C1.length + C_23.length) + 1))) 18 (nI n)) 19 (nI (en j_23))) 20 (tkT (ks j_23))) 21 (ps j_23)) 22 vl2_23) 23 wr) 24 wa) 26 (nI 8))), gA E (ad 15) 620 (upd (cdW (cdW fr us (C1.map trJ)) (us + C1.length) (C_23.map trJ)) (us + C1.length + C_23.length) (nI 2007)), gA E (ad 17) 600 t]) [1, 2, 0] (by decide) rfl ?_
            show gg E _ 1 X 0 0 38 [some (.ref h)] [] [gO h 10 (tF ad (upd (upd (upd (upd (upd (upd (upd (upd (upd iv 7 (nI ((us + C1.length + C_23.length) + 1))) 18 (nI n)) 19 (nI (en j_23))) 20 (tkT (ks j_23))) 21 (ps j_23)) 22 vl2_23) 23 wr) 24 wa) 26 (nI 8))), gA E (ad 15) 620 (upd (cdW (cdW fr us (C1.map trJ)) (us + C1.length) (C_23.map trJ)) (us + C1.length + C_23.length) (nI 2007)), gA E (ad 17) 600 t]
            rw [ln3 us C1 C_23 (nI 1003), cd3T fr us C1 C_23 (nI 1003) (nI 2007) (by decide)]
            refine g_goto (tgt := 9) C dX10_any_38 (by decide) ?_
            exact ih9 (it + 1) j_23 (f1 - 1) (C1 ++ C_23 ++ [nI 1003]) vl2_23 (by omega) (by omega) (by omega) (by omega) (by have := ln3 us C1 C_23 (nI 1003); omega) (by rw [g5, show f1 = f1 - 1 + 1 by omega, lpO, if_pos e15, hr_23]; rfl) (hv_23)
          · refine g_if_ne (tgt := 31) C dX10_any_26 (by decide) (fun c26 => absurd c26 (by decide)) (fun c26 => ?_)
            refine g_iconst (v := nI 0) C dX10_any_29 (by decide) ?_
            exact g_zret C Rt dX10_any_30 (by decide) (by decide) (by decide) (⟨false, _, _, _, _, _, _, _, rfl, rfl, rdT_er (by rw [g5, show f1 = f1 - 1 + 1 by omega, lpO, if_pos e15, hr_23]) (by omega) b2_23 (by omega) b4_23, hv_23, fun z => absurd z (by decide)⟩)
    exact L9 _ 0 j_1 601 C_1 vl2_1 (Nat.lt_succ_self _) (by omega) (by omega) (by omega) (by omega) (by rw [pAny, hr_1]; rfl) (hv_1)
  · refine g_if_ne (tgt := 9) C dX10_any_4 (by decide) (fun c4 => absurd c4 (by decide)) (fun c4 => ?_)
    refine g_iconst (v := nI 0) C dX10_any_7 (by decide) ?_
    exact g_zret C Rt dX10_any_8 (by decide) (by decide) (by decide) (⟨false, _, _, _, _, _, _, _, rfl, rfl, rdT_er (by rw [pAny, hr_1]; rfl) b1_1 b2_1 b3_1 b4_1, hv_1, fun z => absurd z (by decide)⟩)

abbrev rm_c_X10_one_1 : Room := { frames := 8, cells := 0, slots := 0, locals := 168 }
set_option maxHeartbeats 4000000 in
set_option maxRecDepth 100000 in
theorem c_X10_one_1 (E : gE) (h : Nat) (ad : Nat → Nat) (iv : Nat → Int32) (n cn us i : Nat) (en : Nat → Nat) (ks ps fr t : Nat → Int32) (vl wr wa : Int32) (hn : n ≤ 600) (hb : okY t n) (hL : twL t n cn ks ps en) (hK : ∀ q, q < cn → tkC (ks q)) (hend : ks (cn - 1) = nI 1011) (hcn : cn ≤ 601) (hi : i < cn) (hv : ¬ nI 999 < ks i → vl = ks i) (hus : us ≤ i) : MM E yX10_one wsX10_one rm_c_X10_one_1 [.ref h] [gO h 10 (tF ad (upd (upd (upd (upd (upd (upd (upd (upd (upd iv 7 (nI us)) 18 (nI n)) 19 (nI (en i))) 20 (tkT (ks i))) 21 (ps i)) 22 vl) 23 wr) 24 wa) 26 (nI 7))), gA E (ad 15) 620 fr, gA E (ad 17) 600 t] (fun rv_ ru_ => ∃ (ok : Bool) (j us2 : Nat) (fr2 : Nat → Int32) (vl2 wr2 wa2 dp2 : Int32), rv_ = some (.int (b2i ok)) ∧ ru_ = [gO h 10 (tF ad (upd (upd (upd (upd (upd (upd (upd (upd (upd iv 7 (nI us2)) 18 (nI n)) 19 (nI (en j))) 20 (tkT (ks j))) 21 (ps j)) 22 vl2) 23 wr2) 24 wa2) 26 dp2)), gA E (ad 15) 620 fr2, gA E (ad 17) 600 t] ∧ (rdQ (trR (pLv ks 1 i)) ps cn i us fr wr wa ok j us2 fr2 wr2 wa2) ∧ (¬ nI 999 < ks j → vl2 = ks j) ∧ (ok = true → dp2 = nI 7)) := by
  refine MM.ofG (cc := cX10_one) (maxL := 2) (ret := (some .boolean)) (by decide) rfl (Nat.le_of_ble_eq_true rfl) (ll := [some (.ref h), none]) rfl ?_
  intro X C Rt
  have C : gx E X cX10_one 2 wsX10_one RX10 := C
  have i_X10 : ∀ w ∈ u_ws RX10 TX10 40, w ∈ wsX10_one := by decide +kernel
  have f_154 : Cond.fieldLink RX10 154 "MarkPagesModel" "token" "I" ∈ wsX10_one := by decide +kernel
  have f_188 : Cond.fieldLink RX10 188 "MarkPagesModel" "depth" "I" ∈ wsX10_one := by decide +kernel
  refine g_aload_n C dX10_one_0 rfl ?_
  refine g_get C i_X10 0 20 f_154 rfl rfl (by decide) rfl rfl dX10_one_1 ?_
  refine g_bipush (v := nI 8) C dX10_one_4 (by decide) ?_
  refine g_icmp_ne (tgt := 44) C dX10_one_6 (by decide) (fun c6 => ?_) (fun c6 => ?_)
  · have n5 := fun z => c6 ((tq8 (hK i hi)).mpr z)
    refine g_aload_n C dX10_one_44 rfl ?_
    refine g_get C i_X10 0 20 f_154 rfl rfl (by decide) rfl rfl dX10_one_45 ?_
    refine g_bipush (v := nI 40) C dX10_one_48 (by decide) ?_
    refine g_icmp_ne (tgt := 90) C dX10_one_50 (by decide) (fun c50 => ?_) (fun c50 => ?_)
    · have n40 := fun z => c50 ((tq40 (hK i hi)).mpr z)
      refine g_aload_n C dX10_one_90 rfl ?_
      refine g_callV C (c_X10_sum E h ad (upd iv 26 (nI 7)) n cn us i en ks ps fr t vl wr wa (by omega) (hb) (hL) (hK) (hend) (by omega) (by omega) (hv) (by omega)) gX10_one_X10_sum rfl 0 (by decide +kernel) ⟨by decide, by decide⟩ ⟨by decide, by decide⟩ 0 rfl rfl [0, 1, 2] [] (wr := []) rfl (by decide) rfl (by decide) (by decide) rfl rfl (Nat.le_of_ble_eq_true rfl) dX10_one_91 ?_
      rintro _ _ ⟨ok_91, j_91, us2_91, fr2_91, vl2_91, wr2_91, wa2_91, rfl, rfl, hq_91, hv_91⟩
      show gg E _ 2 X 0 0 94 [some (.ref h), none] [.int (b2i ok_91)] [gO h 10 (tF ad (upd (upd (upd (upd (upd (upd (upd (upd (upd iv 7 (nI us2_91)) 18 (nI n)) 19 (nI (en j_91))) 20 (tkT (ks j_91))) 21 (ps j_91)) 22 vl2_91) 23 wr2_91) 24 wa2_91) 26 (nI 7))), gA E (ad 15) 620 fr2_91, gA E (ad 17) 600 t]
      rcases rdT_two hq_91 with ⟨C_91, hr_91, rfl, rfl, rfl, rfl, rfl, b1_91, b2_91, b3_91⟩ | ⟨kd_91, ix_91, hr_91, rfl, rfl, rfl, b1_91, b2_91, b3_91, b4_91⟩
      · refine g_if_ne (tgt := 99) C dX10_one_94 (by decide) (fun c94 => ?_) (fun c94 => absurd c94 (by decide))
        refine g_aload_n C dX10_one_99 rfl ?_
        refine g_get C i_X10 0 20 f_154 rfl rfl (by decide) rfl rfl dX10_one_100 ?_
        refine g_bipush (v := nI 60) C dX10_one_103 (by decide) ?_
        refine g_icmp_ne (tgt := 114) C dX10_one_105 (by decide) (fun c105 => ?_) (fun c105 => ?_)
        · have n60 := fun z => c105 ((tq60 (hK _ b2_91)).mpr z)
          refine g_aload_n C dX10_one_114 rfl ?_
          refine g_get C i_X10 0 20 f_154 rfl rfl (by decide) rfl rfl dX10_one_115 ?_
          refine g_bipush (v := nI 61) C dX10_one_118 (by decide) ?_
          refine g_icmp_ne (tgt := 129) C dX10_one_120 (by decide) (fun c120 => ?_) (fun c120 => ?_)
          · have n61 := fun z => c120 ((tq61 (hK _ b2_91)).mpr z)
            refine g_aload_n C dX10_one_129 rfl ?_
            refine g_get C i_X10 0 20 f_154 rfl rfl (by decide) rfl rfl dX10_one_130 ?_
            refine g_bipush (v := nI 62) C dX10_one_133 (by decide) ?_
            refine g_icmp_ne (tgt := 144) C dX10_one_135 (by decide) (fun c135 => ?_) (fun c135 => ?_)
            · have n62 := fun z => c135 ((tq62 (hK _ b2_91)).mpr z)
              refine g_iconst (v := -1) C dX10_one_144 (by decide) ?_
              refine g_istore_n C dX10_one_145 (by decide) rfl (ll' := [some (.ref h), some (.int (-1))]) rfl ?_
              refine g_iload_n C dX10_one_146 rfl ?_
              refine g_iconst (v := -1) C dX10_one_147 (by decide) ?_
              refine g_icmp_ne (tgt := 157) C dX10_one_148 (by decide) (fun c148 => absurd c148 (by decide)) (fun c148 => ?_)
              refine g_aload_n C dX10_one_151 rfl ?_
              refine g_iconst (v := nI 1) C dX10_one_152 (by decide) ?_
              refine g_callV C (c_X10_bad E h ad (upd (upd (upd (upd (upd (upd iv 7 (nI (us + C_91.length))) 18 (nI n)) 19 (nI (en j_91))) 20 (tkT (ks j_91))) 22 vl2_91) 26 (nI 7)) 1 (ps j_91) wr wa ) gX10_one_X10_bad rfl 1 (by decide +kernel) ⟨by decide, by decide⟩ ⟨by decide, by decide⟩ 0 rfl rfl [0] [1, 2] (wr := [gA E (ad 15) 620 (cdW fr us (C_91.map trJ)), gA E (ad 17) 600 t]) rfl (by decide) rfl (by decide) (by decide) rfl rfl (Nat.le_of_ble_eq_true rfl) dX10_one_153 ?_
              rintro _ _ ⟨rfl, rfl⟩
              refine gg.perm (ws' := [gO h 10 (tF ad (upd (upd (upd (upd (upd (upd (upd (upd (upd iv 7 (nI (us + C_91.length))) 18 (nI n)) 19 (nI (en j_91))) 20 (tkT (ks j_91))) 21 (ps j_91)) 22 vl2_91) 23 (nI 1)) 24 (ps j_91)) 26 (nI 7))), gA E (ad 15) 620 (cdW fr us (C_91.map trJ)), gA E (ad 17) 600 t]) [2, 0, 1] (by decide) rfl ?_
              show gg E _ 2 X 0 0 156 [some (.ref h), some (.int (-1))] [.int (nI 0)] [gO h 10 (tF ad (upd (upd (upd (upd (upd (upd (upd (upd (upd iv 7 (nI (us + C_91.length))) 18 (nI n)) 19 (nI (en j_91))) 20 (tkT (ks j_91))) 21 (ps j_91)) 22 vl2_91) 23 (nI 1)) 24 (ps j_91)) 26 (nI 7))), gA E (ad 15) 620 (cdW fr us (C_91.map trJ)), gA E (ad 17) 600 t]
              exact g_zret C Rt dX10_one_156 (by decide) (by decide) (by decide) (⟨false, _, _, _, _, _, _, _, rfl, rfl, rdT_er (by rw [pLv, if_neg (fun z => z.elim n5 n40), pCmp, hr_91]; exact if_neg (fun z => z.elim n60 (fun z => z.elim n61 n62))) (b1_91) (b2_91) (b3_91) (b2_91), hv_91, fun z => absurd z (by decide)⟩)
            · have e62 := (tq62 (hK _ b2_91)).mp c135
              refine g_sipush (v := nI 2004) C dX10_one_138 (by decide) ?_
              refine g_goto (tgt := 145) C dX10_one_141 (by decide) ?_
              refine g_istore_n C dX10_one_145 (by decide) rfl (ll' := [some (.ref h), some (.int (nI 2004))]) rfl ?_
              refine g_iload_n C dX10_one_146 rfl ?_
              refine g_iconst (v := -1) C dX10_one_147 (by decide) ?_
              refine g_icmp_ne (tgt := 157) C dX10_one_148 (by decide) (fun c148 => ?_) (fun c148 => absurd c148 (by decide))
              have hn7 := not_end hend b2_91 e62 (by decide)
              refine g_aload_n C dX10_one_157 rfl ?_
              refine g_callV C (c_X10_nextT E h ad (upd (upd (upd (upd iv 7 (nI (us + C_91.length))) 23 wr) 24 wa) 26 (nI 7)) n cn j_91 en ks ps t (tkT (ks j_91)) (ps j_91) vl2_91 (by omega) (hb) (hL) (hn7)) gX10_one_X10_next0 rfl 0 (by decide +kernel) ⟨by decide, by decide⟩ ⟨by decide, by decide⟩ 0 rfl rfl [0, 2] [1] (wr := [gA E (ad 15) 620 (cdW fr us (C_91.map trJ))]) rfl (by decide) rfl (by decide) (by decide) rfl rfl (Nat.le_of_ble_eq_true rfl) dX10_one_158 ?_
              rintro _ _ ⟨vl2_158, rfl, rfl, hv_158⟩
              refine gg.perm (ws' := [gO h 10 (tF ad (upd (upd (upd (upd (upd (upd (upd (upd (upd iv 7 (nI (us + C_91.length))) 18 (nI n)) 19 (nI (en (j_91 + 1)))) 20 (tkT (ks (j_91 + 1)))) 21 (ps (j_91 + 1))) 22 vl2_158) 23 wr) 24 wa) 26 (nI 7))), gA E (ad 15) 620 (cdW fr us (C_91.map trJ)), gA E (ad 17) 600 t]) [1, 0, 2] (by decide) rfl ?_
              show gg E _ 2 X 0 0 161 [some (.ref h), some (.int (nI 2004))] [] [gO h 10 (tF ad (upd (upd (upd (upd (upd (upd (upd (upd (upd iv 7 (nI (us + C_91.length))) 18 (nI n)) 19 (nI (en (j_91 + 1)))) 20 (tkT (ks (j_91 + 1)))) 21 (ps (j_91 + 1))) 22 vl2_158) 23 wr) 24 wa) 26 (nI 7))), gA E (ad 15) 620 (cdW fr us (C_91.map trJ)), gA E (ad 17) 600 t]
              refine g_aload_n C dX10_one_161 rfl ?_
              refine g_callV C (c_X10_sum E h ad (upd iv 26 (nI 7)) n cn (us + C_91.length) (j_91 + 1) en ks ps (cdW fr us (C_91.map trJ)) t vl2_158 wr wa (by omega) (hb) (hL) (hK) (hend) (by omega) (by omega) (hv_158) (by omega)) gX10_one_X10_sum rfl 0 (by decide +kernel) ⟨by decide, by decide⟩ ⟨by decide, by decide⟩ 0 rfl rfl [0, 1, 2] [] (wr := []) rfl (by decide) rfl (by decide) (by decide) rfl rfl (Nat.le_of_ble_eq_true rfl) dX10_one_162 ?_
              rintro _ _ ⟨ok_162, j_162, us2_162, fr2_162, vl2_162, wr2_162, wa2_162, rfl, rfl, hq_162, hv_162⟩
              show gg E _ 2 X 0 0 165 [some (.ref h), some (.int (nI 2004))] [.int (b2i ok_162)] [gO h 10 (tF ad (upd (upd (upd (upd (upd (upd (upd (upd (upd iv 7 (nI us2_162)) 18 (nI n)) 19 (nI (en j_162))) 20 (tkT (ks j_162))) 21 (ps j_162)) 22 vl2_162) 23 wr2_162) 24 wa2_162) 26 (nI 7))), gA E (ad 15) 620 fr2_162, gA E (ad 17) 600 t]
              rcases rdT_two hq_162 with ⟨C_162, hr_162, rfl, rfl, rfl, rfl, rfl, b1_162, b2_162, b3_162⟩ | ⟨kd_162, ix_162, hr_162, rfl, rfl, rfl, b1_162, b2_162, b3_162, b4_162⟩
              · refine g_if_ne (tgt := 170) C dX10_one_165 (by decide) (fun c165 => ?_) (fun c165 => absurd c165 (by decide))
                refine g_aload_n C dX10_one_170 rfl ?_
                refine g_iload_n C dX10_one_171 rfl ?_
                refine g_callV C (c_X10_lay E h ad (upd (upd (upd (upd (upd (upd (upd (upd iv 18 (nI n)) 19 (nI (en j_162))) 20 (tkT (ks j_162))) 21 (ps j_162)) 22 vl2_162) 23 wr) 24 wa) 26 (nI 7)) (us + C_91.length + C_162.length) (cdW (cdW fr us (C_91.map trJ)) (us + C_91.length) (C_162.map trJ)) (nI 2004) (by omega)) gX10_one_X10_lay rfl 1 (by decide +kernel) ⟨by decide, by decide⟩ ⟨by decide, by decide⟩ 0 rfl rfl [0, 1] [2] (wr := [gA E (ad 17) 600 t]) rfl (by decide) rfl (by decide) (by decide) rfl rfl (Nat.le_of_ble_eq_true rfl) dX10_one_172 ?_
                rintro _ _ ⟨rfl, rfl⟩
                refine gg.perm (ws' := [gO h 10 (tF ad (upd (upd (upd (upd (upd (upd (upd (upd (upd iv 7 (nI ((us + C_91.length + C_162.length) + 1))) 18 (nI n)) 19 (nI (en j_162))) 20 (tkT (ks j_162))) 21 (ps j_162)) 22 vl2_162) 23 wr) 24 wa) 26 (nI 7))), gA E (ad 15) 620 (upd (cdW (cdW fr us (C_91.map trJ)) (us + C_91.length) (C_162.map trJ)) (us + C_91.length + C_162.length) (nI 2004)), gA E (ad 17) 600 t]) [1, 2, 0] (by decide) rfl ?_
                show gg E _ 2 X 0 0 175 [some (.ref h), some (.int (nI 2004))] [] [gO h 10 (tF ad (upd (upd (upd (upd (upd (upd (upd (upd (upd iv 7 (nI ((us + C_91.length + C_162.length) + 1))) 18 (nI n)) 19 (nI (en j_162))) 20 (tkT (ks j_162))) 21 (ps j_162)) 22 vl2_162) 23 wr) 24 wa) 26 (nI 7))), gA E (ad 15) 620 (upd (cdW (cdW fr us (C_91.map trJ)) (us + C_91.length) (C_162.map trJ)) (us + C_91.length + C_162.length) (nI 2004)), gA E (ad 17) 600 t]
                refine g_iconst (v := nI 1) C dX10_one_175 (by decide) ?_
                exact g_zret C Rt dX10_one_176 (by decide) (by decide) (by decide) (⟨true, _, _, _, _, _, _, _, rfl, rfl, rdT_ok (by rw [pLv, if_neg (fun z => z.elim n5 n40), pCmp, hr_91]; exact (if_pos (Or.inr (Or.inr e62))).trans (by rw [pCmp2, hr_162])) (by omega) b2_162 (by omega) (ln3 _ _ _ _) (cd3T _ _ _ _ _ _ (by rw [e62]; decide)), hv_162, fun _ => rfl⟩)
              · refine g_if_ne (tgt := 170) C dX10_one_165 (by decide) (fun c165 => absurd c165 (by decide)) (fun c165 => ?_)
                refine g_iconst (v := nI 0) C dX10_one_168 (by decide) ?_
                exact g_zret C Rt dX10_one_169 (by decide) (by decide) (by decide) (⟨false, _, _, _, _, _, _, _, rfl, rfl, rdT_er (by rw [pLv, if_neg (fun z => z.elim n5 n40), pCmp, hr_91]; exact (if_pos (Or.inr (Or.inr e62))).trans (by rw [pCmp2, hr_162])) (by omega) (b2_162) (by omega) (b4_162), hv_162, fun z => absurd z (by decide)⟩)
          · have e61 := (tq61 (hK _ b2_91)).mp c120
            refine g_sipush (v := nI 2003) C dX10_one_123 (by decide) ?_
            refine g_goto (tgt := 145) C dX10_one_126 (by decide) ?_
            refine g_istore_n C dX10_one_145 (by decide) rfl (ll' := [some (.ref h), some (.int (nI 2003))]) rfl ?_
            refine g_iload_n C dX10_one_146 rfl ?_
            refine g_iconst (v := -1) C dX10_one_147 (by decide) ?_
            refine g_icmp_ne (tgt := 157) C dX10_one_148 (by decide) (fun c148 => ?_) (fun c148 => absurd c148 (by decide))
            have hn7 := not_end hend b2_91 e61 (by decide)
            refine g_aload_n C dX10_one_157 rfl ?_
            refine g_callV C (c_X10_nextT E h ad (upd (upd (upd (upd iv 7 (nI (us + C_91.length))) 23 wr) 24 wa) 26 (nI 7)) n cn j_91 en ks ps t (tkT (ks j_91)) (ps j_91) vl2_91 (by omega) (hb) (hL) (hn7)) gX10_one_X10_next0 rfl 0 (by decide +kernel) ⟨by decide, by decide⟩ ⟨by decide, by decide⟩ 0 rfl rfl [0, 2] [1] (wr := [gA E (ad 15) 620 (cdW fr us (C_91.map trJ))]) rfl (by decide) rfl (by decide) (by decide) rfl rfl (Nat.le_of_ble_eq_true rfl) dX10_one_158 ?_
            rintro _ _ ⟨vl2_158, rfl, rfl, hv_158⟩
            refine gg.perm (ws' := [gO h 10 (tF ad (upd (upd (upd (upd (upd (upd (upd (upd (upd iv 7 (nI (us + C_91.length))) 18 (nI n)) 19 (nI (en (j_91 + 1)))) 20 (tkT (ks (j_91 + 1)))) 21 (ps (j_91 + 1))) 22 vl2_158) 23 wr) 24 wa) 26 (nI 7))), gA E (ad 15) 620 (cdW fr us (C_91.map trJ)), gA E (ad 17) 600 t]) [1, 0, 2] (by decide) rfl ?_
            show gg E _ 2 X 0 0 161 [some (.ref h), some (.int (nI 2003))] [] [gO h 10 (tF ad (upd (upd (upd (upd (upd (upd (upd (upd (upd iv 7 (nI (us + C_91.length))) 18 (nI n)) 19 (nI (en (j_91 + 1)))) 20 (tkT (ks (j_91 + 1)))) 21 (ps (j_91 + 1))) 22 vl2_158) 23 wr) 24 wa) 26 (nI 7))), gA E (ad 15) 620 (cdW fr us (C_91.map trJ)), gA E (ad 17) 600 t]
            refine g_aload_n C dX10_one_161 rfl ?_
            refine g_callV C (c_X10_sum E h ad (upd iv 26 (nI 7)) n cn (us + C_91.length) (j_91 + 1) en ks ps (cdW fr us (C_91.map trJ)) t vl2_158 wr wa (by omega) (hb) (hL) (hK) (hend) (by omega) (by omega) (hv_158) (by omega)) gX10_one_X10_sum rfl 0 (by decide +kernel) ⟨by decide, by decide⟩ ⟨by decide, by decide⟩ 0 rfl rfl [0, 1, 2] [] (wr := []) rfl (by decide) rfl (by decide) (by decide) rfl rfl (Nat.le_of_ble_eq_true rfl) dX10_one_162 ?_
            rintro _ _ ⟨ok_162, j_162, us2_162, fr2_162, vl2_162, wr2_162, wa2_162, rfl, rfl, hq_162, hv_162⟩
            show gg E _ 2 X 0 0 165 [some (.ref h), some (.int (nI 2003))] [.int (b2i ok_162)] [gO h 10 (tF ad (upd (upd (upd (upd (upd (upd (upd (upd (upd iv 7 (nI us2_162)) 18 (nI n)) 19 (nI (en j_162))) 20 (tkT (ks j_162))) 21 (ps j_162)) 22 vl2_162) 23 wr2_162) 24 wa2_162) 26 (nI 7))), gA E (ad 15) 620 fr2_162, gA E (ad 17) 600 t]
            rcases rdT_two hq_162 with ⟨C_162, hr_162, rfl, rfl, rfl, rfl, rfl, b1_162, b2_162, b3_162⟩ | ⟨kd_162, ix_162, hr_162, rfl, rfl, rfl, b1_162, b2_162, b3_162, b4_162⟩
            · refine g_if_ne (tgt := 170) C dX10_one_165 (by decide) (fun c165 => ?_) (fun c165 => absurd c165 (by decide))
              refine g_aload_n C dX10_one_170 rfl ?_
              refine g_iload_n C dX10_one_171 rfl ?_
              refine g_callV C (c_X10_lay E h ad (upd (upd (upd (upd (upd (upd (upd (upd iv 18 (nI n)) 19 (nI (en j_162))) 20 (tkT (ks j_162))) 21 (ps j_162)) 22 vl2_162) 23 wr) 24 wa) 26 (nI 7)) (us + C_91.length + C_162.length) (cdW (cdW fr us (C_91.map trJ)) (us + C_91.length) (C_162.map trJ)) (nI 2003) (by omega)) gX10_one_X10_lay rfl 1 (by decide +kernel) ⟨by decide, by decide⟩ ⟨by decide, by decide⟩ 0 rfl rfl [0, 1] [2] (wr := [gA E (ad 17) 600 t]) rfl (by decide) rfl (by decide) (by decide) rfl rfl (Nat.le_of_ble_eq_true rfl) dX10_one_172 ?_
              rintro _ _ ⟨rfl, rfl⟩
              refine gg.perm (ws' := [gO h 10 (tF ad (upd (upd (upd (upd (upd (upd (upd (upd (upd iv 7 (nI ((us + C_91.length + C_162.length) + 1))) 18 (nI n)) 19 (nI (en j_162))) 20 (tkT (ks j_162))) 21 (ps j_162)) 22 vl2_162) 23 wr) 24 wa) 26 (nI 7))), gA E (ad 15) 620 (upd (cdW (cdW fr us (C_91.map trJ)) (us + C_91.length) (C_162.map trJ)) (us + C_91.length + C_162.length) (nI 2003)), gA E (ad 17) 600 t]) [1, 2, 0] (by decide) rfl ?_
              show gg E _ 2 X 0 0 175 [some (.ref h), some (.int (nI 2003))] [] [gO h 10 (tF ad (upd (upd (upd (upd (upd (upd (upd (upd (upd iv 7 (nI ((us + C_91.length + C_162.length) + 1))) 18 (nI n)) 19 (nI (en j_162))) 20 (tkT (ks j_162))) 21 (ps j_162)) 22 vl2_162) 23 wr) 24 wa) 26 (nI 7))), gA E (ad 15) 620 (upd (cdW (cdW fr us (C_91.map trJ)) (us + C_91.length) (C_162.map trJ)) (us + C_91.length + C_162.length) (nI 2003)), gA E (ad 17) 600 t]
              refine g_iconst (v := nI 1) C dX10_one_175 (by decide) ?_
              exact g_zret C Rt dX10_one_176 (by decide) (by decide) (by decide) (⟨true, _, _, _, _, _, _, _, rfl, rfl, rdT_ok (by rw [pLv, if_neg (fun z => z.elim n5 n40), pCmp, hr_91]; exact (if_pos (Or.inr (Or.inl e61))).trans (by rw [pCmp2, hr_162])) (by omega) b2_162 (by omega) (ln3 _ _ _ _) (cd3T _ _ _ _ _ _ (by rw [e61]; decide)), hv_162, fun _ => rfl⟩)
            · refine g_if_ne (tgt := 170) C dX10_one_165 (by decide) (fun c165 => absurd c165 (by decide)) (fun c165 => ?_)
              refine g_iconst (v := nI 0) C dX10_one_168 (by decide) ?_
              exact g_zret C Rt dX10_one_169 (by decide) (by decide) (by decide) (⟨false, _, _, _, _, _, _, _, rfl, rfl, rdT_er (by rw [pLv, if_neg (fun z => z.elim n5 n40), pCmp, hr_91]; exact (if_pos (Or.inr (Or.inl e61))).trans (by rw [pCmp2, hr_162])) (by omega) (b2_162) (by omega) (b4_162), hv_162, fun z => absurd z (by decide)⟩)
        · have e60 := (tq60 (hK _ b2_91)).mp c105
          refine g_sipush (v := nI 2002) C dX10_one_108 (by decide) ?_
          refine g_goto (tgt := 145) C dX10_one_111 (by decide) ?_
          refine g_istore_n C dX10_one_145 (by decide) rfl (ll' := [some (.ref h), some (.int (nI 2002))]) rfl ?_
          refine g_iload_n C dX10_one_146 rfl ?_
          refine g_iconst (v := -1) C dX10_one_147 (by decide) ?_
          refine g_icmp_ne (tgt := 157) C dX10_one_148 (by decide) (fun c148 => ?_) (fun c148 => absurd c148 (by decide))
          have hn7 := not_end hend b2_91 e60 (by decide)
          refine g_aload_n C dX10_one_157 rfl ?_
          refine g_callV C (c_X10_nextT E h ad (upd (upd (upd (upd iv 7 (nI (us + C_91.length))) 23 wr) 24 wa) 26 (nI 7)) n cn j_91 en ks ps t (tkT (ks j_91)) (ps j_91) vl2_91 (by omega) (hb) (hL) (hn7)) gX10_one_X10_next0 rfl 0 (by decide +kernel) ⟨by decide, by decide⟩ ⟨by decide, by decide⟩ 0 rfl rfl [0, 2] [1] (wr := [gA E (ad 15) 620 (cdW fr us (C_91.map trJ))]) rfl (by decide) rfl (by decide) (by decide) rfl rfl (Nat.le_of_ble_eq_true rfl) dX10_one_158 ?_
          rintro _ _ ⟨vl2_158, rfl, rfl, hv_158⟩
          refine gg.perm (ws' := [gO h 10 (tF ad (upd (upd (upd (upd (upd (upd (upd (upd (upd iv 7 (nI (us + C_91.length))) 18 (nI n)) 19 (nI (en (j_91 + 1)))) 20 (tkT (ks (j_91 + 1)))) 21 (ps (j_91 + 1))) 22 vl2_158) 23 wr) 24 wa) 26 (nI 7))), gA E (ad 15) 620 (cdW fr us (C_91.map trJ)), gA E (ad 17) 600 t]) [1, 0, 2] (by decide) rfl ?_
          show gg E _ 2 X 0 0 161 [some (.ref h), some (.int (nI 2002))] [] [gO h 10 (tF ad (upd (upd (upd (upd (upd (upd (upd (upd (upd iv 7 (nI (us + C_91.length))) 18 (nI n)) 19 (nI (en (j_91 + 1)))) 20 (tkT (ks (j_91 + 1)))) 21 (ps (j_91 + 1))) 22 vl2_158) 23 wr) 24 wa) 26 (nI 7))), gA E (ad 15) 620 (cdW fr us (C_91.map trJ)), gA E (ad 17) 600 t]
          refine g_aload_n C dX10_one_161 rfl ?_
          refine g_callV C (c_X10_sum E h ad (upd iv 26 (nI 7)) n cn (us + C_91.length) (j_91 + 1) en ks ps (cdW fr us (C_91.map trJ)) t vl2_158 wr wa (by omega) (hb) (hL) (hK) (hend) (by omega) (by omega) (hv_158) (by omega)) gX10_one_X10_sum rfl 0 (by decide +kernel) ⟨by decide, by decide⟩ ⟨by decide, by decide⟩ 0 rfl rfl [0, 1, 2] [] (wr := []) rfl (by decide) rfl (by decide) (by decide) rfl rfl (Nat.le_of_ble_eq_true rfl) dX10_one_162 ?_
          rintro _ _ ⟨ok_162, j_162, us2_162, fr2_162, vl2_162, wr2_162, wa2_162, rfl, rfl, hq_162, hv_162⟩
          show gg E _ 2 X 0 0 165 [some (.ref h), some (.int (nI 2002))] [.int (b2i ok_162)] [gO h 10 (tF ad (upd (upd (upd (upd (upd (upd (upd (upd (upd iv 7 (nI us2_162)) 18 (nI n)) 19 (nI (en j_162))) 20 (tkT (ks j_162))) 21 (ps j_162)) 22 vl2_162) 23 wr2_162) 24 wa2_162) 26 (nI 7))), gA E (ad 15) 620 fr2_162, gA E (ad 17) 600 t]
          rcases rdT_two hq_162 with ⟨C_162, hr_162, rfl, rfl, rfl, rfl, rfl, b1_162, b2_162, b3_162⟩ | ⟨kd_162, ix_162, hr_162, rfl, rfl, rfl, b1_162, b2_162, b3_162, b4_162⟩
          · refine g_if_ne (tgt := 170) C dX10_one_165 (by decide) (fun c165 => ?_) (fun c165 => absurd c165 (by decide))
            refine g_aload_n C dX10_one_170 rfl ?_
            refine g_iload_n C dX10_one_171 rfl ?_
            refine g_callV C (c_X10_lay E h ad (upd (upd (upd (upd (upd (upd (upd (upd iv 18 (nI n)) 19 (nI (en j_162))) 20 (tkT (ks j_162))) 21 (ps j_162)) 22 vl2_162) 23 wr) 24 wa) 26 (nI 7)) (us + C_91.length + C_162.length) (cdW (cdW fr us (C_91.map trJ)) (us + C_91.length) (C_162.map trJ)) (nI 2002) (by omega)) gX10_one_X10_lay rfl 1 (by decide +kernel) ⟨by decide, by decide⟩ ⟨by decide, by decide⟩ 0 rfl rfl [0, 1] [2] (wr := [gA E (ad 17) 600 t]) rfl (by decide) rfl (by decide) (by decide) rfl rfl (Nat.le_of_ble_eq_true rfl) dX10_one_172 ?_
            rintro _ _ ⟨rfl, rfl⟩
            refine gg.perm (ws' := [gO h 10 (tF ad (upd (upd (upd (upd (upd (upd (upd (upd (upd iv 7 (nI ((us + C_91.length + C_162.length) + 1))) 18 (nI n)) 19 (nI (en j_162))) 20 (tkT (ks j_162))) 21 (ps j_162)) 22 vl2_162) 23 wr) 24 wa) 26 (nI 7))), gA E (ad 15) 620 (upd (cdW (cdW fr us (C_91.map trJ)) (us + C_91.length) (C_162.map trJ)) (us + C_91.length + C_162.length) (nI 2002)), gA E (ad 17) 600 t]) [1, 2, 0] (by decide) rfl ?_
            show gg E _ 2 X 0 0 175 [some (.ref h), some (.int (nI 2002))] [] [gO h 10 (tF ad (upd (upd (upd (upd (upd (upd (upd (upd (upd iv 7 (nI ((us + C_91.length + C_162.length) + 1))) 18 (nI n)) 19 (nI (en j_162))) 20 (tkT (ks j_162))) 21 (ps j_162)) 22 vl2_162) 23 wr) 24 wa) 26 (nI 7))), gA E (ad 15) 620 (upd (cdW (cdW fr us (C_91.map trJ)) (us + C_91.length) (C_162.map trJ)) (us + C_91.length + C_162.length) (nI 2002)), gA E (ad 17) 600 t]
            refine g_iconst (v := nI 1) C dX10_one_175 (by decide) ?_
            exact g_zret C Rt dX10_one_176 (by decide) (by decide) (by decide) (⟨true, _, _, _, _, _, _, _, rfl, rfl, rdT_ok (by rw [pLv, if_neg (fun z => z.elim n5 n40), pCmp, hr_91]; exact (if_pos (Or.inl e60)).trans (by rw [pCmp2, hr_162])) (by omega) b2_162 (by omega) (ln3 _ _ _ _) (cd3T _ _ _ _ _ _ (by rw [e60]; decide)), hv_162, fun _ => rfl⟩)
          · refine g_if_ne (tgt := 170) C dX10_one_165 (by decide) (fun c165 => absurd c165 (by decide)) (fun c165 => ?_)
            refine g_iconst (v := nI 0) C dX10_one_168 (by decide) ?_
            exact g_zret C Rt dX10_one_169 (by decide) (by decide) (by decide) (⟨false, _, _, _, _, _, _, _, rfl, rfl, rdT_er (by rw [pLv, if_neg (fun z => z.elim n5 n40), pCmp, hr_91]; exact (if_pos (Or.inl e60)).trans (by rw [pCmp2, hr_162])) (by omega) (b2_162) (by omega) (b4_162), hv_162, fun z => absurd z (by decide)⟩)
      · refine g_if_ne (tgt := 99) C dX10_one_94 (by decide) (fun c94 => absurd c94 (by decide)) (fun c94 => ?_)
        refine g_iconst (v := nI 0) C dX10_one_97 (by decide) ?_
        exact g_zret C Rt dX10_one_98 (by decide) (by decide) (by decide) (⟨false, _, _, _, _, _, _, _, rfl, rfl, rdT_er (by rw [pLv, if_neg (fun z => z.elim n5 n40), pCmp, hr_91]) (by omega) (b2_91) (by omega) (b4_91), hv_91, fun z => absurd z (by decide)⟩)
    · have e40 := (tq40 (hK i hi)).mp c50
      have hn8 := not_end hend hi e40 (by decide)
      refine g_aload_n C dX10_one_53 rfl ?_
      refine g_callV C (c_X10_opens_7 E h ad (upd iv 7 (nI us)) n cn i en ks ps t vl wr wa (by omega) (hb) (hL) (hn8)) gX10_one_X10_opens rfl 0 (by decide +kernel) ⟨by decide, by decide⟩ ⟨by decide, by decide⟩ 0 rfl rfl [0, 2] [1] (wr := [gA E (ad 15) 620 fr]) rfl (by decide) rfl (by decide) (by decide) rfl rfl (Nat.le_of_ble_eq_true rfl) dX10_one_54 ?_
      rintro _ _ ⟨vl2_54, rfl, rfl, hv_54⟩
      refine gg.perm (ws' := [gO h 10 (tF ad (upd (upd (upd (upd (upd (upd (upd (upd (upd iv 7 (nI us)) 18 (nI n)) 19 (nI (en (i + 1)))) 20 (tkT (ks (i + 1)))) 21 (ps (i + 1))) 22 vl2_54) 23 wr) 24 wa) 26 (nI 8))), gA E (ad 15) 620 fr, gA E (ad 17) 600 t]) [1, 0, 2] (by decide) rfl ?_
      show gg E _ 2 X 0 0 57 [some (.ref h), none] [.int (nI 1)] [gO h 10 (tF ad (upd (upd (upd (upd (upd (upd (upd (upd (upd iv 7 (nI us)) 18 (nI n)) 19 (nI (en (i + 1)))) 20 (tkT (ks (i + 1)))) 21 (ps (i + 1))) 22 vl2_54) 23 wr) 24 wa) 26 (nI 8))), gA E (ad 15) 620 fr, gA E (ad 17) 600 t]
      refine g_if_eq (tgt := 76) C dX10_one_57 (by decide) (fun c57 => absurd c57 (by decide)) (fun c57 => ?_)
      refine g_aload_n C dX10_one_60 rfl ?_
      refine g_callV C (c_X10_any_0 E h ad iv n cn us (i + 1) en ks ps fr t vl2_54 wr wa (by omega) (hb) (hL) (hK) (hend) (by omega) (by omega) (hv_54) (by omega)) gX10_one_X10_any rfl 0 (by decide +kernel) ⟨by decide, by decide⟩ ⟨by decide, by decide⟩ 0 rfl rfl [0, 1, 2] [] (wr := []) rfl (by decide) rfl (by decide) (by decide) rfl rfl (Nat.le_of_ble_eq_true rfl) dX10_one_61 ?_
      rintro _ _ ⟨ok_61, j_61, us2_61, fr2_61, vl2_61, wr2_61, wa2_61, dp2_61, rfl, rfl, hq_61, hv_61, hd_61⟩
      show gg E _ 2 X 0 0 64 [some (.ref h), none] [.int (b2i ok_61)] [gO h 10 (tF ad (upd (upd (upd (upd (upd (upd (upd (upd (upd iv 7 (nI us2_61)) 18 (nI n)) 19 (nI (en j_61))) 20 (tkT (ks j_61))) 21 (ps j_61)) 22 vl2_61) 23 wr2_61) 24 wa2_61) 26 dp2_61)), gA E (ad 15) 620 fr2_61, gA E (ad 17) 600 t]
      rcases rdT_two hq_61 with ⟨C_61, hr_61, rfl, rfl, rfl, rfl, rfl, b1_61, b2_61, b3_61⟩ | ⟨kd_61, ix_61, hr_61, rfl, rfl, rfl, b1_61, b2_61, b3_61, b4_61⟩
      · obtain rfl := hd_61 rfl
        refine g_if_eq (tgt := 76) C dX10_one_64 (by decide) (fun c64 => absurd c64 (by decide)) (fun c64 => ?_)
        skip
        refine g_aload_n C dX10_one_67 rfl ?_
        rcases Classical.em (ks j_61 = nI 1141) with hx | hx
        · refine g_bipush (v := nI 41) C dX10_one_68 (by decide) ?_
          refine g_callV C (c_X10_need_y E h ad (upd (upd iv 7 (nI (us + C_61.length))) 26 (nI 8)) n cn j_61 41 en ks ps t vl2_61 wr wa (by omega) (hb) (hL) (not_end hend b2_61 hx (by decide)) ((tq41 (hK _ b2_61)).mpr hx)) gX10_one_X10_need rfl 1 (by decide +kernel) ⟨by decide, by decide⟩ ⟨by decide, by decide⟩ 0 rfl rfl [0, 2] [1] (wr := [gA E (ad 15) 620 (cdW fr us (C_61.map trJ))]) rfl (by decide) rfl (by decide) (by decide) rfl rfl (Nat.le_of_ble_eq_true rfl) dX10_one_70 ?_
          rintro _ _ ⟨vl2_70, rfl, rfl, hv_70⟩
          refine gg.perm (ws' := [gO h 10 (tF ad (upd (upd (upd (upd (upd (upd (upd (upd (upd iv 7 (nI (us + C_61.length))) 18 (nI n)) 19 (nI (en (j_61 + 1)))) 20 (tkT (ks (j_61 + 1)))) 21 (ps (j_61 + 1))) 22 vl2_70) 23 wr) 24 wa) 26 (nI 8))), gA E (ad 15) 620 (cdW fr us (C_61.map trJ)), gA E (ad 17) 600 t]) [1, 0, 2] (by decide) rfl ?_
          show gg E _ 2 X 0 0 73 [some (.ref h), none] [.int (nI 1)] [gO h 10 (tF ad (upd (upd (upd (upd (upd (upd (upd (upd (upd iv 7 (nI (us + C_61.length))) 18 (nI n)) 19 (nI (en (j_61 + 1)))) 20 (tkT (ks (j_61 + 1)))) 21 (ps (j_61 + 1))) 22 vl2_70) 23 wr) 24 wa) 26 (nI 8))), gA E (ad 15) 620 (cdW fr us (C_61.map trJ)), gA E (ad 17) 600 t]
          refine g_if_ne (tgt := 78) C dX10_one_73 (by decide) (fun c73 => ?_) (fun c73 => absurd c73 (by decide))
          have hn9 := not_end hend b2_61 hx (by decide)
          refine g_aload_n C dX10_one_78 rfl ?_
          refine g_dup C dX10_one_79 rfl ?_
          refine g_get C i_X10 0 26 f_188 rfl rfl (by decide) rfl rfl dX10_one_80 ?_
          show gg E _ 2 X 0 0 83 [some (.ref h), none] [.int (nI 8), .ref h] [gO h 10 (tF ad (upd (upd (upd (upd (upd (upd (upd (upd (upd iv 7 (nI (us + C_61.length))) 18 (nI n)) 19 (nI (en (j_61 + 1)))) 20 (tkT (ks (j_61 + 1)))) 21 (ps (j_61 + 1))) 22 vl2_70) 23 wr) 24 wa) 26 (nI 8))), gA E (ad 15) 620 (cdW fr us (C_61.map trJ)), gA E (ad 17) 600 t]
          refine g_iconst (v := nI 1) C dX10_one_83 (by decide) ?_
          refine g_isub C dX10_one_84 (g_top (x' := nI 7) (by decide) ?_)
          refine g_put C i_X10 tyX10 tyX10_ok nmX10 0 26 f_188 rfl rfl (by decide) rfl rfl rfl rfl rfl (Nat.le_of_ble_eq_true rfl) dX10_one_85 (ws' := [gO h 10 (tF ad (upd (upd (upd (upd (upd (upd (upd (upd (upd iv 7 (nI (us + C_61.length))) 18 (nI n)) 19 (nI (en (j_61 + 1)))) 20 (tkT (ks (j_61 + 1)))) 21 (ps (j_61 + 1))) 22 vl2_70) 23 wr) 24 wa) 26 (nI 7))), gA E (ad 15) 620 (cdW fr us (C_61.map trJ)), gA E (ad 17) 600 t]) rfl ?_
          refine g_iconst (v := nI 1) C dX10_one_88 (by decide) ?_
          exact g_zret C Rt dX10_one_89 (by decide) (by decide) (by decide) (⟨true, _, _, _, _, _, _, _, rfl, rfl, rdT_ok (by rw [pLv, if_pos (Or.inr e40), if_neg n5, hr_61]; exact if_pos hx) (by omega) hn9 (by omega) rfl rfl, hv_70, fun _ => rfl⟩)
        · refine g_bipush (v := nI 41) C dX10_one_68 (by decide) ?_
          refine g_callV C (c_X10_need_n E h ad (upd (upd iv 7 (nI (us + C_61.length))) 26 (nI 8)) n cn j_61 41 en ks ps t vl2_61 wr wa (fun z => hx ((tq41 (hK _ b2_61)).mp z))) gX10_one_X10_need rfl 1 (by decide +kernel) ⟨by decide, by decide⟩ ⟨by decide, by decide⟩ 0 rfl rfl [0, 2] [1] (wr := [gA E (ad 15) 620 (cdW fr us (C_61.map trJ))]) rfl (by decide) rfl (by decide) (by decide) rfl rfl (Nat.le_of_ble_eq_true rfl) dX10_one_70 ?_
          rintro _ _ ⟨rfl, rfl⟩
          refine gg.perm (ws' := [gO h 10 (tF ad (upd (upd (upd (upd (upd (upd (upd (upd (upd iv 7 (nI (us + C_61.length))) 18 (nI n)) 19 (nI (en j_61))) 20 (tkT (ks j_61))) 21 (ps j_61)) 22 vl2_61) 23 (nI 1)) 24 (ps j_61)) 26 (nI 8))), gA E (ad 15) 620 (cdW fr us (C_61.map trJ)), gA E (ad 17) 600 t]) [1, 0, 2] (by decide) rfl ?_
          show gg E _ 2 X 0 0 73 [some (.ref h), none] [.int (nI 0)] [gO h 10 (tF ad (upd (upd (upd (upd (upd (upd (upd (upd (upd iv 7 (nI (us + C_61.length))) 18 (nI n)) 19 (nI (en j_61))) 20 (tkT (ks j_61))) 21 (ps j_61)) 22 vl2_61) 23 (nI 1)) 24 (ps j_61)) 26 (nI 8))), gA E (ad 15) 620 (cdW fr us (C_61.map trJ)), gA E (ad 17) 600 t]
          refine g_if_ne (tgt := 78) C dX10_one_73 (by decide) (fun c73 => absurd c73 (by decide)) (fun c73 => ?_)
          refine g_iconst (v := nI 0) C dX10_one_76 (by decide) ?_
          exact g_zret C Rt dX10_one_77 (by decide) (by decide) (by decide) (⟨false, _, _, _, _, _, _, _, rfl, rfl, rdT_er (by rw [pLv, if_pos (Or.inr e40), if_neg n5, hr_61]; exact if_neg hx) (by omega) (b2_61) (by omega) (b2_61), hv_61, fun z => absurd z (by decide)⟩)
      · refine g_if_eq (tgt := 76) C dX10_one_64 (by decide) (fun c64 => ?_) (fun c64 => absurd c64 (by decide))
        refine g_iconst (v := nI 0) C dX10_one_76 (by decide) ?_
        exact g_zret C Rt dX10_one_77 (by decide) (by decide) (by decide) (⟨false, _, _, _, _, _, _, _, rfl, rfl, rdT_er (by rw [pLv, if_pos (Or.inr e40), if_neg n5, hr_61]; rfl) (by omega) (b2_61) (by omega) (b4_61), hv_61, fun z => absurd z (by decide)⟩)
  · have e5 := (tq8 (hK i hi)).mp c6
    have hn8 := not_end hend hi e5 (by decide)
    refine g_aload_n C dX10_one_9 rfl ?_
    refine g_callV C (c_X10_opens_7 E h ad (upd iv 7 (nI us)) n cn i en ks ps t vl wr wa (by omega) (hb) (hL) (hn8)) gX10_one_X10_opens rfl 0 (by decide +kernel) ⟨by decide, by decide⟩ ⟨by decide, by decide⟩ 0 rfl rfl [0, 2] [1] (wr := [gA E (ad 15) 620 fr]) rfl (by decide) rfl (by decide) (by decide) rfl rfl (Nat.le_of_ble_eq_true rfl) dX10_one_10 ?_
    rintro _ _ ⟨vl2_10, rfl, rfl, hv_10⟩
    refine gg.perm (ws' := [gO h 10 (tF ad (upd (upd (upd (upd (upd (upd (upd (upd (upd iv 7 (nI us)) 18 (nI n)) 19 (nI (en (i + 1)))) 20 (tkT (ks (i + 1)))) 21 (ps (i + 1))) 22 vl2_10) 23 wr) 24 wa) 26 (nI 8))), gA E (ad 15) 620 fr, gA E (ad 17) 600 t]) [1, 0, 2] (by decide) rfl ?_
    show gg E _ 2 X 0 0 13 [some (.ref h), none] [.int (nI 1)] [gO h 10 (tF ad (upd (upd (upd (upd (upd (upd (upd (upd (upd iv 7 (nI us)) 18 (nI n)) 19 (nI (en (i + 1)))) 20 (tkT (ks (i + 1)))) 21 (ps (i + 1))) 22 vl2_10) 23 wr) 24 wa) 26 (nI 8))), gA E (ad 15) 620 fr, gA E (ad 17) 600 t]
    refine g_if_eq (tgt := 23) C dX10_one_13 (by decide) (fun c13 => absurd c13 (by decide)) (fun c13 => ?_)
    refine g_aload_n C dX10_one_16 rfl ?_
    refine g_callV C (c_X10_one_0 E h ad iv n cn us (i + 1) en ks ps fr t vl2_10 wr wa (by omega) (hb) (hL) (hK) (hend) (by omega) (by omega) (hv_10) (by omega)) gX10_one_X10_one rfl 0 (by decide +kernel) ⟨by decide, by decide⟩ ⟨by decide, by decide⟩ 0 rfl rfl [0, 1, 2] [] (wr := []) rfl (by decide) rfl (by decide) (by decide) rfl rfl (Nat.le_of_ble_eq_true rfl) dX10_one_17 ?_
    rintro _ _ ⟨ok_17, j_17, us2_17, fr2_17, vl2_17, wr2_17, wa2_17, dp2_17, rfl, rfl, hq_17, hv_17, hd_17⟩
    show gg E _ 2 X 0 0 20 [some (.ref h), none] [.int (b2i ok_17)] [gO h 10 (tF ad (upd (upd (upd (upd (upd (upd (upd (upd (upd iv 7 (nI us2_17)) 18 (nI n)) 19 (nI (en j_17))) 20 (tkT (ks j_17))) 21 (ps j_17)) 22 vl2_17) 23 wr2_17) 24 wa2_17) 26 dp2_17)), gA E (ad 15) 620 fr2_17, gA E (ad 17) 600 t]
    rcases rdT_two hq_17 with ⟨C_17, hr_17, rfl, rfl, rfl, rfl, rfl, b1_17, b2_17, b3_17⟩ | ⟨kd_17, ix_17, hr_17, rfl, rfl, rfl, b1_17, b2_17, b3_17, b4_17⟩
    · obtain rfl := hd_17 rfl
      refine g_if_ne (tgt := 25) C dX10_one_20 (by decide) (fun c20 => ?_) (fun c20 => absurd c20 (by decide))
      refine g_aload_n C dX10_one_25 rfl ?_
      refine g_dup C dX10_one_26 rfl ?_
      refine g_get C i_X10 0 26 f_188 rfl rfl (by decide) rfl rfl dX10_one_27 ?_
      show gg E _ 2 X 0 0 30 [some (.ref h), none] [.int (nI 8), .ref h] [gO h 10 (tF ad (upd (upd (upd (upd (upd (upd (upd (upd (upd iv 7 (nI (us + C_17.length))) 18 (nI n)) 19 (nI (en j_17))) 20 (tkT (ks j_17))) 21 (ps j_17)) 22 vl2_17) 23 wr) 24 wa) 26 (nI 8))), gA E (ad 15) 620 (cdW fr us (C_17.map trJ)), gA E (ad 17) 600 t]
      refine g_iconst (v := nI 1) C dX10_one_30 (by decide) ?_
      refine g_isub C dX10_one_31 (g_top (x' := nI 7) (by decide) ?_)
      refine g_put C i_X10 tyX10 tyX10_ok nmX10 0 26 f_188 rfl rfl (by decide) rfl rfl rfl rfl rfl (Nat.le_of_ble_eq_true rfl) dX10_one_32 (ws' := [gO h 10 (tF ad (upd (upd (upd (upd (upd (upd (upd (upd (upd iv 7 (nI (us + C_17.length))) 18 (nI n)) 19 (nI (en j_17))) 20 (tkT (ks j_17))) 21 (ps j_17)) 22 vl2_17) 23 wr) 24 wa) 26 (nI 7))), gA E (ad 15) 620 (cdW fr us (C_17.map trJ)), gA E (ad 17) 600 t]) rfl ?_
      refine g_aload_n C dX10_one_35 rfl ?_
      refine g_sipush (v := nI 2005) C dX10_one_36 (by decide) ?_
      refine g_callV C (c_X10_lay E h ad (upd (upd (upd (upd (upd (upd (upd (upd iv 18 (nI n)) 19 (nI (en j_17))) 20 (tkT (ks j_17))) 21 (ps j_17)) 22 vl2_17) 23 wr) 24 wa) 26 (nI 7)) (us + C_17.length) (cdW fr us (C_17.map trJ)) (nI 2005) (by omega)) gX10_one_X10_lay rfl 1 (by decide +kernel) ⟨by decide, by decide⟩ ⟨by decide, by decide⟩ 0 rfl rfl [0, 1] [2] (wr := [gA E (ad 17) 600 t]) rfl (by decide) rfl (by decide) (by decide) rfl rfl (Nat.le_of_ble_eq_true rfl) dX10_one_39 ?_
      rintro _ _ ⟨rfl, rfl⟩
      refine gg.perm (ws' := [gO h 10 (tF ad (upd (upd (upd (upd (upd (upd (upd (upd (upd iv 7 (nI ((us + C_17.length) + 1))) 18 (nI n)) 19 (nI (en j_17))) 20 (tkT (ks j_17))) 21 (ps j_17)) 22 vl2_17) 23 wr) 24 wa) 26 (nI 7))), gA E (ad 15) 620 (upd (cdW fr us (C_17.map trJ)) (us + C_17.length) (nI 2005)), gA E (ad 17) 600 t]) [1, 2, 0] (by decide) rfl ?_
      show gg E _ 2 X 0 0 42 [some (.ref h), none] [] [gO h 10 (tF ad (upd (upd (upd (upd (upd (upd (upd (upd (upd iv 7 (nI ((us + C_17.length) + 1))) 18 (nI n)) 19 (nI (en j_17))) 20 (tkT (ks j_17))) 21 (ps j_17)) 22 vl2_17) 23 wr) 24 wa) 26 (nI 7))), gA E (ad 15) 620 (upd (cdW fr us (C_17.map trJ)) (us + C_17.length) (nI 2005)), gA E (ad 17) 600 t]
      refine g_iconst (v := nI 1) C dX10_one_42 (by decide) ?_
      exact g_zret C Rt dX10_one_43 (by decide) (by decide) (by decide) (⟨true, _, _, _, _, _, _, _, rfl, rfl, rdT_ok (by rw [pLv, if_pos (Or.inl e5), if_pos e5, hr_17]; rfl) (by omega) b2_17 (by omega) (ln2 _ _ _) (cd2T _ _ _ _ _ (by decide)), hv_17, fun _ => rfl⟩)
    · refine g_if_ne (tgt := 25) C dX10_one_20 (by decide) (fun c20 => absurd c20 (by decide)) (fun c20 => ?_)
      refine g_iconst (v := nI 0) C dX10_one_23 (by decide) ?_
      exact g_zret C Rt dX10_one_24 (by decide) (by decide) (by decide) (⟨false, _, _, _, _, _, _, _, rfl, rfl, rdT_er (by rw [pLv, if_pos (Or.inl e5), if_pos e5, hr_17]; rfl) (by omega) (b2_17) (by omega) (b4_17), hv_17, fun z => absurd z (by decide)⟩)

abbrev rm_c_X10_all_1 : Room := { frames := 9, cells := 0, slots := 0, locals := 189 }
set_option maxHeartbeats 4000000 in
set_option maxRecDepth 100000 in
theorem c_X10_all_1 (E : gE) (h : Nat) (ad : Nat → Nat) (iv : Nat → Int32) (n cn us i : Nat) (en : Nat → Nat) (ks ps fr t : Nat → Int32) (vl wr wa : Int32) (hn : n ≤ 600) (hb : okY t n) (hL : twL t n cn ks ps en) (hK : ∀ q, q < cn → tkC (ks q)) (hend : ks (cn - 1) = nI 1011) (hcn : cn ≤ 601) (hi : i < cn) (hv : ¬ nI 999 < ks i → vl = ks i) (hus : us ≤ i) : MM E yX10_all wsX10_all rm_c_X10_all_1 [.ref h] [gO h 10 (tF ad (upd (upd (upd (upd (upd (upd (upd (upd (upd iv 7 (nI us)) 18 (nI n)) 19 (nI (en i))) 20 (tkT (ks i))) 21 (ps i)) 22 vl) 23 wr) 24 wa) 26 (nI 7))), gA E (ad 15) 620 fr, gA E (ad 17) 600 t] (fun rv_ ru_ => ∃ (ok : Bool) (j us2 : Nat) (fr2 : Nat → Int32) (vl2 wr2 wa2 dp2 : Int32), rv_ = some (.int (b2i ok)) ∧ ru_ = [gO h 10 (tF ad (upd (upd (upd (upd (upd (upd (upd (upd (upd iv 7 (nI us2)) 18 (nI n)) 19 (nI (en j))) 20 (tkT (ks j))) 21 (ps j)) 22 vl2) 23 wr2) 24 wa2) 26 dp2)), gA E (ad 15) 620 fr2, gA E (ad 17) 600 t] ∧ (rdQ (trR (pAll ks (pLv ks 1) i)) ps cn i us fr wr wa ok j us2 fr2 wr2 wa2) ∧ (¬ nI 999 < ks j → vl2 = ks j) ∧ (ok = true → dp2 = nI 7)) := by
  refine MM.ofG (cc := cX10_all) (maxL := 1) (ret := (some .boolean)) (by decide) rfl (Nat.le_of_ble_eq_true rfl) (ll := [some (.ref h)]) rfl ?_
  intro X C Rt
  have C : gx E X cX10_all 1 wsX10_all RX10 := C
  have i_X10 : ∀ w ∈ u_ws RX10 TX10 40, w ∈ wsX10_all := by decide +kernel
  have f_154 : Cond.fieldLink RX10 154 "MarkPagesModel" "token" "I" ∈ wsX10_all := by decide +kernel
  refine g_aload_n C dX10_all_0 rfl ?_
  refine g_callV C (c_X10_one_1 E h ad iv n cn us i en ks ps fr t vl wr wa (by omega) (hb) (hL) (hK) (hend) (by omega) (by omega) (hv) (by omega)) gX10_all_X10_one rfl 0 (by decide +kernel) ⟨by decide, by decide⟩ ⟨by decide, by decide⟩ 0 rfl rfl [0, 1, 2] [] (wr := []) rfl (by decide) rfl (by decide) (by decide) rfl rfl (Nat.le_of_ble_eq_true rfl) dX10_all_1 ?_
  rintro _ _ ⟨ok_1, j_1, us2_1, fr2_1, vl2_1, wr2_1, wa2_1, dp2_1, rfl, rfl, hq_1, hv_1, hd_1⟩
  show gg E _ 1 X 0 0 4 [some (.ref h)] [.int (b2i ok_1)] [gO h 10 (tF ad (upd (upd (upd (upd (upd (upd (upd (upd (upd iv 7 (nI us2_1)) 18 (nI n)) 19 (nI (en j_1))) 20 (tkT (ks j_1))) 21 (ps j_1)) 22 vl2_1) 23 wr2_1) 24 wa2_1) 26 dp2_1)), gA E (ad 15) 620 fr2_1, gA E (ad 17) 600 t]
  rcases rdT_two hq_1 with ⟨C_1, hr_1, rfl, rfl, rfl, rfl, rfl, b1_1, b2_1, b3_1⟩ | ⟨kd_1, ix_1, hr_1, rfl, rfl, rfl, b1_1, b2_1, b3_1, b4_1⟩
  · obtain rfl := hd_1 rfl
    refine g_if_ne (tgt := 9) C dX10_all_4 (by decide) (fun c4 => ?_) (fun c4 => absurd c4 (by decide))
    have L9 : ∀ (n9 : Nat) (it j1 f1 : Nat) (C1 : List Int32) (vl1 : Int32), cn - j1 < n9 → (j1 < cn) → (i + it ≤ j1) → (f1 + it = 601) → (C1.length + i ≤ j1) → (pAll ks (pLv ks 1) i = lpO ks (nI 1004) (pLv ks 1) f1 j1 C1) → (¬ nI 999 < ks j1 → vl1 = ks j1) → gg E rm_c_X10_all_1 1 X 0 0 9 [some (.ref h)] [] [gO h 10 (tF ad (upd (upd (upd (upd (upd (upd (upd (upd (upd iv 7 (nI (us + C1.length))) 18 (nI n)) 19 (nI (en j1))) 20 (tkT (ks j1))) 21 (ps j1)) 22 vl1) 23 wr) 24 wa) 26 (nI 7))), gA E (ad 15) 620 (cdW fr us (C1.map trJ)), gA E (ad 17) 600 t] := by
      intro n9
      induction n9 with
      | zero => intro it j1 f1 C1 vl1 hm9; exact absurd hm9 (Nat.not_lt_zero _)
      | succ n9 ih9 =>
        intro it j1 f1 C1 vl1 hm9 g1 g2 g3 g4 g5 hv1
        refine g_aload_n C dX10_all_9 rfl ?_
        refine g_get C i_X10 0 20 f_154 rfl rfl (by decide) rfl rfl dX10_all_10 ?_
        refine g_bipush (v := nI 7) C dX10_all_13 (by decide) ?_
        refine g_icmp_ne (tgt := 41) C dX10_all_15 (by decide) (fun c15 => ?_) (fun c15 => ?_)
        · refine g_iconst (v := nI 1) C dX10_all_41 (by decide) ?_
          exact g_zret C Rt dX10_all_42 (by decide) (by decide) (by decide) (⟨true, _, _, _, _, _, _, _, rfl, rfl, rdT_ok (by rw [g5, show f1 = f1 - 1 + 1 by omega, lpO, if_neg (fun z => c15 ((tq7 (hK _ g1)).mpr z))]) (by omega) g1 (by omega) rfl rfl, hv1, fun _ => rfl⟩)
        · have e15 := (tq7 (hK _ g1)).mp c15
          have hn7 := not_end hend g1 e15 (by decide)
          refine g_aload_n C dX10_all_18 rfl ?_
          refine g_callV C (c_X10_nextT E h ad (upd (upd (upd (upd iv 7 (nI (us + C1.length))) 23 wr) 24 wa) 26 (nI 7)) n cn j1 en ks ps t (tkT (ks j1)) (ps j1) vl1 (by omega) (hb) (hL) (hn7)) gX10_all_X10_next0 rfl 0 (by decide +kernel) ⟨by decide, by decide⟩ ⟨by decide, by decide⟩ 0 rfl rfl [0, 2] [1] (wr := [gA E (ad 15) 620 (cdW fr us (C1.map trJ))]) rfl (by decide) rfl (by decide) (by decide) rfl rfl (Nat.le_of_ble_eq_true rfl) dX10_all_19 ?_
          rintro _ _ ⟨vl2_19, rfl, rfl, hv_19⟩
          refine gg.perm (ws' := [gO h 10 (tF ad (upd (upd (upd (upd (upd (upd (upd (upd (upd iv 7 (nI (us + C1.length))) 18 (nI n)) 19 (nI (en (j1 + 1)))) 20 (tkT (ks (j1 + 1)))) 21 (ps (j1 + 1))) 22 vl2_19) 23 wr) 24 wa) 26 (nI 7))), gA E (ad 15) 620 (cdW fr us (C1.map trJ)), gA E (ad 17) 600 t]) [1, 0, 2] (by decide) rfl ?_
          show gg E _ 1 X 0 0 22 [some (.ref h)] [] [gO h 10 (tF ad (upd (upd (upd (upd (upd (upd (upd (upd (upd iv 7 (nI (us + C1.length))) 18 (nI n)) 19 (nI (en (j1 + 1)))) 20 (tkT (ks (j1 + 1)))) 21 (ps (j1 + 1))) 22 vl2_19) 23 wr) 24 wa) 26 (nI 7))), gA E (ad 15) 620 (cdW fr us (C1.map trJ)), gA E (ad 17) 600 t]
          refine g_aload_n C dX10_all_22 rfl ?_
          refine g_callV C (c_X10_one_1 E h ad iv n cn (us + C1.length) (j1 + 1) en ks ps (cdW fr us (C1.map trJ)) t vl2_19 wr wa (by omega) (hb) (hL) (hK) (hend) (by omega) (by omega) (hv_19) (by omega)) gX10_all_X10_one rfl 0 (by decide +kernel) ⟨by decide, by decide⟩ ⟨by decide, by decide⟩ 0 rfl rfl [0, 1, 2] [] (wr := []) rfl (by decide) rfl (by decide) (by decide) rfl rfl (Nat.le_of_ble_eq_true rfl) dX10_all_23 ?_
          rintro _ _ ⟨ok_23, j_23, us2_23, fr2_23, vl2_23, wr2_23, wa2_23, dp2_23, rfl, rfl, hq_23, hv_23, hd_23⟩
          show gg E _ 1 X 0 0 26 [some (.ref h)] [.int (b2i ok_23)] [gO h 10 (tF ad (upd (upd (upd (upd (upd (upd (upd (upd (upd iv 7 (nI us2_23)) 18 (nI n)) 19 (nI (en j_23))) 20 (tkT (ks j_23))) 21 (ps j_23)) 22 vl2_23) 23 wr2_23) 24 wa2_23) 26 dp2_23)), gA E (ad 15) 620 fr2_23, gA E (ad 17) 600 t]
          rcases rdT_two hq_23 with ⟨C_23, hr_23, rfl, rfl, rfl, rfl, rfl, b1_23, b2_23, b3_23⟩ | ⟨kd_23, ix_23, hr_23, rfl, rfl, rfl, b1_23, b2_23, b3_23, b4_23⟩
          · obtain rfl := hd_23 rfl
            refine g_if_ne (tgt := 31) C dX10_all_26 (by decide) (fun c26 => ?_) (fun c26 => absurd c26 (by decide))
            refine g_aload_n C dX10_all_31 rfl ?_
            refine g_sipush (v := nI 2006) C dX10_all_32 (by decide) ?_
            refine g_callV C (c_X10_lay E h ad (upd (upd (upd (upd (upd (upd (upd (upd iv 18 (nI n)) 19 (nI (en j_23))) 20 (tkT (ks j_23))) 21 (ps j_23)) 22 vl2_23) 23 wr) 24 wa) 26 (nI 7)) (us + C1.length + C_23.length) (cdW (cdW fr us (C1.map trJ)) (us + C1.length) (C_23.map trJ)) (nI 2006) (by omega)) gX10_all_X10_lay rfl 1 (by decide +kernel) ⟨by decide, by decide⟩ ⟨by decide, by decide⟩ 0 rfl rfl [0, 1] [2] (wr := [gA E (ad 17) 600 t]) rfl (by decide) rfl (by decide) (by decide) rfl rfl (Nat.le_of_ble_eq_true rfl) dX10_all_35 ?_
            rintro _ _ ⟨rfl, rfl⟩
            refine gg.perm (ws' := [gO h 10 (tF ad (upd (upd (upd (upd (upd (upd (upd (upd (upd iv 7 (nI ((us + C1.length + C_23.length) + 1))) 18 (nI n)) 19 (nI (en j_23))) 20 (tkT (ks j_23))) 21 (ps j_23)) 22 vl2_23) 23 wr) 24 wa) 26 (nI 7))), gA E (ad 15) 620 (upd (cdW (cdW fr us (C1.map trJ)) (us + C1.length) (C_23.map trJ)) (us + C1.length + C_23.length) (nI 2006)), gA E (ad 17) 600 t]) [1, 2, 0] (by decide) rfl ?_
            show gg E _ 1 X 0 0 38 [some (.ref h)] [] [gO h 10 (tF ad (upd (upd (upd (upd (upd (upd (upd (upd (upd iv 7 (nI ((us + C1.length + C_23.length) + 1))) 18 (nI n)) 19 (nI (en j_23))) 20 (tkT (ks j_23))) 21 (ps j_23)) 22 vl2_23) 23 wr) 24 wa) 26 (nI 7))), gA E (ad 15) 620 (upd (cdW (cdW fr us (C1.map trJ)) (us + C1.length) (C_23.map trJ)) (us + C1.length + C_23.length) (nI 2006)), gA E (ad 17) 600 t]
            rw [ln3 us C1 C_23 (nI 1004), cd3T fr us C1 C_23 (nI 1004) (nI 2006) (by decide)]
            refine g_goto (tgt := 9) C dX10_all_38 (by decide) ?_
            exact ih9 (it + 1) j_23 (f1 - 1) (C1 ++ C_23 ++ [nI 1004]) vl2_23 (by omega) (by omega) (by omega) (by omega) (by have := ln3 us C1 C_23 (nI 1004); omega) (by rw [g5, show f1 = f1 - 1 + 1 by omega, lpO, if_pos e15, hr_23]; rfl) (hv_23)
          · refine g_if_ne (tgt := 31) C dX10_all_26 (by decide) (fun c26 => absurd c26 (by decide)) (fun c26 => ?_)
            refine g_iconst (v := nI 0) C dX10_all_29 (by decide) ?_
            exact g_zret C Rt dX10_all_30 (by decide) (by decide) (by decide) (⟨false, _, _, _, _, _, _, _, rfl, rfl, rdT_er (by rw [g5, show f1 = f1 - 1 + 1 by omega, lpO, if_pos e15, hr_23]) (by omega) b2_23 (by omega) b4_23, hv_23, fun z => absurd z (by decide)⟩)
    exact L9 _ 0 j_1 601 C_1 vl2_1 (Nat.lt_succ_self _) (by omega) (by omega) (by omega) (by omega) (by rw [pAll, hr_1]; rfl) (hv_1)
  · refine g_if_ne (tgt := 9) C dX10_all_4 (by decide) (fun c4 => absurd c4 (by decide)) (fun c4 => ?_)
    refine g_iconst (v := nI 0) C dX10_all_7 (by decide) ?_
    exact g_zret C Rt dX10_all_8 (by decide) (by decide) (by decide) (⟨false, _, _, _, _, _, _, _, rfl, rfl, rdT_er (by rw [pAll, hr_1]; rfl) b1_1 b2_1 b3_1 b4_1, hv_1, fun z => absurd z (by decide)⟩)

abbrev rm_c_X10_any_1 : Room := { frames := 10, cells := 0, slots := 0, locals := 209 }
set_option maxHeartbeats 4000000 in
set_option maxRecDepth 100000 in
theorem c_X10_any_1 (E : gE) (h : Nat) (ad : Nat → Nat) (iv : Nat → Int32) (n cn us i : Nat) (en : Nat → Nat) (ks ps fr t : Nat → Int32) (vl wr wa : Int32) (hn : n ≤ 600) (hb : okY t n) (hL : twL t n cn ks ps en) (hK : ∀ q, q < cn → tkC (ks q)) (hend : ks (cn - 1) = nI 1011) (hcn : cn ≤ 601) (hi : i < cn) (hv : ¬ nI 999 < ks i → vl = ks i) (hus : us ≤ i) : MM E yX10_any wsX10_any rm_c_X10_any_1 [.ref h] [gO h 10 (tF ad (upd (upd (upd (upd (upd (upd (upd (upd (upd iv 7 (nI us)) 18 (nI n)) 19 (nI (en i))) 20 (tkT (ks i))) 21 (ps i)) 22 vl) 23 wr) 24 wa) 26 (nI 7))), gA E (ad 15) 620 fr, gA E (ad 17) 600 t] (fun rv_ ru_ => ∃ (ok : Bool) (j us2 : Nat) (fr2 : Nat → Int32) (vl2 wr2 wa2 dp2 : Int32), rv_ = some (.int (b2i ok)) ∧ ru_ = [gO h 10 (tF ad (upd (upd (upd (upd (upd (upd (upd (upd (upd iv 7 (nI us2)) 18 (nI n)) 19 (nI (en j))) 20 (tkT (ks j))) 21 (ps j)) 22 vl2) 23 wr2) 24 wa2) 26 dp2)), gA E (ad 15) 620 fr2, gA E (ad 17) 600 t] ∧ (rdQ (trR (pAny ks (pLv ks 1) i)) ps cn i us fr wr wa ok j us2 fr2 wr2 wa2) ∧ (¬ nI 999 < ks j → vl2 = ks j) ∧ (ok = true → dp2 = nI 7)) := by
  refine MM.ofG (cc := cX10_any) (maxL := 1) (ret := (some .boolean)) (by decide) rfl (Nat.le_of_ble_eq_true rfl) (ll := [some (.ref h)]) rfl ?_
  intro X C Rt
  have C : gx E X cX10_any 1 wsX10_any RX10 := C
  have i_X10 : ∀ w ∈ u_ws RX10 TX10 40, w ∈ wsX10_any := by decide +kernel
  have f_154 : Cond.fieldLink RX10 154 "MarkPagesModel" "token" "I" ∈ wsX10_any := by decide +kernel
  refine g_aload_n C dX10_any_0 rfl ?_
  refine g_callV C (c_X10_all_1 E h ad iv n cn us i en ks ps fr t vl wr wa (by omega) (hb) (hL) (hK) (hend) (by omega) (by omega) (hv) (by omega)) gX10_any_X10_all rfl 0 (by decide +kernel) ⟨by decide, by decide⟩ ⟨by decide, by decide⟩ 0 rfl rfl [0, 1, 2] [] (wr := []) rfl (by decide) rfl (by decide) (by decide) rfl rfl (Nat.le_of_ble_eq_true rfl) dX10_any_1 ?_
  rintro _ _ ⟨ok_1, j_1, us2_1, fr2_1, vl2_1, wr2_1, wa2_1, dp2_1, rfl, rfl, hq_1, hv_1, hd_1⟩
  show gg E _ 1 X 0 0 4 [some (.ref h)] [.int (b2i ok_1)] [gO h 10 (tF ad (upd (upd (upd (upd (upd (upd (upd (upd (upd iv 7 (nI us2_1)) 18 (nI n)) 19 (nI (en j_1))) 20 (tkT (ks j_1))) 21 (ps j_1)) 22 vl2_1) 23 wr2_1) 24 wa2_1) 26 dp2_1)), gA E (ad 15) 620 fr2_1, gA E (ad 17) 600 t]
  rcases rdT_two hq_1 with ⟨C_1, hr_1, rfl, rfl, rfl, rfl, rfl, b1_1, b2_1, b3_1⟩ | ⟨kd_1, ix_1, hr_1, rfl, rfl, rfl, b1_1, b2_1, b3_1, b4_1⟩
  · obtain rfl := hd_1 rfl
    refine g_if_ne (tgt := 9) C dX10_any_4 (by decide) (fun c4 => ?_) (fun c4 => absurd c4 (by decide))
    have L9 : ∀ (n9 : Nat) (it j1 f1 : Nat) (C1 : List Int32) (vl1 : Int32), cn - j1 < n9 → (j1 < cn) → (i + it ≤ j1) → (f1 + it = 601) → (C1.length + i ≤ j1) → (pAny ks (pLv ks 1) i = lpO ks (nI 1003) (pAll ks (pLv ks 1)) f1 j1 C1) → (¬ nI 999 < ks j1 → vl1 = ks j1) → gg E rm_c_X10_any_1 1 X 0 0 9 [some (.ref h)] [] [gO h 10 (tF ad (upd (upd (upd (upd (upd (upd (upd (upd (upd iv 7 (nI (us + C1.length))) 18 (nI n)) 19 (nI (en j1))) 20 (tkT (ks j1))) 21 (ps j1)) 22 vl1) 23 wr) 24 wa) 26 (nI 7))), gA E (ad 15) 620 (cdW fr us (C1.map trJ)), gA E (ad 17) 600 t] := by
      intro n9
      induction n9 with
      | zero => intro it j1 f1 C1 vl1 hm9; exact absurd hm9 (Nat.not_lt_zero _)
      | succ n9 ih9 =>
        intro it j1 f1 C1 vl1 hm9 g1 g2 g3 g4 g5 hv1
        refine g_aload_n C dX10_any_9 rfl ?_
        refine g_get C i_X10 0 20 f_154 rfl rfl (by decide) rfl rfl dX10_any_10 ?_
        refine g_bipush (v := nI 6) C dX10_any_13 (by decide) ?_
        refine g_icmp_ne (tgt := 41) C dX10_any_15 (by decide) (fun c15 => ?_) (fun c15 => ?_)
        · refine g_iconst (v := nI 1) C dX10_any_41 (by decide) ?_
          exact g_zret C Rt dX10_any_42 (by decide) (by decide) (by decide) (⟨true, _, _, _, _, _, _, _, rfl, rfl, rdT_ok (by rw [g5, show f1 = f1 - 1 + 1 by omega, lpO, if_neg (fun z => c15 ((tq6 (hK _ g1)).mpr z))]) (by omega) g1 (by omega) rfl rfl, hv1, fun _ => rfl⟩)
        · have e15 := (tq6 (hK _ g1)).mp c15
          have hn7 := not_end hend g1 e15 (by decide)
          refine g_aload_n C dX10_any_18 rfl ?_
          refine g_callV C (c_X10_nextT E h ad (upd (upd (upd (upd iv 7 (nI (us + C1.length))) 23 wr) 24 wa) 26 (nI 7)) n cn j1 en ks ps t (tkT (ks j1)) (ps j1) vl1 (by omega) (hb) (hL) (hn7)) gX10_any_X10_next0 rfl 0 (by decide +kernel) ⟨by decide, by decide⟩ ⟨by decide, by decide⟩ 0 rfl rfl [0, 2] [1] (wr := [gA E (ad 15) 620 (cdW fr us (C1.map trJ))]) rfl (by decide) rfl (by decide) (by decide) rfl rfl (Nat.le_of_ble_eq_true rfl) dX10_any_19 ?_
          rintro _ _ ⟨vl2_19, rfl, rfl, hv_19⟩
          refine gg.perm (ws' := [gO h 10 (tF ad (upd (upd (upd (upd (upd (upd (upd (upd (upd iv 7 (nI (us + C1.length))) 18 (nI n)) 19 (nI (en (j1 + 1)))) 20 (tkT (ks (j1 + 1)))) 21 (ps (j1 + 1))) 22 vl2_19) 23 wr) 24 wa) 26 (nI 7))), gA E (ad 15) 620 (cdW fr us (C1.map trJ)), gA E (ad 17) 600 t]) [1, 0, 2] (by decide) rfl ?_
          show gg E _ 1 X 0 0 22 [some (.ref h)] [] [gO h 10 (tF ad (upd (upd (upd (upd (upd (upd (upd (upd (upd iv 7 (nI (us + C1.length))) 18 (nI n)) 19 (nI (en (j1 + 1)))) 20 (tkT (ks (j1 + 1)))) 21 (ps (j1 + 1))) 22 vl2_19) 23 wr) 24 wa) 26 (nI 7))), gA E (ad 15) 620 (cdW fr us (C1.map trJ)), gA E (ad 17) 600 t]
          refine g_aload_n C dX10_any_22 rfl ?_
          refine g_callV C (c_X10_all_1 E h ad iv n cn (us + C1.length) (j1 + 1) en ks ps (cdW fr us (C1.map trJ)) t vl2_19 wr wa (by omega) (hb) (hL) (hK) (hend) (by omega) (by omega) (hv_19) (by omega)) gX10_any_X10_all rfl 0 (by decide +kernel) ⟨by decide, by decide⟩ ⟨by decide, by decide⟩ 0 rfl rfl [0, 1, 2] [] (wr := []) rfl (by decide) rfl (by decide) (by decide) rfl rfl (Nat.le_of_ble_eq_true rfl) dX10_any_23 ?_
          rintro _ _ ⟨ok_23, j_23, us2_23, fr2_23, vl2_23, wr2_23, wa2_23, dp2_23, rfl, rfl, hq_23, hv_23, hd_23⟩
          show gg E _ 1 X 0 0 26 [some (.ref h)] [.int (b2i ok_23)] [gO h 10 (tF ad (upd (upd (upd (upd (upd (upd (upd (upd (upd iv 7 (nI us2_23)) 18 (nI n)) 19 (nI (en j_23))) 20 (tkT (ks j_23))) 21 (ps j_23)) 22 vl2_23) 23 wr2_23) 24 wa2_23) 26 dp2_23)), gA E (ad 15) 620 fr2_23, gA E (ad 17) 600 t]
          rcases rdT_two hq_23 with ⟨C_23, hr_23, rfl, rfl, rfl, rfl, rfl, b1_23, b2_23, b3_23⟩ | ⟨kd_23, ix_23, hr_23, rfl, rfl, rfl, b1_23, b2_23, b3_23, b4_23⟩
          · obtain rfl := hd_23 rfl
            refine g_if_ne (tgt := 31) C dX10_any_26 (by decide) (fun c26 => ?_) (fun c26 => absurd c26 (by decide))
            refine g_aload_n C dX10_any_31 rfl ?_
            refine g_sipush (v := nI 2007) C dX10_any_32 (by decide) ?_
            refine g_callV C (c_X10_lay E h ad (upd (upd (upd (upd (upd (upd (upd (upd iv 18 (nI n)) 19 (nI (en j_23))) 20 (tkT (ks j_23))) 21 (ps j_23)) 22 vl2_23) 23 wr) 24 wa) 26 (nI 7)) (us + C1.length + C_23.length) (cdW (cdW fr us (C1.map trJ)) (us + C1.length) (C_23.map trJ)) (nI 2007) (by omega)) gX10_any_X10_lay rfl 1 (by decide +kernel) ⟨by decide, by decide⟩ ⟨by decide, by decide⟩ 0 rfl rfl [0, 1] [2] (wr := [gA E (ad 17) 600 t]) rfl (by decide) rfl (by decide) (by decide) rfl rfl (Nat.le_of_ble_eq_true rfl) dX10_any_35 ?_
            rintro _ _ ⟨rfl, rfl⟩
            refine gg.perm (ws' := [gO h 10 (tF ad (upd (upd (upd (upd (upd (upd (upd (upd (upd iv 7 (nI ((us + C1.length + C_23.length) + 1))) 18 (nI n)) 19 (nI (en j_23))) 20 (tkT (ks j_23))) 21 (ps j_23)) 22 vl2_23) 23 wr) 24 wa) 26 (nI 7))), gA E (ad 15) 620 (upd (cdW (cdW fr us (C1.map trJ)) (us + C1.length) (C_23.map trJ)) (us + C1.length + C_23.length) (nI 2007)), gA E (ad 17) 600 t]) [1, 2, 0] (by decide) rfl ?_
            show gg E _ 1 X 0 0 38 [some (.ref h)] [] [gO h 10 (tF ad (upd (upd (upd (upd (upd (upd (upd (upd (upd iv 7 (nI ((us + C1.length + C_23.length) + 1))) 18 (nI n)) 19 (nI (en j_23))) 20 (tkT (ks j_23))) 21 (ps j_23)) 22 vl2_23) 23 wr) 24 wa) 26 (nI 7))), gA E (ad 15) 620 (upd (cdW (cdW fr us (C1.map trJ)) (us + C1.length) (C_23.map trJ)) (us + C1.length + C_23.length) (nI 2007)), gA E (ad 17) 600 t]
            rw [ln3 us C1 C_23 (nI 1003), cd3T fr us C1 C_23 (nI 1003) (nI 2007) (by decide)]
            refine g_goto (tgt := 9) C dX10_any_38 (by decide) ?_
            exact ih9 (it + 1) j_23 (f1 - 1) (C1 ++ C_23 ++ [nI 1003]) vl2_23 (by omega) (by omega) (by omega) (by omega) (by have := ln3 us C1 C_23 (nI 1003); omega) (by rw [g5, show f1 = f1 - 1 + 1 by omega, lpO, if_pos e15, hr_23]; rfl) (hv_23)
          · refine g_if_ne (tgt := 31) C dX10_any_26 (by decide) (fun c26 => absurd c26 (by decide)) (fun c26 => ?_)
            refine g_iconst (v := nI 0) C dX10_any_29 (by decide) ?_
            exact g_zret C Rt dX10_any_30 (by decide) (by decide) (by decide) (⟨false, _, _, _, _, _, _, _, rfl, rfl, rdT_er (by rw [g5, show f1 = f1 - 1 + 1 by omega, lpO, if_pos e15, hr_23]) (by omega) b2_23 (by omega) b4_23, hv_23, fun z => absurd z (by decide)⟩)
    exact L9 _ 0 j_1 601 C_1 vl2_1 (Nat.lt_succ_self _) (by omega) (by omega) (by omega) (by omega) (by rw [pAny, hr_1]; rfl) (hv_1)
  · refine g_if_ne (tgt := 9) C dX10_any_4 (by decide) (fun c4 => absurd c4 (by decide)) (fun c4 => ?_)
    refine g_iconst (v := nI 0) C dX10_any_7 (by decide) ?_
    exact g_zret C Rt dX10_any_8 (by decide) (by decide) (by decide) (⟨false, _, _, _, _, _, _, _, rfl, rfl, rdT_er (by rw [pAny, hr_1]; rfl) b1_1 b2_1 b3_1 b4_1, hv_1, fun z => absurd z (by decide)⟩)

abbrev rm_c_X10_one_2 : Room := { frames := 11, cells := 0, slots := 0, locals := 229 }
set_option maxHeartbeats 4000000 in
set_option maxRecDepth 100000 in
theorem c_X10_one_2 (E : gE) (h : Nat) (ad : Nat → Nat) (iv : Nat → Int32) (n cn us i : Nat) (en : Nat → Nat) (ks ps fr t : Nat → Int32) (vl wr wa : Int32) (hn : n ≤ 600) (hb : okY t n) (hL : twL t n cn ks ps en) (hK : ∀ q, q < cn → tkC (ks q)) (hend : ks (cn - 1) = nI 1011) (hcn : cn ≤ 601) (hi : i < cn) (hv : ¬ nI 999 < ks i → vl = ks i) (hus : us ≤ i) : MM E yX10_one wsX10_one rm_c_X10_one_2 [.ref h] [gO h 10 (tF ad (upd (upd (upd (upd (upd (upd (upd (upd (upd iv 7 (nI us)) 18 (nI n)) 19 (nI (en i))) 20 (tkT (ks i))) 21 (ps i)) 22 vl) 23 wr) 24 wa) 26 (nI 6))), gA E (ad 15) 620 fr, gA E (ad 17) 600 t] (fun rv_ ru_ => ∃ (ok : Bool) (j us2 : Nat) (fr2 : Nat → Int32) (vl2 wr2 wa2 dp2 : Int32), rv_ = some (.int (b2i ok)) ∧ ru_ = [gO h 10 (tF ad (upd (upd (upd (upd (upd (upd (upd (upd (upd iv 7 (nI us2)) 18 (nI n)) 19 (nI (en j))) 20 (tkT (ks j))) 21 (ps j)) 22 vl2) 23 wr2) 24 wa2) 26 dp2)), gA E (ad 15) 620 fr2, gA E (ad 17) 600 t] ∧ (rdQ (trR (pLv ks 2 i)) ps cn i us fr wr wa ok j us2 fr2 wr2 wa2) ∧ (¬ nI 999 < ks j → vl2 = ks j) ∧ (ok = true → dp2 = nI 6)) := by
  refine MM.ofG (cc := cX10_one) (maxL := 2) (ret := (some .boolean)) (by decide) rfl (Nat.le_of_ble_eq_true rfl) (ll := [some (.ref h), none]) rfl ?_
  intro X C Rt
  have C : gx E X cX10_one 2 wsX10_one RX10 := C
  have i_X10 : ∀ w ∈ u_ws RX10 TX10 40, w ∈ wsX10_one := by decide +kernel
  have f_154 : Cond.fieldLink RX10 154 "MarkPagesModel" "token" "I" ∈ wsX10_one := by decide +kernel
  have f_188 : Cond.fieldLink RX10 188 "MarkPagesModel" "depth" "I" ∈ wsX10_one := by decide +kernel
  refine g_aload_n C dX10_one_0 rfl ?_
  refine g_get C i_X10 0 20 f_154 rfl rfl (by decide) rfl rfl dX10_one_1 ?_
  refine g_bipush (v := nI 8) C dX10_one_4 (by decide) ?_
  refine g_icmp_ne (tgt := 44) C dX10_one_6 (by decide) (fun c6 => ?_) (fun c6 => ?_)
  · have n5 := fun z => c6 ((tq8 (hK i hi)).mpr z)
    refine g_aload_n C dX10_one_44 rfl ?_
    refine g_get C i_X10 0 20 f_154 rfl rfl (by decide) rfl rfl dX10_one_45 ?_
    refine g_bipush (v := nI 40) C dX10_one_48 (by decide) ?_
    refine g_icmp_ne (tgt := 90) C dX10_one_50 (by decide) (fun c50 => ?_) (fun c50 => ?_)
    · have n40 := fun z => c50 ((tq40 (hK i hi)).mpr z)
      refine g_aload_n C dX10_one_90 rfl ?_
      refine g_callV C (c_X10_sum E h ad (upd iv 26 (nI 6)) n cn us i en ks ps fr t vl wr wa (by omega) (hb) (hL) (hK) (hend) (by omega) (by omega) (hv) (by omega)) gX10_one_X10_sum rfl 0 (by decide +kernel) ⟨by decide, by decide⟩ ⟨by decide, by decide⟩ 0 rfl rfl [0, 1, 2] [] (wr := []) rfl (by decide) rfl (by decide) (by decide) rfl rfl (Nat.le_of_ble_eq_true rfl) dX10_one_91 ?_
      rintro _ _ ⟨ok_91, j_91, us2_91, fr2_91, vl2_91, wr2_91, wa2_91, rfl, rfl, hq_91, hv_91⟩
      show gg E _ 2 X 0 0 94 [some (.ref h), none] [.int (b2i ok_91)] [gO h 10 (tF ad (upd (upd (upd (upd (upd (upd (upd (upd (upd iv 7 (nI us2_91)) 18 (nI n)) 19 (nI (en j_91))) 20 (tkT (ks j_91))) 21 (ps j_91)) 22 vl2_91) 23 wr2_91) 24 wa2_91) 26 (nI 6))), gA E (ad 15) 620 fr2_91, gA E (ad 17) 600 t]
      rcases rdT_two hq_91 with ⟨C_91, hr_91, rfl, rfl, rfl, rfl, rfl, b1_91, b2_91, b3_91⟩ | ⟨kd_91, ix_91, hr_91, rfl, rfl, rfl, b1_91, b2_91, b3_91, b4_91⟩
      · refine g_if_ne (tgt := 99) C dX10_one_94 (by decide) (fun c94 => ?_) (fun c94 => absurd c94 (by decide))
        refine g_aload_n C dX10_one_99 rfl ?_
        refine g_get C i_X10 0 20 f_154 rfl rfl (by decide) rfl rfl dX10_one_100 ?_
        refine g_bipush (v := nI 60) C dX10_one_103 (by decide) ?_
        refine g_icmp_ne (tgt := 114) C dX10_one_105 (by decide) (fun c105 => ?_) (fun c105 => ?_)
        · have n60 := fun z => c105 ((tq60 (hK _ b2_91)).mpr z)
          refine g_aload_n C dX10_one_114 rfl ?_
          refine g_get C i_X10 0 20 f_154 rfl rfl (by decide) rfl rfl dX10_one_115 ?_
          refine g_bipush (v := nI 61) C dX10_one_118 (by decide) ?_
          refine g_icmp_ne (tgt := 129) C dX10_one_120 (by decide) (fun c120 => ?_) (fun c120 => ?_)
          · have n61 := fun z => c120 ((tq61 (hK _ b2_91)).mpr z)
            refine g_aload_n C dX10_one_129 rfl ?_
            refine g_get C i_X10 0 20 f_154 rfl rfl (by decide) rfl rfl dX10_one_130 ?_
            refine g_bipush (v := nI 62) C dX10_one_133 (by decide) ?_
            refine g_icmp_ne (tgt := 144) C dX10_one_135 (by decide) (fun c135 => ?_) (fun c135 => ?_)
            · have n62 := fun z => c135 ((tq62 (hK _ b2_91)).mpr z)
              refine g_iconst (v := -1) C dX10_one_144 (by decide) ?_
              refine g_istore_n C dX10_one_145 (by decide) rfl (ll' := [some (.ref h), some (.int (-1))]) rfl ?_
              refine g_iload_n C dX10_one_146 rfl ?_
              refine g_iconst (v := -1) C dX10_one_147 (by decide) ?_
              refine g_icmp_ne (tgt := 157) C dX10_one_148 (by decide) (fun c148 => absurd c148 (by decide)) (fun c148 => ?_)
              refine g_aload_n C dX10_one_151 rfl ?_
              refine g_iconst (v := nI 1) C dX10_one_152 (by decide) ?_
              refine g_callV C (c_X10_bad E h ad (upd (upd (upd (upd (upd (upd iv 7 (nI (us + C_91.length))) 18 (nI n)) 19 (nI (en j_91))) 20 (tkT (ks j_91))) 22 vl2_91) 26 (nI 6)) 1 (ps j_91) wr wa ) gX10_one_X10_bad rfl 1 (by decide +kernel) ⟨by decide, by decide⟩ ⟨by decide, by decide⟩ 0 rfl rfl [0] [1, 2] (wr := [gA E (ad 15) 620 (cdW fr us (C_91.map trJ)), gA E (ad 17) 600 t]) rfl (by decide) rfl (by decide) (by decide) rfl rfl (Nat.le_of_ble_eq_true rfl) dX10_one_153 ?_
              rintro _ _ ⟨rfl, rfl⟩
              refine gg.perm (ws' := [gO h 10 (tF ad (upd (upd (upd (upd (upd (upd (upd (upd (upd iv 7 (nI (us + C_91.length))) 18 (nI n)) 19 (nI (en j_91))) 20 (tkT (ks j_91))) 21 (ps j_91)) 22 vl2_91) 23 (nI 1)) 24 (ps j_91)) 26 (nI 6))), gA E (ad 15) 620 (cdW fr us (C_91.map trJ)), gA E (ad 17) 600 t]) [2, 0, 1] (by decide) rfl ?_
              show gg E _ 2 X 0 0 156 [some (.ref h), some (.int (-1))] [.int (nI 0)] [gO h 10 (tF ad (upd (upd (upd (upd (upd (upd (upd (upd (upd iv 7 (nI (us + C_91.length))) 18 (nI n)) 19 (nI (en j_91))) 20 (tkT (ks j_91))) 21 (ps j_91)) 22 vl2_91) 23 (nI 1)) 24 (ps j_91)) 26 (nI 6))), gA E (ad 15) 620 (cdW fr us (C_91.map trJ)), gA E (ad 17) 600 t]
              exact g_zret C Rt dX10_one_156 (by decide) (by decide) (by decide) (⟨false, _, _, _, _, _, _, _, rfl, rfl, rdT_er (by rw [pLv, if_neg (fun z => z.elim n5 n40), pCmp, hr_91]; exact if_neg (fun z => z.elim n60 (fun z => z.elim n61 n62))) (b1_91) (b2_91) (b3_91) (b2_91), hv_91, fun z => absurd z (by decide)⟩)
            · have e62 := (tq62 (hK _ b2_91)).mp c135
              refine g_sipush (v := nI 2004) C dX10_one_138 (by decide) ?_
              refine g_goto (tgt := 145) C dX10_one_141 (by decide) ?_
              refine g_istore_n C dX10_one_145 (by decide) rfl (ll' := [some (.ref h), some (.int (nI 2004))]) rfl ?_
              refine g_iload_n C dX10_one_146 rfl ?_
              refine g_iconst (v := -1) C dX10_one_147 (by decide) ?_
              refine g_icmp_ne (tgt := 157) C dX10_one_148 (by decide) (fun c148 => ?_) (fun c148 => absurd c148 (by decide))
              have hn7 := not_end hend b2_91 e62 (by decide)
              refine g_aload_n C dX10_one_157 rfl ?_
              refine g_callV C (c_X10_nextT E h ad (upd (upd (upd (upd iv 7 (nI (us + C_91.length))) 23 wr) 24 wa) 26 (nI 6)) n cn j_91 en ks ps t (tkT (ks j_91)) (ps j_91) vl2_91 (by omega) (hb) (hL) (hn7)) gX10_one_X10_next0 rfl 0 (by decide +kernel) ⟨by decide, by decide⟩ ⟨by decide, by decide⟩ 0 rfl rfl [0, 2] [1] (wr := [gA E (ad 15) 620 (cdW fr us (C_91.map trJ))]) rfl (by decide) rfl (by decide) (by decide) rfl rfl (Nat.le_of_ble_eq_true rfl) dX10_one_158 ?_
              rintro _ _ ⟨vl2_158, rfl, rfl, hv_158⟩
              refine gg.perm (ws' := [gO h 10 (tF ad (upd (upd (upd (upd (upd (upd (upd (upd (upd iv 7 (nI (us + C_91.length))) 18 (nI n)) 19 (nI (en (j_91 + 1)))) 20 (tkT (ks (j_91 + 1)))) 21 (ps (j_91 + 1))) 22 vl2_158) 23 wr) 24 wa) 26 (nI 6))), gA E (ad 15) 620 (cdW fr us (C_91.map trJ)), gA E (ad 17) 600 t]) [1, 0, 2] (by decide) rfl ?_
              show gg E _ 2 X 0 0 161 [some (.ref h), some (.int (nI 2004))] [] [gO h 10 (tF ad (upd (upd (upd (upd (upd (upd (upd (upd (upd iv 7 (nI (us + C_91.length))) 18 (nI n)) 19 (nI (en (j_91 + 1)))) 20 (tkT (ks (j_91 + 1)))) 21 (ps (j_91 + 1))) 22 vl2_158) 23 wr) 24 wa) 26 (nI 6))), gA E (ad 15) 620 (cdW fr us (C_91.map trJ)), gA E (ad 17) 600 t]
              refine g_aload_n C dX10_one_161 rfl ?_
              refine g_callV C (c_X10_sum E h ad (upd iv 26 (nI 6)) n cn (us + C_91.length) (j_91 + 1) en ks ps (cdW fr us (C_91.map trJ)) t vl2_158 wr wa (by omega) (hb) (hL) (hK) (hend) (by omega) (by omega) (hv_158) (by omega)) gX10_one_X10_sum rfl 0 (by decide +kernel) ⟨by decide, by decide⟩ ⟨by decide, by decide⟩ 0 rfl rfl [0, 1, 2] [] (wr := []) rfl (by decide) rfl (by decide) (by decide) rfl rfl (Nat.le_of_ble_eq_true rfl) dX10_one_162 ?_
              rintro _ _ ⟨ok_162, j_162, us2_162, fr2_162, vl2_162, wr2_162, wa2_162, rfl, rfl, hq_162, hv_162⟩
              show gg E _ 2 X 0 0 165 [some (.ref h), some (.int (nI 2004))] [.int (b2i ok_162)] [gO h 10 (tF ad (upd (upd (upd (upd (upd (upd (upd (upd (upd iv 7 (nI us2_162)) 18 (nI n)) 19 (nI (en j_162))) 20 (tkT (ks j_162))) 21 (ps j_162)) 22 vl2_162) 23 wr2_162) 24 wa2_162) 26 (nI 6))), gA E (ad 15) 620 fr2_162, gA E (ad 17) 600 t]
              rcases rdT_two hq_162 with ⟨C_162, hr_162, rfl, rfl, rfl, rfl, rfl, b1_162, b2_162, b3_162⟩ | ⟨kd_162, ix_162, hr_162, rfl, rfl, rfl, b1_162, b2_162, b3_162, b4_162⟩
              · refine g_if_ne (tgt := 170) C dX10_one_165 (by decide) (fun c165 => ?_) (fun c165 => absurd c165 (by decide))
                refine g_aload_n C dX10_one_170 rfl ?_
                refine g_iload_n C dX10_one_171 rfl ?_
                refine g_callV C (c_X10_lay E h ad (upd (upd (upd (upd (upd (upd (upd (upd iv 18 (nI n)) 19 (nI (en j_162))) 20 (tkT (ks j_162))) 21 (ps j_162)) 22 vl2_162) 23 wr) 24 wa) 26 (nI 6)) (us + C_91.length + C_162.length) (cdW (cdW fr us (C_91.map trJ)) (us + C_91.length) (C_162.map trJ)) (nI 2004) (by omega)) gX10_one_X10_lay rfl 1 (by decide +kernel) ⟨by decide, by decide⟩ ⟨by decide, by decide⟩ 0 rfl rfl [0, 1] [2] (wr := [gA E (ad 17) 600 t]) rfl (by decide) rfl (by decide) (by decide) rfl rfl (Nat.le_of_ble_eq_true rfl) dX10_one_172 ?_
                rintro _ _ ⟨rfl, rfl⟩
                refine gg.perm (ws' := [gO h 10 (tF ad (upd (upd (upd (upd (upd (upd (upd (upd (upd iv 7 (nI ((us + C_91.length + C_162.length) + 1))) 18 (nI n)) 19 (nI (en j_162))) 20 (tkT (ks j_162))) 21 (ps j_162)) 22 vl2_162) 23 wr) 24 wa) 26 (nI 6))), gA E (ad 15) 620 (upd (cdW (cdW fr us (C_91.map trJ)) (us + C_91.length) (C_162.map trJ)) (us + C_91.length + C_162.length) (nI 2004)), gA E (ad 17) 600 t]) [1, 2, 0] (by decide) rfl ?_
                show gg E _ 2 X 0 0 175 [some (.ref h), some (.int (nI 2004))] [] [gO h 10 (tF ad (upd (upd (upd (upd (upd (upd (upd (upd (upd iv 7 (nI ((us + C_91.length + C_162.length) + 1))) 18 (nI n)) 19 (nI (en j_162))) 20 (tkT (ks j_162))) 21 (ps j_162)) 22 vl2_162) 23 wr) 24 wa) 26 (nI 6))), gA E (ad 15) 620 (upd (cdW (cdW fr us (C_91.map trJ)) (us + C_91.length) (C_162.map trJ)) (us + C_91.length + C_162.length) (nI 2004)), gA E (ad 17) 600 t]
                refine g_iconst (v := nI 1) C dX10_one_175 (by decide) ?_
                exact g_zret C Rt dX10_one_176 (by decide) (by decide) (by decide) (⟨true, _, _, _, _, _, _, _, rfl, rfl, rdT_ok (by rw [pLv, if_neg (fun z => z.elim n5 n40), pCmp, hr_91]; exact (if_pos (Or.inr (Or.inr e62))).trans (by rw [pCmp2, hr_162])) (by omega) b2_162 (by omega) (ln3 _ _ _ _) (cd3T _ _ _ _ _ _ (by rw [e62]; decide)), hv_162, fun _ => rfl⟩)
              · refine g_if_ne (tgt := 170) C dX10_one_165 (by decide) (fun c165 => absurd c165 (by decide)) (fun c165 => ?_)
                refine g_iconst (v := nI 0) C dX10_one_168 (by decide) ?_
                exact g_zret C Rt dX10_one_169 (by decide) (by decide) (by decide) (⟨false, _, _, _, _, _, _, _, rfl, rfl, rdT_er (by rw [pLv, if_neg (fun z => z.elim n5 n40), pCmp, hr_91]; exact (if_pos (Or.inr (Or.inr e62))).trans (by rw [pCmp2, hr_162])) (by omega) (b2_162) (by omega) (b4_162), hv_162, fun z => absurd z (by decide)⟩)
          · have e61 := (tq61 (hK _ b2_91)).mp c120
            refine g_sipush (v := nI 2003) C dX10_one_123 (by decide) ?_
            refine g_goto (tgt := 145) C dX10_one_126 (by decide) ?_
            refine g_istore_n C dX10_one_145 (by decide) rfl (ll' := [some (.ref h), some (.int (nI 2003))]) rfl ?_
            refine g_iload_n C dX10_one_146 rfl ?_
            refine g_iconst (v := -1) C dX10_one_147 (by decide) ?_
            refine g_icmp_ne (tgt := 157) C dX10_one_148 (by decide) (fun c148 => ?_) (fun c148 => absurd c148 (by decide))
            have hn7 := not_end hend b2_91 e61 (by decide)
            refine g_aload_n C dX10_one_157 rfl ?_
            refine g_callV C (c_X10_nextT E h ad (upd (upd (upd (upd iv 7 (nI (us + C_91.length))) 23 wr) 24 wa) 26 (nI 6)) n cn j_91 en ks ps t (tkT (ks j_91)) (ps j_91) vl2_91 (by omega) (hb) (hL) (hn7)) gX10_one_X10_next0 rfl 0 (by decide +kernel) ⟨by decide, by decide⟩ ⟨by decide, by decide⟩ 0 rfl rfl [0, 2] [1] (wr := [gA E (ad 15) 620 (cdW fr us (C_91.map trJ))]) rfl (by decide) rfl (by decide) (by decide) rfl rfl (Nat.le_of_ble_eq_true rfl) dX10_one_158 ?_
            rintro _ _ ⟨vl2_158, rfl, rfl, hv_158⟩
            refine gg.perm (ws' := [gO h 10 (tF ad (upd (upd (upd (upd (upd (upd (upd (upd (upd iv 7 (nI (us + C_91.length))) 18 (nI n)) 19 (nI (en (j_91 + 1)))) 20 (tkT (ks (j_91 + 1)))) 21 (ps (j_91 + 1))) 22 vl2_158) 23 wr) 24 wa) 26 (nI 6))), gA E (ad 15) 620 (cdW fr us (C_91.map trJ)), gA E (ad 17) 600 t]) [1, 0, 2] (by decide) rfl ?_
            show gg E _ 2 X 0 0 161 [some (.ref h), some (.int (nI 2003))] [] [gO h 10 (tF ad (upd (upd (upd (upd (upd (upd (upd (upd (upd iv 7 (nI (us + C_91.length))) 18 (nI n)) 19 (nI (en (j_91 + 1)))) 20 (tkT (ks (j_91 + 1)))) 21 (ps (j_91 + 1))) 22 vl2_158) 23 wr) 24 wa) 26 (nI 6))), gA E (ad 15) 620 (cdW fr us (C_91.map trJ)), gA E (ad 17) 600 t]
            refine g_aload_n C dX10_one_161 rfl ?_
            refine g_callV C (c_X10_sum E h ad (upd iv 26 (nI 6)) n cn (us + C_91.length) (j_91 + 1) en ks ps (cdW fr us (C_91.map trJ)) t vl2_158 wr wa (by omega) (hb) (hL) (hK) (hend) (by omega) (by omega) (hv_158) (by omega)) gX10_one_X10_sum rfl 0 (by decide +kernel) ⟨by decide, by decide⟩ ⟨by decide, by decide⟩ 0 rfl rfl [0, 1, 2] [] (wr := []) rfl (by decide) rfl (by decide) (by decide) rfl rfl (Nat.le_of_ble_eq_true rfl) dX10_one_162 ?_
            rintro _ _ ⟨ok_162, j_162, us2_162, fr2_162, vl2_162, wr2_162, wa2_162, rfl, rfl, hq_162, hv_162⟩
            show gg E _ 2 X 0 0 165 [some (.ref h), some (.int (nI 2003))] [.int (b2i ok_162)] [gO h 10 (tF ad (upd (upd (upd (upd (upd (upd (upd (upd (upd iv 7 (nI us2_162)) 18 (nI n)) 19 (nI (en j_162))) 20 (tkT (ks j_162))) 21 (ps j_162)) 22 vl2_162) 23 wr2_162) 24 wa2_162) 26 (nI 6))), gA E (ad 15) 620 fr2_162, gA E (ad 17) 600 t]
            rcases rdT_two hq_162 with ⟨C_162, hr_162, rfl, rfl, rfl, rfl, rfl, b1_162, b2_162, b3_162⟩ | ⟨kd_162, ix_162, hr_162, rfl, rfl, rfl, b1_162, b2_162, b3_162, b4_162⟩
            · refine g_if_ne (tgt := 170) C dX10_one_165 (by decide) (fun c165 => ?_) (fun c165 => absurd c165 (by decide))
              refine g_aload_n C dX10_one_170 rfl ?_
              refine g_iload_n C dX10_one_171 rfl ?_
              refine g_callV C (c_X10_lay E h ad (upd (upd (upd (upd (upd (upd (upd (upd iv 18 (nI n)) 19 (nI (en j_162))) 20 (tkT (ks j_162))) 21 (ps j_162)) 22 vl2_162) 23 wr) 24 wa) 26 (nI 6)) (us + C_91.length + C_162.length) (cdW (cdW fr us (C_91.map trJ)) (us + C_91.length) (C_162.map trJ)) (nI 2003) (by omega)) gX10_one_X10_lay rfl 1 (by decide +kernel) ⟨by decide, by decide⟩ ⟨by decide, by decide⟩ 0 rfl rfl [0, 1] [2] (wr := [gA E (ad 17) 600 t]) rfl (by decide) rfl (by decide) (by decide) rfl rfl (Nat.le_of_ble_eq_true rfl) dX10_one_172 ?_
              rintro _ _ ⟨rfl, rfl⟩
              refine gg.perm (ws' := [gO h 10 (tF ad (upd (upd (upd (upd (upd (upd (upd (upd (upd iv 7 (nI ((us + C_91.length + C_162.length) + 1))) 18 (nI n)) 19 (nI (en j_162))) 20 (tkT (ks j_162))) 21 (ps j_162)) 22 vl2_162) 23 wr) 24 wa) 26 (nI 6))), gA E (ad 15) 620 (upd (cdW (cdW fr us (C_91.map trJ)) (us + C_91.length) (C_162.map trJ)) (us + C_91.length + C_162.length) (nI 2003)), gA E (ad 17) 600 t]) [1, 2, 0] (by decide) rfl ?_
              show gg E _ 2 X 0 0 175 [some (.ref h), some (.int (nI 2003))] [] [gO h 10 (tF ad (upd (upd (upd (upd (upd (upd (upd (upd (upd iv 7 (nI ((us + C_91.length + C_162.length) + 1))) 18 (nI n)) 19 (nI (en j_162))) 20 (tkT (ks j_162))) 21 (ps j_162)) 22 vl2_162) 23 wr) 24 wa) 26 (nI 6))), gA E (ad 15) 620 (upd (cdW (cdW fr us (C_91.map trJ)) (us + C_91.length) (C_162.map trJ)) (us + C_91.length + C_162.length) (nI 2003)), gA E (ad 17) 600 t]
              refine g_iconst (v := nI 1) C dX10_one_175 (by decide) ?_
              exact g_zret C Rt dX10_one_176 (by decide) (by decide) (by decide) (⟨true, _, _, _, _, _, _, _, rfl, rfl, rdT_ok (by rw [pLv, if_neg (fun z => z.elim n5 n40), pCmp, hr_91]; exact (if_pos (Or.inr (Or.inl e61))).trans (by rw [pCmp2, hr_162])) (by omega) b2_162 (by omega) (ln3 _ _ _ _) (cd3T _ _ _ _ _ _ (by rw [e61]; decide)), hv_162, fun _ => rfl⟩)
            · refine g_if_ne (tgt := 170) C dX10_one_165 (by decide) (fun c165 => absurd c165 (by decide)) (fun c165 => ?_)
              refine g_iconst (v := nI 0) C dX10_one_168 (by decide) ?_
              exact g_zret C Rt dX10_one_169 (by decide) (by decide) (by decide) (⟨false, _, _, _, _, _, _, _, rfl, rfl, rdT_er (by rw [pLv, if_neg (fun z => z.elim n5 n40), pCmp, hr_91]; exact (if_pos (Or.inr (Or.inl e61))).trans (by rw [pCmp2, hr_162])) (by omega) (b2_162) (by omega) (b4_162), hv_162, fun z => absurd z (by decide)⟩)
        · have e60 := (tq60 (hK _ b2_91)).mp c105
          refine g_sipush (v := nI 2002) C dX10_one_108 (by decide) ?_
          refine g_goto (tgt := 145) C dX10_one_111 (by decide) ?_
          refine g_istore_n C dX10_one_145 (by decide) rfl (ll' := [some (.ref h), some (.int (nI 2002))]) rfl ?_
          refine g_iload_n C dX10_one_146 rfl ?_
          refine g_iconst (v := -1) C dX10_one_147 (by decide) ?_
          refine g_icmp_ne (tgt := 157) C dX10_one_148 (by decide) (fun c148 => ?_) (fun c148 => absurd c148 (by decide))
          have hn7 := not_end hend b2_91 e60 (by decide)
          refine g_aload_n C dX10_one_157 rfl ?_
          refine g_callV C (c_X10_nextT E h ad (upd (upd (upd (upd iv 7 (nI (us + C_91.length))) 23 wr) 24 wa) 26 (nI 6)) n cn j_91 en ks ps t (tkT (ks j_91)) (ps j_91) vl2_91 (by omega) (hb) (hL) (hn7)) gX10_one_X10_next0 rfl 0 (by decide +kernel) ⟨by decide, by decide⟩ ⟨by decide, by decide⟩ 0 rfl rfl [0, 2] [1] (wr := [gA E (ad 15) 620 (cdW fr us (C_91.map trJ))]) rfl (by decide) rfl (by decide) (by decide) rfl rfl (Nat.le_of_ble_eq_true rfl) dX10_one_158 ?_
          rintro _ _ ⟨vl2_158, rfl, rfl, hv_158⟩
          refine gg.perm (ws' := [gO h 10 (tF ad (upd (upd (upd (upd (upd (upd (upd (upd (upd iv 7 (nI (us + C_91.length))) 18 (nI n)) 19 (nI (en (j_91 + 1)))) 20 (tkT (ks (j_91 + 1)))) 21 (ps (j_91 + 1))) 22 vl2_158) 23 wr) 24 wa) 26 (nI 6))), gA E (ad 15) 620 (cdW fr us (C_91.map trJ)), gA E (ad 17) 600 t]) [1, 0, 2] (by decide) rfl ?_
          show gg E _ 2 X 0 0 161 [some (.ref h), some (.int (nI 2002))] [] [gO h 10 (tF ad (upd (upd (upd (upd (upd (upd (upd (upd (upd iv 7 (nI (us + C_91.length))) 18 (nI n)) 19 (nI (en (j_91 + 1)))) 20 (tkT (ks (j_91 + 1)))) 21 (ps (j_91 + 1))) 22 vl2_158) 23 wr) 24 wa) 26 (nI 6))), gA E (ad 15) 620 (cdW fr us (C_91.map trJ)), gA E (ad 17) 600 t]
          refine g_aload_n C dX10_one_161 rfl ?_
          refine g_callV C (c_X10_sum E h ad (upd iv 26 (nI 6)) n cn (us + C_91.length) (j_91 + 1) en ks ps (cdW fr us (C_91.map trJ)) t vl2_158 wr wa (by omega) (hb) (hL) (hK) (hend) (by omega) (by omega) (hv_158) (by omega)) gX10_one_X10_sum rfl 0 (by decide +kernel) ⟨by decide, by decide⟩ ⟨by decide, by decide⟩ 0 rfl rfl [0, 1, 2] [] (wr := []) rfl (by decide) rfl (by decide) (by decide) rfl rfl (Nat.le_of_ble_eq_true rfl) dX10_one_162 ?_
          rintro _ _ ⟨ok_162, j_162, us2_162, fr2_162, vl2_162, wr2_162, wa2_162, rfl, rfl, hq_162, hv_162⟩
          show gg E _ 2 X 0 0 165 [some (.ref h), some (.int (nI 2002))] [.int (b2i ok_162)] [gO h 10 (tF ad (upd (upd (upd (upd (upd (upd (upd (upd (upd iv 7 (nI us2_162)) 18 (nI n)) 19 (nI (en j_162))) 20 (tkT (ks j_162))) 21 (ps j_162)) 22 vl2_162) 23 wr2_162) 24 wa2_162) 26 (nI 6))), gA E (ad 15) 620 fr2_162, gA E (ad 17) 600 t]
          rcases rdT_two hq_162 with ⟨C_162, hr_162, rfl, rfl, rfl, rfl, rfl, b1_162, b2_162, b3_162⟩ | ⟨kd_162, ix_162, hr_162, rfl, rfl, rfl, b1_162, b2_162, b3_162, b4_162⟩
          · refine g_if_ne (tgt := 170) C dX10_one_165 (by decide) (fun c165 => ?_) (fun c165 => absurd c165 (by decide))
            refine g_aload_n C dX10_one_170 rfl ?_
            refine g_iload_n C dX10_one_171 rfl ?_
            refine g_callV C (c_X10_lay E h ad (upd (upd (upd (upd (upd (upd (upd (upd iv 18 (nI n)) 19 (nI (en j_162))) 20 (tkT (ks j_162))) 21 (ps j_162)) 22 vl2_162) 23 wr) 24 wa) 26 (nI 6)) (us + C_91.length + C_162.length) (cdW (cdW fr us (C_91.map trJ)) (us + C_91.length) (C_162.map trJ)) (nI 2002) (by omega)) gX10_one_X10_lay rfl 1 (by decide +kernel) ⟨by decide, by decide⟩ ⟨by decide, by decide⟩ 0 rfl rfl [0, 1] [2] (wr := [gA E (ad 17) 600 t]) rfl (by decide) rfl (by decide) (by decide) rfl rfl (Nat.le_of_ble_eq_true rfl) dX10_one_172 ?_
            rintro _ _ ⟨rfl, rfl⟩
            refine gg.perm (ws' := [gO h 10 (tF ad (upd (upd (upd (upd (upd (upd (upd (upd (upd iv 7 (nI ((us + C_91.length + C_162.length) + 1))) 18 (nI n)) 19 (nI (en j_162))) 20 (tkT (ks j_162))) 21 (ps j_162)) 22 vl2_162) 23 wr) 24 wa) 26 (nI 6))), gA E (ad 15) 620 (upd (cdW (cdW fr us (C_91.map trJ)) (us + C_91.length) (C_162.map trJ)) (us + C_91.length + C_162.length) (nI 2002)), gA E (ad 17) 600 t]) [1, 2, 0] (by decide) rfl ?_
            show gg E _ 2 X 0 0 175 [some (.ref h), some (.int (nI 2002))] [] [gO h 10 (tF ad (upd (upd (upd (upd (upd (upd (upd (upd (upd iv 7 (nI ((us + C_91.length + C_162.length) + 1))) 18 (nI n)) 19 (nI (en j_162))) 20 (tkT (ks j_162))) 21 (ps j_162)) 22 vl2_162) 23 wr) 24 wa) 26 (nI 6))), gA E (ad 15) 620 (upd (cdW (cdW fr us (C_91.map trJ)) (us + C_91.length) (C_162.map trJ)) (us + C_91.length + C_162.length) (nI 2002)), gA E (ad 17) 600 t]
            refine g_iconst (v := nI 1) C dX10_one_175 (by decide) ?_
            exact g_zret C Rt dX10_one_176 (by decide) (by decide) (by decide) (⟨true, _, _, _, _, _, _, _, rfl, rfl, rdT_ok (by rw [pLv, if_neg (fun z => z.elim n5 n40), pCmp, hr_91]; exact (if_pos (Or.inl e60)).trans (by rw [pCmp2, hr_162])) (by omega) b2_162 (by omega) (ln3 _ _ _ _) (cd3T _ _ _ _ _ _ (by rw [e60]; decide)), hv_162, fun _ => rfl⟩)
          · refine g_if_ne (tgt := 170) C dX10_one_165 (by decide) (fun c165 => absurd c165 (by decide)) (fun c165 => ?_)
            refine g_iconst (v := nI 0) C dX10_one_168 (by decide) ?_
            exact g_zret C Rt dX10_one_169 (by decide) (by decide) (by decide) (⟨false, _, _, _, _, _, _, _, rfl, rfl, rdT_er (by rw [pLv, if_neg (fun z => z.elim n5 n40), pCmp, hr_91]; exact (if_pos (Or.inl e60)).trans (by rw [pCmp2, hr_162])) (by omega) (b2_162) (by omega) (b4_162), hv_162, fun z => absurd z (by decide)⟩)
      · refine g_if_ne (tgt := 99) C dX10_one_94 (by decide) (fun c94 => absurd c94 (by decide)) (fun c94 => ?_)
        refine g_iconst (v := nI 0) C dX10_one_97 (by decide) ?_
        exact g_zret C Rt dX10_one_98 (by decide) (by decide) (by decide) (⟨false, _, _, _, _, _, _, _, rfl, rfl, rdT_er (by rw [pLv, if_neg (fun z => z.elim n5 n40), pCmp, hr_91]) (by omega) (b2_91) (by omega) (b4_91), hv_91, fun z => absurd z (by decide)⟩)
    · have e40 := (tq40 (hK i hi)).mp c50
      have hn8 := not_end hend hi e40 (by decide)
      refine g_aload_n C dX10_one_53 rfl ?_
      refine g_callV C (c_X10_opens_6 E h ad (upd iv 7 (nI us)) n cn i en ks ps t vl wr wa (by omega) (hb) (hL) (hn8)) gX10_one_X10_opens rfl 0 (by decide +kernel) ⟨by decide, by decide⟩ ⟨by decide, by decide⟩ 0 rfl rfl [0, 2] [1] (wr := [gA E (ad 15) 620 fr]) rfl (by decide) rfl (by decide) (by decide) rfl rfl (Nat.le_of_ble_eq_true rfl) dX10_one_54 ?_
      rintro _ _ ⟨vl2_54, rfl, rfl, hv_54⟩
      refine gg.perm (ws' := [gO h 10 (tF ad (upd (upd (upd (upd (upd (upd (upd (upd (upd iv 7 (nI us)) 18 (nI n)) 19 (nI (en (i + 1)))) 20 (tkT (ks (i + 1)))) 21 (ps (i + 1))) 22 vl2_54) 23 wr) 24 wa) 26 (nI 7))), gA E (ad 15) 620 fr, gA E (ad 17) 600 t]) [1, 0, 2] (by decide) rfl ?_
      show gg E _ 2 X 0 0 57 [some (.ref h), none] [.int (nI 1)] [gO h 10 (tF ad (upd (upd (upd (upd (upd (upd (upd (upd (upd iv 7 (nI us)) 18 (nI n)) 19 (nI (en (i + 1)))) 20 (tkT (ks (i + 1)))) 21 (ps (i + 1))) 22 vl2_54) 23 wr) 24 wa) 26 (nI 7))), gA E (ad 15) 620 fr, gA E (ad 17) 600 t]
      refine g_if_eq (tgt := 76) C dX10_one_57 (by decide) (fun c57 => absurd c57 (by decide)) (fun c57 => ?_)
      refine g_aload_n C dX10_one_60 rfl ?_
      refine g_callV C (c_X10_any_1 E h ad iv n cn us (i + 1) en ks ps fr t vl2_54 wr wa (by omega) (hb) (hL) (hK) (hend) (by omega) (by omega) (hv_54) (by omega)) gX10_one_X10_any rfl 0 (by decide +kernel) ⟨by decide, by decide⟩ ⟨by decide, by decide⟩ 0 rfl rfl [0, 1, 2] [] (wr := []) rfl (by decide) rfl (by decide) (by decide) rfl rfl (Nat.le_of_ble_eq_true rfl) dX10_one_61 ?_
      rintro _ _ ⟨ok_61, j_61, us2_61, fr2_61, vl2_61, wr2_61, wa2_61, dp2_61, rfl, rfl, hq_61, hv_61, hd_61⟩
      show gg E _ 2 X 0 0 64 [some (.ref h), none] [.int (b2i ok_61)] [gO h 10 (tF ad (upd (upd (upd (upd (upd (upd (upd (upd (upd iv 7 (nI us2_61)) 18 (nI n)) 19 (nI (en j_61))) 20 (tkT (ks j_61))) 21 (ps j_61)) 22 vl2_61) 23 wr2_61) 24 wa2_61) 26 dp2_61)), gA E (ad 15) 620 fr2_61, gA E (ad 17) 600 t]
      rcases rdT_two hq_61 with ⟨C_61, hr_61, rfl, rfl, rfl, rfl, rfl, b1_61, b2_61, b3_61⟩ | ⟨kd_61, ix_61, hr_61, rfl, rfl, rfl, b1_61, b2_61, b3_61, b4_61⟩
      · obtain rfl := hd_61 rfl
        refine g_if_eq (tgt := 76) C dX10_one_64 (by decide) (fun c64 => absurd c64 (by decide)) (fun c64 => ?_)
        skip
        refine g_aload_n C dX10_one_67 rfl ?_
        rcases Classical.em (ks j_61 = nI 1141) with hx | hx
        · refine g_bipush (v := nI 41) C dX10_one_68 (by decide) ?_
          refine g_callV C (c_X10_need_y E h ad (upd (upd iv 7 (nI (us + C_61.length))) 26 (nI 7)) n cn j_61 41 en ks ps t vl2_61 wr wa (by omega) (hb) (hL) (not_end hend b2_61 hx (by decide)) ((tq41 (hK _ b2_61)).mpr hx)) gX10_one_X10_need rfl 1 (by decide +kernel) ⟨by decide, by decide⟩ ⟨by decide, by decide⟩ 0 rfl rfl [0, 2] [1] (wr := [gA E (ad 15) 620 (cdW fr us (C_61.map trJ))]) rfl (by decide) rfl (by decide) (by decide) rfl rfl (Nat.le_of_ble_eq_true rfl) dX10_one_70 ?_
          rintro _ _ ⟨vl2_70, rfl, rfl, hv_70⟩
          refine gg.perm (ws' := [gO h 10 (tF ad (upd (upd (upd (upd (upd (upd (upd (upd (upd iv 7 (nI (us + C_61.length))) 18 (nI n)) 19 (nI (en (j_61 + 1)))) 20 (tkT (ks (j_61 + 1)))) 21 (ps (j_61 + 1))) 22 vl2_70) 23 wr) 24 wa) 26 (nI 7))), gA E (ad 15) 620 (cdW fr us (C_61.map trJ)), gA E (ad 17) 600 t]) [1, 0, 2] (by decide) rfl ?_
          show gg E _ 2 X 0 0 73 [some (.ref h), none] [.int (nI 1)] [gO h 10 (tF ad (upd (upd (upd (upd (upd (upd (upd (upd (upd iv 7 (nI (us + C_61.length))) 18 (nI n)) 19 (nI (en (j_61 + 1)))) 20 (tkT (ks (j_61 + 1)))) 21 (ps (j_61 + 1))) 22 vl2_70) 23 wr) 24 wa) 26 (nI 7))), gA E (ad 15) 620 (cdW fr us (C_61.map trJ)), gA E (ad 17) 600 t]
          refine g_if_ne (tgt := 78) C dX10_one_73 (by decide) (fun c73 => ?_) (fun c73 => absurd c73 (by decide))
          have hn9 := not_end hend b2_61 hx (by decide)
          refine g_aload_n C dX10_one_78 rfl ?_
          refine g_dup C dX10_one_79 rfl ?_
          refine g_get C i_X10 0 26 f_188 rfl rfl (by decide) rfl rfl dX10_one_80 ?_
          show gg E _ 2 X 0 0 83 [some (.ref h), none] [.int (nI 7), .ref h] [gO h 10 (tF ad (upd (upd (upd (upd (upd (upd (upd (upd (upd iv 7 (nI (us + C_61.length))) 18 (nI n)) 19 (nI (en (j_61 + 1)))) 20 (tkT (ks (j_61 + 1)))) 21 (ps (j_61 + 1))) 22 vl2_70) 23 wr) 24 wa) 26 (nI 7))), gA E (ad 15) 620 (cdW fr us (C_61.map trJ)), gA E (ad 17) 600 t]
          refine g_iconst (v := nI 1) C dX10_one_83 (by decide) ?_
          refine g_isub C dX10_one_84 (g_top (x' := nI 6) (by decide) ?_)
          refine g_put C i_X10 tyX10 tyX10_ok nmX10 0 26 f_188 rfl rfl (by decide) rfl rfl rfl rfl rfl (Nat.le_of_ble_eq_true rfl) dX10_one_85 (ws' := [gO h 10 (tF ad (upd (upd (upd (upd (upd (upd (upd (upd (upd iv 7 (nI (us + C_61.length))) 18 (nI n)) 19 (nI (en (j_61 + 1)))) 20 (tkT (ks (j_61 + 1)))) 21 (ps (j_61 + 1))) 22 vl2_70) 23 wr) 24 wa) 26 (nI 6))), gA E (ad 15) 620 (cdW fr us (C_61.map trJ)), gA E (ad 17) 600 t]) rfl ?_
          refine g_iconst (v := nI 1) C dX10_one_88 (by decide) ?_
          exact g_zret C Rt dX10_one_89 (by decide) (by decide) (by decide) (⟨true, _, _, _, _, _, _, _, rfl, rfl, rdT_ok (by rw [pLv, if_pos (Or.inr e40), if_neg n5, hr_61]; exact if_pos hx) (by omega) hn9 (by omega) rfl rfl, hv_70, fun _ => rfl⟩)
        · refine g_bipush (v := nI 41) C dX10_one_68 (by decide) ?_
          refine g_callV C (c_X10_need_n E h ad (upd (upd iv 7 (nI (us + C_61.length))) 26 (nI 7)) n cn j_61 41 en ks ps t vl2_61 wr wa (fun z => hx ((tq41 (hK _ b2_61)).mp z))) gX10_one_X10_need rfl 1 (by decide +kernel) ⟨by decide, by decide⟩ ⟨by decide, by decide⟩ 0 rfl rfl [0, 2] [1] (wr := [gA E (ad 15) 620 (cdW fr us (C_61.map trJ))]) rfl (by decide) rfl (by decide) (by decide) rfl rfl (Nat.le_of_ble_eq_true rfl) dX10_one_70 ?_
          rintro _ _ ⟨rfl, rfl⟩
          refine gg.perm (ws' := [gO h 10 (tF ad (upd (upd (upd (upd (upd (upd (upd (upd (upd iv 7 (nI (us + C_61.length))) 18 (nI n)) 19 (nI (en j_61))) 20 (tkT (ks j_61))) 21 (ps j_61)) 22 vl2_61) 23 (nI 1)) 24 (ps j_61)) 26 (nI 7))), gA E (ad 15) 620 (cdW fr us (C_61.map trJ)), gA E (ad 17) 600 t]) [1, 0, 2] (by decide) rfl ?_
          show gg E _ 2 X 0 0 73 [some (.ref h), none] [.int (nI 0)] [gO h 10 (tF ad (upd (upd (upd (upd (upd (upd (upd (upd (upd iv 7 (nI (us + C_61.length))) 18 (nI n)) 19 (nI (en j_61))) 20 (tkT (ks j_61))) 21 (ps j_61)) 22 vl2_61) 23 (nI 1)) 24 (ps j_61)) 26 (nI 7))), gA E (ad 15) 620 (cdW fr us (C_61.map trJ)), gA E (ad 17) 600 t]
          refine g_if_ne (tgt := 78) C dX10_one_73 (by decide) (fun c73 => absurd c73 (by decide)) (fun c73 => ?_)
          refine g_iconst (v := nI 0) C dX10_one_76 (by decide) ?_
          exact g_zret C Rt dX10_one_77 (by decide) (by decide) (by decide) (⟨false, _, _, _, _, _, _, _, rfl, rfl, rdT_er (by rw [pLv, if_pos (Or.inr e40), if_neg n5, hr_61]; exact if_neg hx) (by omega) (b2_61) (by omega) (b2_61), hv_61, fun z => absurd z (by decide)⟩)
      · refine g_if_eq (tgt := 76) C dX10_one_64 (by decide) (fun c64 => ?_) (fun c64 => absurd c64 (by decide))
        refine g_iconst (v := nI 0) C dX10_one_76 (by decide) ?_
        exact g_zret C Rt dX10_one_77 (by decide) (by decide) (by decide) (⟨false, _, _, _, _, _, _, _, rfl, rfl, rdT_er (by rw [pLv, if_pos (Or.inr e40), if_neg n5, hr_61]; rfl) (by omega) (b2_61) (by omega) (b4_61), hv_61, fun z => absurd z (by decide)⟩)
  · have e5 := (tq8 (hK i hi)).mp c6
    have hn8 := not_end hend hi e5 (by decide)
    refine g_aload_n C dX10_one_9 rfl ?_
    refine g_callV C (c_X10_opens_6 E h ad (upd iv 7 (nI us)) n cn i en ks ps t vl wr wa (by omega) (hb) (hL) (hn8)) gX10_one_X10_opens rfl 0 (by decide +kernel) ⟨by decide, by decide⟩ ⟨by decide, by decide⟩ 0 rfl rfl [0, 2] [1] (wr := [gA E (ad 15) 620 fr]) rfl (by decide) rfl (by decide) (by decide) rfl rfl (Nat.le_of_ble_eq_true rfl) dX10_one_10 ?_
    rintro _ _ ⟨vl2_10, rfl, rfl, hv_10⟩
    refine gg.perm (ws' := [gO h 10 (tF ad (upd (upd (upd (upd (upd (upd (upd (upd (upd iv 7 (nI us)) 18 (nI n)) 19 (nI (en (i + 1)))) 20 (tkT (ks (i + 1)))) 21 (ps (i + 1))) 22 vl2_10) 23 wr) 24 wa) 26 (nI 7))), gA E (ad 15) 620 fr, gA E (ad 17) 600 t]) [1, 0, 2] (by decide) rfl ?_
    show gg E _ 2 X 0 0 13 [some (.ref h), none] [.int (nI 1)] [gO h 10 (tF ad (upd (upd (upd (upd (upd (upd (upd (upd (upd iv 7 (nI us)) 18 (nI n)) 19 (nI (en (i + 1)))) 20 (tkT (ks (i + 1)))) 21 (ps (i + 1))) 22 vl2_10) 23 wr) 24 wa) 26 (nI 7))), gA E (ad 15) 620 fr, gA E (ad 17) 600 t]
    refine g_if_eq (tgt := 23) C dX10_one_13 (by decide) (fun c13 => absurd c13 (by decide)) (fun c13 => ?_)
    refine g_aload_n C dX10_one_16 rfl ?_
    refine g_callV C (c_X10_one_1 E h ad iv n cn us (i + 1) en ks ps fr t vl2_10 wr wa (by omega) (hb) (hL) (hK) (hend) (by omega) (by omega) (hv_10) (by omega)) gX10_one_X10_one rfl 0 (by decide +kernel) ⟨by decide, by decide⟩ ⟨by decide, by decide⟩ 0 rfl rfl [0, 1, 2] [] (wr := []) rfl (by decide) rfl (by decide) (by decide) rfl rfl (Nat.le_of_ble_eq_true rfl) dX10_one_17 ?_
    rintro _ _ ⟨ok_17, j_17, us2_17, fr2_17, vl2_17, wr2_17, wa2_17, dp2_17, rfl, rfl, hq_17, hv_17, hd_17⟩
    show gg E _ 2 X 0 0 20 [some (.ref h), none] [.int (b2i ok_17)] [gO h 10 (tF ad (upd (upd (upd (upd (upd (upd (upd (upd (upd iv 7 (nI us2_17)) 18 (nI n)) 19 (nI (en j_17))) 20 (tkT (ks j_17))) 21 (ps j_17)) 22 vl2_17) 23 wr2_17) 24 wa2_17) 26 dp2_17)), gA E (ad 15) 620 fr2_17, gA E (ad 17) 600 t]
    rcases rdT_two hq_17 with ⟨C_17, hr_17, rfl, rfl, rfl, rfl, rfl, b1_17, b2_17, b3_17⟩ | ⟨kd_17, ix_17, hr_17, rfl, rfl, rfl, b1_17, b2_17, b3_17, b4_17⟩
    · obtain rfl := hd_17 rfl
      refine g_if_ne (tgt := 25) C dX10_one_20 (by decide) (fun c20 => ?_) (fun c20 => absurd c20 (by decide))
      refine g_aload_n C dX10_one_25 rfl ?_
      refine g_dup C dX10_one_26 rfl ?_
      refine g_get C i_X10 0 26 f_188 rfl rfl (by decide) rfl rfl dX10_one_27 ?_
      show gg E _ 2 X 0 0 30 [some (.ref h), none] [.int (nI 7), .ref h] [gO h 10 (tF ad (upd (upd (upd (upd (upd (upd (upd (upd (upd iv 7 (nI (us + C_17.length))) 18 (nI n)) 19 (nI (en j_17))) 20 (tkT (ks j_17))) 21 (ps j_17)) 22 vl2_17) 23 wr) 24 wa) 26 (nI 7))), gA E (ad 15) 620 (cdW fr us (C_17.map trJ)), gA E (ad 17) 600 t]
      refine g_iconst (v := nI 1) C dX10_one_30 (by decide) ?_
      refine g_isub C dX10_one_31 (g_top (x' := nI 6) (by decide) ?_)
      refine g_put C i_X10 tyX10 tyX10_ok nmX10 0 26 f_188 rfl rfl (by decide) rfl rfl rfl rfl rfl (Nat.le_of_ble_eq_true rfl) dX10_one_32 (ws' := [gO h 10 (tF ad (upd (upd (upd (upd (upd (upd (upd (upd (upd iv 7 (nI (us + C_17.length))) 18 (nI n)) 19 (nI (en j_17))) 20 (tkT (ks j_17))) 21 (ps j_17)) 22 vl2_17) 23 wr) 24 wa) 26 (nI 6))), gA E (ad 15) 620 (cdW fr us (C_17.map trJ)), gA E (ad 17) 600 t]) rfl ?_
      refine g_aload_n C dX10_one_35 rfl ?_
      refine g_sipush (v := nI 2005) C dX10_one_36 (by decide) ?_
      refine g_callV C (c_X10_lay E h ad (upd (upd (upd (upd (upd (upd (upd (upd iv 18 (nI n)) 19 (nI (en j_17))) 20 (tkT (ks j_17))) 21 (ps j_17)) 22 vl2_17) 23 wr) 24 wa) 26 (nI 6)) (us + C_17.length) (cdW fr us (C_17.map trJ)) (nI 2005) (by omega)) gX10_one_X10_lay rfl 1 (by decide +kernel) ⟨by decide, by decide⟩ ⟨by decide, by decide⟩ 0 rfl rfl [0, 1] [2] (wr := [gA E (ad 17) 600 t]) rfl (by decide) rfl (by decide) (by decide) rfl rfl (Nat.le_of_ble_eq_true rfl) dX10_one_39 ?_
      rintro _ _ ⟨rfl, rfl⟩
      refine gg.perm (ws' := [gO h 10 (tF ad (upd (upd (upd (upd (upd (upd (upd (upd (upd iv 7 (nI ((us + C_17.length) + 1))) 18 (nI n)) 19 (nI (en j_17))) 20 (tkT (ks j_17))) 21 (ps j_17)) 22 vl2_17) 23 wr) 24 wa) 26 (nI 6))), gA E (ad 15) 620 (upd (cdW fr us (C_17.map trJ)) (us + C_17.length) (nI 2005)), gA E (ad 17) 600 t]) [1, 2, 0] (by decide) rfl ?_
      show gg E _ 2 X 0 0 42 [some (.ref h), none] [] [gO h 10 (tF ad (upd (upd (upd (upd (upd (upd (upd (upd (upd iv 7 (nI ((us + C_17.length) + 1))) 18 (nI n)) 19 (nI (en j_17))) 20 (tkT (ks j_17))) 21 (ps j_17)) 22 vl2_17) 23 wr) 24 wa) 26 (nI 6))), gA E (ad 15) 620 (upd (cdW fr us (C_17.map trJ)) (us + C_17.length) (nI 2005)), gA E (ad 17) 600 t]
      refine g_iconst (v := nI 1) C dX10_one_42 (by decide) ?_
      exact g_zret C Rt dX10_one_43 (by decide) (by decide) (by decide) (⟨true, _, _, _, _, _, _, _, rfl, rfl, rdT_ok (by rw [pLv, if_pos (Or.inl e5), if_pos e5, hr_17]; rfl) (by omega) b2_17 (by omega) (ln2 _ _ _) (cd2T _ _ _ _ _ (by decide)), hv_17, fun _ => rfl⟩)
    · refine g_if_ne (tgt := 25) C dX10_one_20 (by decide) (fun c20 => absurd c20 (by decide)) (fun c20 => ?_)
      refine g_iconst (v := nI 0) C dX10_one_23 (by decide) ?_
      exact g_zret C Rt dX10_one_24 (by decide) (by decide) (by decide) (⟨false, _, _, _, _, _, _, _, rfl, rfl, rdT_er (by rw [pLv, if_pos (Or.inl e5), if_pos e5, hr_17]; rfl) (by omega) (b2_17) (by omega) (b4_17), hv_17, fun z => absurd z (by decide)⟩)

abbrev rm_c_X10_all_2 : Room := { frames := 12, cells := 0, slots := 0, locals := 250 }
set_option maxHeartbeats 4000000 in
set_option maxRecDepth 100000 in
theorem c_X10_all_2 (E : gE) (h : Nat) (ad : Nat → Nat) (iv : Nat → Int32) (n cn us i : Nat) (en : Nat → Nat) (ks ps fr t : Nat → Int32) (vl wr wa : Int32) (hn : n ≤ 600) (hb : okY t n) (hL : twL t n cn ks ps en) (hK : ∀ q, q < cn → tkC (ks q)) (hend : ks (cn - 1) = nI 1011) (hcn : cn ≤ 601) (hi : i < cn) (hv : ¬ nI 999 < ks i → vl = ks i) (hus : us ≤ i) : MM E yX10_all wsX10_all rm_c_X10_all_2 [.ref h] [gO h 10 (tF ad (upd (upd (upd (upd (upd (upd (upd (upd (upd iv 7 (nI us)) 18 (nI n)) 19 (nI (en i))) 20 (tkT (ks i))) 21 (ps i)) 22 vl) 23 wr) 24 wa) 26 (nI 6))), gA E (ad 15) 620 fr, gA E (ad 17) 600 t] (fun rv_ ru_ => ∃ (ok : Bool) (j us2 : Nat) (fr2 : Nat → Int32) (vl2 wr2 wa2 dp2 : Int32), rv_ = some (.int (b2i ok)) ∧ ru_ = [gO h 10 (tF ad (upd (upd (upd (upd (upd (upd (upd (upd (upd iv 7 (nI us2)) 18 (nI n)) 19 (nI (en j))) 20 (tkT (ks j))) 21 (ps j)) 22 vl2) 23 wr2) 24 wa2) 26 dp2)), gA E (ad 15) 620 fr2, gA E (ad 17) 600 t] ∧ (rdQ (trR (pAll ks (pLv ks 2) i)) ps cn i us fr wr wa ok j us2 fr2 wr2 wa2) ∧ (¬ nI 999 < ks j → vl2 = ks j) ∧ (ok = true → dp2 = nI 6)) := by
  refine MM.ofG (cc := cX10_all) (maxL := 1) (ret := (some .boolean)) (by decide) rfl (Nat.le_of_ble_eq_true rfl) (ll := [some (.ref h)]) rfl ?_
  intro X C Rt
  have C : gx E X cX10_all 1 wsX10_all RX10 := C
  have i_X10 : ∀ w ∈ u_ws RX10 TX10 40, w ∈ wsX10_all := by decide +kernel
  have f_154 : Cond.fieldLink RX10 154 "MarkPagesModel" "token" "I" ∈ wsX10_all := by decide +kernel
  refine g_aload_n C dX10_all_0 rfl ?_
  refine g_callV C (c_X10_one_2 E h ad iv n cn us i en ks ps fr t vl wr wa (by omega) (hb) (hL) (hK) (hend) (by omega) (by omega) (hv) (by omega)) gX10_all_X10_one rfl 0 (by decide +kernel) ⟨by decide, by decide⟩ ⟨by decide, by decide⟩ 0 rfl rfl [0, 1, 2] [] (wr := []) rfl (by decide) rfl (by decide) (by decide) rfl rfl (Nat.le_of_ble_eq_true rfl) dX10_all_1 ?_
  rintro _ _ ⟨ok_1, j_1, us2_1, fr2_1, vl2_1, wr2_1, wa2_1, dp2_1, rfl, rfl, hq_1, hv_1, hd_1⟩
  show gg E _ 1 X 0 0 4 [some (.ref h)] [.int (b2i ok_1)] [gO h 10 (tF ad (upd (upd (upd (upd (upd (upd (upd (upd (upd iv 7 (nI us2_1)) 18 (nI n)) 19 (nI (en j_1))) 20 (tkT (ks j_1))) 21 (ps j_1)) 22 vl2_1) 23 wr2_1) 24 wa2_1) 26 dp2_1)), gA E (ad 15) 620 fr2_1, gA E (ad 17) 600 t]
  rcases rdT_two hq_1 with ⟨C_1, hr_1, rfl, rfl, rfl, rfl, rfl, b1_1, b2_1, b3_1⟩ | ⟨kd_1, ix_1, hr_1, rfl, rfl, rfl, b1_1, b2_1, b3_1, b4_1⟩
  · obtain rfl := hd_1 rfl
    refine g_if_ne (tgt := 9) C dX10_all_4 (by decide) (fun c4 => ?_) (fun c4 => absurd c4 (by decide))
    have L9 : ∀ (n9 : Nat) (it j1 f1 : Nat) (C1 : List Int32) (vl1 : Int32), cn - j1 < n9 → (j1 < cn) → (i + it ≤ j1) → (f1 + it = 601) → (C1.length + i ≤ j1) → (pAll ks (pLv ks 2) i = lpO ks (nI 1004) (pLv ks 2) f1 j1 C1) → (¬ nI 999 < ks j1 → vl1 = ks j1) → gg E rm_c_X10_all_2 1 X 0 0 9 [some (.ref h)] [] [gO h 10 (tF ad (upd (upd (upd (upd (upd (upd (upd (upd (upd iv 7 (nI (us + C1.length))) 18 (nI n)) 19 (nI (en j1))) 20 (tkT (ks j1))) 21 (ps j1)) 22 vl1) 23 wr) 24 wa) 26 (nI 6))), gA E (ad 15) 620 (cdW fr us (C1.map trJ)), gA E (ad 17) 600 t] := by
      intro n9
      induction n9 with
      | zero => intro it j1 f1 C1 vl1 hm9; exact absurd hm9 (Nat.not_lt_zero _)
      | succ n9 ih9 =>
        intro it j1 f1 C1 vl1 hm9 g1 g2 g3 g4 g5 hv1
        refine g_aload_n C dX10_all_9 rfl ?_
        refine g_get C i_X10 0 20 f_154 rfl rfl (by decide) rfl rfl dX10_all_10 ?_
        refine g_bipush (v := nI 7) C dX10_all_13 (by decide) ?_
        refine g_icmp_ne (tgt := 41) C dX10_all_15 (by decide) (fun c15 => ?_) (fun c15 => ?_)
        · refine g_iconst (v := nI 1) C dX10_all_41 (by decide) ?_
          exact g_zret C Rt dX10_all_42 (by decide) (by decide) (by decide) (⟨true, _, _, _, _, _, _, _, rfl, rfl, rdT_ok (by rw [g5, show f1 = f1 - 1 + 1 by omega, lpO, if_neg (fun z => c15 ((tq7 (hK _ g1)).mpr z))]) (by omega) g1 (by omega) rfl rfl, hv1, fun _ => rfl⟩)
        · have e15 := (tq7 (hK _ g1)).mp c15
          have hn7 := not_end hend g1 e15 (by decide)
          refine g_aload_n C dX10_all_18 rfl ?_
          refine g_callV C (c_X10_nextT E h ad (upd (upd (upd (upd iv 7 (nI (us + C1.length))) 23 wr) 24 wa) 26 (nI 6)) n cn j1 en ks ps t (tkT (ks j1)) (ps j1) vl1 (by omega) (hb) (hL) (hn7)) gX10_all_X10_next0 rfl 0 (by decide +kernel) ⟨by decide, by decide⟩ ⟨by decide, by decide⟩ 0 rfl rfl [0, 2] [1] (wr := [gA E (ad 15) 620 (cdW fr us (C1.map trJ))]) rfl (by decide) rfl (by decide) (by decide) rfl rfl (Nat.le_of_ble_eq_true rfl) dX10_all_19 ?_
          rintro _ _ ⟨vl2_19, rfl, rfl, hv_19⟩
          refine gg.perm (ws' := [gO h 10 (tF ad (upd (upd (upd (upd (upd (upd (upd (upd (upd iv 7 (nI (us + C1.length))) 18 (nI n)) 19 (nI (en (j1 + 1)))) 20 (tkT (ks (j1 + 1)))) 21 (ps (j1 + 1))) 22 vl2_19) 23 wr) 24 wa) 26 (nI 6))), gA E (ad 15) 620 (cdW fr us (C1.map trJ)), gA E (ad 17) 600 t]) [1, 0, 2] (by decide) rfl ?_
          show gg E _ 1 X 0 0 22 [some (.ref h)] [] [gO h 10 (tF ad (upd (upd (upd (upd (upd (upd (upd (upd (upd iv 7 (nI (us + C1.length))) 18 (nI n)) 19 (nI (en (j1 + 1)))) 20 (tkT (ks (j1 + 1)))) 21 (ps (j1 + 1))) 22 vl2_19) 23 wr) 24 wa) 26 (nI 6))), gA E (ad 15) 620 (cdW fr us (C1.map trJ)), gA E (ad 17) 600 t]
          refine g_aload_n C dX10_all_22 rfl ?_
          refine g_callV C (c_X10_one_2 E h ad iv n cn (us + C1.length) (j1 + 1) en ks ps (cdW fr us (C1.map trJ)) t vl2_19 wr wa (by omega) (hb) (hL) (hK) (hend) (by omega) (by omega) (hv_19) (by omega)) gX10_all_X10_one rfl 0 (by decide +kernel) ⟨by decide, by decide⟩ ⟨by decide, by decide⟩ 0 rfl rfl [0, 1, 2] [] (wr := []) rfl (by decide) rfl (by decide) (by decide) rfl rfl (Nat.le_of_ble_eq_true rfl) dX10_all_23 ?_
          rintro _ _ ⟨ok_23, j_23, us2_23, fr2_23, vl2_23, wr2_23, wa2_23, dp2_23, rfl, rfl, hq_23, hv_23, hd_23⟩
          show gg E _ 1 X 0 0 26 [some (.ref h)] [.int (b2i ok_23)] [gO h 10 (tF ad (upd (upd (upd (upd (upd (upd (upd (upd (upd iv 7 (nI us2_23)) 18 (nI n)) 19 (nI (en j_23))) 20 (tkT (ks j_23))) 21 (ps j_23)) 22 vl2_23) 23 wr2_23) 24 wa2_23) 26 dp2_23)), gA E (ad 15) 620 fr2_23, gA E (ad 17) 600 t]
          rcases rdT_two hq_23 with ⟨C_23, hr_23, rfl, rfl, rfl, rfl, rfl, b1_23, b2_23, b3_23⟩ | ⟨kd_23, ix_23, hr_23, rfl, rfl, rfl, b1_23, b2_23, b3_23, b4_23⟩
          · obtain rfl := hd_23 rfl
            refine g_if_ne (tgt := 31) C dX10_all_26 (by decide) (fun c26 => ?_) (fun c26 => absurd c26 (by decide))
            refine g_aload_n C dX10_all_31 rfl ?_
            refine g_sipush (v := nI 2006) C dX10_all_32 (by decide) ?_
            refine g_callV C (c_X10_lay E h ad (upd (upd (upd (upd (upd (upd (upd (upd iv 18 (nI n)) 19 (nI (en j_23))) 20 (tkT (ks j_23))) 21 (ps j_23)) 22 vl2_23) 23 wr) 24 wa) 26 (nI 6)) (us + C1.length + C_23.length) (cdW (cdW fr us (C1.map trJ)) (us + C1.length) (C_23.map trJ)) (nI 2006) (by omega)) gX10_all_X10_lay rfl 1 (by decide +kernel) ⟨by decide, by decide⟩ ⟨by decide, by decide⟩ 0 rfl rfl [0, 1] [2] (wr := [gA E (ad 17) 600 t]) rfl (by decide) rfl (by decide) (by decide) rfl rfl (Nat.le_of_ble_eq_true rfl) dX10_all_35 ?_
            rintro _ _ ⟨rfl, rfl⟩
            refine gg.perm (ws' := [gO h 10 (tF ad (upd (upd (upd (upd (upd (upd (upd (upd (upd iv 7 (nI ((us + C1.length + C_23.length) + 1))) 18 (nI n)) 19 (nI (en j_23))) 20 (tkT (ks j_23))) 21 (ps j_23)) 22 vl2_23) 23 wr) 24 wa) 26 (nI 6))), gA E (ad 15) 620 (upd (cdW (cdW fr us (C1.map trJ)) (us + C1.length) (C_23.map trJ)) (us + C1.length + C_23.length) (nI 2006)), gA E (ad 17) 600 t]) [1, 2, 0] (by decide) rfl ?_
            show gg E _ 1 X 0 0 38 [some (.ref h)] [] [gO h 10 (tF ad (upd (upd (upd (upd (upd (upd (upd (upd (upd iv 7 (nI ((us + C1.length + C_23.length) + 1))) 18 (nI n)) 19 (nI (en j_23))) 20 (tkT (ks j_23))) 21 (ps j_23)) 22 vl2_23) 23 wr) 24 wa) 26 (nI 6))), gA E (ad 15) 620 (upd (cdW (cdW fr us (C1.map trJ)) (us + C1.length) (C_23.map trJ)) (us + C1.length + C_23.length) (nI 2006)), gA E (ad 17) 600 t]
            rw [ln3 us C1 C_23 (nI 1004), cd3T fr us C1 C_23 (nI 1004) (nI 2006) (by decide)]
            refine g_goto (tgt := 9) C dX10_all_38 (by decide) ?_
            exact ih9 (it + 1) j_23 (f1 - 1) (C1 ++ C_23 ++ [nI 1004]) vl2_23 (by omega) (by omega) (by omega) (by omega) (by have := ln3 us C1 C_23 (nI 1004); omega) (by rw [g5, show f1 = f1 - 1 + 1 by omega, lpO, if_pos e15, hr_23]; rfl) (hv_23)
          · refine g_if_ne (tgt := 31) C dX10_all_26 (by decide) (fun c26 => absurd c26 (by decide)) (fun c26 => ?_)
            refine g_iconst (v := nI 0) C dX10_all_29 (by decide) ?_
            exact g_zret C Rt dX10_all_30 (by decide) (by decide) (by decide) (⟨false, _, _, _, _, _, _, _, rfl, rfl, rdT_er (by rw [g5, show f1 = f1 - 1 + 1 by omega, lpO, if_pos e15, hr_23]) (by omega) b2_23 (by omega) b4_23, hv_23, fun z => absurd z (by decide)⟩)
    exact L9 _ 0 j_1 601 C_1 vl2_1 (Nat.lt_succ_self _) (by omega) (by omega) (by omega) (by omega) (by rw [pAll, hr_1]; rfl) (hv_1)
  · refine g_if_ne (tgt := 9) C dX10_all_4 (by decide) (fun c4 => absurd c4 (by decide)) (fun c4 => ?_)
    refine g_iconst (v := nI 0) C dX10_all_7 (by decide) ?_
    exact g_zret C Rt dX10_all_8 (by decide) (by decide) (by decide) (⟨false, _, _, _, _, _, _, _, rfl, rfl, rdT_er (by rw [pAll, hr_1]; rfl) b1_1 b2_1 b3_1 b4_1, hv_1, fun z => absurd z (by decide)⟩)

abbrev rm_c_X10_any_2 : Room := { frames := 13, cells := 0, slots := 0, locals := 270 }
set_option maxHeartbeats 4000000 in
set_option maxRecDepth 100000 in
theorem c_X10_any_2 (E : gE) (h : Nat) (ad : Nat → Nat) (iv : Nat → Int32) (n cn us i : Nat) (en : Nat → Nat) (ks ps fr t : Nat → Int32) (vl wr wa : Int32) (hn : n ≤ 600) (hb : okY t n) (hL : twL t n cn ks ps en) (hK : ∀ q, q < cn → tkC (ks q)) (hend : ks (cn - 1) = nI 1011) (hcn : cn ≤ 601) (hi : i < cn) (hv : ¬ nI 999 < ks i → vl = ks i) (hus : us ≤ i) : MM E yX10_any wsX10_any rm_c_X10_any_2 [.ref h] [gO h 10 (tF ad (upd (upd (upd (upd (upd (upd (upd (upd (upd iv 7 (nI us)) 18 (nI n)) 19 (nI (en i))) 20 (tkT (ks i))) 21 (ps i)) 22 vl) 23 wr) 24 wa) 26 (nI 6))), gA E (ad 15) 620 fr, gA E (ad 17) 600 t] (fun rv_ ru_ => ∃ (ok : Bool) (j us2 : Nat) (fr2 : Nat → Int32) (vl2 wr2 wa2 dp2 : Int32), rv_ = some (.int (b2i ok)) ∧ ru_ = [gO h 10 (tF ad (upd (upd (upd (upd (upd (upd (upd (upd (upd iv 7 (nI us2)) 18 (nI n)) 19 (nI (en j))) 20 (tkT (ks j))) 21 (ps j)) 22 vl2) 23 wr2) 24 wa2) 26 dp2)), gA E (ad 15) 620 fr2, gA E (ad 17) 600 t] ∧ (rdQ (trR (pAny ks (pLv ks 2) i)) ps cn i us fr wr wa ok j us2 fr2 wr2 wa2) ∧ (¬ nI 999 < ks j → vl2 = ks j) ∧ (ok = true → dp2 = nI 6)) := by
  refine MM.ofG (cc := cX10_any) (maxL := 1) (ret := (some .boolean)) (by decide) rfl (Nat.le_of_ble_eq_true rfl) (ll := [some (.ref h)]) rfl ?_
  intro X C Rt
  have C : gx E X cX10_any 1 wsX10_any RX10 := C
  have i_X10 : ∀ w ∈ u_ws RX10 TX10 40, w ∈ wsX10_any := by decide +kernel
  have f_154 : Cond.fieldLink RX10 154 "MarkPagesModel" "token" "I" ∈ wsX10_any := by decide +kernel
  refine g_aload_n C dX10_any_0 rfl ?_
  refine g_callV C (c_X10_all_2 E h ad iv n cn us i en ks ps fr t vl wr wa (by omega) (hb) (hL) (hK) (hend) (by omega) (by omega) (hv) (by omega)) gX10_any_X10_all rfl 0 (by decide +kernel) ⟨by decide, by decide⟩ ⟨by decide, by decide⟩ 0 rfl rfl [0, 1, 2] [] (wr := []) rfl (by decide) rfl (by decide) (by decide) rfl rfl (Nat.le_of_ble_eq_true rfl) dX10_any_1 ?_
  rintro _ _ ⟨ok_1, j_1, us2_1, fr2_1, vl2_1, wr2_1, wa2_1, dp2_1, rfl, rfl, hq_1, hv_1, hd_1⟩
  show gg E _ 1 X 0 0 4 [some (.ref h)] [.int (b2i ok_1)] [gO h 10 (tF ad (upd (upd (upd (upd (upd (upd (upd (upd (upd iv 7 (nI us2_1)) 18 (nI n)) 19 (nI (en j_1))) 20 (tkT (ks j_1))) 21 (ps j_1)) 22 vl2_1) 23 wr2_1) 24 wa2_1) 26 dp2_1)), gA E (ad 15) 620 fr2_1, gA E (ad 17) 600 t]
  rcases rdT_two hq_1 with ⟨C_1, hr_1, rfl, rfl, rfl, rfl, rfl, b1_1, b2_1, b3_1⟩ | ⟨kd_1, ix_1, hr_1, rfl, rfl, rfl, b1_1, b2_1, b3_1, b4_1⟩
  · obtain rfl := hd_1 rfl
    refine g_if_ne (tgt := 9) C dX10_any_4 (by decide) (fun c4 => ?_) (fun c4 => absurd c4 (by decide))
    have L9 : ∀ (n9 : Nat) (it j1 f1 : Nat) (C1 : List Int32) (vl1 : Int32), cn - j1 < n9 → (j1 < cn) → (i + it ≤ j1) → (f1 + it = 601) → (C1.length + i ≤ j1) → (pAny ks (pLv ks 2) i = lpO ks (nI 1003) (pAll ks (pLv ks 2)) f1 j1 C1) → (¬ nI 999 < ks j1 → vl1 = ks j1) → gg E rm_c_X10_any_2 1 X 0 0 9 [some (.ref h)] [] [gO h 10 (tF ad (upd (upd (upd (upd (upd (upd (upd (upd (upd iv 7 (nI (us + C1.length))) 18 (nI n)) 19 (nI (en j1))) 20 (tkT (ks j1))) 21 (ps j1)) 22 vl1) 23 wr) 24 wa) 26 (nI 6))), gA E (ad 15) 620 (cdW fr us (C1.map trJ)), gA E (ad 17) 600 t] := by
      intro n9
      induction n9 with
      | zero => intro it j1 f1 C1 vl1 hm9; exact absurd hm9 (Nat.not_lt_zero _)
      | succ n9 ih9 =>
        intro it j1 f1 C1 vl1 hm9 g1 g2 g3 g4 g5 hv1
        refine g_aload_n C dX10_any_9 rfl ?_
        refine g_get C i_X10 0 20 f_154 rfl rfl (by decide) rfl rfl dX10_any_10 ?_
        refine g_bipush (v := nI 6) C dX10_any_13 (by decide) ?_
        refine g_icmp_ne (tgt := 41) C dX10_any_15 (by decide) (fun c15 => ?_) (fun c15 => ?_)
        · refine g_iconst (v := nI 1) C dX10_any_41 (by decide) ?_
          exact g_zret C Rt dX10_any_42 (by decide) (by decide) (by decide) (⟨true, _, _, _, _, _, _, _, rfl, rfl, rdT_ok (by rw [g5, show f1 = f1 - 1 + 1 by omega, lpO, if_neg (fun z => c15 ((tq6 (hK _ g1)).mpr z))]) (by omega) g1 (by omega) rfl rfl, hv1, fun _ => rfl⟩)
        · have e15 := (tq6 (hK _ g1)).mp c15
          have hn7 := not_end hend g1 e15 (by decide)
          refine g_aload_n C dX10_any_18 rfl ?_
          refine g_callV C (c_X10_nextT E h ad (upd (upd (upd (upd iv 7 (nI (us + C1.length))) 23 wr) 24 wa) 26 (nI 6)) n cn j1 en ks ps t (tkT (ks j1)) (ps j1) vl1 (by omega) (hb) (hL) (hn7)) gX10_any_X10_next0 rfl 0 (by decide +kernel) ⟨by decide, by decide⟩ ⟨by decide, by decide⟩ 0 rfl rfl [0, 2] [1] (wr := [gA E (ad 15) 620 (cdW fr us (C1.map trJ))]) rfl (by decide) rfl (by decide) (by decide) rfl rfl (Nat.le_of_ble_eq_true rfl) dX10_any_19 ?_
          rintro _ _ ⟨vl2_19, rfl, rfl, hv_19⟩
          refine gg.perm (ws' := [gO h 10 (tF ad (upd (upd (upd (upd (upd (upd (upd (upd (upd iv 7 (nI (us + C1.length))) 18 (nI n)) 19 (nI (en (j1 + 1)))) 20 (tkT (ks (j1 + 1)))) 21 (ps (j1 + 1))) 22 vl2_19) 23 wr) 24 wa) 26 (nI 6))), gA E (ad 15) 620 (cdW fr us (C1.map trJ)), gA E (ad 17) 600 t]) [1, 0, 2] (by decide) rfl ?_
          show gg E _ 1 X 0 0 22 [some (.ref h)] [] [gO h 10 (tF ad (upd (upd (upd (upd (upd (upd (upd (upd (upd iv 7 (nI (us + C1.length))) 18 (nI n)) 19 (nI (en (j1 + 1)))) 20 (tkT (ks (j1 + 1)))) 21 (ps (j1 + 1))) 22 vl2_19) 23 wr) 24 wa) 26 (nI 6))), gA E (ad 15) 620 (cdW fr us (C1.map trJ)), gA E (ad 17) 600 t]
          refine g_aload_n C dX10_any_22 rfl ?_
          refine g_callV C (c_X10_all_2 E h ad iv n cn (us + C1.length) (j1 + 1) en ks ps (cdW fr us (C1.map trJ)) t vl2_19 wr wa (by omega) (hb) (hL) (hK) (hend) (by omega) (by omega) (hv_19) (by omega)) gX10_any_X10_all rfl 0 (by decide +kernel) ⟨by decide, by decide⟩ ⟨by decide, by decide⟩ 0 rfl rfl [0, 1, 2] [] (wr := []) rfl (by decide) rfl (by decide) (by decide) rfl rfl (Nat.le_of_ble_eq_true rfl) dX10_any_23 ?_
          rintro _ _ ⟨ok_23, j_23, us2_23, fr2_23, vl2_23, wr2_23, wa2_23, dp2_23, rfl, rfl, hq_23, hv_23, hd_23⟩
          show gg E _ 1 X 0 0 26 [some (.ref h)] [.int (b2i ok_23)] [gO h 10 (tF ad (upd (upd (upd (upd (upd (upd (upd (upd (upd iv 7 (nI us2_23)) 18 (nI n)) 19 (nI (en j_23))) 20 (tkT (ks j_23))) 21 (ps j_23)) 22 vl2_23) 23 wr2_23) 24 wa2_23) 26 dp2_23)), gA E (ad 15) 620 fr2_23, gA E (ad 17) 600 t]
          rcases rdT_two hq_23 with ⟨C_23, hr_23, rfl, rfl, rfl, rfl, rfl, b1_23, b2_23, b3_23⟩ | ⟨kd_23, ix_23, hr_23, rfl, rfl, rfl, b1_23, b2_23, b3_23, b4_23⟩
          · obtain rfl := hd_23 rfl
            refine g_if_ne (tgt := 31) C dX10_any_26 (by decide) (fun c26 => ?_) (fun c26 => absurd c26 (by decide))
            refine g_aload_n C dX10_any_31 rfl ?_
            refine g_sipush (v := nI 2007) C dX10_any_32 (by decide) ?_
            refine g_callV C (c_X10_lay E h ad (upd (upd (upd (upd (upd (upd (upd (upd iv 18 (nI n)) 19 (nI (en j_23))) 20 (tkT (ks j_23))) 21 (ps j_23)) 22 vl2_23) 23 wr) 24 wa) 26 (nI 6)) (us + C1.length + C_23.length) (cdW (cdW fr us (C1.map trJ)) (us + C1.length) (C_23.map trJ)) (nI 2007) (by omega)) gX10_any_X10_lay rfl 1 (by decide +kernel) ⟨by decide, by decide⟩ ⟨by decide, by decide⟩ 0 rfl rfl [0, 1] [2] (wr := [gA E (ad 17) 600 t]) rfl (by decide) rfl (by decide) (by decide) rfl rfl (Nat.le_of_ble_eq_true rfl) dX10_any_35 ?_
            rintro _ _ ⟨rfl, rfl⟩
            refine gg.perm (ws' := [gO h 10 (tF ad (upd (upd (upd (upd (upd (upd (upd (upd (upd iv 7 (nI ((us + C1.length + C_23.length) + 1))) 18 (nI n)) 19 (nI (en j_23))) 20 (tkT (ks j_23))) 21 (ps j_23)) 22 vl2_23) 23 wr) 24 wa) 26 (nI 6))), gA E (ad 15) 620 (upd (cdW (cdW fr us (C1.map trJ)) (us + C1.length) (C_23.map trJ)) (us + C1.length + C_23.length) (nI 2007)), gA E (ad 17) 600 t]) [1, 2, 0] (by decide) rfl ?_
            show gg E _ 1 X 0 0 38 [some (.ref h)] [] [gO h 10 (tF ad (upd (upd (upd (upd (upd (upd (upd (upd (upd iv 7 (nI ((us + C1.length + C_23.length) + 1))) 18 (nI n)) 19 (nI (en j_23))) 20 (tkT (ks j_23))) 21 (ps j_23)) 22 vl2_23) 23 wr) 24 wa) 26 (nI 6))), gA E (ad 15) 620 (upd (cdW (cdW fr us (C1.map trJ)) (us + C1.length) (C_23.map trJ)) (us + C1.length + C_23.length) (nI 2007)), gA E (ad 17) 600 t]
            rw [ln3 us C1 C_23 (nI 1003), cd3T fr us C1 C_23 (nI 1003) (nI 2007) (by decide)]
            refine g_goto (tgt := 9) C dX10_any_38 (by decide) ?_
            exact ih9 (it + 1) j_23 (f1 - 1) (C1 ++ C_23 ++ [nI 1003]) vl2_23 (by omega) (by omega) (by omega) (by omega) (by have := ln3 us C1 C_23 (nI 1003); omega) (by rw [g5, show f1 = f1 - 1 + 1 by omega, lpO, if_pos e15, hr_23]; rfl) (hv_23)
          · refine g_if_ne (tgt := 31) C dX10_any_26 (by decide) (fun c26 => absurd c26 (by decide)) (fun c26 => ?_)
            refine g_iconst (v := nI 0) C dX10_any_29 (by decide) ?_
            exact g_zret C Rt dX10_any_30 (by decide) (by decide) (by decide) (⟨false, _, _, _, _, _, _, _, rfl, rfl, rdT_er (by rw [g5, show f1 = f1 - 1 + 1 by omega, lpO, if_pos e15, hr_23]) (by omega) b2_23 (by omega) b4_23, hv_23, fun z => absurd z (by decide)⟩)
    exact L9 _ 0 j_1 601 C_1 vl2_1 (Nat.lt_succ_self _) (by omega) (by omega) (by omega) (by omega) (by rw [pAny, hr_1]; rfl) (hv_1)
  · refine g_if_ne (tgt := 9) C dX10_any_4 (by decide) (fun c4 => absurd c4 (by decide)) (fun c4 => ?_)
    refine g_iconst (v := nI 0) C dX10_any_7 (by decide) ?_
    exact g_zret C Rt dX10_any_8 (by decide) (by decide) (by decide) (⟨false, _, _, _, _, _, _, _, rfl, rfl, rdT_er (by rw [pAny, hr_1]; rfl) b1_1 b2_1 b3_1 b4_1, hv_1, fun z => absurd z (by decide)⟩)

abbrev rm_c_X10_one_3 : Room := { frames := 14, cells := 0, slots := 0, locals := 290 }
set_option maxHeartbeats 4000000 in
set_option maxRecDepth 100000 in
theorem c_X10_one_3 (E : gE) (h : Nat) (ad : Nat → Nat) (iv : Nat → Int32) (n cn us i : Nat) (en : Nat → Nat) (ks ps fr t : Nat → Int32) (vl wr wa : Int32) (hn : n ≤ 600) (hb : okY t n) (hL : twL t n cn ks ps en) (hK : ∀ q, q < cn → tkC (ks q)) (hend : ks (cn - 1) = nI 1011) (hcn : cn ≤ 601) (hi : i < cn) (hv : ¬ nI 999 < ks i → vl = ks i) (hus : us ≤ i) : MM E yX10_one wsX10_one rm_c_X10_one_3 [.ref h] [gO h 10 (tF ad (upd (upd (upd (upd (upd (upd (upd (upd (upd iv 7 (nI us)) 18 (nI n)) 19 (nI (en i))) 20 (tkT (ks i))) 21 (ps i)) 22 vl) 23 wr) 24 wa) 26 (nI 5))), gA E (ad 15) 620 fr, gA E (ad 17) 600 t] (fun rv_ ru_ => ∃ (ok : Bool) (j us2 : Nat) (fr2 : Nat → Int32) (vl2 wr2 wa2 dp2 : Int32), rv_ = some (.int (b2i ok)) ∧ ru_ = [gO h 10 (tF ad (upd (upd (upd (upd (upd (upd (upd (upd (upd iv 7 (nI us2)) 18 (nI n)) 19 (nI (en j))) 20 (tkT (ks j))) 21 (ps j)) 22 vl2) 23 wr2) 24 wa2) 26 dp2)), gA E (ad 15) 620 fr2, gA E (ad 17) 600 t] ∧ (rdQ (trR (pLv ks 3 i)) ps cn i us fr wr wa ok j us2 fr2 wr2 wa2) ∧ (¬ nI 999 < ks j → vl2 = ks j) ∧ (ok = true → dp2 = nI 5)) := by
  refine MM.ofG (cc := cX10_one) (maxL := 2) (ret := (some .boolean)) (by decide) rfl (Nat.le_of_ble_eq_true rfl) (ll := [some (.ref h), none]) rfl ?_
  intro X C Rt
  have C : gx E X cX10_one 2 wsX10_one RX10 := C
  have i_X10 : ∀ w ∈ u_ws RX10 TX10 40, w ∈ wsX10_one := by decide +kernel
  have f_154 : Cond.fieldLink RX10 154 "MarkPagesModel" "token" "I" ∈ wsX10_one := by decide +kernel
  have f_188 : Cond.fieldLink RX10 188 "MarkPagesModel" "depth" "I" ∈ wsX10_one := by decide +kernel
  refine g_aload_n C dX10_one_0 rfl ?_
  refine g_get C i_X10 0 20 f_154 rfl rfl (by decide) rfl rfl dX10_one_1 ?_
  refine g_bipush (v := nI 8) C dX10_one_4 (by decide) ?_
  refine g_icmp_ne (tgt := 44) C dX10_one_6 (by decide) (fun c6 => ?_) (fun c6 => ?_)
  · have n5 := fun z => c6 ((tq8 (hK i hi)).mpr z)
    refine g_aload_n C dX10_one_44 rfl ?_
    refine g_get C i_X10 0 20 f_154 rfl rfl (by decide) rfl rfl dX10_one_45 ?_
    refine g_bipush (v := nI 40) C dX10_one_48 (by decide) ?_
    refine g_icmp_ne (tgt := 90) C dX10_one_50 (by decide) (fun c50 => ?_) (fun c50 => ?_)
    · have n40 := fun z => c50 ((tq40 (hK i hi)).mpr z)
      refine g_aload_n C dX10_one_90 rfl ?_
      refine g_callV C (c_X10_sum E h ad (upd iv 26 (nI 5)) n cn us i en ks ps fr t vl wr wa (by omega) (hb) (hL) (hK) (hend) (by omega) (by omega) (hv) (by omega)) gX10_one_X10_sum rfl 0 (by decide +kernel) ⟨by decide, by decide⟩ ⟨by decide, by decide⟩ 0 rfl rfl [0, 1, 2] [] (wr := []) rfl (by decide) rfl (by decide) (by decide) rfl rfl (Nat.le_of_ble_eq_true rfl) dX10_one_91 ?_
      rintro _ _ ⟨ok_91, j_91, us2_91, fr2_91, vl2_91, wr2_91, wa2_91, rfl, rfl, hq_91, hv_91⟩
      show gg E _ 2 X 0 0 94 [some (.ref h), none] [.int (b2i ok_91)] [gO h 10 (tF ad (upd (upd (upd (upd (upd (upd (upd (upd (upd iv 7 (nI us2_91)) 18 (nI n)) 19 (nI (en j_91))) 20 (tkT (ks j_91))) 21 (ps j_91)) 22 vl2_91) 23 wr2_91) 24 wa2_91) 26 (nI 5))), gA E (ad 15) 620 fr2_91, gA E (ad 17) 600 t]
      rcases rdT_two hq_91 with ⟨C_91, hr_91, rfl, rfl, rfl, rfl, rfl, b1_91, b2_91, b3_91⟩ | ⟨kd_91, ix_91, hr_91, rfl, rfl, rfl, b1_91, b2_91, b3_91, b4_91⟩
      · refine g_if_ne (tgt := 99) C dX10_one_94 (by decide) (fun c94 => ?_) (fun c94 => absurd c94 (by decide))
        refine g_aload_n C dX10_one_99 rfl ?_
        refine g_get C i_X10 0 20 f_154 rfl rfl (by decide) rfl rfl dX10_one_100 ?_
        refine g_bipush (v := nI 60) C dX10_one_103 (by decide) ?_
        refine g_icmp_ne (tgt := 114) C dX10_one_105 (by decide) (fun c105 => ?_) (fun c105 => ?_)
        · have n60 := fun z => c105 ((tq60 (hK _ b2_91)).mpr z)
          refine g_aload_n C dX10_one_114 rfl ?_
          refine g_get C i_X10 0 20 f_154 rfl rfl (by decide) rfl rfl dX10_one_115 ?_
          refine g_bipush (v := nI 61) C dX10_one_118 (by decide) ?_
          refine g_icmp_ne (tgt := 129) C dX10_one_120 (by decide) (fun c120 => ?_) (fun c120 => ?_)
          · have n61 := fun z => c120 ((tq61 (hK _ b2_91)).mpr z)
            refine g_aload_n C dX10_one_129 rfl ?_
            refine g_get C i_X10 0 20 f_154 rfl rfl (by decide) rfl rfl dX10_one_130 ?_
            refine g_bipush (v := nI 62) C dX10_one_133 (by decide) ?_
            refine g_icmp_ne (tgt := 144) C dX10_one_135 (by decide) (fun c135 => ?_) (fun c135 => ?_)
            · have n62 := fun z => c135 ((tq62 (hK _ b2_91)).mpr z)
              refine g_iconst (v := -1) C dX10_one_144 (by decide) ?_
              refine g_istore_n C dX10_one_145 (by decide) rfl (ll' := [some (.ref h), some (.int (-1))]) rfl ?_
              refine g_iload_n C dX10_one_146 rfl ?_
              refine g_iconst (v := -1) C dX10_one_147 (by decide) ?_
              refine g_icmp_ne (tgt := 157) C dX10_one_148 (by decide) (fun c148 => absurd c148 (by decide)) (fun c148 => ?_)
              refine g_aload_n C dX10_one_151 rfl ?_
              refine g_iconst (v := nI 1) C dX10_one_152 (by decide) ?_
              refine g_callV C (c_X10_bad E h ad (upd (upd (upd (upd (upd (upd iv 7 (nI (us + C_91.length))) 18 (nI n)) 19 (nI (en j_91))) 20 (tkT (ks j_91))) 22 vl2_91) 26 (nI 5)) 1 (ps j_91) wr wa ) gX10_one_X10_bad rfl 1 (by decide +kernel) ⟨by decide, by decide⟩ ⟨by decide, by decide⟩ 0 rfl rfl [0] [1, 2] (wr := [gA E (ad 15) 620 (cdW fr us (C_91.map trJ)), gA E (ad 17) 600 t]) rfl (by decide) rfl (by decide) (by decide) rfl rfl (Nat.le_of_ble_eq_true rfl) dX10_one_153 ?_
              rintro _ _ ⟨rfl, rfl⟩
              refine gg.perm (ws' := [gO h 10 (tF ad (upd (upd (upd (upd (upd (upd (upd (upd (upd iv 7 (nI (us + C_91.length))) 18 (nI n)) 19 (nI (en j_91))) 20 (tkT (ks j_91))) 21 (ps j_91)) 22 vl2_91) 23 (nI 1)) 24 (ps j_91)) 26 (nI 5))), gA E (ad 15) 620 (cdW fr us (C_91.map trJ)), gA E (ad 17) 600 t]) [2, 0, 1] (by decide) rfl ?_
              show gg E _ 2 X 0 0 156 [some (.ref h), some (.int (-1))] [.int (nI 0)] [gO h 10 (tF ad (upd (upd (upd (upd (upd (upd (upd (upd (upd iv 7 (nI (us + C_91.length))) 18 (nI n)) 19 (nI (en j_91))) 20 (tkT (ks j_91))) 21 (ps j_91)) 22 vl2_91) 23 (nI 1)) 24 (ps j_91)) 26 (nI 5))), gA E (ad 15) 620 (cdW fr us (C_91.map trJ)), gA E (ad 17) 600 t]
              exact g_zret C Rt dX10_one_156 (by decide) (by decide) (by decide) (⟨false, _, _, _, _, _, _, _, rfl, rfl, rdT_er (by rw [pLv, if_neg (fun z => z.elim n5 n40), pCmp, hr_91]; exact if_neg (fun z => z.elim n60 (fun z => z.elim n61 n62))) (b1_91) (b2_91) (b3_91) (b2_91), hv_91, fun z => absurd z (by decide)⟩)
            · have e62 := (tq62 (hK _ b2_91)).mp c135
              refine g_sipush (v := nI 2004) C dX10_one_138 (by decide) ?_
              refine g_goto (tgt := 145) C dX10_one_141 (by decide) ?_
              refine g_istore_n C dX10_one_145 (by decide) rfl (ll' := [some (.ref h), some (.int (nI 2004))]) rfl ?_
              refine g_iload_n C dX10_one_146 rfl ?_
              refine g_iconst (v := -1) C dX10_one_147 (by decide) ?_
              refine g_icmp_ne (tgt := 157) C dX10_one_148 (by decide) (fun c148 => ?_) (fun c148 => absurd c148 (by decide))
              have hn7 := not_end hend b2_91 e62 (by decide)
              refine g_aload_n C dX10_one_157 rfl ?_
              refine g_callV C (c_X10_nextT E h ad (upd (upd (upd (upd iv 7 (nI (us + C_91.length))) 23 wr) 24 wa) 26 (nI 5)) n cn j_91 en ks ps t (tkT (ks j_91)) (ps j_91) vl2_91 (by omega) (hb) (hL) (hn7)) gX10_one_X10_next0 rfl 0 (by decide +kernel) ⟨by decide, by decide⟩ ⟨by decide, by decide⟩ 0 rfl rfl [0, 2] [1] (wr := [gA E (ad 15) 620 (cdW fr us (C_91.map trJ))]) rfl (by decide) rfl (by decide) (by decide) rfl rfl (Nat.le_of_ble_eq_true rfl) dX10_one_158 ?_
              rintro _ _ ⟨vl2_158, rfl, rfl, hv_158⟩
              refine gg.perm (ws' := [gO h 10 (tF ad (upd (upd (upd (upd (upd (upd (upd (upd (upd iv 7 (nI (us + C_91.length))) 18 (nI n)) 19 (nI (en (j_91 + 1)))) 20 (tkT (ks (j_91 + 1)))) 21 (ps (j_91 + 1))) 22 vl2_158) 23 wr) 24 wa) 26 (nI 5))), gA E (ad 15) 620 (cdW fr us (C_91.map trJ)), gA E (ad 17) 600 t]) [1, 0, 2] (by decide) rfl ?_
              show gg E _ 2 X 0 0 161 [some (.ref h), some (.int (nI 2004))] [] [gO h 10 (tF ad (upd (upd (upd (upd (upd (upd (upd (upd (upd iv 7 (nI (us + C_91.length))) 18 (nI n)) 19 (nI (en (j_91 + 1)))) 20 (tkT (ks (j_91 + 1)))) 21 (ps (j_91 + 1))) 22 vl2_158) 23 wr) 24 wa) 26 (nI 5))), gA E (ad 15) 620 (cdW fr us (C_91.map trJ)), gA E (ad 17) 600 t]
              refine g_aload_n C dX10_one_161 rfl ?_
              refine g_callV C (c_X10_sum E h ad (upd iv 26 (nI 5)) n cn (us + C_91.length) (j_91 + 1) en ks ps (cdW fr us (C_91.map trJ)) t vl2_158 wr wa (by omega) (hb) (hL) (hK) (hend) (by omega) (by omega) (hv_158) (by omega)) gX10_one_X10_sum rfl 0 (by decide +kernel) ⟨by decide, by decide⟩ ⟨by decide, by decide⟩ 0 rfl rfl [0, 1, 2] [] (wr := []) rfl (by decide) rfl (by decide) (by decide) rfl rfl (Nat.le_of_ble_eq_true rfl) dX10_one_162 ?_
              rintro _ _ ⟨ok_162, j_162, us2_162, fr2_162, vl2_162, wr2_162, wa2_162, rfl, rfl, hq_162, hv_162⟩
              show gg E _ 2 X 0 0 165 [some (.ref h), some (.int (nI 2004))] [.int (b2i ok_162)] [gO h 10 (tF ad (upd (upd (upd (upd (upd (upd (upd (upd (upd iv 7 (nI us2_162)) 18 (nI n)) 19 (nI (en j_162))) 20 (tkT (ks j_162))) 21 (ps j_162)) 22 vl2_162) 23 wr2_162) 24 wa2_162) 26 (nI 5))), gA E (ad 15) 620 fr2_162, gA E (ad 17) 600 t]
              rcases rdT_two hq_162 with ⟨C_162, hr_162, rfl, rfl, rfl, rfl, rfl, b1_162, b2_162, b3_162⟩ | ⟨kd_162, ix_162, hr_162, rfl, rfl, rfl, b1_162, b2_162, b3_162, b4_162⟩
              · refine g_if_ne (tgt := 170) C dX10_one_165 (by decide) (fun c165 => ?_) (fun c165 => absurd c165 (by decide))
                refine g_aload_n C dX10_one_170 rfl ?_
                refine g_iload_n C dX10_one_171 rfl ?_
                refine g_callV C (c_X10_lay E h ad (upd (upd (upd (upd (upd (upd (upd (upd iv 18 (nI n)) 19 (nI (en j_162))) 20 (tkT (ks j_162))) 21 (ps j_162)) 22 vl2_162) 23 wr) 24 wa) 26 (nI 5)) (us + C_91.length + C_162.length) (cdW (cdW fr us (C_91.map trJ)) (us + C_91.length) (C_162.map trJ)) (nI 2004) (by omega)) gX10_one_X10_lay rfl 1 (by decide +kernel) ⟨by decide, by decide⟩ ⟨by decide, by decide⟩ 0 rfl rfl [0, 1] [2] (wr := [gA E (ad 17) 600 t]) rfl (by decide) rfl (by decide) (by decide) rfl rfl (Nat.le_of_ble_eq_true rfl) dX10_one_172 ?_
                rintro _ _ ⟨rfl, rfl⟩
                refine gg.perm (ws' := [gO h 10 (tF ad (upd (upd (upd (upd (upd (upd (upd (upd (upd iv 7 (nI ((us + C_91.length + C_162.length) + 1))) 18 (nI n)) 19 (nI (en j_162))) 20 (tkT (ks j_162))) 21 (ps j_162)) 22 vl2_162) 23 wr) 24 wa) 26 (nI 5))), gA E (ad 15) 620 (upd (cdW (cdW fr us (C_91.map trJ)) (us + C_91.length) (C_162.map trJ)) (us + C_91.length + C_162.length) (nI 2004)), gA E (ad 17) 600 t]) [1, 2, 0] (by decide) rfl ?_
                show gg E _ 2 X 0 0 175 [some (.ref h), some (.int (nI 2004))] [] [gO h 10 (tF ad (upd (upd (upd (upd (upd (upd (upd (upd (upd iv 7 (nI ((us + C_91.length + C_162.length) + 1))) 18 (nI n)) 19 (nI (en j_162))) 20 (tkT (ks j_162))) 21 (ps j_162)) 22 vl2_162) 23 wr) 24 wa) 26 (nI 5))), gA E (ad 15) 620 (upd (cdW (cdW fr us (C_91.map trJ)) (us + C_91.length) (C_162.map trJ)) (us + C_91.length + C_162.length) (nI 2004)), gA E (ad 17) 600 t]
                refine g_iconst (v := nI 1) C dX10_one_175 (by decide) ?_
                exact g_zret C Rt dX10_one_176 (by decide) (by decide) (by decide) (⟨true, _, _, _, _, _, _, _, rfl, rfl, rdT_ok (by rw [pLv, if_neg (fun z => z.elim n5 n40), pCmp, hr_91]; exact (if_pos (Or.inr (Or.inr e62))).trans (by rw [pCmp2, hr_162])) (by omega) b2_162 (by omega) (ln3 _ _ _ _) (cd3T _ _ _ _ _ _ (by rw [e62]; decide)), hv_162, fun _ => rfl⟩)
              · refine g_if_ne (tgt := 170) C dX10_one_165 (by decide) (fun c165 => absurd c165 (by decide)) (fun c165 => ?_)
                refine g_iconst (v := nI 0) C dX10_one_168 (by decide) ?_
                exact g_zret C Rt dX10_one_169 (by decide) (by decide) (by decide) (⟨false, _, _, _, _, _, _, _, rfl, rfl, rdT_er (by rw [pLv, if_neg (fun z => z.elim n5 n40), pCmp, hr_91]; exact (if_pos (Or.inr (Or.inr e62))).trans (by rw [pCmp2, hr_162])) (by omega) (b2_162) (by omega) (b4_162), hv_162, fun z => absurd z (by decide)⟩)
          · have e61 := (tq61 (hK _ b2_91)).mp c120
            refine g_sipush (v := nI 2003) C dX10_one_123 (by decide) ?_
            refine g_goto (tgt := 145) C dX10_one_126 (by decide) ?_
            refine g_istore_n C dX10_one_145 (by decide) rfl (ll' := [some (.ref h), some (.int (nI 2003))]) rfl ?_
            refine g_iload_n C dX10_one_146 rfl ?_
            refine g_iconst (v := -1) C dX10_one_147 (by decide) ?_
            refine g_icmp_ne (tgt := 157) C dX10_one_148 (by decide) (fun c148 => ?_) (fun c148 => absurd c148 (by decide))
            have hn7 := not_end hend b2_91 e61 (by decide)
            refine g_aload_n C dX10_one_157 rfl ?_
            refine g_callV C (c_X10_nextT E h ad (upd (upd (upd (upd iv 7 (nI (us + C_91.length))) 23 wr) 24 wa) 26 (nI 5)) n cn j_91 en ks ps t (tkT (ks j_91)) (ps j_91) vl2_91 (by omega) (hb) (hL) (hn7)) gX10_one_X10_next0 rfl 0 (by decide +kernel) ⟨by decide, by decide⟩ ⟨by decide, by decide⟩ 0 rfl rfl [0, 2] [1] (wr := [gA E (ad 15) 620 (cdW fr us (C_91.map trJ))]) rfl (by decide) rfl (by decide) (by decide) rfl rfl (Nat.le_of_ble_eq_true rfl) dX10_one_158 ?_
            rintro _ _ ⟨vl2_158, rfl, rfl, hv_158⟩
            refine gg.perm (ws' := [gO h 10 (tF ad (upd (upd (upd (upd (upd (upd (upd (upd (upd iv 7 (nI (us + C_91.length))) 18 (nI n)) 19 (nI (en (j_91 + 1)))) 20 (tkT (ks (j_91 + 1)))) 21 (ps (j_91 + 1))) 22 vl2_158) 23 wr) 24 wa) 26 (nI 5))), gA E (ad 15) 620 (cdW fr us (C_91.map trJ)), gA E (ad 17) 600 t]) [1, 0, 2] (by decide) rfl ?_
            show gg E _ 2 X 0 0 161 [some (.ref h), some (.int (nI 2003))] [] [gO h 10 (tF ad (upd (upd (upd (upd (upd (upd (upd (upd (upd iv 7 (nI (us + C_91.length))) 18 (nI n)) 19 (nI (en (j_91 + 1)))) 20 (tkT (ks (j_91 + 1)))) 21 (ps (j_91 + 1))) 22 vl2_158) 23 wr) 24 wa) 26 (nI 5))), gA E (ad 15) 620 (cdW fr us (C_91.map trJ)), gA E (ad 17) 600 t]
            refine g_aload_n C dX10_one_161 rfl ?_
            refine g_callV C (c_X10_sum E h ad (upd iv 26 (nI 5)) n cn (us + C_91.length) (j_91 + 1) en ks ps (cdW fr us (C_91.map trJ)) t vl2_158 wr wa (by omega) (hb) (hL) (hK) (hend) (by omega) (by omega) (hv_158) (by omega)) gX10_one_X10_sum rfl 0 (by decide +kernel) ⟨by decide, by decide⟩ ⟨by decide, by decide⟩ 0 rfl rfl [0, 1, 2] [] (wr := []) rfl (by decide) rfl (by decide) (by decide) rfl rfl (Nat.le_of_ble_eq_true rfl) dX10_one_162 ?_
            rintro _ _ ⟨ok_162, j_162, us2_162, fr2_162, vl2_162, wr2_162, wa2_162, rfl, rfl, hq_162, hv_162⟩
            show gg E _ 2 X 0 0 165 [some (.ref h), some (.int (nI 2003))] [.int (b2i ok_162)] [gO h 10 (tF ad (upd (upd (upd (upd (upd (upd (upd (upd (upd iv 7 (nI us2_162)) 18 (nI n)) 19 (nI (en j_162))) 20 (tkT (ks j_162))) 21 (ps j_162)) 22 vl2_162) 23 wr2_162) 24 wa2_162) 26 (nI 5))), gA E (ad 15) 620 fr2_162, gA E (ad 17) 600 t]
            rcases rdT_two hq_162 with ⟨C_162, hr_162, rfl, rfl, rfl, rfl, rfl, b1_162, b2_162, b3_162⟩ | ⟨kd_162, ix_162, hr_162, rfl, rfl, rfl, b1_162, b2_162, b3_162, b4_162⟩
            · refine g_if_ne (tgt := 170) C dX10_one_165 (by decide) (fun c165 => ?_) (fun c165 => absurd c165 (by decide))
              refine g_aload_n C dX10_one_170 rfl ?_
              refine g_iload_n C dX10_one_171 rfl ?_
              refine g_callV C (c_X10_lay E h ad (upd (upd (upd (upd (upd (upd (upd (upd iv 18 (nI n)) 19 (nI (en j_162))) 20 (tkT (ks j_162))) 21 (ps j_162)) 22 vl2_162) 23 wr) 24 wa) 26 (nI 5)) (us + C_91.length + C_162.length) (cdW (cdW fr us (C_91.map trJ)) (us + C_91.length) (C_162.map trJ)) (nI 2003) (by omega)) gX10_one_X10_lay rfl 1 (by decide +kernel) ⟨by decide, by decide⟩ ⟨by decide, by decide⟩ 0 rfl rfl [0, 1] [2] (wr := [gA E (ad 17) 600 t]) rfl (by decide) rfl (by decide) (by decide) rfl rfl (Nat.le_of_ble_eq_true rfl) dX10_one_172 ?_
              rintro _ _ ⟨rfl, rfl⟩
              refine gg.perm (ws' := [gO h 10 (tF ad (upd (upd (upd (upd (upd (upd (upd (upd (upd iv 7 (nI ((us + C_91.length + C_162.length) + 1))) 18 (nI n)) 19 (nI (en j_162))) 20 (tkT (ks j_162))) 21 (ps j_162)) 22 vl2_162) 23 wr) 24 wa) 26 (nI 5))), gA E (ad 15) 620 (upd (cdW (cdW fr us (C_91.map trJ)) (us + C_91.length) (C_162.map trJ)) (us + C_91.length + C_162.length) (nI 2003)), gA E (ad 17) 600 t]) [1, 2, 0] (by decide) rfl ?_
              show gg E _ 2 X 0 0 175 [some (.ref h), some (.int (nI 2003))] [] [gO h 10 (tF ad (upd (upd (upd (upd (upd (upd (upd (upd (upd iv 7 (nI ((us + C_91.length + C_162.length) + 1))) 18 (nI n)) 19 (nI (en j_162))) 20 (tkT (ks j_162))) 21 (ps j_162)) 22 vl2_162) 23 wr) 24 wa) 26 (nI 5))), gA E (ad 15) 620 (upd (cdW (cdW fr us (C_91.map trJ)) (us + C_91.length) (C_162.map trJ)) (us + C_91.length + C_162.length) (nI 2003)), gA E (ad 17) 600 t]
              refine g_iconst (v := nI 1) C dX10_one_175 (by decide) ?_
              exact g_zret C Rt dX10_one_176 (by decide) (by decide) (by decide) (⟨true, _, _, _, _, _, _, _, rfl, rfl, rdT_ok (by rw [pLv, if_neg (fun z => z.elim n5 n40), pCmp, hr_91]; exact (if_pos (Or.inr (Or.inl e61))).trans (by rw [pCmp2, hr_162])) (by omega) b2_162 (by omega) (ln3 _ _ _ _) (cd3T _ _ _ _ _ _ (by rw [e61]; decide)), hv_162, fun _ => rfl⟩)
            · refine g_if_ne (tgt := 170) C dX10_one_165 (by decide) (fun c165 => absurd c165 (by decide)) (fun c165 => ?_)
              refine g_iconst (v := nI 0) C dX10_one_168 (by decide) ?_
              exact g_zret C Rt dX10_one_169 (by decide) (by decide) (by decide) (⟨false, _, _, _, _, _, _, _, rfl, rfl, rdT_er (by rw [pLv, if_neg (fun z => z.elim n5 n40), pCmp, hr_91]; exact (if_pos (Or.inr (Or.inl e61))).trans (by rw [pCmp2, hr_162])) (by omega) (b2_162) (by omega) (b4_162), hv_162, fun z => absurd z (by decide)⟩)
        · have e60 := (tq60 (hK _ b2_91)).mp c105
          refine g_sipush (v := nI 2002) C dX10_one_108 (by decide) ?_
          refine g_goto (tgt := 145) C dX10_one_111 (by decide) ?_
          refine g_istore_n C dX10_one_145 (by decide) rfl (ll' := [some (.ref h), some (.int (nI 2002))]) rfl ?_
          refine g_iload_n C dX10_one_146 rfl ?_
          refine g_iconst (v := -1) C dX10_one_147 (by decide) ?_
          refine g_icmp_ne (tgt := 157) C dX10_one_148 (by decide) (fun c148 => ?_) (fun c148 => absurd c148 (by decide))
          have hn7 := not_end hend b2_91 e60 (by decide)
          refine g_aload_n C dX10_one_157 rfl ?_
          refine g_callV C (c_X10_nextT E h ad (upd (upd (upd (upd iv 7 (nI (us + C_91.length))) 23 wr) 24 wa) 26 (nI 5)) n cn j_91 en ks ps t (tkT (ks j_91)) (ps j_91) vl2_91 (by omega) (hb) (hL) (hn7)) gX10_one_X10_next0 rfl 0 (by decide +kernel) ⟨by decide, by decide⟩ ⟨by decide, by decide⟩ 0 rfl rfl [0, 2] [1] (wr := [gA E (ad 15) 620 (cdW fr us (C_91.map trJ))]) rfl (by decide) rfl (by decide) (by decide) rfl rfl (Nat.le_of_ble_eq_true rfl) dX10_one_158 ?_
          rintro _ _ ⟨vl2_158, rfl, rfl, hv_158⟩
          refine gg.perm (ws' := [gO h 10 (tF ad (upd (upd (upd (upd (upd (upd (upd (upd (upd iv 7 (nI (us + C_91.length))) 18 (nI n)) 19 (nI (en (j_91 + 1)))) 20 (tkT (ks (j_91 + 1)))) 21 (ps (j_91 + 1))) 22 vl2_158) 23 wr) 24 wa) 26 (nI 5))), gA E (ad 15) 620 (cdW fr us (C_91.map trJ)), gA E (ad 17) 600 t]) [1, 0, 2] (by decide) rfl ?_
          show gg E _ 2 X 0 0 161 [some (.ref h), some (.int (nI 2002))] [] [gO h 10 (tF ad (upd (upd (upd (upd (upd (upd (upd (upd (upd iv 7 (nI (us + C_91.length))) 18 (nI n)) 19 (nI (en (j_91 + 1)))) 20 (tkT (ks (j_91 + 1)))) 21 (ps (j_91 + 1))) 22 vl2_158) 23 wr) 24 wa) 26 (nI 5))), gA E (ad 15) 620 (cdW fr us (C_91.map trJ)), gA E (ad 17) 600 t]
          refine g_aload_n C dX10_one_161 rfl ?_
          refine g_callV C (c_X10_sum E h ad (upd iv 26 (nI 5)) n cn (us + C_91.length) (j_91 + 1) en ks ps (cdW fr us (C_91.map trJ)) t vl2_158 wr wa (by omega) (hb) (hL) (hK) (hend) (by omega) (by omega) (hv_158) (by omega)) gX10_one_X10_sum rfl 0 (by decide +kernel) ⟨by decide, by decide⟩ ⟨by decide, by decide⟩ 0 rfl rfl [0, 1, 2] [] (wr := []) rfl (by decide) rfl (by decide) (by decide) rfl rfl (Nat.le_of_ble_eq_true rfl) dX10_one_162 ?_
          rintro _ _ ⟨ok_162, j_162, us2_162, fr2_162, vl2_162, wr2_162, wa2_162, rfl, rfl, hq_162, hv_162⟩
          show gg E _ 2 X 0 0 165 [some (.ref h), some (.int (nI 2002))] [.int (b2i ok_162)] [gO h 10 (tF ad (upd (upd (upd (upd (upd (upd (upd (upd (upd iv 7 (nI us2_162)) 18 (nI n)) 19 (nI (en j_162))) 20 (tkT (ks j_162))) 21 (ps j_162)) 22 vl2_162) 23 wr2_162) 24 wa2_162) 26 (nI 5))), gA E (ad 15) 620 fr2_162, gA E (ad 17) 600 t]
          rcases rdT_two hq_162 with ⟨C_162, hr_162, rfl, rfl, rfl, rfl, rfl, b1_162, b2_162, b3_162⟩ | ⟨kd_162, ix_162, hr_162, rfl, rfl, rfl, b1_162, b2_162, b3_162, b4_162⟩
          · refine g_if_ne (tgt := 170) C dX10_one_165 (by decide) (fun c165 => ?_) (fun c165 => absurd c165 (by decide))
            refine g_aload_n C dX10_one_170 rfl ?_
            refine g_iload_n C dX10_one_171 rfl ?_
            refine g_callV C (c_X10_lay E h ad (upd (upd (upd (upd (upd (upd (upd (upd iv 18 (nI n)) 19 (nI (en j_162))) 20 (tkT (ks j_162))) 21 (ps j_162)) 22 vl2_162) 23 wr) 24 wa) 26 (nI 5)) (us + C_91.length + C_162.length) (cdW (cdW fr us (C_91.map trJ)) (us + C_91.length) (C_162.map trJ)) (nI 2002) (by omega)) gX10_one_X10_lay rfl 1 (by decide +kernel) ⟨by decide, by decide⟩ ⟨by decide, by decide⟩ 0 rfl rfl [0, 1] [2] (wr := [gA E (ad 17) 600 t]) rfl (by decide) rfl (by decide) (by decide) rfl rfl (Nat.le_of_ble_eq_true rfl) dX10_one_172 ?_
            rintro _ _ ⟨rfl, rfl⟩
            refine gg.perm (ws' := [gO h 10 (tF ad (upd (upd (upd (upd (upd (upd (upd (upd (upd iv 7 (nI ((us + C_91.length + C_162.length) + 1))) 18 (nI n)) 19 (nI (en j_162))) 20 (tkT (ks j_162))) 21 (ps j_162)) 22 vl2_162) 23 wr) 24 wa) 26 (nI 5))), gA E (ad 15) 620 (upd (cdW (cdW fr us (C_91.map trJ)) (us + C_91.length) (C_162.map trJ)) (us + C_91.length + C_162.length) (nI 2002)), gA E (ad 17) 600 t]) [1, 2, 0] (by decide) rfl ?_
            show gg E _ 2 X 0 0 175 [some (.ref h), some (.int (nI 2002))] [] [gO h 10 (tF ad (upd (upd (upd (upd (upd (upd (upd (upd (upd iv 7 (nI ((us + C_91.length + C_162.length) + 1))) 18 (nI n)) 19 (nI (en j_162))) 20 (tkT (ks j_162))) 21 (ps j_162)) 22 vl2_162) 23 wr) 24 wa) 26 (nI 5))), gA E (ad 15) 620 (upd (cdW (cdW fr us (C_91.map trJ)) (us + C_91.length) (C_162.map trJ)) (us + C_91.length + C_162.length) (nI 2002)), gA E (ad 17) 600 t]
            refine g_iconst (v := nI 1) C dX10_one_175 (by decide) ?_
            exact g_zret C Rt dX10_one_176 (by decide) (by decide) (by decide) (⟨true, _, _, _, _, _, _, _, rfl, rfl, rdT_ok (by rw [pLv, if_neg (fun z => z.elim n5 n40), pCmp, hr_91]; exact (if_pos (Or.inl e60)).trans (by rw [pCmp2, hr_162])) (by omega) b2_162 (by omega) (ln3 _ _ _ _) (cd3T _ _ _ _ _ _ (by rw [e60]; decide)), hv_162, fun _ => rfl⟩)
          · refine g_if_ne (tgt := 170) C dX10_one_165 (by decide) (fun c165 => absurd c165 (by decide)) (fun c165 => ?_)
            refine g_iconst (v := nI 0) C dX10_one_168 (by decide) ?_
            exact g_zret C Rt dX10_one_169 (by decide) (by decide) (by decide) (⟨false, _, _, _, _, _, _, _, rfl, rfl, rdT_er (by rw [pLv, if_neg (fun z => z.elim n5 n40), pCmp, hr_91]; exact (if_pos (Or.inl e60)).trans (by rw [pCmp2, hr_162])) (by omega) (b2_162) (by omega) (b4_162), hv_162, fun z => absurd z (by decide)⟩)
      · refine g_if_ne (tgt := 99) C dX10_one_94 (by decide) (fun c94 => absurd c94 (by decide)) (fun c94 => ?_)
        refine g_iconst (v := nI 0) C dX10_one_97 (by decide) ?_
        exact g_zret C Rt dX10_one_98 (by decide) (by decide) (by decide) (⟨false, _, _, _, _, _, _, _, rfl, rfl, rdT_er (by rw [pLv, if_neg (fun z => z.elim n5 n40), pCmp, hr_91]) (by omega) (b2_91) (by omega) (b4_91), hv_91, fun z => absurd z (by decide)⟩)
    · have e40 := (tq40 (hK i hi)).mp c50
      have hn8 := not_end hend hi e40 (by decide)
      refine g_aload_n C dX10_one_53 rfl ?_
      refine g_callV C (c_X10_opens_5 E h ad (upd iv 7 (nI us)) n cn i en ks ps t vl wr wa (by omega) (hb) (hL) (hn8)) gX10_one_X10_opens rfl 0 (by decide +kernel) ⟨by decide, by decide⟩ ⟨by decide, by decide⟩ 0 rfl rfl [0, 2] [1] (wr := [gA E (ad 15) 620 fr]) rfl (by decide) rfl (by decide) (by decide) rfl rfl (Nat.le_of_ble_eq_true rfl) dX10_one_54 ?_
      rintro _ _ ⟨vl2_54, rfl, rfl, hv_54⟩
      refine gg.perm (ws' := [gO h 10 (tF ad (upd (upd (upd (upd (upd (upd (upd (upd (upd iv 7 (nI us)) 18 (nI n)) 19 (nI (en (i + 1)))) 20 (tkT (ks (i + 1)))) 21 (ps (i + 1))) 22 vl2_54) 23 wr) 24 wa) 26 (nI 6))), gA E (ad 15) 620 fr, gA E (ad 17) 600 t]) [1, 0, 2] (by decide) rfl ?_
      show gg E _ 2 X 0 0 57 [some (.ref h), none] [.int (nI 1)] [gO h 10 (tF ad (upd (upd (upd (upd (upd (upd (upd (upd (upd iv 7 (nI us)) 18 (nI n)) 19 (nI (en (i + 1)))) 20 (tkT (ks (i + 1)))) 21 (ps (i + 1))) 22 vl2_54) 23 wr) 24 wa) 26 (nI 6))), gA E (ad 15) 620 fr, gA E (ad 17) 600 t]
      refine g_if_eq (tgt := 76) C dX10_one_57 (by decide) (fun c57 => absurd c57 (by decide)) (fun c57 => ?_)
      refine g_aload_n C dX10_one_60 rfl ?_
      refine g_callV C (c_X10_any_2 E h ad iv n cn us (i + 1) en ks ps fr t vl2_54 wr wa (by omega) (hb) (hL) (hK) (hend) (by omega) (by omega) (hv_54) (by omega)) gX10_one_X10_any rfl 0 (by decide +kernel) ⟨by decide, by decide⟩ ⟨by decide, by decide⟩ 0 rfl rfl [0, 1, 2] [] (wr := []) rfl (by decide) rfl (by decide) (by decide) rfl rfl (Nat.le_of_ble_eq_true rfl) dX10_one_61 ?_
      rintro _ _ ⟨ok_61, j_61, us2_61, fr2_61, vl2_61, wr2_61, wa2_61, dp2_61, rfl, rfl, hq_61, hv_61, hd_61⟩
      show gg E _ 2 X 0 0 64 [some (.ref h), none] [.int (b2i ok_61)] [gO h 10 (tF ad (upd (upd (upd (upd (upd (upd (upd (upd (upd iv 7 (nI us2_61)) 18 (nI n)) 19 (nI (en j_61))) 20 (tkT (ks j_61))) 21 (ps j_61)) 22 vl2_61) 23 wr2_61) 24 wa2_61) 26 dp2_61)), gA E (ad 15) 620 fr2_61, gA E (ad 17) 600 t]
      rcases rdT_two hq_61 with ⟨C_61, hr_61, rfl, rfl, rfl, rfl, rfl, b1_61, b2_61, b3_61⟩ | ⟨kd_61, ix_61, hr_61, rfl, rfl, rfl, b1_61, b2_61, b3_61, b4_61⟩
      · obtain rfl := hd_61 rfl
        refine g_if_eq (tgt := 76) C dX10_one_64 (by decide) (fun c64 => absurd c64 (by decide)) (fun c64 => ?_)
        skip
        refine g_aload_n C dX10_one_67 rfl ?_
        rcases Classical.em (ks j_61 = nI 1141) with hx | hx
        · refine g_bipush (v := nI 41) C dX10_one_68 (by decide) ?_
          refine g_callV C (c_X10_need_y E h ad (upd (upd iv 7 (nI (us + C_61.length))) 26 (nI 6)) n cn j_61 41 en ks ps t vl2_61 wr wa (by omega) (hb) (hL) (not_end hend b2_61 hx (by decide)) ((tq41 (hK _ b2_61)).mpr hx)) gX10_one_X10_need rfl 1 (by decide +kernel) ⟨by decide, by decide⟩ ⟨by decide, by decide⟩ 0 rfl rfl [0, 2] [1] (wr := [gA E (ad 15) 620 (cdW fr us (C_61.map trJ))]) rfl (by decide) rfl (by decide) (by decide) rfl rfl (Nat.le_of_ble_eq_true rfl) dX10_one_70 ?_
          rintro _ _ ⟨vl2_70, rfl, rfl, hv_70⟩
          refine gg.perm (ws' := [gO h 10 (tF ad (upd (upd (upd (upd (upd (upd (upd (upd (upd iv 7 (nI (us + C_61.length))) 18 (nI n)) 19 (nI (en (j_61 + 1)))) 20 (tkT (ks (j_61 + 1)))) 21 (ps (j_61 + 1))) 22 vl2_70) 23 wr) 24 wa) 26 (nI 6))), gA E (ad 15) 620 (cdW fr us (C_61.map trJ)), gA E (ad 17) 600 t]) [1, 0, 2] (by decide) rfl ?_
          show gg E _ 2 X 0 0 73 [some (.ref h), none] [.int (nI 1)] [gO h 10 (tF ad (upd (upd (upd (upd (upd (upd (upd (upd (upd iv 7 (nI (us + C_61.length))) 18 (nI n)) 19 (nI (en (j_61 + 1)))) 20 (tkT (ks (j_61 + 1)))) 21 (ps (j_61 + 1))) 22 vl2_70) 23 wr) 24 wa) 26 (nI 6))), gA E (ad 15) 620 (cdW fr us (C_61.map trJ)), gA E (ad 17) 600 t]
          refine g_if_ne (tgt := 78) C dX10_one_73 (by decide) (fun c73 => ?_) (fun c73 => absurd c73 (by decide))
          have hn9 := not_end hend b2_61 hx (by decide)
          refine g_aload_n C dX10_one_78 rfl ?_
          refine g_dup C dX10_one_79 rfl ?_
          refine g_get C i_X10 0 26 f_188 rfl rfl (by decide) rfl rfl dX10_one_80 ?_
          show gg E _ 2 X 0 0 83 [some (.ref h), none] [.int (nI 6), .ref h] [gO h 10 (tF ad (upd (upd (upd (upd (upd (upd (upd (upd (upd iv 7 (nI (us + C_61.length))) 18 (nI n)) 19 (nI (en (j_61 + 1)))) 20 (tkT (ks (j_61 + 1)))) 21 (ps (j_61 + 1))) 22 vl2_70) 23 wr) 24 wa) 26 (nI 6))), gA E (ad 15) 620 (cdW fr us (C_61.map trJ)), gA E (ad 17) 600 t]
          refine g_iconst (v := nI 1) C dX10_one_83 (by decide) ?_
          refine g_isub C dX10_one_84 (g_top (x' := nI 5) (by decide) ?_)
          refine g_put C i_X10 tyX10 tyX10_ok nmX10 0 26 f_188 rfl rfl (by decide) rfl rfl rfl rfl rfl (Nat.le_of_ble_eq_true rfl) dX10_one_85 (ws' := [gO h 10 (tF ad (upd (upd (upd (upd (upd (upd (upd (upd (upd iv 7 (nI (us + C_61.length))) 18 (nI n)) 19 (nI (en (j_61 + 1)))) 20 (tkT (ks (j_61 + 1)))) 21 (ps (j_61 + 1))) 22 vl2_70) 23 wr) 24 wa) 26 (nI 5))), gA E (ad 15) 620 (cdW fr us (C_61.map trJ)), gA E (ad 17) 600 t]) rfl ?_
          refine g_iconst (v := nI 1) C dX10_one_88 (by decide) ?_
          exact g_zret C Rt dX10_one_89 (by decide) (by decide) (by decide) (⟨true, _, _, _, _, _, _, _, rfl, rfl, rdT_ok (by rw [pLv, if_pos (Or.inr e40), if_neg n5, hr_61]; exact if_pos hx) (by omega) hn9 (by omega) rfl rfl, hv_70, fun _ => rfl⟩)
        · refine g_bipush (v := nI 41) C dX10_one_68 (by decide) ?_
          refine g_callV C (c_X10_need_n E h ad (upd (upd iv 7 (nI (us + C_61.length))) 26 (nI 6)) n cn j_61 41 en ks ps t vl2_61 wr wa (fun z => hx ((tq41 (hK _ b2_61)).mp z))) gX10_one_X10_need rfl 1 (by decide +kernel) ⟨by decide, by decide⟩ ⟨by decide, by decide⟩ 0 rfl rfl [0, 2] [1] (wr := [gA E (ad 15) 620 (cdW fr us (C_61.map trJ))]) rfl (by decide) rfl (by decide) (by decide) rfl rfl (Nat.le_of_ble_eq_true rfl) dX10_one_70 ?_
          rintro _ _ ⟨rfl, rfl⟩
          refine gg.perm (ws' := [gO h 10 (tF ad (upd (upd (upd (upd (upd (upd (upd (upd (upd iv 7 (nI (us + C_61.length))) 18 (nI n)) 19 (nI (en j_61))) 20 (tkT (ks j_61))) 21 (ps j_61)) 22 vl2_61) 23 (nI 1)) 24 (ps j_61)) 26 (nI 6))), gA E (ad 15) 620 (cdW fr us (C_61.map trJ)), gA E (ad 17) 600 t]) [1, 0, 2] (by decide) rfl ?_
          show gg E _ 2 X 0 0 73 [some (.ref h), none] [.int (nI 0)] [gO h 10 (tF ad (upd (upd (upd (upd (upd (upd (upd (upd (upd iv 7 (nI (us + C_61.length))) 18 (nI n)) 19 (nI (en j_61))) 20 (tkT (ks j_61))) 21 (ps j_61)) 22 vl2_61) 23 (nI 1)) 24 (ps j_61)) 26 (nI 6))), gA E (ad 15) 620 (cdW fr us (C_61.map trJ)), gA E (ad 17) 600 t]
          refine g_if_ne (tgt := 78) C dX10_one_73 (by decide) (fun c73 => absurd c73 (by decide)) (fun c73 => ?_)
          refine g_iconst (v := nI 0) C dX10_one_76 (by decide) ?_
          exact g_zret C Rt dX10_one_77 (by decide) (by decide) (by decide) (⟨false, _, _, _, _, _, _, _, rfl, rfl, rdT_er (by rw [pLv, if_pos (Or.inr e40), if_neg n5, hr_61]; exact if_neg hx) (by omega) (b2_61) (by omega) (b2_61), hv_61, fun z => absurd z (by decide)⟩)
      · refine g_if_eq (tgt := 76) C dX10_one_64 (by decide) (fun c64 => ?_) (fun c64 => absurd c64 (by decide))
        refine g_iconst (v := nI 0) C dX10_one_76 (by decide) ?_
        exact g_zret C Rt dX10_one_77 (by decide) (by decide) (by decide) (⟨false, _, _, _, _, _, _, _, rfl, rfl, rdT_er (by rw [pLv, if_pos (Or.inr e40), if_neg n5, hr_61]; rfl) (by omega) (b2_61) (by omega) (b4_61), hv_61, fun z => absurd z (by decide)⟩)
  · have e5 := (tq8 (hK i hi)).mp c6
    have hn8 := not_end hend hi e5 (by decide)
    refine g_aload_n C dX10_one_9 rfl ?_
    refine g_callV C (c_X10_opens_5 E h ad (upd iv 7 (nI us)) n cn i en ks ps t vl wr wa (by omega) (hb) (hL) (hn8)) gX10_one_X10_opens rfl 0 (by decide +kernel) ⟨by decide, by decide⟩ ⟨by decide, by decide⟩ 0 rfl rfl [0, 2] [1] (wr := [gA E (ad 15) 620 fr]) rfl (by decide) rfl (by decide) (by decide) rfl rfl (Nat.le_of_ble_eq_true rfl) dX10_one_10 ?_
    rintro _ _ ⟨vl2_10, rfl, rfl, hv_10⟩
    refine gg.perm (ws' := [gO h 10 (tF ad (upd (upd (upd (upd (upd (upd (upd (upd (upd iv 7 (nI us)) 18 (nI n)) 19 (nI (en (i + 1)))) 20 (tkT (ks (i + 1)))) 21 (ps (i + 1))) 22 vl2_10) 23 wr) 24 wa) 26 (nI 6))), gA E (ad 15) 620 fr, gA E (ad 17) 600 t]) [1, 0, 2] (by decide) rfl ?_
    show gg E _ 2 X 0 0 13 [some (.ref h), none] [.int (nI 1)] [gO h 10 (tF ad (upd (upd (upd (upd (upd (upd (upd (upd (upd iv 7 (nI us)) 18 (nI n)) 19 (nI (en (i + 1)))) 20 (tkT (ks (i + 1)))) 21 (ps (i + 1))) 22 vl2_10) 23 wr) 24 wa) 26 (nI 6))), gA E (ad 15) 620 fr, gA E (ad 17) 600 t]
    refine g_if_eq (tgt := 23) C dX10_one_13 (by decide) (fun c13 => absurd c13 (by decide)) (fun c13 => ?_)
    refine g_aload_n C dX10_one_16 rfl ?_
    refine g_callV C (c_X10_one_2 E h ad iv n cn us (i + 1) en ks ps fr t vl2_10 wr wa (by omega) (hb) (hL) (hK) (hend) (by omega) (by omega) (hv_10) (by omega)) gX10_one_X10_one rfl 0 (by decide +kernel) ⟨by decide, by decide⟩ ⟨by decide, by decide⟩ 0 rfl rfl [0, 1, 2] [] (wr := []) rfl (by decide) rfl (by decide) (by decide) rfl rfl (Nat.le_of_ble_eq_true rfl) dX10_one_17 ?_
    rintro _ _ ⟨ok_17, j_17, us2_17, fr2_17, vl2_17, wr2_17, wa2_17, dp2_17, rfl, rfl, hq_17, hv_17, hd_17⟩
    show gg E _ 2 X 0 0 20 [some (.ref h), none] [.int (b2i ok_17)] [gO h 10 (tF ad (upd (upd (upd (upd (upd (upd (upd (upd (upd iv 7 (nI us2_17)) 18 (nI n)) 19 (nI (en j_17))) 20 (tkT (ks j_17))) 21 (ps j_17)) 22 vl2_17) 23 wr2_17) 24 wa2_17) 26 dp2_17)), gA E (ad 15) 620 fr2_17, gA E (ad 17) 600 t]
    rcases rdT_two hq_17 with ⟨C_17, hr_17, rfl, rfl, rfl, rfl, rfl, b1_17, b2_17, b3_17⟩ | ⟨kd_17, ix_17, hr_17, rfl, rfl, rfl, b1_17, b2_17, b3_17, b4_17⟩
    · obtain rfl := hd_17 rfl
      refine g_if_ne (tgt := 25) C dX10_one_20 (by decide) (fun c20 => ?_) (fun c20 => absurd c20 (by decide))
      refine g_aload_n C dX10_one_25 rfl ?_
      refine g_dup C dX10_one_26 rfl ?_
      refine g_get C i_X10 0 26 f_188 rfl rfl (by decide) rfl rfl dX10_one_27 ?_
      show gg E _ 2 X 0 0 30 [some (.ref h), none] [.int (nI 6), .ref h] [gO h 10 (tF ad (upd (upd (upd (upd (upd (upd (upd (upd (upd iv 7 (nI (us + C_17.length))) 18 (nI n)) 19 (nI (en j_17))) 20 (tkT (ks j_17))) 21 (ps j_17)) 22 vl2_17) 23 wr) 24 wa) 26 (nI 6))), gA E (ad 15) 620 (cdW fr us (C_17.map trJ)), gA E (ad 17) 600 t]
      refine g_iconst (v := nI 1) C dX10_one_30 (by decide) ?_
      refine g_isub C dX10_one_31 (g_top (x' := nI 5) (by decide) ?_)
      refine g_put C i_X10 tyX10 tyX10_ok nmX10 0 26 f_188 rfl rfl (by decide) rfl rfl rfl rfl rfl (Nat.le_of_ble_eq_true rfl) dX10_one_32 (ws' := [gO h 10 (tF ad (upd (upd (upd (upd (upd (upd (upd (upd (upd iv 7 (nI (us + C_17.length))) 18 (nI n)) 19 (nI (en j_17))) 20 (tkT (ks j_17))) 21 (ps j_17)) 22 vl2_17) 23 wr) 24 wa) 26 (nI 5))), gA E (ad 15) 620 (cdW fr us (C_17.map trJ)), gA E (ad 17) 600 t]) rfl ?_
      refine g_aload_n C dX10_one_35 rfl ?_
      refine g_sipush (v := nI 2005) C dX10_one_36 (by decide) ?_
      refine g_callV C (c_X10_lay E h ad (upd (upd (upd (upd (upd (upd (upd (upd iv 18 (nI n)) 19 (nI (en j_17))) 20 (tkT (ks j_17))) 21 (ps j_17)) 22 vl2_17) 23 wr) 24 wa) 26 (nI 5)) (us + C_17.length) (cdW fr us (C_17.map trJ)) (nI 2005) (by omega)) gX10_one_X10_lay rfl 1 (by decide +kernel) ⟨by decide, by decide⟩ ⟨by decide, by decide⟩ 0 rfl rfl [0, 1] [2] (wr := [gA E (ad 17) 600 t]) rfl (by decide) rfl (by decide) (by decide) rfl rfl (Nat.le_of_ble_eq_true rfl) dX10_one_39 ?_
      rintro _ _ ⟨rfl, rfl⟩
      refine gg.perm (ws' := [gO h 10 (tF ad (upd (upd (upd (upd (upd (upd (upd (upd (upd iv 7 (nI ((us + C_17.length) + 1))) 18 (nI n)) 19 (nI (en j_17))) 20 (tkT (ks j_17))) 21 (ps j_17)) 22 vl2_17) 23 wr) 24 wa) 26 (nI 5))), gA E (ad 15) 620 (upd (cdW fr us (C_17.map trJ)) (us + C_17.length) (nI 2005)), gA E (ad 17) 600 t]) [1, 2, 0] (by decide) rfl ?_
      show gg E _ 2 X 0 0 42 [some (.ref h), none] [] [gO h 10 (tF ad (upd (upd (upd (upd (upd (upd (upd (upd (upd iv 7 (nI ((us + C_17.length) + 1))) 18 (nI n)) 19 (nI (en j_17))) 20 (tkT (ks j_17))) 21 (ps j_17)) 22 vl2_17) 23 wr) 24 wa) 26 (nI 5))), gA E (ad 15) 620 (upd (cdW fr us (C_17.map trJ)) (us + C_17.length) (nI 2005)), gA E (ad 17) 600 t]
      refine g_iconst (v := nI 1) C dX10_one_42 (by decide) ?_
      exact g_zret C Rt dX10_one_43 (by decide) (by decide) (by decide) (⟨true, _, _, _, _, _, _, _, rfl, rfl, rdT_ok (by rw [pLv, if_pos (Or.inl e5), if_pos e5, hr_17]; rfl) (by omega) b2_17 (by omega) (ln2 _ _ _) (cd2T _ _ _ _ _ (by decide)), hv_17, fun _ => rfl⟩)
    · refine g_if_ne (tgt := 25) C dX10_one_20 (by decide) (fun c20 => absurd c20 (by decide)) (fun c20 => ?_)
      refine g_iconst (v := nI 0) C dX10_one_23 (by decide) ?_
      exact g_zret C Rt dX10_one_24 (by decide) (by decide) (by decide) (⟨false, _, _, _, _, _, _, _, rfl, rfl, rdT_er (by rw [pLv, if_pos (Or.inl e5), if_pos e5, hr_17]; rfl) (by omega) (b2_17) (by omega) (b4_17), hv_17, fun z => absurd z (by decide)⟩)

abbrev rm_c_X10_all_3 : Room := { frames := 15, cells := 0, slots := 0, locals := 311 }
set_option maxHeartbeats 4000000 in
set_option maxRecDepth 100000 in
theorem c_X10_all_3 (E : gE) (h : Nat) (ad : Nat → Nat) (iv : Nat → Int32) (n cn us i : Nat) (en : Nat → Nat) (ks ps fr t : Nat → Int32) (vl wr wa : Int32) (hn : n ≤ 600) (hb : okY t n) (hL : twL t n cn ks ps en) (hK : ∀ q, q < cn → tkC (ks q)) (hend : ks (cn - 1) = nI 1011) (hcn : cn ≤ 601) (hi : i < cn) (hv : ¬ nI 999 < ks i → vl = ks i) (hus : us ≤ i) : MM E yX10_all wsX10_all rm_c_X10_all_3 [.ref h] [gO h 10 (tF ad (upd (upd (upd (upd (upd (upd (upd (upd (upd iv 7 (nI us)) 18 (nI n)) 19 (nI (en i))) 20 (tkT (ks i))) 21 (ps i)) 22 vl) 23 wr) 24 wa) 26 (nI 5))), gA E (ad 15) 620 fr, gA E (ad 17) 600 t] (fun rv_ ru_ => ∃ (ok : Bool) (j us2 : Nat) (fr2 : Nat → Int32) (vl2 wr2 wa2 dp2 : Int32), rv_ = some (.int (b2i ok)) ∧ ru_ = [gO h 10 (tF ad (upd (upd (upd (upd (upd (upd (upd (upd (upd iv 7 (nI us2)) 18 (nI n)) 19 (nI (en j))) 20 (tkT (ks j))) 21 (ps j)) 22 vl2) 23 wr2) 24 wa2) 26 dp2)), gA E (ad 15) 620 fr2, gA E (ad 17) 600 t] ∧ (rdQ (trR (pAll ks (pLv ks 3) i)) ps cn i us fr wr wa ok j us2 fr2 wr2 wa2) ∧ (¬ nI 999 < ks j → vl2 = ks j) ∧ (ok = true → dp2 = nI 5)) := by
  refine MM.ofG (cc := cX10_all) (maxL := 1) (ret := (some .boolean)) (by decide) rfl (Nat.le_of_ble_eq_true rfl) (ll := [some (.ref h)]) rfl ?_
  intro X C Rt
  have C : gx E X cX10_all 1 wsX10_all RX10 := C
  have i_X10 : ∀ w ∈ u_ws RX10 TX10 40, w ∈ wsX10_all := by decide +kernel
  have f_154 : Cond.fieldLink RX10 154 "MarkPagesModel" "token" "I" ∈ wsX10_all := by decide +kernel
  refine g_aload_n C dX10_all_0 rfl ?_
  refine g_callV C (c_X10_one_3 E h ad iv n cn us i en ks ps fr t vl wr wa (by omega) (hb) (hL) (hK) (hend) (by omega) (by omega) (hv) (by omega)) gX10_all_X10_one rfl 0 (by decide +kernel) ⟨by decide, by decide⟩ ⟨by decide, by decide⟩ 0 rfl rfl [0, 1, 2] [] (wr := []) rfl (by decide) rfl (by decide) (by decide) rfl rfl (Nat.le_of_ble_eq_true rfl) dX10_all_1 ?_
  rintro _ _ ⟨ok_1, j_1, us2_1, fr2_1, vl2_1, wr2_1, wa2_1, dp2_1, rfl, rfl, hq_1, hv_1, hd_1⟩
  show gg E _ 1 X 0 0 4 [some (.ref h)] [.int (b2i ok_1)] [gO h 10 (tF ad (upd (upd (upd (upd (upd (upd (upd (upd (upd iv 7 (nI us2_1)) 18 (nI n)) 19 (nI (en j_1))) 20 (tkT (ks j_1))) 21 (ps j_1)) 22 vl2_1) 23 wr2_1) 24 wa2_1) 26 dp2_1)), gA E (ad 15) 620 fr2_1, gA E (ad 17) 600 t]
  rcases rdT_two hq_1 with ⟨C_1, hr_1, rfl, rfl, rfl, rfl, rfl, b1_1, b2_1, b3_1⟩ | ⟨kd_1, ix_1, hr_1, rfl, rfl, rfl, b1_1, b2_1, b3_1, b4_1⟩
  · obtain rfl := hd_1 rfl
    refine g_if_ne (tgt := 9) C dX10_all_4 (by decide) (fun c4 => ?_) (fun c4 => absurd c4 (by decide))
    have L9 : ∀ (n9 : Nat) (it j1 f1 : Nat) (C1 : List Int32) (vl1 : Int32), cn - j1 < n9 → (j1 < cn) → (i + it ≤ j1) → (f1 + it = 601) → (C1.length + i ≤ j1) → (pAll ks (pLv ks 3) i = lpO ks (nI 1004) (pLv ks 3) f1 j1 C1) → (¬ nI 999 < ks j1 → vl1 = ks j1) → gg E rm_c_X10_all_3 1 X 0 0 9 [some (.ref h)] [] [gO h 10 (tF ad (upd (upd (upd (upd (upd (upd (upd (upd (upd iv 7 (nI (us + C1.length))) 18 (nI n)) 19 (nI (en j1))) 20 (tkT (ks j1))) 21 (ps j1)) 22 vl1) 23 wr) 24 wa) 26 (nI 5))), gA E (ad 15) 620 (cdW fr us (C1.map trJ)), gA E (ad 17) 600 t] := by
      intro n9
      induction n9 with
      | zero => intro it j1 f1 C1 vl1 hm9; exact absurd hm9 (Nat.not_lt_zero _)
      | succ n9 ih9 =>
        intro it j1 f1 C1 vl1 hm9 g1 g2 g3 g4 g5 hv1
        refine g_aload_n C dX10_all_9 rfl ?_
        refine g_get C i_X10 0 20 f_154 rfl rfl (by decide) rfl rfl dX10_all_10 ?_
        refine g_bipush (v := nI 7) C dX10_all_13 (by decide) ?_
        refine g_icmp_ne (tgt := 41) C dX10_all_15 (by decide) (fun c15 => ?_) (fun c15 => ?_)
        · refine g_iconst (v := nI 1) C dX10_all_41 (by decide) ?_
          exact g_zret C Rt dX10_all_42 (by decide) (by decide) (by decide) (⟨true, _, _, _, _, _, _, _, rfl, rfl, rdT_ok (by rw [g5, show f1 = f1 - 1 + 1 by omega, lpO, if_neg (fun z => c15 ((tq7 (hK _ g1)).mpr z))]) (by omega) g1 (by omega) rfl rfl, hv1, fun _ => rfl⟩)
        · have e15 := (tq7 (hK _ g1)).mp c15
          have hn7 := not_end hend g1 e15 (by decide)
          refine g_aload_n C dX10_all_18 rfl ?_
          refine g_callV C (c_X10_nextT E h ad (upd (upd (upd (upd iv 7 (nI (us + C1.length))) 23 wr) 24 wa) 26 (nI 5)) n cn j1 en ks ps t (tkT (ks j1)) (ps j1) vl1 (by omega) (hb) (hL) (hn7)) gX10_all_X10_next0 rfl 0 (by decide +kernel) ⟨by decide, by decide⟩ ⟨by decide, by decide⟩ 0 rfl rfl [0, 2] [1] (wr := [gA E (ad 15) 620 (cdW fr us (C1.map trJ))]) rfl (by decide) rfl (by decide) (by decide) rfl rfl (Nat.le_of_ble_eq_true rfl) dX10_all_19 ?_
          rintro _ _ ⟨vl2_19, rfl, rfl, hv_19⟩
          refine gg.perm (ws' := [gO h 10 (tF ad (upd (upd (upd (upd (upd (upd (upd (upd (upd iv 7 (nI (us + C1.length))) 18 (nI n)) 19 (nI (en (j1 + 1)))) 20 (tkT (ks (j1 + 1)))) 21 (ps (j1 + 1))) 22 vl2_19) 23 wr) 24 wa) 26 (nI 5))), gA E (ad 15) 620 (cdW fr us (C1.map trJ)), gA E (ad 17) 600 t]) [1, 0, 2] (by decide) rfl ?_
          show gg E _ 1 X 0 0 22 [some (.ref h)] [] [gO h 10 (tF ad (upd (upd (upd (upd (upd (upd (upd (upd (upd iv 7 (nI (us + C1.length))) 18 (nI n)) 19 (nI (en (j1 + 1)))) 20 (tkT (ks (j1 + 1)))) 21 (ps (j1 + 1))) 22 vl2_19) 23 wr) 24 wa) 26 (nI 5))), gA E (ad 15) 620 (cdW fr us (C1.map trJ)), gA E (ad 17) 600 t]
          refine g_aload_n C dX10_all_22 rfl ?_
          refine g_callV C (c_X10_one_3 E h ad iv n cn (us + C1.length) (j1 + 1) en ks ps (cdW fr us (C1.map trJ)) t vl2_19 wr wa (by omega) (hb) (hL) (hK) (hend) (by omega) (by omega) (hv_19) (by omega)) gX10_all_X10_one rfl 0 (by decide +kernel) ⟨by decide, by decide⟩ ⟨by decide, by decide⟩ 0 rfl rfl [0, 1, 2] [] (wr := []) rfl (by decide) rfl (by decide) (by decide) rfl rfl (Nat.le_of_ble_eq_true rfl) dX10_all_23 ?_
          rintro _ _ ⟨ok_23, j_23, us2_23, fr2_23, vl2_23, wr2_23, wa2_23, dp2_23, rfl, rfl, hq_23, hv_23, hd_23⟩
          show gg E _ 1 X 0 0 26 [some (.ref h)] [.int (b2i ok_23)] [gO h 10 (tF ad (upd (upd (upd (upd (upd (upd (upd (upd (upd iv 7 (nI us2_23)) 18 (nI n)) 19 (nI (en j_23))) 20 (tkT (ks j_23))) 21 (ps j_23)) 22 vl2_23) 23 wr2_23) 24 wa2_23) 26 dp2_23)), gA E (ad 15) 620 fr2_23, gA E (ad 17) 600 t]
          rcases rdT_two hq_23 with ⟨C_23, hr_23, rfl, rfl, rfl, rfl, rfl, b1_23, b2_23, b3_23⟩ | ⟨kd_23, ix_23, hr_23, rfl, rfl, rfl, b1_23, b2_23, b3_23, b4_23⟩
          · obtain rfl := hd_23 rfl
            refine g_if_ne (tgt := 31) C dX10_all_26 (by decide) (fun c26 => ?_) (fun c26 => absurd c26 (by decide))
            refine g_aload_n C dX10_all_31 rfl ?_
            refine g_sipush (v := nI 2006) C dX10_all_32 (by decide) ?_
            refine g_callV C (c_X10_lay E h ad (upd (upd (upd (upd (upd (upd (upd (upd iv 18 (nI n)) 19 (nI (en j_23))) 20 (tkT (ks j_23))) 21 (ps j_23)) 22 vl2_23) 23 wr) 24 wa) 26 (nI 5)) (us + C1.length + C_23.length) (cdW (cdW fr us (C1.map trJ)) (us + C1.length) (C_23.map trJ)) (nI 2006) (by omega)) gX10_all_X10_lay rfl 1 (by decide +kernel) ⟨by decide, by decide⟩ ⟨by decide, by decide⟩ 0 rfl rfl [0, 1] [2] (wr := [gA E (ad 17) 600 t]) rfl (by decide) rfl (by decide) (by decide) rfl rfl (Nat.le_of_ble_eq_true rfl) dX10_all_35 ?_
            rintro _ _ ⟨rfl, rfl⟩
            refine gg.perm (ws' := [gO h 10 (tF ad (upd (upd (upd (upd (upd (upd (upd (upd (upd iv 7 (nI ((us + C1.length + C_23.length) + 1))) 18 (nI n)) 19 (nI (en j_23))) 20 (tkT (ks j_23))) 21 (ps j_23)) 22 vl2_23) 23 wr) 24 wa) 26 (nI 5))), gA E (ad 15) 620 (upd (cdW (cdW fr us (C1.map trJ)) (us + C1.length) (C_23.map trJ)) (us + C1.length + C_23.length) (nI 2006)), gA E (ad 17) 600 t]) [1, 2, 0] (by decide) rfl ?_
            show gg E _ 1 X 0 0 38 [some (.ref h)] [] [gO h 10 (tF ad (upd (upd (upd (upd (upd (upd (upd (upd (upd iv 7 (nI ((us + C1.length + C_23.length) + 1))) 18 (nI n)) 19 (nI (en j_23))) 20 (tkT (ks j_23))) 21 (ps j_23)) 22 vl2_23) 23 wr) 24 wa) 26 (nI 5))), gA E (ad 15) 620 (upd (cdW (cdW fr us (C1.map trJ)) (us + C1.length) (C_23.map trJ)) (us + C1.length + C_23.length) (nI 2006)), gA E (ad 17) 600 t]
            rw [ln3 us C1 C_23 (nI 1004), cd3T fr us C1 C_23 (nI 1004) (nI 2006) (by decide)]
            refine g_goto (tgt := 9) C dX10_all_38 (by decide) ?_
            exact ih9 (it + 1) j_23 (f1 - 1) (C1 ++ C_23 ++ [nI 1004]) vl2_23 (by omega) (by omega) (by omega) (by omega) (by have := ln3 us C1 C_23 (nI 1004); omega) (by rw [g5, show f1 = f1 - 1 + 1 by omega, lpO, if_pos e15, hr_23]; rfl) (hv_23)
          · refine g_if_ne (tgt := 31) C dX10_all_26 (by decide) (fun c26 => absurd c26 (by decide)) (fun c26 => ?_)
            refine g_iconst (v := nI 0) C dX10_all_29 (by decide) ?_
            exact g_zret C Rt dX10_all_30 (by decide) (by decide) (by decide) (⟨false, _, _, _, _, _, _, _, rfl, rfl, rdT_er (by rw [g5, show f1 = f1 - 1 + 1 by omega, lpO, if_pos e15, hr_23]) (by omega) b2_23 (by omega) b4_23, hv_23, fun z => absurd z (by decide)⟩)
    exact L9 _ 0 j_1 601 C_1 vl2_1 (Nat.lt_succ_self _) (by omega) (by omega) (by omega) (by omega) (by rw [pAll, hr_1]; rfl) (hv_1)
  · refine g_if_ne (tgt := 9) C dX10_all_4 (by decide) (fun c4 => absurd c4 (by decide)) (fun c4 => ?_)
    refine g_iconst (v := nI 0) C dX10_all_7 (by decide) ?_
    exact g_zret C Rt dX10_all_8 (by decide) (by decide) (by decide) (⟨false, _, _, _, _, _, _, _, rfl, rfl, rdT_er (by rw [pAll, hr_1]; rfl) b1_1 b2_1 b3_1 b4_1, hv_1, fun z => absurd z (by decide)⟩)

abbrev rm_c_X10_any_3 : Room := { frames := 16, cells := 0, slots := 0, locals := 331 }
set_option maxHeartbeats 4000000 in
set_option maxRecDepth 100000 in
theorem c_X10_any_3 (E : gE) (h : Nat) (ad : Nat → Nat) (iv : Nat → Int32) (n cn us i : Nat) (en : Nat → Nat) (ks ps fr t : Nat → Int32) (vl wr wa : Int32) (hn : n ≤ 600) (hb : okY t n) (hL : twL t n cn ks ps en) (hK : ∀ q, q < cn → tkC (ks q)) (hend : ks (cn - 1) = nI 1011) (hcn : cn ≤ 601) (hi : i < cn) (hv : ¬ nI 999 < ks i → vl = ks i) (hus : us ≤ i) : MM E yX10_any wsX10_any rm_c_X10_any_3 [.ref h] [gO h 10 (tF ad (upd (upd (upd (upd (upd (upd (upd (upd (upd iv 7 (nI us)) 18 (nI n)) 19 (nI (en i))) 20 (tkT (ks i))) 21 (ps i)) 22 vl) 23 wr) 24 wa) 26 (nI 5))), gA E (ad 15) 620 fr, gA E (ad 17) 600 t] (fun rv_ ru_ => ∃ (ok : Bool) (j us2 : Nat) (fr2 : Nat → Int32) (vl2 wr2 wa2 dp2 : Int32), rv_ = some (.int (b2i ok)) ∧ ru_ = [gO h 10 (tF ad (upd (upd (upd (upd (upd (upd (upd (upd (upd iv 7 (nI us2)) 18 (nI n)) 19 (nI (en j))) 20 (tkT (ks j))) 21 (ps j)) 22 vl2) 23 wr2) 24 wa2) 26 dp2)), gA E (ad 15) 620 fr2, gA E (ad 17) 600 t] ∧ (rdQ (trR (pAny ks (pLv ks 3) i)) ps cn i us fr wr wa ok j us2 fr2 wr2 wa2) ∧ (¬ nI 999 < ks j → vl2 = ks j) ∧ (ok = true → dp2 = nI 5)) := by
  refine MM.ofG (cc := cX10_any) (maxL := 1) (ret := (some .boolean)) (by decide) rfl (Nat.le_of_ble_eq_true rfl) (ll := [some (.ref h)]) rfl ?_
  intro X C Rt
  have C : gx E X cX10_any 1 wsX10_any RX10 := C
  have i_X10 : ∀ w ∈ u_ws RX10 TX10 40, w ∈ wsX10_any := by decide +kernel
  have f_154 : Cond.fieldLink RX10 154 "MarkPagesModel" "token" "I" ∈ wsX10_any := by decide +kernel
  refine g_aload_n C dX10_any_0 rfl ?_
  refine g_callV C (c_X10_all_3 E h ad iv n cn us i en ks ps fr t vl wr wa (by omega) (hb) (hL) (hK) (hend) (by omega) (by omega) (hv) (by omega)) gX10_any_X10_all rfl 0 (by decide +kernel) ⟨by decide, by decide⟩ ⟨by decide, by decide⟩ 0 rfl rfl [0, 1, 2] [] (wr := []) rfl (by decide) rfl (by decide) (by decide) rfl rfl (Nat.le_of_ble_eq_true rfl) dX10_any_1 ?_
  rintro _ _ ⟨ok_1, j_1, us2_1, fr2_1, vl2_1, wr2_1, wa2_1, dp2_1, rfl, rfl, hq_1, hv_1, hd_1⟩
  show gg E _ 1 X 0 0 4 [some (.ref h)] [.int (b2i ok_1)] [gO h 10 (tF ad (upd (upd (upd (upd (upd (upd (upd (upd (upd iv 7 (nI us2_1)) 18 (nI n)) 19 (nI (en j_1))) 20 (tkT (ks j_1))) 21 (ps j_1)) 22 vl2_1) 23 wr2_1) 24 wa2_1) 26 dp2_1)), gA E (ad 15) 620 fr2_1, gA E (ad 17) 600 t]
  rcases rdT_two hq_1 with ⟨C_1, hr_1, rfl, rfl, rfl, rfl, rfl, b1_1, b2_1, b3_1⟩ | ⟨kd_1, ix_1, hr_1, rfl, rfl, rfl, b1_1, b2_1, b3_1, b4_1⟩
  · obtain rfl := hd_1 rfl
    refine g_if_ne (tgt := 9) C dX10_any_4 (by decide) (fun c4 => ?_) (fun c4 => absurd c4 (by decide))
    have L9 : ∀ (n9 : Nat) (it j1 f1 : Nat) (C1 : List Int32) (vl1 : Int32), cn - j1 < n9 → (j1 < cn) → (i + it ≤ j1) → (f1 + it = 601) → (C1.length + i ≤ j1) → (pAny ks (pLv ks 3) i = lpO ks (nI 1003) (pAll ks (pLv ks 3)) f1 j1 C1) → (¬ nI 999 < ks j1 → vl1 = ks j1) → gg E rm_c_X10_any_3 1 X 0 0 9 [some (.ref h)] [] [gO h 10 (tF ad (upd (upd (upd (upd (upd (upd (upd (upd (upd iv 7 (nI (us + C1.length))) 18 (nI n)) 19 (nI (en j1))) 20 (tkT (ks j1))) 21 (ps j1)) 22 vl1) 23 wr) 24 wa) 26 (nI 5))), gA E (ad 15) 620 (cdW fr us (C1.map trJ)), gA E (ad 17) 600 t] := by
      intro n9
      induction n9 with
      | zero => intro it j1 f1 C1 vl1 hm9; exact absurd hm9 (Nat.not_lt_zero _)
      | succ n9 ih9 =>
        intro it j1 f1 C1 vl1 hm9 g1 g2 g3 g4 g5 hv1
        refine g_aload_n C dX10_any_9 rfl ?_
        refine g_get C i_X10 0 20 f_154 rfl rfl (by decide) rfl rfl dX10_any_10 ?_
        refine g_bipush (v := nI 6) C dX10_any_13 (by decide) ?_
        refine g_icmp_ne (tgt := 41) C dX10_any_15 (by decide) (fun c15 => ?_) (fun c15 => ?_)
        · refine g_iconst (v := nI 1) C dX10_any_41 (by decide) ?_
          exact g_zret C Rt dX10_any_42 (by decide) (by decide) (by decide) (⟨true, _, _, _, _, _, _, _, rfl, rfl, rdT_ok (by rw [g5, show f1 = f1 - 1 + 1 by omega, lpO, if_neg (fun z => c15 ((tq6 (hK _ g1)).mpr z))]) (by omega) g1 (by omega) rfl rfl, hv1, fun _ => rfl⟩)
        · have e15 := (tq6 (hK _ g1)).mp c15
          have hn7 := not_end hend g1 e15 (by decide)
          refine g_aload_n C dX10_any_18 rfl ?_
          refine g_callV C (c_X10_nextT E h ad (upd (upd (upd (upd iv 7 (nI (us + C1.length))) 23 wr) 24 wa) 26 (nI 5)) n cn j1 en ks ps t (tkT (ks j1)) (ps j1) vl1 (by omega) (hb) (hL) (hn7)) gX10_any_X10_next0 rfl 0 (by decide +kernel) ⟨by decide, by decide⟩ ⟨by decide, by decide⟩ 0 rfl rfl [0, 2] [1] (wr := [gA E (ad 15) 620 (cdW fr us (C1.map trJ))]) rfl (by decide) rfl (by decide) (by decide) rfl rfl (Nat.le_of_ble_eq_true rfl) dX10_any_19 ?_
          rintro _ _ ⟨vl2_19, rfl, rfl, hv_19⟩
          refine gg.perm (ws' := [gO h 10 (tF ad (upd (upd (upd (upd (upd (upd (upd (upd (upd iv 7 (nI (us + C1.length))) 18 (nI n)) 19 (nI (en (j1 + 1)))) 20 (tkT (ks (j1 + 1)))) 21 (ps (j1 + 1))) 22 vl2_19) 23 wr) 24 wa) 26 (nI 5))), gA E (ad 15) 620 (cdW fr us (C1.map trJ)), gA E (ad 17) 600 t]) [1, 0, 2] (by decide) rfl ?_
          show gg E _ 1 X 0 0 22 [some (.ref h)] [] [gO h 10 (tF ad (upd (upd (upd (upd (upd (upd (upd (upd (upd iv 7 (nI (us + C1.length))) 18 (nI n)) 19 (nI (en (j1 + 1)))) 20 (tkT (ks (j1 + 1)))) 21 (ps (j1 + 1))) 22 vl2_19) 23 wr) 24 wa) 26 (nI 5))), gA E (ad 15) 620 (cdW fr us (C1.map trJ)), gA E (ad 17) 600 t]
          refine g_aload_n C dX10_any_22 rfl ?_
          refine g_callV C (c_X10_all_3 E h ad iv n cn (us + C1.length) (j1 + 1) en ks ps (cdW fr us (C1.map trJ)) t vl2_19 wr wa (by omega) (hb) (hL) (hK) (hend) (by omega) (by omega) (hv_19) (by omega)) gX10_any_X10_all rfl 0 (by decide +kernel) ⟨by decide, by decide⟩ ⟨by decide, by decide⟩ 0 rfl rfl [0, 1, 2] [] (wr := []) rfl (by decide) rfl (by decide) (by decide) rfl rfl (Nat.le_of_ble_eq_true rfl) dX10_any_23 ?_
          rintro _ _ ⟨ok_23, j_23, us2_23, fr2_23, vl2_23, wr2_23, wa2_23, dp2_23, rfl, rfl, hq_23, hv_23, hd_23⟩
          show gg E _ 1 X 0 0 26 [some (.ref h)] [.int (b2i ok_23)] [gO h 10 (tF ad (upd (upd (upd (upd (upd (upd (upd (upd (upd iv 7 (nI us2_23)) 18 (nI n)) 19 (nI (en j_23))) 20 (tkT (ks j_23))) 21 (ps j_23)) 22 vl2_23) 23 wr2_23) 24 wa2_23) 26 dp2_23)), gA E (ad 15) 620 fr2_23, gA E (ad 17) 600 t]
          rcases rdT_two hq_23 with ⟨C_23, hr_23, rfl, rfl, rfl, rfl, rfl, b1_23, b2_23, b3_23⟩ | ⟨kd_23, ix_23, hr_23, rfl, rfl, rfl, b1_23, b2_23, b3_23, b4_23⟩
          · obtain rfl := hd_23 rfl
            refine g_if_ne (tgt := 31) C dX10_any_26 (by decide) (fun c26 => ?_) (fun c26 => absurd c26 (by decide))
            refine g_aload_n C dX10_any_31 rfl ?_
            refine g_sipush (v := nI 2007) C dX10_any_32 (by decide) ?_
            refine g_callV C (c_X10_lay E h ad (upd (upd (upd (upd (upd (upd (upd (upd iv 18 (nI n)) 19 (nI (en j_23))) 20 (tkT (ks j_23))) 21 (ps j_23)) 22 vl2_23) 23 wr) 24 wa) 26 (nI 5)) (us + C1.length + C_23.length) (cdW (cdW fr us (C1.map trJ)) (us + C1.length) (C_23.map trJ)) (nI 2007) (by omega)) gX10_any_X10_lay rfl 1 (by decide +kernel) ⟨by decide, by decide⟩ ⟨by decide, by decide⟩ 0 rfl rfl [0, 1] [2] (wr := [gA E (ad 17) 600 t]) rfl (by decide) rfl (by decide) (by decide) rfl rfl (Nat.le_of_ble_eq_true rfl) dX10_any_35 ?_
            rintro _ _ ⟨rfl, rfl⟩
            refine gg.perm (ws' := [gO h 10 (tF ad (upd (upd (upd (upd (upd (upd (upd (upd (upd iv 7 (nI ((us + C1.length + C_23.length) + 1))) 18 (nI n)) 19 (nI (en j_23))) 20 (tkT (ks j_23))) 21 (ps j_23)) 22 vl2_23) 23 wr) 24 wa) 26 (nI 5))), gA E (ad 15) 620 (upd (cdW (cdW fr us (C1.map trJ)) (us + C1.length) (C_23.map trJ)) (us + C1.length + C_23.length) (nI 2007)), gA E (ad 17) 600 t]) [1, 2, 0] (by decide) rfl ?_
            show gg E _ 1 X 0 0 38 [some (.ref h)] [] [gO h 10 (tF ad (upd (upd (upd (upd (upd (upd (upd (upd (upd iv 7 (nI ((us + C1.length + C_23.length) + 1))) 18 (nI n)) 19 (nI (en j_23))) 20 (tkT (ks j_23))) 21 (ps j_23)) 22 vl2_23) 23 wr) 24 wa) 26 (nI 5))), gA E (ad 15) 620 (upd (cdW (cdW fr us (C1.map trJ)) (us + C1.length) (C_23.map trJ)) (us + C1.length + C_23.length) (nI 2007)), gA E (ad 17) 600 t]
            rw [ln3 us C1 C_23 (nI 1003), cd3T fr us C1 C_23 (nI 1003) (nI 2007) (by decide)]
            refine g_goto (tgt := 9) C dX10_any_38 (by decide) ?_
            exact ih9 (it + 1) j_23 (f1 - 1) (C1 ++ C_23 ++ [nI 1003]) vl2_23 (by omega) (by omega) (by omega) (by omega) (by have := ln3 us C1 C_23 (nI 1003); omega) (by rw [g5, show f1 = f1 - 1 + 1 by omega, lpO, if_pos e15, hr_23]; rfl) (hv_23)
          · refine g_if_ne (tgt := 31) C dX10_any_26 (by decide) (fun c26 => absurd c26 (by decide)) (fun c26 => ?_)
            refine g_iconst (v := nI 0) C dX10_any_29 (by decide) ?_
            exact g_zret C Rt dX10_any_30 (by decide) (by decide) (by decide) (⟨false, _, _, _, _, _, _, _, rfl, rfl, rdT_er (by rw [g5, show f1 = f1 - 1 + 1 by omega, lpO, if_pos e15, hr_23]) (by omega) b2_23 (by omega) b4_23, hv_23, fun z => absurd z (by decide)⟩)
    exact L9 _ 0 j_1 601 C_1 vl2_1 (Nat.lt_succ_self _) (by omega) (by omega) (by omega) (by omega) (by rw [pAny, hr_1]; rfl) (hv_1)
  · refine g_if_ne (tgt := 9) C dX10_any_4 (by decide) (fun c4 => absurd c4 (by decide)) (fun c4 => ?_)
    refine g_iconst (v := nI 0) C dX10_any_7 (by decide) ?_
    exact g_zret C Rt dX10_any_8 (by decide) (by decide) (by decide) (⟨false, _, _, _, _, _, _, _, rfl, rfl, rdT_er (by rw [pAny, hr_1]; rfl) b1_1 b2_1 b3_1 b4_1, hv_1, fun z => absurd z (by decide)⟩)

abbrev rm_c_X10_one_4 : Room := { frames := 17, cells := 0, slots := 0, locals := 351 }
set_option maxHeartbeats 4000000 in
set_option maxRecDepth 100000 in
theorem c_X10_one_4 (E : gE) (h : Nat) (ad : Nat → Nat) (iv : Nat → Int32) (n cn us i : Nat) (en : Nat → Nat) (ks ps fr t : Nat → Int32) (vl wr wa : Int32) (hn : n ≤ 600) (hb : okY t n) (hL : twL t n cn ks ps en) (hK : ∀ q, q < cn → tkC (ks q)) (hend : ks (cn - 1) = nI 1011) (hcn : cn ≤ 601) (hi : i < cn) (hv : ¬ nI 999 < ks i → vl = ks i) (hus : us ≤ i) : MM E yX10_one wsX10_one rm_c_X10_one_4 [.ref h] [gO h 10 (tF ad (upd (upd (upd (upd (upd (upd (upd (upd (upd iv 7 (nI us)) 18 (nI n)) 19 (nI (en i))) 20 (tkT (ks i))) 21 (ps i)) 22 vl) 23 wr) 24 wa) 26 (nI 4))), gA E (ad 15) 620 fr, gA E (ad 17) 600 t] (fun rv_ ru_ => ∃ (ok : Bool) (j us2 : Nat) (fr2 : Nat → Int32) (vl2 wr2 wa2 dp2 : Int32), rv_ = some (.int (b2i ok)) ∧ ru_ = [gO h 10 (tF ad (upd (upd (upd (upd (upd (upd (upd (upd (upd iv 7 (nI us2)) 18 (nI n)) 19 (nI (en j))) 20 (tkT (ks j))) 21 (ps j)) 22 vl2) 23 wr2) 24 wa2) 26 dp2)), gA E (ad 15) 620 fr2, gA E (ad 17) 600 t] ∧ (rdQ (trR (pLv ks 4 i)) ps cn i us fr wr wa ok j us2 fr2 wr2 wa2) ∧ (¬ nI 999 < ks j → vl2 = ks j) ∧ (ok = true → dp2 = nI 4)) := by
  refine MM.ofG (cc := cX10_one) (maxL := 2) (ret := (some .boolean)) (by decide) rfl (Nat.le_of_ble_eq_true rfl) (ll := [some (.ref h), none]) rfl ?_
  intro X C Rt
  have C : gx E X cX10_one 2 wsX10_one RX10 := C
  have i_X10 : ∀ w ∈ u_ws RX10 TX10 40, w ∈ wsX10_one := by decide +kernel
  have f_154 : Cond.fieldLink RX10 154 "MarkPagesModel" "token" "I" ∈ wsX10_one := by decide +kernel
  have f_188 : Cond.fieldLink RX10 188 "MarkPagesModel" "depth" "I" ∈ wsX10_one := by decide +kernel
  refine g_aload_n C dX10_one_0 rfl ?_
  refine g_get C i_X10 0 20 f_154 rfl rfl (by decide) rfl rfl dX10_one_1 ?_
  refine g_bipush (v := nI 8) C dX10_one_4 (by decide) ?_
  refine g_icmp_ne (tgt := 44) C dX10_one_6 (by decide) (fun c6 => ?_) (fun c6 => ?_)
  · have n5 := fun z => c6 ((tq8 (hK i hi)).mpr z)
    refine g_aload_n C dX10_one_44 rfl ?_
    refine g_get C i_X10 0 20 f_154 rfl rfl (by decide) rfl rfl dX10_one_45 ?_
    refine g_bipush (v := nI 40) C dX10_one_48 (by decide) ?_
    refine g_icmp_ne (tgt := 90) C dX10_one_50 (by decide) (fun c50 => ?_) (fun c50 => ?_)
    · have n40 := fun z => c50 ((tq40 (hK i hi)).mpr z)
      refine g_aload_n C dX10_one_90 rfl ?_
      refine g_callV C (c_X10_sum E h ad (upd iv 26 (nI 4)) n cn us i en ks ps fr t vl wr wa (by omega) (hb) (hL) (hK) (hend) (by omega) (by omega) (hv) (by omega)) gX10_one_X10_sum rfl 0 (by decide +kernel) ⟨by decide, by decide⟩ ⟨by decide, by decide⟩ 0 rfl rfl [0, 1, 2] [] (wr := []) rfl (by decide) rfl (by decide) (by decide) rfl rfl (Nat.le_of_ble_eq_true rfl) dX10_one_91 ?_
      rintro _ _ ⟨ok_91, j_91, us2_91, fr2_91, vl2_91, wr2_91, wa2_91, rfl, rfl, hq_91, hv_91⟩
      show gg E _ 2 X 0 0 94 [some (.ref h), none] [.int (b2i ok_91)] [gO h 10 (tF ad (upd (upd (upd (upd (upd (upd (upd (upd (upd iv 7 (nI us2_91)) 18 (nI n)) 19 (nI (en j_91))) 20 (tkT (ks j_91))) 21 (ps j_91)) 22 vl2_91) 23 wr2_91) 24 wa2_91) 26 (nI 4))), gA E (ad 15) 620 fr2_91, gA E (ad 17) 600 t]
      rcases rdT_two hq_91 with ⟨C_91, hr_91, rfl, rfl, rfl, rfl, rfl, b1_91, b2_91, b3_91⟩ | ⟨kd_91, ix_91, hr_91, rfl, rfl, rfl, b1_91, b2_91, b3_91, b4_91⟩
      · refine g_if_ne (tgt := 99) C dX10_one_94 (by decide) (fun c94 => ?_) (fun c94 => absurd c94 (by decide))
        refine g_aload_n C dX10_one_99 rfl ?_
        refine g_get C i_X10 0 20 f_154 rfl rfl (by decide) rfl rfl dX10_one_100 ?_
        refine g_bipush (v := nI 60) C dX10_one_103 (by decide) ?_
        refine g_icmp_ne (tgt := 114) C dX10_one_105 (by decide) (fun c105 => ?_) (fun c105 => ?_)
        · have n60 := fun z => c105 ((tq60 (hK _ b2_91)).mpr z)
          refine g_aload_n C dX10_one_114 rfl ?_
          refine g_get C i_X10 0 20 f_154 rfl rfl (by decide) rfl rfl dX10_one_115 ?_
          refine g_bipush (v := nI 61) C dX10_one_118 (by decide) ?_
          refine g_icmp_ne (tgt := 129) C dX10_one_120 (by decide) (fun c120 => ?_) (fun c120 => ?_)
          · have n61 := fun z => c120 ((tq61 (hK _ b2_91)).mpr z)
            refine g_aload_n C dX10_one_129 rfl ?_
            refine g_get C i_X10 0 20 f_154 rfl rfl (by decide) rfl rfl dX10_one_130 ?_
            refine g_bipush (v := nI 62) C dX10_one_133 (by decide) ?_
            refine g_icmp_ne (tgt := 144) C dX10_one_135 (by decide) (fun c135 => ?_) (fun c135 => ?_)
            · have n62 := fun z => c135 ((tq62 (hK _ b2_91)).mpr z)
              refine g_iconst (v := -1) C dX10_one_144 (by decide) ?_
              refine g_istore_n C dX10_one_145 (by decide) rfl (ll' := [some (.ref h), some (.int (-1))]) rfl ?_
              refine g_iload_n C dX10_one_146 rfl ?_
              refine g_iconst (v := -1) C dX10_one_147 (by decide) ?_
              refine g_icmp_ne (tgt := 157) C dX10_one_148 (by decide) (fun c148 => absurd c148 (by decide)) (fun c148 => ?_)
              refine g_aload_n C dX10_one_151 rfl ?_
              refine g_iconst (v := nI 1) C dX10_one_152 (by decide) ?_
              refine g_callV C (c_X10_bad E h ad (upd (upd (upd (upd (upd (upd iv 7 (nI (us + C_91.length))) 18 (nI n)) 19 (nI (en j_91))) 20 (tkT (ks j_91))) 22 vl2_91) 26 (nI 4)) 1 (ps j_91) wr wa ) gX10_one_X10_bad rfl 1 (by decide +kernel) ⟨by decide, by decide⟩ ⟨by decide, by decide⟩ 0 rfl rfl [0] [1, 2] (wr := [gA E (ad 15) 620 (cdW fr us (C_91.map trJ)), gA E (ad 17) 600 t]) rfl (by decide) rfl (by decide) (by decide) rfl rfl (Nat.le_of_ble_eq_true rfl) dX10_one_153 ?_
              rintro _ _ ⟨rfl, rfl⟩
              refine gg.perm (ws' := [gO h 10 (tF ad (upd (upd (upd (upd (upd (upd (upd (upd (upd iv 7 (nI (us + C_91.length))) 18 (nI n)) 19 (nI (en j_91))) 20 (tkT (ks j_91))) 21 (ps j_91)) 22 vl2_91) 23 (nI 1)) 24 (ps j_91)) 26 (nI 4))), gA E (ad 15) 620 (cdW fr us (C_91.map trJ)), gA E (ad 17) 600 t]) [2, 0, 1] (by decide) rfl ?_
              show gg E _ 2 X 0 0 156 [some (.ref h), some (.int (-1))] [.int (nI 0)] [gO h 10 (tF ad (upd (upd (upd (upd (upd (upd (upd (upd (upd iv 7 (nI (us + C_91.length))) 18 (nI n)) 19 (nI (en j_91))) 20 (tkT (ks j_91))) 21 (ps j_91)) 22 vl2_91) 23 (nI 1)) 24 (ps j_91)) 26 (nI 4))), gA E (ad 15) 620 (cdW fr us (C_91.map trJ)), gA E (ad 17) 600 t]
              exact g_zret C Rt dX10_one_156 (by decide) (by decide) (by decide) (⟨false, _, _, _, _, _, _, _, rfl, rfl, rdT_er (by rw [pLv, if_neg (fun z => z.elim n5 n40), pCmp, hr_91]; exact if_neg (fun z => z.elim n60 (fun z => z.elim n61 n62))) (b1_91) (b2_91) (b3_91) (b2_91), hv_91, fun z => absurd z (by decide)⟩)
            · have e62 := (tq62 (hK _ b2_91)).mp c135
              refine g_sipush (v := nI 2004) C dX10_one_138 (by decide) ?_
              refine g_goto (tgt := 145) C dX10_one_141 (by decide) ?_
              refine g_istore_n C dX10_one_145 (by decide) rfl (ll' := [some (.ref h), some (.int (nI 2004))]) rfl ?_
              refine g_iload_n C dX10_one_146 rfl ?_
              refine g_iconst (v := -1) C dX10_one_147 (by decide) ?_
              refine g_icmp_ne (tgt := 157) C dX10_one_148 (by decide) (fun c148 => ?_) (fun c148 => absurd c148 (by decide))
              have hn7 := not_end hend b2_91 e62 (by decide)
              refine g_aload_n C dX10_one_157 rfl ?_
              refine g_callV C (c_X10_nextT E h ad (upd (upd (upd (upd iv 7 (nI (us + C_91.length))) 23 wr) 24 wa) 26 (nI 4)) n cn j_91 en ks ps t (tkT (ks j_91)) (ps j_91) vl2_91 (by omega) (hb) (hL) (hn7)) gX10_one_X10_next0 rfl 0 (by decide +kernel) ⟨by decide, by decide⟩ ⟨by decide, by decide⟩ 0 rfl rfl [0, 2] [1] (wr := [gA E (ad 15) 620 (cdW fr us (C_91.map trJ))]) rfl (by decide) rfl (by decide) (by decide) rfl rfl (Nat.le_of_ble_eq_true rfl) dX10_one_158 ?_
              rintro _ _ ⟨vl2_158, rfl, rfl, hv_158⟩
              refine gg.perm (ws' := [gO h 10 (tF ad (upd (upd (upd (upd (upd (upd (upd (upd (upd iv 7 (nI (us + C_91.length))) 18 (nI n)) 19 (nI (en (j_91 + 1)))) 20 (tkT (ks (j_91 + 1)))) 21 (ps (j_91 + 1))) 22 vl2_158) 23 wr) 24 wa) 26 (nI 4))), gA E (ad 15) 620 (cdW fr us (C_91.map trJ)), gA E (ad 17) 600 t]) [1, 0, 2] (by decide) rfl ?_
              show gg E _ 2 X 0 0 161 [some (.ref h), some (.int (nI 2004))] [] [gO h 10 (tF ad (upd (upd (upd (upd (upd (upd (upd (upd (upd iv 7 (nI (us + C_91.length))) 18 (nI n)) 19 (nI (en (j_91 + 1)))) 20 (tkT (ks (j_91 + 1)))) 21 (ps (j_91 + 1))) 22 vl2_158) 23 wr) 24 wa) 26 (nI 4))), gA E (ad 15) 620 (cdW fr us (C_91.map trJ)), gA E (ad 17) 600 t]
              refine g_aload_n C dX10_one_161 rfl ?_
              refine g_callV C (c_X10_sum E h ad (upd iv 26 (nI 4)) n cn (us + C_91.length) (j_91 + 1) en ks ps (cdW fr us (C_91.map trJ)) t vl2_158 wr wa (by omega) (hb) (hL) (hK) (hend) (by omega) (by omega) (hv_158) (by omega)) gX10_one_X10_sum rfl 0 (by decide +kernel) ⟨by decide, by decide⟩ ⟨by decide, by decide⟩ 0 rfl rfl [0, 1, 2] [] (wr := []) rfl (by decide) rfl (by decide) (by decide) rfl rfl (Nat.le_of_ble_eq_true rfl) dX10_one_162 ?_
              rintro _ _ ⟨ok_162, j_162, us2_162, fr2_162, vl2_162, wr2_162, wa2_162, rfl, rfl, hq_162, hv_162⟩
              show gg E _ 2 X 0 0 165 [some (.ref h), some (.int (nI 2004))] [.int (b2i ok_162)] [gO h 10 (tF ad (upd (upd (upd (upd (upd (upd (upd (upd (upd iv 7 (nI us2_162)) 18 (nI n)) 19 (nI (en j_162))) 20 (tkT (ks j_162))) 21 (ps j_162)) 22 vl2_162) 23 wr2_162) 24 wa2_162) 26 (nI 4))), gA E (ad 15) 620 fr2_162, gA E (ad 17) 600 t]
              rcases rdT_two hq_162 with ⟨C_162, hr_162, rfl, rfl, rfl, rfl, rfl, b1_162, b2_162, b3_162⟩ | ⟨kd_162, ix_162, hr_162, rfl, rfl, rfl, b1_162, b2_162, b3_162, b4_162⟩
              · refine g_if_ne (tgt := 170) C dX10_one_165 (by decide) (fun c165 => ?_) (fun c165 => absurd c165 (by decide))
                refine g_aload_n C dX10_one_170 rfl ?_
                refine g_iload_n C dX10_one_171 rfl ?_
                refine g_callV C (c_X10_lay E h ad (upd (upd (upd (upd (upd (upd (upd (upd iv 18 (nI n)) 19 (nI (en j_162))) 20 (tkT (ks j_162))) 21 (ps j_162)) 22 vl2_162) 23 wr) 24 wa) 26 (nI 4)) (us + C_91.length + C_162.length) (cdW (cdW fr us (C_91.map trJ)) (us + C_91.length) (C_162.map trJ)) (nI 2004) (by omega)) gX10_one_X10_lay rfl 1 (by decide +kernel) ⟨by decide, by decide⟩ ⟨by decide, by decide⟩ 0 rfl rfl [0, 1] [2] (wr := [gA E (ad 17) 600 t]) rfl (by decide) rfl (by decide) (by decide) rfl rfl (Nat.le_of_ble_eq_true rfl) dX10_one_172 ?_
                rintro _ _ ⟨rfl, rfl⟩
                refine gg.perm (ws' := [gO h 10 (tF ad (upd (upd (upd (upd (upd (upd (upd (upd (upd iv 7 (nI ((us + C_91.length + C_162.length) + 1))) 18 (nI n)) 19 (nI (en j_162))) 20 (tkT (ks j_162))) 21 (ps j_162)) 22 vl2_162) 23 wr) 24 wa) 26 (nI 4))), gA E (ad 15) 620 (upd (cdW (cdW fr us (C_91.map trJ)) (us + C_91.length) (C_162.map trJ)) (us + C_91.length + C_162.length) (nI 2004)), gA E (ad 17) 600 t]) [1, 2, 0] (by decide) rfl ?_
                show gg E _ 2 X 0 0 175 [some (.ref h), some (.int (nI 2004))] [] [gO h 10 (tF ad (upd (upd (upd (upd (upd (upd (upd (upd (upd iv 7 (nI ((us + C_91.length + C_162.length) + 1))) 18 (nI n)) 19 (nI (en j_162))) 20 (tkT (ks j_162))) 21 (ps j_162)) 22 vl2_162) 23 wr) 24 wa) 26 (nI 4))), gA E (ad 15) 620 (upd (cdW (cdW fr us (C_91.map trJ)) (us + C_91.length) (C_162.map trJ)) (us + C_91.length + C_162.length) (nI 2004)), gA E (ad 17) 600 t]
                refine g_iconst (v := nI 1) C dX10_one_175 (by decide) ?_
                exact g_zret C Rt dX10_one_176 (by decide) (by decide) (by decide) (⟨true, _, _, _, _, _, _, _, rfl, rfl, rdT_ok (by rw [pLv, if_neg (fun z => z.elim n5 n40), pCmp, hr_91]; exact (if_pos (Or.inr (Or.inr e62))).trans (by rw [pCmp2, hr_162])) (by omega) b2_162 (by omega) (ln3 _ _ _ _) (cd3T _ _ _ _ _ _ (by rw [e62]; decide)), hv_162, fun _ => rfl⟩)
              · refine g_if_ne (tgt := 170) C dX10_one_165 (by decide) (fun c165 => absurd c165 (by decide)) (fun c165 => ?_)
                refine g_iconst (v := nI 0) C dX10_one_168 (by decide) ?_
                exact g_zret C Rt dX10_one_169 (by decide) (by decide) (by decide) (⟨false, _, _, _, _, _, _, _, rfl, rfl, rdT_er (by rw [pLv, if_neg (fun z => z.elim n5 n40), pCmp, hr_91]; exact (if_pos (Or.inr (Or.inr e62))).trans (by rw [pCmp2, hr_162])) (by omega) (b2_162) (by omega) (b4_162), hv_162, fun z => absurd z (by decide)⟩)
          · have e61 := (tq61 (hK _ b2_91)).mp c120
            refine g_sipush (v := nI 2003) C dX10_one_123 (by decide) ?_
            refine g_goto (tgt := 145) C dX10_one_126 (by decide) ?_
            refine g_istore_n C dX10_one_145 (by decide) rfl (ll' := [some (.ref h), some (.int (nI 2003))]) rfl ?_
            refine g_iload_n C dX10_one_146 rfl ?_
            refine g_iconst (v := -1) C dX10_one_147 (by decide) ?_
            refine g_icmp_ne (tgt := 157) C dX10_one_148 (by decide) (fun c148 => ?_) (fun c148 => absurd c148 (by decide))
            have hn7 := not_end hend b2_91 e61 (by decide)
            refine g_aload_n C dX10_one_157 rfl ?_
            refine g_callV C (c_X10_nextT E h ad (upd (upd (upd (upd iv 7 (nI (us + C_91.length))) 23 wr) 24 wa) 26 (nI 4)) n cn j_91 en ks ps t (tkT (ks j_91)) (ps j_91) vl2_91 (by omega) (hb) (hL) (hn7)) gX10_one_X10_next0 rfl 0 (by decide +kernel) ⟨by decide, by decide⟩ ⟨by decide, by decide⟩ 0 rfl rfl [0, 2] [1] (wr := [gA E (ad 15) 620 (cdW fr us (C_91.map trJ))]) rfl (by decide) rfl (by decide) (by decide) rfl rfl (Nat.le_of_ble_eq_true rfl) dX10_one_158 ?_
            rintro _ _ ⟨vl2_158, rfl, rfl, hv_158⟩
            refine gg.perm (ws' := [gO h 10 (tF ad (upd (upd (upd (upd (upd (upd (upd (upd (upd iv 7 (nI (us + C_91.length))) 18 (nI n)) 19 (nI (en (j_91 + 1)))) 20 (tkT (ks (j_91 + 1)))) 21 (ps (j_91 + 1))) 22 vl2_158) 23 wr) 24 wa) 26 (nI 4))), gA E (ad 15) 620 (cdW fr us (C_91.map trJ)), gA E (ad 17) 600 t]) [1, 0, 2] (by decide) rfl ?_
            show gg E _ 2 X 0 0 161 [some (.ref h), some (.int (nI 2003))] [] [gO h 10 (tF ad (upd (upd (upd (upd (upd (upd (upd (upd (upd iv 7 (nI (us + C_91.length))) 18 (nI n)) 19 (nI (en (j_91 + 1)))) 20 (tkT (ks (j_91 + 1)))) 21 (ps (j_91 + 1))) 22 vl2_158) 23 wr) 24 wa) 26 (nI 4))), gA E (ad 15) 620 (cdW fr us (C_91.map trJ)), gA E (ad 17) 600 t]
            refine g_aload_n C dX10_one_161 rfl ?_
            refine g_callV C (c_X10_sum E h ad (upd iv 26 (nI 4)) n cn (us + C_91.length) (j_91 + 1) en ks ps (cdW fr us (C_91.map trJ)) t vl2_158 wr wa (by omega) (hb) (hL) (hK) (hend) (by omega) (by omega) (hv_158) (by omega)) gX10_one_X10_sum rfl 0 (by decide +kernel) ⟨by decide, by decide⟩ ⟨by decide, by decide⟩ 0 rfl rfl [0, 1, 2] [] (wr := []) rfl (by decide) rfl (by decide) (by decide) rfl rfl (Nat.le_of_ble_eq_true rfl) dX10_one_162 ?_
            rintro _ _ ⟨ok_162, j_162, us2_162, fr2_162, vl2_162, wr2_162, wa2_162, rfl, rfl, hq_162, hv_162⟩
            show gg E _ 2 X 0 0 165 [some (.ref h), some (.int (nI 2003))] [.int (b2i ok_162)] [gO h 10 (tF ad (upd (upd (upd (upd (upd (upd (upd (upd (upd iv 7 (nI us2_162)) 18 (nI n)) 19 (nI (en j_162))) 20 (tkT (ks j_162))) 21 (ps j_162)) 22 vl2_162) 23 wr2_162) 24 wa2_162) 26 (nI 4))), gA E (ad 15) 620 fr2_162, gA E (ad 17) 600 t]
            rcases rdT_two hq_162 with ⟨C_162, hr_162, rfl, rfl, rfl, rfl, rfl, b1_162, b2_162, b3_162⟩ | ⟨kd_162, ix_162, hr_162, rfl, rfl, rfl, b1_162, b2_162, b3_162, b4_162⟩
            · refine g_if_ne (tgt := 170) C dX10_one_165 (by decide) (fun c165 => ?_) (fun c165 => absurd c165 (by decide))
              refine g_aload_n C dX10_one_170 rfl ?_
              refine g_iload_n C dX10_one_171 rfl ?_
              refine g_callV C (c_X10_lay E h ad (upd (upd (upd (upd (upd (upd (upd (upd iv 18 (nI n)) 19 (nI (en j_162))) 20 (tkT (ks j_162))) 21 (ps j_162)) 22 vl2_162) 23 wr) 24 wa) 26 (nI 4)) (us + C_91.length + C_162.length) (cdW (cdW fr us (C_91.map trJ)) (us + C_91.length) (C_162.map trJ)) (nI 2003) (by omega)) gX10_one_X10_lay rfl 1 (by decide +kernel) ⟨by decide, by decide⟩ ⟨by decide, by decide⟩ 0 rfl rfl [0, 1] [2] (wr := [gA E (ad 17) 600 t]) rfl (by decide) rfl (by decide) (by decide) rfl rfl (Nat.le_of_ble_eq_true rfl) dX10_one_172 ?_
              rintro _ _ ⟨rfl, rfl⟩
              refine gg.perm (ws' := [gO h 10 (tF ad (upd (upd (upd (upd (upd (upd (upd (upd (upd iv 7 (nI ((us + C_91.length + C_162.length) + 1))) 18 (nI n)) 19 (nI (en j_162))) 20 (tkT (ks j_162))) 21 (ps j_162)) 22 vl2_162) 23 wr) 24 wa) 26 (nI 4))), gA E (ad 15) 620 (upd (cdW (cdW fr us (C_91.map trJ)) (us + C_91.length) (C_162.map trJ)) (us + C_91.length + C_162.length) (nI 2003)), gA E (ad 17) 600 t]) [1, 2, 0] (by decide) rfl ?_
              show gg E _ 2 X 0 0 175 [some (.ref h), some (.int (nI 2003))] [] [gO h 10 (tF ad (upd (upd (upd (upd (upd (upd (upd (upd (upd iv 7 (nI ((us + C_91.length + C_162.length) + 1))) 18 (nI n)) 19 (nI (en j_162))) 20 (tkT (ks j_162))) 21 (ps j_162)) 22 vl2_162) 23 wr) 24 wa) 26 (nI 4))), gA E (ad 15) 620 (upd (cdW (cdW fr us (C_91.map trJ)) (us + C_91.length) (C_162.map trJ)) (us + C_91.length + C_162.length) (nI 2003)), gA E (ad 17) 600 t]
              refine g_iconst (v := nI 1) C dX10_one_175 (by decide) ?_
              exact g_zret C Rt dX10_one_176 (by decide) (by decide) (by decide) (⟨true, _, _, _, _, _, _, _, rfl, rfl, rdT_ok (by rw [pLv, if_neg (fun z => z.elim n5 n40), pCmp, hr_91]; exact (if_pos (Or.inr (Or.inl e61))).trans (by rw [pCmp2, hr_162])) (by omega) b2_162 (by omega) (ln3 _ _ _ _) (cd3T _ _ _ _ _ _ (by rw [e61]; decide)), hv_162, fun _ => rfl⟩)
            · refine g_if_ne (tgt := 170) C dX10_one_165 (by decide) (fun c165 => absurd c165 (by decide)) (fun c165 => ?_)
              refine g_iconst (v := nI 0) C dX10_one_168 (by decide) ?_
              exact g_zret C Rt dX10_one_169 (by decide) (by decide) (by decide) (⟨false, _, _, _, _, _, _, _, rfl, rfl, rdT_er (by rw [pLv, if_neg (fun z => z.elim n5 n40), pCmp, hr_91]; exact (if_pos (Or.inr (Or.inl e61))).trans (by rw [pCmp2, hr_162])) (by omega) (b2_162) (by omega) (b4_162), hv_162, fun z => absurd z (by decide)⟩)
        · have e60 := (tq60 (hK _ b2_91)).mp c105
          refine g_sipush (v := nI 2002) C dX10_one_108 (by decide) ?_
          refine g_goto (tgt := 145) C dX10_one_111 (by decide) ?_
          refine g_istore_n C dX10_one_145 (by decide) rfl (ll' := [some (.ref h), some (.int (nI 2002))]) rfl ?_
          refine g_iload_n C dX10_one_146 rfl ?_
          refine g_iconst (v := -1) C dX10_one_147 (by decide) ?_
          refine g_icmp_ne (tgt := 157) C dX10_one_148 (by decide) (fun c148 => ?_) (fun c148 => absurd c148 (by decide))
          have hn7 := not_end hend b2_91 e60 (by decide)
          refine g_aload_n C dX10_one_157 rfl ?_
          refine g_callV C (c_X10_nextT E h ad (upd (upd (upd (upd iv 7 (nI (us + C_91.length))) 23 wr) 24 wa) 26 (nI 4)) n cn j_91 en ks ps t (tkT (ks j_91)) (ps j_91) vl2_91 (by omega) (hb) (hL) (hn7)) gX10_one_X10_next0 rfl 0 (by decide +kernel) ⟨by decide, by decide⟩ ⟨by decide, by decide⟩ 0 rfl rfl [0, 2] [1] (wr := [gA E (ad 15) 620 (cdW fr us (C_91.map trJ))]) rfl (by decide) rfl (by decide) (by decide) rfl rfl (Nat.le_of_ble_eq_true rfl) dX10_one_158 ?_
          rintro _ _ ⟨vl2_158, rfl, rfl, hv_158⟩
          refine gg.perm (ws' := [gO h 10 (tF ad (upd (upd (upd (upd (upd (upd (upd (upd (upd iv 7 (nI (us + C_91.length))) 18 (nI n)) 19 (nI (en (j_91 + 1)))) 20 (tkT (ks (j_91 + 1)))) 21 (ps (j_91 + 1))) 22 vl2_158) 23 wr) 24 wa) 26 (nI 4))), gA E (ad 15) 620 (cdW fr us (C_91.map trJ)), gA E (ad 17) 600 t]) [1, 0, 2] (by decide) rfl ?_
          show gg E _ 2 X 0 0 161 [some (.ref h), some (.int (nI 2002))] [] [gO h 10 (tF ad (upd (upd (upd (upd (upd (upd (upd (upd (upd iv 7 (nI (us + C_91.length))) 18 (nI n)) 19 (nI (en (j_91 + 1)))) 20 (tkT (ks (j_91 + 1)))) 21 (ps (j_91 + 1))) 22 vl2_158) 23 wr) 24 wa) 26 (nI 4))), gA E (ad 15) 620 (cdW fr us (C_91.map trJ)), gA E (ad 17) 600 t]
          refine g_aload_n C dX10_one_161 rfl ?_
          refine g_callV C (c_X10_sum E h ad (upd iv 26 (nI 4)) n cn (us + C_91.length) (j_91 + 1) en ks ps (cdW fr us (C_91.map trJ)) t vl2_158 wr wa (by omega) (hb) (hL) (hK) (hend) (by omega) (by omega) (hv_158) (by omega)) gX10_one_X10_sum rfl 0 (by decide +kernel) ⟨by decide, by decide⟩ ⟨by decide, by decide⟩ 0 rfl rfl [0, 1, 2] [] (wr := []) rfl (by decide) rfl (by decide) (by decide) rfl rfl (Nat.le_of_ble_eq_true rfl) dX10_one_162 ?_
          rintro _ _ ⟨ok_162, j_162, us2_162, fr2_162, vl2_162, wr2_162, wa2_162, rfl, rfl, hq_162, hv_162⟩
          show gg E _ 2 X 0 0 165 [some (.ref h), some (.int (nI 2002))] [.int (b2i ok_162)] [gO h 10 (tF ad (upd (upd (upd (upd (upd (upd (upd (upd (upd iv 7 (nI us2_162)) 18 (nI n)) 19 (nI (en j_162))) 20 (tkT (ks j_162))) 21 (ps j_162)) 22 vl2_162) 23 wr2_162) 24 wa2_162) 26 (nI 4))), gA E (ad 15) 620 fr2_162, gA E (ad 17) 600 t]
          rcases rdT_two hq_162 with ⟨C_162, hr_162, rfl, rfl, rfl, rfl, rfl, b1_162, b2_162, b3_162⟩ | ⟨kd_162, ix_162, hr_162, rfl, rfl, rfl, b1_162, b2_162, b3_162, b4_162⟩
          · refine g_if_ne (tgt := 170) C dX10_one_165 (by decide) (fun c165 => ?_) (fun c165 => absurd c165 (by decide))
            refine g_aload_n C dX10_one_170 rfl ?_
            refine g_iload_n C dX10_one_171 rfl ?_
            refine g_callV C (c_X10_lay E h ad (upd (upd (upd (upd (upd (upd (upd (upd iv 18 (nI n)) 19 (nI (en j_162))) 20 (tkT (ks j_162))) 21 (ps j_162)) 22 vl2_162) 23 wr) 24 wa) 26 (nI 4)) (us + C_91.length + C_162.length) (cdW (cdW fr us (C_91.map trJ)) (us + C_91.length) (C_162.map trJ)) (nI 2002) (by omega)) gX10_one_X10_lay rfl 1 (by decide +kernel) ⟨by decide, by decide⟩ ⟨by decide, by decide⟩ 0 rfl rfl [0, 1] [2] (wr := [gA E (ad 17) 600 t]) rfl (by decide) rfl (by decide) (by decide) rfl rfl (Nat.le_of_ble_eq_true rfl) dX10_one_172 ?_
            rintro _ _ ⟨rfl, rfl⟩
            refine gg.perm (ws' := [gO h 10 (tF ad (upd (upd (upd (upd (upd (upd (upd (upd (upd iv 7 (nI ((us + C_91.length + C_162.length) + 1))) 18 (nI n)) 19 (nI (en j_162))) 20 (tkT (ks j_162))) 21 (ps j_162)) 22 vl2_162) 23 wr) 24 wa) 26 (nI 4))), gA E (ad 15) 620 (upd (cdW (cdW fr us (C_91.map trJ)) (us + C_91.length) (C_162.map trJ)) (us + C_91.length + C_162.length) (nI 2002)), gA E (ad 17) 600 t]) [1, 2, 0] (by decide) rfl ?_
            show gg E _ 2 X 0 0 175 [some (.ref h), some (.int (nI 2002))] [] [gO h 10 (tF ad (upd (upd (upd (upd (upd (upd (upd (upd (upd iv 7 (nI ((us + C_91.length + C_162.length) + 1))) 18 (nI n)) 19 (nI (en j_162))) 20 (tkT (ks j_162))) 21 (ps j_162)) 22 vl2_162) 23 wr) 24 wa) 26 (nI 4))), gA E (ad 15) 620 (upd (cdW (cdW fr us (C_91.map trJ)) (us + C_91.length) (C_162.map trJ)) (us + C_91.length + C_162.length) (nI 2002)), gA E (ad 17) 600 t]
            refine g_iconst (v := nI 1) C dX10_one_175 (by decide) ?_
            exact g_zret C Rt dX10_one_176 (by decide) (by decide) (by decide) (⟨true, _, _, _, _, _, _, _, rfl, rfl, rdT_ok (by rw [pLv, if_neg (fun z => z.elim n5 n40), pCmp, hr_91]; exact (if_pos (Or.inl e60)).trans (by rw [pCmp2, hr_162])) (by omega) b2_162 (by omega) (ln3 _ _ _ _) (cd3T _ _ _ _ _ _ (by rw [e60]; decide)), hv_162, fun _ => rfl⟩)
          · refine g_if_ne (tgt := 170) C dX10_one_165 (by decide) (fun c165 => absurd c165 (by decide)) (fun c165 => ?_)
            refine g_iconst (v := nI 0) C dX10_one_168 (by decide) ?_
            exact g_zret C Rt dX10_one_169 (by decide) (by decide) (by decide) (⟨false, _, _, _, _, _, _, _, rfl, rfl, rdT_er (by rw [pLv, if_neg (fun z => z.elim n5 n40), pCmp, hr_91]; exact (if_pos (Or.inl e60)).trans (by rw [pCmp2, hr_162])) (by omega) (b2_162) (by omega) (b4_162), hv_162, fun z => absurd z (by decide)⟩)
      · refine g_if_ne (tgt := 99) C dX10_one_94 (by decide) (fun c94 => absurd c94 (by decide)) (fun c94 => ?_)
        refine g_iconst (v := nI 0) C dX10_one_97 (by decide) ?_
        exact g_zret C Rt dX10_one_98 (by decide) (by decide) (by decide) (⟨false, _, _, _, _, _, _, _, rfl, rfl, rdT_er (by rw [pLv, if_neg (fun z => z.elim n5 n40), pCmp, hr_91]) (by omega) (b2_91) (by omega) (b4_91), hv_91, fun z => absurd z (by decide)⟩)
    · have e40 := (tq40 (hK i hi)).mp c50
      have hn8 := not_end hend hi e40 (by decide)
      refine g_aload_n C dX10_one_53 rfl ?_
      refine g_callV C (c_X10_opens_4 E h ad (upd iv 7 (nI us)) n cn i en ks ps t vl wr wa (by omega) (hb) (hL) (hn8)) gX10_one_X10_opens rfl 0 (by decide +kernel) ⟨by decide, by decide⟩ ⟨by decide, by decide⟩ 0 rfl rfl [0, 2] [1] (wr := [gA E (ad 15) 620 fr]) rfl (by decide) rfl (by decide) (by decide) rfl rfl (Nat.le_of_ble_eq_true rfl) dX10_one_54 ?_
      rintro _ _ ⟨vl2_54, rfl, rfl, hv_54⟩
      refine gg.perm (ws' := [gO h 10 (tF ad (upd (upd (upd (upd (upd (upd (upd (upd (upd iv 7 (nI us)) 18 (nI n)) 19 (nI (en (i + 1)))) 20 (tkT (ks (i + 1)))) 21 (ps (i + 1))) 22 vl2_54) 23 wr) 24 wa) 26 (nI 5))), gA E (ad 15) 620 fr, gA E (ad 17) 600 t]) [1, 0, 2] (by decide) rfl ?_
      show gg E _ 2 X 0 0 57 [some (.ref h), none] [.int (nI 1)] [gO h 10 (tF ad (upd (upd (upd (upd (upd (upd (upd (upd (upd iv 7 (nI us)) 18 (nI n)) 19 (nI (en (i + 1)))) 20 (tkT (ks (i + 1)))) 21 (ps (i + 1))) 22 vl2_54) 23 wr) 24 wa) 26 (nI 5))), gA E (ad 15) 620 fr, gA E (ad 17) 600 t]
      refine g_if_eq (tgt := 76) C dX10_one_57 (by decide) (fun c57 => absurd c57 (by decide)) (fun c57 => ?_)
      refine g_aload_n C dX10_one_60 rfl ?_
      refine g_callV C (c_X10_any_3 E h ad iv n cn us (i + 1) en ks ps fr t vl2_54 wr wa (by omega) (hb) (hL) (hK) (hend) (by omega) (by omega) (hv_54) (by omega)) gX10_one_X10_any rfl 0 (by decide +kernel) ⟨by decide, by decide⟩ ⟨by decide, by decide⟩ 0 rfl rfl [0, 1, 2] [] (wr := []) rfl (by decide) rfl (by decide) (by decide) rfl rfl (Nat.le_of_ble_eq_true rfl) dX10_one_61 ?_
      rintro _ _ ⟨ok_61, j_61, us2_61, fr2_61, vl2_61, wr2_61, wa2_61, dp2_61, rfl, rfl, hq_61, hv_61, hd_61⟩
      show gg E _ 2 X 0 0 64 [some (.ref h), none] [.int (b2i ok_61)] [gO h 10 (tF ad (upd (upd (upd (upd (upd (upd (upd (upd (upd iv 7 (nI us2_61)) 18 (nI n)) 19 (nI (en j_61))) 20 (tkT (ks j_61))) 21 (ps j_61)) 22 vl2_61) 23 wr2_61) 24 wa2_61) 26 dp2_61)), gA E (ad 15) 620 fr2_61, gA E (ad 17) 600 t]
      rcases rdT_two hq_61 with ⟨C_61, hr_61, rfl, rfl, rfl, rfl, rfl, b1_61, b2_61, b3_61⟩ | ⟨kd_61, ix_61, hr_61, rfl, rfl, rfl, b1_61, b2_61, b3_61, b4_61⟩
      · obtain rfl := hd_61 rfl
        refine g_if_eq (tgt := 76) C dX10_one_64 (by decide) (fun c64 => absurd c64 (by decide)) (fun c64 => ?_)
        skip
        refine g_aload_n C dX10_one_67 rfl ?_
        rcases Classical.em (ks j_61 = nI 1141) with hx | hx
        · refine g_bipush (v := nI 41) C dX10_one_68 (by decide) ?_
          refine g_callV C (c_X10_need_y E h ad (upd (upd iv 7 (nI (us + C_61.length))) 26 (nI 5)) n cn j_61 41 en ks ps t vl2_61 wr wa (by omega) (hb) (hL) (not_end hend b2_61 hx (by decide)) ((tq41 (hK _ b2_61)).mpr hx)) gX10_one_X10_need rfl 1 (by decide +kernel) ⟨by decide, by decide⟩ ⟨by decide, by decide⟩ 0 rfl rfl [0, 2] [1] (wr := [gA E (ad 15) 620 (cdW fr us (C_61.map trJ))]) rfl (by decide) rfl (by decide) (by decide) rfl rfl (Nat.le_of_ble_eq_true rfl) dX10_one_70 ?_
          rintro _ _ ⟨vl2_70, rfl, rfl, hv_70⟩
          refine gg.perm (ws' := [gO h 10 (tF ad (upd (upd (upd (upd (upd (upd (upd (upd (upd iv 7 (nI (us + C_61.length))) 18 (nI n)) 19 (nI (en (j_61 + 1)))) 20 (tkT (ks (j_61 + 1)))) 21 (ps (j_61 + 1))) 22 vl2_70) 23 wr) 24 wa) 26 (nI 5))), gA E (ad 15) 620 (cdW fr us (C_61.map trJ)), gA E (ad 17) 600 t]) [1, 0, 2] (by decide) rfl ?_
          show gg E _ 2 X 0 0 73 [some (.ref h), none] [.int (nI 1)] [gO h 10 (tF ad (upd (upd (upd (upd (upd (upd (upd (upd (upd iv 7 (nI (us + C_61.length))) 18 (nI n)) 19 (nI (en (j_61 + 1)))) 20 (tkT (ks (j_61 + 1)))) 21 (ps (j_61 + 1))) 22 vl2_70) 23 wr) 24 wa) 26 (nI 5))), gA E (ad 15) 620 (cdW fr us (C_61.map trJ)), gA E (ad 17) 600 t]
          refine g_if_ne (tgt := 78) C dX10_one_73 (by decide) (fun c73 => ?_) (fun c73 => absurd c73 (by decide))
          have hn9 := not_end hend b2_61 hx (by decide)
          refine g_aload_n C dX10_one_78 rfl ?_
          refine g_dup C dX10_one_79 rfl ?_
          refine g_get C i_X10 0 26 f_188 rfl rfl (by decide) rfl rfl dX10_one_80 ?_
          show gg E _ 2 X 0 0 83 [some (.ref h), none] [.int (nI 5), .ref h] [gO h 10 (tF ad (upd (upd (upd (upd (upd (upd (upd (upd (upd iv 7 (nI (us + C_61.length))) 18 (nI n)) 19 (nI (en (j_61 + 1)))) 20 (tkT (ks (j_61 + 1)))) 21 (ps (j_61 + 1))) 22 vl2_70) 23 wr) 24 wa) 26 (nI 5))), gA E (ad 15) 620 (cdW fr us (C_61.map trJ)), gA E (ad 17) 600 t]
          refine g_iconst (v := nI 1) C dX10_one_83 (by decide) ?_
          refine g_isub C dX10_one_84 (g_top (x' := nI 4) (by decide) ?_)
          refine g_put C i_X10 tyX10 tyX10_ok nmX10 0 26 f_188 rfl rfl (by decide) rfl rfl rfl rfl rfl (Nat.le_of_ble_eq_true rfl) dX10_one_85 (ws' := [gO h 10 (tF ad (upd (upd (upd (upd (upd (upd (upd (upd (upd iv 7 (nI (us + C_61.length))) 18 (nI n)) 19 (nI (en (j_61 + 1)))) 20 (tkT (ks (j_61 + 1)))) 21 (ps (j_61 + 1))) 22 vl2_70) 23 wr) 24 wa) 26 (nI 4))), gA E (ad 15) 620 (cdW fr us (C_61.map trJ)), gA E (ad 17) 600 t]) rfl ?_
          refine g_iconst (v := nI 1) C dX10_one_88 (by decide) ?_
          exact g_zret C Rt dX10_one_89 (by decide) (by decide) (by decide) (⟨true, _, _, _, _, _, _, _, rfl, rfl, rdT_ok (by rw [pLv, if_pos (Or.inr e40), if_neg n5, hr_61]; exact if_pos hx) (by omega) hn9 (by omega) rfl rfl, hv_70, fun _ => rfl⟩)
        · refine g_bipush (v := nI 41) C dX10_one_68 (by decide) ?_
          refine g_callV C (c_X10_need_n E h ad (upd (upd iv 7 (nI (us + C_61.length))) 26 (nI 5)) n cn j_61 41 en ks ps t vl2_61 wr wa (fun z => hx ((tq41 (hK _ b2_61)).mp z))) gX10_one_X10_need rfl 1 (by decide +kernel) ⟨by decide, by decide⟩ ⟨by decide, by decide⟩ 0 rfl rfl [0, 2] [1] (wr := [gA E (ad 15) 620 (cdW fr us (C_61.map trJ))]) rfl (by decide) rfl (by decide) (by decide) rfl rfl (Nat.le_of_ble_eq_true rfl) dX10_one_70 ?_
          rintro _ _ ⟨rfl, rfl⟩
          refine gg.perm (ws' := [gO h 10 (tF ad (upd (upd (upd (upd (upd (upd (upd (upd (upd iv 7 (nI (us + C_61.length))) 18 (nI n)) 19 (nI (en j_61))) 20 (tkT (ks j_61))) 21 (ps j_61)) 22 vl2_61) 23 (nI 1)) 24 (ps j_61)) 26 (nI 5))), gA E (ad 15) 620 (cdW fr us (C_61.map trJ)), gA E (ad 17) 600 t]) [1, 0, 2] (by decide) rfl ?_
          show gg E _ 2 X 0 0 73 [some (.ref h), none] [.int (nI 0)] [gO h 10 (tF ad (upd (upd (upd (upd (upd (upd (upd (upd (upd iv 7 (nI (us + C_61.length))) 18 (nI n)) 19 (nI (en j_61))) 20 (tkT (ks j_61))) 21 (ps j_61)) 22 vl2_61) 23 (nI 1)) 24 (ps j_61)) 26 (nI 5))), gA E (ad 15) 620 (cdW fr us (C_61.map trJ)), gA E (ad 17) 600 t]
          refine g_if_ne (tgt := 78) C dX10_one_73 (by decide) (fun c73 => absurd c73 (by decide)) (fun c73 => ?_)
          refine g_iconst (v := nI 0) C dX10_one_76 (by decide) ?_
          exact g_zret C Rt dX10_one_77 (by decide) (by decide) (by decide) (⟨false, _, _, _, _, _, _, _, rfl, rfl, rdT_er (by rw [pLv, if_pos (Or.inr e40), if_neg n5, hr_61]; exact if_neg hx) (by omega) (b2_61) (by omega) (b2_61), hv_61, fun z => absurd z (by decide)⟩)
      · refine g_if_eq (tgt := 76) C dX10_one_64 (by decide) (fun c64 => ?_) (fun c64 => absurd c64 (by decide))
        refine g_iconst (v := nI 0) C dX10_one_76 (by decide) ?_
        exact g_zret C Rt dX10_one_77 (by decide) (by decide) (by decide) (⟨false, _, _, _, _, _, _, _, rfl, rfl, rdT_er (by rw [pLv, if_pos (Or.inr e40), if_neg n5, hr_61]; rfl) (by omega) (b2_61) (by omega) (b4_61), hv_61, fun z => absurd z (by decide)⟩)
  · have e5 := (tq8 (hK i hi)).mp c6
    have hn8 := not_end hend hi e5 (by decide)
    refine g_aload_n C dX10_one_9 rfl ?_
    refine g_callV C (c_X10_opens_4 E h ad (upd iv 7 (nI us)) n cn i en ks ps t vl wr wa (by omega) (hb) (hL) (hn8)) gX10_one_X10_opens rfl 0 (by decide +kernel) ⟨by decide, by decide⟩ ⟨by decide, by decide⟩ 0 rfl rfl [0, 2] [1] (wr := [gA E (ad 15) 620 fr]) rfl (by decide) rfl (by decide) (by decide) rfl rfl (Nat.le_of_ble_eq_true rfl) dX10_one_10 ?_
    rintro _ _ ⟨vl2_10, rfl, rfl, hv_10⟩
    refine gg.perm (ws' := [gO h 10 (tF ad (upd (upd (upd (upd (upd (upd (upd (upd (upd iv 7 (nI us)) 18 (nI n)) 19 (nI (en (i + 1)))) 20 (tkT (ks (i + 1)))) 21 (ps (i + 1))) 22 vl2_10) 23 wr) 24 wa) 26 (nI 5))), gA E (ad 15) 620 fr, gA E (ad 17) 600 t]) [1, 0, 2] (by decide) rfl ?_
    show gg E _ 2 X 0 0 13 [some (.ref h), none] [.int (nI 1)] [gO h 10 (tF ad (upd (upd (upd (upd (upd (upd (upd (upd (upd iv 7 (nI us)) 18 (nI n)) 19 (nI (en (i + 1)))) 20 (tkT (ks (i + 1)))) 21 (ps (i + 1))) 22 vl2_10) 23 wr) 24 wa) 26 (nI 5))), gA E (ad 15) 620 fr, gA E (ad 17) 600 t]
    refine g_if_eq (tgt := 23) C dX10_one_13 (by decide) (fun c13 => absurd c13 (by decide)) (fun c13 => ?_)
    refine g_aload_n C dX10_one_16 rfl ?_
    refine g_callV C (c_X10_one_3 E h ad iv n cn us (i + 1) en ks ps fr t vl2_10 wr wa (by omega) (hb) (hL) (hK) (hend) (by omega) (by omega) (hv_10) (by omega)) gX10_one_X10_one rfl 0 (by decide +kernel) ⟨by decide, by decide⟩ ⟨by decide, by decide⟩ 0 rfl rfl [0, 1, 2] [] (wr := []) rfl (by decide) rfl (by decide) (by decide) rfl rfl (Nat.le_of_ble_eq_true rfl) dX10_one_17 ?_
    rintro _ _ ⟨ok_17, j_17, us2_17, fr2_17, vl2_17, wr2_17, wa2_17, dp2_17, rfl, rfl, hq_17, hv_17, hd_17⟩
    show gg E _ 2 X 0 0 20 [some (.ref h), none] [.int (b2i ok_17)] [gO h 10 (tF ad (upd (upd (upd (upd (upd (upd (upd (upd (upd iv 7 (nI us2_17)) 18 (nI n)) 19 (nI (en j_17))) 20 (tkT (ks j_17))) 21 (ps j_17)) 22 vl2_17) 23 wr2_17) 24 wa2_17) 26 dp2_17)), gA E (ad 15) 620 fr2_17, gA E (ad 17) 600 t]
    rcases rdT_two hq_17 with ⟨C_17, hr_17, rfl, rfl, rfl, rfl, rfl, b1_17, b2_17, b3_17⟩ | ⟨kd_17, ix_17, hr_17, rfl, rfl, rfl, b1_17, b2_17, b3_17, b4_17⟩
    · obtain rfl := hd_17 rfl
      refine g_if_ne (tgt := 25) C dX10_one_20 (by decide) (fun c20 => ?_) (fun c20 => absurd c20 (by decide))
      refine g_aload_n C dX10_one_25 rfl ?_
      refine g_dup C dX10_one_26 rfl ?_
      refine g_get C i_X10 0 26 f_188 rfl rfl (by decide) rfl rfl dX10_one_27 ?_
      show gg E _ 2 X 0 0 30 [some (.ref h), none] [.int (nI 5), .ref h] [gO h 10 (tF ad (upd (upd (upd (upd (upd (upd (upd (upd (upd iv 7 (nI (us + C_17.length))) 18 (nI n)) 19 (nI (en j_17))) 20 (tkT (ks j_17))) 21 (ps j_17)) 22 vl2_17) 23 wr) 24 wa) 26 (nI 5))), gA E (ad 15) 620 (cdW fr us (C_17.map trJ)), gA E (ad 17) 600 t]
      refine g_iconst (v := nI 1) C dX10_one_30 (by decide) ?_
      refine g_isub C dX10_one_31 (g_top (x' := nI 4) (by decide) ?_)
      refine g_put C i_X10 tyX10 tyX10_ok nmX10 0 26 f_188 rfl rfl (by decide) rfl rfl rfl rfl rfl (Nat.le_of_ble_eq_true rfl) dX10_one_32 (ws' := [gO h 10 (tF ad (upd (upd (upd (upd (upd (upd (upd (upd (upd iv 7 (nI (us + C_17.length))) 18 (nI n)) 19 (nI (en j_17))) 20 (tkT (ks j_17))) 21 (ps j_17)) 22 vl2_17) 23 wr) 24 wa) 26 (nI 4))), gA E (ad 15) 620 (cdW fr us (C_17.map trJ)), gA E (ad 17) 600 t]) rfl ?_
      refine g_aload_n C dX10_one_35 rfl ?_
      refine g_sipush (v := nI 2005) C dX10_one_36 (by decide) ?_
      refine g_callV C (c_X10_lay E h ad (upd (upd (upd (upd (upd (upd (upd (upd iv 18 (nI n)) 19 (nI (en j_17))) 20 (tkT (ks j_17))) 21 (ps j_17)) 22 vl2_17) 23 wr) 24 wa) 26 (nI 4)) (us + C_17.length) (cdW fr us (C_17.map trJ)) (nI 2005) (by omega)) gX10_one_X10_lay rfl 1 (by decide +kernel) ⟨by decide, by decide⟩ ⟨by decide, by decide⟩ 0 rfl rfl [0, 1] [2] (wr := [gA E (ad 17) 600 t]) rfl (by decide) rfl (by decide) (by decide) rfl rfl (Nat.le_of_ble_eq_true rfl) dX10_one_39 ?_
      rintro _ _ ⟨rfl, rfl⟩
      refine gg.perm (ws' := [gO h 10 (tF ad (upd (upd (upd (upd (upd (upd (upd (upd (upd iv 7 (nI ((us + C_17.length) + 1))) 18 (nI n)) 19 (nI (en j_17))) 20 (tkT (ks j_17))) 21 (ps j_17)) 22 vl2_17) 23 wr) 24 wa) 26 (nI 4))), gA E (ad 15) 620 (upd (cdW fr us (C_17.map trJ)) (us + C_17.length) (nI 2005)), gA E (ad 17) 600 t]) [1, 2, 0] (by decide) rfl ?_
      show gg E _ 2 X 0 0 42 [some (.ref h), none] [] [gO h 10 (tF ad (upd (upd (upd (upd (upd (upd (upd (upd (upd iv 7 (nI ((us + C_17.length) + 1))) 18 (nI n)) 19 (nI (en j_17))) 20 (tkT (ks j_17))) 21 (ps j_17)) 22 vl2_17) 23 wr) 24 wa) 26 (nI 4))), gA E (ad 15) 620 (upd (cdW fr us (C_17.map trJ)) (us + C_17.length) (nI 2005)), gA E (ad 17) 600 t]
      refine g_iconst (v := nI 1) C dX10_one_42 (by decide) ?_
      exact g_zret C Rt dX10_one_43 (by decide) (by decide) (by decide) (⟨true, _, _, _, _, _, _, _, rfl, rfl, rdT_ok (by rw [pLv, if_pos (Or.inl e5), if_pos e5, hr_17]; rfl) (by omega) b2_17 (by omega) (ln2 _ _ _) (cd2T _ _ _ _ _ (by decide)), hv_17, fun _ => rfl⟩)
    · refine g_if_ne (tgt := 25) C dX10_one_20 (by decide) (fun c20 => absurd c20 (by decide)) (fun c20 => ?_)
      refine g_iconst (v := nI 0) C dX10_one_23 (by decide) ?_
      exact g_zret C Rt dX10_one_24 (by decide) (by decide) (by decide) (⟨false, _, _, _, _, _, _, _, rfl, rfl, rdT_er (by rw [pLv, if_pos (Or.inl e5), if_pos e5, hr_17]; rfl) (by omega) (b2_17) (by omega) (b4_17), hv_17, fun z => absurd z (by decide)⟩)

abbrev rm_c_X10_all_4 : Room := { frames := 18, cells := 0, slots := 0, locals := 372 }
set_option maxHeartbeats 4000000 in
set_option maxRecDepth 100000 in
theorem c_X10_all_4 (E : gE) (h : Nat) (ad : Nat → Nat) (iv : Nat → Int32) (n cn us i : Nat) (en : Nat → Nat) (ks ps fr t : Nat → Int32) (vl wr wa : Int32) (hn : n ≤ 600) (hb : okY t n) (hL : twL t n cn ks ps en) (hK : ∀ q, q < cn → tkC (ks q)) (hend : ks (cn - 1) = nI 1011) (hcn : cn ≤ 601) (hi : i < cn) (hv : ¬ nI 999 < ks i → vl = ks i) (hus : us ≤ i) : MM E yX10_all wsX10_all rm_c_X10_all_4 [.ref h] [gO h 10 (tF ad (upd (upd (upd (upd (upd (upd (upd (upd (upd iv 7 (nI us)) 18 (nI n)) 19 (nI (en i))) 20 (tkT (ks i))) 21 (ps i)) 22 vl) 23 wr) 24 wa) 26 (nI 4))), gA E (ad 15) 620 fr, gA E (ad 17) 600 t] (fun rv_ ru_ => ∃ (ok : Bool) (j us2 : Nat) (fr2 : Nat → Int32) (vl2 wr2 wa2 dp2 : Int32), rv_ = some (.int (b2i ok)) ∧ ru_ = [gO h 10 (tF ad (upd (upd (upd (upd (upd (upd (upd (upd (upd iv 7 (nI us2)) 18 (nI n)) 19 (nI (en j))) 20 (tkT (ks j))) 21 (ps j)) 22 vl2) 23 wr2) 24 wa2) 26 dp2)), gA E (ad 15) 620 fr2, gA E (ad 17) 600 t] ∧ (rdQ (trR (pAll ks (pLv ks 4) i)) ps cn i us fr wr wa ok j us2 fr2 wr2 wa2) ∧ (¬ nI 999 < ks j → vl2 = ks j) ∧ (ok = true → dp2 = nI 4)) := by
  refine MM.ofG (cc := cX10_all) (maxL := 1) (ret := (some .boolean)) (by decide) rfl (Nat.le_of_ble_eq_true rfl) (ll := [some (.ref h)]) rfl ?_
  intro X C Rt
  have C : gx E X cX10_all 1 wsX10_all RX10 := C
  have i_X10 : ∀ w ∈ u_ws RX10 TX10 40, w ∈ wsX10_all := by decide +kernel
  have f_154 : Cond.fieldLink RX10 154 "MarkPagesModel" "token" "I" ∈ wsX10_all := by decide +kernel
  refine g_aload_n C dX10_all_0 rfl ?_
  refine g_callV C (c_X10_one_4 E h ad iv n cn us i en ks ps fr t vl wr wa (by omega) (hb) (hL) (hK) (hend) (by omega) (by omega) (hv) (by omega)) gX10_all_X10_one rfl 0 (by decide +kernel) ⟨by decide, by decide⟩ ⟨by decide, by decide⟩ 0 rfl rfl [0, 1, 2] [] (wr := []) rfl (by decide) rfl (by decide) (by decide) rfl rfl (Nat.le_of_ble_eq_true rfl) dX10_all_1 ?_
  rintro _ _ ⟨ok_1, j_1, us2_1, fr2_1, vl2_1, wr2_1, wa2_1, dp2_1, rfl, rfl, hq_1, hv_1, hd_1⟩
  show gg E _ 1 X 0 0 4 [some (.ref h)] [.int (b2i ok_1)] [gO h 10 (tF ad (upd (upd (upd (upd (upd (upd (upd (upd (upd iv 7 (nI us2_1)) 18 (nI n)) 19 (nI (en j_1))) 20 (tkT (ks j_1))) 21 (ps j_1)) 22 vl2_1) 23 wr2_1) 24 wa2_1) 26 dp2_1)), gA E (ad 15) 620 fr2_1, gA E (ad 17) 600 t]
  rcases rdT_two hq_1 with ⟨C_1, hr_1, rfl, rfl, rfl, rfl, rfl, b1_1, b2_1, b3_1⟩ | ⟨kd_1, ix_1, hr_1, rfl, rfl, rfl, b1_1, b2_1, b3_1, b4_1⟩
  · obtain rfl := hd_1 rfl
    refine g_if_ne (tgt := 9) C dX10_all_4 (by decide) (fun c4 => ?_) (fun c4 => absurd c4 (by decide))
    have L9 : ∀ (n9 : Nat) (it j1 f1 : Nat) (C1 : List Int32) (vl1 : Int32), cn - j1 < n9 → (j1 < cn) → (i + it ≤ j1) → (f1 + it = 601) → (C1.length + i ≤ j1) → (pAll ks (pLv ks 4) i = lpO ks (nI 1004) (pLv ks 4) f1 j1 C1) → (¬ nI 999 < ks j1 → vl1 = ks j1) → gg E rm_c_X10_all_4 1 X 0 0 9 [some (.ref h)] [] [gO h 10 (tF ad (upd (upd (upd (upd (upd (upd (upd (upd (upd iv 7 (nI (us + C1.length))) 18 (nI n)) 19 (nI (en j1))) 20 (tkT (ks j1))) 21 (ps j1)) 22 vl1) 23 wr) 24 wa) 26 (nI 4))), gA E (ad 15) 620 (cdW fr us (C1.map trJ)), gA E (ad 17) 600 t] := by
      intro n9
      induction n9 with
      | zero => intro it j1 f1 C1 vl1 hm9; exact absurd hm9 (Nat.not_lt_zero _)
      | succ n9 ih9 =>
        intro it j1 f1 C1 vl1 hm9 g1 g2 g3 g4 g5 hv1
        refine g_aload_n C dX10_all_9 rfl ?_
        refine g_get C i_X10 0 20 f_154 rfl rfl (by decide) rfl rfl dX10_all_10 ?_
        refine g_bipush (v := nI 7) C dX10_all_13 (by decide) ?_
        refine g_icmp_ne (tgt := 41) C dX10_all_15 (by decide) (fun c15 => ?_) (fun c15 => ?_)
        · refine g_iconst (v := nI 1) C dX10_all_41 (by decide) ?_
          exact g_zret C Rt dX10_all_42 (by decide) (by decide) (by decide) (⟨true, _, _, _, _, _, _, _, rfl, rfl, rdT_ok (by rw [g5, show f1 = f1 - 1 + 1 by omega, lpO, if_neg (fun z => c15 ((tq7 (hK _ g1)).mpr z))]) (by omega) g1 (by omega) rfl rfl, hv1, fun _ => rfl⟩)
        · have e15 := (tq7 (hK _ g1)).mp c15
          have hn7 := not_end hend g1 e15 (by decide)
          refine g_aload_n C dX10_all_18 rfl ?_
          refine g_callV C (c_X10_nextT E h ad (upd (upd (upd (upd iv 7 (nI (us + C1.length))) 23 wr) 24 wa) 26 (nI 4)) n cn j1 en ks ps t (tkT (ks j1)) (ps j1) vl1 (by omega) (hb) (hL) (hn7)) gX10_all_X10_next0 rfl 0 (by decide +kernel) ⟨by decide, by decide⟩ ⟨by decide, by decide⟩ 0 rfl rfl [0, 2] [1] (wr := [gA E (ad 15) 620 (cdW fr us (C1.map trJ))]) rfl (by decide) rfl (by decide) (by decide) rfl rfl (Nat.le_of_ble_eq_true rfl) dX10_all_19 ?_
          rintro _ _ ⟨vl2_19, rfl, rfl, hv_19⟩
          refine gg.perm (ws' := [gO h 10 (tF ad (upd (upd (upd (upd (upd (upd (upd (upd (upd iv 7 (nI (us + C1.length))) 18 (nI n)) 19 (nI (en (j1 + 1)))) 20 (tkT (ks (j1 + 1)))) 21 (ps (j1 + 1))) 22 vl2_19) 23 wr) 24 wa) 26 (nI 4))), gA E (ad 15) 620 (cdW fr us (C1.map trJ)), gA E (ad 17) 600 t]) [1, 0, 2] (by decide) rfl ?_
          show gg E _ 1 X 0 0 22 [some (.ref h)] [] [gO h 10 (tF ad (upd (upd (upd (upd (upd (upd (upd (upd (upd iv 7 (nI (us + C1.length))) 18 (nI n)) 19 (nI (en (j1 + 1)))) 20 (tkT (ks (j1 + 1)))) 21 (ps (j1 + 1))) 22 vl2_19) 23 wr) 24 wa) 26 (nI 4))), gA E (ad 15) 620 (cdW fr us (C1.map trJ)), gA E (ad 17) 600 t]
          refine g_aload_n C dX10_all_22 rfl ?_
          refine g_callV C (c_X10_one_4 E h ad iv n cn (us + C1.length) (j1 + 1) en ks ps (cdW fr us (C1.map trJ)) t vl2_19 wr wa (by omega) (hb) (hL) (hK) (hend) (by omega) (by omega) (hv_19) (by omega)) gX10_all_X10_one rfl 0 (by decide +kernel) ⟨by decide, by decide⟩ ⟨by decide, by decide⟩ 0 rfl rfl [0, 1, 2] [] (wr := []) rfl (by decide) rfl (by decide) (by decide) rfl rfl (Nat.le_of_ble_eq_true rfl) dX10_all_23 ?_
          rintro _ _ ⟨ok_23, j_23, us2_23, fr2_23, vl2_23, wr2_23, wa2_23, dp2_23, rfl, rfl, hq_23, hv_23, hd_23⟩
          show gg E _ 1 X 0 0 26 [some (.ref h)] [.int (b2i ok_23)] [gO h 10 (tF ad (upd (upd (upd (upd (upd (upd (upd (upd (upd iv 7 (nI us2_23)) 18 (nI n)) 19 (nI (en j_23))) 20 (tkT (ks j_23))) 21 (ps j_23)) 22 vl2_23) 23 wr2_23) 24 wa2_23) 26 dp2_23)), gA E (ad 15) 620 fr2_23, gA E (ad 17) 600 t]
          rcases rdT_two hq_23 with ⟨C_23, hr_23, rfl, rfl, rfl, rfl, rfl, b1_23, b2_23, b3_23⟩ | ⟨kd_23, ix_23, hr_23, rfl, rfl, rfl, b1_23, b2_23, b3_23, b4_23⟩
          · obtain rfl := hd_23 rfl
            refine g_if_ne (tgt := 31) C dX10_all_26 (by decide) (fun c26 => ?_) (fun c26 => absurd c26 (by decide))
            refine g_aload_n C dX10_all_31 rfl ?_
            refine g_sipush (v := nI 2006) C dX10_all_32 (by decide) ?_
            refine g_callV C (c_X10_lay E h ad (upd (upd (upd (upd (upd (upd (upd (upd iv 18 (nI n)) 19 (nI (en j_23))) 20 (tkT (ks j_23))) 21 (ps j_23)) 22 vl2_23) 23 wr) 24 wa) 26 (nI 4)) (us + C1.length + C_23.length) (cdW (cdW fr us (C1.map trJ)) (us + C1.length) (C_23.map trJ)) (nI 2006) (by omega)) gX10_all_X10_lay rfl 1 (by decide +kernel) ⟨by decide, by decide⟩ ⟨by decide, by decide⟩ 0 rfl rfl [0, 1] [2] (wr := [gA E (ad 17) 600 t]) rfl (by decide) rfl (by decide) (by decide) rfl rfl (Nat.le_of_ble_eq_true rfl) dX10_all_35 ?_
            rintro _ _ ⟨rfl, rfl⟩
            refine gg.perm (ws' := [gO h 10 (tF ad (upd (upd (upd (upd (upd (upd (upd (upd (upd iv 7 (nI ((us + C1.length + C_23.length) + 1))) 18 (nI n)) 19 (nI (en j_23))) 20 (tkT (ks j_23))) 21 (ps j_23)) 22 vl2_23) 23 wr) 24 wa) 26 (nI 4))), gA E (ad 15) 620 (upd (cdW (cdW fr us (C1.map trJ)) (us + C1.length) (C_23.map trJ)) (us + C1.length + C_23.length) (nI 2006)), gA E (ad 17) 600 t]) [1, 2, 0] (by decide) rfl ?_
            show gg E _ 1 X 0 0 38 [some (.ref h)] [] [gO h 10 (tF ad (upd (upd (upd (upd (upd (upd (upd (upd (upd iv 7 (nI ((us + C1.length + C_23.length) + 1))) 18 (nI n)) 19 (nI (en j_23))) 20 (tkT (ks j_23))) 21 (ps j_23)) 22 vl2_23) 23 wr) 24 wa) 26 (nI 4))), gA E (ad 15) 620 (upd (cdW (cdW fr us (C1.map trJ)) (us + C1.length) (C_23.map trJ)) (us + C1.length + C_23.length) (nI 2006)), gA E (ad 17) 600 t]
            rw [ln3 us C1 C_23 (nI 1004), cd3T fr us C1 C_23 (nI 1004) (nI 2006) (by decide)]
            refine g_goto (tgt := 9) C dX10_all_38 (by decide) ?_
            exact ih9 (it + 1) j_23 (f1 - 1) (C1 ++ C_23 ++ [nI 1004]) vl2_23 (by omega) (by omega) (by omega) (by omega) (by have := ln3 us C1 C_23 (nI 1004); omega) (by rw [g5, show f1 = f1 - 1 + 1 by omega, lpO, if_pos e15, hr_23]; rfl) (hv_23)
          · refine g_if_ne (tgt := 31) C dX10_all_26 (by decide) (fun c26 => absurd c26 (by decide)) (fun c26 => ?_)
            refine g_iconst (v := nI 0) C dX10_all_29 (by decide) ?_
            exact g_zret C Rt dX10_all_30 (by decide) (by decide) (by decide) (⟨false, _, _, _, _, _, _, _, rfl, rfl, rdT_er (by rw [g5, show f1 = f1 - 1 + 1 by omega, lpO, if_pos e15, hr_23]) (by omega) b2_23 (by omega) b4_23, hv_23, fun z => absurd z (by decide)⟩)
    exact L9 _ 0 j_1 601 C_1 vl2_1 (Nat.lt_succ_self _) (by omega) (by omega) (by omega) (by omega) (by rw [pAll, hr_1]; rfl) (hv_1)
  · refine g_if_ne (tgt := 9) C dX10_all_4 (by decide) (fun c4 => absurd c4 (by decide)) (fun c4 => ?_)
    refine g_iconst (v := nI 0) C dX10_all_7 (by decide) ?_
    exact g_zret C Rt dX10_all_8 (by decide) (by decide) (by decide) (⟨false, _, _, _, _, _, _, _, rfl, rfl, rdT_er (by rw [pAll, hr_1]; rfl) b1_1 b2_1 b3_1 b4_1, hv_1, fun z => absurd z (by decide)⟩)

abbrev rm_c_X10_any_4 : Room := { frames := 19, cells := 0, slots := 0, locals := 392 }
set_option maxHeartbeats 4000000 in
set_option maxRecDepth 100000 in
theorem c_X10_any_4 (E : gE) (h : Nat) (ad : Nat → Nat) (iv : Nat → Int32) (n cn us i : Nat) (en : Nat → Nat) (ks ps fr t : Nat → Int32) (vl wr wa : Int32) (hn : n ≤ 600) (hb : okY t n) (hL : twL t n cn ks ps en) (hK : ∀ q, q < cn → tkC (ks q)) (hend : ks (cn - 1) = nI 1011) (hcn : cn ≤ 601) (hi : i < cn) (hv : ¬ nI 999 < ks i → vl = ks i) (hus : us ≤ i) : MM E yX10_any wsX10_any rm_c_X10_any_4 [.ref h] [gO h 10 (tF ad (upd (upd (upd (upd (upd (upd (upd (upd (upd iv 7 (nI us)) 18 (nI n)) 19 (nI (en i))) 20 (tkT (ks i))) 21 (ps i)) 22 vl) 23 wr) 24 wa) 26 (nI 4))), gA E (ad 15) 620 fr, gA E (ad 17) 600 t] (fun rv_ ru_ => ∃ (ok : Bool) (j us2 : Nat) (fr2 : Nat → Int32) (vl2 wr2 wa2 dp2 : Int32), rv_ = some (.int (b2i ok)) ∧ ru_ = [gO h 10 (tF ad (upd (upd (upd (upd (upd (upd (upd (upd (upd iv 7 (nI us2)) 18 (nI n)) 19 (nI (en j))) 20 (tkT (ks j))) 21 (ps j)) 22 vl2) 23 wr2) 24 wa2) 26 dp2)), gA E (ad 15) 620 fr2, gA E (ad 17) 600 t] ∧ (rdQ (trR (pAny ks (pLv ks 4) i)) ps cn i us fr wr wa ok j us2 fr2 wr2 wa2) ∧ (¬ nI 999 < ks j → vl2 = ks j) ∧ (ok = true → dp2 = nI 4)) := by
  refine MM.ofG (cc := cX10_any) (maxL := 1) (ret := (some .boolean)) (by decide) rfl (Nat.le_of_ble_eq_true rfl) (ll := [some (.ref h)]) rfl ?_
  intro X C Rt
  have C : gx E X cX10_any 1 wsX10_any RX10 := C
  have i_X10 : ∀ w ∈ u_ws RX10 TX10 40, w ∈ wsX10_any := by decide +kernel
  have f_154 : Cond.fieldLink RX10 154 "MarkPagesModel" "token" "I" ∈ wsX10_any := by decide +kernel
  refine g_aload_n C dX10_any_0 rfl ?_
  refine g_callV C (c_X10_all_4 E h ad iv n cn us i en ks ps fr t vl wr wa (by omega) (hb) (hL) (hK) (hend) (by omega) (by omega) (hv) (by omega)) gX10_any_X10_all rfl 0 (by decide +kernel) ⟨by decide, by decide⟩ ⟨by decide, by decide⟩ 0 rfl rfl [0, 1, 2] [] (wr := []) rfl (by decide) rfl (by decide) (by decide) rfl rfl (Nat.le_of_ble_eq_true rfl) dX10_any_1 ?_
  rintro _ _ ⟨ok_1, j_1, us2_1, fr2_1, vl2_1, wr2_1, wa2_1, dp2_1, rfl, rfl, hq_1, hv_1, hd_1⟩
  show gg E _ 1 X 0 0 4 [some (.ref h)] [.int (b2i ok_1)] [gO h 10 (tF ad (upd (upd (upd (upd (upd (upd (upd (upd (upd iv 7 (nI us2_1)) 18 (nI n)) 19 (nI (en j_1))) 20 (tkT (ks j_1))) 21 (ps j_1)) 22 vl2_1) 23 wr2_1) 24 wa2_1) 26 dp2_1)), gA E (ad 15) 620 fr2_1, gA E (ad 17) 600 t]
  rcases rdT_two hq_1 with ⟨C_1, hr_1, rfl, rfl, rfl, rfl, rfl, b1_1, b2_1, b3_1⟩ | ⟨kd_1, ix_1, hr_1, rfl, rfl, rfl, b1_1, b2_1, b3_1, b4_1⟩
  · obtain rfl := hd_1 rfl
    refine g_if_ne (tgt := 9) C dX10_any_4 (by decide) (fun c4 => ?_) (fun c4 => absurd c4 (by decide))
    have L9 : ∀ (n9 : Nat) (it j1 f1 : Nat) (C1 : List Int32) (vl1 : Int32), cn - j1 < n9 → (j1 < cn) → (i + it ≤ j1) → (f1 + it = 601) → (C1.length + i ≤ j1) → (pAny ks (pLv ks 4) i = lpO ks (nI 1003) (pAll ks (pLv ks 4)) f1 j1 C1) → (¬ nI 999 < ks j1 → vl1 = ks j1) → gg E rm_c_X10_any_4 1 X 0 0 9 [some (.ref h)] [] [gO h 10 (tF ad (upd (upd (upd (upd (upd (upd (upd (upd (upd iv 7 (nI (us + C1.length))) 18 (nI n)) 19 (nI (en j1))) 20 (tkT (ks j1))) 21 (ps j1)) 22 vl1) 23 wr) 24 wa) 26 (nI 4))), gA E (ad 15) 620 (cdW fr us (C1.map trJ)), gA E (ad 17) 600 t] := by
      intro n9
      induction n9 with
      | zero => intro it j1 f1 C1 vl1 hm9; exact absurd hm9 (Nat.not_lt_zero _)
      | succ n9 ih9 =>
        intro it j1 f1 C1 vl1 hm9 g1 g2 g3 g4 g5 hv1
        refine g_aload_n C dX10_any_9 rfl ?_
        refine g_get C i_X10 0 20 f_154 rfl rfl (by decide) rfl rfl dX10_any_10 ?_
        refine g_bipush (v := nI 6) C dX10_any_13 (by decide) ?_
        refine g_icmp_ne (tgt := 41) C dX10_any_15 (by decide) (fun c15 => ?_) (fun c15 => ?_)
        · refine g_iconst (v := nI 1) C dX10_any_41 (by decide) ?_
          exact g_zret C Rt dX10_any_42 (by decide) (by decide) (by decide) (⟨true, _, _, _, _, _, _, _, rfl, rfl, rdT_ok (by rw [g5, show f1 = f1 - 1 + 1 by omega, lpO, if_neg (fun z => c15 ((tq6 (hK _ g1)).mpr z))]) (by omega) g1 (by omega) rfl rfl, hv1, fun _ => rfl⟩)
        · have e15 := (tq6 (hK _ g1)).mp c15
          have hn7 := not_end hend g1 e15 (by decide)
          refine g_aload_n C dX10_any_18 rfl ?_
          refine g_callV C (c_X10_nextT E h ad (upd (upd (upd (upd iv 7 (nI (us + C1.length))) 23 wr) 24 wa) 26 (nI 4)) n cn j1 en ks ps t (tkT (ks j1)) (ps j1) vl1 (by omega) (hb) (hL) (hn7)) gX10_any_X10_next0 rfl 0 (by decide +kernel) ⟨by decide, by decide⟩ ⟨by decide, by decide⟩ 0 rfl rfl [0, 2] [1] (wr := [gA E (ad 15) 620 (cdW fr us (C1.map trJ))]) rfl (by decide) rfl (by decide) (by decide) rfl rfl (Nat.le_of_ble_eq_true rfl) dX10_any_19 ?_
          rintro _ _ ⟨vl2_19, rfl, rfl, hv_19⟩
          refine gg.perm (ws' := [gO h 10 (tF ad (upd (upd (upd (upd (upd (upd (upd (upd (upd iv 7 (nI (us + C1.length))) 18 (nI n)) 19 (nI (en (j1 + 1)))) 20 (tkT (ks (j1 + 1)))) 21 (ps (j1 + 1))) 22 vl2_19) 23 wr) 24 wa) 26 (nI 4))), gA E (ad 15) 620 (cdW fr us (C1.map trJ)), gA E (ad 17) 600 t]) [1, 0, 2] (by decide) rfl ?_
          show gg E _ 1 X 0 0 22 [some (.ref h)] [] [gO h 10 (tF ad (upd (upd (upd (upd (upd (upd (upd (upd (upd iv 7 (nI (us + C1.length))) 18 (nI n)) 19 (nI (en (j1 + 1)))) 20 (tkT (ks (j1 + 1)))) 21 (ps (j1 + 1))) 22 vl2_19) 23 wr) 24 wa) 26 (nI 4))), gA E (ad 15) 620 (cdW fr us (C1.map trJ)), gA E (ad 17) 600 t]
          refine g_aload_n C dX10_any_22 rfl ?_
          refine g_callV C (c_X10_all_4 E h ad iv n cn (us + C1.length) (j1 + 1) en ks ps (cdW fr us (C1.map trJ)) t vl2_19 wr wa (by omega) (hb) (hL) (hK) (hend) (by omega) (by omega) (hv_19) (by omega)) gX10_any_X10_all rfl 0 (by decide +kernel) ⟨by decide, by decide⟩ ⟨by decide, by decide⟩ 0 rfl rfl [0, 1, 2] [] (wr := []) rfl (by decide) rfl (by decide) (by decide) rfl rfl (Nat.le_of_ble_eq_true rfl) dX10_any_23 ?_
          rintro _ _ ⟨ok_23, j_23, us2_23, fr2_23, vl2_23, wr2_23, wa2_23, dp2_23, rfl, rfl, hq_23, hv_23, hd_23⟩
          show gg E _ 1 X 0 0 26 [some (.ref h)] [.int (b2i ok_23)] [gO h 10 (tF ad (upd (upd (upd (upd (upd (upd (upd (upd (upd iv 7 (nI us2_23)) 18 (nI n)) 19 (nI (en j_23))) 20 (tkT (ks j_23))) 21 (ps j_23)) 22 vl2_23) 23 wr2_23) 24 wa2_23) 26 dp2_23)), gA E (ad 15) 620 fr2_23, gA E (ad 17) 600 t]
          rcases rdT_two hq_23 with ⟨C_23, hr_23, rfl, rfl, rfl, rfl, rfl, b1_23, b2_23, b3_23⟩ | ⟨kd_23, ix_23, hr_23, rfl, rfl, rfl, b1_23, b2_23, b3_23, b4_23⟩
          · obtain rfl := hd_23 rfl
            refine g_if_ne (tgt := 31) C dX10_any_26 (by decide) (fun c26 => ?_) (fun c26 => absurd c26 (by decide))
            refine g_aload_n C dX10_any_31 rfl ?_
            refine g_sipush (v := nI 2007) C dX10_any_32 (by decide) ?_
            refine g_callV C (c_X10_lay E h ad (upd (upd (upd (upd (upd (upd (upd (upd iv 18 (nI n)) 19 (nI (en j_23))) 20 (tkT (ks j_23))) 21 (ps j_23)) 22 vl2_23) 23 wr) 24 wa) 26 (nI 4)) (us + C1.length + C_23.length) (cdW (cdW fr us (C1.map trJ)) (us + C1.length) (C_23.map trJ)) (nI 2007) (by omega)) gX10_any_X10_lay rfl 1 (by decide +kernel) ⟨by decide, by decide⟩ ⟨by decide, by decide⟩ 0 rfl rfl [0, 1] [2] (wr := [gA E (ad 17) 600 t]) rfl (by decide) rfl (by decide) (by decide) rfl rfl (Nat.le_of_ble_eq_true rfl) dX10_any_35 ?_
            rintro _ _ ⟨rfl, rfl⟩
            refine gg.perm (ws' := [gO h 10 (tF ad (upd (upd (upd (upd (upd (upd (upd (upd (upd iv 7 (nI ((us + C1.length + C_23.length) + 1))) 18 (nI n)) 19 (nI (en j_23))) 20 (tkT (ks j_23))) 21 (ps j_23)) 22 vl2_23) 23 wr) 24 wa) 26 (nI 4))), gA E (ad 15) 620 (upd (cdW (cdW fr us (C1.map trJ)) (us + C1.length) (C_23.map trJ)) (us + C1.length + C_23.length) (nI 2007)), gA E (ad 17) 600 t]) [1, 2, 0] (by decide) rfl ?_
            show gg E _ 1 X 0 0 38 [some (.ref h)] [] [gO h 10 (tF ad (upd (upd (upd (upd (upd (upd (upd (upd (upd iv 7 (nI ((us + C1.length + C_23.length) + 1))) 18 (nI n)) 19 (nI (en j_23))) 20 (tkT (ks j_23))) 21 (ps j_23)) 22 vl2_23) 23 wr) 24 wa) 26 (nI 4))), gA E (ad 15) 620 (upd (cdW (cdW fr us (C1.map trJ)) (us + C1.length) (C_23.map trJ)) (us + C1.length + C_23.length) (nI 2007)), gA E (ad 17) 600 t]
            rw [ln3 us C1 C_23 (nI 1003), cd3T fr us C1 C_23 (nI 1003) (nI 2007) (by decide)]
            refine g_goto (tgt := 9) C dX10_any_38 (by decide) ?_
            exact ih9 (it + 1) j_23 (f1 - 1) (C1 ++ C_23 ++ [nI 1003]) vl2_23 (by omega) (by omega) (by omega) (by omega) (by have := ln3 us C1 C_23 (nI 1003); omega) (by rw [g5, show f1 = f1 - 1 + 1 by omega, lpO, if_pos e15, hr_23]; rfl) (hv_23)
          · refine g_if_ne (tgt := 31) C dX10_any_26 (by decide) (fun c26 => absurd c26 (by decide)) (fun c26 => ?_)
            refine g_iconst (v := nI 0) C dX10_any_29 (by decide) ?_
            exact g_zret C Rt dX10_any_30 (by decide) (by decide) (by decide) (⟨false, _, _, _, _, _, _, _, rfl, rfl, rdT_er (by rw [g5, show f1 = f1 - 1 + 1 by omega, lpO, if_pos e15, hr_23]) (by omega) b2_23 (by omega) b4_23, hv_23, fun z => absurd z (by decide)⟩)
    exact L9 _ 0 j_1 601 C_1 vl2_1 (Nat.lt_succ_self _) (by omega) (by omega) (by omega) (by omega) (by rw [pAny, hr_1]; rfl) (hv_1)
  · refine g_if_ne (tgt := 9) C dX10_any_4 (by decide) (fun c4 => absurd c4 (by decide)) (fun c4 => ?_)
    refine g_iconst (v := nI 0) C dX10_any_7 (by decide) ?_
    exact g_zret C Rt dX10_any_8 (by decide) (by decide) (by decide) (⟨false, _, _, _, _, _, _, _, rfl, rfl, rdT_er (by rw [pAny, hr_1]; rfl) b1_1 b2_1 b3_1 b4_1, hv_1, fun z => absurd z (by decide)⟩)

abbrev rm_c_X10_one_5 : Room := { frames := 20, cells := 0, slots := 0, locals := 412 }
set_option maxHeartbeats 4000000 in
set_option maxRecDepth 100000 in
theorem c_X10_one_5 (E : gE) (h : Nat) (ad : Nat → Nat) (iv : Nat → Int32) (n cn us i : Nat) (en : Nat → Nat) (ks ps fr t : Nat → Int32) (vl wr wa : Int32) (hn : n ≤ 600) (hb : okY t n) (hL : twL t n cn ks ps en) (hK : ∀ q, q < cn → tkC (ks q)) (hend : ks (cn - 1) = nI 1011) (hcn : cn ≤ 601) (hi : i < cn) (hv : ¬ nI 999 < ks i → vl = ks i) (hus : us ≤ i) : MM E yX10_one wsX10_one rm_c_X10_one_5 [.ref h] [gO h 10 (tF ad (upd (upd (upd (upd (upd (upd (upd (upd (upd iv 7 (nI us)) 18 (nI n)) 19 (nI (en i))) 20 (tkT (ks i))) 21 (ps i)) 22 vl) 23 wr) 24 wa) 26 (nI 3))), gA E (ad 15) 620 fr, gA E (ad 17) 600 t] (fun rv_ ru_ => ∃ (ok : Bool) (j us2 : Nat) (fr2 : Nat → Int32) (vl2 wr2 wa2 dp2 : Int32), rv_ = some (.int (b2i ok)) ∧ ru_ = [gO h 10 (tF ad (upd (upd (upd (upd (upd (upd (upd (upd (upd iv 7 (nI us2)) 18 (nI n)) 19 (nI (en j))) 20 (tkT (ks j))) 21 (ps j)) 22 vl2) 23 wr2) 24 wa2) 26 dp2)), gA E (ad 15) 620 fr2, gA E (ad 17) 600 t] ∧ (rdQ (trR (pLv ks 5 i)) ps cn i us fr wr wa ok j us2 fr2 wr2 wa2) ∧ (¬ nI 999 < ks j → vl2 = ks j) ∧ (ok = true → dp2 = nI 3)) := by
  refine MM.ofG (cc := cX10_one) (maxL := 2) (ret := (some .boolean)) (by decide) rfl (Nat.le_of_ble_eq_true rfl) (ll := [some (.ref h), none]) rfl ?_
  intro X C Rt
  have C : gx E X cX10_one 2 wsX10_one RX10 := C
  have i_X10 : ∀ w ∈ u_ws RX10 TX10 40, w ∈ wsX10_one := by decide +kernel
  have f_154 : Cond.fieldLink RX10 154 "MarkPagesModel" "token" "I" ∈ wsX10_one := by decide +kernel
  have f_188 : Cond.fieldLink RX10 188 "MarkPagesModel" "depth" "I" ∈ wsX10_one := by decide +kernel
  refine g_aload_n C dX10_one_0 rfl ?_
  refine g_get C i_X10 0 20 f_154 rfl rfl (by decide) rfl rfl dX10_one_1 ?_
  refine g_bipush (v := nI 8) C dX10_one_4 (by decide) ?_
  refine g_icmp_ne (tgt := 44) C dX10_one_6 (by decide) (fun c6 => ?_) (fun c6 => ?_)
  · have n5 := fun z => c6 ((tq8 (hK i hi)).mpr z)
    refine g_aload_n C dX10_one_44 rfl ?_
    refine g_get C i_X10 0 20 f_154 rfl rfl (by decide) rfl rfl dX10_one_45 ?_
    refine g_bipush (v := nI 40) C dX10_one_48 (by decide) ?_
    refine g_icmp_ne (tgt := 90) C dX10_one_50 (by decide) (fun c50 => ?_) (fun c50 => ?_)
    · have n40 := fun z => c50 ((tq40 (hK i hi)).mpr z)
      refine g_aload_n C dX10_one_90 rfl ?_
      refine g_callV C (c_X10_sum E h ad (upd iv 26 (nI 3)) n cn us i en ks ps fr t vl wr wa (by omega) (hb) (hL) (hK) (hend) (by omega) (by omega) (hv) (by omega)) gX10_one_X10_sum rfl 0 (by decide +kernel) ⟨by decide, by decide⟩ ⟨by decide, by decide⟩ 0 rfl rfl [0, 1, 2] [] (wr := []) rfl (by decide) rfl (by decide) (by decide) rfl rfl (Nat.le_of_ble_eq_true rfl) dX10_one_91 ?_
      rintro _ _ ⟨ok_91, j_91, us2_91, fr2_91, vl2_91, wr2_91, wa2_91, rfl, rfl, hq_91, hv_91⟩
      show gg E _ 2 X 0 0 94 [some (.ref h), none] [.int (b2i ok_91)] [gO h 10 (tF ad (upd (upd (upd (upd (upd (upd (upd (upd (upd iv 7 (nI us2_91)) 18 (nI n)) 19 (nI (en j_91))) 20 (tkT (ks j_91))) 21 (ps j_91)) 22 vl2_91) 23 wr2_91) 24 wa2_91) 26 (nI 3))), gA E (ad 15) 620 fr2_91, gA E (ad 17) 600 t]
      rcases rdT_two hq_91 with ⟨C_91, hr_91, rfl, rfl, rfl, rfl, rfl, b1_91, b2_91, b3_91⟩ | ⟨kd_91, ix_91, hr_91, rfl, rfl, rfl, b1_91, b2_91, b3_91, b4_91⟩
      · refine g_if_ne (tgt := 99) C dX10_one_94 (by decide) (fun c94 => ?_) (fun c94 => absurd c94 (by decide))
        refine g_aload_n C dX10_one_99 rfl ?_
        refine g_get C i_X10 0 20 f_154 rfl rfl (by decide) rfl rfl dX10_one_100 ?_
        refine g_bipush (v := nI 60) C dX10_one_103 (by decide) ?_
        refine g_icmp_ne (tgt := 114) C dX10_one_105 (by decide) (fun c105 => ?_) (fun c105 => ?_)
        · have n60 := fun z => c105 ((tq60 (hK _ b2_91)).mpr z)
          refine g_aload_n C dX10_one_114 rfl ?_
          refine g_get C i_X10 0 20 f_154 rfl rfl (by decide) rfl rfl dX10_one_115 ?_
          refine g_bipush (v := nI 61) C dX10_one_118 (by decide) ?_
          refine g_icmp_ne (tgt := 129) C dX10_one_120 (by decide) (fun c120 => ?_) (fun c120 => ?_)
          · have n61 := fun z => c120 ((tq61 (hK _ b2_91)).mpr z)
            refine g_aload_n C dX10_one_129 rfl ?_
            refine g_get C i_X10 0 20 f_154 rfl rfl (by decide) rfl rfl dX10_one_130 ?_
            refine g_bipush (v := nI 62) C dX10_one_133 (by decide) ?_
            refine g_icmp_ne (tgt := 144) C dX10_one_135 (by decide) (fun c135 => ?_) (fun c135 => ?_)
            · have n62 := fun z => c135 ((tq62 (hK _ b2_91)).mpr z)
              refine g_iconst (v := -1) C dX10_one_144 (by decide) ?_
              refine g_istore_n C dX10_one_145 (by decide) rfl (ll' := [some (.ref h), some (.int (-1))]) rfl ?_
              refine g_iload_n C dX10_one_146 rfl ?_
              refine g_iconst (v := -1) C dX10_one_147 (by decide) ?_
              refine g_icmp_ne (tgt := 157) C dX10_one_148 (by decide) (fun c148 => absurd c148 (by decide)) (fun c148 => ?_)
              refine g_aload_n C dX10_one_151 rfl ?_
              refine g_iconst (v := nI 1) C dX10_one_152 (by decide) ?_
              refine g_callV C (c_X10_bad E h ad (upd (upd (upd (upd (upd (upd iv 7 (nI (us + C_91.length))) 18 (nI n)) 19 (nI (en j_91))) 20 (tkT (ks j_91))) 22 vl2_91) 26 (nI 3)) 1 (ps j_91) wr wa ) gX10_one_X10_bad rfl 1 (by decide +kernel) ⟨by decide, by decide⟩ ⟨by decide, by decide⟩ 0 rfl rfl [0] [1, 2] (wr := [gA E (ad 15) 620 (cdW fr us (C_91.map trJ)), gA E (ad 17) 600 t]) rfl (by decide) rfl (by decide) (by decide) rfl rfl (Nat.le_of_ble_eq_true rfl) dX10_one_153 ?_
              rintro _ _ ⟨rfl, rfl⟩
              refine gg.perm (ws' := [gO h 10 (tF ad (upd (upd (upd (upd (upd (upd (upd (upd (upd iv 7 (nI (us + C_91.length))) 18 (nI n)) 19 (nI (en j_91))) 20 (tkT (ks j_91))) 21 (ps j_91)) 22 vl2_91) 23 (nI 1)) 24 (ps j_91)) 26 (nI 3))), gA E (ad 15) 620 (cdW fr us (C_91.map trJ)), gA E (ad 17) 600 t]) [2, 0, 1] (by decide) rfl ?_
              show gg E _ 2 X 0 0 156 [some (.ref h), some (.int (-1))] [.int (nI 0)] [gO h 10 (tF ad (upd (upd (upd (upd (upd (upd (upd (upd (upd iv 7 (nI (us + C_91.length))) 18 (nI n)) 19 (nI (en j_91))) 20 (tkT (ks j_91))) 21 (ps j_91)) 22 vl2_91) 23 (nI 1)) 24 (ps j_91)) 26 (nI 3))), gA E (ad 15) 620 (cdW fr us (C_91.map trJ)), gA E (ad 17) 600 t]
              exact g_zret C Rt dX10_one_156 (by decide) (by decide) (by decide) (⟨false, _, _, _, _, _, _, _, rfl, rfl, rdT_er (by rw [pLv, if_neg (fun z => z.elim n5 n40), pCmp, hr_91]; exact if_neg (fun z => z.elim n60 (fun z => z.elim n61 n62))) (b1_91) (b2_91) (b3_91) (b2_91), hv_91, fun z => absurd z (by decide)⟩)
            · have e62 := (tq62 (hK _ b2_91)).mp c135
              refine g_sipush (v := nI 2004) C dX10_one_138 (by decide) ?_
              refine g_goto (tgt := 145) C dX10_one_141 (by decide) ?_
              refine g_istore_n C dX10_one_145 (by decide) rfl (ll' := [some (.ref h), some (.int (nI 2004))]) rfl ?_
              refine g_iload_n C dX10_one_146 rfl ?_
              refine g_iconst (v := -1) C dX10_one_147 (by decide) ?_
              refine g_icmp_ne (tgt := 157) C dX10_one_148 (by decide) (fun c148 => ?_) (fun c148 => absurd c148 (by decide))
              have hn7 := not_end hend b2_91 e62 (by decide)
              refine g_aload_n C dX10_one_157 rfl ?_
              refine g_callV C (c_X10_nextT E h ad (upd (upd (upd (upd iv 7 (nI (us + C_91.length))) 23 wr) 24 wa) 26 (nI 3)) n cn j_91 en ks ps t (tkT (ks j_91)) (ps j_91) vl2_91 (by omega) (hb) (hL) (hn7)) gX10_one_X10_next0 rfl 0 (by decide +kernel) ⟨by decide, by decide⟩ ⟨by decide, by decide⟩ 0 rfl rfl [0, 2] [1] (wr := [gA E (ad 15) 620 (cdW fr us (C_91.map trJ))]) rfl (by decide) rfl (by decide) (by decide) rfl rfl (Nat.le_of_ble_eq_true rfl) dX10_one_158 ?_
              rintro _ _ ⟨vl2_158, rfl, rfl, hv_158⟩
              refine gg.perm (ws' := [gO h 10 (tF ad (upd (upd (upd (upd (upd (upd (upd (upd (upd iv 7 (nI (us + C_91.length))) 18 (nI n)) 19 (nI (en (j_91 + 1)))) 20 (tkT (ks (j_91 + 1)))) 21 (ps (j_91 + 1))) 22 vl2_158) 23 wr) 24 wa) 26 (nI 3))), gA E (ad 15) 620 (cdW fr us (C_91.map trJ)), gA E (ad 17) 600 t]) [1, 0, 2] (by decide) rfl ?_
              show gg E _ 2 X 0 0 161 [some (.ref h), some (.int (nI 2004))] [] [gO h 10 (tF ad (upd (upd (upd (upd (upd (upd (upd (upd (upd iv 7 (nI (us + C_91.length))) 18 (nI n)) 19 (nI (en (j_91 + 1)))) 20 (tkT (ks (j_91 + 1)))) 21 (ps (j_91 + 1))) 22 vl2_158) 23 wr) 24 wa) 26 (nI 3))), gA E (ad 15) 620 (cdW fr us (C_91.map trJ)), gA E (ad 17) 600 t]
              refine g_aload_n C dX10_one_161 rfl ?_
              refine g_callV C (c_X10_sum E h ad (upd iv 26 (nI 3)) n cn (us + C_91.length) (j_91 + 1) en ks ps (cdW fr us (C_91.map trJ)) t vl2_158 wr wa (by omega) (hb) (hL) (hK) (hend) (by omega) (by omega) (hv_158) (by omega)) gX10_one_X10_sum rfl 0 (by decide +kernel) ⟨by decide, by decide⟩ ⟨by decide, by decide⟩ 0 rfl rfl [0, 1, 2] [] (wr := []) rfl (by decide) rfl (by decide) (by decide) rfl rfl (Nat.le_of_ble_eq_true rfl) dX10_one_162 ?_
              rintro _ _ ⟨ok_162, j_162, us2_162, fr2_162, vl2_162, wr2_162, wa2_162, rfl, rfl, hq_162, hv_162⟩
              show gg E _ 2 X 0 0 165 [some (.ref h), some (.int (nI 2004))] [.int (b2i ok_162)] [gO h 10 (tF ad (upd (upd (upd (upd (upd (upd (upd (upd (upd iv 7 (nI us2_162)) 18 (nI n)) 19 (nI (en j_162))) 20 (tkT (ks j_162))) 21 (ps j_162)) 22 vl2_162) 23 wr2_162) 24 wa2_162) 26 (nI 3))), gA E (ad 15) 620 fr2_162, gA E (ad 17) 600 t]
              rcases rdT_two hq_162 with ⟨C_162, hr_162, rfl, rfl, rfl, rfl, rfl, b1_162, b2_162, b3_162⟩ | ⟨kd_162, ix_162, hr_162, rfl, rfl, rfl, b1_162, b2_162, b3_162, b4_162⟩
              · refine g_if_ne (tgt := 170) C dX10_one_165 (by decide) (fun c165 => ?_) (fun c165 => absurd c165 (by decide))
                refine g_aload_n C dX10_one_170 rfl ?_
                refine g_iload_n C dX10_one_171 rfl ?_
                refine g_callV C (c_X10_lay E h ad (upd (upd (upd (upd (upd (upd (upd (upd iv 18 (nI n)) 19 (nI (en j_162))) 20 (tkT (ks j_162))) 21 (ps j_162)) 22 vl2_162) 23 wr) 24 wa) 26 (nI 3)) (us + C_91.length + C_162.length) (cdW (cdW fr us (C_91.map trJ)) (us + C_91.length) (C_162.map trJ)) (nI 2004) (by omega)) gX10_one_X10_lay rfl 1 (by decide +kernel) ⟨by decide, by decide⟩ ⟨by decide, by decide⟩ 0 rfl rfl [0, 1] [2] (wr := [gA E (ad 17) 600 t]) rfl (by decide) rfl (by decide) (by decide) rfl rfl (Nat.le_of_ble_eq_true rfl) dX10_one_172 ?_
                rintro _ _ ⟨rfl, rfl⟩
                refine gg.perm (ws' := [gO h 10 (tF ad (upd (upd (upd (upd (upd (upd (upd (upd (upd iv 7 (nI ((us + C_91.length + C_162.length) + 1))) 18 (nI n)) 19 (nI (en j_162))) 20 (tkT (ks j_162))) 21 (ps j_162)) 22 vl2_162) 23 wr) 24 wa) 26 (nI 3))), gA E (ad 15) 620 (upd (cdW (cdW fr us (C_91.map trJ)) (us + C_91.length) (C_162.map trJ)) (us + C_91.length + C_162.length) (nI 2004)), gA E (ad 17) 600 t]) [1, 2, 0] (by decide) rfl ?_
                show gg E _ 2 X 0 0 175 [some (.ref h), some (.int (nI 2004))] [] [gO h 10 (tF ad (upd (upd (upd (upd (upd (upd (upd (upd (upd iv 7 (nI ((us + C_91.length + C_162.length) + 1))) 18 (nI n)) 19 (nI (en j_162))) 20 (tkT (ks j_162))) 21 (ps j_162)) 22 vl2_162) 23 wr) 24 wa) 26 (nI 3))), gA E (ad 15) 620 (upd (cdW (cdW fr us (C_91.map trJ)) (us + C_91.length) (C_162.map trJ)) (us + C_91.length + C_162.length) (nI 2004)), gA E (ad 17) 600 t]
                refine g_iconst (v := nI 1) C dX10_one_175 (by decide) ?_
                exact g_zret C Rt dX10_one_176 (by decide) (by decide) (by decide) (⟨true, _, _, _, _, _, _, _, rfl, rfl, rdT_ok (by rw [pLv, if_neg (fun z => z.elim n5 n40), pCmp, hr_91]; exact (if_pos (Or.inr (Or.inr e62))).trans (by rw [pCmp2, hr_162])) (by omega) b2_162 (by omega) (ln3 _ _ _ _) (cd3T _ _ _ _ _ _ (by rw [e62]; decide)), hv_162, fun _ => rfl⟩)
              · refine g_if_ne (tgt := 170) C dX10_one_165 (by decide) (fun c165 => absurd c165 (by decide)) (fun c165 => ?_)
                refine g_iconst (v := nI 0) C dX10_one_168 (by decide) ?_
                exact g_zret C Rt dX10_one_169 (by decide) (by decide) (by decide) (⟨false, _, _, _, _, _, _, _, rfl, rfl, rdT_er (by rw [pLv, if_neg (fun z => z.elim n5 n40), pCmp, hr_91]; exact (if_pos (Or.inr (Or.inr e62))).trans (by rw [pCmp2, hr_162])) (by omega) (b2_162) (by omega) (b4_162), hv_162, fun z => absurd z (by decide)⟩)
          · have e61 := (tq61 (hK _ b2_91)).mp c120
            refine g_sipush (v := nI 2003) C dX10_one_123 (by decide) ?_
            refine g_goto (tgt := 145) C dX10_one_126 (by decide) ?_
            refine g_istore_n C dX10_one_145 (by decide) rfl (ll' := [some (.ref h), some (.int (nI 2003))]) rfl ?_
            refine g_iload_n C dX10_one_146 rfl ?_
            refine g_iconst (v := -1) C dX10_one_147 (by decide) ?_
            refine g_icmp_ne (tgt := 157) C dX10_one_148 (by decide) (fun c148 => ?_) (fun c148 => absurd c148 (by decide))
            have hn7 := not_end hend b2_91 e61 (by decide)
            refine g_aload_n C dX10_one_157 rfl ?_
            refine g_callV C (c_X10_nextT E h ad (upd (upd (upd (upd iv 7 (nI (us + C_91.length))) 23 wr) 24 wa) 26 (nI 3)) n cn j_91 en ks ps t (tkT (ks j_91)) (ps j_91) vl2_91 (by omega) (hb) (hL) (hn7)) gX10_one_X10_next0 rfl 0 (by decide +kernel) ⟨by decide, by decide⟩ ⟨by decide, by decide⟩ 0 rfl rfl [0, 2] [1] (wr := [gA E (ad 15) 620 (cdW fr us (C_91.map trJ))]) rfl (by decide) rfl (by decide) (by decide) rfl rfl (Nat.le_of_ble_eq_true rfl) dX10_one_158 ?_
            rintro _ _ ⟨vl2_158, rfl, rfl, hv_158⟩
            refine gg.perm (ws' := [gO h 10 (tF ad (upd (upd (upd (upd (upd (upd (upd (upd (upd iv 7 (nI (us + C_91.length))) 18 (nI n)) 19 (nI (en (j_91 + 1)))) 20 (tkT (ks (j_91 + 1)))) 21 (ps (j_91 + 1))) 22 vl2_158) 23 wr) 24 wa) 26 (nI 3))), gA E (ad 15) 620 (cdW fr us (C_91.map trJ)), gA E (ad 17) 600 t]) [1, 0, 2] (by decide) rfl ?_
            show gg E _ 2 X 0 0 161 [some (.ref h), some (.int (nI 2003))] [] [gO h 10 (tF ad (upd (upd (upd (upd (upd (upd (upd (upd (upd iv 7 (nI (us + C_91.length))) 18 (nI n)) 19 (nI (en (j_91 + 1)))) 20 (tkT (ks (j_91 + 1)))) 21 (ps (j_91 + 1))) 22 vl2_158) 23 wr) 24 wa) 26 (nI 3))), gA E (ad 15) 620 (cdW fr us (C_91.map trJ)), gA E (ad 17) 600 t]
            refine g_aload_n C dX10_one_161 rfl ?_
            refine g_callV C (c_X10_sum E h ad (upd iv 26 (nI 3)) n cn (us + C_91.length) (j_91 + 1) en ks ps (cdW fr us (C_91.map trJ)) t vl2_158 wr wa (by omega) (hb) (hL) (hK) (hend) (by omega) (by omega) (hv_158) (by omega)) gX10_one_X10_sum rfl 0 (by decide +kernel) ⟨by decide, by decide⟩ ⟨by decide, by decide⟩ 0 rfl rfl [0, 1, 2] [] (wr := []) rfl (by decide) rfl (by decide) (by decide) rfl rfl (Nat.le_of_ble_eq_true rfl) dX10_one_162 ?_
            rintro _ _ ⟨ok_162, j_162, us2_162, fr2_162, vl2_162, wr2_162, wa2_162, rfl, rfl, hq_162, hv_162⟩
            show gg E _ 2 X 0 0 165 [some (.ref h), some (.int (nI 2003))] [.int (b2i ok_162)] [gO h 10 (tF ad (upd (upd (upd (upd (upd (upd (upd (upd (upd iv 7 (nI us2_162)) 18 (nI n)) 19 (nI (en j_162))) 20 (tkT (ks j_162))) 21 (ps j_162)) 22 vl2_162) 23 wr2_162) 24 wa2_162) 26 (nI 3))), gA E (ad 15) 620 fr2_162, gA E (ad 17) 600 t]
            rcases rdT_two hq_162 with ⟨C_162, hr_162, rfl, rfl, rfl, rfl, rfl, b1_162, b2_162, b3_162⟩ | ⟨kd_162, ix_162, hr_162, rfl, rfl, rfl, b1_162, b2_162, b3_162, b4_162⟩
            · refine g_if_ne (tgt := 170) C dX10_one_165 (by decide) (fun c165 => ?_) (fun c165 => absurd c165 (by decide))
              refine g_aload_n C dX10_one_170 rfl ?_
              refine g_iload_n C dX10_one_171 rfl ?_
              refine g_callV C (c_X10_lay E h ad (upd (upd (upd (upd (upd (upd (upd (upd iv 18 (nI n)) 19 (nI (en j_162))) 20 (tkT (ks j_162))) 21 (ps j_162)) 22 vl2_162) 23 wr) 24 wa) 26 (nI 3)) (us + C_91.length + C_162.length) (cdW (cdW fr us (C_91.map trJ)) (us + C_91.length) (C_162.map trJ)) (nI 2003) (by omega)) gX10_one_X10_lay rfl 1 (by decide +kernel) ⟨by decide, by decide⟩ ⟨by decide, by decide⟩ 0 rfl rfl [0, 1] [2] (wr := [gA E (ad 17) 600 t]) rfl (by decide) rfl (by decide) (by decide) rfl rfl (Nat.le_of_ble_eq_true rfl) dX10_one_172 ?_
              rintro _ _ ⟨rfl, rfl⟩
              refine gg.perm (ws' := [gO h 10 (tF ad (upd (upd (upd (upd (upd (upd (upd (upd (upd iv 7 (nI ((us + C_91.length + C_162.length) + 1))) 18 (nI n)) 19 (nI (en j_162))) 20 (tkT (ks j_162))) 21 (ps j_162)) 22 vl2_162) 23 wr) 24 wa) 26 (nI 3))), gA E (ad 15) 620 (upd (cdW (cdW fr us (C_91.map trJ)) (us + C_91.length) (C_162.map trJ)) (us + C_91.length + C_162.length) (nI 2003)), gA E (ad 17) 600 t]) [1, 2, 0] (by decide) rfl ?_
              show gg E _ 2 X 0 0 175 [some (.ref h), some (.int (nI 2003))] [] [gO h 10 (tF ad (upd (upd (upd (upd (upd (upd (upd (upd (upd iv 7 (nI ((us + C_91.length + C_162.length) + 1))) 18 (nI n)) 19 (nI (en j_162))) 20 (tkT (ks j_162))) 21 (ps j_162)) 22 vl2_162) 23 wr) 24 wa) 26 (nI 3))), gA E (ad 15) 620 (upd (cdW (cdW fr us (C_91.map trJ)) (us + C_91.length) (C_162.map trJ)) (us + C_91.length + C_162.length) (nI 2003)), gA E (ad 17) 600 t]
              refine g_iconst (v := nI 1) C dX10_one_175 (by decide) ?_
              exact g_zret C Rt dX10_one_176 (by decide) (by decide) (by decide) (⟨true, _, _, _, _, _, _, _, rfl, rfl, rdT_ok (by rw [pLv, if_neg (fun z => z.elim n5 n40), pCmp, hr_91]; exact (if_pos (Or.inr (Or.inl e61))).trans (by rw [pCmp2, hr_162])) (by omega) b2_162 (by omega) (ln3 _ _ _ _) (cd3T _ _ _ _ _ _ (by rw [e61]; decide)), hv_162, fun _ => rfl⟩)
            · refine g_if_ne (tgt := 170) C dX10_one_165 (by decide) (fun c165 => absurd c165 (by decide)) (fun c165 => ?_)
              refine g_iconst (v := nI 0) C dX10_one_168 (by decide) ?_
              exact g_zret C Rt dX10_one_169 (by decide) (by decide) (by decide) (⟨false, _, _, _, _, _, _, _, rfl, rfl, rdT_er (by rw [pLv, if_neg (fun z => z.elim n5 n40), pCmp, hr_91]; exact (if_pos (Or.inr (Or.inl e61))).trans (by rw [pCmp2, hr_162])) (by omega) (b2_162) (by omega) (b4_162), hv_162, fun z => absurd z (by decide)⟩)
        · have e60 := (tq60 (hK _ b2_91)).mp c105
          refine g_sipush (v := nI 2002) C dX10_one_108 (by decide) ?_
          refine g_goto (tgt := 145) C dX10_one_111 (by decide) ?_
          refine g_istore_n C dX10_one_145 (by decide) rfl (ll' := [some (.ref h), some (.int (nI 2002))]) rfl ?_
          refine g_iload_n C dX10_one_146 rfl ?_
          refine g_iconst (v := -1) C dX10_one_147 (by decide) ?_
          refine g_icmp_ne (tgt := 157) C dX10_one_148 (by decide) (fun c148 => ?_) (fun c148 => absurd c148 (by decide))
          have hn7 := not_end hend b2_91 e60 (by decide)
          refine g_aload_n C dX10_one_157 rfl ?_
          refine g_callV C (c_X10_nextT E h ad (upd (upd (upd (upd iv 7 (nI (us + C_91.length))) 23 wr) 24 wa) 26 (nI 3)) n cn j_91 en ks ps t (tkT (ks j_91)) (ps j_91) vl2_91 (by omega) (hb) (hL) (hn7)) gX10_one_X10_next0 rfl 0 (by decide +kernel) ⟨by decide, by decide⟩ ⟨by decide, by decide⟩ 0 rfl rfl [0, 2] [1] (wr := [gA E (ad 15) 620 (cdW fr us (C_91.map trJ))]) rfl (by decide) rfl (by decide) (by decide) rfl rfl (Nat.le_of_ble_eq_true rfl) dX10_one_158 ?_
          rintro _ _ ⟨vl2_158, rfl, rfl, hv_158⟩
          refine gg.perm (ws' := [gO h 10 (tF ad (upd (upd (upd (upd (upd (upd (upd (upd (upd iv 7 (nI (us + C_91.length))) 18 (nI n)) 19 (nI (en (j_91 + 1)))) 20 (tkT (ks (j_91 + 1)))) 21 (ps (j_91 + 1))) 22 vl2_158) 23 wr) 24 wa) 26 (nI 3))), gA E (ad 15) 620 (cdW fr us (C_91.map trJ)), gA E (ad 17) 600 t]) [1, 0, 2] (by decide) rfl ?_
          show gg E _ 2 X 0 0 161 [some (.ref h), some (.int (nI 2002))] [] [gO h 10 (tF ad (upd (upd (upd (upd (upd (upd (upd (upd (upd iv 7 (nI (us + C_91.length))) 18 (nI n)) 19 (nI (en (j_91 + 1)))) 20 (tkT (ks (j_91 + 1)))) 21 (ps (j_91 + 1))) 22 vl2_158) 23 wr) 24 wa) 26 (nI 3))), gA E (ad 15) 620 (cdW fr us (C_91.map trJ)), gA E (ad 17) 600 t]
          refine g_aload_n C dX10_one_161 rfl ?_
          refine g_callV C (c_X10_sum E h ad (upd iv 26 (nI 3)) n cn (us + C_91.length) (j_91 + 1) en ks ps (cdW fr us (C_91.map trJ)) t vl2_158 wr wa (by omega) (hb) (hL) (hK) (hend) (by omega) (by omega) (hv_158) (by omega)) gX10_one_X10_sum rfl 0 (by decide +kernel) ⟨by decide, by decide⟩ ⟨by decide, by decide⟩ 0 rfl rfl [0, 1, 2] [] (wr := []) rfl (by decide) rfl (by decide) (by decide) rfl rfl (Nat.le_of_ble_eq_true rfl) dX10_one_162 ?_
          rintro _ _ ⟨ok_162, j_162, us2_162, fr2_162, vl2_162, wr2_162, wa2_162, rfl, rfl, hq_162, hv_162⟩
          show gg E _ 2 X 0 0 165 [some (.ref h), some (.int (nI 2002))] [.int (b2i ok_162)] [gO h 10 (tF ad (upd (upd (upd (upd (upd (upd (upd (upd (upd iv 7 (nI us2_162)) 18 (nI n)) 19 (nI (en j_162))) 20 (tkT (ks j_162))) 21 (ps j_162)) 22 vl2_162) 23 wr2_162) 24 wa2_162) 26 (nI 3))), gA E (ad 15) 620 fr2_162, gA E (ad 17) 600 t]
          rcases rdT_two hq_162 with ⟨C_162, hr_162, rfl, rfl, rfl, rfl, rfl, b1_162, b2_162, b3_162⟩ | ⟨kd_162, ix_162, hr_162, rfl, rfl, rfl, b1_162, b2_162, b3_162, b4_162⟩
          · refine g_if_ne (tgt := 170) C dX10_one_165 (by decide) (fun c165 => ?_) (fun c165 => absurd c165 (by decide))
            refine g_aload_n C dX10_one_170 rfl ?_
            refine g_iload_n C dX10_one_171 rfl ?_
            refine g_callV C (c_X10_lay E h ad (upd (upd (upd (upd (upd (upd (upd (upd iv 18 (nI n)) 19 (nI (en j_162))) 20 (tkT (ks j_162))) 21 (ps j_162)) 22 vl2_162) 23 wr) 24 wa) 26 (nI 3)) (us + C_91.length + C_162.length) (cdW (cdW fr us (C_91.map trJ)) (us + C_91.length) (C_162.map trJ)) (nI 2002) (by omega)) gX10_one_X10_lay rfl 1 (by decide +kernel) ⟨by decide, by decide⟩ ⟨by decide, by decide⟩ 0 rfl rfl [0, 1] [2] (wr := [gA E (ad 17) 600 t]) rfl (by decide) rfl (by decide) (by decide) rfl rfl (Nat.le_of_ble_eq_true rfl) dX10_one_172 ?_
            rintro _ _ ⟨rfl, rfl⟩
            refine gg.perm (ws' := [gO h 10 (tF ad (upd (upd (upd (upd (upd (upd (upd (upd (upd iv 7 (nI ((us + C_91.length + C_162.length) + 1))) 18 (nI n)) 19 (nI (en j_162))) 20 (tkT (ks j_162))) 21 (ps j_162)) 22 vl2_162) 23 wr) 24 wa) 26 (nI 3))), gA E (ad 15) 620 (upd (cdW (cdW fr us (C_91.map trJ)) (us + C_91.length) (C_162.map trJ)) (us + C_91.length + C_162.length) (nI 2002)), gA E (ad 17) 600 t]) [1, 2, 0] (by decide) rfl ?_
            show gg E _ 2 X 0 0 175 [some (.ref h), some (.int (nI 2002))] [] [gO h 10 (tF ad (upd (upd (upd (upd (upd (upd (upd (upd (upd iv 7 (nI ((us + C_91.length + C_162.length) + 1))) 18 (nI n)) 19 (nI (en j_162))) 20 (tkT (ks j_162))) 21 (ps j_162)) 22 vl2_162) 23 wr) 24 wa) 26 (nI 3))), gA E (ad 15) 620 (upd (cdW (cdW fr us (C_91.map trJ)) (us + C_91.length) (C_162.map trJ)) (us + C_91.length + C_162.length) (nI 2002)), gA E (ad 17) 600 t]
            refine g_iconst (v := nI 1) C dX10_one_175 (by decide) ?_
            exact g_zret C Rt dX10_one_176 (by decide) (by decide) (by decide) (⟨true, _, _, _, _, _, _, _, rfl, rfl, rdT_ok (by rw [pLv, if_neg (fun z => z.elim n5 n40), pCmp, hr_91]; exact (if_pos (Or.inl e60)).trans (by rw [pCmp2, hr_162])) (by omega) b2_162 (by omega) (ln3 _ _ _ _) (cd3T _ _ _ _ _ _ (by rw [e60]; decide)), hv_162, fun _ => rfl⟩)
          · refine g_if_ne (tgt := 170) C dX10_one_165 (by decide) (fun c165 => absurd c165 (by decide)) (fun c165 => ?_)
            refine g_iconst (v := nI 0) C dX10_one_168 (by decide) ?_
            exact g_zret C Rt dX10_one_169 (by decide) (by decide) (by decide) (⟨false, _, _, _, _, _, _, _, rfl, rfl, rdT_er (by rw [pLv, if_neg (fun z => z.elim n5 n40), pCmp, hr_91]; exact (if_pos (Or.inl e60)).trans (by rw [pCmp2, hr_162])) (by omega) (b2_162) (by omega) (b4_162), hv_162, fun z => absurd z (by decide)⟩)
      · refine g_if_ne (tgt := 99) C dX10_one_94 (by decide) (fun c94 => absurd c94 (by decide)) (fun c94 => ?_)
        refine g_iconst (v := nI 0) C dX10_one_97 (by decide) ?_
        exact g_zret C Rt dX10_one_98 (by decide) (by decide) (by decide) (⟨false, _, _, _, _, _, _, _, rfl, rfl, rdT_er (by rw [pLv, if_neg (fun z => z.elim n5 n40), pCmp, hr_91]) (by omega) (b2_91) (by omega) (b4_91), hv_91, fun z => absurd z (by decide)⟩)
    · have e40 := (tq40 (hK i hi)).mp c50
      have hn8 := not_end hend hi e40 (by decide)
      refine g_aload_n C dX10_one_53 rfl ?_
      refine g_callV C (c_X10_opens_3 E h ad (upd iv 7 (nI us)) n cn i en ks ps t vl wr wa (by omega) (hb) (hL) (hn8)) gX10_one_X10_opens rfl 0 (by decide +kernel) ⟨by decide, by decide⟩ ⟨by decide, by decide⟩ 0 rfl rfl [0, 2] [1] (wr := [gA E (ad 15) 620 fr]) rfl (by decide) rfl (by decide) (by decide) rfl rfl (Nat.le_of_ble_eq_true rfl) dX10_one_54 ?_
      rintro _ _ ⟨vl2_54, rfl, rfl, hv_54⟩
      refine gg.perm (ws' := [gO h 10 (tF ad (upd (upd (upd (upd (upd (upd (upd (upd (upd iv 7 (nI us)) 18 (nI n)) 19 (nI (en (i + 1)))) 20 (tkT (ks (i + 1)))) 21 (ps (i + 1))) 22 vl2_54) 23 wr) 24 wa) 26 (nI 4))), gA E (ad 15) 620 fr, gA E (ad 17) 600 t]) [1, 0, 2] (by decide) rfl ?_
      show gg E _ 2 X 0 0 57 [some (.ref h), none] [.int (nI 1)] [gO h 10 (tF ad (upd (upd (upd (upd (upd (upd (upd (upd (upd iv 7 (nI us)) 18 (nI n)) 19 (nI (en (i + 1)))) 20 (tkT (ks (i + 1)))) 21 (ps (i + 1))) 22 vl2_54) 23 wr) 24 wa) 26 (nI 4))), gA E (ad 15) 620 fr, gA E (ad 17) 600 t]
      refine g_if_eq (tgt := 76) C dX10_one_57 (by decide) (fun c57 => absurd c57 (by decide)) (fun c57 => ?_)
      refine g_aload_n C dX10_one_60 rfl ?_
      refine g_callV C (c_X10_any_4 E h ad iv n cn us (i + 1) en ks ps fr t vl2_54 wr wa (by omega) (hb) (hL) (hK) (hend) (by omega) (by omega) (hv_54) (by omega)) gX10_one_X10_any rfl 0 (by decide +kernel) ⟨by decide, by decide⟩ ⟨by decide, by decide⟩ 0 rfl rfl [0, 1, 2] [] (wr := []) rfl (by decide) rfl (by decide) (by decide) rfl rfl (Nat.le_of_ble_eq_true rfl) dX10_one_61 ?_
      rintro _ _ ⟨ok_61, j_61, us2_61, fr2_61, vl2_61, wr2_61, wa2_61, dp2_61, rfl, rfl, hq_61, hv_61, hd_61⟩
      show gg E _ 2 X 0 0 64 [some (.ref h), none] [.int (b2i ok_61)] [gO h 10 (tF ad (upd (upd (upd (upd (upd (upd (upd (upd (upd iv 7 (nI us2_61)) 18 (nI n)) 19 (nI (en j_61))) 20 (tkT (ks j_61))) 21 (ps j_61)) 22 vl2_61) 23 wr2_61) 24 wa2_61) 26 dp2_61)), gA E (ad 15) 620 fr2_61, gA E (ad 17) 600 t]
      rcases rdT_two hq_61 with ⟨C_61, hr_61, rfl, rfl, rfl, rfl, rfl, b1_61, b2_61, b3_61⟩ | ⟨kd_61, ix_61, hr_61, rfl, rfl, rfl, b1_61, b2_61, b3_61, b4_61⟩
      · obtain rfl := hd_61 rfl
        refine g_if_eq (tgt := 76) C dX10_one_64 (by decide) (fun c64 => absurd c64 (by decide)) (fun c64 => ?_)
        skip
        refine g_aload_n C dX10_one_67 rfl ?_
        rcases Classical.em (ks j_61 = nI 1141) with hx | hx
        · refine g_bipush (v := nI 41) C dX10_one_68 (by decide) ?_
          refine g_callV C (c_X10_need_y E h ad (upd (upd iv 7 (nI (us + C_61.length))) 26 (nI 4)) n cn j_61 41 en ks ps t vl2_61 wr wa (by omega) (hb) (hL) (not_end hend b2_61 hx (by decide)) ((tq41 (hK _ b2_61)).mpr hx)) gX10_one_X10_need rfl 1 (by decide +kernel) ⟨by decide, by decide⟩ ⟨by decide, by decide⟩ 0 rfl rfl [0, 2] [1] (wr := [gA E (ad 15) 620 (cdW fr us (C_61.map trJ))]) rfl (by decide) rfl (by decide) (by decide) rfl rfl (Nat.le_of_ble_eq_true rfl) dX10_one_70 ?_
          rintro _ _ ⟨vl2_70, rfl, rfl, hv_70⟩
          refine gg.perm (ws' := [gO h 10 (tF ad (upd (upd (upd (upd (upd (upd (upd (upd (upd iv 7 (nI (us + C_61.length))) 18 (nI n)) 19 (nI (en (j_61 + 1)))) 20 (tkT (ks (j_61 + 1)))) 21 (ps (j_61 + 1))) 22 vl2_70) 23 wr) 24 wa) 26 (nI 4))), gA E (ad 15) 620 (cdW fr us (C_61.map trJ)), gA E (ad 17) 600 t]) [1, 0, 2] (by decide) rfl ?_
          show gg E _ 2 X 0 0 73 [some (.ref h), none] [.int (nI 1)] [gO h 10 (tF ad (upd (upd (upd (upd (upd (upd (upd (upd (upd iv 7 (nI (us + C_61.length))) 18 (nI n)) 19 (nI (en (j_61 + 1)))) 20 (tkT (ks (j_61 + 1)))) 21 (ps (j_61 + 1))) 22 vl2_70) 23 wr) 24 wa) 26 (nI 4))), gA E (ad 15) 620 (cdW fr us (C_61.map trJ)), gA E (ad 17) 600 t]
          refine g_if_ne (tgt := 78) C dX10_one_73 (by decide) (fun c73 => ?_) (fun c73 => absurd c73 (by decide))
          have hn9 := not_end hend b2_61 hx (by decide)
          refine g_aload_n C dX10_one_78 rfl ?_
          refine g_dup C dX10_one_79 rfl ?_
          refine g_get C i_X10 0 26 f_188 rfl rfl (by decide) rfl rfl dX10_one_80 ?_
          show gg E _ 2 X 0 0 83 [some (.ref h), none] [.int (nI 4), .ref h] [gO h 10 (tF ad (upd (upd (upd (upd (upd (upd (upd (upd (upd iv 7 (nI (us + C_61.length))) 18 (nI n)) 19 (nI (en (j_61 + 1)))) 20 (tkT (ks (j_61 + 1)))) 21 (ps (j_61 + 1))) 22 vl2_70) 23 wr) 24 wa) 26 (nI 4))), gA E (ad 15) 620 (cdW fr us (C_61.map trJ)), gA E (ad 17) 600 t]
          refine g_iconst (v := nI 1) C dX10_one_83 (by decide) ?_
          refine g_isub C dX10_one_84 (g_top (x' := nI 3) (by decide) ?_)
          refine g_put C i_X10 tyX10 tyX10_ok nmX10 0 26 f_188 rfl rfl (by decide) rfl rfl rfl rfl rfl (Nat.le_of_ble_eq_true rfl) dX10_one_85 (ws' := [gO h 10 (tF ad (upd (upd (upd (upd (upd (upd (upd (upd (upd iv 7 (nI (us + C_61.length))) 18 (nI n)) 19 (nI (en (j_61 + 1)))) 20 (tkT (ks (j_61 + 1)))) 21 (ps (j_61 + 1))) 22 vl2_70) 23 wr) 24 wa) 26 (nI 3))), gA E (ad 15) 620 (cdW fr us (C_61.map trJ)), gA E (ad 17) 600 t]) rfl ?_
          refine g_iconst (v := nI 1) C dX10_one_88 (by decide) ?_
          exact g_zret C Rt dX10_one_89 (by decide) (by decide) (by decide) (⟨true, _, _, _, _, _, _, _, rfl, rfl, rdT_ok (by rw [pLv, if_pos (Or.inr e40), if_neg n5, hr_61]; exact if_pos hx) (by omega) hn9 (by omega) rfl rfl, hv_70, fun _ => rfl⟩)
        · refine g_bipush (v := nI 41) C dX10_one_68 (by decide) ?_
          refine g_callV C (c_X10_need_n E h ad (upd (upd iv 7 (nI (us + C_61.length))) 26 (nI 4)) n cn j_61 41 en ks ps t vl2_61 wr wa (fun z => hx ((tq41 (hK _ b2_61)).mp z))) gX10_one_X10_need rfl 1 (by decide +kernel) ⟨by decide, by decide⟩ ⟨by decide, by decide⟩ 0 rfl rfl [0, 2] [1] (wr := [gA E (ad 15) 620 (cdW fr us (C_61.map trJ))]) rfl (by decide) rfl (by decide) (by decide) rfl rfl (Nat.le_of_ble_eq_true rfl) dX10_one_70 ?_
          rintro _ _ ⟨rfl, rfl⟩
          refine gg.perm (ws' := [gO h 10 (tF ad (upd (upd (upd (upd (upd (upd (upd (upd (upd iv 7 (nI (us + C_61.length))) 18 (nI n)) 19 (nI (en j_61))) 20 (tkT (ks j_61))) 21 (ps j_61)) 22 vl2_61) 23 (nI 1)) 24 (ps j_61)) 26 (nI 4))), gA E (ad 15) 620 (cdW fr us (C_61.map trJ)), gA E (ad 17) 600 t]) [1, 0, 2] (by decide) rfl ?_
          show gg E _ 2 X 0 0 73 [some (.ref h), none] [.int (nI 0)] [gO h 10 (tF ad (upd (upd (upd (upd (upd (upd (upd (upd (upd iv 7 (nI (us + C_61.length))) 18 (nI n)) 19 (nI (en j_61))) 20 (tkT (ks j_61))) 21 (ps j_61)) 22 vl2_61) 23 (nI 1)) 24 (ps j_61)) 26 (nI 4))), gA E (ad 15) 620 (cdW fr us (C_61.map trJ)), gA E (ad 17) 600 t]
          refine g_if_ne (tgt := 78) C dX10_one_73 (by decide) (fun c73 => absurd c73 (by decide)) (fun c73 => ?_)
          refine g_iconst (v := nI 0) C dX10_one_76 (by decide) ?_
          exact g_zret C Rt dX10_one_77 (by decide) (by decide) (by decide) (⟨false, _, _, _, _, _, _, _, rfl, rfl, rdT_er (by rw [pLv, if_pos (Or.inr e40), if_neg n5, hr_61]; exact if_neg hx) (by omega) (b2_61) (by omega) (b2_61), hv_61, fun z => absurd z (by decide)⟩)
      · refine g_if_eq (tgt := 76) C dX10_one_64 (by decide) (fun c64 => ?_) (fun c64 => absurd c64 (by decide))
        refine g_iconst (v := nI 0) C dX10_one_76 (by decide) ?_
        exact g_zret C Rt dX10_one_77 (by decide) (by decide) (by decide) (⟨false, _, _, _, _, _, _, _, rfl, rfl, rdT_er (by rw [pLv, if_pos (Or.inr e40), if_neg n5, hr_61]; rfl) (by omega) (b2_61) (by omega) (b4_61), hv_61, fun z => absurd z (by decide)⟩)
  · have e5 := (tq8 (hK i hi)).mp c6
    have hn8 := not_end hend hi e5 (by decide)
    refine g_aload_n C dX10_one_9 rfl ?_
    refine g_callV C (c_X10_opens_3 E h ad (upd iv 7 (nI us)) n cn i en ks ps t vl wr wa (by omega) (hb) (hL) (hn8)) gX10_one_X10_opens rfl 0 (by decide +kernel) ⟨by decide, by decide⟩ ⟨by decide, by decide⟩ 0 rfl rfl [0, 2] [1] (wr := [gA E (ad 15) 620 fr]) rfl (by decide) rfl (by decide) (by decide) rfl rfl (Nat.le_of_ble_eq_true rfl) dX10_one_10 ?_
    rintro _ _ ⟨vl2_10, rfl, rfl, hv_10⟩
    refine gg.perm (ws' := [gO h 10 (tF ad (upd (upd (upd (upd (upd (upd (upd (upd (upd iv 7 (nI us)) 18 (nI n)) 19 (nI (en (i + 1)))) 20 (tkT (ks (i + 1)))) 21 (ps (i + 1))) 22 vl2_10) 23 wr) 24 wa) 26 (nI 4))), gA E (ad 15) 620 fr, gA E (ad 17) 600 t]) [1, 0, 2] (by decide) rfl ?_
    show gg E _ 2 X 0 0 13 [some (.ref h), none] [.int (nI 1)] [gO h 10 (tF ad (upd (upd (upd (upd (upd (upd (upd (upd (upd iv 7 (nI us)) 18 (nI n)) 19 (nI (en (i + 1)))) 20 (tkT (ks (i + 1)))) 21 (ps (i + 1))) 22 vl2_10) 23 wr) 24 wa) 26 (nI 4))), gA E (ad 15) 620 fr, gA E (ad 17) 600 t]
    refine g_if_eq (tgt := 23) C dX10_one_13 (by decide) (fun c13 => absurd c13 (by decide)) (fun c13 => ?_)
    refine g_aload_n C dX10_one_16 rfl ?_
    refine g_callV C (c_X10_one_4 E h ad iv n cn us (i + 1) en ks ps fr t vl2_10 wr wa (by omega) (hb) (hL) (hK) (hend) (by omega) (by omega) (hv_10) (by omega)) gX10_one_X10_one rfl 0 (by decide +kernel) ⟨by decide, by decide⟩ ⟨by decide, by decide⟩ 0 rfl rfl [0, 1, 2] [] (wr := []) rfl (by decide) rfl (by decide) (by decide) rfl rfl (Nat.le_of_ble_eq_true rfl) dX10_one_17 ?_
    rintro _ _ ⟨ok_17, j_17, us2_17, fr2_17, vl2_17, wr2_17, wa2_17, dp2_17, rfl, rfl, hq_17, hv_17, hd_17⟩
    show gg E _ 2 X 0 0 20 [some (.ref h), none] [.int (b2i ok_17)] [gO h 10 (tF ad (upd (upd (upd (upd (upd (upd (upd (upd (upd iv 7 (nI us2_17)) 18 (nI n)) 19 (nI (en j_17))) 20 (tkT (ks j_17))) 21 (ps j_17)) 22 vl2_17) 23 wr2_17) 24 wa2_17) 26 dp2_17)), gA E (ad 15) 620 fr2_17, gA E (ad 17) 600 t]
    rcases rdT_two hq_17 with ⟨C_17, hr_17, rfl, rfl, rfl, rfl, rfl, b1_17, b2_17, b3_17⟩ | ⟨kd_17, ix_17, hr_17, rfl, rfl, rfl, b1_17, b2_17, b3_17, b4_17⟩
    · obtain rfl := hd_17 rfl
      refine g_if_ne (tgt := 25) C dX10_one_20 (by decide) (fun c20 => ?_) (fun c20 => absurd c20 (by decide))
      refine g_aload_n C dX10_one_25 rfl ?_
      refine g_dup C dX10_one_26 rfl ?_
      refine g_get C i_X10 0 26 f_188 rfl rfl (by decide) rfl rfl dX10_one_27 ?_
      show gg E _ 2 X 0 0 30 [some (.ref h), none] [.int (nI 4), .ref h] [gO h 10 (tF ad (upd (upd (upd (upd (upd (upd (upd (upd (upd iv 7 (nI (us + C_17.length))) 18 (nI n)) 19 (nI (en j_17))) 20 (tkT (ks j_17))) 21 (ps j_17)) 22 vl2_17) 23 wr) 24 wa) 26 (nI 4))), gA E (ad 15) 620 (cdW fr us (C_17.map trJ)), gA E (ad 17) 600 t]
      refine g_iconst (v := nI 1) C dX10_one_30 (by decide) ?_
      refine g_isub C dX10_one_31 (g_top (x' := nI 3) (by decide) ?_)
      refine g_put C i_X10 tyX10 tyX10_ok nmX10 0 26 f_188 rfl rfl (by decide) rfl rfl rfl rfl rfl (Nat.le_of_ble_eq_true rfl) dX10_one_32 (ws' := [gO h 10 (tF ad (upd (upd (upd (upd (upd (upd (upd (upd (upd iv 7 (nI (us + C_17.length))) 18 (nI n)) 19 (nI (en j_17))) 20 (tkT (ks j_17))) 21 (ps j_17)) 22 vl2_17) 23 wr) 24 wa) 26 (nI 3))), gA E (ad 15) 620 (cdW fr us (C_17.map trJ)), gA E (ad 17) 600 t]) rfl ?_
      refine g_aload_n C dX10_one_35 rfl ?_
      refine g_sipush (v := nI 2005) C dX10_one_36 (by decide) ?_
      refine g_callV C (c_X10_lay E h ad (upd (upd (upd (upd (upd (upd (upd (upd iv 18 (nI n)) 19 (nI (en j_17))) 20 (tkT (ks j_17))) 21 (ps j_17)) 22 vl2_17) 23 wr) 24 wa) 26 (nI 3)) (us + C_17.length) (cdW fr us (C_17.map trJ)) (nI 2005) (by omega)) gX10_one_X10_lay rfl 1 (by decide +kernel) ⟨by decide, by decide⟩ ⟨by decide, by decide⟩ 0 rfl rfl [0, 1] [2] (wr := [gA E (ad 17) 600 t]) rfl (by decide) rfl (by decide) (by decide) rfl rfl (Nat.le_of_ble_eq_true rfl) dX10_one_39 ?_
      rintro _ _ ⟨rfl, rfl⟩
      refine gg.perm (ws' := [gO h 10 (tF ad (upd (upd (upd (upd (upd (upd (upd (upd (upd iv 7 (nI ((us + C_17.length) + 1))) 18 (nI n)) 19 (nI (en j_17))) 20 (tkT (ks j_17))) 21 (ps j_17)) 22 vl2_17) 23 wr) 24 wa) 26 (nI 3))), gA E (ad 15) 620 (upd (cdW fr us (C_17.map trJ)) (us + C_17.length) (nI 2005)), gA E (ad 17) 600 t]) [1, 2, 0] (by decide) rfl ?_
      show gg E _ 2 X 0 0 42 [some (.ref h), none] [] [gO h 10 (tF ad (upd (upd (upd (upd (upd (upd (upd (upd (upd iv 7 (nI ((us + C_17.length) + 1))) 18 (nI n)) 19 (nI (en j_17))) 20 (tkT (ks j_17))) 21 (ps j_17)) 22 vl2_17) 23 wr) 24 wa) 26 (nI 3))), gA E (ad 15) 620 (upd (cdW fr us (C_17.map trJ)) (us + C_17.length) (nI 2005)), gA E (ad 17) 600 t]
      refine g_iconst (v := nI 1) C dX10_one_42 (by decide) ?_
      exact g_zret C Rt dX10_one_43 (by decide) (by decide) (by decide) (⟨true, _, _, _, _, _, _, _, rfl, rfl, rdT_ok (by rw [pLv, if_pos (Or.inl e5), if_pos e5, hr_17]; rfl) (by omega) b2_17 (by omega) (ln2 _ _ _) (cd2T _ _ _ _ _ (by decide)), hv_17, fun _ => rfl⟩)
    · refine g_if_ne (tgt := 25) C dX10_one_20 (by decide) (fun c20 => absurd c20 (by decide)) (fun c20 => ?_)
      refine g_iconst (v := nI 0) C dX10_one_23 (by decide) ?_
      exact g_zret C Rt dX10_one_24 (by decide) (by decide) (by decide) (⟨false, _, _, _, _, _, _, _, rfl, rfl, rdT_er (by rw [pLv, if_pos (Or.inl e5), if_pos e5, hr_17]; rfl) (by omega) (b2_17) (by omega) (b4_17), hv_17, fun z => absurd z (by decide)⟩)

abbrev rm_c_X10_all_5 : Room := { frames := 21, cells := 0, slots := 0, locals := 433 }
set_option maxHeartbeats 4000000 in
set_option maxRecDepth 100000 in
theorem c_X10_all_5 (E : gE) (h : Nat) (ad : Nat → Nat) (iv : Nat → Int32) (n cn us i : Nat) (en : Nat → Nat) (ks ps fr t : Nat → Int32) (vl wr wa : Int32) (hn : n ≤ 600) (hb : okY t n) (hL : twL t n cn ks ps en) (hK : ∀ q, q < cn → tkC (ks q)) (hend : ks (cn - 1) = nI 1011) (hcn : cn ≤ 601) (hi : i < cn) (hv : ¬ nI 999 < ks i → vl = ks i) (hus : us ≤ i) : MM E yX10_all wsX10_all rm_c_X10_all_5 [.ref h] [gO h 10 (tF ad (upd (upd (upd (upd (upd (upd (upd (upd (upd iv 7 (nI us)) 18 (nI n)) 19 (nI (en i))) 20 (tkT (ks i))) 21 (ps i)) 22 vl) 23 wr) 24 wa) 26 (nI 3))), gA E (ad 15) 620 fr, gA E (ad 17) 600 t] (fun rv_ ru_ => ∃ (ok : Bool) (j us2 : Nat) (fr2 : Nat → Int32) (vl2 wr2 wa2 dp2 : Int32), rv_ = some (.int (b2i ok)) ∧ ru_ = [gO h 10 (tF ad (upd (upd (upd (upd (upd (upd (upd (upd (upd iv 7 (nI us2)) 18 (nI n)) 19 (nI (en j))) 20 (tkT (ks j))) 21 (ps j)) 22 vl2) 23 wr2) 24 wa2) 26 dp2)), gA E (ad 15) 620 fr2, gA E (ad 17) 600 t] ∧ (rdQ (trR (pAll ks (pLv ks 5) i)) ps cn i us fr wr wa ok j us2 fr2 wr2 wa2) ∧ (¬ nI 999 < ks j → vl2 = ks j) ∧ (ok = true → dp2 = nI 3)) := by
  refine MM.ofG (cc := cX10_all) (maxL := 1) (ret := (some .boolean)) (by decide) rfl (Nat.le_of_ble_eq_true rfl) (ll := [some (.ref h)]) rfl ?_
  intro X C Rt
  have C : gx E X cX10_all 1 wsX10_all RX10 := C
  have i_X10 : ∀ w ∈ u_ws RX10 TX10 40, w ∈ wsX10_all := by decide +kernel
  have f_154 : Cond.fieldLink RX10 154 "MarkPagesModel" "token" "I" ∈ wsX10_all := by decide +kernel
  refine g_aload_n C dX10_all_0 rfl ?_
  refine g_callV C (c_X10_one_5 E h ad iv n cn us i en ks ps fr t vl wr wa (by omega) (hb) (hL) (hK) (hend) (by omega) (by omega) (hv) (by omega)) gX10_all_X10_one rfl 0 (by decide +kernel) ⟨by decide, by decide⟩ ⟨by decide, by decide⟩ 0 rfl rfl [0, 1, 2] [] (wr := []) rfl (by decide) rfl (by decide) (by decide) rfl rfl (Nat.le_of_ble_eq_true rfl) dX10_all_1 ?_
  rintro _ _ ⟨ok_1, j_1, us2_1, fr2_1, vl2_1, wr2_1, wa2_1, dp2_1, rfl, rfl, hq_1, hv_1, hd_1⟩
  show gg E _ 1 X 0 0 4 [some (.ref h)] [.int (b2i ok_1)] [gO h 10 (tF ad (upd (upd (upd (upd (upd (upd (upd (upd (upd iv 7 (nI us2_1)) 18 (nI n)) 19 (nI (en j_1))) 20 (tkT (ks j_1))) 21 (ps j_1)) 22 vl2_1) 23 wr2_1) 24 wa2_1) 26 dp2_1)), gA E (ad 15) 620 fr2_1, gA E (ad 17) 600 t]
  rcases rdT_two hq_1 with ⟨C_1, hr_1, rfl, rfl, rfl, rfl, rfl, b1_1, b2_1, b3_1⟩ | ⟨kd_1, ix_1, hr_1, rfl, rfl, rfl, b1_1, b2_1, b3_1, b4_1⟩
  · obtain rfl := hd_1 rfl
    refine g_if_ne (tgt := 9) C dX10_all_4 (by decide) (fun c4 => ?_) (fun c4 => absurd c4 (by decide))
    have L9 : ∀ (n9 : Nat) (it j1 f1 : Nat) (C1 : List Int32) (vl1 : Int32), cn - j1 < n9 → (j1 < cn) → (i + it ≤ j1) → (f1 + it = 601) → (C1.length + i ≤ j1) → (pAll ks (pLv ks 5) i = lpO ks (nI 1004) (pLv ks 5) f1 j1 C1) → (¬ nI 999 < ks j1 → vl1 = ks j1) → gg E rm_c_X10_all_5 1 X 0 0 9 [some (.ref h)] [] [gO h 10 (tF ad (upd (upd (upd (upd (upd (upd (upd (upd (upd iv 7 (nI (us + C1.length))) 18 (nI n)) 19 (nI (en j1))) 20 (tkT (ks j1))) 21 (ps j1)) 22 vl1) 23 wr) 24 wa) 26 (nI 3))), gA E (ad 15) 620 (cdW fr us (C1.map trJ)), gA E (ad 17) 600 t] := by
      intro n9
      induction n9 with
      | zero => intro it j1 f1 C1 vl1 hm9; exact absurd hm9 (Nat.not_lt_zero _)
      | succ n9 ih9 =>
        intro it j1 f1 C1 vl1 hm9 g1 g2 g3 g4 g5 hv1
        refine g_aload_n C dX10_all_9 rfl ?_
        refine g_get C i_X10 0 20 f_154 rfl rfl (by decide) rfl rfl dX10_all_10 ?_
        refine g_bipush (v := nI 7) C dX10_all_13 (by decide) ?_
        refine g_icmp_ne (tgt := 41) C dX10_all_15 (by decide) (fun c15 => ?_) (fun c15 => ?_)
        · refine g_iconst (v := nI 1) C dX10_all_41 (by decide) ?_
          exact g_zret C Rt dX10_all_42 (by decide) (by decide) (by decide) (⟨true, _, _, _, _, _, _, _, rfl, rfl, rdT_ok (by rw [g5, show f1 = f1 - 1 + 1 by omega, lpO, if_neg (fun z => c15 ((tq7 (hK _ g1)).mpr z))]) (by omega) g1 (by omega) rfl rfl, hv1, fun _ => rfl⟩)
        · have e15 := (tq7 (hK _ g1)).mp c15
          have hn7 := not_end hend g1 e15 (by decide)
          refine g_aload_n C dX10_all_18 rfl ?_
          refine g_callV C (c_X10_nextT E h ad (upd (upd (upd (upd iv 7 (nI (us + C1.length))) 23 wr) 24 wa) 26 (nI 3)) n cn j1 en ks ps t (tkT (ks j1)) (ps j1) vl1 (by omega) (hb) (hL) (hn7)) gX10_all_X10_next0 rfl 0 (by decide +kernel) ⟨by decide, by decide⟩ ⟨by decide, by decide⟩ 0 rfl rfl [0, 2] [1] (wr := [gA E (ad 15) 620 (cdW fr us (C1.map trJ))]) rfl (by decide) rfl (by decide) (by decide) rfl rfl (Nat.le_of_ble_eq_true rfl) dX10_all_19 ?_
          rintro _ _ ⟨vl2_19, rfl, rfl, hv_19⟩
          refine gg.perm (ws' := [gO h 10 (tF ad (upd (upd (upd (upd (upd (upd (upd (upd (upd iv 7 (nI (us + C1.length))) 18 (nI n)) 19 (nI (en (j1 + 1)))) 20 (tkT (ks (j1 + 1)))) 21 (ps (j1 + 1))) 22 vl2_19) 23 wr) 24 wa) 26 (nI 3))), gA E (ad 15) 620 (cdW fr us (C1.map trJ)), gA E (ad 17) 600 t]) [1, 0, 2] (by decide) rfl ?_
          show gg E _ 1 X 0 0 22 [some (.ref h)] [] [gO h 10 (tF ad (upd (upd (upd (upd (upd (upd (upd (upd (upd iv 7 (nI (us + C1.length))) 18 (nI n)) 19 (nI (en (j1 + 1)))) 20 (tkT (ks (j1 + 1)))) 21 (ps (j1 + 1))) 22 vl2_19) 23 wr) 24 wa) 26 (nI 3))), gA E (ad 15) 620 (cdW fr us (C1.map trJ)), gA E (ad 17) 600 t]
          refine g_aload_n C dX10_all_22 rfl ?_
          refine g_callV C (c_X10_one_5 E h ad iv n cn (us + C1.length) (j1 + 1) en ks ps (cdW fr us (C1.map trJ)) t vl2_19 wr wa (by omega) (hb) (hL) (hK) (hend) (by omega) (by omega) (hv_19) (by omega)) gX10_all_X10_one rfl 0 (by decide +kernel) ⟨by decide, by decide⟩ ⟨by decide, by decide⟩ 0 rfl rfl [0, 1, 2] [] (wr := []) rfl (by decide) rfl (by decide) (by decide) rfl rfl (Nat.le_of_ble_eq_true rfl) dX10_all_23 ?_
          rintro _ _ ⟨ok_23, j_23, us2_23, fr2_23, vl2_23, wr2_23, wa2_23, dp2_23, rfl, rfl, hq_23, hv_23, hd_23⟩
          show gg E _ 1 X 0 0 26 [some (.ref h)] [.int (b2i ok_23)] [gO h 10 (tF ad (upd (upd (upd (upd (upd (upd (upd (upd (upd iv 7 (nI us2_23)) 18 (nI n)) 19 (nI (en j_23))) 20 (tkT (ks j_23))) 21 (ps j_23)) 22 vl2_23) 23 wr2_23) 24 wa2_23) 26 dp2_23)), gA E (ad 15) 620 fr2_23, gA E (ad 17) 600 t]
          rcases rdT_two hq_23 with ⟨C_23, hr_23, rfl, rfl, rfl, rfl, rfl, b1_23, b2_23, b3_23⟩ | ⟨kd_23, ix_23, hr_23, rfl, rfl, rfl, b1_23, b2_23, b3_23, b4_23⟩
          · obtain rfl := hd_23 rfl
            refine g_if_ne (tgt := 31) C dX10_all_26 (by decide) (fun c26 => ?_) (fun c26 => absurd c26 (by decide))
            refine g_aload_n C dX10_all_31 rfl ?_
            refine g_sipush (v := nI 2006) C dX10_all_32 (by decide) ?_
            refine g_callV C (c_X10_lay E h ad (upd (upd (upd (upd (upd (upd (upd (upd iv 18 (nI n)) 19 (nI (en j_23))) 20 (tkT (ks j_23))) 21 (ps j_23)) 22 vl2_23) 23 wr) 24 wa) 26 (nI 3)) (us + C1.length + C_23.length) (cdW (cdW fr us (C1.map trJ)) (us + C1.length) (C_23.map trJ)) (nI 2006) (by omega)) gX10_all_X10_lay rfl 1 (by decide +kernel) ⟨by decide, by decide⟩ ⟨by decide, by decide⟩ 0 rfl rfl [0, 1] [2] (wr := [gA E (ad 17) 600 t]) rfl (by decide) rfl (by decide) (by decide) rfl rfl (Nat.le_of_ble_eq_true rfl) dX10_all_35 ?_
            rintro _ _ ⟨rfl, rfl⟩
            refine gg.perm (ws' := [gO h 10 (tF ad (upd (upd (upd (upd (upd (upd (upd (upd (upd iv 7 (nI ((us + C1.length + C_23.length) + 1))) 18 (nI n)) 19 (nI (en j_23))) 20 (tkT (ks j_23))) 21 (ps j_23)) 22 vl2_23) 23 wr) 24 wa) 26 (nI 3))), gA E (ad 15) 620 (upd (cdW (cdW fr us (C1.map trJ)) (us + C1.length) (C_23.map trJ)) (us + C1.length + C_23.length) (nI 2006)), gA E (ad 17) 600 t]) [1, 2, 0] (by decide) rfl ?_
            show gg E _ 1 X 0 0 38 [some (.ref h)] [] [gO h 10 (tF ad (upd (upd (upd (upd (upd (upd (upd (upd (upd iv 7 (nI ((us + C1.length + C_23.length) + 1))) 18 (nI n)) 19 (nI (en j_23))) 20 (tkT (ks j_23))) 21 (ps j_23)) 22 vl2_23) 23 wr) 24 wa) 26 (nI 3))), gA E (ad 15) 620 (upd (cdW (cdW fr us (C1.map trJ)) (us + C1.length) (C_23.map trJ)) (us + C1.length + C_23.length) (nI 2006)), gA E (ad 17) 600 t]
            rw [ln3 us C1 C_23 (nI 1004), cd3T fr us C1 C_23 (nI 1004) (nI 2006) (by decide)]
            refine g_goto (tgt := 9) C dX10_all_38 (by decide) ?_
            exact ih9 (it + 1) j_23 (f1 - 1) (C1 ++ C_23 ++ [nI 1004]) vl2_23 (by omega) (by omega) (by omega) (by omega) (by have := ln3 us C1 C_23 (nI 1004); omega) (by rw [g5, show f1 = f1 - 1 + 1 by omega, lpO, if_pos e15, hr_23]; rfl) (hv_23)
          · refine g_if_ne (tgt := 31) C dX10_all_26 (by decide) (fun c26 => absurd c26 (by decide)) (fun c26 => ?_)
            refine g_iconst (v := nI 0) C dX10_all_29 (by decide) ?_
            exact g_zret C Rt dX10_all_30 (by decide) (by decide) (by decide) (⟨false, _, _, _, _, _, _, _, rfl, rfl, rdT_er (by rw [g5, show f1 = f1 - 1 + 1 by omega, lpO, if_pos e15, hr_23]) (by omega) b2_23 (by omega) b4_23, hv_23, fun z => absurd z (by decide)⟩)
    exact L9 _ 0 j_1 601 C_1 vl2_1 (Nat.lt_succ_self _) (by omega) (by omega) (by omega) (by omega) (by rw [pAll, hr_1]; rfl) (hv_1)
  · refine g_if_ne (tgt := 9) C dX10_all_4 (by decide) (fun c4 => absurd c4 (by decide)) (fun c4 => ?_)
    refine g_iconst (v := nI 0) C dX10_all_7 (by decide) ?_
    exact g_zret C Rt dX10_all_8 (by decide) (by decide) (by decide) (⟨false, _, _, _, _, _, _, _, rfl, rfl, rdT_er (by rw [pAll, hr_1]; rfl) b1_1 b2_1 b3_1 b4_1, hv_1, fun z => absurd z (by decide)⟩)

abbrev rm_c_X10_any_5 : Room := { frames := 22, cells := 0, slots := 0, locals := 453 }
set_option maxHeartbeats 4000000 in
set_option maxRecDepth 100000 in
theorem c_X10_any_5 (E : gE) (h : Nat) (ad : Nat → Nat) (iv : Nat → Int32) (n cn us i : Nat) (en : Nat → Nat) (ks ps fr t : Nat → Int32) (vl wr wa : Int32) (hn : n ≤ 600) (hb : okY t n) (hL : twL t n cn ks ps en) (hK : ∀ q, q < cn → tkC (ks q)) (hend : ks (cn - 1) = nI 1011) (hcn : cn ≤ 601) (hi : i < cn) (hv : ¬ nI 999 < ks i → vl = ks i) (hus : us ≤ i) : MM E yX10_any wsX10_any rm_c_X10_any_5 [.ref h] [gO h 10 (tF ad (upd (upd (upd (upd (upd (upd (upd (upd (upd iv 7 (nI us)) 18 (nI n)) 19 (nI (en i))) 20 (tkT (ks i))) 21 (ps i)) 22 vl) 23 wr) 24 wa) 26 (nI 3))), gA E (ad 15) 620 fr, gA E (ad 17) 600 t] (fun rv_ ru_ => ∃ (ok : Bool) (j us2 : Nat) (fr2 : Nat → Int32) (vl2 wr2 wa2 dp2 : Int32), rv_ = some (.int (b2i ok)) ∧ ru_ = [gO h 10 (tF ad (upd (upd (upd (upd (upd (upd (upd (upd (upd iv 7 (nI us2)) 18 (nI n)) 19 (nI (en j))) 20 (tkT (ks j))) 21 (ps j)) 22 vl2) 23 wr2) 24 wa2) 26 dp2)), gA E (ad 15) 620 fr2, gA E (ad 17) 600 t] ∧ (rdQ (trR (pAny ks (pLv ks 5) i)) ps cn i us fr wr wa ok j us2 fr2 wr2 wa2) ∧ (¬ nI 999 < ks j → vl2 = ks j) ∧ (ok = true → dp2 = nI 3)) := by
  refine MM.ofG (cc := cX10_any) (maxL := 1) (ret := (some .boolean)) (by decide) rfl (Nat.le_of_ble_eq_true rfl) (ll := [some (.ref h)]) rfl ?_
  intro X C Rt
  have C : gx E X cX10_any 1 wsX10_any RX10 := C
  have i_X10 : ∀ w ∈ u_ws RX10 TX10 40, w ∈ wsX10_any := by decide +kernel
  have f_154 : Cond.fieldLink RX10 154 "MarkPagesModel" "token" "I" ∈ wsX10_any := by decide +kernel
  refine g_aload_n C dX10_any_0 rfl ?_
  refine g_callV C (c_X10_all_5 E h ad iv n cn us i en ks ps fr t vl wr wa (by omega) (hb) (hL) (hK) (hend) (by omega) (by omega) (hv) (by omega)) gX10_any_X10_all rfl 0 (by decide +kernel) ⟨by decide, by decide⟩ ⟨by decide, by decide⟩ 0 rfl rfl [0, 1, 2] [] (wr := []) rfl (by decide) rfl (by decide) (by decide) rfl rfl (Nat.le_of_ble_eq_true rfl) dX10_any_1 ?_
  rintro _ _ ⟨ok_1, j_1, us2_1, fr2_1, vl2_1, wr2_1, wa2_1, dp2_1, rfl, rfl, hq_1, hv_1, hd_1⟩
  show gg E _ 1 X 0 0 4 [some (.ref h)] [.int (b2i ok_1)] [gO h 10 (tF ad (upd (upd (upd (upd (upd (upd (upd (upd (upd iv 7 (nI us2_1)) 18 (nI n)) 19 (nI (en j_1))) 20 (tkT (ks j_1))) 21 (ps j_1)) 22 vl2_1) 23 wr2_1) 24 wa2_1) 26 dp2_1)), gA E (ad 15) 620 fr2_1, gA E (ad 17) 600 t]
  rcases rdT_two hq_1 with ⟨C_1, hr_1, rfl, rfl, rfl, rfl, rfl, b1_1, b2_1, b3_1⟩ | ⟨kd_1, ix_1, hr_1, rfl, rfl, rfl, b1_1, b2_1, b3_1, b4_1⟩
  · obtain rfl := hd_1 rfl
    refine g_if_ne (tgt := 9) C dX10_any_4 (by decide) (fun c4 => ?_) (fun c4 => absurd c4 (by decide))
    have L9 : ∀ (n9 : Nat) (it j1 f1 : Nat) (C1 : List Int32) (vl1 : Int32), cn - j1 < n9 → (j1 < cn) → (i + it ≤ j1) → (f1 + it = 601) → (C1.length + i ≤ j1) → (pAny ks (pLv ks 5) i = lpO ks (nI 1003) (pAll ks (pLv ks 5)) f1 j1 C1) → (¬ nI 999 < ks j1 → vl1 = ks j1) → gg E rm_c_X10_any_5 1 X 0 0 9 [some (.ref h)] [] [gO h 10 (tF ad (upd (upd (upd (upd (upd (upd (upd (upd (upd iv 7 (nI (us + C1.length))) 18 (nI n)) 19 (nI (en j1))) 20 (tkT (ks j1))) 21 (ps j1)) 22 vl1) 23 wr) 24 wa) 26 (nI 3))), gA E (ad 15) 620 (cdW fr us (C1.map trJ)), gA E (ad 17) 600 t] := by
      intro n9
      induction n9 with
      | zero => intro it j1 f1 C1 vl1 hm9; exact absurd hm9 (Nat.not_lt_zero _)
      | succ n9 ih9 =>
        intro it j1 f1 C1 vl1 hm9 g1 g2 g3 g4 g5 hv1
        refine g_aload_n C dX10_any_9 rfl ?_
        refine g_get C i_X10 0 20 f_154 rfl rfl (by decide) rfl rfl dX10_any_10 ?_
        refine g_bipush (v := nI 6) C dX10_any_13 (by decide) ?_
        refine g_icmp_ne (tgt := 41) C dX10_any_15 (by decide) (fun c15 => ?_) (fun c15 => ?_)
        · refine g_iconst (v := nI 1) C dX10_any_41 (by decide) ?_
          exact g_zret C Rt dX10_any_42 (by decide) (by decide) (by decide) (⟨true, _, _, _, _, _, _, _, rfl, rfl, rdT_ok (by rw [g5, show f1 = f1 - 1 + 1 by omega, lpO, if_neg (fun z => c15 ((tq6 (hK _ g1)).mpr z))]) (by omega) g1 (by omega) rfl rfl, hv1, fun _ => rfl⟩)
        · have e15 := (tq6 (hK _ g1)).mp c15
          have hn7 := not_end hend g1 e15 (by decide)
          refine g_aload_n C dX10_any_18 rfl ?_
          refine g_callV C (c_X10_nextT E h ad (upd (upd (upd (upd iv 7 (nI (us + C1.length))) 23 wr) 24 wa) 26 (nI 3)) n cn j1 en ks ps t (tkT (ks j1)) (ps j1) vl1 (by omega) (hb) (hL) (hn7)) gX10_any_X10_next0 rfl 0 (by decide +kernel) ⟨by decide, by decide⟩ ⟨by decide, by decide⟩ 0 rfl rfl [0, 2] [1] (wr := [gA E (ad 15) 620 (cdW fr us (C1.map trJ))]) rfl (by decide) rfl (by decide) (by decide) rfl rfl (Nat.le_of_ble_eq_true rfl) dX10_any_19 ?_
          rintro _ _ ⟨vl2_19, rfl, rfl, hv_19⟩
          refine gg.perm (ws' := [gO h 10 (tF ad (upd (upd (upd (upd (upd (upd (upd (upd (upd iv 7 (nI (us + C1.length))) 18 (nI n)) 19 (nI (en (j1 + 1)))) 20 (tkT (ks (j1 + 1)))) 21 (ps (j1 + 1))) 22 vl2_19) 23 wr) 24 wa) 26 (nI 3))), gA E (ad 15) 620 (cdW fr us (C1.map trJ)), gA E (ad 17) 600 t]) [1, 0, 2] (by decide) rfl ?_
          show gg E _ 1 X 0 0 22 [some (.ref h)] [] [gO h 10 (tF ad (upd (upd (upd (upd (upd (upd (upd (upd (upd iv 7 (nI (us + C1.length))) 18 (nI n)) 19 (nI (en (j1 + 1)))) 20 (tkT (ks (j1 + 1)))) 21 (ps (j1 + 1))) 22 vl2_19) 23 wr) 24 wa) 26 (nI 3))), gA E (ad 15) 620 (cdW fr us (C1.map trJ)), gA E (ad 17) 600 t]
          refine g_aload_n C dX10_any_22 rfl ?_
          refine g_callV C (c_X10_all_5 E h ad iv n cn (us + C1.length) (j1 + 1) en ks ps (cdW fr us (C1.map trJ)) t vl2_19 wr wa (by omega) (hb) (hL) (hK) (hend) (by omega) (by omega) (hv_19) (by omega)) gX10_any_X10_all rfl 0 (by decide +kernel) ⟨by decide, by decide⟩ ⟨by decide, by decide⟩ 0 rfl rfl [0, 1, 2] [] (wr := []) rfl (by decide) rfl (by decide) (by decide) rfl rfl (Nat.le_of_ble_eq_true rfl) dX10_any_23 ?_
          rintro _ _ ⟨ok_23, j_23, us2_23, fr2_23, vl2_23, wr2_23, wa2_23, dp2_23, rfl, rfl, hq_23, hv_23, hd_23⟩
          show gg E _ 1 X 0 0 26 [some (.ref h)] [.int (b2i ok_23)] [gO h 10 (tF ad (upd (upd (upd (upd (upd (upd (upd (upd (upd iv 7 (nI us2_23)) 18 (nI n)) 19 (nI (en j_23))) 20 (tkT (ks j_23))) 21 (ps j_23)) 22 vl2_23) 23 wr2_23) 24 wa2_23) 26 dp2_23)), gA E (ad 15) 620 fr2_23, gA E (ad 17) 600 t]
          rcases rdT_two hq_23 with ⟨C_23, hr_23, rfl, rfl, rfl, rfl, rfl, b1_23, b2_23, b3_23⟩ | ⟨kd_23, ix_23, hr_23, rfl, rfl, rfl, b1_23, b2_23, b3_23, b4_23⟩
          · obtain rfl := hd_23 rfl
            refine g_if_ne (tgt := 31) C dX10_any_26 (by decide) (fun c26 => ?_) (fun c26 => absurd c26 (by decide))
            refine g_aload_n C dX10_any_31 rfl ?_
            refine g_sipush (v := nI 2007) C dX10_any_32 (by decide) ?_
            refine g_callV C (c_X10_lay E h ad (upd (upd (upd (upd (upd (upd (upd (upd iv 18 (nI n)) 19 (nI (en j_23))) 20 (tkT (ks j_23))) 21 (ps j_23)) 22 vl2_23) 23 wr) 24 wa) 26 (nI 3)) (us + C1.length + C_23.length) (cdW (cdW fr us (C1.map trJ)) (us + C1.length) (C_23.map trJ)) (nI 2007) (by omega)) gX10_any_X10_lay rfl 1 (by decide +kernel) ⟨by decide, by decide⟩ ⟨by decide, by decide⟩ 0 rfl rfl [0, 1] [2] (wr := [gA E (ad 17) 600 t]) rfl (by decide) rfl (by decide) (by decide) rfl rfl (Nat.le_of_ble_eq_true rfl) dX10_any_35 ?_
            rintro _ _ ⟨rfl, rfl⟩
            refine gg.perm (ws' := [gO h 10 (tF ad (upd (upd (upd (upd (upd (upd (upd (upd (upd iv 7 (nI ((us + C1.length + C_23.length) + 1))) 18 (nI n)) 19 (nI (en j_23))) 20 (tkT (ks j_23))) 21 (ps j_23)) 22 vl2_23) 23 wr) 24 wa) 26 (nI 3))), gA E (ad 15) 620 (upd (cdW (cdW fr us (C1.map trJ)) (us + C1.length) (C_23.map trJ)) (us + C1.length + C_23.length) (nI 2007)), gA E (ad 17) 600 t]) [1, 2, 0] (by decide) rfl ?_
            show gg E _ 1 X 0 0 38 [some (.ref h)] [] [gO h 10 (tF ad (upd (upd (upd (upd (upd (upd (upd (upd (upd iv 7 (nI ((us + C1.length + C_23.length) + 1))) 18 (nI n)) 19 (nI (en j_23))) 20 (tkT (ks j_23))) 21 (ps j_23)) 22 vl2_23) 23 wr) 24 wa) 26 (nI 3))), gA E (ad 15) 620 (upd (cdW (cdW fr us (C1.map trJ)) (us + C1.length) (C_23.map trJ)) (us + C1.length + C_23.length) (nI 2007)), gA E (ad 17) 600 t]
            rw [ln3 us C1 C_23 (nI 1003), cd3T fr us C1 C_23 (nI 1003) (nI 2007) (by decide)]
            refine g_goto (tgt := 9) C dX10_any_38 (by decide) ?_
            exact ih9 (it + 1) j_23 (f1 - 1) (C1 ++ C_23 ++ [nI 1003]) vl2_23 (by omega) (by omega) (by omega) (by omega) (by have := ln3 us C1 C_23 (nI 1003); omega) (by rw [g5, show f1 = f1 - 1 + 1 by omega, lpO, if_pos e15, hr_23]; rfl) (hv_23)
          · refine g_if_ne (tgt := 31) C dX10_any_26 (by decide) (fun c26 => absurd c26 (by decide)) (fun c26 => ?_)
            refine g_iconst (v := nI 0) C dX10_any_29 (by decide) ?_
            exact g_zret C Rt dX10_any_30 (by decide) (by decide) (by decide) (⟨false, _, _, _, _, _, _, _, rfl, rfl, rdT_er (by rw [g5, show f1 = f1 - 1 + 1 by omega, lpO, if_pos e15, hr_23]) (by omega) b2_23 (by omega) b4_23, hv_23, fun z => absurd z (by decide)⟩)
    exact L9 _ 0 j_1 601 C_1 vl2_1 (Nat.lt_succ_self _) (by omega) (by omega) (by omega) (by omega) (by rw [pAny, hr_1]; rfl) (hv_1)
  · refine g_if_ne (tgt := 9) C dX10_any_4 (by decide) (fun c4 => absurd c4 (by decide)) (fun c4 => ?_)
    refine g_iconst (v := nI 0) C dX10_any_7 (by decide) ?_
    exact g_zret C Rt dX10_any_8 (by decide) (by decide) (by decide) (⟨false, _, _, _, _, _, _, _, rfl, rfl, rdT_er (by rw [pAny, hr_1]; rfl) b1_1 b2_1 b3_1 b4_1, hv_1, fun z => absurd z (by decide)⟩)

abbrev rm_c_X10_one_6 : Room := { frames := 23, cells := 0, slots := 0, locals := 473 }
set_option maxHeartbeats 4000000 in
set_option maxRecDepth 100000 in
theorem c_X10_one_6 (E : gE) (h : Nat) (ad : Nat → Nat) (iv : Nat → Int32) (n cn us i : Nat) (en : Nat → Nat) (ks ps fr t : Nat → Int32) (vl wr wa : Int32) (hn : n ≤ 600) (hb : okY t n) (hL : twL t n cn ks ps en) (hK : ∀ q, q < cn → tkC (ks q)) (hend : ks (cn - 1) = nI 1011) (hcn : cn ≤ 601) (hi : i < cn) (hv : ¬ nI 999 < ks i → vl = ks i) (hus : us ≤ i) : MM E yX10_one wsX10_one rm_c_X10_one_6 [.ref h] [gO h 10 (tF ad (upd (upd (upd (upd (upd (upd (upd (upd (upd iv 7 (nI us)) 18 (nI n)) 19 (nI (en i))) 20 (tkT (ks i))) 21 (ps i)) 22 vl) 23 wr) 24 wa) 26 (nI 2))), gA E (ad 15) 620 fr, gA E (ad 17) 600 t] (fun rv_ ru_ => ∃ (ok : Bool) (j us2 : Nat) (fr2 : Nat → Int32) (vl2 wr2 wa2 dp2 : Int32), rv_ = some (.int (b2i ok)) ∧ ru_ = [gO h 10 (tF ad (upd (upd (upd (upd (upd (upd (upd (upd (upd iv 7 (nI us2)) 18 (nI n)) 19 (nI (en j))) 20 (tkT (ks j))) 21 (ps j)) 22 vl2) 23 wr2) 24 wa2) 26 dp2)), gA E (ad 15) 620 fr2, gA E (ad 17) 600 t] ∧ (rdQ (trR (pLv ks 6 i)) ps cn i us fr wr wa ok j us2 fr2 wr2 wa2) ∧ (¬ nI 999 < ks j → vl2 = ks j) ∧ (ok = true → dp2 = nI 2)) := by
  refine MM.ofG (cc := cX10_one) (maxL := 2) (ret := (some .boolean)) (by decide) rfl (Nat.le_of_ble_eq_true rfl) (ll := [some (.ref h), none]) rfl ?_
  intro X C Rt
  have C : gx E X cX10_one 2 wsX10_one RX10 := C
  have i_X10 : ∀ w ∈ u_ws RX10 TX10 40, w ∈ wsX10_one := by decide +kernel
  have f_154 : Cond.fieldLink RX10 154 "MarkPagesModel" "token" "I" ∈ wsX10_one := by decide +kernel
  have f_188 : Cond.fieldLink RX10 188 "MarkPagesModel" "depth" "I" ∈ wsX10_one := by decide +kernel
  refine g_aload_n C dX10_one_0 rfl ?_
  refine g_get C i_X10 0 20 f_154 rfl rfl (by decide) rfl rfl dX10_one_1 ?_
  refine g_bipush (v := nI 8) C dX10_one_4 (by decide) ?_
  refine g_icmp_ne (tgt := 44) C dX10_one_6 (by decide) (fun c6 => ?_) (fun c6 => ?_)
  · have n5 := fun z => c6 ((tq8 (hK i hi)).mpr z)
    refine g_aload_n C dX10_one_44 rfl ?_
    refine g_get C i_X10 0 20 f_154 rfl rfl (by decide) rfl rfl dX10_one_45 ?_
    refine g_bipush (v := nI 40) C dX10_one_48 (by decide) ?_
    refine g_icmp_ne (tgt := 90) C dX10_one_50 (by decide) (fun c50 => ?_) (fun c50 => ?_)
    · have n40 := fun z => c50 ((tq40 (hK i hi)).mpr z)
      refine g_aload_n C dX10_one_90 rfl ?_
      refine g_callV C (c_X10_sum E h ad (upd iv 26 (nI 2)) n cn us i en ks ps fr t vl wr wa (by omega) (hb) (hL) (hK) (hend) (by omega) (by omega) (hv) (by omega)) gX10_one_X10_sum rfl 0 (by decide +kernel) ⟨by decide, by decide⟩ ⟨by decide, by decide⟩ 0 rfl rfl [0, 1, 2] [] (wr := []) rfl (by decide) rfl (by decide) (by decide) rfl rfl (Nat.le_of_ble_eq_true rfl) dX10_one_91 ?_
      rintro _ _ ⟨ok_91, j_91, us2_91, fr2_91, vl2_91, wr2_91, wa2_91, rfl, rfl, hq_91, hv_91⟩
      show gg E _ 2 X 0 0 94 [some (.ref h), none] [.int (b2i ok_91)] [gO h 10 (tF ad (upd (upd (upd (upd (upd (upd (upd (upd (upd iv 7 (nI us2_91)) 18 (nI n)) 19 (nI (en j_91))) 20 (tkT (ks j_91))) 21 (ps j_91)) 22 vl2_91) 23 wr2_91) 24 wa2_91) 26 (nI 2))), gA E (ad 15) 620 fr2_91, gA E (ad 17) 600 t]
      rcases rdT_two hq_91 with ⟨C_91, hr_91, rfl, rfl, rfl, rfl, rfl, b1_91, b2_91, b3_91⟩ | ⟨kd_91, ix_91, hr_91, rfl, rfl, rfl, b1_91, b2_91, b3_91, b4_91⟩
      · refine g_if_ne (tgt := 99) C dX10_one_94 (by decide) (fun c94 => ?_) (fun c94 => absurd c94 (by decide))
        refine g_aload_n C dX10_one_99 rfl ?_
        refine g_get C i_X10 0 20 f_154 rfl rfl (by decide) rfl rfl dX10_one_100 ?_
        refine g_bipush (v := nI 60) C dX10_one_103 (by decide) ?_
        refine g_icmp_ne (tgt := 114) C dX10_one_105 (by decide) (fun c105 => ?_) (fun c105 => ?_)
        · have n60 := fun z => c105 ((tq60 (hK _ b2_91)).mpr z)
          refine g_aload_n C dX10_one_114 rfl ?_
          refine g_get C i_X10 0 20 f_154 rfl rfl (by decide) rfl rfl dX10_one_115 ?_
          refine g_bipush (v := nI 61) C dX10_one_118 (by decide) ?_
          refine g_icmp_ne (tgt := 129) C dX10_one_120 (by decide) (fun c120 => ?_) (fun c120 => ?_)
          · have n61 := fun z => c120 ((tq61 (hK _ b2_91)).mpr z)
            refine g_aload_n C dX10_one_129 rfl ?_
            refine g_get C i_X10 0 20 f_154 rfl rfl (by decide) rfl rfl dX10_one_130 ?_
            refine g_bipush (v := nI 62) C dX10_one_133 (by decide) ?_
            refine g_icmp_ne (tgt := 144) C dX10_one_135 (by decide) (fun c135 => ?_) (fun c135 => ?_)
            · have n62 := fun z => c135 ((tq62 (hK _ b2_91)).mpr z)
              refine g_iconst (v := -1) C dX10_one_144 (by decide) ?_
              refine g_istore_n C dX10_one_145 (by decide) rfl (ll' := [some (.ref h), some (.int (-1))]) rfl ?_
              refine g_iload_n C dX10_one_146 rfl ?_
              refine g_iconst (v := -1) C dX10_one_147 (by decide) ?_
              refine g_icmp_ne (tgt := 157) C dX10_one_148 (by decide) (fun c148 => absurd c148 (by decide)) (fun c148 => ?_)
              refine g_aload_n C dX10_one_151 rfl ?_
              refine g_iconst (v := nI 1) C dX10_one_152 (by decide) ?_
              refine g_callV C (c_X10_bad E h ad (upd (upd (upd (upd (upd (upd iv 7 (nI (us + C_91.length))) 18 (nI n)) 19 (nI (en j_91))) 20 (tkT (ks j_91))) 22 vl2_91) 26 (nI 2)) 1 (ps j_91) wr wa ) gX10_one_X10_bad rfl 1 (by decide +kernel) ⟨by decide, by decide⟩ ⟨by decide, by decide⟩ 0 rfl rfl [0] [1, 2] (wr := [gA E (ad 15) 620 (cdW fr us (C_91.map trJ)), gA E (ad 17) 600 t]) rfl (by decide) rfl (by decide) (by decide) rfl rfl (Nat.le_of_ble_eq_true rfl) dX10_one_153 ?_
              rintro _ _ ⟨rfl, rfl⟩
              refine gg.perm (ws' := [gO h 10 (tF ad (upd (upd (upd (upd (upd (upd (upd (upd (upd iv 7 (nI (us + C_91.length))) 18 (nI n)) 19 (nI (en j_91))) 20 (tkT (ks j_91))) 21 (ps j_91)) 22 vl2_91) 23 (nI 1)) 24 (ps j_91)) 26 (nI 2))), gA E (ad 15) 620 (cdW fr us (C_91.map trJ)), gA E (ad 17) 600 t]) [2, 0, 1] (by decide) rfl ?_
              show gg E _ 2 X 0 0 156 [some (.ref h), some (.int (-1))] [.int (nI 0)] [gO h 10 (tF ad (upd (upd (upd (upd (upd (upd (upd (upd (upd iv 7 (nI (us + C_91.length))) 18 (nI n)) 19 (nI (en j_91))) 20 (tkT (ks j_91))) 21 (ps j_91)) 22 vl2_91) 23 (nI 1)) 24 (ps j_91)) 26 (nI 2))), gA E (ad 15) 620 (cdW fr us (C_91.map trJ)), gA E (ad 17) 600 t]
              exact g_zret C Rt dX10_one_156 (by decide) (by decide) (by decide) (⟨false, _, _, _, _, _, _, _, rfl, rfl, rdT_er (by rw [pLv, if_neg (fun z => z.elim n5 n40), pCmp, hr_91]; exact if_neg (fun z => z.elim n60 (fun z => z.elim n61 n62))) (b1_91) (b2_91) (b3_91) (b2_91), hv_91, fun z => absurd z (by decide)⟩)
            · have e62 := (tq62 (hK _ b2_91)).mp c135
              refine g_sipush (v := nI 2004) C dX10_one_138 (by decide) ?_
              refine g_goto (tgt := 145) C dX10_one_141 (by decide) ?_
              refine g_istore_n C dX10_one_145 (by decide) rfl (ll' := [some (.ref h), some (.int (nI 2004))]) rfl ?_
              refine g_iload_n C dX10_one_146 rfl ?_
              refine g_iconst (v := -1) C dX10_one_147 (by decide) ?_
              refine g_icmp_ne (tgt := 157) C dX10_one_148 (by decide) (fun c148 => ?_) (fun c148 => absurd c148 (by decide))
              have hn7 := not_end hend b2_91 e62 (by decide)
              refine g_aload_n C dX10_one_157 rfl ?_
              refine g_callV C (c_X10_nextT E h ad (upd (upd (upd (upd iv 7 (nI (us + C_91.length))) 23 wr) 24 wa) 26 (nI 2)) n cn j_91 en ks ps t (tkT (ks j_91)) (ps j_91) vl2_91 (by omega) (hb) (hL) (hn7)) gX10_one_X10_next0 rfl 0 (by decide +kernel) ⟨by decide, by decide⟩ ⟨by decide, by decide⟩ 0 rfl rfl [0, 2] [1] (wr := [gA E (ad 15) 620 (cdW fr us (C_91.map trJ))]) rfl (by decide) rfl (by decide) (by decide) rfl rfl (Nat.le_of_ble_eq_true rfl) dX10_one_158 ?_
              rintro _ _ ⟨vl2_158, rfl, rfl, hv_158⟩
              refine gg.perm (ws' := [gO h 10 (tF ad (upd (upd (upd (upd (upd (upd (upd (upd (upd iv 7 (nI (us + C_91.length))) 18 (nI n)) 19 (nI (en (j_91 + 1)))) 20 (tkT (ks (j_91 + 1)))) 21 (ps (j_91 + 1))) 22 vl2_158) 23 wr) 24 wa) 26 (nI 2))), gA E (ad 15) 620 (cdW fr us (C_91.map trJ)), gA E (ad 17) 600 t]) [1, 0, 2] (by decide) rfl ?_
              show gg E _ 2 X 0 0 161 [some (.ref h), some (.int (nI 2004))] [] [gO h 10 (tF ad (upd (upd (upd (upd (upd (upd (upd (upd (upd iv 7 (nI (us + C_91.length))) 18 (nI n)) 19 (nI (en (j_91 + 1)))) 20 (tkT (ks (j_91 + 1)))) 21 (ps (j_91 + 1))) 22 vl2_158) 23 wr) 24 wa) 26 (nI 2))), gA E (ad 15) 620 (cdW fr us (C_91.map trJ)), gA E (ad 17) 600 t]
              refine g_aload_n C dX10_one_161 rfl ?_
              refine g_callV C (c_X10_sum E h ad (upd iv 26 (nI 2)) n cn (us + C_91.length) (j_91 + 1) en ks ps (cdW fr us (C_91.map trJ)) t vl2_158 wr wa (by omega) (hb) (hL) (hK) (hend) (by omega) (by omega) (hv_158) (by omega)) gX10_one_X10_sum rfl 0 (by decide +kernel) ⟨by decide, by decide⟩ ⟨by decide, by decide⟩ 0 rfl rfl [0, 1, 2] [] (wr := []) rfl (by decide) rfl (by decide) (by decide) rfl rfl (Nat.le_of_ble_eq_true rfl) dX10_one_162 ?_
              rintro _ _ ⟨ok_162, j_162, us2_162, fr2_162, vl2_162, wr2_162, wa2_162, rfl, rfl, hq_162, hv_162⟩
              show gg E _ 2 X 0 0 165 [some (.ref h), some (.int (nI 2004))] [.int (b2i ok_162)] [gO h 10 (tF ad (upd (upd (upd (upd (upd (upd (upd (upd (upd iv 7 (nI us2_162)) 18 (nI n)) 19 (nI (en j_162))) 20 (tkT (ks j_162))) 21 (ps j_162)) 22 vl2_162) 23 wr2_162) 24 wa2_162) 26 (nI 2))), gA E (ad 15) 620 fr2_162, gA E (ad 17) 600 t]
              rcases rdT_two hq_162 with ⟨C_162, hr_162, rfl, rfl, rfl, rfl, rfl, b1_162, b2_162, b3_162⟩ | ⟨kd_162, ix_162, hr_162, rfl, rfl, rfl, b1_162, b2_162, b3_162, b4_162⟩
              · refine g_if_ne (tgt := 170) C dX10_one_165 (by decide) (fun c165 => ?_) (fun c165 => absurd c165 (by decide))
                refine g_aload_n C dX10_one_170 rfl ?_
                refine g_iload_n C dX10_one_171 rfl ?_
                refine g_callV C (c_X10_lay E h ad (upd (upd (upd (upd (upd (upd (upd (upd iv 18 (nI n)) 19 (nI (en j_162))) 20 (tkT (ks j_162))) 21 (ps j_162)) 22 vl2_162) 23 wr) 24 wa) 26 (nI 2)) (us + C_91.length + C_162.length) (cdW (cdW fr us (C_91.map trJ)) (us + C_91.length) (C_162.map trJ)) (nI 2004) (by omega)) gX10_one_X10_lay rfl 1 (by decide +kernel) ⟨by decide, by decide⟩ ⟨by decide, by decide⟩ 0 rfl rfl [0, 1] [2] (wr := [gA E (ad 17) 600 t]) rfl (by decide) rfl (by decide) (by decide) rfl rfl (Nat.le_of_ble_eq_true rfl) dX10_one_172 ?_
                rintro _ _ ⟨rfl, rfl⟩
                refine gg.perm (ws' := [gO h 10 (tF ad (upd (upd (upd (upd (upd (upd (upd (upd (upd iv 7 (nI ((us + C_91.length + C_162.length) + 1))) 18 (nI n)) 19 (nI (en j_162))) 20 (tkT (ks j_162))) 21 (ps j_162)) 22 vl2_162) 23 wr) 24 wa) 26 (nI 2))), gA E (ad 15) 620 (upd (cdW (cdW fr us (C_91.map trJ)) (us + C_91.length) (C_162.map trJ)) (us + C_91.length + C_162.length) (nI 2004)), gA E (ad 17) 600 t]) [1, 2, 0] (by decide) rfl ?_
                show gg E _ 2 X 0 0 175 [some (.ref h), some (.int (nI 2004))] [] [gO h 10 (tF ad (upd (upd (upd (upd (upd (upd (upd (upd (upd iv 7 (nI ((us + C_91.length + C_162.length) + 1))) 18 (nI n)) 19 (nI (en j_162))) 20 (tkT (ks j_162))) 21 (ps j_162)) 22 vl2_162) 23 wr) 24 wa) 26 (nI 2))), gA E (ad 15) 620 (upd (cdW (cdW fr us (C_91.map trJ)) (us + C_91.length) (C_162.map trJ)) (us + C_91.length + C_162.length) (nI 2004)), gA E (ad 17) 600 t]
                refine g_iconst (v := nI 1) C dX10_one_175 (by decide) ?_
                exact g_zret C Rt dX10_one_176 (by decide) (by decide) (by decide) (⟨true, _, _, _, _, _, _, _, rfl, rfl, rdT_ok (by rw [pLv, if_neg (fun z => z.elim n5 n40), pCmp, hr_91]; exact (if_pos (Or.inr (Or.inr e62))).trans (by rw [pCmp2, hr_162])) (by omega) b2_162 (by omega) (ln3 _ _ _ _) (cd3T _ _ _ _ _ _ (by rw [e62]; decide)), hv_162, fun _ => rfl⟩)
              · refine g_if_ne (tgt := 170) C dX10_one_165 (by decide) (fun c165 => absurd c165 (by decide)) (fun c165 => ?_)
                refine g_iconst (v := nI 0) C dX10_one_168 (by decide) ?_
                exact g_zret C Rt dX10_one_169 (by decide) (by decide) (by decide) (⟨false, _, _, _, _, _, _, _, rfl, rfl, rdT_er (by rw [pLv, if_neg (fun z => z.elim n5 n40), pCmp, hr_91]; exact (if_pos (Or.inr (Or.inr e62))).trans (by rw [pCmp2, hr_162])) (by omega) (b2_162) (by omega) (b4_162), hv_162, fun z => absurd z (by decide)⟩)
          · have e61 := (tq61 (hK _ b2_91)).mp c120
            refine g_sipush (v := nI 2003) C dX10_one_123 (by decide) ?_
            refine g_goto (tgt := 145) C dX10_one_126 (by decide) ?_
            refine g_istore_n C dX10_one_145 (by decide) rfl (ll' := [some (.ref h), some (.int (nI 2003))]) rfl ?_
            refine g_iload_n C dX10_one_146 rfl ?_
            refine g_iconst (v := -1) C dX10_one_147 (by decide) ?_
            refine g_icmp_ne (tgt := 157) C dX10_one_148 (by decide) (fun c148 => ?_) (fun c148 => absurd c148 (by decide))
            have hn7 := not_end hend b2_91 e61 (by decide)
            refine g_aload_n C dX10_one_157 rfl ?_
            refine g_callV C (c_X10_nextT E h ad (upd (upd (upd (upd iv 7 (nI (us + C_91.length))) 23 wr) 24 wa) 26 (nI 2)) n cn j_91 en ks ps t (tkT (ks j_91)) (ps j_91) vl2_91 (by omega) (hb) (hL) (hn7)) gX10_one_X10_next0 rfl 0 (by decide +kernel) ⟨by decide, by decide⟩ ⟨by decide, by decide⟩ 0 rfl rfl [0, 2] [1] (wr := [gA E (ad 15) 620 (cdW fr us (C_91.map trJ))]) rfl (by decide) rfl (by decide) (by decide) rfl rfl (Nat.le_of_ble_eq_true rfl) dX10_one_158 ?_
            rintro _ _ ⟨vl2_158, rfl, rfl, hv_158⟩
            refine gg.perm (ws' := [gO h 10 (tF ad (upd (upd (upd (upd (upd (upd (upd (upd (upd iv 7 (nI (us + C_91.length))) 18 (nI n)) 19 (nI (en (j_91 + 1)))) 20 (tkT (ks (j_91 + 1)))) 21 (ps (j_91 + 1))) 22 vl2_158) 23 wr) 24 wa) 26 (nI 2))), gA E (ad 15) 620 (cdW fr us (C_91.map trJ)), gA E (ad 17) 600 t]) [1, 0, 2] (by decide) rfl ?_
            show gg E _ 2 X 0 0 161 [some (.ref h), some (.int (nI 2003))] [] [gO h 10 (tF ad (upd (upd (upd (upd (upd (upd (upd (upd (upd iv 7 (nI (us + C_91.length))) 18 (nI n)) 19 (nI (en (j_91 + 1)))) 20 (tkT (ks (j_91 + 1)))) 21 (ps (j_91 + 1))) 22 vl2_158) 23 wr) 24 wa) 26 (nI 2))), gA E (ad 15) 620 (cdW fr us (C_91.map trJ)), gA E (ad 17) 600 t]
            refine g_aload_n C dX10_one_161 rfl ?_
            refine g_callV C (c_X10_sum E h ad (upd iv 26 (nI 2)) n cn (us + C_91.length) (j_91 + 1) en ks ps (cdW fr us (C_91.map trJ)) t vl2_158 wr wa (by omega) (hb) (hL) (hK) (hend) (by omega) (by omega) (hv_158) (by omega)) gX10_one_X10_sum rfl 0 (by decide +kernel) ⟨by decide, by decide⟩ ⟨by decide, by decide⟩ 0 rfl rfl [0, 1, 2] [] (wr := []) rfl (by decide) rfl (by decide) (by decide) rfl rfl (Nat.le_of_ble_eq_true rfl) dX10_one_162 ?_
            rintro _ _ ⟨ok_162, j_162, us2_162, fr2_162, vl2_162, wr2_162, wa2_162, rfl, rfl, hq_162, hv_162⟩
            show gg E _ 2 X 0 0 165 [some (.ref h), some (.int (nI 2003))] [.int (b2i ok_162)] [gO h 10 (tF ad (upd (upd (upd (upd (upd (upd (upd (upd (upd iv 7 (nI us2_162)) 18 (nI n)) 19 (nI (en j_162))) 20 (tkT (ks j_162))) 21 (ps j_162)) 22 vl2_162) 23 wr2_162) 24 wa2_162) 26 (nI 2))), gA E (ad 15) 620 fr2_162, gA E (ad 17) 600 t]
            rcases rdT_two hq_162 with ⟨C_162, hr_162, rfl, rfl, rfl, rfl, rfl, b1_162, b2_162, b3_162⟩ | ⟨kd_162, ix_162, hr_162, rfl, rfl, rfl, b1_162, b2_162, b3_162, b4_162⟩
            · refine g_if_ne (tgt := 170) C dX10_one_165 (by decide) (fun c165 => ?_) (fun c165 => absurd c165 (by decide))
              refine g_aload_n C dX10_one_170 rfl ?_
              refine g_iload_n C dX10_one_171 rfl ?_
              refine g_callV C (c_X10_lay E h ad (upd (upd (upd (upd (upd (upd (upd (upd iv 18 (nI n)) 19 (nI (en j_162))) 20 (tkT (ks j_162))) 21 (ps j_162)) 22 vl2_162) 23 wr) 24 wa) 26 (nI 2)) (us + C_91.length + C_162.length) (cdW (cdW fr us (C_91.map trJ)) (us + C_91.length) (C_162.map trJ)) (nI 2003) (by omega)) gX10_one_X10_lay rfl 1 (by decide +kernel) ⟨by decide, by decide⟩ ⟨by decide, by decide⟩ 0 rfl rfl [0, 1] [2] (wr := [gA E (ad 17) 600 t]) rfl (by decide) rfl (by decide) (by decide) rfl rfl (Nat.le_of_ble_eq_true rfl) dX10_one_172 ?_
              rintro _ _ ⟨rfl, rfl⟩
              refine gg.perm (ws' := [gO h 10 (tF ad (upd (upd (upd (upd (upd (upd (upd (upd (upd iv 7 (nI ((us + C_91.length + C_162.length) + 1))) 18 (nI n)) 19 (nI (en j_162))) 20 (tkT (ks j_162))) 21 (ps j_162)) 22 vl2_162) 23 wr) 24 wa) 26 (nI 2))), gA E (ad 15) 620 (upd (cdW (cdW fr us (C_91.map trJ)) (us + C_91.length) (C_162.map trJ)) (us + C_91.length + C_162.length) (nI 2003)), gA E (ad 17) 600 t]) [1, 2, 0] (by decide) rfl ?_
              show gg E _ 2 X 0 0 175 [some (.ref h), some (.int (nI 2003))] [] [gO h 10 (tF ad (upd (upd (upd (upd (upd (upd (upd (upd (upd iv 7 (nI ((us + C_91.length + C_162.length) + 1))) 18 (nI n)) 19 (nI (en j_162))) 20 (tkT (ks j_162))) 21 (ps j_162)) 22 vl2_162) 23 wr) 24 wa) 26 (nI 2))), gA E (ad 15) 620 (upd (cdW (cdW fr us (C_91.map trJ)) (us + C_91.length) (C_162.map trJ)) (us + C_91.length + C_162.length) (nI 2003)), gA E (ad 17) 600 t]
              refine g_iconst (v := nI 1) C dX10_one_175 (by decide) ?_
              exact g_zret C Rt dX10_one_176 (by decide) (by decide) (by decide) (⟨true, _, _, _, _, _, _, _, rfl, rfl, rdT_ok (by rw [pLv, if_neg (fun z => z.elim n5 n40), pCmp, hr_91]; exact (if_pos (Or.inr (Or.inl e61))).trans (by rw [pCmp2, hr_162])) (by omega) b2_162 (by omega) (ln3 _ _ _ _) (cd3T _ _ _ _ _ _ (by rw [e61]; decide)), hv_162, fun _ => rfl⟩)
            · refine g_if_ne (tgt := 170) C dX10_one_165 (by decide) (fun c165 => absurd c165 (by decide)) (fun c165 => ?_)
              refine g_iconst (v := nI 0) C dX10_one_168 (by decide) ?_
              exact g_zret C Rt dX10_one_169 (by decide) (by decide) (by decide) (⟨false, _, _, _, _, _, _, _, rfl, rfl, rdT_er (by rw [pLv, if_neg (fun z => z.elim n5 n40), pCmp, hr_91]; exact (if_pos (Or.inr (Or.inl e61))).trans (by rw [pCmp2, hr_162])) (by omega) (b2_162) (by omega) (b4_162), hv_162, fun z => absurd z (by decide)⟩)
        · have e60 := (tq60 (hK _ b2_91)).mp c105
          refine g_sipush (v := nI 2002) C dX10_one_108 (by decide) ?_
          refine g_goto (tgt := 145) C dX10_one_111 (by decide) ?_
          refine g_istore_n C dX10_one_145 (by decide) rfl (ll' := [some (.ref h), some (.int (nI 2002))]) rfl ?_
          refine g_iload_n C dX10_one_146 rfl ?_
          refine g_iconst (v := -1) C dX10_one_147 (by decide) ?_
          refine g_icmp_ne (tgt := 157) C dX10_one_148 (by decide) (fun c148 => ?_) (fun c148 => absurd c148 (by decide))
          have hn7 := not_end hend b2_91 e60 (by decide)
          refine g_aload_n C dX10_one_157 rfl ?_
          refine g_callV C (c_X10_nextT E h ad (upd (upd (upd (upd iv 7 (nI (us + C_91.length))) 23 wr) 24 wa) 26 (nI 2)) n cn j_91 en ks ps t (tkT (ks j_91)) (ps j_91) vl2_91 (by omega) (hb) (hL) (hn7)) gX10_one_X10_next0 rfl 0 (by decide +kernel) ⟨by decide, by decide⟩ ⟨by decide, by decide⟩ 0 rfl rfl [0, 2] [1] (wr := [gA E (ad 15) 620 (cdW fr us (C_91.map trJ))]) rfl (by decide) rfl (by decide) (by decide) rfl rfl (Nat.le_of_ble_eq_true rfl) dX10_one_158 ?_
          rintro _ _ ⟨vl2_158, rfl, rfl, hv_158⟩
          refine gg.perm (ws' := [gO h 10 (tF ad (upd (upd (upd (upd (upd (upd (upd (upd (upd iv 7 (nI (us + C_91.length))) 18 (nI n)) 19 (nI (en (j_91 + 1)))) 20 (tkT (ks (j_91 + 1)))) 21 (ps (j_91 + 1))) 22 vl2_158) 23 wr) 24 wa) 26 (nI 2))), gA E (ad 15) 620 (cdW fr us (C_91.map trJ)), gA E (ad 17) 600 t]) [1, 0, 2] (by decide) rfl ?_
          show gg E _ 2 X 0 0 161 [some (.ref h), some (.int (nI 2002))] [] [gO h 10 (tF ad (upd (upd (upd (upd (upd (upd (upd (upd (upd iv 7 (nI (us + C_91.length))) 18 (nI n)) 19 (nI (en (j_91 + 1)))) 20 (tkT (ks (j_91 + 1)))) 21 (ps (j_91 + 1))) 22 vl2_158) 23 wr) 24 wa) 26 (nI 2))), gA E (ad 15) 620 (cdW fr us (C_91.map trJ)), gA E (ad 17) 600 t]
          refine g_aload_n C dX10_one_161 rfl ?_
          refine g_callV C (c_X10_sum E h ad (upd iv 26 (nI 2)) n cn (us + C_91.length) (j_91 + 1) en ks ps (cdW fr us (C_91.map trJ)) t vl2_158 wr wa (by omega) (hb) (hL) (hK) (hend) (by omega) (by omega) (hv_158) (by omega)) gX10_one_X10_sum rfl 0 (by decide +kernel) ⟨by decide, by decide⟩ ⟨by decide, by decide⟩ 0 rfl rfl [0, 1, 2] [] (wr := []) rfl (by decide) rfl (by decide) (by decide) rfl rfl (Nat.le_of_ble_eq_true rfl) dX10_one_162 ?_
          rintro _ _ ⟨ok_162, j_162, us2_162, fr2_162, vl2_162, wr2_162, wa2_162, rfl, rfl, hq_162, hv_162⟩
          show gg E _ 2 X 0 0 165 [some (.ref h), some (.int (nI 2002))] [.int (b2i ok_162)] [gO h 10 (tF ad (upd (upd (upd (upd (upd (upd (upd (upd (upd iv 7 (nI us2_162)) 18 (nI n)) 19 (nI (en j_162))) 20 (tkT (ks j_162))) 21 (ps j_162)) 22 vl2_162) 23 wr2_162) 24 wa2_162) 26 (nI 2))), gA E (ad 15) 620 fr2_162, gA E (ad 17) 600 t]
          rcases rdT_two hq_162 with ⟨C_162, hr_162, rfl, rfl, rfl, rfl, rfl, b1_162, b2_162, b3_162⟩ | ⟨kd_162, ix_162, hr_162, rfl, rfl, rfl, b1_162, b2_162, b3_162, b4_162⟩
          · refine g_if_ne (tgt := 170) C dX10_one_165 (by decide) (fun c165 => ?_) (fun c165 => absurd c165 (by decide))
            refine g_aload_n C dX10_one_170 rfl ?_
            refine g_iload_n C dX10_one_171 rfl ?_
            refine g_callV C (c_X10_lay E h ad (upd (upd (upd (upd (upd (upd (upd (upd iv 18 (nI n)) 19 (nI (en j_162))) 20 (tkT (ks j_162))) 21 (ps j_162)) 22 vl2_162) 23 wr) 24 wa) 26 (nI 2)) (us + C_91.length + C_162.length) (cdW (cdW fr us (C_91.map trJ)) (us + C_91.length) (C_162.map trJ)) (nI 2002) (by omega)) gX10_one_X10_lay rfl 1 (by decide +kernel) ⟨by decide, by decide⟩ ⟨by decide, by decide⟩ 0 rfl rfl [0, 1] [2] (wr := [gA E (ad 17) 600 t]) rfl (by decide) rfl (by decide) (by decide) rfl rfl (Nat.le_of_ble_eq_true rfl) dX10_one_172 ?_
            rintro _ _ ⟨rfl, rfl⟩
            refine gg.perm (ws' := [gO h 10 (tF ad (upd (upd (upd (upd (upd (upd (upd (upd (upd iv 7 (nI ((us + C_91.length + C_162.length) + 1))) 18 (nI n)) 19 (nI (en j_162))) 20 (tkT (ks j_162))) 21 (ps j_162)) 22 vl2_162) 23 wr) 24 wa) 26 (nI 2))), gA E (ad 15) 620 (upd (cdW (cdW fr us (C_91.map trJ)) (us + C_91.length) (C_162.map trJ)) (us + C_91.length + C_162.length) (nI 2002)), gA E (ad 17) 600 t]) [1, 2, 0] (by decide) rfl ?_
            show gg E _ 2 X 0 0 175 [some (.ref h), some (.int (nI 2002))] [] [gO h 10 (tF ad (upd (upd (upd (upd (upd (upd (upd (upd (upd iv 7 (nI ((us + C_91.length + C_162.length) + 1))) 18 (nI n)) 19 (nI (en j_162))) 20 (tkT (ks j_162))) 21 (ps j_162)) 22 vl2_162) 23 wr) 24 wa) 26 (nI 2))), gA E (ad 15) 620 (upd (cdW (cdW fr us (C_91.map trJ)) (us + C_91.length) (C_162.map trJ)) (us + C_91.length + C_162.length) (nI 2002)), gA E (ad 17) 600 t]
            refine g_iconst (v := nI 1) C dX10_one_175 (by decide) ?_
            exact g_zret C Rt dX10_one_176 (by decide) (by decide) (by decide) (⟨true, _, _, _, _, _, _, _, rfl, rfl, rdT_ok (by rw [pLv, if_neg (fun z => z.elim n5 n40), pCmp, hr_91]; exact (if_pos (Or.inl e60)).trans (by rw [pCmp2, hr_162])) (by omega) b2_162 (by omega) (ln3 _ _ _ _) (cd3T _ _ _ _ _ _ (by rw [e60]; decide)), hv_162, fun _ => rfl⟩)
          · refine g_if_ne (tgt := 170) C dX10_one_165 (by decide) (fun c165 => absurd c165 (by decide)) (fun c165 => ?_)
            refine g_iconst (v := nI 0) C dX10_one_168 (by decide) ?_
            exact g_zret C Rt dX10_one_169 (by decide) (by decide) (by decide) (⟨false, _, _, _, _, _, _, _, rfl, rfl, rdT_er (by rw [pLv, if_neg (fun z => z.elim n5 n40), pCmp, hr_91]; exact (if_pos (Or.inl e60)).trans (by rw [pCmp2, hr_162])) (by omega) (b2_162) (by omega) (b4_162), hv_162, fun z => absurd z (by decide)⟩)
      · refine g_if_ne (tgt := 99) C dX10_one_94 (by decide) (fun c94 => absurd c94 (by decide)) (fun c94 => ?_)
        refine g_iconst (v := nI 0) C dX10_one_97 (by decide) ?_
        exact g_zret C Rt dX10_one_98 (by decide) (by decide) (by decide) (⟨false, _, _, _, _, _, _, _, rfl, rfl, rdT_er (by rw [pLv, if_neg (fun z => z.elim n5 n40), pCmp, hr_91]) (by omega) (b2_91) (by omega) (b4_91), hv_91, fun z => absurd z (by decide)⟩)
    · have e40 := (tq40 (hK i hi)).mp c50
      have hn8 := not_end hend hi e40 (by decide)
      refine g_aload_n C dX10_one_53 rfl ?_
      refine g_callV C (c_X10_opens_2 E h ad (upd iv 7 (nI us)) n cn i en ks ps t vl wr wa (by omega) (hb) (hL) (hn8)) gX10_one_X10_opens rfl 0 (by decide +kernel) ⟨by decide, by decide⟩ ⟨by decide, by decide⟩ 0 rfl rfl [0, 2] [1] (wr := [gA E (ad 15) 620 fr]) rfl (by decide) rfl (by decide) (by decide) rfl rfl (Nat.le_of_ble_eq_true rfl) dX10_one_54 ?_
      rintro _ _ ⟨vl2_54, rfl, rfl, hv_54⟩
      refine gg.perm (ws' := [gO h 10 (tF ad (upd (upd (upd (upd (upd (upd (upd (upd (upd iv 7 (nI us)) 18 (nI n)) 19 (nI (en (i + 1)))) 20 (tkT (ks (i + 1)))) 21 (ps (i + 1))) 22 vl2_54) 23 wr) 24 wa) 26 (nI 3))), gA E (ad 15) 620 fr, gA E (ad 17) 600 t]) [1, 0, 2] (by decide) rfl ?_
      show gg E _ 2 X 0 0 57 [some (.ref h), none] [.int (nI 1)] [gO h 10 (tF ad (upd (upd (upd (upd (upd (upd (upd (upd (upd iv 7 (nI us)) 18 (nI n)) 19 (nI (en (i + 1)))) 20 (tkT (ks (i + 1)))) 21 (ps (i + 1))) 22 vl2_54) 23 wr) 24 wa) 26 (nI 3))), gA E (ad 15) 620 fr, gA E (ad 17) 600 t]
      refine g_if_eq (tgt := 76) C dX10_one_57 (by decide) (fun c57 => absurd c57 (by decide)) (fun c57 => ?_)
      refine g_aload_n C dX10_one_60 rfl ?_
      refine g_callV C (c_X10_any_5 E h ad iv n cn us (i + 1) en ks ps fr t vl2_54 wr wa (by omega) (hb) (hL) (hK) (hend) (by omega) (by omega) (hv_54) (by omega)) gX10_one_X10_any rfl 0 (by decide +kernel) ⟨by decide, by decide⟩ ⟨by decide, by decide⟩ 0 rfl rfl [0, 1, 2] [] (wr := []) rfl (by decide) rfl (by decide) (by decide) rfl rfl (Nat.le_of_ble_eq_true rfl) dX10_one_61 ?_
      rintro _ _ ⟨ok_61, j_61, us2_61, fr2_61, vl2_61, wr2_61, wa2_61, dp2_61, rfl, rfl, hq_61, hv_61, hd_61⟩
      show gg E _ 2 X 0 0 64 [some (.ref h), none] [.int (b2i ok_61)] [gO h 10 (tF ad (upd (upd (upd (upd (upd (upd (upd (upd (upd iv 7 (nI us2_61)) 18 (nI n)) 19 (nI (en j_61))) 20 (tkT (ks j_61))) 21 (ps j_61)) 22 vl2_61) 23 wr2_61) 24 wa2_61) 26 dp2_61)), gA E (ad 15) 620 fr2_61, gA E (ad 17) 600 t]
      rcases rdT_two hq_61 with ⟨C_61, hr_61, rfl, rfl, rfl, rfl, rfl, b1_61, b2_61, b3_61⟩ | ⟨kd_61, ix_61, hr_61, rfl, rfl, rfl, b1_61, b2_61, b3_61, b4_61⟩
      · obtain rfl := hd_61 rfl
        refine g_if_eq (tgt := 76) C dX10_one_64 (by decide) (fun c64 => absurd c64 (by decide)) (fun c64 => ?_)
        skip
        refine g_aload_n C dX10_one_67 rfl ?_
        rcases Classical.em (ks j_61 = nI 1141) with hx | hx
        · refine g_bipush (v := nI 41) C dX10_one_68 (by decide) ?_
          refine g_callV C (c_X10_need_y E h ad (upd (upd iv 7 (nI (us + C_61.length))) 26 (nI 3)) n cn j_61 41 en ks ps t vl2_61 wr wa (by omega) (hb) (hL) (not_end hend b2_61 hx (by decide)) ((tq41 (hK _ b2_61)).mpr hx)) gX10_one_X10_need rfl 1 (by decide +kernel) ⟨by decide, by decide⟩ ⟨by decide, by decide⟩ 0 rfl rfl [0, 2] [1] (wr := [gA E (ad 15) 620 (cdW fr us (C_61.map trJ))]) rfl (by decide) rfl (by decide) (by decide) rfl rfl (Nat.le_of_ble_eq_true rfl) dX10_one_70 ?_
          rintro _ _ ⟨vl2_70, rfl, rfl, hv_70⟩
          refine gg.perm (ws' := [gO h 10 (tF ad (upd (upd (upd (upd (upd (upd (upd (upd (upd iv 7 (nI (us + C_61.length))) 18 (nI n)) 19 (nI (en (j_61 + 1)))) 20 (tkT (ks (j_61 + 1)))) 21 (ps (j_61 + 1))) 22 vl2_70) 23 wr) 24 wa) 26 (nI 3))), gA E (ad 15) 620 (cdW fr us (C_61.map trJ)), gA E (ad 17) 600 t]) [1, 0, 2] (by decide) rfl ?_
          show gg E _ 2 X 0 0 73 [some (.ref h), none] [.int (nI 1)] [gO h 10 (tF ad (upd (upd (upd (upd (upd (upd (upd (upd (upd iv 7 (nI (us + C_61.length))) 18 (nI n)) 19 (nI (en (j_61 + 1)))) 20 (tkT (ks (j_61 + 1)))) 21 (ps (j_61 + 1))) 22 vl2_70) 23 wr) 24 wa) 26 (nI 3))), gA E (ad 15) 620 (cdW fr us (C_61.map trJ)), gA E (ad 17) 600 t]
          refine g_if_ne (tgt := 78) C dX10_one_73 (by decide) (fun c73 => ?_) (fun c73 => absurd c73 (by decide))
          have hn9 := not_end hend b2_61 hx (by decide)
          refine g_aload_n C dX10_one_78 rfl ?_
          refine g_dup C dX10_one_79 rfl ?_
          refine g_get C i_X10 0 26 f_188 rfl rfl (by decide) rfl rfl dX10_one_80 ?_
          show gg E _ 2 X 0 0 83 [some (.ref h), none] [.int (nI 3), .ref h] [gO h 10 (tF ad (upd (upd (upd (upd (upd (upd (upd (upd (upd iv 7 (nI (us + C_61.length))) 18 (nI n)) 19 (nI (en (j_61 + 1)))) 20 (tkT (ks (j_61 + 1)))) 21 (ps (j_61 + 1))) 22 vl2_70) 23 wr) 24 wa) 26 (nI 3))), gA E (ad 15) 620 (cdW fr us (C_61.map trJ)), gA E (ad 17) 600 t]
          refine g_iconst (v := nI 1) C dX10_one_83 (by decide) ?_
          refine g_isub C dX10_one_84 (g_top (x' := nI 2) (by decide) ?_)
          refine g_put C i_X10 tyX10 tyX10_ok nmX10 0 26 f_188 rfl rfl (by decide) rfl rfl rfl rfl rfl (Nat.le_of_ble_eq_true rfl) dX10_one_85 (ws' := [gO h 10 (tF ad (upd (upd (upd (upd (upd (upd (upd (upd (upd iv 7 (nI (us + C_61.length))) 18 (nI n)) 19 (nI (en (j_61 + 1)))) 20 (tkT (ks (j_61 + 1)))) 21 (ps (j_61 + 1))) 22 vl2_70) 23 wr) 24 wa) 26 (nI 2))), gA E (ad 15) 620 (cdW fr us (C_61.map trJ)), gA E (ad 17) 600 t]) rfl ?_
          refine g_iconst (v := nI 1) C dX10_one_88 (by decide) ?_
          exact g_zret C Rt dX10_one_89 (by decide) (by decide) (by decide) (⟨true, _, _, _, _, _, _, _, rfl, rfl, rdT_ok (by rw [pLv, if_pos (Or.inr e40), if_neg n5, hr_61]; exact if_pos hx) (by omega) hn9 (by omega) rfl rfl, hv_70, fun _ => rfl⟩)
        · refine g_bipush (v := nI 41) C dX10_one_68 (by decide) ?_
          refine g_callV C (c_X10_need_n E h ad (upd (upd iv 7 (nI (us + C_61.length))) 26 (nI 3)) n cn j_61 41 en ks ps t vl2_61 wr wa (fun z => hx ((tq41 (hK _ b2_61)).mp z))) gX10_one_X10_need rfl 1 (by decide +kernel) ⟨by decide, by decide⟩ ⟨by decide, by decide⟩ 0 rfl rfl [0, 2] [1] (wr := [gA E (ad 15) 620 (cdW fr us (C_61.map trJ))]) rfl (by decide) rfl (by decide) (by decide) rfl rfl (Nat.le_of_ble_eq_true rfl) dX10_one_70 ?_
          rintro _ _ ⟨rfl, rfl⟩
          refine gg.perm (ws' := [gO h 10 (tF ad (upd (upd (upd (upd (upd (upd (upd (upd (upd iv 7 (nI (us + C_61.length))) 18 (nI n)) 19 (nI (en j_61))) 20 (tkT (ks j_61))) 21 (ps j_61)) 22 vl2_61) 23 (nI 1)) 24 (ps j_61)) 26 (nI 3))), gA E (ad 15) 620 (cdW fr us (C_61.map trJ)), gA E (ad 17) 600 t]) [1, 0, 2] (by decide) rfl ?_
          show gg E _ 2 X 0 0 73 [some (.ref h), none] [.int (nI 0)] [gO h 10 (tF ad (upd (upd (upd (upd (upd (upd (upd (upd (upd iv 7 (nI (us + C_61.length))) 18 (nI n)) 19 (nI (en j_61))) 20 (tkT (ks j_61))) 21 (ps j_61)) 22 vl2_61) 23 (nI 1)) 24 (ps j_61)) 26 (nI 3))), gA E (ad 15) 620 (cdW fr us (C_61.map trJ)), gA E (ad 17) 600 t]
          refine g_if_ne (tgt := 78) C dX10_one_73 (by decide) (fun c73 => absurd c73 (by decide)) (fun c73 => ?_)
          refine g_iconst (v := nI 0) C dX10_one_76 (by decide) ?_
          exact g_zret C Rt dX10_one_77 (by decide) (by decide) (by decide) (⟨false, _, _, _, _, _, _, _, rfl, rfl, rdT_er (by rw [pLv, if_pos (Or.inr e40), if_neg n5, hr_61]; exact if_neg hx) (by omega) (b2_61) (by omega) (b2_61), hv_61, fun z => absurd z (by decide)⟩)
      · refine g_if_eq (tgt := 76) C dX10_one_64 (by decide) (fun c64 => ?_) (fun c64 => absurd c64 (by decide))
        refine g_iconst (v := nI 0) C dX10_one_76 (by decide) ?_
        exact g_zret C Rt dX10_one_77 (by decide) (by decide) (by decide) (⟨false, _, _, _, _, _, _, _, rfl, rfl, rdT_er (by rw [pLv, if_pos (Or.inr e40), if_neg n5, hr_61]; rfl) (by omega) (b2_61) (by omega) (b4_61), hv_61, fun z => absurd z (by decide)⟩)
  · have e5 := (tq8 (hK i hi)).mp c6
    have hn8 := not_end hend hi e5 (by decide)
    refine g_aload_n C dX10_one_9 rfl ?_
    refine g_callV C (c_X10_opens_2 E h ad (upd iv 7 (nI us)) n cn i en ks ps t vl wr wa (by omega) (hb) (hL) (hn8)) gX10_one_X10_opens rfl 0 (by decide +kernel) ⟨by decide, by decide⟩ ⟨by decide, by decide⟩ 0 rfl rfl [0, 2] [1] (wr := [gA E (ad 15) 620 fr]) rfl (by decide) rfl (by decide) (by decide) rfl rfl (Nat.le_of_ble_eq_true rfl) dX10_one_10 ?_
    rintro _ _ ⟨vl2_10, rfl, rfl, hv_10⟩
    refine gg.perm (ws' := [gO h 10 (tF ad (upd (upd (upd (upd (upd (upd (upd (upd (upd iv 7 (nI us)) 18 (nI n)) 19 (nI (en (i + 1)))) 20 (tkT (ks (i + 1)))) 21 (ps (i + 1))) 22 vl2_10) 23 wr) 24 wa) 26 (nI 3))), gA E (ad 15) 620 fr, gA E (ad 17) 600 t]) [1, 0, 2] (by decide) rfl ?_
    show gg E _ 2 X 0 0 13 [some (.ref h), none] [.int (nI 1)] [gO h 10 (tF ad (upd (upd (upd (upd (upd (upd (upd (upd (upd iv 7 (nI us)) 18 (nI n)) 19 (nI (en (i + 1)))) 20 (tkT (ks (i + 1)))) 21 (ps (i + 1))) 22 vl2_10) 23 wr) 24 wa) 26 (nI 3))), gA E (ad 15) 620 fr, gA E (ad 17) 600 t]
    refine g_if_eq (tgt := 23) C dX10_one_13 (by decide) (fun c13 => absurd c13 (by decide)) (fun c13 => ?_)
    refine g_aload_n C dX10_one_16 rfl ?_
    refine g_callV C (c_X10_one_5 E h ad iv n cn us (i + 1) en ks ps fr t vl2_10 wr wa (by omega) (hb) (hL) (hK) (hend) (by omega) (by omega) (hv_10) (by omega)) gX10_one_X10_one rfl 0 (by decide +kernel) ⟨by decide, by decide⟩ ⟨by decide, by decide⟩ 0 rfl rfl [0, 1, 2] [] (wr := []) rfl (by decide) rfl (by decide) (by decide) rfl rfl (Nat.le_of_ble_eq_true rfl) dX10_one_17 ?_
    rintro _ _ ⟨ok_17, j_17, us2_17, fr2_17, vl2_17, wr2_17, wa2_17, dp2_17, rfl, rfl, hq_17, hv_17, hd_17⟩
    show gg E _ 2 X 0 0 20 [some (.ref h), none] [.int (b2i ok_17)] [gO h 10 (tF ad (upd (upd (upd (upd (upd (upd (upd (upd (upd iv 7 (nI us2_17)) 18 (nI n)) 19 (nI (en j_17))) 20 (tkT (ks j_17))) 21 (ps j_17)) 22 vl2_17) 23 wr2_17) 24 wa2_17) 26 dp2_17)), gA E (ad 15) 620 fr2_17, gA E (ad 17) 600 t]
    rcases rdT_two hq_17 with ⟨C_17, hr_17, rfl, rfl, rfl, rfl, rfl, b1_17, b2_17, b3_17⟩ | ⟨kd_17, ix_17, hr_17, rfl, rfl, rfl, b1_17, b2_17, b3_17, b4_17⟩
    · obtain rfl := hd_17 rfl
      refine g_if_ne (tgt := 25) C dX10_one_20 (by decide) (fun c20 => ?_) (fun c20 => absurd c20 (by decide))
      refine g_aload_n C dX10_one_25 rfl ?_
      refine g_dup C dX10_one_26 rfl ?_
      refine g_get C i_X10 0 26 f_188 rfl rfl (by decide) rfl rfl dX10_one_27 ?_
      show gg E _ 2 X 0 0 30 [some (.ref h), none] [.int (nI 3), .ref h] [gO h 10 (tF ad (upd (upd (upd (upd (upd (upd (upd (upd (upd iv 7 (nI (us + C_17.length))) 18 (nI n)) 19 (nI (en j_17))) 20 (tkT (ks j_17))) 21 (ps j_17)) 22 vl2_17) 23 wr) 24 wa) 26 (nI 3))), gA E (ad 15) 620 (cdW fr us (C_17.map trJ)), gA E (ad 17) 600 t]
      refine g_iconst (v := nI 1) C dX10_one_30 (by decide) ?_
      refine g_isub C dX10_one_31 (g_top (x' := nI 2) (by decide) ?_)
      refine g_put C i_X10 tyX10 tyX10_ok nmX10 0 26 f_188 rfl rfl (by decide) rfl rfl rfl rfl rfl (Nat.le_of_ble_eq_true rfl) dX10_one_32 (ws' := [gO h 10 (tF ad (upd (upd (upd (upd (upd (upd (upd (upd (upd iv 7 (nI (us + C_17.length))) 18 (nI n)) 19 (nI (en j_17))) 20 (tkT (ks j_17))) 21 (ps j_17)) 22 vl2_17) 23 wr) 24 wa) 26 (nI 2))), gA E (ad 15) 620 (cdW fr us (C_17.map trJ)), gA E (ad 17) 600 t]) rfl ?_
      refine g_aload_n C dX10_one_35 rfl ?_
      refine g_sipush (v := nI 2005) C dX10_one_36 (by decide) ?_
      refine g_callV C (c_X10_lay E h ad (upd (upd (upd (upd (upd (upd (upd (upd iv 18 (nI n)) 19 (nI (en j_17))) 20 (tkT (ks j_17))) 21 (ps j_17)) 22 vl2_17) 23 wr) 24 wa) 26 (nI 2)) (us + C_17.length) (cdW fr us (C_17.map trJ)) (nI 2005) (by omega)) gX10_one_X10_lay rfl 1 (by decide +kernel) ⟨by decide, by decide⟩ ⟨by decide, by decide⟩ 0 rfl rfl [0, 1] [2] (wr := [gA E (ad 17) 600 t]) rfl (by decide) rfl (by decide) (by decide) rfl rfl (Nat.le_of_ble_eq_true rfl) dX10_one_39 ?_
      rintro _ _ ⟨rfl, rfl⟩
      refine gg.perm (ws' := [gO h 10 (tF ad (upd (upd (upd (upd (upd (upd (upd (upd (upd iv 7 (nI ((us + C_17.length) + 1))) 18 (nI n)) 19 (nI (en j_17))) 20 (tkT (ks j_17))) 21 (ps j_17)) 22 vl2_17) 23 wr) 24 wa) 26 (nI 2))), gA E (ad 15) 620 (upd (cdW fr us (C_17.map trJ)) (us + C_17.length) (nI 2005)), gA E (ad 17) 600 t]) [1, 2, 0] (by decide) rfl ?_
      show gg E _ 2 X 0 0 42 [some (.ref h), none] [] [gO h 10 (tF ad (upd (upd (upd (upd (upd (upd (upd (upd (upd iv 7 (nI ((us + C_17.length) + 1))) 18 (nI n)) 19 (nI (en j_17))) 20 (tkT (ks j_17))) 21 (ps j_17)) 22 vl2_17) 23 wr) 24 wa) 26 (nI 2))), gA E (ad 15) 620 (upd (cdW fr us (C_17.map trJ)) (us + C_17.length) (nI 2005)), gA E (ad 17) 600 t]
      refine g_iconst (v := nI 1) C dX10_one_42 (by decide) ?_
      exact g_zret C Rt dX10_one_43 (by decide) (by decide) (by decide) (⟨true, _, _, _, _, _, _, _, rfl, rfl, rdT_ok (by rw [pLv, if_pos (Or.inl e5), if_pos e5, hr_17]; rfl) (by omega) b2_17 (by omega) (ln2 _ _ _) (cd2T _ _ _ _ _ (by decide)), hv_17, fun _ => rfl⟩)
    · refine g_if_ne (tgt := 25) C dX10_one_20 (by decide) (fun c20 => absurd c20 (by decide)) (fun c20 => ?_)
      refine g_iconst (v := nI 0) C dX10_one_23 (by decide) ?_
      exact g_zret C Rt dX10_one_24 (by decide) (by decide) (by decide) (⟨false, _, _, _, _, _, _, _, rfl, rfl, rdT_er (by rw [pLv, if_pos (Or.inl e5), if_pos e5, hr_17]; rfl) (by omega) (b2_17) (by omega) (b4_17), hv_17, fun z => absurd z (by decide)⟩)

abbrev rm_c_X10_all_6 : Room := { frames := 24, cells := 0, slots := 0, locals := 494 }
set_option maxHeartbeats 4000000 in
set_option maxRecDepth 100000 in
theorem c_X10_all_6 (E : gE) (h : Nat) (ad : Nat → Nat) (iv : Nat → Int32) (n cn us i : Nat) (en : Nat → Nat) (ks ps fr t : Nat → Int32) (vl wr wa : Int32) (hn : n ≤ 600) (hb : okY t n) (hL : twL t n cn ks ps en) (hK : ∀ q, q < cn → tkC (ks q)) (hend : ks (cn - 1) = nI 1011) (hcn : cn ≤ 601) (hi : i < cn) (hv : ¬ nI 999 < ks i → vl = ks i) (hus : us ≤ i) : MM E yX10_all wsX10_all rm_c_X10_all_6 [.ref h] [gO h 10 (tF ad (upd (upd (upd (upd (upd (upd (upd (upd (upd iv 7 (nI us)) 18 (nI n)) 19 (nI (en i))) 20 (tkT (ks i))) 21 (ps i)) 22 vl) 23 wr) 24 wa) 26 (nI 2))), gA E (ad 15) 620 fr, gA E (ad 17) 600 t] (fun rv_ ru_ => ∃ (ok : Bool) (j us2 : Nat) (fr2 : Nat → Int32) (vl2 wr2 wa2 dp2 : Int32), rv_ = some (.int (b2i ok)) ∧ ru_ = [gO h 10 (tF ad (upd (upd (upd (upd (upd (upd (upd (upd (upd iv 7 (nI us2)) 18 (nI n)) 19 (nI (en j))) 20 (tkT (ks j))) 21 (ps j)) 22 vl2) 23 wr2) 24 wa2) 26 dp2)), gA E (ad 15) 620 fr2, gA E (ad 17) 600 t] ∧ (rdQ (trR (pAll ks (pLv ks 6) i)) ps cn i us fr wr wa ok j us2 fr2 wr2 wa2) ∧ (¬ nI 999 < ks j → vl2 = ks j) ∧ (ok = true → dp2 = nI 2)) := by
  refine MM.ofG (cc := cX10_all) (maxL := 1) (ret := (some .boolean)) (by decide) rfl (Nat.le_of_ble_eq_true rfl) (ll := [some (.ref h)]) rfl ?_
  intro X C Rt
  have C : gx E X cX10_all 1 wsX10_all RX10 := C
  have i_X10 : ∀ w ∈ u_ws RX10 TX10 40, w ∈ wsX10_all := by decide +kernel
  have f_154 : Cond.fieldLink RX10 154 "MarkPagesModel" "token" "I" ∈ wsX10_all := by decide +kernel
  refine g_aload_n C dX10_all_0 rfl ?_
  refine g_callV C (c_X10_one_6 E h ad iv n cn us i en ks ps fr t vl wr wa (by omega) (hb) (hL) (hK) (hend) (by omega) (by omega) (hv) (by omega)) gX10_all_X10_one rfl 0 (by decide +kernel) ⟨by decide, by decide⟩ ⟨by decide, by decide⟩ 0 rfl rfl [0, 1, 2] [] (wr := []) rfl (by decide) rfl (by decide) (by decide) rfl rfl (Nat.le_of_ble_eq_true rfl) dX10_all_1 ?_
  rintro _ _ ⟨ok_1, j_1, us2_1, fr2_1, vl2_1, wr2_1, wa2_1, dp2_1, rfl, rfl, hq_1, hv_1, hd_1⟩
  show gg E _ 1 X 0 0 4 [some (.ref h)] [.int (b2i ok_1)] [gO h 10 (tF ad (upd (upd (upd (upd (upd (upd (upd (upd (upd iv 7 (nI us2_1)) 18 (nI n)) 19 (nI (en j_1))) 20 (tkT (ks j_1))) 21 (ps j_1)) 22 vl2_1) 23 wr2_1) 24 wa2_1) 26 dp2_1)), gA E (ad 15) 620 fr2_1, gA E (ad 17) 600 t]
  rcases rdT_two hq_1 with ⟨C_1, hr_1, rfl, rfl, rfl, rfl, rfl, b1_1, b2_1, b3_1⟩ | ⟨kd_1, ix_1, hr_1, rfl, rfl, rfl, b1_1, b2_1, b3_1, b4_1⟩
  · obtain rfl := hd_1 rfl
    refine g_if_ne (tgt := 9) C dX10_all_4 (by decide) (fun c4 => ?_) (fun c4 => absurd c4 (by decide))
    have L9 : ∀ (n9 : Nat) (it j1 f1 : Nat) (C1 : List Int32) (vl1 : Int32), cn - j1 < n9 → (j1 < cn) → (i + it ≤ j1) → (f1 + it = 601) → (C1.length + i ≤ j1) → (pAll ks (pLv ks 6) i = lpO ks (nI 1004) (pLv ks 6) f1 j1 C1) → (¬ nI 999 < ks j1 → vl1 = ks j1) → gg E rm_c_X10_all_6 1 X 0 0 9 [some (.ref h)] [] [gO h 10 (tF ad (upd (upd (upd (upd (upd (upd (upd (upd (upd iv 7 (nI (us + C1.length))) 18 (nI n)) 19 (nI (en j1))) 20 (tkT (ks j1))) 21 (ps j1)) 22 vl1) 23 wr) 24 wa) 26 (nI 2))), gA E (ad 15) 620 (cdW fr us (C1.map trJ)), gA E (ad 17) 600 t] := by
      intro n9
      induction n9 with
      | zero => intro it j1 f1 C1 vl1 hm9; exact absurd hm9 (Nat.not_lt_zero _)
      | succ n9 ih9 =>
        intro it j1 f1 C1 vl1 hm9 g1 g2 g3 g4 g5 hv1
        refine g_aload_n C dX10_all_9 rfl ?_
        refine g_get C i_X10 0 20 f_154 rfl rfl (by decide) rfl rfl dX10_all_10 ?_
        refine g_bipush (v := nI 7) C dX10_all_13 (by decide) ?_
        refine g_icmp_ne (tgt := 41) C dX10_all_15 (by decide) (fun c15 => ?_) (fun c15 => ?_)
        · refine g_iconst (v := nI 1) C dX10_all_41 (by decide) ?_
          exact g_zret C Rt dX10_all_42 (by decide) (by decide) (by decide) (⟨true, _, _, _, _, _, _, _, rfl, rfl, rdT_ok (by rw [g5, show f1 = f1 - 1 + 1 by omega, lpO, if_neg (fun z => c15 ((tq7 (hK _ g1)).mpr z))]) (by omega) g1 (by omega) rfl rfl, hv1, fun _ => rfl⟩)
        · have e15 := (tq7 (hK _ g1)).mp c15
          have hn7 := not_end hend g1 e15 (by decide)
          refine g_aload_n C dX10_all_18 rfl ?_
          refine g_callV C (c_X10_nextT E h ad (upd (upd (upd (upd iv 7 (nI (us + C1.length))) 23 wr) 24 wa) 26 (nI 2)) n cn j1 en ks ps t (tkT (ks j1)) (ps j1) vl1 (by omega) (hb) (hL) (hn7)) gX10_all_X10_next0 rfl 0 (by decide +kernel) ⟨by decide, by decide⟩ ⟨by decide, by decide⟩ 0 rfl rfl [0, 2] [1] (wr := [gA E (ad 15) 620 (cdW fr us (C1.map trJ))]) rfl (by decide) rfl (by decide) (by decide) rfl rfl (Nat.le_of_ble_eq_true rfl) dX10_all_19 ?_
          rintro _ _ ⟨vl2_19, rfl, rfl, hv_19⟩
          refine gg.perm (ws' := [gO h 10 (tF ad (upd (upd (upd (upd (upd (upd (upd (upd (upd iv 7 (nI (us + C1.length))) 18 (nI n)) 19 (nI (en (j1 + 1)))) 20 (tkT (ks (j1 + 1)))) 21 (ps (j1 + 1))) 22 vl2_19) 23 wr) 24 wa) 26 (nI 2))), gA E (ad 15) 620 (cdW fr us (C1.map trJ)), gA E (ad 17) 600 t]) [1, 0, 2] (by decide) rfl ?_
          show gg E _ 1 X 0 0 22 [some (.ref h)] [] [gO h 10 (tF ad (upd (upd (upd (upd (upd (upd (upd (upd (upd iv 7 (nI (us + C1.length))) 18 (nI n)) 19 (nI (en (j1 + 1)))) 20 (tkT (ks (j1 + 1)))) 21 (ps (j1 + 1))) 22 vl2_19) 23 wr) 24 wa) 26 (nI 2))), gA E (ad 15) 620 (cdW fr us (C1.map trJ)), gA E (ad 17) 600 t]
          refine g_aload_n C dX10_all_22 rfl ?_
          refine g_callV C (c_X10_one_6 E h ad iv n cn (us + C1.length) (j1 + 1) en ks ps (cdW fr us (C1.map trJ)) t vl2_19 wr wa (by omega) (hb) (hL) (hK) (hend) (by omega) (by omega) (hv_19) (by omega)) gX10_all_X10_one rfl 0 (by decide +kernel) ⟨by decide, by decide⟩ ⟨by decide, by decide⟩ 0 rfl rfl [0, 1, 2] [] (wr := []) rfl (by decide) rfl (by decide) (by decide) rfl rfl (Nat.le_of_ble_eq_true rfl) dX10_all_23 ?_
          rintro _ _ ⟨ok_23, j_23, us2_23, fr2_23, vl2_23, wr2_23, wa2_23, dp2_23, rfl, rfl, hq_23, hv_23, hd_23⟩
          show gg E _ 1 X 0 0 26 [some (.ref h)] [.int (b2i ok_23)] [gO h 10 (tF ad (upd (upd (upd (upd (upd (upd (upd (upd (upd iv 7 (nI us2_23)) 18 (nI n)) 19 (nI (en j_23))) 20 (tkT (ks j_23))) 21 (ps j_23)) 22 vl2_23) 23 wr2_23) 24 wa2_23) 26 dp2_23)), gA E (ad 15) 620 fr2_23, gA E (ad 17) 600 t]
          rcases rdT_two hq_23 with ⟨C_23, hr_23, rfl, rfl, rfl, rfl, rfl, b1_23, b2_23, b3_23⟩ | ⟨kd_23, ix_23, hr_23, rfl, rfl, rfl, b1_23, b2_23, b3_23, b4_23⟩
          · obtain rfl := hd_23 rfl
            refine g_if_ne (tgt := 31) C dX10_all_26 (by decide) (fun c26 => ?_) (fun c26 => absurd c26 (by decide))
            refine g_aload_n C dX10_all_31 rfl ?_
            refine g_sipush (v := nI 2006) C dX10_all_32 (by decide) ?_
            refine g_callV C (c_X10_lay E h ad (upd (upd (upd (upd (upd (upd (upd (upd iv 18 (nI n)) 19 (nI (en j_23))) 20 (tkT (ks j_23))) 21 (ps j_23)) 22 vl2_23) 23 wr) 24 wa) 26 (nI 2)) (us + C1.length + C_23.length) (cdW (cdW fr us (C1.map trJ)) (us + C1.length) (C_23.map trJ)) (nI 2006) (by omega)) gX10_all_X10_lay rfl 1 (by decide +kernel) ⟨by decide, by decide⟩ ⟨by decide, by decide⟩ 0 rfl rfl [0, 1] [2] (wr := [gA E (ad 17) 600 t]) rfl (by decide) rfl (by decide) (by decide) rfl rfl (Nat.le_of_ble_eq_true rfl) dX10_all_35 ?_
            rintro _ _ ⟨rfl, rfl⟩
            refine gg.perm (ws' := [gO h 10 (tF ad (upd (upd (upd (upd (upd (upd (upd (upd (upd iv 7 (nI ((us + C1.length + C_23.length) + 1))) 18 (nI n)) 19 (nI (en j_23))) 20 (tkT (ks j_23))) 21 (ps j_23)) 22 vl2_23) 23 wr) 24 wa) 26 (nI 2))), gA E (ad 15) 620 (upd (cdW (cdW fr us (C1.map trJ)) (us + C1.length) (C_23.map trJ)) (us + C1.length + C_23.length) (nI 2006)), gA E (ad 17) 600 t]) [1, 2, 0] (by decide) rfl ?_
            show gg E _ 1 X 0 0 38 [some (.ref h)] [] [gO h 10 (tF ad (upd (upd (upd (upd (upd (upd (upd (upd (upd iv 7 (nI ((us + C1.length + C_23.length) + 1))) 18 (nI n)) 19 (nI (en j_23))) 20 (tkT (ks j_23))) 21 (ps j_23)) 22 vl2_23) 23 wr) 24 wa) 26 (nI 2))), gA E (ad 15) 620 (upd (cdW (cdW fr us (C1.map trJ)) (us + C1.length) (C_23.map trJ)) (us + C1.length + C_23.length) (nI 2006)), gA E (ad 17) 600 t]
            rw [ln3 us C1 C_23 (nI 1004), cd3T fr us C1 C_23 (nI 1004) (nI 2006) (by decide)]
            refine g_goto (tgt := 9) C dX10_all_38 (by decide) ?_
            exact ih9 (it + 1) j_23 (f1 - 1) (C1 ++ C_23 ++ [nI 1004]) vl2_23 (by omega) (by omega) (by omega) (by omega) (by have := ln3 us C1 C_23 (nI 1004); omega) (by rw [g5, show f1 = f1 - 1 + 1 by omega, lpO, if_pos e15, hr_23]; rfl) (hv_23)
          · refine g_if_ne (tgt := 31) C dX10_all_26 (by decide) (fun c26 => absurd c26 (by decide)) (fun c26 => ?_)
            refine g_iconst (v := nI 0) C dX10_all_29 (by decide) ?_
            exact g_zret C Rt dX10_all_30 (by decide) (by decide) (by decide) (⟨false, _, _, _, _, _, _, _, rfl, rfl, rdT_er (by rw [g5, show f1 = f1 - 1 + 1 by omega, lpO, if_pos e15, hr_23]) (by omega) b2_23 (by omega) b4_23, hv_23, fun z => absurd z (by decide)⟩)
    exact L9 _ 0 j_1 601 C_1 vl2_1 (Nat.lt_succ_self _) (by omega) (by omega) (by omega) (by omega) (by rw [pAll, hr_1]; rfl) (hv_1)
  · refine g_if_ne (tgt := 9) C dX10_all_4 (by decide) (fun c4 => absurd c4 (by decide)) (fun c4 => ?_)
    refine g_iconst (v := nI 0) C dX10_all_7 (by decide) ?_
    exact g_zret C Rt dX10_all_8 (by decide) (by decide) (by decide) (⟨false, _, _, _, _, _, _, _, rfl, rfl, rdT_er (by rw [pAll, hr_1]; rfl) b1_1 b2_1 b3_1 b4_1, hv_1, fun z => absurd z (by decide)⟩)

abbrev rm_c_X10_any_6 : Room := { frames := 25, cells := 0, slots := 0, locals := 514 }
set_option maxHeartbeats 4000000 in
set_option maxRecDepth 100000 in
theorem c_X10_any_6 (E : gE) (h : Nat) (ad : Nat → Nat) (iv : Nat → Int32) (n cn us i : Nat) (en : Nat → Nat) (ks ps fr t : Nat → Int32) (vl wr wa : Int32) (hn : n ≤ 600) (hb : okY t n) (hL : twL t n cn ks ps en) (hK : ∀ q, q < cn → tkC (ks q)) (hend : ks (cn - 1) = nI 1011) (hcn : cn ≤ 601) (hi : i < cn) (hv : ¬ nI 999 < ks i → vl = ks i) (hus : us ≤ i) : MM E yX10_any wsX10_any rm_c_X10_any_6 [.ref h] [gO h 10 (tF ad (upd (upd (upd (upd (upd (upd (upd (upd (upd iv 7 (nI us)) 18 (nI n)) 19 (nI (en i))) 20 (tkT (ks i))) 21 (ps i)) 22 vl) 23 wr) 24 wa) 26 (nI 2))), gA E (ad 15) 620 fr, gA E (ad 17) 600 t] (fun rv_ ru_ => ∃ (ok : Bool) (j us2 : Nat) (fr2 : Nat → Int32) (vl2 wr2 wa2 dp2 : Int32), rv_ = some (.int (b2i ok)) ∧ ru_ = [gO h 10 (tF ad (upd (upd (upd (upd (upd (upd (upd (upd (upd iv 7 (nI us2)) 18 (nI n)) 19 (nI (en j))) 20 (tkT (ks j))) 21 (ps j)) 22 vl2) 23 wr2) 24 wa2) 26 dp2)), gA E (ad 15) 620 fr2, gA E (ad 17) 600 t] ∧ (rdQ (trR (pAny ks (pLv ks 6) i)) ps cn i us fr wr wa ok j us2 fr2 wr2 wa2) ∧ (¬ nI 999 < ks j → vl2 = ks j) ∧ (ok = true → dp2 = nI 2)) := by
  refine MM.ofG (cc := cX10_any) (maxL := 1) (ret := (some .boolean)) (by decide) rfl (Nat.le_of_ble_eq_true rfl) (ll := [some (.ref h)]) rfl ?_
  intro X C Rt
  have C : gx E X cX10_any 1 wsX10_any RX10 := C
  have i_X10 : ∀ w ∈ u_ws RX10 TX10 40, w ∈ wsX10_any := by decide +kernel
  have f_154 : Cond.fieldLink RX10 154 "MarkPagesModel" "token" "I" ∈ wsX10_any := by decide +kernel
  refine g_aload_n C dX10_any_0 rfl ?_
  refine g_callV C (c_X10_all_6 E h ad iv n cn us i en ks ps fr t vl wr wa (by omega) (hb) (hL) (hK) (hend) (by omega) (by omega) (hv) (by omega)) gX10_any_X10_all rfl 0 (by decide +kernel) ⟨by decide, by decide⟩ ⟨by decide, by decide⟩ 0 rfl rfl [0, 1, 2] [] (wr := []) rfl (by decide) rfl (by decide) (by decide) rfl rfl (Nat.le_of_ble_eq_true rfl) dX10_any_1 ?_
  rintro _ _ ⟨ok_1, j_1, us2_1, fr2_1, vl2_1, wr2_1, wa2_1, dp2_1, rfl, rfl, hq_1, hv_1, hd_1⟩
  show gg E _ 1 X 0 0 4 [some (.ref h)] [.int (b2i ok_1)] [gO h 10 (tF ad (upd (upd (upd (upd (upd (upd (upd (upd (upd iv 7 (nI us2_1)) 18 (nI n)) 19 (nI (en j_1))) 20 (tkT (ks j_1))) 21 (ps j_1)) 22 vl2_1) 23 wr2_1) 24 wa2_1) 26 dp2_1)), gA E (ad 15) 620 fr2_1, gA E (ad 17) 600 t]
  rcases rdT_two hq_1 with ⟨C_1, hr_1, rfl, rfl, rfl, rfl, rfl, b1_1, b2_1, b3_1⟩ | ⟨kd_1, ix_1, hr_1, rfl, rfl, rfl, b1_1, b2_1, b3_1, b4_1⟩
  · obtain rfl := hd_1 rfl
    refine g_if_ne (tgt := 9) C dX10_any_4 (by decide) (fun c4 => ?_) (fun c4 => absurd c4 (by decide))
    have L9 : ∀ (n9 : Nat) (it j1 f1 : Nat) (C1 : List Int32) (vl1 : Int32), cn - j1 < n9 → (j1 < cn) → (i + it ≤ j1) → (f1 + it = 601) → (C1.length + i ≤ j1) → (pAny ks (pLv ks 6) i = lpO ks (nI 1003) (pAll ks (pLv ks 6)) f1 j1 C1) → (¬ nI 999 < ks j1 → vl1 = ks j1) → gg E rm_c_X10_any_6 1 X 0 0 9 [some (.ref h)] [] [gO h 10 (tF ad (upd (upd (upd (upd (upd (upd (upd (upd (upd iv 7 (nI (us + C1.length))) 18 (nI n)) 19 (nI (en j1))) 20 (tkT (ks j1))) 21 (ps j1)) 22 vl1) 23 wr) 24 wa) 26 (nI 2))), gA E (ad 15) 620 (cdW fr us (C1.map trJ)), gA E (ad 17) 600 t] := by
      intro n9
      induction n9 with
      | zero => intro it j1 f1 C1 vl1 hm9; exact absurd hm9 (Nat.not_lt_zero _)
      | succ n9 ih9 =>
        intro it j1 f1 C1 vl1 hm9 g1 g2 g3 g4 g5 hv1
        refine g_aload_n C dX10_any_9 rfl ?_
        refine g_get C i_X10 0 20 f_154 rfl rfl (by decide) rfl rfl dX10_any_10 ?_
        refine g_bipush (v := nI 6) C dX10_any_13 (by decide) ?_
        refine g_icmp_ne (tgt := 41) C dX10_any_15 (by decide) (fun c15 => ?_) (fun c15 => ?_)
        · refine g_iconst (v := nI 1) C dX10_any_41 (by decide) ?_
          exact g_zret C Rt dX10_any_42 (by decide) (by decide) (by decide) (⟨true, _, _, _, _, _, _, _, rfl, rfl, rdT_ok (by rw [g5, show f1 = f1 - 1 + 1 by omega, lpO, if_neg (fun z => c15 ((tq6 (hK _ g1)).mpr z))]) (by omega) g1 (by omega) rfl rfl, hv1, fun _ => rfl⟩)
        · have e15 := (tq6 (hK _ g1)).mp c15
          have hn7 := not_end hend g1 e15 (by decide)
          refine g_aload_n C dX10_any_18 rfl ?_
          refine g_callV C (c_X10_nextT E h ad (upd (upd (upd (upd iv 7 (nI (us + C1.length))) 23 wr) 24 wa) 26 (nI 2)) n cn j1 en ks ps t (tkT (ks j1)) (ps j1) vl1 (by omega) (hb) (hL) (hn7)) gX10_any_X10_next0 rfl 0 (by decide +kernel) ⟨by decide, by decide⟩ ⟨by decide, by decide⟩ 0 rfl rfl [0, 2] [1] (wr := [gA E (ad 15) 620 (cdW fr us (C1.map trJ))]) rfl (by decide) rfl (by decide) (by decide) rfl rfl (Nat.le_of_ble_eq_true rfl) dX10_any_19 ?_
          rintro _ _ ⟨vl2_19, rfl, rfl, hv_19⟩
          refine gg.perm (ws' := [gO h 10 (tF ad (upd (upd (upd (upd (upd (upd (upd (upd (upd iv 7 (nI (us + C1.length))) 18 (nI n)) 19 (nI (en (j1 + 1)))) 20 (tkT (ks (j1 + 1)))) 21 (ps (j1 + 1))) 22 vl2_19) 23 wr) 24 wa) 26 (nI 2))), gA E (ad 15) 620 (cdW fr us (C1.map trJ)), gA E (ad 17) 600 t]) [1, 0, 2] (by decide) rfl ?_
          show gg E _ 1 X 0 0 22 [some (.ref h)] [] [gO h 10 (tF ad (upd (upd (upd (upd (upd (upd (upd (upd (upd iv 7 (nI (us + C1.length))) 18 (nI n)) 19 (nI (en (j1 + 1)))) 20 (tkT (ks (j1 + 1)))) 21 (ps (j1 + 1))) 22 vl2_19) 23 wr) 24 wa) 26 (nI 2))), gA E (ad 15) 620 (cdW fr us (C1.map trJ)), gA E (ad 17) 600 t]
          refine g_aload_n C dX10_any_22 rfl ?_
          refine g_callV C (c_X10_all_6 E h ad iv n cn (us + C1.length) (j1 + 1) en ks ps (cdW fr us (C1.map trJ)) t vl2_19 wr wa (by omega) (hb) (hL) (hK) (hend) (by omega) (by omega) (hv_19) (by omega)) gX10_any_X10_all rfl 0 (by decide +kernel) ⟨by decide, by decide⟩ ⟨by decide, by decide⟩ 0 rfl rfl [0, 1, 2] [] (wr := []) rfl (by decide) rfl (by decide) (by decide) rfl rfl (Nat.le_of_ble_eq_true rfl) dX10_any_23 ?_
          rintro _ _ ⟨ok_23, j_23, us2_23, fr2_23, vl2_23, wr2_23, wa2_23, dp2_23, rfl, rfl, hq_23, hv_23, hd_23⟩
          show gg E _ 1 X 0 0 26 [some (.ref h)] [.int (b2i ok_23)] [gO h 10 (tF ad (upd (upd (upd (upd (upd (upd (upd (upd (upd iv 7 (nI us2_23)) 18 (nI n)) 19 (nI (en j_23))) 20 (tkT (ks j_23))) 21 (ps j_23)) 22 vl2_23) 23 wr2_23) 24 wa2_23) 26 dp2_23)), gA E (ad 15) 620 fr2_23, gA E (ad 17) 600 t]
          rcases rdT_two hq_23 with ⟨C_23, hr_23, rfl, rfl, rfl, rfl, rfl, b1_23, b2_23, b3_23⟩ | ⟨kd_23, ix_23, hr_23, rfl, rfl, rfl, b1_23, b2_23, b3_23, b4_23⟩
          · obtain rfl := hd_23 rfl
            refine g_if_ne (tgt := 31) C dX10_any_26 (by decide) (fun c26 => ?_) (fun c26 => absurd c26 (by decide))
            refine g_aload_n C dX10_any_31 rfl ?_
            refine g_sipush (v := nI 2007) C dX10_any_32 (by decide) ?_
            refine g_callV C (c_X10_lay E h ad (upd (upd (upd (upd (upd (upd (upd (upd iv 18 (nI n)) 19 (nI (en j_23))) 20 (tkT (ks j_23))) 21 (ps j_23)) 22 vl2_23) 23 wr) 24 wa) 26 (nI 2)) (us + C1.length + C_23.length) (cdW (cdW fr us (C1.map trJ)) (us + C1.length) (C_23.map trJ)) (nI 2007) (by omega)) gX10_any_X10_lay rfl 1 (by decide +kernel) ⟨by decide, by decide⟩ ⟨by decide, by decide⟩ 0 rfl rfl [0, 1] [2] (wr := [gA E (ad 17) 600 t]) rfl (by decide) rfl (by decide) (by decide) rfl rfl (Nat.le_of_ble_eq_true rfl) dX10_any_35 ?_
            rintro _ _ ⟨rfl, rfl⟩
            refine gg.perm (ws' := [gO h 10 (tF ad (upd (upd (upd (upd (upd (upd (upd (upd (upd iv 7 (nI ((us + C1.length + C_23.length) + 1))) 18 (nI n)) 19 (nI (en j_23))) 20 (tkT (ks j_23))) 21 (ps j_23)) 22 vl2_23) 23 wr) 24 wa) 26 (nI 2))), gA E (ad 15) 620 (upd (cdW (cdW fr us (C1.map trJ)) (us + C1.length) (C_23.map trJ)) (us + C1.length + C_23.length) (nI 2007)), gA E (ad 17) 600 t]) [1, 2, 0] (by decide) rfl ?_
            show gg E _ 1 X 0 0 38 [some (.ref h)] [] [gO h 10 (tF ad (upd (upd (upd (upd (upd (upd (upd (upd (upd iv 7 (nI ((us + C1.length + C_23.length) + 1))) 18 (nI n)) 19 (nI (en j_23))) 20 (tkT (ks j_23))) 21 (ps j_23)) 22 vl2_23) 23 wr) 24 wa) 26 (nI 2))), gA E (ad 15) 620 (upd (cdW (cdW fr us (C1.map trJ)) (us + C1.length) (C_23.map trJ)) (us + C1.length + C_23.length) (nI 2007)), gA E (ad 17) 600 t]
            rw [ln3 us C1 C_23 (nI 1003), cd3T fr us C1 C_23 (nI 1003) (nI 2007) (by decide)]
            refine g_goto (tgt := 9) C dX10_any_38 (by decide) ?_
            exact ih9 (it + 1) j_23 (f1 - 1) (C1 ++ C_23 ++ [nI 1003]) vl2_23 (by omega) (by omega) (by omega) (by omega) (by have := ln3 us C1 C_23 (nI 1003); omega) (by rw [g5, show f1 = f1 - 1 + 1 by omega, lpO, if_pos e15, hr_23]; rfl) (hv_23)
          · refine g_if_ne (tgt := 31) C dX10_any_26 (by decide) (fun c26 => absurd c26 (by decide)) (fun c26 => ?_)
            refine g_iconst (v := nI 0) C dX10_any_29 (by decide) ?_
            exact g_zret C Rt dX10_any_30 (by decide) (by decide) (by decide) (⟨false, _, _, _, _, _, _, _, rfl, rfl, rdT_er (by rw [g5, show f1 = f1 - 1 + 1 by omega, lpO, if_pos e15, hr_23]) (by omega) b2_23 (by omega) b4_23, hv_23, fun z => absurd z (by decide)⟩)
    exact L9 _ 0 j_1 601 C_1 vl2_1 (Nat.lt_succ_self _) (by omega) (by omega) (by omega) (by omega) (by rw [pAny, hr_1]; rfl) (hv_1)
  · refine g_if_ne (tgt := 9) C dX10_any_4 (by decide) (fun c4 => absurd c4 (by decide)) (fun c4 => ?_)
    refine g_iconst (v := nI 0) C dX10_any_7 (by decide) ?_
    exact g_zret C Rt dX10_any_8 (by decide) (by decide) (by decide) (⟨false, _, _, _, _, _, _, _, rfl, rfl, rdT_er (by rw [pAny, hr_1]; rfl) b1_1 b2_1 b3_1 b4_1, hv_1, fun z => absurd z (by decide)⟩)

abbrev rm_c_X10_one_7 : Room := { frames := 26, cells := 0, slots := 0, locals := 534 }
set_option maxHeartbeats 4000000 in
set_option maxRecDepth 100000 in
theorem c_X10_one_7 (E : gE) (h : Nat) (ad : Nat → Nat) (iv : Nat → Int32) (n cn us i : Nat) (en : Nat → Nat) (ks ps fr t : Nat → Int32) (vl wr wa : Int32) (hn : n ≤ 600) (hb : okY t n) (hL : twL t n cn ks ps en) (hK : ∀ q, q < cn → tkC (ks q)) (hend : ks (cn - 1) = nI 1011) (hcn : cn ≤ 601) (hi : i < cn) (hv : ¬ nI 999 < ks i → vl = ks i) (hus : us ≤ i) : MM E yX10_one wsX10_one rm_c_X10_one_7 [.ref h] [gO h 10 (tF ad (upd (upd (upd (upd (upd (upd (upd (upd (upd iv 7 (nI us)) 18 (nI n)) 19 (nI (en i))) 20 (tkT (ks i))) 21 (ps i)) 22 vl) 23 wr) 24 wa) 26 (nI 1))), gA E (ad 15) 620 fr, gA E (ad 17) 600 t] (fun rv_ ru_ => ∃ (ok : Bool) (j us2 : Nat) (fr2 : Nat → Int32) (vl2 wr2 wa2 dp2 : Int32), rv_ = some (.int (b2i ok)) ∧ ru_ = [gO h 10 (tF ad (upd (upd (upd (upd (upd (upd (upd (upd (upd iv 7 (nI us2)) 18 (nI n)) 19 (nI (en j))) 20 (tkT (ks j))) 21 (ps j)) 22 vl2) 23 wr2) 24 wa2) 26 dp2)), gA E (ad 15) 620 fr2, gA E (ad 17) 600 t] ∧ (rdQ (trR (pLv ks 7 i)) ps cn i us fr wr wa ok j us2 fr2 wr2 wa2) ∧ (¬ nI 999 < ks j → vl2 = ks j) ∧ (ok = true → dp2 = nI 1)) := by
  refine MM.ofG (cc := cX10_one) (maxL := 2) (ret := (some .boolean)) (by decide) rfl (Nat.le_of_ble_eq_true rfl) (ll := [some (.ref h), none]) rfl ?_
  intro X C Rt
  have C : gx E X cX10_one 2 wsX10_one RX10 := C
  have i_X10 : ∀ w ∈ u_ws RX10 TX10 40, w ∈ wsX10_one := by decide +kernel
  have f_154 : Cond.fieldLink RX10 154 "MarkPagesModel" "token" "I" ∈ wsX10_one := by decide +kernel
  have f_188 : Cond.fieldLink RX10 188 "MarkPagesModel" "depth" "I" ∈ wsX10_one := by decide +kernel
  refine g_aload_n C dX10_one_0 rfl ?_
  refine g_get C i_X10 0 20 f_154 rfl rfl (by decide) rfl rfl dX10_one_1 ?_
  refine g_bipush (v := nI 8) C dX10_one_4 (by decide) ?_
  refine g_icmp_ne (tgt := 44) C dX10_one_6 (by decide) (fun c6 => ?_) (fun c6 => ?_)
  · have n5 := fun z => c6 ((tq8 (hK i hi)).mpr z)
    refine g_aload_n C dX10_one_44 rfl ?_
    refine g_get C i_X10 0 20 f_154 rfl rfl (by decide) rfl rfl dX10_one_45 ?_
    refine g_bipush (v := nI 40) C dX10_one_48 (by decide) ?_
    refine g_icmp_ne (tgt := 90) C dX10_one_50 (by decide) (fun c50 => ?_) (fun c50 => ?_)
    · have n40 := fun z => c50 ((tq40 (hK i hi)).mpr z)
      refine g_aload_n C dX10_one_90 rfl ?_
      refine g_callV C (c_X10_sum E h ad (upd iv 26 (nI 1)) n cn us i en ks ps fr t vl wr wa (by omega) (hb) (hL) (hK) (hend) (by omega) (by omega) (hv) (by omega)) gX10_one_X10_sum rfl 0 (by decide +kernel) ⟨by decide, by decide⟩ ⟨by decide, by decide⟩ 0 rfl rfl [0, 1, 2] [] (wr := []) rfl (by decide) rfl (by decide) (by decide) rfl rfl (Nat.le_of_ble_eq_true rfl) dX10_one_91 ?_
      rintro _ _ ⟨ok_91, j_91, us2_91, fr2_91, vl2_91, wr2_91, wa2_91, rfl, rfl, hq_91, hv_91⟩
      show gg E _ 2 X 0 0 94 [some (.ref h), none] [.int (b2i ok_91)] [gO h 10 (tF ad (upd (upd (upd (upd (upd (upd (upd (upd (upd iv 7 (nI us2_91)) 18 (nI n)) 19 (nI (en j_91))) 20 (tkT (ks j_91))) 21 (ps j_91)) 22 vl2_91) 23 wr2_91) 24 wa2_91) 26 (nI 1))), gA E (ad 15) 620 fr2_91, gA E (ad 17) 600 t]
      rcases rdT_two hq_91 with ⟨C_91, hr_91, rfl, rfl, rfl, rfl, rfl, b1_91, b2_91, b3_91⟩ | ⟨kd_91, ix_91, hr_91, rfl, rfl, rfl, b1_91, b2_91, b3_91, b4_91⟩
      · refine g_if_ne (tgt := 99) C dX10_one_94 (by decide) (fun c94 => ?_) (fun c94 => absurd c94 (by decide))
        refine g_aload_n C dX10_one_99 rfl ?_
        refine g_get C i_X10 0 20 f_154 rfl rfl (by decide) rfl rfl dX10_one_100 ?_
        refine g_bipush (v := nI 60) C dX10_one_103 (by decide) ?_
        refine g_icmp_ne (tgt := 114) C dX10_one_105 (by decide) (fun c105 => ?_) (fun c105 => ?_)
        · have n60 := fun z => c105 ((tq60 (hK _ b2_91)).mpr z)
          refine g_aload_n C dX10_one_114 rfl ?_
          refine g_get C i_X10 0 20 f_154 rfl rfl (by decide) rfl rfl dX10_one_115 ?_
          refine g_bipush (v := nI 61) C dX10_one_118 (by decide) ?_
          refine g_icmp_ne (tgt := 129) C dX10_one_120 (by decide) (fun c120 => ?_) (fun c120 => ?_)
          · have n61 := fun z => c120 ((tq61 (hK _ b2_91)).mpr z)
            refine g_aload_n C dX10_one_129 rfl ?_
            refine g_get C i_X10 0 20 f_154 rfl rfl (by decide) rfl rfl dX10_one_130 ?_
            refine g_bipush (v := nI 62) C dX10_one_133 (by decide) ?_
            refine g_icmp_ne (tgt := 144) C dX10_one_135 (by decide) (fun c135 => ?_) (fun c135 => ?_)
            · have n62 := fun z => c135 ((tq62 (hK _ b2_91)).mpr z)
              refine g_iconst (v := -1) C dX10_one_144 (by decide) ?_
              refine g_istore_n C dX10_one_145 (by decide) rfl (ll' := [some (.ref h), some (.int (-1))]) rfl ?_
              refine g_iload_n C dX10_one_146 rfl ?_
              refine g_iconst (v := -1) C dX10_one_147 (by decide) ?_
              refine g_icmp_ne (tgt := 157) C dX10_one_148 (by decide) (fun c148 => absurd c148 (by decide)) (fun c148 => ?_)
              refine g_aload_n C dX10_one_151 rfl ?_
              refine g_iconst (v := nI 1) C dX10_one_152 (by decide) ?_
              refine g_callV C (c_X10_bad E h ad (upd (upd (upd (upd (upd (upd iv 7 (nI (us + C_91.length))) 18 (nI n)) 19 (nI (en j_91))) 20 (tkT (ks j_91))) 22 vl2_91) 26 (nI 1)) 1 (ps j_91) wr wa ) gX10_one_X10_bad rfl 1 (by decide +kernel) ⟨by decide, by decide⟩ ⟨by decide, by decide⟩ 0 rfl rfl [0] [1, 2] (wr := [gA E (ad 15) 620 (cdW fr us (C_91.map trJ)), gA E (ad 17) 600 t]) rfl (by decide) rfl (by decide) (by decide) rfl rfl (Nat.le_of_ble_eq_true rfl) dX10_one_153 ?_
              rintro _ _ ⟨rfl, rfl⟩
              refine gg.perm (ws' := [gO h 10 (tF ad (upd (upd (upd (upd (upd (upd (upd (upd (upd iv 7 (nI (us + C_91.length))) 18 (nI n)) 19 (nI (en j_91))) 20 (tkT (ks j_91))) 21 (ps j_91)) 22 vl2_91) 23 (nI 1)) 24 (ps j_91)) 26 (nI 1))), gA E (ad 15) 620 (cdW fr us (C_91.map trJ)), gA E (ad 17) 600 t]) [2, 0, 1] (by decide) rfl ?_
              show gg E _ 2 X 0 0 156 [some (.ref h), some (.int (-1))] [.int (nI 0)] [gO h 10 (tF ad (upd (upd (upd (upd (upd (upd (upd (upd (upd iv 7 (nI (us + C_91.length))) 18 (nI n)) 19 (nI (en j_91))) 20 (tkT (ks j_91))) 21 (ps j_91)) 22 vl2_91) 23 (nI 1)) 24 (ps j_91)) 26 (nI 1))), gA E (ad 15) 620 (cdW fr us (C_91.map trJ)), gA E (ad 17) 600 t]
              exact g_zret C Rt dX10_one_156 (by decide) (by decide) (by decide) (⟨false, _, _, _, _, _, _, _, rfl, rfl, rdT_er (by rw [pLv, if_neg (fun z => z.elim n5 n40), pCmp, hr_91]; exact if_neg (fun z => z.elim n60 (fun z => z.elim n61 n62))) (b1_91) (b2_91) (b3_91) (b2_91), hv_91, fun z => absurd z (by decide)⟩)
            · have e62 := (tq62 (hK _ b2_91)).mp c135
              refine g_sipush (v := nI 2004) C dX10_one_138 (by decide) ?_
              refine g_goto (tgt := 145) C dX10_one_141 (by decide) ?_
              refine g_istore_n C dX10_one_145 (by decide) rfl (ll' := [some (.ref h), some (.int (nI 2004))]) rfl ?_
              refine g_iload_n C dX10_one_146 rfl ?_
              refine g_iconst (v := -1) C dX10_one_147 (by decide) ?_
              refine g_icmp_ne (tgt := 157) C dX10_one_148 (by decide) (fun c148 => ?_) (fun c148 => absurd c148 (by decide))
              have hn7 := not_end hend b2_91 e62 (by decide)
              refine g_aload_n C dX10_one_157 rfl ?_
              refine g_callV C (c_X10_nextT E h ad (upd (upd (upd (upd iv 7 (nI (us + C_91.length))) 23 wr) 24 wa) 26 (nI 1)) n cn j_91 en ks ps t (tkT (ks j_91)) (ps j_91) vl2_91 (by omega) (hb) (hL) (hn7)) gX10_one_X10_next0 rfl 0 (by decide +kernel) ⟨by decide, by decide⟩ ⟨by decide, by decide⟩ 0 rfl rfl [0, 2] [1] (wr := [gA E (ad 15) 620 (cdW fr us (C_91.map trJ))]) rfl (by decide) rfl (by decide) (by decide) rfl rfl (Nat.le_of_ble_eq_true rfl) dX10_one_158 ?_
              rintro _ _ ⟨vl2_158, rfl, rfl, hv_158⟩
              refine gg.perm (ws' := [gO h 10 (tF ad (upd (upd (upd (upd (upd (upd (upd (upd (upd iv 7 (nI (us + C_91.length))) 18 (nI n)) 19 (nI (en (j_91 + 1)))) 20 (tkT (ks (j_91 + 1)))) 21 (ps (j_91 + 1))) 22 vl2_158) 23 wr) 24 wa) 26 (nI 1))), gA E (ad 15) 620 (cdW fr us (C_91.map trJ)), gA E (ad 17) 600 t]) [1, 0, 2] (by decide) rfl ?_
              show gg E _ 2 X 0 0 161 [some (.ref h), some (.int (nI 2004))] [] [gO h 10 (tF ad (upd (upd (upd (upd (upd (upd (upd (upd (upd iv 7 (nI (us + C_91.length))) 18 (nI n)) 19 (nI (en (j_91 + 1)))) 20 (tkT (ks (j_91 + 1)))) 21 (ps (j_91 + 1))) 22 vl2_158) 23 wr) 24 wa) 26 (nI 1))), gA E (ad 15) 620 (cdW fr us (C_91.map trJ)), gA E (ad 17) 600 t]
              refine g_aload_n C dX10_one_161 rfl ?_
              refine g_callV C (c_X10_sum E h ad (upd iv 26 (nI 1)) n cn (us + C_91.length) (j_91 + 1) en ks ps (cdW fr us (C_91.map trJ)) t vl2_158 wr wa (by omega) (hb) (hL) (hK) (hend) (by omega) (by omega) (hv_158) (by omega)) gX10_one_X10_sum rfl 0 (by decide +kernel) ⟨by decide, by decide⟩ ⟨by decide, by decide⟩ 0 rfl rfl [0, 1, 2] [] (wr := []) rfl (by decide) rfl (by decide) (by decide) rfl rfl (Nat.le_of_ble_eq_true rfl) dX10_one_162 ?_
              rintro _ _ ⟨ok_162, j_162, us2_162, fr2_162, vl2_162, wr2_162, wa2_162, rfl, rfl, hq_162, hv_162⟩
              show gg E _ 2 X 0 0 165 [some (.ref h), some (.int (nI 2004))] [.int (b2i ok_162)] [gO h 10 (tF ad (upd (upd (upd (upd (upd (upd (upd (upd (upd iv 7 (nI us2_162)) 18 (nI n)) 19 (nI (en j_162))) 20 (tkT (ks j_162))) 21 (ps j_162)) 22 vl2_162) 23 wr2_162) 24 wa2_162) 26 (nI 1))), gA E (ad 15) 620 fr2_162, gA E (ad 17) 600 t]
              rcases rdT_two hq_162 with ⟨C_162, hr_162, rfl, rfl, rfl, rfl, rfl, b1_162, b2_162, b3_162⟩ | ⟨kd_162, ix_162, hr_162, rfl, rfl, rfl, b1_162, b2_162, b3_162, b4_162⟩
              · refine g_if_ne (tgt := 170) C dX10_one_165 (by decide) (fun c165 => ?_) (fun c165 => absurd c165 (by decide))
                refine g_aload_n C dX10_one_170 rfl ?_
                refine g_iload_n C dX10_one_171 rfl ?_
                refine g_callV C (c_X10_lay E h ad (upd (upd (upd (upd (upd (upd (upd (upd iv 18 (nI n)) 19 (nI (en j_162))) 20 (tkT (ks j_162))) 21 (ps j_162)) 22 vl2_162) 23 wr) 24 wa) 26 (nI 1)) (us + C_91.length + C_162.length) (cdW (cdW fr us (C_91.map trJ)) (us + C_91.length) (C_162.map trJ)) (nI 2004) (by omega)) gX10_one_X10_lay rfl 1 (by decide +kernel) ⟨by decide, by decide⟩ ⟨by decide, by decide⟩ 0 rfl rfl [0, 1] [2] (wr := [gA E (ad 17) 600 t]) rfl (by decide) rfl (by decide) (by decide) rfl rfl (Nat.le_of_ble_eq_true rfl) dX10_one_172 ?_
                rintro _ _ ⟨rfl, rfl⟩
                refine gg.perm (ws' := [gO h 10 (tF ad (upd (upd (upd (upd (upd (upd (upd (upd (upd iv 7 (nI ((us + C_91.length + C_162.length) + 1))) 18 (nI n)) 19 (nI (en j_162))) 20 (tkT (ks j_162))) 21 (ps j_162)) 22 vl2_162) 23 wr) 24 wa) 26 (nI 1))), gA E (ad 15) 620 (upd (cdW (cdW fr us (C_91.map trJ)) (us + C_91.length) (C_162.map trJ)) (us + C_91.length + C_162.length) (nI 2004)), gA E (ad 17) 600 t]) [1, 2, 0] (by decide) rfl ?_
                show gg E _ 2 X 0 0 175 [some (.ref h), some (.int (nI 2004))] [] [gO h 10 (tF ad (upd (upd (upd (upd (upd (upd (upd (upd (upd iv 7 (nI ((us + C_91.length + C_162.length) + 1))) 18 (nI n)) 19 (nI (en j_162))) 20 (tkT (ks j_162))) 21 (ps j_162)) 22 vl2_162) 23 wr) 24 wa) 26 (nI 1))), gA E (ad 15) 620 (upd (cdW (cdW fr us (C_91.map trJ)) (us + C_91.length) (C_162.map trJ)) (us + C_91.length + C_162.length) (nI 2004)), gA E (ad 17) 600 t]
                refine g_iconst (v := nI 1) C dX10_one_175 (by decide) ?_
                exact g_zret C Rt dX10_one_176 (by decide) (by decide) (by decide) (⟨true, _, _, _, _, _, _, _, rfl, rfl, rdT_ok (by rw [pLv, if_neg (fun z => z.elim n5 n40), pCmp, hr_91]; exact (if_pos (Or.inr (Or.inr e62))).trans (by rw [pCmp2, hr_162])) (by omega) b2_162 (by omega) (ln3 _ _ _ _) (cd3T _ _ _ _ _ _ (by rw [e62]; decide)), hv_162, fun _ => rfl⟩)
              · refine g_if_ne (tgt := 170) C dX10_one_165 (by decide) (fun c165 => absurd c165 (by decide)) (fun c165 => ?_)
                refine g_iconst (v := nI 0) C dX10_one_168 (by decide) ?_
                exact g_zret C Rt dX10_one_169 (by decide) (by decide) (by decide) (⟨false, _, _, _, _, _, _, _, rfl, rfl, rdT_er (by rw [pLv, if_neg (fun z => z.elim n5 n40), pCmp, hr_91]; exact (if_pos (Or.inr (Or.inr e62))).trans (by rw [pCmp2, hr_162])) (by omega) (b2_162) (by omega) (b4_162), hv_162, fun z => absurd z (by decide)⟩)
          · have e61 := (tq61 (hK _ b2_91)).mp c120
            refine g_sipush (v := nI 2003) C dX10_one_123 (by decide) ?_
            refine g_goto (tgt := 145) C dX10_one_126 (by decide) ?_
            refine g_istore_n C dX10_one_145 (by decide) rfl (ll' := [some (.ref h), some (.int (nI 2003))]) rfl ?_
            refine g_iload_n C dX10_one_146 rfl ?_
            refine g_iconst (v := -1) C dX10_one_147 (by decide) ?_
            refine g_icmp_ne (tgt := 157) C dX10_one_148 (by decide) (fun c148 => ?_) (fun c148 => absurd c148 (by decide))
            have hn7 := not_end hend b2_91 e61 (by decide)
            refine g_aload_n C dX10_one_157 rfl ?_
            refine g_callV C (c_X10_nextT E h ad (upd (upd (upd (upd iv 7 (nI (us + C_91.length))) 23 wr) 24 wa) 26 (nI 1)) n cn j_91 en ks ps t (tkT (ks j_91)) (ps j_91) vl2_91 (by omega) (hb) (hL) (hn7)) gX10_one_X10_next0 rfl 0 (by decide +kernel) ⟨by decide, by decide⟩ ⟨by decide, by decide⟩ 0 rfl rfl [0, 2] [1] (wr := [gA E (ad 15) 620 (cdW fr us (C_91.map trJ))]) rfl (by decide) rfl (by decide) (by decide) rfl rfl (Nat.le_of_ble_eq_true rfl) dX10_one_158 ?_
            rintro _ _ ⟨vl2_158, rfl, rfl, hv_158⟩
            refine gg.perm (ws' := [gO h 10 (tF ad (upd (upd (upd (upd (upd (upd (upd (upd (upd iv 7 (nI (us + C_91.length))) 18 (nI n)) 19 (nI (en (j_91 + 1)))) 20 (tkT (ks (j_91 + 1)))) 21 (ps (j_91 + 1))) 22 vl2_158) 23 wr) 24 wa) 26 (nI 1))), gA E (ad 15) 620 (cdW fr us (C_91.map trJ)), gA E (ad 17) 600 t]) [1, 0, 2] (by decide) rfl ?_
            show gg E _ 2 X 0 0 161 [some (.ref h), some (.int (nI 2003))] [] [gO h 10 (tF ad (upd (upd (upd (upd (upd (upd (upd (upd (upd iv 7 (nI (us + C_91.length))) 18 (nI n)) 19 (nI (en (j_91 + 1)))) 20 (tkT (ks (j_91 + 1)))) 21 (ps (j_91 + 1))) 22 vl2_158) 23 wr) 24 wa) 26 (nI 1))), gA E (ad 15) 620 (cdW fr us (C_91.map trJ)), gA E (ad 17) 600 t]
            refine g_aload_n C dX10_one_161 rfl ?_
            refine g_callV C (c_X10_sum E h ad (upd iv 26 (nI 1)) n cn (us + C_91.length) (j_91 + 1) en ks ps (cdW fr us (C_91.map trJ)) t vl2_158 wr wa (by omega) (hb) (hL) (hK) (hend) (by omega) (by omega) (hv_158) (by omega)) gX10_one_X10_sum rfl 0 (by decide +kernel) ⟨by decide, by decide⟩ ⟨by decide, by decide⟩ 0 rfl rfl [0, 1, 2] [] (wr := []) rfl (by decide) rfl (by decide) (by decide) rfl rfl (Nat.le_of_ble_eq_true rfl) dX10_one_162 ?_
            rintro _ _ ⟨ok_162, j_162, us2_162, fr2_162, vl2_162, wr2_162, wa2_162, rfl, rfl, hq_162, hv_162⟩
            show gg E _ 2 X 0 0 165 [some (.ref h), some (.int (nI 2003))] [.int (b2i ok_162)] [gO h 10 (tF ad (upd (upd (upd (upd (upd (upd (upd (upd (upd iv 7 (nI us2_162)) 18 (nI n)) 19 (nI (en j_162))) 20 (tkT (ks j_162))) 21 (ps j_162)) 22 vl2_162) 23 wr2_162) 24 wa2_162) 26 (nI 1))), gA E (ad 15) 620 fr2_162, gA E (ad 17) 600 t]
            rcases rdT_two hq_162 with ⟨C_162, hr_162, rfl, rfl, rfl, rfl, rfl, b1_162, b2_162, b3_162⟩ | ⟨kd_162, ix_162, hr_162, rfl, rfl, rfl, b1_162, b2_162, b3_162, b4_162⟩
            · refine g_if_ne (tgt := 170) C dX10_one_165 (by decide) (fun c165 => ?_) (fun c165 => absurd c165 (by decide))
              refine g_aload_n C dX10_one_170 rfl ?_
              refine g_iload_n C dX10_one_171 rfl ?_
              refine g_callV C (c_X10_lay E h ad (upd (upd (upd (upd (upd (upd (upd (upd iv 18 (nI n)) 19 (nI (en j_162))) 20 (tkT (ks j_162))) 21 (ps j_162)) 22 vl2_162) 23 wr) 24 wa) 26 (nI 1)) (us + C_91.length + C_162.length) (cdW (cdW fr us (C_91.map trJ)) (us + C_91.length) (C_162.map trJ)) (nI 2003) (by omega)) gX10_one_X10_lay rfl 1 (by decide +kernel) ⟨by decide, by decide⟩ ⟨by decide, by decide⟩ 0 rfl rfl [0, 1] [2] (wr := [gA E (ad 17) 600 t]) rfl (by decide) rfl (by decide) (by decide) rfl rfl (Nat.le_of_ble_eq_true rfl) dX10_one_172 ?_
              rintro _ _ ⟨rfl, rfl⟩
              refine gg.perm (ws' := [gO h 10 (tF ad (upd (upd (upd (upd (upd (upd (upd (upd (upd iv 7 (nI ((us + C_91.length + C_162.length) + 1))) 18 (nI n)) 19 (nI (en j_162))) 20 (tkT (ks j_162))) 21 (ps j_162)) 22 vl2_162) 23 wr) 24 wa) 26 (nI 1))), gA E (ad 15) 620 (upd (cdW (cdW fr us (C_91.map trJ)) (us + C_91.length) (C_162.map trJ)) (us + C_91.length + C_162.length) (nI 2003)), gA E (ad 17) 600 t]) [1, 2, 0] (by decide) rfl ?_
              show gg E _ 2 X 0 0 175 [some (.ref h), some (.int (nI 2003))] [] [gO h 10 (tF ad (upd (upd (upd (upd (upd (upd (upd (upd (upd iv 7 (nI ((us + C_91.length + C_162.length) + 1))) 18 (nI n)) 19 (nI (en j_162))) 20 (tkT (ks j_162))) 21 (ps j_162)) 22 vl2_162) 23 wr) 24 wa) 26 (nI 1))), gA E (ad 15) 620 (upd (cdW (cdW fr us (C_91.map trJ)) (us + C_91.length) (C_162.map trJ)) (us + C_91.length + C_162.length) (nI 2003)), gA E (ad 17) 600 t]
              refine g_iconst (v := nI 1) C dX10_one_175 (by decide) ?_
              exact g_zret C Rt dX10_one_176 (by decide) (by decide) (by decide) (⟨true, _, _, _, _, _, _, _, rfl, rfl, rdT_ok (by rw [pLv, if_neg (fun z => z.elim n5 n40), pCmp, hr_91]; exact (if_pos (Or.inr (Or.inl e61))).trans (by rw [pCmp2, hr_162])) (by omega) b2_162 (by omega) (ln3 _ _ _ _) (cd3T _ _ _ _ _ _ (by rw [e61]; decide)), hv_162, fun _ => rfl⟩)
            · refine g_if_ne (tgt := 170) C dX10_one_165 (by decide) (fun c165 => absurd c165 (by decide)) (fun c165 => ?_)
              refine g_iconst (v := nI 0) C dX10_one_168 (by decide) ?_
              exact g_zret C Rt dX10_one_169 (by decide) (by decide) (by decide) (⟨false, _, _, _, _, _, _, _, rfl, rfl, rdT_er (by rw [pLv, if_neg (fun z => z.elim n5 n40), pCmp, hr_91]; exact (if_pos (Or.inr (Or.inl e61))).trans (by rw [pCmp2, hr_162])) (by omega) (b2_162) (by omega) (b4_162), hv_162, fun z => absurd z (by decide)⟩)
        · have e60 := (tq60 (hK _ b2_91)).mp c105
          refine g_sipush (v := nI 2002) C dX10_one_108 (by decide) ?_
          refine g_goto (tgt := 145) C dX10_one_111 (by decide) ?_
          refine g_istore_n C dX10_one_145 (by decide) rfl (ll' := [some (.ref h), some (.int (nI 2002))]) rfl ?_
          refine g_iload_n C dX10_one_146 rfl ?_
          refine g_iconst (v := -1) C dX10_one_147 (by decide) ?_
          refine g_icmp_ne (tgt := 157) C dX10_one_148 (by decide) (fun c148 => ?_) (fun c148 => absurd c148 (by decide))
          have hn7 := not_end hend b2_91 e60 (by decide)
          refine g_aload_n C dX10_one_157 rfl ?_
          refine g_callV C (c_X10_nextT E h ad (upd (upd (upd (upd iv 7 (nI (us + C_91.length))) 23 wr) 24 wa) 26 (nI 1)) n cn j_91 en ks ps t (tkT (ks j_91)) (ps j_91) vl2_91 (by omega) (hb) (hL) (hn7)) gX10_one_X10_next0 rfl 0 (by decide +kernel) ⟨by decide, by decide⟩ ⟨by decide, by decide⟩ 0 rfl rfl [0, 2] [1] (wr := [gA E (ad 15) 620 (cdW fr us (C_91.map trJ))]) rfl (by decide) rfl (by decide) (by decide) rfl rfl (Nat.le_of_ble_eq_true rfl) dX10_one_158 ?_
          rintro _ _ ⟨vl2_158, rfl, rfl, hv_158⟩
          refine gg.perm (ws' := [gO h 10 (tF ad (upd (upd (upd (upd (upd (upd (upd (upd (upd iv 7 (nI (us + C_91.length))) 18 (nI n)) 19 (nI (en (j_91 + 1)))) 20 (tkT (ks (j_91 + 1)))) 21 (ps (j_91 + 1))) 22 vl2_158) 23 wr) 24 wa) 26 (nI 1))), gA E (ad 15) 620 (cdW fr us (C_91.map trJ)), gA E (ad 17) 600 t]) [1, 0, 2] (by decide) rfl ?_
          show gg E _ 2 X 0 0 161 [some (.ref h), some (.int (nI 2002))] [] [gO h 10 (tF ad (upd (upd (upd (upd (upd (upd (upd (upd (upd iv 7 (nI (us + C_91.length))) 18 (nI n)) 19 (nI (en (j_91 + 1)))) 20 (tkT (ks (j_91 + 1)))) 21 (ps (j_91 + 1))) 22 vl2_158) 23 wr) 24 wa) 26 (nI 1))), gA E (ad 15) 620 (cdW fr us (C_91.map trJ)), gA E (ad 17) 600 t]
          refine g_aload_n C dX10_one_161 rfl ?_
          refine g_callV C (c_X10_sum E h ad (upd iv 26 (nI 1)) n cn (us + C_91.length) (j_91 + 1) en ks ps (cdW fr us (C_91.map trJ)) t vl2_158 wr wa (by omega) (hb) (hL) (hK) (hend) (by omega) (by omega) (hv_158) (by omega)) gX10_one_X10_sum rfl 0 (by decide +kernel) ⟨by decide, by decide⟩ ⟨by decide, by decide⟩ 0 rfl rfl [0, 1, 2] [] (wr := []) rfl (by decide) rfl (by decide) (by decide) rfl rfl (Nat.le_of_ble_eq_true rfl) dX10_one_162 ?_
          rintro _ _ ⟨ok_162, j_162, us2_162, fr2_162, vl2_162, wr2_162, wa2_162, rfl, rfl, hq_162, hv_162⟩
          show gg E _ 2 X 0 0 165 [some (.ref h), some (.int (nI 2002))] [.int (b2i ok_162)] [gO h 10 (tF ad (upd (upd (upd (upd (upd (upd (upd (upd (upd iv 7 (nI us2_162)) 18 (nI n)) 19 (nI (en j_162))) 20 (tkT (ks j_162))) 21 (ps j_162)) 22 vl2_162) 23 wr2_162) 24 wa2_162) 26 (nI 1))), gA E (ad 15) 620 fr2_162, gA E (ad 17) 600 t]
          rcases rdT_two hq_162 with ⟨C_162, hr_162, rfl, rfl, rfl, rfl, rfl, b1_162, b2_162, b3_162⟩ | ⟨kd_162, ix_162, hr_162, rfl, rfl, rfl, b1_162, b2_162, b3_162, b4_162⟩
          · refine g_if_ne (tgt := 170) C dX10_one_165 (by decide) (fun c165 => ?_) (fun c165 => absurd c165 (by decide))
            refine g_aload_n C dX10_one_170 rfl ?_
            refine g_iload_n C dX10_one_171 rfl ?_
            refine g_callV C (c_X10_lay E h ad (upd (upd (upd (upd (upd (upd (upd (upd iv 18 (nI n)) 19 (nI (en j_162))) 20 (tkT (ks j_162))) 21 (ps j_162)) 22 vl2_162) 23 wr) 24 wa) 26 (nI 1)) (us + C_91.length + C_162.length) (cdW (cdW fr us (C_91.map trJ)) (us + C_91.length) (C_162.map trJ)) (nI 2002) (by omega)) gX10_one_X10_lay rfl 1 (by decide +kernel) ⟨by decide, by decide⟩ ⟨by decide, by decide⟩ 0 rfl rfl [0, 1] [2] (wr := [gA E (ad 17) 600 t]) rfl (by decide) rfl (by decide) (by decide) rfl rfl (Nat.le_of_ble_eq_true rfl) dX10_one_172 ?_
            rintro _ _ ⟨rfl, rfl⟩
            refine gg.perm (ws' := [gO h 10 (tF ad (upd (upd (upd (upd (upd (upd (upd (upd (upd iv 7 (nI ((us + C_91.length + C_162.length) + 1))) 18 (nI n)) 19 (nI (en j_162))) 20 (tkT (ks j_162))) 21 (ps j_162)) 22 vl2_162) 23 wr) 24 wa) 26 (nI 1))), gA E (ad 15) 620 (upd (cdW (cdW fr us (C_91.map trJ)) (us + C_91.length) (C_162.map trJ)) (us + C_91.length + C_162.length) (nI 2002)), gA E (ad 17) 600 t]) [1, 2, 0] (by decide) rfl ?_
            show gg E _ 2 X 0 0 175 [some (.ref h), some (.int (nI 2002))] [] [gO h 10 (tF ad (upd (upd (upd (upd (upd (upd (upd (upd (upd iv 7 (nI ((us + C_91.length + C_162.length) + 1))) 18 (nI n)) 19 (nI (en j_162))) 20 (tkT (ks j_162))) 21 (ps j_162)) 22 vl2_162) 23 wr) 24 wa) 26 (nI 1))), gA E (ad 15) 620 (upd (cdW (cdW fr us (C_91.map trJ)) (us + C_91.length) (C_162.map trJ)) (us + C_91.length + C_162.length) (nI 2002)), gA E (ad 17) 600 t]
            refine g_iconst (v := nI 1) C dX10_one_175 (by decide) ?_
            exact g_zret C Rt dX10_one_176 (by decide) (by decide) (by decide) (⟨true, _, _, _, _, _, _, _, rfl, rfl, rdT_ok (by rw [pLv, if_neg (fun z => z.elim n5 n40), pCmp, hr_91]; exact (if_pos (Or.inl e60)).trans (by rw [pCmp2, hr_162])) (by omega) b2_162 (by omega) (ln3 _ _ _ _) (cd3T _ _ _ _ _ _ (by rw [e60]; decide)), hv_162, fun _ => rfl⟩)
          · refine g_if_ne (tgt := 170) C dX10_one_165 (by decide) (fun c165 => absurd c165 (by decide)) (fun c165 => ?_)
            refine g_iconst (v := nI 0) C dX10_one_168 (by decide) ?_
            exact g_zret C Rt dX10_one_169 (by decide) (by decide) (by decide) (⟨false, _, _, _, _, _, _, _, rfl, rfl, rdT_er (by rw [pLv, if_neg (fun z => z.elim n5 n40), pCmp, hr_91]; exact (if_pos (Or.inl e60)).trans (by rw [pCmp2, hr_162])) (by omega) (b2_162) (by omega) (b4_162), hv_162, fun z => absurd z (by decide)⟩)
      · refine g_if_ne (tgt := 99) C dX10_one_94 (by decide) (fun c94 => absurd c94 (by decide)) (fun c94 => ?_)
        refine g_iconst (v := nI 0) C dX10_one_97 (by decide) ?_
        exact g_zret C Rt dX10_one_98 (by decide) (by decide) (by decide) (⟨false, _, _, _, _, _, _, _, rfl, rfl, rdT_er (by rw [pLv, if_neg (fun z => z.elim n5 n40), pCmp, hr_91]) (by omega) (b2_91) (by omega) (b4_91), hv_91, fun z => absurd z (by decide)⟩)
    · have e40 := (tq40 (hK i hi)).mp c50
      have hn8 := not_end hend hi e40 (by decide)
      refine g_aload_n C dX10_one_53 rfl ?_
      refine g_callV C (c_X10_opens_1 E h ad (upd iv 7 (nI us)) n cn i en ks ps t vl wr wa (by omega) (hb) (hL) (hn8)) gX10_one_X10_opens rfl 0 (by decide +kernel) ⟨by decide, by decide⟩ ⟨by decide, by decide⟩ 0 rfl rfl [0, 2] [1] (wr := [gA E (ad 15) 620 fr]) rfl (by decide) rfl (by decide) (by decide) rfl rfl (Nat.le_of_ble_eq_true rfl) dX10_one_54 ?_
      rintro _ _ ⟨vl2_54, rfl, rfl, hv_54⟩
      refine gg.perm (ws' := [gO h 10 (tF ad (upd (upd (upd (upd (upd (upd (upd (upd (upd iv 7 (nI us)) 18 (nI n)) 19 (nI (en (i + 1)))) 20 (tkT (ks (i + 1)))) 21 (ps (i + 1))) 22 vl2_54) 23 wr) 24 wa) 26 (nI 2))), gA E (ad 15) 620 fr, gA E (ad 17) 600 t]) [1, 0, 2] (by decide) rfl ?_
      show gg E _ 2 X 0 0 57 [some (.ref h), none] [.int (nI 1)] [gO h 10 (tF ad (upd (upd (upd (upd (upd (upd (upd (upd (upd iv 7 (nI us)) 18 (nI n)) 19 (nI (en (i + 1)))) 20 (tkT (ks (i + 1)))) 21 (ps (i + 1))) 22 vl2_54) 23 wr) 24 wa) 26 (nI 2))), gA E (ad 15) 620 fr, gA E (ad 17) 600 t]
      refine g_if_eq (tgt := 76) C dX10_one_57 (by decide) (fun c57 => absurd c57 (by decide)) (fun c57 => ?_)
      refine g_aload_n C dX10_one_60 rfl ?_
      refine g_callV C (c_X10_any_6 E h ad iv n cn us (i + 1) en ks ps fr t vl2_54 wr wa (by omega) (hb) (hL) (hK) (hend) (by omega) (by omega) (hv_54) (by omega)) gX10_one_X10_any rfl 0 (by decide +kernel) ⟨by decide, by decide⟩ ⟨by decide, by decide⟩ 0 rfl rfl [0, 1, 2] [] (wr := []) rfl (by decide) rfl (by decide) (by decide) rfl rfl (Nat.le_of_ble_eq_true rfl) dX10_one_61 ?_
      rintro _ _ ⟨ok_61, j_61, us2_61, fr2_61, vl2_61, wr2_61, wa2_61, dp2_61, rfl, rfl, hq_61, hv_61, hd_61⟩
      show gg E _ 2 X 0 0 64 [some (.ref h), none] [.int (b2i ok_61)] [gO h 10 (tF ad (upd (upd (upd (upd (upd (upd (upd (upd (upd iv 7 (nI us2_61)) 18 (nI n)) 19 (nI (en j_61))) 20 (tkT (ks j_61))) 21 (ps j_61)) 22 vl2_61) 23 wr2_61) 24 wa2_61) 26 dp2_61)), gA E (ad 15) 620 fr2_61, gA E (ad 17) 600 t]
      rcases rdT_two hq_61 with ⟨C_61, hr_61, rfl, rfl, rfl, rfl, rfl, b1_61, b2_61, b3_61⟩ | ⟨kd_61, ix_61, hr_61, rfl, rfl, rfl, b1_61, b2_61, b3_61, b4_61⟩
      · obtain rfl := hd_61 rfl
        refine g_if_eq (tgt := 76) C dX10_one_64 (by decide) (fun c64 => absurd c64 (by decide)) (fun c64 => ?_)
        skip
        refine g_aload_n C dX10_one_67 rfl ?_
        rcases Classical.em (ks j_61 = nI 1141) with hx | hx
        · refine g_bipush (v := nI 41) C dX10_one_68 (by decide) ?_
          refine g_callV C (c_X10_need_y E h ad (upd (upd iv 7 (nI (us + C_61.length))) 26 (nI 2)) n cn j_61 41 en ks ps t vl2_61 wr wa (by omega) (hb) (hL) (not_end hend b2_61 hx (by decide)) ((tq41 (hK _ b2_61)).mpr hx)) gX10_one_X10_need rfl 1 (by decide +kernel) ⟨by decide, by decide⟩ ⟨by decide, by decide⟩ 0 rfl rfl [0, 2] [1] (wr := [gA E (ad 15) 620 (cdW fr us (C_61.map trJ))]) rfl (by decide) rfl (by decide) (by decide) rfl rfl (Nat.le_of_ble_eq_true rfl) dX10_one_70 ?_
          rintro _ _ ⟨vl2_70, rfl, rfl, hv_70⟩
          refine gg.perm (ws' := [gO h 10 (tF ad (upd (upd (upd (upd (upd (upd (upd (upd (upd iv 7 (nI (us + C_61.length))) 18 (nI n)) 19 (nI (en (j_61 + 1)))) 20 (tkT (ks (j_61 + 1)))) 21 (ps (j_61 + 1))) 22 vl2_70) 23 wr) 24 wa) 26 (nI 2))), gA E (ad 15) 620 (cdW fr us (C_61.map trJ)), gA E (ad 17) 600 t]) [1, 0, 2] (by decide) rfl ?_
          show gg E _ 2 X 0 0 73 [some (.ref h), none] [.int (nI 1)] [gO h 10 (tF ad (upd (upd (upd (upd (upd (upd (upd (upd (upd iv 7 (nI (us + C_61.length))) 18 (nI n)) 19 (nI (en (j_61 + 1)))) 20 (tkT (ks (j_61 + 1)))) 21 (ps (j_61 + 1))) 22 vl2_70) 23 wr) 24 wa) 26 (nI 2))), gA E (ad 15) 620 (cdW fr us (C_61.map trJ)), gA E (ad 17) 600 t]
          refine g_if_ne (tgt := 78) C dX10_one_73 (by decide) (fun c73 => ?_) (fun c73 => absurd c73 (by decide))
          have hn9 := not_end hend b2_61 hx (by decide)
          refine g_aload_n C dX10_one_78 rfl ?_
          refine g_dup C dX10_one_79 rfl ?_
          refine g_get C i_X10 0 26 f_188 rfl rfl (by decide) rfl rfl dX10_one_80 ?_
          show gg E _ 2 X 0 0 83 [some (.ref h), none] [.int (nI 2), .ref h] [gO h 10 (tF ad (upd (upd (upd (upd (upd (upd (upd (upd (upd iv 7 (nI (us + C_61.length))) 18 (nI n)) 19 (nI (en (j_61 + 1)))) 20 (tkT (ks (j_61 + 1)))) 21 (ps (j_61 + 1))) 22 vl2_70) 23 wr) 24 wa) 26 (nI 2))), gA E (ad 15) 620 (cdW fr us (C_61.map trJ)), gA E (ad 17) 600 t]
          refine g_iconst (v := nI 1) C dX10_one_83 (by decide) ?_
          refine g_isub C dX10_one_84 (g_top (x' := nI 1) (by decide) ?_)
          refine g_put C i_X10 tyX10 tyX10_ok nmX10 0 26 f_188 rfl rfl (by decide) rfl rfl rfl rfl rfl (Nat.le_of_ble_eq_true rfl) dX10_one_85 (ws' := [gO h 10 (tF ad (upd (upd (upd (upd (upd (upd (upd (upd (upd iv 7 (nI (us + C_61.length))) 18 (nI n)) 19 (nI (en (j_61 + 1)))) 20 (tkT (ks (j_61 + 1)))) 21 (ps (j_61 + 1))) 22 vl2_70) 23 wr) 24 wa) 26 (nI 1))), gA E (ad 15) 620 (cdW fr us (C_61.map trJ)), gA E (ad 17) 600 t]) rfl ?_
          refine g_iconst (v := nI 1) C dX10_one_88 (by decide) ?_
          exact g_zret C Rt dX10_one_89 (by decide) (by decide) (by decide) (⟨true, _, _, _, _, _, _, _, rfl, rfl, rdT_ok (by rw [pLv, if_pos (Or.inr e40), if_neg n5, hr_61]; exact if_pos hx) (by omega) hn9 (by omega) rfl rfl, hv_70, fun _ => rfl⟩)
        · refine g_bipush (v := nI 41) C dX10_one_68 (by decide) ?_
          refine g_callV C (c_X10_need_n E h ad (upd (upd iv 7 (nI (us + C_61.length))) 26 (nI 2)) n cn j_61 41 en ks ps t vl2_61 wr wa (fun z => hx ((tq41 (hK _ b2_61)).mp z))) gX10_one_X10_need rfl 1 (by decide +kernel) ⟨by decide, by decide⟩ ⟨by decide, by decide⟩ 0 rfl rfl [0, 2] [1] (wr := [gA E (ad 15) 620 (cdW fr us (C_61.map trJ))]) rfl (by decide) rfl (by decide) (by decide) rfl rfl (Nat.le_of_ble_eq_true rfl) dX10_one_70 ?_
          rintro _ _ ⟨rfl, rfl⟩
          refine gg.perm (ws' := [gO h 10 (tF ad (upd (upd (upd (upd (upd (upd (upd (upd (upd iv 7 (nI (us + C_61.length))) 18 (nI n)) 19 (nI (en j_61))) 20 (tkT (ks j_61))) 21 (ps j_61)) 22 vl2_61) 23 (nI 1)) 24 (ps j_61)) 26 (nI 2))), gA E (ad 15) 620 (cdW fr us (C_61.map trJ)), gA E (ad 17) 600 t]) [1, 0, 2] (by decide) rfl ?_
          show gg E _ 2 X 0 0 73 [some (.ref h), none] [.int (nI 0)] [gO h 10 (tF ad (upd (upd (upd (upd (upd (upd (upd (upd (upd iv 7 (nI (us + C_61.length))) 18 (nI n)) 19 (nI (en j_61))) 20 (tkT (ks j_61))) 21 (ps j_61)) 22 vl2_61) 23 (nI 1)) 24 (ps j_61)) 26 (nI 2))), gA E (ad 15) 620 (cdW fr us (C_61.map trJ)), gA E (ad 17) 600 t]
          refine g_if_ne (tgt := 78) C dX10_one_73 (by decide) (fun c73 => absurd c73 (by decide)) (fun c73 => ?_)
          refine g_iconst (v := nI 0) C dX10_one_76 (by decide) ?_
          exact g_zret C Rt dX10_one_77 (by decide) (by decide) (by decide) (⟨false, _, _, _, _, _, _, _, rfl, rfl, rdT_er (by rw [pLv, if_pos (Or.inr e40), if_neg n5, hr_61]; exact if_neg hx) (by omega) (b2_61) (by omega) (b2_61), hv_61, fun z => absurd z (by decide)⟩)
      · refine g_if_eq (tgt := 76) C dX10_one_64 (by decide) (fun c64 => ?_) (fun c64 => absurd c64 (by decide))
        refine g_iconst (v := nI 0) C dX10_one_76 (by decide) ?_
        exact g_zret C Rt dX10_one_77 (by decide) (by decide) (by decide) (⟨false, _, _, _, _, _, _, _, rfl, rfl, rdT_er (by rw [pLv, if_pos (Or.inr e40), if_neg n5, hr_61]; rfl) (by omega) (b2_61) (by omega) (b4_61), hv_61, fun z => absurd z (by decide)⟩)
  · have e5 := (tq8 (hK i hi)).mp c6
    have hn8 := not_end hend hi e5 (by decide)
    refine g_aload_n C dX10_one_9 rfl ?_
    refine g_callV C (c_X10_opens_1 E h ad (upd iv 7 (nI us)) n cn i en ks ps t vl wr wa (by omega) (hb) (hL) (hn8)) gX10_one_X10_opens rfl 0 (by decide +kernel) ⟨by decide, by decide⟩ ⟨by decide, by decide⟩ 0 rfl rfl [0, 2] [1] (wr := [gA E (ad 15) 620 fr]) rfl (by decide) rfl (by decide) (by decide) rfl rfl (Nat.le_of_ble_eq_true rfl) dX10_one_10 ?_
    rintro _ _ ⟨vl2_10, rfl, rfl, hv_10⟩
    refine gg.perm (ws' := [gO h 10 (tF ad (upd (upd (upd (upd (upd (upd (upd (upd (upd iv 7 (nI us)) 18 (nI n)) 19 (nI (en (i + 1)))) 20 (tkT (ks (i + 1)))) 21 (ps (i + 1))) 22 vl2_10) 23 wr) 24 wa) 26 (nI 2))), gA E (ad 15) 620 fr, gA E (ad 17) 600 t]) [1, 0, 2] (by decide) rfl ?_
    show gg E _ 2 X 0 0 13 [some (.ref h), none] [.int (nI 1)] [gO h 10 (tF ad (upd (upd (upd (upd (upd (upd (upd (upd (upd iv 7 (nI us)) 18 (nI n)) 19 (nI (en (i + 1)))) 20 (tkT (ks (i + 1)))) 21 (ps (i + 1))) 22 vl2_10) 23 wr) 24 wa) 26 (nI 2))), gA E (ad 15) 620 fr, gA E (ad 17) 600 t]
    refine g_if_eq (tgt := 23) C dX10_one_13 (by decide) (fun c13 => absurd c13 (by decide)) (fun c13 => ?_)
    refine g_aload_n C dX10_one_16 rfl ?_
    refine g_callV C (c_X10_one_6 E h ad iv n cn us (i + 1) en ks ps fr t vl2_10 wr wa (by omega) (hb) (hL) (hK) (hend) (by omega) (by omega) (hv_10) (by omega)) gX10_one_X10_one rfl 0 (by decide +kernel) ⟨by decide, by decide⟩ ⟨by decide, by decide⟩ 0 rfl rfl [0, 1, 2] [] (wr := []) rfl (by decide) rfl (by decide) (by decide) rfl rfl (Nat.le_of_ble_eq_true rfl) dX10_one_17 ?_
    rintro _ _ ⟨ok_17, j_17, us2_17, fr2_17, vl2_17, wr2_17, wa2_17, dp2_17, rfl, rfl, hq_17, hv_17, hd_17⟩
    show gg E _ 2 X 0 0 20 [some (.ref h), none] [.int (b2i ok_17)] [gO h 10 (tF ad (upd (upd (upd (upd (upd (upd (upd (upd (upd iv 7 (nI us2_17)) 18 (nI n)) 19 (nI (en j_17))) 20 (tkT (ks j_17))) 21 (ps j_17)) 22 vl2_17) 23 wr2_17) 24 wa2_17) 26 dp2_17)), gA E (ad 15) 620 fr2_17, gA E (ad 17) 600 t]
    rcases rdT_two hq_17 with ⟨C_17, hr_17, rfl, rfl, rfl, rfl, rfl, b1_17, b2_17, b3_17⟩ | ⟨kd_17, ix_17, hr_17, rfl, rfl, rfl, b1_17, b2_17, b3_17, b4_17⟩
    · obtain rfl := hd_17 rfl
      refine g_if_ne (tgt := 25) C dX10_one_20 (by decide) (fun c20 => ?_) (fun c20 => absurd c20 (by decide))
      refine g_aload_n C dX10_one_25 rfl ?_
      refine g_dup C dX10_one_26 rfl ?_
      refine g_get C i_X10 0 26 f_188 rfl rfl (by decide) rfl rfl dX10_one_27 ?_
      show gg E _ 2 X 0 0 30 [some (.ref h), none] [.int (nI 2), .ref h] [gO h 10 (tF ad (upd (upd (upd (upd (upd (upd (upd (upd (upd iv 7 (nI (us + C_17.length))) 18 (nI n)) 19 (nI (en j_17))) 20 (tkT (ks j_17))) 21 (ps j_17)) 22 vl2_17) 23 wr) 24 wa) 26 (nI 2))), gA E (ad 15) 620 (cdW fr us (C_17.map trJ)), gA E (ad 17) 600 t]
      refine g_iconst (v := nI 1) C dX10_one_30 (by decide) ?_
      refine g_isub C dX10_one_31 (g_top (x' := nI 1) (by decide) ?_)
      refine g_put C i_X10 tyX10 tyX10_ok nmX10 0 26 f_188 rfl rfl (by decide) rfl rfl rfl rfl rfl (Nat.le_of_ble_eq_true rfl) dX10_one_32 (ws' := [gO h 10 (tF ad (upd (upd (upd (upd (upd (upd (upd (upd (upd iv 7 (nI (us + C_17.length))) 18 (nI n)) 19 (nI (en j_17))) 20 (tkT (ks j_17))) 21 (ps j_17)) 22 vl2_17) 23 wr) 24 wa) 26 (nI 1))), gA E (ad 15) 620 (cdW fr us (C_17.map trJ)), gA E (ad 17) 600 t]) rfl ?_
      refine g_aload_n C dX10_one_35 rfl ?_
      refine g_sipush (v := nI 2005) C dX10_one_36 (by decide) ?_
      refine g_callV C (c_X10_lay E h ad (upd (upd (upd (upd (upd (upd (upd (upd iv 18 (nI n)) 19 (nI (en j_17))) 20 (tkT (ks j_17))) 21 (ps j_17)) 22 vl2_17) 23 wr) 24 wa) 26 (nI 1)) (us + C_17.length) (cdW fr us (C_17.map trJ)) (nI 2005) (by omega)) gX10_one_X10_lay rfl 1 (by decide +kernel) ⟨by decide, by decide⟩ ⟨by decide, by decide⟩ 0 rfl rfl [0, 1] [2] (wr := [gA E (ad 17) 600 t]) rfl (by decide) rfl (by decide) (by decide) rfl rfl (Nat.le_of_ble_eq_true rfl) dX10_one_39 ?_
      rintro _ _ ⟨rfl, rfl⟩
      refine gg.perm (ws' := [gO h 10 (tF ad (upd (upd (upd (upd (upd (upd (upd (upd (upd iv 7 (nI ((us + C_17.length) + 1))) 18 (nI n)) 19 (nI (en j_17))) 20 (tkT (ks j_17))) 21 (ps j_17)) 22 vl2_17) 23 wr) 24 wa) 26 (nI 1))), gA E (ad 15) 620 (upd (cdW fr us (C_17.map trJ)) (us + C_17.length) (nI 2005)), gA E (ad 17) 600 t]) [1, 2, 0] (by decide) rfl ?_
      show gg E _ 2 X 0 0 42 [some (.ref h), none] [] [gO h 10 (tF ad (upd (upd (upd (upd (upd (upd (upd (upd (upd iv 7 (nI ((us + C_17.length) + 1))) 18 (nI n)) 19 (nI (en j_17))) 20 (tkT (ks j_17))) 21 (ps j_17)) 22 vl2_17) 23 wr) 24 wa) 26 (nI 1))), gA E (ad 15) 620 (upd (cdW fr us (C_17.map trJ)) (us + C_17.length) (nI 2005)), gA E (ad 17) 600 t]
      refine g_iconst (v := nI 1) C dX10_one_42 (by decide) ?_
      exact g_zret C Rt dX10_one_43 (by decide) (by decide) (by decide) (⟨true, _, _, _, _, _, _, _, rfl, rfl, rdT_ok (by rw [pLv, if_pos (Or.inl e5), if_pos e5, hr_17]; rfl) (by omega) b2_17 (by omega) (ln2 _ _ _) (cd2T _ _ _ _ _ (by decide)), hv_17, fun _ => rfl⟩)
    · refine g_if_ne (tgt := 25) C dX10_one_20 (by decide) (fun c20 => absurd c20 (by decide)) (fun c20 => ?_)
      refine g_iconst (v := nI 0) C dX10_one_23 (by decide) ?_
      exact g_zret C Rt dX10_one_24 (by decide) (by decide) (by decide) (⟨false, _, _, _, _, _, _, _, rfl, rfl, rdT_er (by rw [pLv, if_pos (Or.inl e5), if_pos e5, hr_17]; rfl) (by omega) (b2_17) (by omega) (b4_17), hv_17, fun z => absurd z (by decide)⟩)

abbrev rm_c_X10_all_7 : Room := { frames := 27, cells := 0, slots := 0, locals := 555 }
set_option maxHeartbeats 4000000 in
set_option maxRecDepth 100000 in
theorem c_X10_all_7 (E : gE) (h : Nat) (ad : Nat → Nat) (iv : Nat → Int32) (n cn us i : Nat) (en : Nat → Nat) (ks ps fr t : Nat → Int32) (vl wr wa : Int32) (hn : n ≤ 600) (hb : okY t n) (hL : twL t n cn ks ps en) (hK : ∀ q, q < cn → tkC (ks q)) (hend : ks (cn - 1) = nI 1011) (hcn : cn ≤ 601) (hi : i < cn) (hv : ¬ nI 999 < ks i → vl = ks i) (hus : us ≤ i) : MM E yX10_all wsX10_all rm_c_X10_all_7 [.ref h] [gO h 10 (tF ad (upd (upd (upd (upd (upd (upd (upd (upd (upd iv 7 (nI us)) 18 (nI n)) 19 (nI (en i))) 20 (tkT (ks i))) 21 (ps i)) 22 vl) 23 wr) 24 wa) 26 (nI 1))), gA E (ad 15) 620 fr, gA E (ad 17) 600 t] (fun rv_ ru_ => ∃ (ok : Bool) (j us2 : Nat) (fr2 : Nat → Int32) (vl2 wr2 wa2 dp2 : Int32), rv_ = some (.int (b2i ok)) ∧ ru_ = [gO h 10 (tF ad (upd (upd (upd (upd (upd (upd (upd (upd (upd iv 7 (nI us2)) 18 (nI n)) 19 (nI (en j))) 20 (tkT (ks j))) 21 (ps j)) 22 vl2) 23 wr2) 24 wa2) 26 dp2)), gA E (ad 15) 620 fr2, gA E (ad 17) 600 t] ∧ (rdQ (trR (pAll ks (pLv ks 7) i)) ps cn i us fr wr wa ok j us2 fr2 wr2 wa2) ∧ (¬ nI 999 < ks j → vl2 = ks j) ∧ (ok = true → dp2 = nI 1)) := by
  refine MM.ofG (cc := cX10_all) (maxL := 1) (ret := (some .boolean)) (by decide) rfl (Nat.le_of_ble_eq_true rfl) (ll := [some (.ref h)]) rfl ?_
  intro X C Rt
  have C : gx E X cX10_all 1 wsX10_all RX10 := C
  have i_X10 : ∀ w ∈ u_ws RX10 TX10 40, w ∈ wsX10_all := by decide +kernel
  have f_154 : Cond.fieldLink RX10 154 "MarkPagesModel" "token" "I" ∈ wsX10_all := by decide +kernel
  refine g_aload_n C dX10_all_0 rfl ?_
  refine g_callV C (c_X10_one_7 E h ad iv n cn us i en ks ps fr t vl wr wa (by omega) (hb) (hL) (hK) (hend) (by omega) (by omega) (hv) (by omega)) gX10_all_X10_one rfl 0 (by decide +kernel) ⟨by decide, by decide⟩ ⟨by decide, by decide⟩ 0 rfl rfl [0, 1, 2] [] (wr := []) rfl (by decide) rfl (by decide) (by decide) rfl rfl (Nat.le_of_ble_eq_true rfl) dX10_all_1 ?_
  rintro _ _ ⟨ok_1, j_1, us2_1, fr2_1, vl2_1, wr2_1, wa2_1, dp2_1, rfl, rfl, hq_1, hv_1, hd_1⟩
  show gg E _ 1 X 0 0 4 [some (.ref h)] [.int (b2i ok_1)] [gO h 10 (tF ad (upd (upd (upd (upd (upd (upd (upd (upd (upd iv 7 (nI us2_1)) 18 (nI n)) 19 (nI (en j_1))) 20 (tkT (ks j_1))) 21 (ps j_1)) 22 vl2_1) 23 wr2_1) 24 wa2_1) 26 dp2_1)), gA E (ad 15) 620 fr2_1, gA E (ad 17) 600 t]
  rcases rdT_two hq_1 with ⟨C_1, hr_1, rfl, rfl, rfl, rfl, rfl, b1_1, b2_1, b3_1⟩ | ⟨kd_1, ix_1, hr_1, rfl, rfl, rfl, b1_1, b2_1, b3_1, b4_1⟩
  · obtain rfl := hd_1 rfl
    refine g_if_ne (tgt := 9) C dX10_all_4 (by decide) (fun c4 => ?_) (fun c4 => absurd c4 (by decide))
    have L9 : ∀ (n9 : Nat) (it j1 f1 : Nat) (C1 : List Int32) (vl1 : Int32), cn - j1 < n9 → (j1 < cn) → (i + it ≤ j1) → (f1 + it = 601) → (C1.length + i ≤ j1) → (pAll ks (pLv ks 7) i = lpO ks (nI 1004) (pLv ks 7) f1 j1 C1) → (¬ nI 999 < ks j1 → vl1 = ks j1) → gg E rm_c_X10_all_7 1 X 0 0 9 [some (.ref h)] [] [gO h 10 (tF ad (upd (upd (upd (upd (upd (upd (upd (upd (upd iv 7 (nI (us + C1.length))) 18 (nI n)) 19 (nI (en j1))) 20 (tkT (ks j1))) 21 (ps j1)) 22 vl1) 23 wr) 24 wa) 26 (nI 1))), gA E (ad 15) 620 (cdW fr us (C1.map trJ)), gA E (ad 17) 600 t] := by
      intro n9
      induction n9 with
      | zero => intro it j1 f1 C1 vl1 hm9; exact absurd hm9 (Nat.not_lt_zero _)
      | succ n9 ih9 =>
        intro it j1 f1 C1 vl1 hm9 g1 g2 g3 g4 g5 hv1
        refine g_aload_n C dX10_all_9 rfl ?_
        refine g_get C i_X10 0 20 f_154 rfl rfl (by decide) rfl rfl dX10_all_10 ?_
        refine g_bipush (v := nI 7) C dX10_all_13 (by decide) ?_
        refine g_icmp_ne (tgt := 41) C dX10_all_15 (by decide) (fun c15 => ?_) (fun c15 => ?_)
        · refine g_iconst (v := nI 1) C dX10_all_41 (by decide) ?_
          exact g_zret C Rt dX10_all_42 (by decide) (by decide) (by decide) (⟨true, _, _, _, _, _, _, _, rfl, rfl, rdT_ok (by rw [g5, show f1 = f1 - 1 + 1 by omega, lpO, if_neg (fun z => c15 ((tq7 (hK _ g1)).mpr z))]) (by omega) g1 (by omega) rfl rfl, hv1, fun _ => rfl⟩)
        · have e15 := (tq7 (hK _ g1)).mp c15
          have hn7 := not_end hend g1 e15 (by decide)
          refine g_aload_n C dX10_all_18 rfl ?_
          refine g_callV C (c_X10_nextT E h ad (upd (upd (upd (upd iv 7 (nI (us + C1.length))) 23 wr) 24 wa) 26 (nI 1)) n cn j1 en ks ps t (tkT (ks j1)) (ps j1) vl1 (by omega) (hb) (hL) (hn7)) gX10_all_X10_next0 rfl 0 (by decide +kernel) ⟨by decide, by decide⟩ ⟨by decide, by decide⟩ 0 rfl rfl [0, 2] [1] (wr := [gA E (ad 15) 620 (cdW fr us (C1.map trJ))]) rfl (by decide) rfl (by decide) (by decide) rfl rfl (Nat.le_of_ble_eq_true rfl) dX10_all_19 ?_
          rintro _ _ ⟨vl2_19, rfl, rfl, hv_19⟩
          refine gg.perm (ws' := [gO h 10 (tF ad (upd (upd (upd (upd (upd (upd (upd (upd (upd iv 7 (nI (us + C1.length))) 18 (nI n)) 19 (nI (en (j1 + 1)))) 20 (tkT (ks (j1 + 1)))) 21 (ps (j1 + 1))) 22 vl2_19) 23 wr) 24 wa) 26 (nI 1))), gA E (ad 15) 620 (cdW fr us (C1.map trJ)), gA E (ad 17) 600 t]) [1, 0, 2] (by decide) rfl ?_
          show gg E _ 1 X 0 0 22 [some (.ref h)] [] [gO h 10 (tF ad (upd (upd (upd (upd (upd (upd (upd (upd (upd iv 7 (nI (us + C1.length))) 18 (nI n)) 19 (nI (en (j1 + 1)))) 20 (tkT (ks (j1 + 1)))) 21 (ps (j1 + 1))) 22 vl2_19) 23 wr) 24 wa) 26 (nI 1))), gA E (ad 15) 620 (cdW fr us (C1.map trJ)), gA E (ad 17) 600 t]
          refine g_aload_n C dX10_all_22 rfl ?_
          refine g_callV C (c_X10_one_7 E h ad iv n cn (us + C1.length) (j1 + 1) en ks ps (cdW fr us (C1.map trJ)) t vl2_19 wr wa (by omega) (hb) (hL) (hK) (hend) (by omega) (by omega) (hv_19) (by omega)) gX10_all_X10_one rfl 0 (by decide +kernel) ⟨by decide, by decide⟩ ⟨by decide, by decide⟩ 0 rfl rfl [0, 1, 2] [] (wr := []) rfl (by decide) rfl (by decide) (by decide) rfl rfl (Nat.le_of_ble_eq_true rfl) dX10_all_23 ?_
          rintro _ _ ⟨ok_23, j_23, us2_23, fr2_23, vl2_23, wr2_23, wa2_23, dp2_23, rfl, rfl, hq_23, hv_23, hd_23⟩
          show gg E _ 1 X 0 0 26 [some (.ref h)] [.int (b2i ok_23)] [gO h 10 (tF ad (upd (upd (upd (upd (upd (upd (upd (upd (upd iv 7 (nI us2_23)) 18 (nI n)) 19 (nI (en j_23))) 20 (tkT (ks j_23))) 21 (ps j_23)) 22 vl2_23) 23 wr2_23) 24 wa2_23) 26 dp2_23)), gA E (ad 15) 620 fr2_23, gA E (ad 17) 600 t]
          rcases rdT_two hq_23 with ⟨C_23, hr_23, rfl, rfl, rfl, rfl, rfl, b1_23, b2_23, b3_23⟩ | ⟨kd_23, ix_23, hr_23, rfl, rfl, rfl, b1_23, b2_23, b3_23, b4_23⟩
          · obtain rfl := hd_23 rfl
            refine g_if_ne (tgt := 31) C dX10_all_26 (by decide) (fun c26 => ?_) (fun c26 => absurd c26 (by decide))
            refine g_aload_n C dX10_all_31 rfl ?_
            refine g_sipush (v := nI 2006) C dX10_all_32 (by decide) ?_
            refine g_callV C (c_X10_lay E h ad (upd (upd (upd (upd (upd (upd (upd (upd iv 18 (nI n)) 19 (nI (en j_23))) 20 (tkT (ks j_23))) 21 (ps j_23)) 22 vl2_23) 23 wr) 24 wa) 26 (nI 1)) (us + C1.length + C_23.length) (cdW (cdW fr us (C1.map trJ)) (us + C1.length) (C_23.map trJ)) (nI 2006) (by omega)) gX10_all_X10_lay rfl 1 (by decide +kernel) ⟨by decide, by decide⟩ ⟨by decide, by decide⟩ 0 rfl rfl [0, 1] [2] (wr := [gA E (ad 17) 600 t]) rfl (by decide) rfl (by decide) (by decide) rfl rfl (Nat.le_of_ble_eq_true rfl) dX10_all_35 ?_
            rintro _ _ ⟨rfl, rfl⟩
            refine gg.perm (ws' := [gO h 10 (tF ad (upd (upd (upd (upd (upd (upd (upd (upd (upd iv 7 (nI ((us + C1.length + C_23.length) + 1))) 18 (nI n)) 19 (nI (en j_23))) 20 (tkT (ks j_23))) 21 (ps j_23)) 22 vl2_23) 23 wr) 24 wa) 26 (nI 1))), gA E (ad 15) 620 (upd (cdW (cdW fr us (C1.map trJ)) (us + C1.length) (C_23.map trJ)) (us + C1.length + C_23.length) (nI 2006)), gA E (ad 17) 600 t]) [1, 2, 0] (by decide) rfl ?_
            show gg E _ 1 X 0 0 38 [some (.ref h)] [] [gO h 10 (tF ad (upd (upd (upd (upd (upd (upd (upd (upd (upd iv 7 (nI ((us + C1.length + C_23.length) + 1))) 18 (nI n)) 19 (nI (en j_23))) 20 (tkT (ks j_23))) 21 (ps j_23)) 22 vl2_23) 23 wr) 24 wa) 26 (nI 1))), gA E (ad 15) 620 (upd (cdW (cdW fr us (C1.map trJ)) (us + C1.length) (C_23.map trJ)) (us + C1.length + C_23.length) (nI 2006)), gA E (ad 17) 600 t]
            rw [ln3 us C1 C_23 (nI 1004), cd3T fr us C1 C_23 (nI 1004) (nI 2006) (by decide)]
            refine g_goto (tgt := 9) C dX10_all_38 (by decide) ?_
            exact ih9 (it + 1) j_23 (f1 - 1) (C1 ++ C_23 ++ [nI 1004]) vl2_23 (by omega) (by omega) (by omega) (by omega) (by have := ln3 us C1 C_23 (nI 1004); omega) (by rw [g5, show f1 = f1 - 1 + 1 by omega, lpO, if_pos e15, hr_23]; rfl) (hv_23)
          · refine g_if_ne (tgt := 31) C dX10_all_26 (by decide) (fun c26 => absurd c26 (by decide)) (fun c26 => ?_)
            refine g_iconst (v := nI 0) C dX10_all_29 (by decide) ?_
            exact g_zret C Rt dX10_all_30 (by decide) (by decide) (by decide) (⟨false, _, _, _, _, _, _, _, rfl, rfl, rdT_er (by rw [g5, show f1 = f1 - 1 + 1 by omega, lpO, if_pos e15, hr_23]) (by omega) b2_23 (by omega) b4_23, hv_23, fun z => absurd z (by decide)⟩)
    exact L9 _ 0 j_1 601 C_1 vl2_1 (Nat.lt_succ_self _) (by omega) (by omega) (by omega) (by omega) (by rw [pAll, hr_1]; rfl) (hv_1)
  · refine g_if_ne (tgt := 9) C dX10_all_4 (by decide) (fun c4 => absurd c4 (by decide)) (fun c4 => ?_)
    refine g_iconst (v := nI 0) C dX10_all_7 (by decide) ?_
    exact g_zret C Rt dX10_all_8 (by decide) (by decide) (by decide) (⟨false, _, _, _, _, _, _, _, rfl, rfl, rdT_er (by rw [pAll, hr_1]; rfl) b1_1 b2_1 b3_1 b4_1, hv_1, fun z => absurd z (by decide)⟩)

abbrev rm_c_X10_any_7 : Room := { frames := 28, cells := 0, slots := 0, locals := 575 }
set_option maxHeartbeats 4000000 in
set_option maxRecDepth 100000 in
theorem c_X10_any_7 (E : gE) (h : Nat) (ad : Nat → Nat) (iv : Nat → Int32) (n cn us i : Nat) (en : Nat → Nat) (ks ps fr t : Nat → Int32) (vl wr wa : Int32) (hn : n ≤ 600) (hb : okY t n) (hL : twL t n cn ks ps en) (hK : ∀ q, q < cn → tkC (ks q)) (hend : ks (cn - 1) = nI 1011) (hcn : cn ≤ 601) (hi : i < cn) (hv : ¬ nI 999 < ks i → vl = ks i) (hus : us ≤ i) : MM E yX10_any wsX10_any rm_c_X10_any_7 [.ref h] [gO h 10 (tF ad (upd (upd (upd (upd (upd (upd (upd (upd (upd iv 7 (nI us)) 18 (nI n)) 19 (nI (en i))) 20 (tkT (ks i))) 21 (ps i)) 22 vl) 23 wr) 24 wa) 26 (nI 1))), gA E (ad 15) 620 fr, gA E (ad 17) 600 t] (fun rv_ ru_ => ∃ (ok : Bool) (j us2 : Nat) (fr2 : Nat → Int32) (vl2 wr2 wa2 dp2 : Int32), rv_ = some (.int (b2i ok)) ∧ ru_ = [gO h 10 (tF ad (upd (upd (upd (upd (upd (upd (upd (upd (upd iv 7 (nI us2)) 18 (nI n)) 19 (nI (en j))) 20 (tkT (ks j))) 21 (ps j)) 22 vl2) 23 wr2) 24 wa2) 26 dp2)), gA E (ad 15) 620 fr2, gA E (ad 17) 600 t] ∧ (rdQ (trR (pAny ks (pLv ks 7) i)) ps cn i us fr wr wa ok j us2 fr2 wr2 wa2) ∧ (¬ nI 999 < ks j → vl2 = ks j) ∧ (ok = true → dp2 = nI 1)) := by
  refine MM.ofG (cc := cX10_any) (maxL := 1) (ret := (some .boolean)) (by decide) rfl (Nat.le_of_ble_eq_true rfl) (ll := [some (.ref h)]) rfl ?_
  intro X C Rt
  have C : gx E X cX10_any 1 wsX10_any RX10 := C
  have i_X10 : ∀ w ∈ u_ws RX10 TX10 40, w ∈ wsX10_any := by decide +kernel
  have f_154 : Cond.fieldLink RX10 154 "MarkPagesModel" "token" "I" ∈ wsX10_any := by decide +kernel
  refine g_aload_n C dX10_any_0 rfl ?_
  refine g_callV C (c_X10_all_7 E h ad iv n cn us i en ks ps fr t vl wr wa (by omega) (hb) (hL) (hK) (hend) (by omega) (by omega) (hv) (by omega)) gX10_any_X10_all rfl 0 (by decide +kernel) ⟨by decide, by decide⟩ ⟨by decide, by decide⟩ 0 rfl rfl [0, 1, 2] [] (wr := []) rfl (by decide) rfl (by decide) (by decide) rfl rfl (Nat.le_of_ble_eq_true rfl) dX10_any_1 ?_
  rintro _ _ ⟨ok_1, j_1, us2_1, fr2_1, vl2_1, wr2_1, wa2_1, dp2_1, rfl, rfl, hq_1, hv_1, hd_1⟩
  show gg E _ 1 X 0 0 4 [some (.ref h)] [.int (b2i ok_1)] [gO h 10 (tF ad (upd (upd (upd (upd (upd (upd (upd (upd (upd iv 7 (nI us2_1)) 18 (nI n)) 19 (nI (en j_1))) 20 (tkT (ks j_1))) 21 (ps j_1)) 22 vl2_1) 23 wr2_1) 24 wa2_1) 26 dp2_1)), gA E (ad 15) 620 fr2_1, gA E (ad 17) 600 t]
  rcases rdT_two hq_1 with ⟨C_1, hr_1, rfl, rfl, rfl, rfl, rfl, b1_1, b2_1, b3_1⟩ | ⟨kd_1, ix_1, hr_1, rfl, rfl, rfl, b1_1, b2_1, b3_1, b4_1⟩
  · obtain rfl := hd_1 rfl
    refine g_if_ne (tgt := 9) C dX10_any_4 (by decide) (fun c4 => ?_) (fun c4 => absurd c4 (by decide))
    have L9 : ∀ (n9 : Nat) (it j1 f1 : Nat) (C1 : List Int32) (vl1 : Int32), cn - j1 < n9 → (j1 < cn) → (i + it ≤ j1) → (f1 + it = 601) → (C1.length + i ≤ j1) → (pAny ks (pLv ks 7) i = lpO ks (nI 1003) (pAll ks (pLv ks 7)) f1 j1 C1) → (¬ nI 999 < ks j1 → vl1 = ks j1) → gg E rm_c_X10_any_7 1 X 0 0 9 [some (.ref h)] [] [gO h 10 (tF ad (upd (upd (upd (upd (upd (upd (upd (upd (upd iv 7 (nI (us + C1.length))) 18 (nI n)) 19 (nI (en j1))) 20 (tkT (ks j1))) 21 (ps j1)) 22 vl1) 23 wr) 24 wa) 26 (nI 1))), gA E (ad 15) 620 (cdW fr us (C1.map trJ)), gA E (ad 17) 600 t] := by
      intro n9
      induction n9 with
      | zero => intro it j1 f1 C1 vl1 hm9; exact absurd hm9 (Nat.not_lt_zero _)
      | succ n9 ih9 =>
        intro it j1 f1 C1 vl1 hm9 g1 g2 g3 g4 g5 hv1
        refine g_aload_n C dX10_any_9 rfl ?_
        refine g_get C i_X10 0 20 f_154 rfl rfl (by decide) rfl rfl dX10_any_10 ?_
        refine g_bipush (v := nI 6) C dX10_any_13 (by decide) ?_
        refine g_icmp_ne (tgt := 41) C dX10_any_15 (by decide) (fun c15 => ?_) (fun c15 => ?_)
        · refine g_iconst (v := nI 1) C dX10_any_41 (by decide) ?_
          exact g_zret C Rt dX10_any_42 (by decide) (by decide) (by decide) (⟨true, _, _, _, _, _, _, _, rfl, rfl, rdT_ok (by rw [g5, show f1 = f1 - 1 + 1 by omega, lpO, if_neg (fun z => c15 ((tq6 (hK _ g1)).mpr z))]) (by omega) g1 (by omega) rfl rfl, hv1, fun _ => rfl⟩)
        · have e15 := (tq6 (hK _ g1)).mp c15
          have hn7 := not_end hend g1 e15 (by decide)
          refine g_aload_n C dX10_any_18 rfl ?_
          refine g_callV C (c_X10_nextT E h ad (upd (upd (upd (upd iv 7 (nI (us + C1.length))) 23 wr) 24 wa) 26 (nI 1)) n cn j1 en ks ps t (tkT (ks j1)) (ps j1) vl1 (by omega) (hb) (hL) (hn7)) gX10_any_X10_next0 rfl 0 (by decide +kernel) ⟨by decide, by decide⟩ ⟨by decide, by decide⟩ 0 rfl rfl [0, 2] [1] (wr := [gA E (ad 15) 620 (cdW fr us (C1.map trJ))]) rfl (by decide) rfl (by decide) (by decide) rfl rfl (Nat.le_of_ble_eq_true rfl) dX10_any_19 ?_
          rintro _ _ ⟨vl2_19, rfl, rfl, hv_19⟩
          refine gg.perm (ws' := [gO h 10 (tF ad (upd (upd (upd (upd (upd (upd (upd (upd (upd iv 7 (nI (us + C1.length))) 18 (nI n)) 19 (nI (en (j1 + 1)))) 20 (tkT (ks (j1 + 1)))) 21 (ps (j1 + 1))) 22 vl2_19) 23 wr) 24 wa) 26 (nI 1))), gA E (ad 15) 620 (cdW fr us (C1.map trJ)), gA E (ad 17) 600 t]) [1, 0, 2] (by decide) rfl ?_
          show gg E _ 1 X 0 0 22 [some (.ref h)] [] [gO h 10 (tF ad (upd (upd (upd (upd (upd (upd (upd (upd (upd iv 7 (nI (us + C1.length))) 18 (nI n)) 19 (nI (en (j1 + 1)))) 20 (tkT (ks (j1 + 1)))) 21 (ps (j1 + 1))) 22 vl2_19) 23 wr) 24 wa) 26 (nI 1))), gA E (ad 15) 620 (cdW fr us (C1.map trJ)), gA E (ad 17) 600 t]
          refine g_aload_n C dX10_any_22 rfl ?_
          refine g_callV C (c_X10_all_7 E h ad iv n cn (us + C1.length) (j1 + 1) en ks ps (cdW fr us (C1.map trJ)) t vl2_19 wr wa (by omega) (hb) (hL) (hK) (hend) (by omega) (by omega) (hv_19) (by omega)) gX10_any_X10_all rfl 0 (by decide +kernel) ⟨by decide, by decide⟩ ⟨by decide, by decide⟩ 0 rfl rfl [0, 1, 2] [] (wr := []) rfl (by decide) rfl (by decide) (by decide) rfl rfl (Nat.le_of_ble_eq_true rfl) dX10_any_23 ?_
          rintro _ _ ⟨ok_23, j_23, us2_23, fr2_23, vl2_23, wr2_23, wa2_23, dp2_23, rfl, rfl, hq_23, hv_23, hd_23⟩
          show gg E _ 1 X 0 0 26 [some (.ref h)] [.int (b2i ok_23)] [gO h 10 (tF ad (upd (upd (upd (upd (upd (upd (upd (upd (upd iv 7 (nI us2_23)) 18 (nI n)) 19 (nI (en j_23))) 20 (tkT (ks j_23))) 21 (ps j_23)) 22 vl2_23) 23 wr2_23) 24 wa2_23) 26 dp2_23)), gA E (ad 15) 620 fr2_23, gA E (ad 17) 600 t]
          rcases rdT_two hq_23 with ⟨C_23, hr_23, rfl, rfl, rfl, rfl, rfl, b1_23, b2_23, b3_23⟩ | ⟨kd_23, ix_23, hr_23, rfl, rfl, rfl, b1_23, b2_23, b3_23, b4_23⟩
          · obtain rfl := hd_23 rfl
            refine g_if_ne (tgt := 31) C dX10_any_26 (by decide) (fun c26 => ?_) (fun c26 => absurd c26 (by decide))
            refine g_aload_n C dX10_any_31 rfl ?_
            refine g_sipush (v := nI 2007) C dX10_any_32 (by decide) ?_
            refine g_callV C (c_X10_lay E h ad (upd (upd (upd (upd (upd (upd (upd (upd iv 18 (nI n)) 19 (nI (en j_23))) 20 (tkT (ks j_23))) 21 (ps j_23)) 22 vl2_23) 23 wr) 24 wa) 26 (nI 1)) (us + C1.length + C_23.length) (cdW (cdW fr us (C1.map trJ)) (us + C1.length) (C_23.map trJ)) (nI 2007) (by omega)) gX10_any_X10_lay rfl 1 (by decide +kernel) ⟨by decide, by decide⟩ ⟨by decide, by decide⟩ 0 rfl rfl [0, 1] [2] (wr := [gA E (ad 17) 600 t]) rfl (by decide) rfl (by decide) (by decide) rfl rfl (Nat.le_of_ble_eq_true rfl) dX10_any_35 ?_
            rintro _ _ ⟨rfl, rfl⟩
            refine gg.perm (ws' := [gO h 10 (tF ad (upd (upd (upd (upd (upd (upd (upd (upd (upd iv 7 (nI ((us + C1.length + C_23.length) + 1))) 18 (nI n)) 19 (nI (en j_23))) 20 (tkT (ks j_23))) 21 (ps j_23)) 22 vl2_23) 23 wr) 24 wa) 26 (nI 1))), gA E (ad 15) 620 (upd (cdW (cdW fr us (C1.map trJ)) (us + C1.length) (C_23.map trJ)) (us + C1.length + C_23.length) (nI 2007)), gA E (ad 17) 600 t]) [1, 2, 0] (by decide) rfl ?_
            show gg E _ 1 X 0 0 38 [some (.ref h)] [] [gO h 10 (tF ad (upd (upd (upd (upd (upd (upd (upd (upd (upd iv 7 (nI ((us + C1.length + C_23.length) + 1))) 18 (nI n)) 19 (nI (en j_23))) 20 (tkT (ks j_23))) 21 (ps j_23)) 22 vl2_23) 23 wr) 24 wa) 26 (nI 1))), gA E (ad 15) 620 (upd (cdW (cdW fr us (C1.map trJ)) (us + C1.length) (C_23.map trJ)) (us + C1.length + C_23.length) (nI 2007)), gA E (ad 17) 600 t]
            rw [ln3 us C1 C_23 (nI 1003), cd3T fr us C1 C_23 (nI 1003) (nI 2007) (by decide)]
            refine g_goto (tgt := 9) C dX10_any_38 (by decide) ?_
            exact ih9 (it + 1) j_23 (f1 - 1) (C1 ++ C_23 ++ [nI 1003]) vl2_23 (by omega) (by omega) (by omega) (by omega) (by have := ln3 us C1 C_23 (nI 1003); omega) (by rw [g5, show f1 = f1 - 1 + 1 by omega, lpO, if_pos e15, hr_23]; rfl) (hv_23)
          · refine g_if_ne (tgt := 31) C dX10_any_26 (by decide) (fun c26 => absurd c26 (by decide)) (fun c26 => ?_)
            refine g_iconst (v := nI 0) C dX10_any_29 (by decide) ?_
            exact g_zret C Rt dX10_any_30 (by decide) (by decide) (by decide) (⟨false, _, _, _, _, _, _, _, rfl, rfl, rdT_er (by rw [g5, show f1 = f1 - 1 + 1 by omega, lpO, if_pos e15, hr_23]) (by omega) b2_23 (by omega) b4_23, hv_23, fun z => absurd z (by decide)⟩)
    exact L9 _ 0 j_1 601 C_1 vl2_1 (Nat.lt_succ_self _) (by omega) (by omega) (by omega) (by omega) (by rw [pAny, hr_1]; rfl) (hv_1)
  · refine g_if_ne (tgt := 9) C dX10_any_4 (by decide) (fun c4 => absurd c4 (by decide)) (fun c4 => ?_)
    refine g_iconst (v := nI 0) C dX10_any_7 (by decide) ?_
    exact g_zret C Rt dX10_any_8 (by decide) (by decide) (by decide) (⟨false, _, _, _, _, _, _, _, rfl, rfl, rdT_er (by rw [pAny, hr_1]; rfl) b1_1 b2_1 b3_1 b4_1, hv_1, fun z => absurd z (by decide)⟩)

abbrev rm_c_X10_one_8 : Room := { frames := 29, cells := 0, slots := 0, locals := 595 }
set_option maxHeartbeats 4000000 in
set_option maxRecDepth 100000 in
theorem c_X10_one_8 (E : gE) (h : Nat) (ad : Nat → Nat) (iv : Nat → Int32) (n cn us i : Nat) (en : Nat → Nat) (ks ps fr t : Nat → Int32) (vl wr wa : Int32) (hn : n ≤ 600) (hb : okY t n) (hL : twL t n cn ks ps en) (hK : ∀ q, q < cn → tkC (ks q)) (hend : ks (cn - 1) = nI 1011) (hcn : cn ≤ 601) (hi : i < cn) (hv : ¬ nI 999 < ks i → vl = ks i) (hus : us ≤ i) : MM E yX10_one wsX10_one rm_c_X10_one_8 [.ref h] [gO h 10 (tF ad (upd (upd (upd (upd (upd (upd (upd (upd (upd iv 7 (nI us)) 18 (nI n)) 19 (nI (en i))) 20 (tkT (ks i))) 21 (ps i)) 22 vl) 23 wr) 24 wa) 26 (nI 0))), gA E (ad 15) 620 fr, gA E (ad 17) 600 t] (fun rv_ ru_ => ∃ (ok : Bool) (j us2 : Nat) (fr2 : Nat → Int32) (vl2 wr2 wa2 dp2 : Int32), rv_ = some (.int (b2i ok)) ∧ ru_ = [gO h 10 (tF ad (upd (upd (upd (upd (upd (upd (upd (upd (upd iv 7 (nI us2)) 18 (nI n)) 19 (nI (en j))) 20 (tkT (ks j))) 21 (ps j)) 22 vl2) 23 wr2) 24 wa2) 26 dp2)), gA E (ad 15) 620 fr2, gA E (ad 17) 600 t] ∧ (rdQ (trR (pLv ks 8 i)) ps cn i us fr wr wa ok j us2 fr2 wr2 wa2) ∧ (¬ nI 999 < ks j → vl2 = ks j) ∧ (ok = true → dp2 = nI 0)) := by
  refine MM.ofG (cc := cX10_one) (maxL := 2) (ret := (some .boolean)) (by decide) rfl (Nat.le_of_ble_eq_true rfl) (ll := [some (.ref h), none]) rfl ?_
  intro X C Rt
  have C : gx E X cX10_one 2 wsX10_one RX10 := C
  have i_X10 : ∀ w ∈ u_ws RX10 TX10 40, w ∈ wsX10_one := by decide +kernel
  have f_154 : Cond.fieldLink RX10 154 "MarkPagesModel" "token" "I" ∈ wsX10_one := by decide +kernel
  have f_188 : Cond.fieldLink RX10 188 "MarkPagesModel" "depth" "I" ∈ wsX10_one := by decide +kernel
  refine g_aload_n C dX10_one_0 rfl ?_
  refine g_get C i_X10 0 20 f_154 rfl rfl (by decide) rfl rfl dX10_one_1 ?_
  refine g_bipush (v := nI 8) C dX10_one_4 (by decide) ?_
  refine g_icmp_ne (tgt := 44) C dX10_one_6 (by decide) (fun c6 => ?_) (fun c6 => ?_)
  · have n5 := fun z => c6 ((tq8 (hK i hi)).mpr z)
    refine g_aload_n C dX10_one_44 rfl ?_
    refine g_get C i_X10 0 20 f_154 rfl rfl (by decide) rfl rfl dX10_one_45 ?_
    refine g_bipush (v := nI 40) C dX10_one_48 (by decide) ?_
    refine g_icmp_ne (tgt := 90) C dX10_one_50 (by decide) (fun c50 => ?_) (fun c50 => ?_)
    · have n40 := fun z => c50 ((tq40 (hK i hi)).mpr z)
      refine g_aload_n C dX10_one_90 rfl ?_
      refine g_callV C (c_X10_sum E h ad (upd iv 26 (nI 0)) n cn us i en ks ps fr t vl wr wa (by omega) (hb) (hL) (hK) (hend) (by omega) (by omega) (hv) (by omega)) gX10_one_X10_sum rfl 0 (by decide +kernel) ⟨by decide, by decide⟩ ⟨by decide, by decide⟩ 0 rfl rfl [0, 1, 2] [] (wr := []) rfl (by decide) rfl (by decide) (by decide) rfl rfl (Nat.le_of_ble_eq_true rfl) dX10_one_91 ?_
      rintro _ _ ⟨ok_91, j_91, us2_91, fr2_91, vl2_91, wr2_91, wa2_91, rfl, rfl, hq_91, hv_91⟩
      show gg E _ 2 X 0 0 94 [some (.ref h), none] [.int (b2i ok_91)] [gO h 10 (tF ad (upd (upd (upd (upd (upd (upd (upd (upd (upd iv 7 (nI us2_91)) 18 (nI n)) 19 (nI (en j_91))) 20 (tkT (ks j_91))) 21 (ps j_91)) 22 vl2_91) 23 wr2_91) 24 wa2_91) 26 (nI 0))), gA E (ad 15) 620 fr2_91, gA E (ad 17) 600 t]
      rcases rdT_two hq_91 with ⟨C_91, hr_91, rfl, rfl, rfl, rfl, rfl, b1_91, b2_91, b3_91⟩ | ⟨kd_91, ix_91, hr_91, rfl, rfl, rfl, b1_91, b2_91, b3_91, b4_91⟩
      · refine g_if_ne (tgt := 99) C dX10_one_94 (by decide) (fun c94 => ?_) (fun c94 => absurd c94 (by decide))
        refine g_aload_n C dX10_one_99 rfl ?_
        refine g_get C i_X10 0 20 f_154 rfl rfl (by decide) rfl rfl dX10_one_100 ?_
        refine g_bipush (v := nI 60) C dX10_one_103 (by decide) ?_
        refine g_icmp_ne (tgt := 114) C dX10_one_105 (by decide) (fun c105 => ?_) (fun c105 => ?_)
        · have n60 := fun z => c105 ((tq60 (hK _ b2_91)).mpr z)
          refine g_aload_n C dX10_one_114 rfl ?_
          refine g_get C i_X10 0 20 f_154 rfl rfl (by decide) rfl rfl dX10_one_115 ?_
          refine g_bipush (v := nI 61) C dX10_one_118 (by decide) ?_
          refine g_icmp_ne (tgt := 129) C dX10_one_120 (by decide) (fun c120 => ?_) (fun c120 => ?_)
          · have n61 := fun z => c120 ((tq61 (hK _ b2_91)).mpr z)
            refine g_aload_n C dX10_one_129 rfl ?_
            refine g_get C i_X10 0 20 f_154 rfl rfl (by decide) rfl rfl dX10_one_130 ?_
            refine g_bipush (v := nI 62) C dX10_one_133 (by decide) ?_
            refine g_icmp_ne (tgt := 144) C dX10_one_135 (by decide) (fun c135 => ?_) (fun c135 => ?_)
            · have n62 := fun z => c135 ((tq62 (hK _ b2_91)).mpr z)
              refine g_iconst (v := -1) C dX10_one_144 (by decide) ?_
              refine g_istore_n C dX10_one_145 (by decide) rfl (ll' := [some (.ref h), some (.int (-1))]) rfl ?_
              refine g_iload_n C dX10_one_146 rfl ?_
              refine g_iconst (v := -1) C dX10_one_147 (by decide) ?_
              refine g_icmp_ne (tgt := 157) C dX10_one_148 (by decide) (fun c148 => absurd c148 (by decide)) (fun c148 => ?_)
              refine g_aload_n C dX10_one_151 rfl ?_
              refine g_iconst (v := nI 1) C dX10_one_152 (by decide) ?_
              refine g_callV C (c_X10_bad E h ad (upd (upd (upd (upd (upd (upd iv 7 (nI (us + C_91.length))) 18 (nI n)) 19 (nI (en j_91))) 20 (tkT (ks j_91))) 22 vl2_91) 26 (nI 0)) 1 (ps j_91) wr wa ) gX10_one_X10_bad rfl 1 (by decide +kernel) ⟨by decide, by decide⟩ ⟨by decide, by decide⟩ 0 rfl rfl [0] [1, 2] (wr := [gA E (ad 15) 620 (cdW fr us (C_91.map trJ)), gA E (ad 17) 600 t]) rfl (by decide) rfl (by decide) (by decide) rfl rfl (Nat.le_of_ble_eq_true rfl) dX10_one_153 ?_
              rintro _ _ ⟨rfl, rfl⟩
              refine gg.perm (ws' := [gO h 10 (tF ad (upd (upd (upd (upd (upd (upd (upd (upd (upd iv 7 (nI (us + C_91.length))) 18 (nI n)) 19 (nI (en j_91))) 20 (tkT (ks j_91))) 21 (ps j_91)) 22 vl2_91) 23 (nI 1)) 24 (ps j_91)) 26 (nI 0))), gA E (ad 15) 620 (cdW fr us (C_91.map trJ)), gA E (ad 17) 600 t]) [2, 0, 1] (by decide) rfl ?_
              show gg E _ 2 X 0 0 156 [some (.ref h), some (.int (-1))] [.int (nI 0)] [gO h 10 (tF ad (upd (upd (upd (upd (upd (upd (upd (upd (upd iv 7 (nI (us + C_91.length))) 18 (nI n)) 19 (nI (en j_91))) 20 (tkT (ks j_91))) 21 (ps j_91)) 22 vl2_91) 23 (nI 1)) 24 (ps j_91)) 26 (nI 0))), gA E (ad 15) 620 (cdW fr us (C_91.map trJ)), gA E (ad 17) 600 t]
              exact g_zret C Rt dX10_one_156 (by decide) (by decide) (by decide) (⟨false, _, _, _, _, _, _, _, rfl, rfl, rdT_er (by rw [pLv, if_neg (fun z => z.elim n5 n40), pCmp, hr_91]; exact if_neg (fun z => z.elim n60 (fun z => z.elim n61 n62))) (b1_91) (b2_91) (b3_91) (b2_91), hv_91, fun z => absurd z (by decide)⟩)
            · have e62 := (tq62 (hK _ b2_91)).mp c135
              refine g_sipush (v := nI 2004) C dX10_one_138 (by decide) ?_
              refine g_goto (tgt := 145) C dX10_one_141 (by decide) ?_
              refine g_istore_n C dX10_one_145 (by decide) rfl (ll' := [some (.ref h), some (.int (nI 2004))]) rfl ?_
              refine g_iload_n C dX10_one_146 rfl ?_
              refine g_iconst (v := -1) C dX10_one_147 (by decide) ?_
              refine g_icmp_ne (tgt := 157) C dX10_one_148 (by decide) (fun c148 => ?_) (fun c148 => absurd c148 (by decide))
              have hn7 := not_end hend b2_91 e62 (by decide)
              refine g_aload_n C dX10_one_157 rfl ?_
              refine g_callV C (c_X10_nextT E h ad (upd (upd (upd (upd iv 7 (nI (us + C_91.length))) 23 wr) 24 wa) 26 (nI 0)) n cn j_91 en ks ps t (tkT (ks j_91)) (ps j_91) vl2_91 (by omega) (hb) (hL) (hn7)) gX10_one_X10_next0 rfl 0 (by decide +kernel) ⟨by decide, by decide⟩ ⟨by decide, by decide⟩ 0 rfl rfl [0, 2] [1] (wr := [gA E (ad 15) 620 (cdW fr us (C_91.map trJ))]) rfl (by decide) rfl (by decide) (by decide) rfl rfl (Nat.le_of_ble_eq_true rfl) dX10_one_158 ?_
              rintro _ _ ⟨vl2_158, rfl, rfl, hv_158⟩
              refine gg.perm (ws' := [gO h 10 (tF ad (upd (upd (upd (upd (upd (upd (upd (upd (upd iv 7 (nI (us + C_91.length))) 18 (nI n)) 19 (nI (en (j_91 + 1)))) 20 (tkT (ks (j_91 + 1)))) 21 (ps (j_91 + 1))) 22 vl2_158) 23 wr) 24 wa) 26 (nI 0))), gA E (ad 15) 620 (cdW fr us (C_91.map trJ)), gA E (ad 17) 600 t]) [1, 0, 2] (by decide) rfl ?_
              show gg E _ 2 X 0 0 161 [some (.ref h), some (.int (nI 2004))] [] [gO h 10 (tF ad (upd (upd (upd (upd (upd (upd (upd (upd (upd iv 7 (nI (us + C_91.length))) 18 (nI n)) 19 (nI (en (j_91 + 1)))) 20 (tkT (ks (j_91 + 1)))) 21 (ps (j_91 + 1))) 22 vl2_158) 23 wr) 24 wa) 26 (nI 0))), gA E (ad 15) 620 (cdW fr us (C_91.map trJ)), gA E (ad 17) 600 t]
              refine g_aload_n C dX10_one_161 rfl ?_
              refine g_callV C (c_X10_sum E h ad (upd iv 26 (nI 0)) n cn (us + C_91.length) (j_91 + 1) en ks ps (cdW fr us (C_91.map trJ)) t vl2_158 wr wa (by omega) (hb) (hL) (hK) (hend) (by omega) (by omega) (hv_158) (by omega)) gX10_one_X10_sum rfl 0 (by decide +kernel) ⟨by decide, by decide⟩ ⟨by decide, by decide⟩ 0 rfl rfl [0, 1, 2] [] (wr := []) rfl (by decide) rfl (by decide) (by decide) rfl rfl (Nat.le_of_ble_eq_true rfl) dX10_one_162 ?_
              rintro _ _ ⟨ok_162, j_162, us2_162, fr2_162, vl2_162, wr2_162, wa2_162, rfl, rfl, hq_162, hv_162⟩
              show gg E _ 2 X 0 0 165 [some (.ref h), some (.int (nI 2004))] [.int (b2i ok_162)] [gO h 10 (tF ad (upd (upd (upd (upd (upd (upd (upd (upd (upd iv 7 (nI us2_162)) 18 (nI n)) 19 (nI (en j_162))) 20 (tkT (ks j_162))) 21 (ps j_162)) 22 vl2_162) 23 wr2_162) 24 wa2_162) 26 (nI 0))), gA E (ad 15) 620 fr2_162, gA E (ad 17) 600 t]
              rcases rdT_two hq_162 with ⟨C_162, hr_162, rfl, rfl, rfl, rfl, rfl, b1_162, b2_162, b3_162⟩ | ⟨kd_162, ix_162, hr_162, rfl, rfl, rfl, b1_162, b2_162, b3_162, b4_162⟩
              · refine g_if_ne (tgt := 170) C dX10_one_165 (by decide) (fun c165 => ?_) (fun c165 => absurd c165 (by decide))
                refine g_aload_n C dX10_one_170 rfl ?_
                refine g_iload_n C dX10_one_171 rfl ?_
                refine g_callV C (c_X10_lay E h ad (upd (upd (upd (upd (upd (upd (upd (upd iv 18 (nI n)) 19 (nI (en j_162))) 20 (tkT (ks j_162))) 21 (ps j_162)) 22 vl2_162) 23 wr) 24 wa) 26 (nI 0)) (us + C_91.length + C_162.length) (cdW (cdW fr us (C_91.map trJ)) (us + C_91.length) (C_162.map trJ)) (nI 2004) (by omega)) gX10_one_X10_lay rfl 1 (by decide +kernel) ⟨by decide, by decide⟩ ⟨by decide, by decide⟩ 0 rfl rfl [0, 1] [2] (wr := [gA E (ad 17) 600 t]) rfl (by decide) rfl (by decide) (by decide) rfl rfl (Nat.le_of_ble_eq_true rfl) dX10_one_172 ?_
                rintro _ _ ⟨rfl, rfl⟩
                refine gg.perm (ws' := [gO h 10 (tF ad (upd (upd (upd (upd (upd (upd (upd (upd (upd iv 7 (nI ((us + C_91.length + C_162.length) + 1))) 18 (nI n)) 19 (nI (en j_162))) 20 (tkT (ks j_162))) 21 (ps j_162)) 22 vl2_162) 23 wr) 24 wa) 26 (nI 0))), gA E (ad 15) 620 (upd (cdW (cdW fr us (C_91.map trJ)) (us + C_91.length) (C_162.map trJ)) (us + C_91.length + C_162.length) (nI 2004)), gA E (ad 17) 600 t]) [1, 2, 0] (by decide) rfl ?_
                show gg E _ 2 X 0 0 175 [some (.ref h), some (.int (nI 2004))] [] [gO h 10 (tF ad (upd (upd (upd (upd (upd (upd (upd (upd (upd iv 7 (nI ((us + C_91.length + C_162.length) + 1))) 18 (nI n)) 19 (nI (en j_162))) 20 (tkT (ks j_162))) 21 (ps j_162)) 22 vl2_162) 23 wr) 24 wa) 26 (nI 0))), gA E (ad 15) 620 (upd (cdW (cdW fr us (C_91.map trJ)) (us + C_91.length) (C_162.map trJ)) (us + C_91.length + C_162.length) (nI 2004)), gA E (ad 17) 600 t]
                refine g_iconst (v := nI 1) C dX10_one_175 (by decide) ?_
                exact g_zret C Rt dX10_one_176 (by decide) (by decide) (by decide) (⟨true, _, _, _, _, _, _, _, rfl, rfl, rdT_ok (by rw [pLv, if_neg (fun z => z.elim n5 n40), pCmp, hr_91]; exact (if_pos (Or.inr (Or.inr e62))).trans (by rw [pCmp2, hr_162])) (by omega) b2_162 (by omega) (ln3 _ _ _ _) (cd3T _ _ _ _ _ _ (by rw [e62]; decide)), hv_162, fun _ => rfl⟩)
              · refine g_if_ne (tgt := 170) C dX10_one_165 (by decide) (fun c165 => absurd c165 (by decide)) (fun c165 => ?_)
                refine g_iconst (v := nI 0) C dX10_one_168 (by decide) ?_
                exact g_zret C Rt dX10_one_169 (by decide) (by decide) (by decide) (⟨false, _, _, _, _, _, _, _, rfl, rfl, rdT_er (by rw [pLv, if_neg (fun z => z.elim n5 n40), pCmp, hr_91]; exact (if_pos (Or.inr (Or.inr e62))).trans (by rw [pCmp2, hr_162])) (by omega) (b2_162) (by omega) (b4_162), hv_162, fun z => absurd z (by decide)⟩)
          · have e61 := (tq61 (hK _ b2_91)).mp c120
            refine g_sipush (v := nI 2003) C dX10_one_123 (by decide) ?_
            refine g_goto (tgt := 145) C dX10_one_126 (by decide) ?_
            refine g_istore_n C dX10_one_145 (by decide) rfl (ll' := [some (.ref h), some (.int (nI 2003))]) rfl ?_
            refine g_iload_n C dX10_one_146 rfl ?_
            refine g_iconst (v := -1) C dX10_one_147 (by decide) ?_
            refine g_icmp_ne (tgt := 157) C dX10_one_148 (by decide) (fun c148 => ?_) (fun c148 => absurd c148 (by decide))
            have hn7 := not_end hend b2_91 e61 (by decide)
            refine g_aload_n C dX10_one_157 rfl ?_
            refine g_callV C (c_X10_nextT E h ad (upd (upd (upd (upd iv 7 (nI (us + C_91.length))) 23 wr) 24 wa) 26 (nI 0)) n cn j_91 en ks ps t (tkT (ks j_91)) (ps j_91) vl2_91 (by omega) (hb) (hL) (hn7)) gX10_one_X10_next0 rfl 0 (by decide +kernel) ⟨by decide, by decide⟩ ⟨by decide, by decide⟩ 0 rfl rfl [0, 2] [1] (wr := [gA E (ad 15) 620 (cdW fr us (C_91.map trJ))]) rfl (by decide) rfl (by decide) (by decide) rfl rfl (Nat.le_of_ble_eq_true rfl) dX10_one_158 ?_
            rintro _ _ ⟨vl2_158, rfl, rfl, hv_158⟩
            refine gg.perm (ws' := [gO h 10 (tF ad (upd (upd (upd (upd (upd (upd (upd (upd (upd iv 7 (nI (us + C_91.length))) 18 (nI n)) 19 (nI (en (j_91 + 1)))) 20 (tkT (ks (j_91 + 1)))) 21 (ps (j_91 + 1))) 22 vl2_158) 23 wr) 24 wa) 26 (nI 0))), gA E (ad 15) 620 (cdW fr us (C_91.map trJ)), gA E (ad 17) 600 t]) [1, 0, 2] (by decide) rfl ?_
            show gg E _ 2 X 0 0 161 [some (.ref h), some (.int (nI 2003))] [] [gO h 10 (tF ad (upd (upd (upd (upd (upd (upd (upd (upd (upd iv 7 (nI (us + C_91.length))) 18 (nI n)) 19 (nI (en (j_91 + 1)))) 20 (tkT (ks (j_91 + 1)))) 21 (ps (j_91 + 1))) 22 vl2_158) 23 wr) 24 wa) 26 (nI 0))), gA E (ad 15) 620 (cdW fr us (C_91.map trJ)), gA E (ad 17) 600 t]
            refine g_aload_n C dX10_one_161 rfl ?_
            refine g_callV C (c_X10_sum E h ad (upd iv 26 (nI 0)) n cn (us + C_91.length) (j_91 + 1) en ks ps (cdW fr us (C_91.map trJ)) t vl2_158 wr wa (by omega) (hb) (hL) (hK) (hend) (by omega) (by omega) (hv_158) (by omega)) gX10_one_X10_sum rfl 0 (by decide +kernel) ⟨by decide, by decide⟩ ⟨by decide, by decide⟩ 0 rfl rfl [0, 1, 2] [] (wr := []) rfl (by decide) rfl (by decide) (by decide) rfl rfl (Nat.le_of_ble_eq_true rfl) dX10_one_162 ?_
            rintro _ _ ⟨ok_162, j_162, us2_162, fr2_162, vl2_162, wr2_162, wa2_162, rfl, rfl, hq_162, hv_162⟩
            show gg E _ 2 X 0 0 165 [some (.ref h), some (.int (nI 2003))] [.int (b2i ok_162)] [gO h 10 (tF ad (upd (upd (upd (upd (upd (upd (upd (upd (upd iv 7 (nI us2_162)) 18 (nI n)) 19 (nI (en j_162))) 20 (tkT (ks j_162))) 21 (ps j_162)) 22 vl2_162) 23 wr2_162) 24 wa2_162) 26 (nI 0))), gA E (ad 15) 620 fr2_162, gA E (ad 17) 600 t]
            rcases rdT_two hq_162 with ⟨C_162, hr_162, rfl, rfl, rfl, rfl, rfl, b1_162, b2_162, b3_162⟩ | ⟨kd_162, ix_162, hr_162, rfl, rfl, rfl, b1_162, b2_162, b3_162, b4_162⟩
            · refine g_if_ne (tgt := 170) C dX10_one_165 (by decide) (fun c165 => ?_) (fun c165 => absurd c165 (by decide))
              refine g_aload_n C dX10_one_170 rfl ?_
              refine g_iload_n C dX10_one_171 rfl ?_
              refine g_callV C (c_X10_lay E h ad (upd (upd (upd (upd (upd (upd (upd (upd iv 18 (nI n)) 19 (nI (en j_162))) 20 (tkT (ks j_162))) 21 (ps j_162)) 22 vl2_162) 23 wr) 24 wa) 26 (nI 0)) (us + C_91.length + C_162.length) (cdW (cdW fr us (C_91.map trJ)) (us + C_91.length) (C_162.map trJ)) (nI 2003) (by omega)) gX10_one_X10_lay rfl 1 (by decide +kernel) ⟨by decide, by decide⟩ ⟨by decide, by decide⟩ 0 rfl rfl [0, 1] [2] (wr := [gA E (ad 17) 600 t]) rfl (by decide) rfl (by decide) (by decide) rfl rfl (Nat.le_of_ble_eq_true rfl) dX10_one_172 ?_
              rintro _ _ ⟨rfl, rfl⟩
              refine gg.perm (ws' := [gO h 10 (tF ad (upd (upd (upd (upd (upd (upd (upd (upd (upd iv 7 (nI ((us + C_91.length + C_162.length) + 1))) 18 (nI n)) 19 (nI (en j_162))) 20 (tkT (ks j_162))) 21 (ps j_162)) 22 vl2_162) 23 wr) 24 wa) 26 (nI 0))), gA E (ad 15) 620 (upd (cdW (cdW fr us (C_91.map trJ)) (us + C_91.length) (C_162.map trJ)) (us + C_91.length + C_162.length) (nI 2003)), gA E (ad 17) 600 t]) [1, 2, 0] (by decide) rfl ?_
              show gg E _ 2 X 0 0 175 [some (.ref h), some (.int (nI 2003))] [] [gO h 10 (tF ad (upd (upd (upd (upd (upd (upd (upd (upd (upd iv 7 (nI ((us + C_91.length + C_162.length) + 1))) 18 (nI n)) 19 (nI (en j_162))) 20 (tkT (ks j_162))) 21 (ps j_162)) 22 vl2_162) 23 wr) 24 wa) 26 (nI 0))), gA E (ad 15) 620 (upd (cdW (cdW fr us (C_91.map trJ)) (us + C_91.length) (C_162.map trJ)) (us + C_91.length + C_162.length) (nI 2003)), gA E (ad 17) 600 t]
              refine g_iconst (v := nI 1) C dX10_one_175 (by decide) ?_
              exact g_zret C Rt dX10_one_176 (by decide) (by decide) (by decide) (⟨true, _, _, _, _, _, _, _, rfl, rfl, rdT_ok (by rw [pLv, if_neg (fun z => z.elim n5 n40), pCmp, hr_91]; exact (if_pos (Or.inr (Or.inl e61))).trans (by rw [pCmp2, hr_162])) (by omega) b2_162 (by omega) (ln3 _ _ _ _) (cd3T _ _ _ _ _ _ (by rw [e61]; decide)), hv_162, fun _ => rfl⟩)
            · refine g_if_ne (tgt := 170) C dX10_one_165 (by decide) (fun c165 => absurd c165 (by decide)) (fun c165 => ?_)
              refine g_iconst (v := nI 0) C dX10_one_168 (by decide) ?_
              exact g_zret C Rt dX10_one_169 (by decide) (by decide) (by decide) (⟨false, _, _, _, _, _, _, _, rfl, rfl, rdT_er (by rw [pLv, if_neg (fun z => z.elim n5 n40), pCmp, hr_91]; exact (if_pos (Or.inr (Or.inl e61))).trans (by rw [pCmp2, hr_162])) (by omega) (b2_162) (by omega) (b4_162), hv_162, fun z => absurd z (by decide)⟩)
        · have e60 := (tq60 (hK _ b2_91)).mp c105
          refine g_sipush (v := nI 2002) C dX10_one_108 (by decide) ?_
          refine g_goto (tgt := 145) C dX10_one_111 (by decide) ?_
          refine g_istore_n C dX10_one_145 (by decide) rfl (ll' := [some (.ref h), some (.int (nI 2002))]) rfl ?_
          refine g_iload_n C dX10_one_146 rfl ?_
          refine g_iconst (v := -1) C dX10_one_147 (by decide) ?_
          refine g_icmp_ne (tgt := 157) C dX10_one_148 (by decide) (fun c148 => ?_) (fun c148 => absurd c148 (by decide))
          have hn7 := not_end hend b2_91 e60 (by decide)
          refine g_aload_n C dX10_one_157 rfl ?_
          refine g_callV C (c_X10_nextT E h ad (upd (upd (upd (upd iv 7 (nI (us + C_91.length))) 23 wr) 24 wa) 26 (nI 0)) n cn j_91 en ks ps t (tkT (ks j_91)) (ps j_91) vl2_91 (by omega) (hb) (hL) (hn7)) gX10_one_X10_next0 rfl 0 (by decide +kernel) ⟨by decide, by decide⟩ ⟨by decide, by decide⟩ 0 rfl rfl [0, 2] [1] (wr := [gA E (ad 15) 620 (cdW fr us (C_91.map trJ))]) rfl (by decide) rfl (by decide) (by decide) rfl rfl (Nat.le_of_ble_eq_true rfl) dX10_one_158 ?_
          rintro _ _ ⟨vl2_158, rfl, rfl, hv_158⟩
          refine gg.perm (ws' := [gO h 10 (tF ad (upd (upd (upd (upd (upd (upd (upd (upd (upd iv 7 (nI (us + C_91.length))) 18 (nI n)) 19 (nI (en (j_91 + 1)))) 20 (tkT (ks (j_91 + 1)))) 21 (ps (j_91 + 1))) 22 vl2_158) 23 wr) 24 wa) 26 (nI 0))), gA E (ad 15) 620 (cdW fr us (C_91.map trJ)), gA E (ad 17) 600 t]) [1, 0, 2] (by decide) rfl ?_
          show gg E _ 2 X 0 0 161 [some (.ref h), some (.int (nI 2002))] [] [gO h 10 (tF ad (upd (upd (upd (upd (upd (upd (upd (upd (upd iv 7 (nI (us + C_91.length))) 18 (nI n)) 19 (nI (en (j_91 + 1)))) 20 (tkT (ks (j_91 + 1)))) 21 (ps (j_91 + 1))) 22 vl2_158) 23 wr) 24 wa) 26 (nI 0))), gA E (ad 15) 620 (cdW fr us (C_91.map trJ)), gA E (ad 17) 600 t]
          refine g_aload_n C dX10_one_161 rfl ?_
          refine g_callV C (c_X10_sum E h ad (upd iv 26 (nI 0)) n cn (us + C_91.length) (j_91 + 1) en ks ps (cdW fr us (C_91.map trJ)) t vl2_158 wr wa (by omega) (hb) (hL) (hK) (hend) (by omega) (by omega) (hv_158) (by omega)) gX10_one_X10_sum rfl 0 (by decide +kernel) ⟨by decide, by decide⟩ ⟨by decide, by decide⟩ 0 rfl rfl [0, 1, 2] [] (wr := []) rfl (by decide) rfl (by decide) (by decide) rfl rfl (Nat.le_of_ble_eq_true rfl) dX10_one_162 ?_
          rintro _ _ ⟨ok_162, j_162, us2_162, fr2_162, vl2_162, wr2_162, wa2_162, rfl, rfl, hq_162, hv_162⟩
          show gg E _ 2 X 0 0 165 [some (.ref h), some (.int (nI 2002))] [.int (b2i ok_162)] [gO h 10 (tF ad (upd (upd (upd (upd (upd (upd (upd (upd (upd iv 7 (nI us2_162)) 18 (nI n)) 19 (nI (en j_162))) 20 (tkT (ks j_162))) 21 (ps j_162)) 22 vl2_162) 23 wr2_162) 24 wa2_162) 26 (nI 0))), gA E (ad 15) 620 fr2_162, gA E (ad 17) 600 t]
          rcases rdT_two hq_162 with ⟨C_162, hr_162, rfl, rfl, rfl, rfl, rfl, b1_162, b2_162, b3_162⟩ | ⟨kd_162, ix_162, hr_162, rfl, rfl, rfl, b1_162, b2_162, b3_162, b4_162⟩
          · refine g_if_ne (tgt := 170) C dX10_one_165 (by decide) (fun c165 => ?_) (fun c165 => absurd c165 (by decide))
            refine g_aload_n C dX10_one_170 rfl ?_
            refine g_iload_n C dX10_one_171 rfl ?_
            refine g_callV C (c_X10_lay E h ad (upd (upd (upd (upd (upd (upd (upd (upd iv 18 (nI n)) 19 (nI (en j_162))) 20 (tkT (ks j_162))) 21 (ps j_162)) 22 vl2_162) 23 wr) 24 wa) 26 (nI 0)) (us + C_91.length + C_162.length) (cdW (cdW fr us (C_91.map trJ)) (us + C_91.length) (C_162.map trJ)) (nI 2002) (by omega)) gX10_one_X10_lay rfl 1 (by decide +kernel) ⟨by decide, by decide⟩ ⟨by decide, by decide⟩ 0 rfl rfl [0, 1] [2] (wr := [gA E (ad 17) 600 t]) rfl (by decide) rfl (by decide) (by decide) rfl rfl (Nat.le_of_ble_eq_true rfl) dX10_one_172 ?_
            rintro _ _ ⟨rfl, rfl⟩
            refine gg.perm (ws' := [gO h 10 (tF ad (upd (upd (upd (upd (upd (upd (upd (upd (upd iv 7 (nI ((us + C_91.length + C_162.length) + 1))) 18 (nI n)) 19 (nI (en j_162))) 20 (tkT (ks j_162))) 21 (ps j_162)) 22 vl2_162) 23 wr) 24 wa) 26 (nI 0))), gA E (ad 15) 620 (upd (cdW (cdW fr us (C_91.map trJ)) (us + C_91.length) (C_162.map trJ)) (us + C_91.length + C_162.length) (nI 2002)), gA E (ad 17) 600 t]) [1, 2, 0] (by decide) rfl ?_
            show gg E _ 2 X 0 0 175 [some (.ref h), some (.int (nI 2002))] [] [gO h 10 (tF ad (upd (upd (upd (upd (upd (upd (upd (upd (upd iv 7 (nI ((us + C_91.length + C_162.length) + 1))) 18 (nI n)) 19 (nI (en j_162))) 20 (tkT (ks j_162))) 21 (ps j_162)) 22 vl2_162) 23 wr) 24 wa) 26 (nI 0))), gA E (ad 15) 620 (upd (cdW (cdW fr us (C_91.map trJ)) (us + C_91.length) (C_162.map trJ)) (us + C_91.length + C_162.length) (nI 2002)), gA E (ad 17) 600 t]
            refine g_iconst (v := nI 1) C dX10_one_175 (by decide) ?_
            exact g_zret C Rt dX10_one_176 (by decide) (by decide) (by decide) (⟨true, _, _, _, _, _, _, _, rfl, rfl, rdT_ok (by rw [pLv, if_neg (fun z => z.elim n5 n40), pCmp, hr_91]; exact (if_pos (Or.inl e60)).trans (by rw [pCmp2, hr_162])) (by omega) b2_162 (by omega) (ln3 _ _ _ _) (cd3T _ _ _ _ _ _ (by rw [e60]; decide)), hv_162, fun _ => rfl⟩)
          · refine g_if_ne (tgt := 170) C dX10_one_165 (by decide) (fun c165 => absurd c165 (by decide)) (fun c165 => ?_)
            refine g_iconst (v := nI 0) C dX10_one_168 (by decide) ?_
            exact g_zret C Rt dX10_one_169 (by decide) (by decide) (by decide) (⟨false, _, _, _, _, _, _, _, rfl, rfl, rdT_er (by rw [pLv, if_neg (fun z => z.elim n5 n40), pCmp, hr_91]; exact (if_pos (Or.inl e60)).trans (by rw [pCmp2, hr_162])) (by omega) (b2_162) (by omega) (b4_162), hv_162, fun z => absurd z (by decide)⟩)
      · refine g_if_ne (tgt := 99) C dX10_one_94 (by decide) (fun c94 => absurd c94 (by decide)) (fun c94 => ?_)
        refine g_iconst (v := nI 0) C dX10_one_97 (by decide) ?_
        exact g_zret C Rt dX10_one_98 (by decide) (by decide) (by decide) (⟨false, _, _, _, _, _, _, _, rfl, rfl, rdT_er (by rw [pLv, if_neg (fun z => z.elim n5 n40), pCmp, hr_91]) (by omega) (b2_91) (by omega) (b4_91), hv_91, fun z => absurd z (by decide)⟩)
    · have e40 := (tq40 (hK i hi)).mp c50
      have hn8 := not_end hend hi e40 (by decide)
      refine g_aload_n C dX10_one_53 rfl ?_
      refine g_callV C (c_X10_opens_0 E h ad (upd iv 7 (nI us)) n cn i en ks ps t vl wr wa (by omega) (hb) (hL) (hn8)) gX10_one_X10_opens rfl 0 (by decide +kernel) ⟨by decide, by decide⟩ ⟨by decide, by decide⟩ 0 rfl rfl [0, 2] [1] (wr := [gA E (ad 15) 620 fr]) rfl (by decide) rfl (by decide) (by decide) rfl rfl (Nat.le_of_ble_eq_true rfl) dX10_one_54 ?_
      rintro _ _ ⟨vl2_54, rfl, rfl, hv_54⟩
      refine gg.perm (ws' := [gO h 10 (tF ad (upd (upd (upd (upd (upd (upd (upd (upd (upd iv 7 (nI us)) 18 (nI n)) 19 (nI (en (i + 1)))) 20 (tkT (ks (i + 1)))) 21 (ps (i + 1))) 22 vl2_54) 23 wr) 24 wa) 26 (nI 1))), gA E (ad 15) 620 fr, gA E (ad 17) 600 t]) [1, 0, 2] (by decide) rfl ?_
      show gg E _ 2 X 0 0 57 [some (.ref h), none] [.int (nI 1)] [gO h 10 (tF ad (upd (upd (upd (upd (upd (upd (upd (upd (upd iv 7 (nI us)) 18 (nI n)) 19 (nI (en (i + 1)))) 20 (tkT (ks (i + 1)))) 21 (ps (i + 1))) 22 vl2_54) 23 wr) 24 wa) 26 (nI 1))), gA E (ad 15) 620 fr, gA E (ad 17) 600 t]
      refine g_if_eq (tgt := 76) C dX10_one_57 (by decide) (fun c57 => absurd c57 (by decide)) (fun c57 => ?_)
      refine g_aload_n C dX10_one_60 rfl ?_
      refine g_callV C (c_X10_any_7 E h ad iv n cn us (i + 1) en ks ps fr t vl2_54 wr wa (by omega) (hb) (hL) (hK) (hend) (by omega) (by omega) (hv_54) (by omega)) gX10_one_X10_any rfl 0 (by decide +kernel) ⟨by decide, by decide⟩ ⟨by decide, by decide⟩ 0 rfl rfl [0, 1, 2] [] (wr := []) rfl (by decide) rfl (by decide) (by decide) rfl rfl (Nat.le_of_ble_eq_true rfl) dX10_one_61 ?_
      rintro _ _ ⟨ok_61, j_61, us2_61, fr2_61, vl2_61, wr2_61, wa2_61, dp2_61, rfl, rfl, hq_61, hv_61, hd_61⟩
      show gg E _ 2 X 0 0 64 [some (.ref h), none] [.int (b2i ok_61)] [gO h 10 (tF ad (upd (upd (upd (upd (upd (upd (upd (upd (upd iv 7 (nI us2_61)) 18 (nI n)) 19 (nI (en j_61))) 20 (tkT (ks j_61))) 21 (ps j_61)) 22 vl2_61) 23 wr2_61) 24 wa2_61) 26 dp2_61)), gA E (ad 15) 620 fr2_61, gA E (ad 17) 600 t]
      rcases rdT_two hq_61 with ⟨C_61, hr_61, rfl, rfl, rfl, rfl, rfl, b1_61, b2_61, b3_61⟩ | ⟨kd_61, ix_61, hr_61, rfl, rfl, rfl, b1_61, b2_61, b3_61, b4_61⟩
      · obtain rfl := hd_61 rfl
        refine g_if_eq (tgt := 76) C dX10_one_64 (by decide) (fun c64 => absurd c64 (by decide)) (fun c64 => ?_)
        skip
        refine g_aload_n C dX10_one_67 rfl ?_
        rcases Classical.em (ks j_61 = nI 1141) with hx | hx
        · refine g_bipush (v := nI 41) C dX10_one_68 (by decide) ?_
          refine g_callV C (c_X10_need_y E h ad (upd (upd iv 7 (nI (us + C_61.length))) 26 (nI 1)) n cn j_61 41 en ks ps t vl2_61 wr wa (by omega) (hb) (hL) (not_end hend b2_61 hx (by decide)) ((tq41 (hK _ b2_61)).mpr hx)) gX10_one_X10_need rfl 1 (by decide +kernel) ⟨by decide, by decide⟩ ⟨by decide, by decide⟩ 0 rfl rfl [0, 2] [1] (wr := [gA E (ad 15) 620 (cdW fr us (C_61.map trJ))]) rfl (by decide) rfl (by decide) (by decide) rfl rfl (Nat.le_of_ble_eq_true rfl) dX10_one_70 ?_
          rintro _ _ ⟨vl2_70, rfl, rfl, hv_70⟩
          refine gg.perm (ws' := [gO h 10 (tF ad (upd (upd (upd (upd (upd (upd (upd (upd (upd iv 7 (nI (us + C_61.length))) 18 (nI n)) 19 (nI (en (j_61 + 1)))) 20 (tkT (ks (j_61 + 1)))) 21 (ps (j_61 + 1))) 22 vl2_70) 23 wr) 24 wa) 26 (nI 1))), gA E (ad 15) 620 (cdW fr us (C_61.map trJ)), gA E (ad 17) 600 t]) [1, 0, 2] (by decide) rfl ?_
          show gg E _ 2 X 0 0 73 [some (.ref h), none] [.int (nI 1)] [gO h 10 (tF ad (upd (upd (upd (upd (upd (upd (upd (upd (upd iv 7 (nI (us + C_61.length))) 18 (nI n)) 19 (nI (en (j_61 + 1)))) 20 (tkT (ks (j_61 + 1)))) 21 (ps (j_61 + 1))) 22 vl2_70) 23 wr) 24 wa) 26 (nI 1))), gA E (ad 15) 620 (cdW fr us (C_61.map trJ)), gA E (ad 17) 600 t]
          refine g_if_ne (tgt := 78) C dX10_one_73 (by decide) (fun c73 => ?_) (fun c73 => absurd c73 (by decide))
          have hn9 := not_end hend b2_61 hx (by decide)
          refine g_aload_n C dX10_one_78 rfl ?_
          refine g_dup C dX10_one_79 rfl ?_
          refine g_get C i_X10 0 26 f_188 rfl rfl (by decide) rfl rfl dX10_one_80 ?_
          show gg E _ 2 X 0 0 83 [some (.ref h), none] [.int (nI 1), .ref h] [gO h 10 (tF ad (upd (upd (upd (upd (upd (upd (upd (upd (upd iv 7 (nI (us + C_61.length))) 18 (nI n)) 19 (nI (en (j_61 + 1)))) 20 (tkT (ks (j_61 + 1)))) 21 (ps (j_61 + 1))) 22 vl2_70) 23 wr) 24 wa) 26 (nI 1))), gA E (ad 15) 620 (cdW fr us (C_61.map trJ)), gA E (ad 17) 600 t]
          refine g_iconst (v := nI 1) C dX10_one_83 (by decide) ?_
          refine g_isub C dX10_one_84 (g_top (x' := nI 0) (by decide) ?_)
          refine g_put C i_X10 tyX10 tyX10_ok nmX10 0 26 f_188 rfl rfl (by decide) rfl rfl rfl rfl rfl (Nat.le_of_ble_eq_true rfl) dX10_one_85 (ws' := [gO h 10 (tF ad (upd (upd (upd (upd (upd (upd (upd (upd (upd iv 7 (nI (us + C_61.length))) 18 (nI n)) 19 (nI (en (j_61 + 1)))) 20 (tkT (ks (j_61 + 1)))) 21 (ps (j_61 + 1))) 22 vl2_70) 23 wr) 24 wa) 26 (nI 0))), gA E (ad 15) 620 (cdW fr us (C_61.map trJ)), gA E (ad 17) 600 t]) rfl ?_
          refine g_iconst (v := nI 1) C dX10_one_88 (by decide) ?_
          exact g_zret C Rt dX10_one_89 (by decide) (by decide) (by decide) (⟨true, _, _, _, _, _, _, _, rfl, rfl, rdT_ok (by rw [pLv, if_pos (Or.inr e40), if_neg n5, hr_61]; exact if_pos hx) (by omega) hn9 (by omega) rfl rfl, hv_70, fun _ => rfl⟩)
        · refine g_bipush (v := nI 41) C dX10_one_68 (by decide) ?_
          refine g_callV C (c_X10_need_n E h ad (upd (upd iv 7 (nI (us + C_61.length))) 26 (nI 1)) n cn j_61 41 en ks ps t vl2_61 wr wa (fun z => hx ((tq41 (hK _ b2_61)).mp z))) gX10_one_X10_need rfl 1 (by decide +kernel) ⟨by decide, by decide⟩ ⟨by decide, by decide⟩ 0 rfl rfl [0, 2] [1] (wr := [gA E (ad 15) 620 (cdW fr us (C_61.map trJ))]) rfl (by decide) rfl (by decide) (by decide) rfl rfl (Nat.le_of_ble_eq_true rfl) dX10_one_70 ?_
          rintro _ _ ⟨rfl, rfl⟩
          refine gg.perm (ws' := [gO h 10 (tF ad (upd (upd (upd (upd (upd (upd (upd (upd (upd iv 7 (nI (us + C_61.length))) 18 (nI n)) 19 (nI (en j_61))) 20 (tkT (ks j_61))) 21 (ps j_61)) 22 vl2_61) 23 (nI 1)) 24 (ps j_61)) 26 (nI 1))), gA E (ad 15) 620 (cdW fr us (C_61.map trJ)), gA E (ad 17) 600 t]) [1, 0, 2] (by decide) rfl ?_
          show gg E _ 2 X 0 0 73 [some (.ref h), none] [.int (nI 0)] [gO h 10 (tF ad (upd (upd (upd (upd (upd (upd (upd (upd (upd iv 7 (nI (us + C_61.length))) 18 (nI n)) 19 (nI (en j_61))) 20 (tkT (ks j_61))) 21 (ps j_61)) 22 vl2_61) 23 (nI 1)) 24 (ps j_61)) 26 (nI 1))), gA E (ad 15) 620 (cdW fr us (C_61.map trJ)), gA E (ad 17) 600 t]
          refine g_if_ne (tgt := 78) C dX10_one_73 (by decide) (fun c73 => absurd c73 (by decide)) (fun c73 => ?_)
          refine g_iconst (v := nI 0) C dX10_one_76 (by decide) ?_
          exact g_zret C Rt dX10_one_77 (by decide) (by decide) (by decide) (⟨false, _, _, _, _, _, _, _, rfl, rfl, rdT_er (by rw [pLv, if_pos (Or.inr e40), if_neg n5, hr_61]; exact if_neg hx) (by omega) (b2_61) (by omega) (b2_61), hv_61, fun z => absurd z (by decide)⟩)
      · refine g_if_eq (tgt := 76) C dX10_one_64 (by decide) (fun c64 => ?_) (fun c64 => absurd c64 (by decide))
        refine g_iconst (v := nI 0) C dX10_one_76 (by decide) ?_
        exact g_zret C Rt dX10_one_77 (by decide) (by decide) (by decide) (⟨false, _, _, _, _, _, _, _, rfl, rfl, rdT_er (by rw [pLv, if_pos (Or.inr e40), if_neg n5, hr_61]; rfl) (by omega) (b2_61) (by omega) (b4_61), hv_61, fun z => absurd z (by decide)⟩)
  · have e5 := (tq8 (hK i hi)).mp c6
    have hn8 := not_end hend hi e5 (by decide)
    refine g_aload_n C dX10_one_9 rfl ?_
    refine g_callV C (c_X10_opens_0 E h ad (upd iv 7 (nI us)) n cn i en ks ps t vl wr wa (by omega) (hb) (hL) (hn8)) gX10_one_X10_opens rfl 0 (by decide +kernel) ⟨by decide, by decide⟩ ⟨by decide, by decide⟩ 0 rfl rfl [0, 2] [1] (wr := [gA E (ad 15) 620 fr]) rfl (by decide) rfl (by decide) (by decide) rfl rfl (Nat.le_of_ble_eq_true rfl) dX10_one_10 ?_
    rintro _ _ ⟨vl2_10, rfl, rfl, hv_10⟩
    refine gg.perm (ws' := [gO h 10 (tF ad (upd (upd (upd (upd (upd (upd (upd (upd (upd iv 7 (nI us)) 18 (nI n)) 19 (nI (en (i + 1)))) 20 (tkT (ks (i + 1)))) 21 (ps (i + 1))) 22 vl2_10) 23 wr) 24 wa) 26 (nI 1))), gA E (ad 15) 620 fr, gA E (ad 17) 600 t]) [1, 0, 2] (by decide) rfl ?_
    show gg E _ 2 X 0 0 13 [some (.ref h), none] [.int (nI 1)] [gO h 10 (tF ad (upd (upd (upd (upd (upd (upd (upd (upd (upd iv 7 (nI us)) 18 (nI n)) 19 (nI (en (i + 1)))) 20 (tkT (ks (i + 1)))) 21 (ps (i + 1))) 22 vl2_10) 23 wr) 24 wa) 26 (nI 1))), gA E (ad 15) 620 fr, gA E (ad 17) 600 t]
    refine g_if_eq (tgt := 23) C dX10_one_13 (by decide) (fun c13 => absurd c13 (by decide)) (fun c13 => ?_)
    refine g_aload_n C dX10_one_16 rfl ?_
    refine g_callV C (c_X10_one_7 E h ad iv n cn us (i + 1) en ks ps fr t vl2_10 wr wa (by omega) (hb) (hL) (hK) (hend) (by omega) (by omega) (hv_10) (by omega)) gX10_one_X10_one rfl 0 (by decide +kernel) ⟨by decide, by decide⟩ ⟨by decide, by decide⟩ 0 rfl rfl [0, 1, 2] [] (wr := []) rfl (by decide) rfl (by decide) (by decide) rfl rfl (Nat.le_of_ble_eq_true rfl) dX10_one_17 ?_
    rintro _ _ ⟨ok_17, j_17, us2_17, fr2_17, vl2_17, wr2_17, wa2_17, dp2_17, rfl, rfl, hq_17, hv_17, hd_17⟩
    show gg E _ 2 X 0 0 20 [some (.ref h), none] [.int (b2i ok_17)] [gO h 10 (tF ad (upd (upd (upd (upd (upd (upd (upd (upd (upd iv 7 (nI us2_17)) 18 (nI n)) 19 (nI (en j_17))) 20 (tkT (ks j_17))) 21 (ps j_17)) 22 vl2_17) 23 wr2_17) 24 wa2_17) 26 dp2_17)), gA E (ad 15) 620 fr2_17, gA E (ad 17) 600 t]
    rcases rdT_two hq_17 with ⟨C_17, hr_17, rfl, rfl, rfl, rfl, rfl, b1_17, b2_17, b3_17⟩ | ⟨kd_17, ix_17, hr_17, rfl, rfl, rfl, b1_17, b2_17, b3_17, b4_17⟩
    · obtain rfl := hd_17 rfl
      refine g_if_ne (tgt := 25) C dX10_one_20 (by decide) (fun c20 => ?_) (fun c20 => absurd c20 (by decide))
      refine g_aload_n C dX10_one_25 rfl ?_
      refine g_dup C dX10_one_26 rfl ?_
      refine g_get C i_X10 0 26 f_188 rfl rfl (by decide) rfl rfl dX10_one_27 ?_
      show gg E _ 2 X 0 0 30 [some (.ref h), none] [.int (nI 1), .ref h] [gO h 10 (tF ad (upd (upd (upd (upd (upd (upd (upd (upd (upd iv 7 (nI (us + C_17.length))) 18 (nI n)) 19 (nI (en j_17))) 20 (tkT (ks j_17))) 21 (ps j_17)) 22 vl2_17) 23 wr) 24 wa) 26 (nI 1))), gA E (ad 15) 620 (cdW fr us (C_17.map trJ)), gA E (ad 17) 600 t]
      refine g_iconst (v := nI 1) C dX10_one_30 (by decide) ?_
      refine g_isub C dX10_one_31 (g_top (x' := nI 0) (by decide) ?_)
      refine g_put C i_X10 tyX10 tyX10_ok nmX10 0 26 f_188 rfl rfl (by decide) rfl rfl rfl rfl rfl (Nat.le_of_ble_eq_true rfl) dX10_one_32 (ws' := [gO h 10 (tF ad (upd (upd (upd (upd (upd (upd (upd (upd (upd iv 7 (nI (us + C_17.length))) 18 (nI n)) 19 (nI (en j_17))) 20 (tkT (ks j_17))) 21 (ps j_17)) 22 vl2_17) 23 wr) 24 wa) 26 (nI 0))), gA E (ad 15) 620 (cdW fr us (C_17.map trJ)), gA E (ad 17) 600 t]) rfl ?_
      refine g_aload_n C dX10_one_35 rfl ?_
      refine g_sipush (v := nI 2005) C dX10_one_36 (by decide) ?_
      refine g_callV C (c_X10_lay E h ad (upd (upd (upd (upd (upd (upd (upd (upd iv 18 (nI n)) 19 (nI (en j_17))) 20 (tkT (ks j_17))) 21 (ps j_17)) 22 vl2_17) 23 wr) 24 wa) 26 (nI 0)) (us + C_17.length) (cdW fr us (C_17.map trJ)) (nI 2005) (by omega)) gX10_one_X10_lay rfl 1 (by decide +kernel) ⟨by decide, by decide⟩ ⟨by decide, by decide⟩ 0 rfl rfl [0, 1] [2] (wr := [gA E (ad 17) 600 t]) rfl (by decide) rfl (by decide) (by decide) rfl rfl (Nat.le_of_ble_eq_true rfl) dX10_one_39 ?_
      rintro _ _ ⟨rfl, rfl⟩
      refine gg.perm (ws' := [gO h 10 (tF ad (upd (upd (upd (upd (upd (upd (upd (upd (upd iv 7 (nI ((us + C_17.length) + 1))) 18 (nI n)) 19 (nI (en j_17))) 20 (tkT (ks j_17))) 21 (ps j_17)) 22 vl2_17) 23 wr) 24 wa) 26 (nI 0))), gA E (ad 15) 620 (upd (cdW fr us (C_17.map trJ)) (us + C_17.length) (nI 2005)), gA E (ad 17) 600 t]) [1, 2, 0] (by decide) rfl ?_
      show gg E _ 2 X 0 0 42 [some (.ref h), none] [] [gO h 10 (tF ad (upd (upd (upd (upd (upd (upd (upd (upd (upd iv 7 (nI ((us + C_17.length) + 1))) 18 (nI n)) 19 (nI (en j_17))) 20 (tkT (ks j_17))) 21 (ps j_17)) 22 vl2_17) 23 wr) 24 wa) 26 (nI 0))), gA E (ad 15) 620 (upd (cdW fr us (C_17.map trJ)) (us + C_17.length) (nI 2005)), gA E (ad 17) 600 t]
      refine g_iconst (v := nI 1) C dX10_one_42 (by decide) ?_
      exact g_zret C Rt dX10_one_43 (by decide) (by decide) (by decide) (⟨true, _, _, _, _, _, _, _, rfl, rfl, rdT_ok (by rw [pLv, if_pos (Or.inl e5), if_pos e5, hr_17]; rfl) (by omega) b2_17 (by omega) (ln2 _ _ _) (cd2T _ _ _ _ _ (by decide)), hv_17, fun _ => rfl⟩)
    · refine g_if_ne (tgt := 25) C dX10_one_20 (by decide) (fun c20 => absurd c20 (by decide)) (fun c20 => ?_)
      refine g_iconst (v := nI 0) C dX10_one_23 (by decide) ?_
      exact g_zret C Rt dX10_one_24 (by decide) (by decide) (by decide) (⟨false, _, _, _, _, _, _, _, rfl, rfl, rdT_er (by rw [pLv, if_pos (Or.inl e5), if_pos e5, hr_17]; rfl) (by omega) (b2_17) (by omega) (b4_17), hv_17, fun z => absurd z (by decide)⟩)

abbrev rm_c_X10_all_8 : Room := { frames := 30, cells := 0, slots := 0, locals := 616 }
set_option maxHeartbeats 4000000 in
set_option maxRecDepth 100000 in
theorem c_X10_all_8 (E : gE) (h : Nat) (ad : Nat → Nat) (iv : Nat → Int32) (n cn us i : Nat) (en : Nat → Nat) (ks ps fr t : Nat → Int32) (vl wr wa : Int32) (hn : n ≤ 600) (hb : okY t n) (hL : twL t n cn ks ps en) (hK : ∀ q, q < cn → tkC (ks q)) (hend : ks (cn - 1) = nI 1011) (hcn : cn ≤ 601) (hi : i < cn) (hv : ¬ nI 999 < ks i → vl = ks i) (hus : us ≤ i) : MM E yX10_all wsX10_all rm_c_X10_all_8 [.ref h] [gO h 10 (tF ad (upd (upd (upd (upd (upd (upd (upd (upd (upd iv 7 (nI us)) 18 (nI n)) 19 (nI (en i))) 20 (tkT (ks i))) 21 (ps i)) 22 vl) 23 wr) 24 wa) 26 (nI 0))), gA E (ad 15) 620 fr, gA E (ad 17) 600 t] (fun rv_ ru_ => ∃ (ok : Bool) (j us2 : Nat) (fr2 : Nat → Int32) (vl2 wr2 wa2 dp2 : Int32), rv_ = some (.int (b2i ok)) ∧ ru_ = [gO h 10 (tF ad (upd (upd (upd (upd (upd (upd (upd (upd (upd iv 7 (nI us2)) 18 (nI n)) 19 (nI (en j))) 20 (tkT (ks j))) 21 (ps j)) 22 vl2) 23 wr2) 24 wa2) 26 dp2)), gA E (ad 15) 620 fr2, gA E (ad 17) 600 t] ∧ (rdQ (trR (pAll ks (pLv ks 8) i)) ps cn i us fr wr wa ok j us2 fr2 wr2 wa2) ∧ (¬ nI 999 < ks j → vl2 = ks j) ∧ (ok = true → dp2 = nI 0)) := by
  refine MM.ofG (cc := cX10_all) (maxL := 1) (ret := (some .boolean)) (by decide) rfl (Nat.le_of_ble_eq_true rfl) (ll := [some (.ref h)]) rfl ?_
  intro X C Rt
  have C : gx E X cX10_all 1 wsX10_all RX10 := C
  have i_X10 : ∀ w ∈ u_ws RX10 TX10 40, w ∈ wsX10_all := by decide +kernel
  have f_154 : Cond.fieldLink RX10 154 "MarkPagesModel" "token" "I" ∈ wsX10_all := by decide +kernel
  refine g_aload_n C dX10_all_0 rfl ?_
  refine g_callV C (c_X10_one_8 E h ad iv n cn us i en ks ps fr t vl wr wa (by omega) (hb) (hL) (hK) (hend) (by omega) (by omega) (hv) (by omega)) gX10_all_X10_one rfl 0 (by decide +kernel) ⟨by decide, by decide⟩ ⟨by decide, by decide⟩ 0 rfl rfl [0, 1, 2] [] (wr := []) rfl (by decide) rfl (by decide) (by decide) rfl rfl (Nat.le_of_ble_eq_true rfl) dX10_all_1 ?_
  rintro _ _ ⟨ok_1, j_1, us2_1, fr2_1, vl2_1, wr2_1, wa2_1, dp2_1, rfl, rfl, hq_1, hv_1, hd_1⟩
  show gg E _ 1 X 0 0 4 [some (.ref h)] [.int (b2i ok_1)] [gO h 10 (tF ad (upd (upd (upd (upd (upd (upd (upd (upd (upd iv 7 (nI us2_1)) 18 (nI n)) 19 (nI (en j_1))) 20 (tkT (ks j_1))) 21 (ps j_1)) 22 vl2_1) 23 wr2_1) 24 wa2_1) 26 dp2_1)), gA E (ad 15) 620 fr2_1, gA E (ad 17) 600 t]
  rcases rdT_two hq_1 with ⟨C_1, hr_1, rfl, rfl, rfl, rfl, rfl, b1_1, b2_1, b3_1⟩ | ⟨kd_1, ix_1, hr_1, rfl, rfl, rfl, b1_1, b2_1, b3_1, b4_1⟩
  · obtain rfl := hd_1 rfl
    refine g_if_ne (tgt := 9) C dX10_all_4 (by decide) (fun c4 => ?_) (fun c4 => absurd c4 (by decide))
    have L9 : ∀ (n9 : Nat) (it j1 f1 : Nat) (C1 : List Int32) (vl1 : Int32), cn - j1 < n9 → (j1 < cn) → (i + it ≤ j1) → (f1 + it = 601) → (C1.length + i ≤ j1) → (pAll ks (pLv ks 8) i = lpO ks (nI 1004) (pLv ks 8) f1 j1 C1) → (¬ nI 999 < ks j1 → vl1 = ks j1) → gg E rm_c_X10_all_8 1 X 0 0 9 [some (.ref h)] [] [gO h 10 (tF ad (upd (upd (upd (upd (upd (upd (upd (upd (upd iv 7 (nI (us + C1.length))) 18 (nI n)) 19 (nI (en j1))) 20 (tkT (ks j1))) 21 (ps j1)) 22 vl1) 23 wr) 24 wa) 26 (nI 0))), gA E (ad 15) 620 (cdW fr us (C1.map trJ)), gA E (ad 17) 600 t] := by
      intro n9
      induction n9 with
      | zero => intro it j1 f1 C1 vl1 hm9; exact absurd hm9 (Nat.not_lt_zero _)
      | succ n9 ih9 =>
        intro it j1 f1 C1 vl1 hm9 g1 g2 g3 g4 g5 hv1
        refine g_aload_n C dX10_all_9 rfl ?_
        refine g_get C i_X10 0 20 f_154 rfl rfl (by decide) rfl rfl dX10_all_10 ?_
        refine g_bipush (v := nI 7) C dX10_all_13 (by decide) ?_
        refine g_icmp_ne (tgt := 41) C dX10_all_15 (by decide) (fun c15 => ?_) (fun c15 => ?_)
        · refine g_iconst (v := nI 1) C dX10_all_41 (by decide) ?_
          exact g_zret C Rt dX10_all_42 (by decide) (by decide) (by decide) (⟨true, _, _, _, _, _, _, _, rfl, rfl, rdT_ok (by rw [g5, show f1 = f1 - 1 + 1 by omega, lpO, if_neg (fun z => c15 ((tq7 (hK _ g1)).mpr z))]) (by omega) g1 (by omega) rfl rfl, hv1, fun _ => rfl⟩)
        · have e15 := (tq7 (hK _ g1)).mp c15
          have hn7 := not_end hend g1 e15 (by decide)
          refine g_aload_n C dX10_all_18 rfl ?_
          refine g_callV C (c_X10_nextT E h ad (upd (upd (upd (upd iv 7 (nI (us + C1.length))) 23 wr) 24 wa) 26 (nI 0)) n cn j1 en ks ps t (tkT (ks j1)) (ps j1) vl1 (by omega) (hb) (hL) (hn7)) gX10_all_X10_next0 rfl 0 (by decide +kernel) ⟨by decide, by decide⟩ ⟨by decide, by decide⟩ 0 rfl rfl [0, 2] [1] (wr := [gA E (ad 15) 620 (cdW fr us (C1.map trJ))]) rfl (by decide) rfl (by decide) (by decide) rfl rfl (Nat.le_of_ble_eq_true rfl) dX10_all_19 ?_
          rintro _ _ ⟨vl2_19, rfl, rfl, hv_19⟩
          refine gg.perm (ws' := [gO h 10 (tF ad (upd (upd (upd (upd (upd (upd (upd (upd (upd iv 7 (nI (us + C1.length))) 18 (nI n)) 19 (nI (en (j1 + 1)))) 20 (tkT (ks (j1 + 1)))) 21 (ps (j1 + 1))) 22 vl2_19) 23 wr) 24 wa) 26 (nI 0))), gA E (ad 15) 620 (cdW fr us (C1.map trJ)), gA E (ad 17) 600 t]) [1, 0, 2] (by decide) rfl ?_
          show gg E _ 1 X 0 0 22 [some (.ref h)] [] [gO h 10 (tF ad (upd (upd (upd (upd (upd (upd (upd (upd (upd iv 7 (nI (us + C1.length))) 18 (nI n)) 19 (nI (en (j1 + 1)))) 20 (tkT (ks (j1 + 1)))) 21 (ps (j1 + 1))) 22 vl2_19) 23 wr) 24 wa) 26 (nI 0))), gA E (ad 15) 620 (cdW fr us (C1.map trJ)), gA E (ad 17) 600 t]
          refine g_aload_n C dX10_all_22 rfl ?_
          refine g_callV C (c_X10_one_8 E h ad iv n cn (us + C1.length) (j1 + 1) en ks ps (cdW fr us (C1.map trJ)) t vl2_19 wr wa (by omega) (hb) (hL) (hK) (hend) (by omega) (by omega) (hv_19) (by omega)) gX10_all_X10_one rfl 0 (by decide +kernel) ⟨by decide, by decide⟩ ⟨by decide, by decide⟩ 0 rfl rfl [0, 1, 2] [] (wr := []) rfl (by decide) rfl (by decide) (by decide) rfl rfl (Nat.le_of_ble_eq_true rfl) dX10_all_23 ?_
          rintro _ _ ⟨ok_23, j_23, us2_23, fr2_23, vl2_23, wr2_23, wa2_23, dp2_23, rfl, rfl, hq_23, hv_23, hd_23⟩
          show gg E _ 1 X 0 0 26 [some (.ref h)] [.int (b2i ok_23)] [gO h 10 (tF ad (upd (upd (upd (upd (upd (upd (upd (upd (upd iv 7 (nI us2_23)) 18 (nI n)) 19 (nI (en j_23))) 20 (tkT (ks j_23))) 21 (ps j_23)) 22 vl2_23) 23 wr2_23) 24 wa2_23) 26 dp2_23)), gA E (ad 15) 620 fr2_23, gA E (ad 17) 600 t]
          rcases rdT_two hq_23 with ⟨C_23, hr_23, rfl, rfl, rfl, rfl, rfl, b1_23, b2_23, b3_23⟩ | ⟨kd_23, ix_23, hr_23, rfl, rfl, rfl, b1_23, b2_23, b3_23, b4_23⟩
          · obtain rfl := hd_23 rfl
            refine g_if_ne (tgt := 31) C dX10_all_26 (by decide) (fun c26 => ?_) (fun c26 => absurd c26 (by decide))
            refine g_aload_n C dX10_all_31 rfl ?_
            refine g_sipush (v := nI 2006) C dX10_all_32 (by decide) ?_
            refine g_callV C (c_X10_lay E h ad (upd (upd (upd (upd (upd (upd (upd (upd iv 18 (nI n)) 19 (nI (en j_23))) 20 (tkT (ks j_23))) 21 (ps j_23)) 22 vl2_23) 23 wr) 24 wa) 26 (nI 0)) (us + C1.length + C_23.length) (cdW (cdW fr us (C1.map trJ)) (us + C1.length) (C_23.map trJ)) (nI 2006) (by omega)) gX10_all_X10_lay rfl 1 (by decide +kernel) ⟨by decide, by decide⟩ ⟨by decide, by decide⟩ 0 rfl rfl [0, 1] [2] (wr := [gA E (ad 17) 600 t]) rfl (by decide) rfl (by decide) (by decide) rfl rfl (Nat.le_of_ble_eq_true rfl) dX10_all_35 ?_
            rintro _ _ ⟨rfl, rfl⟩
            refine gg.perm (ws' := [gO h 10 (tF ad (upd (upd (upd (upd (upd (upd (upd (upd (upd iv 7 (nI ((us + C1.length + C_23.length) + 1))) 18 (nI n)) 19 (nI (en j_23))) 20 (tkT (ks j_23))) 21 (ps j_23)) 22 vl2_23) 23 wr) 24 wa) 26 (nI 0))), gA E (ad 15) 620 (upd (cdW (cdW fr us (C1.map trJ)) (us + C1.length) (C_23.map trJ)) (us + C1.length + C_23.length) (nI 2006)), gA E (ad 17) 600 t]) [1, 2, 0] (by decide) rfl ?_
            show gg E _ 1 X 0 0 38 [some (.ref h)] [] [gO h 10 (tF ad (upd (upd (upd (upd (upd (upd (upd (upd (upd iv 7 (nI ((us + C1.length + C_23.length) + 1))) 18 (nI n)) 19 (nI (en j_23))) 20 (tkT (ks j_23))) 21 (ps j_23)) 22 vl2_23) 23 wr) 24 wa) 26 (nI 0))), gA E (ad 15) 620 (upd (cdW (cdW fr us (C1.map trJ)) (us + C1.length) (C_23.map trJ)) (us + C1.length + C_23.length) (nI 2006)), gA E (ad 17) 600 t]
            rw [ln3 us C1 C_23 (nI 1004), cd3T fr us C1 C_23 (nI 1004) (nI 2006) (by decide)]
            refine g_goto (tgt := 9) C dX10_all_38 (by decide) ?_
            exact ih9 (it + 1) j_23 (f1 - 1) (C1 ++ C_23 ++ [nI 1004]) vl2_23 (by omega) (by omega) (by omega) (by omega) (by have := ln3 us C1 C_23 (nI 1004); omega) (by rw [g5, show f1 = f1 - 1 + 1 by omega, lpO, if_pos e15, hr_23]; rfl) (hv_23)
          · refine g_if_ne (tgt := 31) C dX10_all_26 (by decide) (fun c26 => absurd c26 (by decide)) (fun c26 => ?_)
            refine g_iconst (v := nI 0) C dX10_all_29 (by decide) ?_
            exact g_zret C Rt dX10_all_30 (by decide) (by decide) (by decide) (⟨false, _, _, _, _, _, _, _, rfl, rfl, rdT_er (by rw [g5, show f1 = f1 - 1 + 1 by omega, lpO, if_pos e15, hr_23]) (by omega) b2_23 (by omega) b4_23, hv_23, fun z => absurd z (by decide)⟩)
    exact L9 _ 0 j_1 601 C_1 vl2_1 (Nat.lt_succ_self _) (by omega) (by omega) (by omega) (by omega) (by rw [pAll, hr_1]; rfl) (hv_1)
  · refine g_if_ne (tgt := 9) C dX10_all_4 (by decide) (fun c4 => absurd c4 (by decide)) (fun c4 => ?_)
    refine g_iconst (v := nI 0) C dX10_all_7 (by decide) ?_
    exact g_zret C Rt dX10_all_8 (by decide) (by decide) (by decide) (⟨false, _, _, _, _, _, _, _, rfl, rfl, rdT_er (by rw [pAll, hr_1]; rfl) b1_1 b2_1 b3_1 b4_1, hv_1, fun z => absurd z (by decide)⟩)

abbrev rm_c_X10_any_8 : Room := { frames := 31, cells := 0, slots := 0, locals := 636 }
set_option maxHeartbeats 4000000 in
set_option maxRecDepth 100000 in
theorem c_X10_any_8 (E : gE) (h : Nat) (ad : Nat → Nat) (iv : Nat → Int32) (n cn us i : Nat) (en : Nat → Nat) (ks ps fr t : Nat → Int32) (vl wr wa : Int32) (hn : n ≤ 600) (hb : okY t n) (hL : twL t n cn ks ps en) (hK : ∀ q, q < cn → tkC (ks q)) (hend : ks (cn - 1) = nI 1011) (hcn : cn ≤ 601) (hi : i < cn) (hv : ¬ nI 999 < ks i → vl = ks i) (hus : us ≤ i) : MM E yX10_any wsX10_any rm_c_X10_any_8 [.ref h] [gO h 10 (tF ad (upd (upd (upd (upd (upd (upd (upd (upd (upd iv 7 (nI us)) 18 (nI n)) 19 (nI (en i))) 20 (tkT (ks i))) 21 (ps i)) 22 vl) 23 wr) 24 wa) 26 (nI 0))), gA E (ad 15) 620 fr, gA E (ad 17) 600 t] (fun rv_ ru_ => ∃ (ok : Bool) (j us2 : Nat) (fr2 : Nat → Int32) (vl2 wr2 wa2 dp2 : Int32), rv_ = some (.int (b2i ok)) ∧ ru_ = [gO h 10 (tF ad (upd (upd (upd (upd (upd (upd (upd (upd (upd iv 7 (nI us2)) 18 (nI n)) 19 (nI (en j))) 20 (tkT (ks j))) 21 (ps j)) 22 vl2) 23 wr2) 24 wa2) 26 dp2)), gA E (ad 15) 620 fr2, gA E (ad 17) 600 t] ∧ (rdQ (trR (pAny ks (pLv ks 8) i)) ps cn i us fr wr wa ok j us2 fr2 wr2 wa2) ∧ (¬ nI 999 < ks j → vl2 = ks j) ∧ (ok = true → dp2 = nI 0)) := by
  refine MM.ofG (cc := cX10_any) (maxL := 1) (ret := (some .boolean)) (by decide) rfl (Nat.le_of_ble_eq_true rfl) (ll := [some (.ref h)]) rfl ?_
  intro X C Rt
  have C : gx E X cX10_any 1 wsX10_any RX10 := C
  have i_X10 : ∀ w ∈ u_ws RX10 TX10 40, w ∈ wsX10_any := by decide +kernel
  have f_154 : Cond.fieldLink RX10 154 "MarkPagesModel" "token" "I" ∈ wsX10_any := by decide +kernel
  refine g_aload_n C dX10_any_0 rfl ?_
  refine g_callV C (c_X10_all_8 E h ad iv n cn us i en ks ps fr t vl wr wa (by omega) (hb) (hL) (hK) (hend) (by omega) (by omega) (hv) (by omega)) gX10_any_X10_all rfl 0 (by decide +kernel) ⟨by decide, by decide⟩ ⟨by decide, by decide⟩ 0 rfl rfl [0, 1, 2] [] (wr := []) rfl (by decide) rfl (by decide) (by decide) rfl rfl (Nat.le_of_ble_eq_true rfl) dX10_any_1 ?_
  rintro _ _ ⟨ok_1, j_1, us2_1, fr2_1, vl2_1, wr2_1, wa2_1, dp2_1, rfl, rfl, hq_1, hv_1, hd_1⟩
  show gg E _ 1 X 0 0 4 [some (.ref h)] [.int (b2i ok_1)] [gO h 10 (tF ad (upd (upd (upd (upd (upd (upd (upd (upd (upd iv 7 (nI us2_1)) 18 (nI n)) 19 (nI (en j_1))) 20 (tkT (ks j_1))) 21 (ps j_1)) 22 vl2_1) 23 wr2_1) 24 wa2_1) 26 dp2_1)), gA E (ad 15) 620 fr2_1, gA E (ad 17) 600 t]
  rcases rdT_two hq_1 with ⟨C_1, hr_1, rfl, rfl, rfl, rfl, rfl, b1_1, b2_1, b3_1⟩ | ⟨kd_1, ix_1, hr_1, rfl, rfl, rfl, b1_1, b2_1, b3_1, b4_1⟩
  · obtain rfl := hd_1 rfl
    refine g_if_ne (tgt := 9) C dX10_any_4 (by decide) (fun c4 => ?_) (fun c4 => absurd c4 (by decide))
    have L9 : ∀ (n9 : Nat) (it j1 f1 : Nat) (C1 : List Int32) (vl1 : Int32), cn - j1 < n9 → (j1 < cn) → (i + it ≤ j1) → (f1 + it = 601) → (C1.length + i ≤ j1) → (pAny ks (pLv ks 8) i = lpO ks (nI 1003) (pAll ks (pLv ks 8)) f1 j1 C1) → (¬ nI 999 < ks j1 → vl1 = ks j1) → gg E rm_c_X10_any_8 1 X 0 0 9 [some (.ref h)] [] [gO h 10 (tF ad (upd (upd (upd (upd (upd (upd (upd (upd (upd iv 7 (nI (us + C1.length))) 18 (nI n)) 19 (nI (en j1))) 20 (tkT (ks j1))) 21 (ps j1)) 22 vl1) 23 wr) 24 wa) 26 (nI 0))), gA E (ad 15) 620 (cdW fr us (C1.map trJ)), gA E (ad 17) 600 t] := by
      intro n9
      induction n9 with
      | zero => intro it j1 f1 C1 vl1 hm9; exact absurd hm9 (Nat.not_lt_zero _)
      | succ n9 ih9 =>
        intro it j1 f1 C1 vl1 hm9 g1 g2 g3 g4 g5 hv1
        refine g_aload_n C dX10_any_9 rfl ?_
        refine g_get C i_X10 0 20 f_154 rfl rfl (by decide) rfl rfl dX10_any_10 ?_
        refine g_bipush (v := nI 6) C dX10_any_13 (by decide) ?_
        refine g_icmp_ne (tgt := 41) C dX10_any_15 (by decide) (fun c15 => ?_) (fun c15 => ?_)
        · refine g_iconst (v := nI 1) C dX10_any_41 (by decide) ?_
          exact g_zret C Rt dX10_any_42 (by decide) (by decide) (by decide) (⟨true, _, _, _, _, _, _, _, rfl, rfl, rdT_ok (by rw [g5, show f1 = f1 - 1 + 1 by omega, lpO, if_neg (fun z => c15 ((tq6 (hK _ g1)).mpr z))]) (by omega) g1 (by omega) rfl rfl, hv1, fun _ => rfl⟩)
        · have e15 := (tq6 (hK _ g1)).mp c15
          have hn7 := not_end hend g1 e15 (by decide)
          refine g_aload_n C dX10_any_18 rfl ?_
          refine g_callV C (c_X10_nextT E h ad (upd (upd (upd (upd iv 7 (nI (us + C1.length))) 23 wr) 24 wa) 26 (nI 0)) n cn j1 en ks ps t (tkT (ks j1)) (ps j1) vl1 (by omega) (hb) (hL) (hn7)) gX10_any_X10_next0 rfl 0 (by decide +kernel) ⟨by decide, by decide⟩ ⟨by decide, by decide⟩ 0 rfl rfl [0, 2] [1] (wr := [gA E (ad 15) 620 (cdW fr us (C1.map trJ))]) rfl (by decide) rfl (by decide) (by decide) rfl rfl (Nat.le_of_ble_eq_true rfl) dX10_any_19 ?_
          rintro _ _ ⟨vl2_19, rfl, rfl, hv_19⟩
          refine gg.perm (ws' := [gO h 10 (tF ad (upd (upd (upd (upd (upd (upd (upd (upd (upd iv 7 (nI (us + C1.length))) 18 (nI n)) 19 (nI (en (j1 + 1)))) 20 (tkT (ks (j1 + 1)))) 21 (ps (j1 + 1))) 22 vl2_19) 23 wr) 24 wa) 26 (nI 0))), gA E (ad 15) 620 (cdW fr us (C1.map trJ)), gA E (ad 17) 600 t]) [1, 0, 2] (by decide) rfl ?_
          show gg E _ 1 X 0 0 22 [some (.ref h)] [] [gO h 10 (tF ad (upd (upd (upd (upd (upd (upd (upd (upd (upd iv 7 (nI (us + C1.length))) 18 (nI n)) 19 (nI (en (j1 + 1)))) 20 (tkT (ks (j1 + 1)))) 21 (ps (j1 + 1))) 22 vl2_19) 23 wr) 24 wa) 26 (nI 0))), gA E (ad 15) 620 (cdW fr us (C1.map trJ)), gA E (ad 17) 600 t]
          refine g_aload_n C dX10_any_22 rfl ?_
          refine g_callV C (c_X10_all_8 E h ad iv n cn (us + C1.length) (j1 + 1) en ks ps (cdW fr us (C1.map trJ)) t vl2_19 wr wa (by omega) (hb) (hL) (hK) (hend) (by omega) (by omega) (hv_19) (by omega)) gX10_any_X10_all rfl 0 (by decide +kernel) ⟨by decide, by decide⟩ ⟨by decide, by decide⟩ 0 rfl rfl [0, 1, 2] [] (wr := []) rfl (by decide) rfl (by decide) (by decide) rfl rfl (Nat.le_of_ble_eq_true rfl) dX10_any_23 ?_
          rintro _ _ ⟨ok_23, j_23, us2_23, fr2_23, vl2_23, wr2_23, wa2_23, dp2_23, rfl, rfl, hq_23, hv_23, hd_23⟩
          show gg E _ 1 X 0 0 26 [some (.ref h)] [.int (b2i ok_23)] [gO h 10 (tF ad (upd (upd (upd (upd (upd (upd (upd (upd (upd iv 7 (nI us2_23)) 18 (nI n)) 19 (nI (en j_23))) 20 (tkT (ks j_23))) 21 (ps j_23)) 22 vl2_23) 23 wr2_23) 24 wa2_23) 26 dp2_23)), gA E (ad 15) 620 fr2_23, gA E (ad 17) 600 t]
          rcases rdT_two hq_23 with ⟨C_23, hr_23, rfl, rfl, rfl, rfl, rfl, b1_23, b2_23, b3_23⟩ | ⟨kd_23, ix_23, hr_23, rfl, rfl, rfl, b1_23, b2_23, b3_23, b4_23⟩
          · obtain rfl := hd_23 rfl
            refine g_if_ne (tgt := 31) C dX10_any_26 (by decide) (fun c26 => ?_) (fun c26 => absurd c26 (by decide))
            refine g_aload_n C dX10_any_31 rfl ?_
            refine g_sipush (v := nI 2007) C dX10_any_32 (by decide) ?_
            refine g_callV C (c_X10_lay E h ad (upd (upd (upd (upd (upd (upd (upd (upd iv 18 (nI n)) 19 (nI (en j_23))) 20 (tkT (ks j_23))) 21 (ps j_23)) 22 vl2_23) 23 wr) 24 wa) 26 (nI 0)) (us + C1.length + C_23.length) (cdW (cdW fr us (C1.map trJ)) (us + C1.length) (C_23.map trJ)) (nI 2007) (by omega)) gX10_any_X10_lay rfl 1 (by decide +kernel) ⟨by decide, by decide⟩ ⟨by decide, by decide⟩ 0 rfl rfl [0, 1] [2] (wr := [gA E (ad 17) 600 t]) rfl (by decide) rfl (by decide) (by decide) rfl rfl (Nat.le_of_ble_eq_true rfl) dX10_any_35 ?_
            rintro _ _ ⟨rfl, rfl⟩
            refine gg.perm (ws' := [gO h 10 (tF ad (upd (upd (upd (upd (upd (upd (upd (upd (upd iv 7 (nI ((us + C1.length + C_23.length) + 1))) 18 (nI n)) 19 (nI (en j_23))) 20 (tkT (ks j_23))) 21 (ps j_23)) 22 vl2_23) 23 wr) 24 wa) 26 (nI 0))), gA E (ad 15) 620 (upd (cdW (cdW fr us (C1.map trJ)) (us + C1.length) (C_23.map trJ)) (us + C1.length + C_23.length) (nI 2007)), gA E (ad 17) 600 t]) [1, 2, 0] (by decide) rfl ?_
            show gg E _ 1 X 0 0 38 [some (.ref h)] [] [gO h 10 (tF ad (upd (upd (upd (upd (upd (upd (upd (upd (upd iv 7 (nI ((us + C1.length + C_23.length) + 1))) 18 (nI n)) 19 (nI (en j_23))) 20 (tkT (ks j_23))) 21 (ps j_23)) 22 vl2_23) 23 wr) 24 wa) 26 (nI 0))), gA E (ad 15) 620 (upd (cdW (cdW fr us (C1.map trJ)) (us + C1.length) (C_23.map trJ)) (us + C1.length + C_23.length) (nI 2007)), gA E (ad 17) 600 t]
            rw [ln3 us C1 C_23 (nI 1003), cd3T fr us C1 C_23 (nI 1003) (nI 2007) (by decide)]
            refine g_goto (tgt := 9) C dX10_any_38 (by decide) ?_
            exact ih9 (it + 1) j_23 (f1 - 1) (C1 ++ C_23 ++ [nI 1003]) vl2_23 (by omega) (by omega) (by omega) (by omega) (by have := ln3 us C1 C_23 (nI 1003); omega) (by rw [g5, show f1 = f1 - 1 + 1 by omega, lpO, if_pos e15, hr_23]; rfl) (hv_23)
          · refine g_if_ne (tgt := 31) C dX10_any_26 (by decide) (fun c26 => absurd c26 (by decide)) (fun c26 => ?_)
            refine g_iconst (v := nI 0) C dX10_any_29 (by decide) ?_
            exact g_zret C Rt dX10_any_30 (by decide) (by decide) (by decide) (⟨false, _, _, _, _, _, _, _, rfl, rfl, rdT_er (by rw [g5, show f1 = f1 - 1 + 1 by omega, lpO, if_pos e15, hr_23]) (by omega) b2_23 (by omega) b4_23, hv_23, fun z => absurd z (by decide)⟩)
    exact L9 _ 0 j_1 601 C_1 vl2_1 (Nat.lt_succ_self _) (by omega) (by omega) (by omega) (by omega) (by rw [pAny, hr_1]; rfl) (hv_1)
  · refine g_if_ne (tgt := 9) C dX10_any_4 (by decide) (fun c4 => absurd c4 (by decide)) (fun c4 => ?_)
    refine g_iconst (v := nI 0) C dX10_any_7 (by decide) ?_
    exact g_zret C Rt dX10_any_8 (by decide) (by decide) (by decide) (⟨false, _, _, _, _, _, _, _, rfl, rfl, rdT_er (by rw [pAny, hr_1]; rfl) b1_1 b2_1 b3_1 b4_1, hv_1, fun z => absurd z (by decide)⟩)

