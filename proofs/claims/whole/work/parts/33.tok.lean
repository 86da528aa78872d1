/-! TOKENS of the class -/

abbrev rm_c_X8_familyOf : Room := { frames := 0, cells := 0, slots := 0, locals := 0 }
set_option maxHeartbeats 4000000 in
set_option maxRecDepth 100000 in
theorem c_X8_familyOf (E : gE) (b : Int32)  : MM E yX8_familyOf wsX8_familyOf rm_c_X8_familyOf [.int b] [] (fun rv_ ru_ => rv_ = some (.int (nI (famN b))) ∧ ru_ = []) := by
  refine MM.ofG (cc := cX8_familyOf) (maxL := 1) (ret := (some .int)) (by decide) rfl (Nat.le_of_ble_eq_true rfl) (ll := [some (.int b)]) rfl ?_
  intro X C Rt
  have C : gx E X cX8_familyOf 1 wsX8_familyOf RX8 := C
  refine g_iload_n C dX8_familyOf_0 rfl ?_
  refine g_bipush (v := nI 32) C dX8_familyOf_1 (by decide) ?_
  refine g_icmp_eq (tgt := 12) C dX8_familyOf_3 (by decide) (fun c3 => ?_) (fun c3 => ?_)
  · refine g_iconst (v := nI 0) C dX8_familyOf_12 (by decide) ?_
    exact g_iret C Rt dX8_familyOf_13 (by decide) (by decide) (⟨by rw [famN, if_pos (Or.inl c3)], rfl⟩)
  · refine g_iload_n C dX8_familyOf_6 rfl ?_
    refine g_bipush (v := nI 10) C dX8_familyOf_7 (by decide) ?_
    refine g_icmp_ne (tgt := 14) C dX8_familyOf_9 (by decide) (fun c9 => ?_) (fun c9 => ?_)
    · refine g_iload_n C dX8_familyOf_14 rfl ?_
      refine g_bipush (v := nI 97) C dX8_familyOf_15 (by decide) ?_
      refine g_icmp_lt (tgt := 26) C dX8_familyOf_17 (by decide) (fun c17 => ?_) (fun c17 => ?_)
      · refine g_iload_n C dX8_familyOf_26 rfl ?_
        refine g_bipush (v := nI 65) C dX8_familyOf_27 (by decide) ?_
        refine g_icmp_lt (tgt := 40) C dX8_familyOf_29 (by decide) (fun c29 => ?_) (fun c29 => ?_)
        · refine g_iload_n C dX8_familyOf_40 rfl ?_
          refine g_bipush (v := nI 48) C dX8_familyOf_41 (by decide) ?_
          refine g_icmp_lt (tgt := 56) C dX8_familyOf_43 (by decide) (fun c43 => ?_) (fun c43 => ?_)
          · refine g_iconst (v := nI 3) C dX8_familyOf_56 (by decide) ?_
            exact g_iret C Rt dX8_familyOf_57 (by decide) (by decide) (⟨by rw [famN, if_neg (fun z => z.elim c3 c9), if_neg (fun z => z.elim (fun y => y.1 c17) (fun y => y.1 c29)), if_neg (fun y => y.1 c43)], rfl⟩)
          · refine g_iload_n C dX8_familyOf_46 rfl ?_
            refine g_bipush (v := nI 57) C dX8_familyOf_47 (by decide) ?_
            refine g_icmp_gt (tgt := 56) C dX8_familyOf_49 (by decide) (fun c49 => ?_) (fun c49 => ?_)
            · refine g_iconst (v := nI 3) C dX8_familyOf_56 (by decide) ?_
              exact g_iret C Rt dX8_familyOf_57 (by decide) (by decide) (⟨by rw [famN, if_neg (fun z => z.elim c3 c9), if_neg (fun z => z.elim (fun y => y.1 c17) (fun y => y.1 c29)), if_neg (fun y => y.2 c49)], rfl⟩)
            · refine g_iconst (v := nI 2) C dX8_familyOf_52 (by decide) ?_
              refine g_goto (tgt := 57) C dX8_familyOf_53 (by decide) ?_
              exact g_iret C Rt dX8_familyOf_57 (by decide) (by decide) (⟨by rw [famN, if_neg (fun z => z.elim c3 c9), if_neg (fun z => z.elim (fun y => y.1 c17) (fun y => y.1 c29)), if_pos ⟨c43, c49⟩], rfl⟩)
        · refine g_iload_n C dX8_familyOf_32 rfl ?_
          refine g_bipush (v := nI 90) C dX8_familyOf_33 (by decide) ?_
          refine g_icmp_gt (tgt := 40) C dX8_familyOf_35 (by decide) (fun c35 => ?_) (fun c35 => ?_)
          · refine g_iload_n C dX8_familyOf_40 rfl ?_
            refine g_bipush (v := nI 48) C dX8_familyOf_41 (by decide) ?_
            refine g_icmp_lt (tgt := 56) C dX8_familyOf_43 (by decide) (fun c43 => ?_) (fun c43 => ?_)
            · refine g_iconst (v := nI 3) C dX8_familyOf_56 (by decide) ?_
              exact g_iret C Rt dX8_familyOf_57 (by decide) (by decide) (⟨by rw [famN, if_neg (fun z => z.elim c3 c9), if_neg (fun z => z.elim (fun y => y.1 c17) (fun y => y.2 c35)), if_neg (fun y => y.1 c43)], rfl⟩)
            · refine g_iload_n C dX8_familyOf_46 rfl ?_
              refine g_bipush (v := nI 57) C dX8_familyOf_47 (by decide) ?_
              refine g_icmp_gt (tgt := 56) C dX8_familyOf_49 (by decide) (fun c49 => ?_) (fun c49 => ?_)
              · refine g_iconst (v := nI 3) C dX8_familyOf_56 (by decide) ?_
                exact g_iret C Rt dX8_familyOf_57 (by decide) (by decide) (⟨by rw [famN, if_neg (fun z => z.elim c3 c9), if_neg (fun z => z.elim (fun y => y.1 c17) (fun y => y.2 c35)), if_neg (fun y => y.2 c49)], rfl⟩)
              · refine g_iconst (v := nI 2) C dX8_familyOf_52 (by decide) ?_
                refine g_goto (tgt := 57) C dX8_familyOf_53 (by decide) ?_
                exact g_iret C Rt dX8_familyOf_57 (by decide) (by decide) (⟨by rw [famN, if_neg (fun z => z.elim c3 c9), if_neg (fun z => z.elim (fun y => y.1 c17) (fun y => y.2 c35)), if_pos ⟨c43, c49⟩], rfl⟩)
          · refine g_iconst (v := nI 1) C dX8_familyOf_38 (by decide) ?_
            exact g_iret C Rt dX8_familyOf_39 (by decide) (by decide) (⟨by rw [famN, if_neg (fun z => z.elim c3 c9), if_pos (Or.inr ⟨c29, c35⟩)], rfl⟩)
      · refine g_iload_n C dX8_familyOf_20 rfl ?_
        refine g_bipush (v := nI 122) C dX8_familyOf_21 (by decide) ?_
        refine g_icmp_le (tgt := 38) C dX8_familyOf_23 (by decide) (fun c23 => ?_) (fun c23 => ?_)
        · refine g_iconst (v := nI 1) C dX8_familyOf_38 (by decide) ?_
          exact g_iret C Rt dX8_familyOf_39 (by decide) (by decide) (⟨by rw [famN, if_neg (fun z => z.elim c3 c9), if_pos (Or.inl ⟨c17, c23⟩)], rfl⟩)
        · refine g_iload_n C dX8_familyOf_26 rfl ?_
          refine g_bipush (v := nI 65) C dX8_familyOf_27 (by decide) ?_
          refine g_icmp_lt (tgt := 40) C dX8_familyOf_29 (by decide) (fun c29 => ?_) (fun c29 => ?_)
          · refine g_iload_n C dX8_familyOf_40 rfl ?_
            refine g_bipush (v := nI 48) C dX8_familyOf_41 (by decide) ?_
            refine g_icmp_lt (tgt := 56) C dX8_familyOf_43 (by decide) (fun c43 => ?_) (fun c43 => ?_)
            · refine g_iconst (v := nI 3) C dX8_familyOf_56 (by decide) ?_
              exact g_iret C Rt dX8_familyOf_57 (by decide) (by decide) (⟨by rw [famN, if_neg (fun z => z.elim c3 c9), if_neg (fun z => z.elim (fun y => c23 y.2) (fun y => y.1 c29)), if_neg (fun y => y.1 c43)], rfl⟩)
            · refine g_iload_n C dX8_familyOf_46 rfl ?_
              refine g_bipush (v := nI 57) C dX8_familyOf_47 (by decide) ?_
              refine g_icmp_gt (tgt := 56) C dX8_familyOf_49 (by decide) (fun c49 => ?_) (fun c49 => ?_)
              · refine g_iconst (v := nI 3) C dX8_familyOf_56 (by decide) ?_
                exact g_iret C Rt dX8_familyOf_57 (by decide) (by decide) (⟨by rw [famN, if_neg (fun z => z.elim c3 c9), if_neg (fun z => z.elim (fun y => c23 y.2) (fun y => y.1 c29)), if_neg (fun y => y.2 c49)], rfl⟩)
              · refine g_iconst (v := nI 2) C dX8_familyOf_52 (by decide) ?_
                refine g_goto (tgt := 57) C dX8_familyOf_53 (by decide) ?_
                exact g_iret C Rt dX8_familyOf_57 (by decide) (by decide) (⟨by rw [famN, if_neg (fun z => z.elim c3 c9), if_neg (fun z => z.elim (fun y => c23 y.2) (fun y => y.1 c29)), if_pos ⟨c43, c49⟩], rfl⟩)
          · refine g_iload_n C dX8_familyOf_32 rfl ?_
            refine g_bipush (v := nI 90) C dX8_familyOf_33 (by decide) ?_
            refine g_icmp_gt (tgt := 40) C dX8_familyOf_35 (by decide) (fun c35 => ?_) (fun c35 => ?_)
            · refine g_iload_n C dX8_familyOf_40 rfl ?_
              refine g_bipush (v := nI 48) C dX8_familyOf_41 (by decide) ?_
              refine g_icmp_lt (tgt := 56) C dX8_familyOf_43 (by decide) (fun c43 => ?_) (fun c43 => ?_)
              · refine g_iconst (v := nI 3) C dX8_familyOf_56 (by decide) ?_
                exact g_iret C Rt dX8_familyOf_57 (by decide) (by decide) (⟨by rw [famN, if_neg (fun z => z.elim c3 c9), if_neg (fun z => z.elim (fun y => c23 y.2) (fun y => y.2 c35)), if_neg (fun y => y.1 c43)], rfl⟩)
              · refine g_iload_n C dX8_familyOf_46 rfl ?_
                refine g_bipush (v := nI 57) C dX8_familyOf_47 (by decide) ?_
                refine g_icmp_gt (tgt := 56) C dX8_familyOf_49 (by decide) (fun c49 => ?_) (fun c49 => ?_)
                · refine g_iconst (v := nI 3) C dX8_familyOf_56 (by decide) ?_
                  exact g_iret C Rt dX8_familyOf_57 (by decide) (by decide) (⟨by rw [famN, if_neg (fun z => z.elim c3 c9), if_neg (fun z => z.elim (fun y => c23 y.2) (fun y => y.2 c35)), if_neg (fun y => y.2 c49)], rfl⟩)
                · refine g_iconst (v := nI 2) C dX8_familyOf_52 (by decide) ?_
                  refine g_goto (tgt := 57) C dX8_familyOf_53 (by decide) ?_
                  exact g_iret C Rt dX8_familyOf_57 (by decide) (by decide) (⟨by rw [famN, if_neg (fun z => z.elim c3 c9), if_neg (fun z => z.elim (fun y => c23 y.2) (fun y => y.2 c35)), if_pos ⟨c43, c49⟩], rfl⟩)
            · refine g_iconst (v := nI 1) C dX8_familyOf_38 (by decide) ?_
              exact g_iret C Rt dX8_familyOf_39 (by decide) (by decide) (⟨by rw [famN, if_neg (fun z => z.elim c3 c9), if_pos (Or.inr ⟨c29, c35⟩)], rfl⟩)
    · refine g_iconst (v := nI 0) C dX8_familyOf_12 (by decide) ?_
      exact g_iret C Rt dX8_familyOf_13 (by decide) (by decide) (⟨by rw [famN, if_pos (Or.inr c9)], rfl⟩)

abbrev rm_c_X8_signOf : Room := { frames := 0, cells := 0, slots := 0, locals := 0 }
set_option maxHeartbeats 4000000 in
set_option maxRecDepth 100000 in
theorem c_X8_signOf (E : gE) (b : Int32)  : MM E yX8_signOf wsX8_signOf rm_c_X8_signOf [.int b] [] (fun rv_ ru_ => rv_ = some (.int (sgC b)) ∧ ru_ = []) := by
  refine MM.ofG (cc := cX8_signOf) (maxL := 1) (ret := (some .int)) (by decide) rfl (Nat.le_of_ble_eq_true rfl) (ll := [some (.int b)]) rfl ?_
  intro X C Rt
  have C : gx E X cX8_signOf 1 wsX8_signOf RX8 := C
  refine g_iload_n C dX8_signOf_0 rfl ?_
  by_cases s1_0 : b = nI 40
  · refine g_tableIn (off := 107) (tgt := 108) C dX8_signOf_1 (by rw [s1_0]; decide) (by rw [s1_0]; decide) (by rw [s1_0]; rfl) (by decide) ?_
    refine g_sipush (v := nI 1100) C dX8_signOf_108 (by decide) ?_
    refine g_iload_n C dX8_signOf_111 rfl ?_
    refine g_iadd C dX8_signOf_112 ?_
    exact g_iret C Rt dX8_signOf_113 (by decide) (by decide) (⟨by rw [sgC, if_pos (by rw [s1_0]; decide)], rfl⟩)
  by_cases s1_1 : b = nI 41
  · refine g_tableIn (off := 107) (tgt := 108) C dX8_signOf_1 (by rw [s1_1]; decide) (by rw [s1_1]; decide) (by rw [s1_1]; rfl) (by decide) ?_
    refine g_sipush (v := nI 1100) C dX8_signOf_108 (by decide) ?_
    refine g_iload_n C dX8_signOf_111 rfl ?_
    refine g_iadd C dX8_signOf_112 ?_
    exact g_iret C Rt dX8_signOf_113 (by decide) (by decide) (⟨by rw [sgC, if_pos (by rw [s1_1]; decide)], rfl⟩)
  by_cases s1_2 : b = nI 42
  · refine g_tableIn (off := 113) (tgt := 114) C dX8_signOf_1 (by rw [s1_2]; decide) (by rw [s1_2]; decide) (by rw [s1_2]; rfl) (by decide) ?_
    refine g_sipush (v := nI 1012) C dX8_signOf_114 (by decide) ?_
    exact g_iret C Rt dX8_signOf_117 (by decide) (by decide) (⟨by rw [sgC, if_neg (by rw [s1_2]; decide)], rfl⟩)
  by_cases s1_3 : b = nI 43
  · refine g_tableIn (off := 107) (tgt := 108) C dX8_signOf_1 (by rw [s1_3]; decide) (by rw [s1_3]; decide) (by rw [s1_3]; rfl) (by decide) ?_
    refine g_sipush (v := nI 1100) C dX8_signOf_108 (by decide) ?_
    refine g_iload_n C dX8_signOf_111 rfl ?_
    refine g_iadd C dX8_signOf_112 ?_
    exact g_iret C Rt dX8_signOf_113 (by decide) (by decide) (⟨by rw [sgC, if_pos (by rw [s1_3]; decide)], rfl⟩)
  by_cases s1_4 : b = nI 44
  · refine g_tableIn (off := 113) (tgt := 114) C dX8_signOf_1 (by rw [s1_4]; decide) (by rw [s1_4]; decide) (by rw [s1_4]; rfl) (by decide) ?_
    refine g_sipush (v := nI 1012) C dX8_signOf_114 (by decide) ?_
    exact g_iret C Rt dX8_signOf_117 (by decide) (by decide) (⟨by rw [sgC, if_neg (by rw [s1_4]; decide)], rfl⟩)
  by_cases s1_5 : b = nI 45
  · refine g_tableIn (off := 107) (tgt := 108) C dX8_signOf_1 (by rw [s1_5]; decide) (by rw [s1_5]; decide) (by rw [s1_5]; rfl) (by decide) ?_
    refine g_sipush (v := nI 1100) C dX8_signOf_108 (by decide) ?_
    refine g_iload_n C dX8_signOf_111 rfl ?_
    refine g_iadd C dX8_signOf_112 ?_
    exact g_iret C Rt dX8_signOf_113 (by decide) (by decide) (⟨by rw [sgC, if_pos (by rw [s1_5]; decide)], rfl⟩)
  by_cases s1_6 : b = nI 46
  · refine g_tableIn (off := 113) (tgt := 114) C dX8_signOf_1 (by rw [s1_6]; decide) (by rw [s1_6]; decide) (by rw [s1_6]; rfl) (by decide) ?_
    refine g_sipush (v := nI 1012) C dX8_signOf_114 (by decide) ?_
    exact g_iret C Rt dX8_signOf_117 (by decide) (by decide) (⟨by rw [sgC, if_neg (by rw [s1_6]; decide)], rfl⟩)
  by_cases s1_7 : b = nI 47
  · refine g_tableIn (off := 113) (tgt := 114) C dX8_signOf_1 (by rw [s1_7]; decide) (by rw [s1_7]; decide) (by rw [s1_7]; rfl) (by decide) ?_
    refine g_sipush (v := nI 1012) C dX8_signOf_114 (by decide) ?_
    exact g_iret C Rt dX8_signOf_117 (by decide) (by decide) (⟨by rw [sgC, if_neg (by rw [s1_7]; decide)], rfl⟩)
  by_cases s1_8 : b = nI 48
  · refine g_tableIn (off := 113) (tgt := 114) C dX8_signOf_1 (by rw [s1_8]; decide) (by rw [s1_8]; decide) (by rw [s1_8]; rfl) (by decide) ?_
    refine g_sipush (v := nI 1012) C dX8_signOf_114 (by decide) ?_
    exact g_iret C Rt dX8_signOf_117 (by decide) (by decide) (⟨by rw [sgC, if_neg (by rw [s1_8]; decide)], rfl⟩)
  by_cases s1_9 : b = nI 49
  · refine g_tableIn (off := 113) (tgt := 114) C dX8_signOf_1 (by rw [s1_9]; decide) (by rw [s1_9]; decide) (by rw [s1_9]; rfl) (by decide) ?_
    refine g_sipush (v := nI 1012) C dX8_signOf_114 (by decide) ?_
    exact g_iret C Rt dX8_signOf_117 (by decide) (by decide) (⟨by rw [sgC, if_neg (by rw [s1_9]; decide)], rfl⟩)
  by_cases s1_10 : b = nI 50
  · refine g_tableIn (off := 113) (tgt := 114) C dX8_signOf_1 (by rw [s1_10]; decide) (by rw [s1_10]; decide) (by rw [s1_10]; rfl) (by decide) ?_
    refine g_sipush (v := nI 1012) C dX8_signOf_114 (by decide) ?_
    exact g_iret C Rt dX8_signOf_117 (by decide) (by decide) (⟨by rw [sgC, if_neg (by rw [s1_10]; decide)], rfl⟩)
  by_cases s1_11 : b = nI 51
  · refine g_tableIn (off := 113) (tgt := 114) C dX8_signOf_1 (by rw [s1_11]; decide) (by rw [s1_11]; decide) (by rw [s1_11]; rfl) (by decide) ?_
    refine g_sipush (v := nI 1012) C dX8_signOf_114 (by decide) ?_
    exact g_iret C Rt dX8_signOf_117 (by decide) (by decide) (⟨by rw [sgC, if_neg (by rw [s1_11]; decide)], rfl⟩)
  by_cases s1_12 : b = nI 52
  · refine g_tableIn (off := 113) (tgt := 114) C dX8_signOf_1 (by rw [s1_12]; decide) (by rw [s1_12]; decide) (by rw [s1_12]; rfl) (by decide) ?_
    refine g_sipush (v := nI 1012) C dX8_signOf_114 (by decide) ?_
    exact g_iret C Rt dX8_signOf_117 (by decide) (by decide) (⟨by rw [sgC, if_neg (by rw [s1_12]; decide)], rfl⟩)
  by_cases s1_13 : b = nI 53
  · refine g_tableIn (off := 113) (tgt := 114) C dX8_signOf_1 (by rw [s1_13]; decide) (by rw [s1_13]; decide) (by rw [s1_13]; rfl) (by decide) ?_
    refine g_sipush (v := nI 1012) C dX8_signOf_114 (by decide) ?_
    exact g_iret C Rt dX8_signOf_117 (by decide) (by decide) (⟨by rw [sgC, if_neg (by rw [s1_13]; decide)], rfl⟩)
  by_cases s1_14 : b = nI 54
  · refine g_tableIn (off := 113) (tgt := 114) C dX8_signOf_1 (by rw [s1_14]; decide) (by rw [s1_14]; decide) (by rw [s1_14]; rfl) (by decide) ?_
    refine g_sipush (v := nI 1012) C dX8_signOf_114 (by decide) ?_
    exact g_iret C Rt dX8_signOf_117 (by decide) (by decide) (⟨by rw [sgC, if_neg (by rw [s1_14]; decide)], rfl⟩)
  by_cases s1_15 : b = nI 55
  · refine g_tableIn (off := 113) (tgt := 114) C dX8_signOf_1 (by rw [s1_15]; decide) (by rw [s1_15]; decide) (by rw [s1_15]; rfl) (by decide) ?_
    refine g_sipush (v := nI 1012) C dX8_signOf_114 (by decide) ?_
    exact g_iret C Rt dX8_signOf_117 (by decide) (by decide) (⟨by rw [sgC, if_neg (by rw [s1_15]; decide)], rfl⟩)
  by_cases s1_16 : b = nI 56
  · refine g_tableIn (off := 113) (tgt := 114) C dX8_signOf_1 (by rw [s1_16]; decide) (by rw [s1_16]; decide) (by rw [s1_16]; rfl) (by decide) ?_
    refine g_sipush (v := nI 1012) C dX8_signOf_114 (by decide) ?_
    exact g_iret C Rt dX8_signOf_117 (by decide) (by decide) (⟨by rw [sgC, if_neg (by rw [s1_16]; decide)], rfl⟩)
  by_cases s1_17 : b = nI 57
  · refine g_tableIn (off := 113) (tgt := 114) C dX8_signOf_1 (by rw [s1_17]; decide) (by rw [s1_17]; decide) (by rw [s1_17]; rfl) (by decide) ?_
    refine g_sipush (v := nI 1012) C dX8_signOf_114 (by decide) ?_
    exact g_iret C Rt dX8_signOf_117 (by decide) (by decide) (⟨by rw [sgC, if_neg (by rw [s1_17]; decide)], rfl⟩)
  by_cases s1_18 : b = nI 58
  · refine g_tableIn (off := 113) (tgt := 114) C dX8_signOf_1 (by rw [s1_18]; decide) (by rw [s1_18]; decide) (by rw [s1_18]; rfl) (by decide) ?_
    refine g_sipush (v := nI 1012) C dX8_signOf_114 (by decide) ?_
    exact g_iret C Rt dX8_signOf_117 (by decide) (by decide) (⟨by rw [sgC, if_neg (by rw [s1_18]; decide)], rfl⟩)
  by_cases s1_19 : b = nI 59
  · refine g_tableIn (off := 107) (tgt := 108) C dX8_signOf_1 (by rw [s1_19]; decide) (by rw [s1_19]; decide) (by rw [s1_19]; rfl) (by decide) ?_
    refine g_sipush (v := nI 1100) C dX8_signOf_108 (by decide) ?_
    refine g_iload_n C dX8_signOf_111 rfl ?_
    refine g_iadd C dX8_signOf_112 ?_
    exact g_iret C Rt dX8_signOf_113 (by decide) (by decide) (⟨by rw [sgC, if_pos (by rw [s1_19]; decide)], rfl⟩)
  by_cases s1_20 : b = nI 60
  · refine g_tableIn (off := 107) (tgt := 108) C dX8_signOf_1 (by rw [s1_20]; decide) (by rw [s1_20]; decide) (by rw [s1_20]; rfl) (by decide) ?_
    refine g_sipush (v := nI 1100) C dX8_signOf_108 (by decide) ?_
    refine g_iload_n C dX8_signOf_111 rfl ?_
    refine g_iadd C dX8_signOf_112 ?_
    exact g_iret C Rt dX8_signOf_113 (by decide) (by decide) (⟨by rw [sgC, if_pos (by rw [s1_20]; decide)], rfl⟩)
  by_cases s1_21 : b = nI 61
  · refine g_tableIn (off := 107) (tgt := 108) C dX8_signOf_1 (by rw [s1_21]; decide) (by rw [s1_21]; decide) (by rw [s1_21]; rfl) (by decide) ?_
    refine g_sipush (v := nI 1100) C dX8_signOf_108 (by decide) ?_
    refine g_iload_n C dX8_signOf_111 rfl ?_
    refine g_iadd C dX8_signOf_112 ?_
    exact g_iret C Rt dX8_signOf_113 (by decide) (by decide) (⟨by rw [sgC, if_pos (by rw [s1_21]; decide)], rfl⟩)
  by_cases s1_22 : b = nI 62
  · refine g_tableIn (off := 107) (tgt := 108) C dX8_signOf_1 (by rw [s1_22]; decide) (by rw [s1_22]; decide) (by rw [s1_22]; rfl) (by decide) ?_
    refine g_sipush (v := nI 1100) C dX8_signOf_108 (by decide) ?_
    refine g_iload_n C dX8_signOf_111 rfl ?_
    refine g_iadd C dX8_signOf_112 ?_
    exact g_iret C Rt dX8_signOf_113 (by decide) (by decide) (⟨by rw [sgC, if_pos (by rw [s1_22]; decide)], rfl⟩)
  refine g_tableOut (tgt := 114) C dX8_signOf_1 (by have e0 := ne_toInt (by decide) (show ¬ b = nI 40 from s1_0); have e1 := ne_toInt (by decide) (show ¬ b = nI 41 from s1_1); have e2 := ne_toInt (by decide) (show ¬ b = nI 42 from s1_2); have e3 := ne_toInt (by decide) (show ¬ b = nI 43 from s1_3); have e4 := ne_toInt (by decide) (show ¬ b = nI 44 from s1_4); have e5 := ne_toInt (by decide) (show ¬ b = nI 45 from s1_5); have e6 := ne_toInt (by decide) (show ¬ b = nI 46 from s1_6); have e7 := ne_toInt (by decide) (show ¬ b = nI 47 from s1_7); have e8 := ne_toInt (by decide) (show ¬ b = nI 48 from s1_8); have e9 := ne_toInt (by decide) (show ¬ b = nI 49 from s1_9); have e10 := ne_toInt (by decide) (show ¬ b = nI 50 from s1_10); have e11 := ne_toInt (by decide) (show ¬ b = nI 51 from s1_11); have e12 := ne_toInt (by decide) (show ¬ b = nI 52 from s1_12); have e13 := ne_toInt (by decide) (show ¬ b = nI 53 from s1_13); have e14 := ne_toInt (by decide) (show ¬ b = nI 54 from s1_14); have e15 := ne_toInt (by decide) (show ¬ b = nI 55 from s1_15); have e16 := ne_toInt (by decide) (show ¬ b = nI 56 from s1_16); have e17 := ne_toInt (by decide) (show ¬ b = nI 57 from s1_17); have e18 := ne_toInt (by decide) (show ¬ b = nI 58 from s1_18); have e19 := ne_toInt (by decide) (show ¬ b = nI 59 from s1_19); have e20 := ne_toInt (by decide) (show ¬ b = nI 60 from s1_20); have e21 := ne_toInt (by decide) (show ¬ b = nI 61 from s1_21); have e22 := ne_toInt (by decide) (show ¬ b = nI 62 from s1_22); omega) (by decide) ?_
  refine g_sipush (v := nI 1012) C dX8_signOf_114 (by decide) ?_
  exact g_iret C Rt dX8_signOf_117 (by decide) (by decide) (⟨by rw [sgC, if_neg (fun z => z.elim (fun z => s1_0 z) (fun z => z.elim (fun z => s1_1 z) (fun z => z.elim (fun z => s1_3 z) (fun z => z.elim (fun z => s1_5 z) (fun z => z.elim (fun z => s1_19 z) (fun z => z.elim (fun z => s1_20 z) (fun z => z.elim (fun z => s1_21 z) (fun z => s1_22 z))))))))], rfl⟩)

abbrev rm_c_X8_numberOf : Room := { frames := 0, cells := 0, slots := 0, locals := 0 }
set_option maxHeartbeats 4000000 in
set_option maxRecDepth 100000 in
theorem c_X8_numberOf (E : gE) (th tb n : Nat) (t : Nat → Int32) (a e : Nat) (hn : n ≤ 600) (ha : a ≤ e) (he : e ≤ n) : MM E yX8_numberOf wsX8_numberOf rm_c_X8_numberOf [.ref th, .int (nI a), .int (nI e)] [gO th 6 [.ref tb, .int (nI n)], gA E tb 600 t] (fun rv_ ru_ => rv_ = some (.int (nuC t a e)) ∧ ru_ = [gO th 6 [.ref tb, .int (nI n)], gA E tb 600 t]) := by
  refine MM.ofG (cc := cX8_numberOf) (maxL := 5) (ret := (some .int)) (by decide) rfl (Nat.le_of_ble_eq_true rfl) (ll := [some (.ref th), some (.int (nI a)), some (.int (nI e)), none, none]) rfl ?_
  intro X C Rt
  have C : gx E X cX8_numberOf 5 wsX8_numberOf RX8 := C
  have i_X6 : ∀ w ∈ u_ws RX6 TX6 2, w ∈ wsX8_numberOf := by decide +kernel
  have f_37 : Cond.fieldLink RX8 37 "MarkPages$Tape" "bytes" "[I" ∈ wsX8_numberOf := by decide +kernel
  refine g_iload_n C dX8_numberOf_0 rfl ?_
  refine g_iload_n C dX8_numberOf_1 rfl ?_
  refine g_isub_n C dX8_numberOf_2 (by omega) ?_
  refine g_iconst (v := nI 3) C dX8_numberOf_3 (by decide) ?_
  refine g_icmp_le_n (tgt := 11) C dX8_numberOf_4 (by decide) (by omega) (by omega) (fun c4 => ?_) (fun c4 => ?_)
  · refine g_iconst (v := nI 0) C dX8_numberOf_11 (by decide) ?_
    refine g_istore_n C dX8_numberOf_12 (by decide) rfl (ll' := [some (.ref th), some (.int (nI a)), some (.int (nI e)), some (.int (nI 0)), none]) rfl ?_
    refine g_iload_n C dX8_numberOf_13 rfl ?_
    refine g_istore C dX8_numberOf_14 (by decide) rfl (ll' := [some (.ref th), some (.int (nI a)), some (.int (nI e)), some (.int (nI 0)), some (.int (nI a))]) rfl ?_
    have L16 : ∀ (n16 : Nat) (j : Nat) (v : Int32), e - a - j < n16 → (a + j ≤ e) → (v = nuL t a j) → gg E rm_c_X8_numberOf 5 X 0 0 16 [some (.ref th), some (.int (nI a)), some (.int (nI e)), some (.int v), some (.int (nI (a + j)))] [] [gO th 6 [.ref tb, .int (nI n)], gA E tb 600 t] := by
      intro n16
      induction n16 with
      | zero => intro j v hm16; exact absurd hm16 (Nat.not_lt_zero _)
      | succ n16 ih16 =>
        intro j v hm16 hj hv
        refine g_iload C dX8_numberOf_16 rfl ?_
        refine g_iload_n C dX8_numberOf_18 rfl ?_
        refine g_icmp_ge_n (tgt := 44) C dX8_numberOf_19 (by decide) (by omega) (by omega) (fun c19 => ?_) (fun c19 => ?_)
        · refine g_iload_n C dX8_numberOf_44 rfl ?_
          exact g_iret C Rt dX8_numberOf_45 (by decide) (by decide) (⟨by rw [nuC, if_neg (by omega), hv, show j = e - a by omega], rfl⟩)
        · refine g_iload_n C dX8_numberOf_22 rfl ?_
          refine g_bipush (v := nI 10) C dX8_numberOf_23 (by decide) ?_
          refine g_imul C dX8_numberOf_25 ?_
          refine g_aload_n C dX8_numberOf_26 rfl ?_
          refine g_get C i_X6 0 0 f_37 rfl rfl (by decide) rfl rfl dX8_numberOf_27 ?_
          refine g_iload C dX8_numberOf_30 rfl ?_
          refine g_iald C 1 (a + j) rfl rfl (by omega) (by decide) dX8_numberOf_32 ?_
          refine g_iadd C dX8_numberOf_33 ?_
          refine g_bipush (v := nI 48) C dX8_numberOf_34 (by decide) ?_
          refine g_isub C dX8_numberOf_36 ?_
          refine g_istore_n C dX8_numberOf_37 (by decide) rfl (ll' := [some (.ref th), some (.int (nI a)), some (.int (nI e)), some (.int (((v * (nI 10)) + (t (a + j))) - (nI 48))), some (.int (nI (a + j)))]) rfl ?_
          refine g_iinc_n (y := 1) C dX8_numberOf_38 rfl (by decide) (by decide) rfl (ll' := [some (.ref th), some (.int (nI a)), some (.int (nI e)), some (.int (((v * (nI 10)) + (t (a + j))) - (nI 48))), some (.int (nI ((a + j) + 1)))]) rfl ?_
          refine g_goto (tgt := 16) C dX8_numberOf_41 (by decide) ?_
          exact ih16 (j + 1) (((v * (nI 10)) + (t (a + j))) - (nI 48)) (by omega) (by omega) (by rw [hv, nuL])
    exact L16 _ 0 (nI 0) (Nat.lt_succ_self _) (by omega) (rfl)
  · refine g_sipush (v := nI 1012) C dX8_numberOf_7 (by decide) ?_
    exact g_iret C Rt dX8_numberOf_10 (by decide) (by decide) (⟨by rw [nuC, if_pos c4], rfl⟩)

abbrev rm_c_X8_spells : Room := { frames := 5, cells := 0, slots := 0, locals := 115 }
set_option maxHeartbeats 4000000 in
set_option maxRecDepth 100000 in
theorem c_X8_spells (E : gE) (th tb n : Nat) (t : Nat → Int32) (a e q : Nat) (hn : n ≤ 600) (ha : a ≤ e) (he : e ≤ n) (hq : q < 11) : MM E yX8_spells wsX8_spells rm_c_X8_spells [.ref th, .int (nI a), .int (nI e), .ref (E.2.2.2.1 q)] [gO th 6 [.ref tb, .int (nI n)], gA E tb 600 t] (fun rv_ ru_ => rv_ = some (.int (b2i (spB t a e q))) ∧ ru_ = [gO th 6 [.ref tb, .int (nI n)], gA E tb 600 t]) := by
  refine MM.ofG (cc := cX8_spells) (maxL := 5) (ret := (some .boolean)) (by decide) rfl (Nat.le_of_ble_eq_true rfl) (ll := [some (.ref th), some (.int (nI a)), some (.int (nI e)), some (.ref (E.2.2.2.1 q)), none]) rfl ?_
  intro X C Rt
  have C : gx E X cX8_spells 5 wsX8_spells RX8 := C
  have i_X6 : ∀ w ∈ u_ws RX6 TX6 2, w ∈ wsX8_spells := by decide +kernel
  have f_37 : Cond.fieldLink RX8 37 "MarkPages$Tape" "bytes" "[I" ∈ wsX8_spells := by decide +kernel
  have hsm := gz_small q hq
  refine g_iload_n C dX8_spells_0 rfl ?_
  refine g_iload_n C dX8_spells_1 rfl ?_
  refine g_isub_n C dX8_spells_2 (by omega) ?_
  refine g_aload_n C dX8_spells_3 rfl ?_
  refine g_callVS C hq (c_J0_length_8abf5 E q (hq)) gX8_spells_J0_length_8abf5 rfl 0 (by decide +kernel) ⟨by decide, by decide⟩ ⟨by decide, by decide⟩ [] [0, 1] (wr := [gO th 6 [.ref tb, .int (nI n)], gA E tb 600 t]) rfl (by decide) rfl (by decide) (by decide) rfl rfl (Nat.le_of_ble_eq_true rfl) dX8_spells_4 ?_
  rintro _ _ ⟨rfl, rfl⟩
  show gg E _ 5 X 0 0 7 [some (.ref th), some (.int (nI a)), some (.int (nI e)), some (.ref (E.2.2.2.1 q)), none] [.int (nI (gz_len.getD q 0)), .int (nI (e - a))] [gO th 6 [.ref tb, .int (nI n)], gA E tb 600 t]
  refine g_icmp_eq_n (tgt := 12) C dX8_spells_7 (by decide) (by omega) (by omega) (fun c7 => ?_) (fun c7 => ?_)
  · refine g_iconst (v := nI 0) C dX8_spells_12 (by decide) ?_
    refine g_istore C dX8_spells_13 (by decide) rfl (ll' := [some (.ref th), some (.int (nI a)), some (.int (nI e)), some (.ref (E.2.2.2.1 q)), some (.int (nI 0))]) rfl ?_
    have L15 : ∀ (n15 : Nat) (j : Nat), gz_len.getD q 0 - j < n15 → (j ≤ gz_len.getD q 0) → (spL t a q j = true) → gg E rm_c_X8_spells 5 X 0 0 15 [some (.ref th), some (.int (nI a)), some (.int (nI e)), some (.ref (E.2.2.2.1 q)), some (.int (nI j))] [] [gO th 6 [.ref tb, .int (nI n)], gA E tb 600 t] := by
      intro n15
      induction n15 with
      | zero => intro j hm15; exact absurd hm15 (Nat.not_lt_zero _)
      | succ n15 ih15 =>
        intro j hm15 hj hs
        refine g_iload C dX8_spells_15 rfl ?_
        refine g_aload_n C dX8_spells_17 rfl ?_
        refine g_callVS C hq (c_J0_length_8abf5 E q (hq)) gX8_spells_J0_length_8abf5 rfl 0 (by decide +kernel) ⟨by decide, by decide⟩ ⟨by decide, by decide⟩ [] [0, 1] (wr := [gO th 6 [.ref tb, .int (nI n)], gA E tb 600 t]) rfl (by decide) rfl (by decide) (by decide) rfl rfl (Nat.le_of_ble_eq_true rfl) dX8_spells_18 ?_
        rintro _ _ ⟨rfl, rfl⟩
        show gg E _ 5 X 0 0 21 [some (.ref th), some (.int (nI a)), some (.int (nI e)), some (.ref (E.2.2.2.1 q)), some (.int (nI j))] [.int (nI (gz_len.getD q 0)), .int (nI j)] [gO th 6 [.ref tb, .int (nI n)], gA E tb 600 t]
        refine g_icmp_ge_n (tgt := 50) C dX8_spells_21 (by decide) (by omega) (by omega) (fun c21 => ?_) (fun c21 => ?_)
        · refine g_iconst (v := nI 1) C dX8_spells_50 (by decide) ?_
          exact g_zret C Rt dX8_spells_51 (by decide) (by decide) (by decide) (⟨by rw [spB, decide_eq_true c7, ← show j = gz_len.getD q 0 by omega, hs]; rfl, rfl⟩)
        · refine g_aload_n C dX8_spells_24 rfl ?_
          refine g_get C i_X6 0 0 f_37 rfl rfl (by decide) rfl rfl dX8_spells_25 ?_
          refine g_iload_n C dX8_spells_28 rfl ?_
          refine g_iload C dX8_spells_29 rfl ?_
          refine g_iadd_n C dX8_spells_31 ?_
          refine g_iald C 1 (a + j) rfl rfl (by omega) (by decide) dX8_spells_32 ?_
          refine g_aload_n C dX8_spells_33 rfl ?_
          refine g_iload C dX8_spells_34 rfl ?_
          refine g_callVS C hq (c_J0_charAt_5068e E q j (hq) (c21)) gX8_spells_J0_charAt_5068e rfl 1 (by decide +kernel) ⟨by decide, by decide⟩ ⟨by decide, by decide⟩ [] [0, 1] (wr := [gO th 6 [.ref tb, .int (nI n)], gA E tb 600 t]) rfl (by decide) rfl (by decide) (by decide) rfl rfl (Nat.le_of_ble_eq_true rfl) dX8_spells_36 ?_
          rintro _ _ ⟨rfl, rfl⟩
          show gg E _ 5 X 0 0 39 [some (.ref th), some (.int (nI a)), some (.int (nI e)), some (.ref (E.2.2.2.1 q)), some (.int (nI j))] [.int ((gz_byt.getD q []).getD j 0), .int (t (a + j))] [gO th 6 [.ref tb, .int (nI n)], gA E tb 600 t]
          refine g_icmp_eq (tgt := 44) C dX8_spells_39 (by decide) (fun c39 => ?_) (fun c39 => ?_)
          · refine g_iinc_n (y := 1) C dX8_spells_44 rfl (by decide) (by decide) rfl (ll' := [some (.ref th), some (.int (nI a)), some (.int (nI e)), some (.ref (E.2.2.2.1 q)), some (.int (nI (j + 1)))]) rfl ?_
            refine g_goto (tgt := 15) C dX8_spells_47 (by decide) ?_
            exact ih15 (j + 1) (by omega) (by omega) (by rw [spL, hs, decide_eq_true c39]; rfl)
          · refine g_iconst (v := nI 0) C dX8_spells_42 (by decide) ?_
            exact g_zret C Rt dX8_spells_43 (by decide) (by decide) (by decide) (⟨by rw [spB, spL_false c39 c21, Bool.and_false]; rfl, rfl⟩)
    exact L15 _ 0 (Nat.lt_succ_self _) (by omega) (rfl)
  · refine g_iconst (v := nI 0) C dX8_spells_10 (by decide) ?_
    exact g_zret C Rt dX8_spells_11 (by decide) (by decide) (by decide) (⟨by rw [spB, decide_eq_false c7]; rfl, rfl⟩)

abbrev rm_c_X8_spelling : Room := { frames := 0, cells := 0, slots := 0, locals := 0 }
set_option maxHeartbeats 4000000 in
set_option maxRecDepth 100000 in
theorem c_X8_spelling (E : gE) (q : Nat) (hq : q < 11) : MM E yX8_spelling wsX8_spelling rm_c_X8_spelling [.int (nI (1000 + q))] [] (fun rv_ ru_ => rv_ = some (.ref (E.2.2.2.1 q)) ∧ ru_ = []) := by
  refine MM.ofG (cc := cX8_spelling) (maxL := 1) (ret := (some (.object "java/lang/String"))) (by decide) rfl (Nat.le_of_ble_eq_true rfl) (ll := [some (.int (nI (1000 + q)))]) rfl ?_
  intro X C Rt
  have C : gx E X cX8_spelling 1 wsX8_spelling RX8 := C
  refine g_iload_n C dX8_spelling_0 rfl ?_
  by_cases s1_0 : 1000 + q = 1000
  · refine g_tableIn (off := 55) (tgt := 56) C dX8_spelling_1 (by rw [s1_0]; decide) (by rw [s1_0]; decide) (by rw [s1_0]; rfl) (by decide) ?_
    refine g_ldcS C 0 (by decide) rfl rfl dX8_spelling_56 ?_
    exact g_aret C Rt dX8_spelling_58 (by decide) (by decide) (Or.inl ⟨_, rfl⟩) (⟨by rw [show q = 0 by omega], rfl⟩)
  by_cases s1_1 : 1000 + q = 1001
  · refine g_tableIn (off := 58) (tgt := 59) C dX8_spelling_1 (by rw [s1_1]; decide) (by rw [s1_1]; decide) (by rw [s1_1]; rfl) (by decide) ?_
    refine g_ldcS C 1 (by decide) rfl rfl dX8_spelling_59 ?_
    exact g_aret C Rt dX8_spelling_61 (by decide) (by decide) (Or.inl ⟨_, rfl⟩) (⟨by rw [show q = 1 by omega], rfl⟩)
  by_cases s1_2 : 1000 + q = 1002
  · refine g_tableIn (off := 61) (tgt := 62) C dX8_spelling_1 (by rw [s1_2]; decide) (by rw [s1_2]; decide) (by rw [s1_2]; rfl) (by decide) ?_
    refine g_ldcS C 2 (by decide) rfl rfl dX8_spelling_62 ?_
    exact g_aret C Rt dX8_spelling_64 (by decide) (by decide) (Or.inl ⟨_, rfl⟩) (⟨by rw [show q = 2 by omega], rfl⟩)
  by_cases s1_3 : 1000 + q = 1003
  · refine g_tableIn (off := 64) (tgt := 65) C dX8_spelling_1 (by rw [s1_3]; decide) (by rw [s1_3]; decide) (by rw [s1_3]; rfl) (by decide) ?_
    refine g_ldcS C 3 (by decide) rfl rfl dX8_spelling_65 ?_
    exact g_aret C Rt dX8_spelling_67 (by decide) (by decide) (Or.inl ⟨_, rfl⟩) (⟨by rw [show q = 3 by omega], rfl⟩)
  by_cases s1_4 : 1000 + q = 1004
  · refine g_tableIn (off := 67) (tgt := 68) C dX8_spelling_1 (by rw [s1_4]; decide) (by rw [s1_4]; decide) (by rw [s1_4]; rfl) (by decide) ?_
    refine g_ldcS C 4 (by decide) rfl rfl dX8_spelling_68 ?_
    exact g_aret C Rt dX8_spelling_70 (by decide) (by decide) (Or.inl ⟨_, rfl⟩) (⟨by rw [show q = 4 by omega], rfl⟩)
  by_cases s1_5 : 1000 + q = 1005
  · refine g_tableIn (off := 70) (tgt := 71) C dX8_spelling_1 (by rw [s1_5]; decide) (by rw [s1_5]; decide) (by rw [s1_5]; rfl) (by decide) ?_
    refine g_ldcS C 5 (by decide) rfl rfl dX8_spelling_71 ?_
    exact g_aret C Rt dX8_spelling_73 (by decide) (by decide) (Or.inl ⟨_, rfl⟩) (⟨by rw [show q = 5 by omega], rfl⟩)
  by_cases s1_6 : 1000 + q = 1006
  · refine g_tableIn (off := 73) (tgt := 74) C dX8_spelling_1 (by rw [s1_6]; decide) (by rw [s1_6]; decide) (by rw [s1_6]; rfl) (by decide) ?_
    refine g_ldcS C 6 (by decide) rfl rfl dX8_spelling_74 ?_
    exact g_aret C Rt dX8_spelling_76 (by decide) (by decide) (Or.inl ⟨_, rfl⟩) (⟨by rw [show q = 6 by omega], rfl⟩)
  by_cases s1_7 : 1000 + q = 1007
  · refine g_tableIn (off := 76) (tgt := 77) C dX8_spelling_1 (by rw [s1_7]; decide) (by rw [s1_7]; decide) (by rw [s1_7]; rfl) (by decide) ?_
    refine g_ldcS C 7 (by decide) rfl rfl dX8_spelling_77 ?_
    exact g_aret C Rt dX8_spelling_79 (by decide) (by decide) (Or.inl ⟨_, rfl⟩) (⟨by rw [show q = 7 by omega], rfl⟩)
  by_cases s1_8 : 1000 + q = 1008
  · refine g_tableIn (off := 79) (tgt := 80) C dX8_spelling_1 (by rw [s1_8]; decide) (by rw [s1_8]; decide) (by rw [s1_8]; rfl) (by decide) ?_
    refine g_ldcS C 8 (by decide) rfl rfl dX8_spelling_80 ?_
    exact g_aret C Rt dX8_spelling_82 (by decide) (by decide) (Or.inl ⟨_, rfl⟩) (⟨by rw [show q = 8 by omega], rfl⟩)
  by_cases s1_9 : 1000 + q = 1009
  · refine g_tableIn (off := 82) (tgt := 83) C dX8_spelling_1 (by rw [s1_9]; decide) (by rw [s1_9]; decide) (by rw [s1_9]; rfl) (by decide) ?_
    refine g_ldcS C 9 (by decide) rfl rfl dX8_spelling_83 ?_
    exact g_aret C Rt dX8_spelling_85 (by decide) (by decide) (Or.inl ⟨_, rfl⟩) (⟨by rw [show q = 9 by omega], rfl⟩)
  refine g_tableOut (tgt := 86) C dX8_spelling_1 (by have e0 := ne_toInt (by decide) (show ¬ (nI (1000 + q)) = nI 1000 from (fun z => s1_0 ((nI_eq (by omega) (by decide)).mp z))); have e1 := ne_toInt (by decide) (show ¬ (nI (1000 + q)) = nI 1001 from (fun z => s1_1 ((nI_eq (by omega) (by decide)).mp z))); have e2 := ne_toInt (by decide) (show ¬ (nI (1000 + q)) = nI 1002 from (fun z => s1_2 ((nI_eq (by omega) (by decide)).mp z))); have e3 := ne_toInt (by decide) (show ¬ (nI (1000 + q)) = nI 1003 from (fun z => s1_3 ((nI_eq (by omega) (by decide)).mp z))); have e4 := ne_toInt (by decide) (show ¬ (nI (1000 + q)) = nI 1004 from (fun z => s1_4 ((nI_eq (by omega) (by decide)).mp z))); have e5 := ne_toInt (by decide) (show ¬ (nI (1000 + q)) = nI 1005 from (fun z => s1_5 ((nI_eq (by omega) (by decide)).mp z))); have e6 := ne_toInt (by decide) (show ¬ (nI (1000 + q)) = nI 1006 from (fun z => s1_6 ((nI_eq (by omega) (by decide)).mp z))); have e7 := ne_toInt (by decide) (show ¬ (nI (1000 + q)) = nI 1007 from (fun z => s1_7 ((nI_eq (by omega) (by decide)).mp z))); have e8 := ne_toInt (by decide) (show ¬ (nI (1000 + q)) = nI 1008 from (fun z => s1_8 ((nI_eq (by omega) (by decide)).mp z))); have e9 := ne_toInt (by decide) (show ¬ (nI (1000 + q)) = nI 1009 from (fun z => s1_9 ((nI_eq (by omega) (by decide)).mp z))); omega) (by decide) ?_
  refine g_ldcS C 10 (by decide) rfl rfl dX8_spelling_86 ?_
  exact g_aret C Rt dX8_spelling_88 (by decide) (by decide) (Or.inl ⟨_, rfl⟩) (⟨by rw [show q = 10 by omega], rfl⟩)

abbrev rm_c_X8_keywordOf : Room := { frames := 6, cells := 0, slots := 0, locals := 139 }
set_option maxHeartbeats 4000000 in
set_option maxRecDepth 100000 in
theorem c_X8_keywordOf (E : gE) (th tb n : Nat) (t : Nat → Int32) (a e : Nat) (hn : n ≤ 600) (ha : a ≤ e) (he : e ≤ n) : MM E yX8_keywordOf wsX8_keywordOf rm_c_X8_keywordOf [.ref th, .int (nI a), .int (nI e)] [gO th 6 [.ref tb, .int (nI n)], gA E tb 600 t] (fun rv_ ru_ => rv_ = some (.int (kwC t a e)) ∧ ru_ = [gO th 6 [.ref tb, .int (nI n)], gA E tb 600 t]) := by
  refine MM.ofG (cc := cX8_keywordOf) (maxL := 4) (ret := (some .int)) (by decide) rfl (Nat.le_of_ble_eq_true rfl) (ll := [some (.ref th), some (.int (nI a)), some (.int (nI e)), none]) rfl ?_
  intro X C Rt
  have C : gx E X cX8_keywordOf 4 wsX8_keywordOf RX8 := C
  refine g_sipush (v := nI 1000) C dX8_keywordOf_0 (by decide) ?_
  refine g_istore_n C dX8_keywordOf_3 (by decide) rfl (ll' := [some (.ref th), some (.int (nI a)), some (.int (nI e)), some (.int (nI 1000))]) rfl ?_
  have L4 : ∀ (n4 : Nat) (q : Nat), 11 - q < n4 → (q ≤ 11) → (∀ i, i < q → spB t a e i = false) → gg E rm_c_X8_keywordOf 4 X 0 0 4 [some (.ref th), some (.int (nI a)), some (.int (nI e)), some (.int (nI (1000 + q)))] [] [gO th 6 [.ref tb, .int (nI n)], gA E tb 600 t] := by
    intro n4
    induction n4 with
    | zero => intro q hm4; exact absurd hm4 (Nat.not_lt_zero _)
    | succ n4 ih4 =>
      intro q hm4 hq hs
      refine g_iload_n C dX8_keywordOf_4 rfl ?_
      refine g_sipush (v := nI 1010) C dX8_keywordOf_5 (by decide) ?_
      refine g_icmp_gt_n (tgt := 32) C dX8_keywordOf_8 (by decide) (by omega) (by omega) (fun c8 => ?_) (fun c8 => ?_)
      · refine g_sipush (v := nI 1012) C dX8_keywordOf_32 (by decide) ?_
        exact g_iret C Rt dX8_keywordOf_35 (by decide) (by decide) (⟨by rw [kwC, first_eq (q := 11) (Nat.le_refl 11) (fun i hi => hs i (by omega)) (fun z => absurd z (Nat.lt_irrefl 11)), if_neg (by decide)], rfl⟩)
      · refine g_aload_n C dX8_keywordOf_11 rfl ?_
        refine g_iload_n C dX8_keywordOf_12 rfl ?_
        refine g_iload_n C dX8_keywordOf_13 rfl ?_
        refine g_iload_n C dX8_keywordOf_14 rfl ?_
        refine g_callS C (c_X8_spelling E q (by omega)) gX8_keywordOf_X8_spelling rfl 1 (by decide +kernel) ⟨by decide, by decide⟩ ⟨by decide, by decide⟩ [] [0, 1] (wr := [gO th 6 [.ref tb, .int (nI n)], gA E tb 600 t]) rfl (by decide) rfl (by decide) (by decide) rfl rfl (Nat.le_of_ble_eq_true rfl) dX8_keywordOf_15 ?_
        rintro _ _ ⟨rfl, rfl⟩
        show gg E _ 4 X 0 0 18 [some (.ref th), some (.int (nI a)), some (.int (nI e)), some (.int (nI (1000 + q)))] [.ref (E.2.2.2.1 q), .int (nI e), .int (nI a), .ref th] [gO th 6 [.ref tb, .int (nI n)], gA E tb 600 t]
        refine g_callS C (c_X8_spells E th tb n t a e q (by omega) (by omega) (by omega) (by omega)) gX8_keywordOf_X8_spells rfl 4 (by decide +kernel) ⟨by decide, by decide⟩ ⟨by decide, by decide⟩ [0, 1] [] (wr := []) rfl (by decide) rfl (by decide) (by decide) rfl rfl (Nat.le_of_ble_eq_true rfl) dX8_keywordOf_18 ?_
        rintro _ _ ⟨rfl, rfl⟩
        show gg E _ 4 X 0 0 21 [some (.ref th), some (.int (nI a)), some (.int (nI e)), some (.int (nI (1000 + q)))] [.int (b2i (spB t a e q))] [gO th 6 [.ref tb, .int (nI n)], gA E tb 600 t]
        refine g_if_eq (tgt := 26) C dX8_keywordOf_21 (by decide) (fun c21 => ?_) (fun c21 => ?_)
        · refine g_iinc_n (y := 1) C dX8_keywordOf_26 rfl (by decide) (by decide) rfl (ll' := [some (.ref th), some (.int (nI a)), some (.int (nI e)), some (.int (nI ((1000 + q) + 1)))]) rfl ?_
          refine g_goto (tgt := 4) C dX8_keywordOf_29 (by decide) ?_
          exact ih4 (q + 1) (by omega) (by omega) (fun i hi => by
        by_cases e2 : i = q
        · rw [e2]; exact b2i_f.mp c21
        · exact hs i (by omega))
        · refine g_iload_n C dX8_keywordOf_24 rfl ?_
          exact g_iret C Rt dX8_keywordOf_25 (by decide) (by decide) (⟨by rw [kwC, first_eq (q := q) (by omega) hs (fun _ => b2i_t.mp c21), if_pos (by omega)], rfl⟩)
  exact L4 _ 0 (Nat.lt_succ_self _) (by omega) (fun i hi => absurd hi (Nat.not_lt_zero i))

abbrev rm_c_X8_tokenAt : Room := { frames := 7, cells := 0, slots := 0, locals := 162 }
set_option maxHeartbeats 4000000 in
set_option maxRecDepth 100000 in
theorem c_X8_tokenAt (E : gE) (th tb n : Nat) (t : Nat → Int32) (a : Nat) (hn : n ≤ 600) (ha : a < n) : MM E yX8_tokenAt wsX8_tokenAt rm_c_X8_tokenAt [.ref th, .int (nI a)] [gO th 6 [.ref tb, .int (nI n)], gA E tb 600 t] (fun rv_ ru_ => rv_ = some (.int (tokC t n a)) ∧ ru_ = [gO th 6 [.ref tb, .int (nI n)], gA E tb 600 t]) := by
  refine MM.ofG (cc := cX8_tokenAt) (maxL := 4) (ret := (some .int)) (by decide) rfl (Nat.le_of_ble_eq_true rfl) (ll := [some (.ref th), some (.int (nI a)), none, none]) rfl ?_
  intro X C Rt
  have C : gx E X cX8_tokenAt 4 wsX8_tokenAt RX8 := C
  have i_X6 : ∀ w ∈ u_ws RX6 TX6 2, w ∈ wsX8_tokenAt := by decide +kernel
  have f_22 : Cond.fieldLink RX8 22 "MarkPages$Tape" "count" "I" ∈ wsX8_tokenAt := by decide +kernel
  have f_37 : Cond.fieldLink RX8 37 "MarkPages$Tape" "bytes" "[I" ∈ wsX8_tokenAt := by decide +kernel
  have hf := famN_le (t a)
  refine g_aload_n C dX8_tokenAt_0 rfl ?_
  refine g_get C i_X6 0 0 f_37 rfl rfl (by decide) rfl rfl dX8_tokenAt_1 ?_
  refine g_iload_n C dX8_tokenAt_4 rfl ?_
  refine g_iald C 1 a rfl rfl (by omega) (by decide) dX8_tokenAt_5 ?_
  refine g_callS C (c_X8_familyOf E (t a) ) gX8_tokenAt_X8_familyOf rfl 1 (by decide +kernel) ⟨by decide, by decide⟩ ⟨by decide, by decide⟩ [] [0, 1] (wr := [gO th 6 [.ref tb, .int (nI n)], gA E tb 600 t]) rfl (by decide) rfl (by decide) (by decide) rfl rfl (Nat.le_of_ble_eq_true rfl) dX8_tokenAt_6 ?_
  rintro _ _ ⟨rfl, rfl⟩
  show gg E _ 4 X 0 0 9 [some (.ref th), some (.int (nI a)), none, none] [.int (nI (famN (t a)))] [gO th 6 [.ref tb, .int (nI n)], gA E tb 600 t]
  refine g_istore_n C dX8_tokenAt_9 (by decide) rfl (ll' := [some (.ref th), some (.int (nI a)), some (.int (nI (famN (t a)))), none]) rfl ?_
  refine g_iload_n C dX8_tokenAt_10 rfl ?_
  refine g_iconst (v := nI 3) C dX8_tokenAt_11 (by decide) ?_
  refine g_icmp_ne_n (tgt := 25) C dX8_tokenAt_12 (by decide) (by omega) (by omega) (fun c12 => ?_) (fun c12 => ?_)
  · refine g_iload_n C dX8_tokenAt_25 rfl ?_
    refine g_istore_n C dX8_tokenAt_26 (by decide) rfl (ll' := [some (.ref th), some (.int (nI a)), some (.int (nI (famN (t a)))), some (.int (nI a))]) rfl ?_
    have L27 : ∀ (n27 : Nat) (j : Nat), n - j < n27 → (a + j ≤ n) → (∀ q, a ≤ q → q < a + j → famN (t q) = famN (t a)) → gg E rm_c_X8_tokenAt 4 X 0 0 27 [some (.ref th), some (.int (nI a)), some (.int (nI (famN (t a)))), some (.int (nI (a + j)))] [] [gO th 6 [.ref tb, .int (nI n)], gA E tb 600 t] := by
      intro n27
      induction n27 with
      | zero => intro j hm27; exact absurd hm27 (Nat.not_lt_zero _)
      | succ n27 ih27 =>
        intro j hm27 hj hr
        refine g_iload_n C dX8_tokenAt_27 rfl ?_
        refine g_aload_n C dX8_tokenAt_28 rfl ?_
        refine g_get C i_X6 0 1 f_22 rfl rfl (by decide) rfl rfl dX8_tokenAt_29 ?_
        refine g_icmp_ge_n (tgt := 54) C dX8_tokenAt_32 (by decide) (by omega) (by omega) (fun c32 => ?_) (fun c32 => ?_)
        · have he : a + j = enR t n (famN (t a)) a := isE_one ⟨by omega, hj, hr, Or.inl (by omega)⟩ (enR_is hn (by omega))
          refine g_iload_n C dX8_tokenAt_54 rfl ?_
          refine g_iconst (v := nI 1) C dX8_tokenAt_55 (by decide) ?_
          refine g_icmp_ne_n (tgt := 68) C dX8_tokenAt_56 (by decide) (by omega) (by omega) (fun c56 => ?_) (fun c56 => ?_)
          · refine g_aload_n C dX8_tokenAt_68 rfl ?_
            refine g_iload_n C dX8_tokenAt_69 rfl ?_
            refine g_iload_n C dX8_tokenAt_70 rfl ?_
            refine g_callS C (c_X8_numberOf E th tb n t a (a + j) (by omega) (by omega) (by omega)) gX8_tokenAt_X8_numberOf rfl 3 (by decide +kernel) ⟨by decide, by decide⟩ ⟨by decide, by decide⟩ [0, 1] [] (wr := []) rfl (by decide) rfl (by decide) (by decide) rfl rfl (Nat.le_of_ble_eq_true rfl) dX8_tokenAt_71 ?_
            rintro _ _ ⟨rfl, rfl⟩
            show gg E _ 4 X 0 0 74 [some (.ref th), some (.int (nI a)), some (.int (nI (famN (t a)))), some (.int (nI (a + j)))] [.int (nuC t a (a + j))] [gO th 6 [.ref tb, .int (nI n)], gA E tb 600 t]
            exact g_iret C Rt dX8_tokenAt_74 (by decide) (by decide) (⟨by rw [tokC, if_neg c12, if_neg c56, he], rfl⟩)
          · refine g_aload_n C dX8_tokenAt_59 rfl ?_
            refine g_iload_n C dX8_tokenAt_60 rfl ?_
            refine g_iload_n C dX8_tokenAt_61 rfl ?_
            refine g_callS C (c_X8_keywordOf E th tb n t a (a + j) (by omega) (by omega) (by omega)) gX8_tokenAt_X8_keywordOf rfl 3 (by decide +kernel) ⟨by decide, by decide⟩ ⟨by decide, by decide⟩ [0, 1] [] (wr := []) rfl (by decide) rfl (by decide) (by decide) rfl rfl (Nat.le_of_ble_eq_true rfl) dX8_tokenAt_62 ?_
            rintro _ _ ⟨rfl, rfl⟩
            show gg E _ 4 X 0 0 65 [some (.ref th), some (.int (nI a)), some (.int (nI (famN (t a)))), some (.int (nI (a + j)))] [.int (kwC t a (a + j))] [gO th 6 [.ref tb, .int (nI n)], gA E tb 600 t]
            refine g_goto (tgt := 74) C dX8_tokenAt_65 (by decide) ?_
            exact g_iret C Rt dX8_tokenAt_74 (by decide) (by decide) (⟨by rw [tokC, if_neg c12, if_pos c56, he], rfl⟩)
        · refine g_aload_n C dX8_tokenAt_35 rfl ?_
          refine g_get C i_X6 0 0 f_37 rfl rfl (by decide) rfl rfl dX8_tokenAt_36 ?_
          refine g_iload_n C dX8_tokenAt_39 rfl ?_
          refine g_iald C 1 (a + j) rfl rfl (by omega) (by decide) dX8_tokenAt_40 ?_
          refine g_callS C (c_X8_familyOf E (t (a + j)) ) gX8_tokenAt_X8_familyOf rfl 1 (by decide +kernel) ⟨by decide, by decide⟩ ⟨by decide, by decide⟩ [] [0, 1] (wr := [gO th 6 [.ref tb, .int (nI n)], gA E tb 600 t]) rfl (by decide) rfl (by decide) (by decide) rfl rfl (Nat.le_of_ble_eq_true rfl) dX8_tokenAt_41 ?_
          rintro _ _ ⟨rfl, rfl⟩
          show gg E _ 4 X 0 0 44 [some (.ref th), some (.int (nI a)), some (.int (nI (famN (t a)))), some (.int (nI (a + j)))] [.int (nI (famN (t (a + j))))] [gO th 6 [.ref tb, .int (nI n)], gA E tb 600 t]
          refine g_iload_n C dX8_tokenAt_44 rfl ?_
          refine g_icmp_ne_n (tgt := 54) C dX8_tokenAt_45 (by decide) (by have := famN_le (t (a + j)); omega) (by have := famN_le (t (a + j)); omega) (fun c45 => ?_) (fun c45 => ?_)
          · have he : a + j = enR t n (famN (t a)) a := isE_one ⟨by omega, hj, hr, Or.inr c45⟩ (enR_is hn (by omega))
            refine g_iload_n C dX8_tokenAt_54 rfl ?_
            refine g_iconst (v := nI 1) C dX8_tokenAt_55 (by decide) ?_
            refine g_icmp_ne_n (tgt := 68) C dX8_tokenAt_56 (by decide) (by omega) (by omega) (fun c56 => ?_) (fun c56 => ?_)
            · refine g_aload_n C dX8_tokenAt_68 rfl ?_
              refine g_iload_n C dX8_tokenAt_69 rfl ?_
              refine g_iload_n C dX8_tokenAt_70 rfl ?_
              refine g_callS C (c_X8_numberOf E th tb n t a (a + j) (by omega) (by omega) (by omega)) gX8_tokenAt_X8_numberOf rfl 3 (by decide +kernel) ⟨by decide, by decide⟩ ⟨by decide, by decide⟩ [0, 1] [] (wr := []) rfl (by decide) rfl (by decide) (by decide) rfl rfl (Nat.le_of_ble_eq_true rfl) dX8_tokenAt_71 ?_
              rintro _ _ ⟨rfl, rfl⟩
              show gg E _ 4 X 0 0 74 [some (.ref th), some (.int (nI a)), some (.int (nI (famN (t a)))), some (.int (nI (a + j)))] [.int (nuC t a (a + j))] [gO th 6 [.ref tb, .int (nI n)], gA E tb 600 t]
              exact g_iret C Rt dX8_tokenAt_74 (by decide) (by decide) (⟨by rw [tokC, if_neg c12, if_neg c56, he], rfl⟩)
            · refine g_aload_n C dX8_tokenAt_59 rfl ?_
              refine g_iload_n C dX8_tokenAt_60 rfl ?_
              refine g_iload_n C dX8_tokenAt_61 rfl ?_
              refine g_callS C (c_X8_keywordOf E th tb n t a (a + j) (by omega) (by omega) (by omega)) gX8_tokenAt_X8_keywordOf rfl 3 (by decide +kernel) ⟨by decide, by decide⟩ ⟨by decide, by decide⟩ [0, 1] [] (wr := []) rfl (by decide) rfl (by decide) (by decide) rfl rfl (Nat.le_of_ble_eq_true rfl) dX8_tokenAt_62 ?_
              rintro _ _ ⟨rfl, rfl⟩
              show gg E _ 4 X 0 0 65 [some (.ref th), some (.int (nI a)), some (.int (nI (famN (t a)))), some (.int (nI (a + j)))] [.int (kwC t a (a + j))] [gO th 6 [.ref tb, .int (nI n)], gA E tb 600 t]
              refine g_goto (tgt := 74) C dX8_tokenAt_65 (by decide) ?_
              exact g_iret C Rt dX8_tokenAt_74 (by decide) (by decide) (⟨by rw [tokC, if_neg c12, if_pos c56, he], rfl⟩)
          · refine g_iinc_n (y := 1) C dX8_tokenAt_48 rfl (by decide) (by decide) rfl (ll' := [some (.ref th), some (.int (nI a)), some (.int (nI (famN (t a)))), some (.int (nI ((a + j) + 1)))]) rfl ?_
            refine g_goto (tgt := 27) C dX8_tokenAt_51 (by decide) ?_
            exact ih27 (j + 1) (by omega) (by omega) (fun q h1 h2 => by
        by_cases e2 : q = a + j
        · rw [e2]; exact c45
        · exact hr q h1 (by omega))
    exact L27 _ 0 (Nat.lt_succ_self _) (by omega) (fun q h1 h2 => by omega)
  · refine g_aload_n C dX8_tokenAt_15 rfl ?_
    refine g_get C i_X6 0 0 f_37 rfl rfl (by decide) rfl rfl dX8_tokenAt_16 ?_
    refine g_iload_n C dX8_tokenAt_19 rfl ?_
    refine g_iald C 1 a rfl rfl (by omega) (by decide) dX8_tokenAt_20 ?_
    refine g_callS C (c_X8_signOf E (t a) ) gX8_tokenAt_X8_signOf rfl 1 (by decide +kernel) ⟨by decide, by decide⟩ ⟨by decide, by decide⟩ [] [0, 1] (wr := [gO th 6 [.ref tb, .int (nI n)], gA E tb 600 t]) rfl (by decide) rfl (by decide) (by decide) rfl rfl (Nat.le_of_ble_eq_true rfl) dX8_tokenAt_21 ?_
    rintro _ _ ⟨rfl, rfl⟩
    show gg E _ 4 X 0 0 24 [some (.ref th), some (.int (nI a)), some (.int (nI (famN (t a)))), none] [.int (sgC (t a))] [gO th 6 [.ref tb, .int (nI n)], gA E tb 600 t]
    exact g_iret C Rt dX8_tokenAt_24 (by decide) (by decide) (⟨by rw [tokC, if_pos c12], rfl⟩)

abbrev rm_c_X8_startsToken : Room := { frames := 1, cells := 0, slots := 0, locals := 20 }
set_option maxHeartbeats 4000000 in
set_option maxRecDepth 100000 in
theorem c_X8_startsToken (E : gE) (th tb n : Nat) (t : Nat → Int32) (a : Nat) (hn : n ≤ 600) (ha : a < n) : MM E yX8_startsToken wsX8_startsToken rm_c_X8_startsToken [.ref th, .int (nI a)] [gO th 6 [.ref tb, .int (nI n)], gA E tb 600 t] (fun rv_ ru_ => rv_ = some (.int (b2i (stT t a))) ∧ ru_ = [gO th 6 [.ref tb, .int (nI n)], gA E tb 600 t]) := by
  refine MM.ofG (cc := cX8_startsToken) (maxL := 5) (ret := (some .boolean)) (by decide) rfl (Nat.le_of_ble_eq_true rfl) (ll := [some (.ref th), some (.int (nI a)), none, none, none]) rfl ?_
  intro X C Rt
  have C : gx E X cX8_startsToken 5 wsX8_startsToken RX8 := C
  have i_X6 : ∀ w ∈ u_ws RX6 TX6 2, w ∈ wsX8_startsToken := by decide +kernel
  have f_37 : Cond.fieldLink RX8 37 "MarkPages$Tape" "bytes" "[I" ∈ wsX8_startsToken := by decide +kernel
  refine g_aload_n C dX8_startsToken_0 rfl ?_
  refine g_get C i_X6 0 0 f_37 rfl rfl (by decide) rfl rfl dX8_startsToken_1 ?_
  refine g_iload_n C dX8_startsToken_4 rfl ?_
  refine g_iald C 1 a rfl rfl (by omega) (by decide) dX8_startsToken_5 ?_
  refine g_callS C (c_X8_familyOf E (t a) ) gX8_startsToken_X8_familyOf rfl 1 (by decide +kernel) ⟨by decide, by decide⟩ ⟨by decide, by decide⟩ [] [0, 1] (wr := [gO th 6 [.ref tb, .int (nI n)], gA E tb 600 t]) rfl (by decide) rfl (by decide) (by decide) rfl rfl (Nat.le_of_ble_eq_true rfl) dX8_startsToken_6 ?_
  rintro _ _ ⟨rfl, rfl⟩
  show gg E _ 5 X 0 0 9 [some (.ref th), some (.int (nI a)), none, none, none] [.int (nI (famN (t a)))] [gO th 6 [.ref tb, .int (nI n)], gA E tb 600 t]
  refine g_istore_n C dX8_startsToken_9 (by decide) rfl (ll' := [some (.ref th), some (.int (nI a)), some (.int (nI (famN (t a)))), none, none]) rfl ?_
  refine g_iload_n C dX8_startsToken_10 rfl ?_
  refine g_iconst (v := nI 1) C dX8_startsToken_11 (by decide) ?_
  refine g_icmp_eq_n (tgt := 20) C dX8_startsToken_12 (by decide) (by have := famN_le (t a); omega) (by have := famN_le (t a); omega) (fun c12 => ?_) (fun c12 => ?_)
  · refine g_iconst (v := nI 1) C dX8_startsToken_20 (by decide) ?_
    refine g_goto (tgt := 25) C dX8_startsToken_21 (by decide) ?_
    refine g_istore_n C dX8_startsToken_25 (by decide) rfl (ll' := [some (.ref th), some (.int (nI a)), some (.int (nI (famN (t a)))), some (.int (nI 1)), none]) rfl ?_
    refine g_iload_n C dX8_startsToken_26 rfl ?_
    refine g_if_eq (tgt := 53) C dX8_startsToken_27 (by decide) (fun c27 => absurd c27 (by decide)) (fun c27 => ?_)
    refine g_iload_n C dX8_startsToken_30 rfl ?_
    refine g_if_le_n (tgt := 53) C dX8_startsToken_31 (by decide) (by omega) (fun c31 => ?_) (fun c31 => ?_)
    · refine g_iconst (v := nI 0) C dX8_startsToken_53 (by decide) ?_
      refine g_istore C dX8_startsToken_54 (by decide) rfl (ll' := [some (.ref th), some (.int (nI a)), some (.int (nI (famN (t a)))), some (.int (nI 1)), some (.int (nI 0))]) rfl ?_
      refine g_iload_n C dX8_startsToken_56 rfl ?_
      refine g_if_eq_n (tgt := 69) C dX8_startsToken_57 (by decide) (by have := famN_le (t a); omega) (fun c57 => ?_) (fun c57 => ?_)
      · refine g_iconst (v := nI 0) C dX8_startsToken_69 (by decide) ?_
        exact g_zret C Rt dX8_startsToken_70 (by decide) (by decide) (by decide) (⟨by rw [stT_f0 c57]; rfl, rfl⟩)
      · refine g_iload C dX8_startsToken_60 rfl ?_
        refine g_if_ne (tgt := 69) C dX8_startsToken_62 (by decide) (fun c62 => absurd c62 (by decide)) (fun c62 => ?_)
        refine g_iconst (v := nI 1) C dX8_startsToken_65 (by decide) ?_
        refine g_goto (tgt := 70) C dX8_startsToken_66 (by decide) ?_
        exact g_zret C Rt dX8_startsToken_70 (by decide) (by decide) (by decide) (⟨by rw [stT_t (Nat.pos_iff_ne_zero.mp c57) (fun z => absurd z.2.1 (by omega))]; rfl, rfl⟩)
    · refine g_aload_n C dX8_startsToken_34 rfl ?_
      refine g_get C i_X6 0 0 f_37 rfl rfl (by decide) rfl rfl dX8_startsToken_35 ?_
      refine g_iload_n C dX8_startsToken_38 rfl ?_
      refine g_iconst (v := nI 1) C dX8_startsToken_39 (by decide) ?_
      refine g_isub_n C dX8_startsToken_40 (by omega) ?_
      refine g_iald C 1 (a - 1) rfl rfl (by omega) (by decide) dX8_startsToken_41 ?_
      refine g_callS C (c_X8_familyOf E (t (a - 1)) ) gX8_startsToken_X8_familyOf rfl 1 (by decide +kernel) ⟨by decide, by decide⟩ ⟨by decide, by decide⟩ [] [0, 1] (wr := [gO th 6 [.ref tb, .int (nI n)], gA E tb 600 t]) rfl (by decide) rfl (by decide) (by decide) rfl rfl (Nat.le_of_ble_eq_true rfl) dX8_startsToken_42 ?_
      rintro _ _ ⟨rfl, rfl⟩
      show gg E _ 5 X 0 0 45 [some (.ref th), some (.int (nI a)), some (.int (nI (famN (t a)))), some (.int (nI 1)), none] [.int (nI (famN (t (a - 1))))] [gO th 6 [.ref tb, .int (nI n)], gA E tb 600 t]
      refine g_iload_n C dX8_startsToken_45 rfl ?_
      refine g_icmp_ne_n (tgt := 53) C dX8_startsToken_46 (by decide) (by have := famN_le (t a); have := famN_le (t (a - 1)); omega) (by have := famN_le (t a); have := famN_le (t (a - 1)); omega) (fun c46 => ?_) (fun c46 => ?_)
      · refine g_iconst (v := nI 0) C dX8_startsToken_53 (by decide) ?_
        refine g_istore C dX8_startsToken_54 (by decide) rfl (ll' := [some (.ref th), some (.int (nI a)), some (.int (nI (famN (t a)))), some (.int (nI 1)), some (.int (nI 0))]) rfl ?_
        refine g_iload_n C dX8_startsToken_56 rfl ?_
        refine g_if_eq_n (tgt := 69) C dX8_startsToken_57 (by decide) (by have := famN_le (t a); omega) (fun c57 => ?_) (fun c57 => ?_)
        · refine g_iconst (v := nI 0) C dX8_startsToken_69 (by decide) ?_
          exact g_zret C Rt dX8_startsToken_70 (by decide) (by decide) (by decide) (⟨by rw [stT_f0 c57]; rfl, rfl⟩)
        · refine g_iload C dX8_startsToken_60 rfl ?_
          refine g_if_ne (tgt := 69) C dX8_startsToken_62 (by decide) (fun c62 => absurd c62 (by decide)) (fun c62 => ?_)
          refine g_iconst (v := nI 1) C dX8_startsToken_65 (by decide) ?_
          refine g_goto (tgt := 70) C dX8_startsToken_66 (by decide) ?_
          exact g_zret C Rt dX8_startsToken_70 (by decide) (by decide) (by decide) (⟨by rw [stT_t (Nat.pos_iff_ne_zero.mp c57) (fun z => c46 z.2.2)]; rfl, rfl⟩)
      · refine g_iconst (v := nI 1) C dX8_startsToken_49 (by decide) ?_
        refine g_goto (tgt := 54) C dX8_startsToken_50 (by decide) ?_
        refine g_istore C dX8_startsToken_54 (by decide) rfl (ll' := [some (.ref th), some (.int (nI a)), some (.int (nI (famN (t a)))), some (.int (nI 1)), some (.int (nI 1))]) rfl ?_
        refine g_iload_n C dX8_startsToken_56 rfl ?_
        refine g_if_eq_n (tgt := 69) C dX8_startsToken_57 (by decide) (by have := famN_le (t a); omega) (fun c57 => ?_) (fun c57 => ?_)
        · refine g_iconst (v := nI 0) C dX8_startsToken_69 (by decide) ?_
          exact g_zret C Rt dX8_startsToken_70 (by decide) (by decide) (by decide) (⟨by rw [stT_f0 c57]; rfl, rfl⟩)
        · refine g_iload C dX8_startsToken_60 rfl ?_
          refine g_if_ne (tgt := 69) C dX8_startsToken_62 (by decide) (fun c62 => ?_) (fun c62 => absurd c62 (by decide))
          refine g_iconst (v := nI 0) C dX8_startsToken_69 (by decide) ?_
          exact g_zret C Rt dX8_startsToken_70 (by decide) (by decide) (by decide) (⟨by rw [stT_f1 ⟨Or.inl c12, c31, c46⟩]; rfl, rfl⟩)
  · refine g_iload_n C dX8_startsToken_15 rfl ?_
    refine g_iconst (v := nI 2) C dX8_startsToken_16 (by decide) ?_
    refine g_icmp_ne_n (tgt := 24) C dX8_startsToken_17 (by decide) (by have := famN_le (t a); omega) (by have := famN_le (t a); omega) (fun c17 => ?_) (fun c17 => ?_)
    · refine g_iconst (v := nI 0) C dX8_startsToken_24 (by decide) ?_
      refine g_istore_n C dX8_startsToken_25 (by decide) rfl (ll' := [some (.ref th), some (.int (nI a)), some (.int (nI (famN (t a)))), some (.int (nI 0)), none]) rfl ?_
      refine g_iload_n C dX8_startsToken_26 rfl ?_
      refine g_if_eq (tgt := 53) C dX8_startsToken_27 (by decide) (fun c27 => ?_) (fun c27 => absurd c27 (by decide))
      refine g_iconst (v := nI 0) C dX8_startsToken_53 (by decide) ?_
      refine g_istore C dX8_startsToken_54 (by decide) rfl (ll' := [some (.ref th), some (.int (nI a)), some (.int (nI (famN (t a)))), some (.int (nI 0)), some (.int (nI 0))]) rfl ?_
      refine g_iload_n C dX8_startsToken_56 rfl ?_
      refine g_if_eq_n (tgt := 69) C dX8_startsToken_57 (by decide) (by have := famN_le (t a); omega) (fun c57 => ?_) (fun c57 => ?_)
      · refine g_iconst (v := nI 0) C dX8_startsToken_69 (by decide) ?_
        exact g_zret C Rt dX8_startsToken_70 (by decide) (by decide) (by decide) (⟨by rw [stT_f0 c57]; rfl, rfl⟩)
      · refine g_iload C dX8_startsToken_60 rfl ?_
        refine g_if_ne (tgt := 69) C dX8_startsToken_62 (by decide) (fun c62 => absurd c62 (by decide)) (fun c62 => ?_)
        refine g_iconst (v := nI 1) C dX8_startsToken_65 (by decide) ?_
        refine g_goto (tgt := 70) C dX8_startsToken_66 (by decide) ?_
        exact g_zret C Rt dX8_startsToken_70 (by decide) (by decide) (by decide) (⟨by rw [stT_t (Nat.pos_iff_ne_zero.mp c57) (fun z => z.1.elim c12 c17)]; rfl, rfl⟩)
    · refine g_iconst (v := nI 1) C dX8_startsToken_20 (by decide) ?_
      refine g_goto (tgt := 25) C dX8_startsToken_21 (by decide) ?_
      refine g_istore_n C dX8_startsToken_25 (by decide) rfl (ll' := [some (.ref th), some (.int (nI a)), some (.int (nI (famN (t a)))), some (.int (nI 1)), none]) rfl ?_
      refine g_iload_n C dX8_startsToken_26 rfl ?_
      refine g_if_eq (tgt := 53) C dX8_startsToken_27 (by decide) (fun c27 => absurd c27 (by decide)) (fun c27 => ?_)
      refine g_iload_n C dX8_startsToken_30 rfl ?_
      refine g_if_le_n (tgt := 53) C dX8_startsToken_31 (by decide) (by omega) (fun c31 => ?_) (fun c31 => ?_)
      · refine g_iconst (v := nI 0) C dX8_startsToken_53 (by decide) ?_
        refine g_istore C dX8_startsToken_54 (by decide) rfl (ll' := [some (.ref th), some (.int (nI a)), some (.int (nI (famN (t a)))), some (.int (nI 1)), some (.int (nI 0))]) rfl ?_
        refine g_iload_n C dX8_startsToken_56 rfl ?_
        refine g_if_eq_n (tgt := 69) C dX8_startsToken_57 (by decide) (by have := famN_le (t a); omega) (fun c57 => ?_) (fun c57 => ?_)
        · refine g_iconst (v := nI 0) C dX8_startsToken_69 (by decide) ?_
          exact g_zret C Rt dX8_startsToken_70 (by decide) (by decide) (by decide) (⟨by rw [stT_f0 c57]; rfl, rfl⟩)
        · refine g_iload C dX8_startsToken_60 rfl ?_
          refine g_if_ne (tgt := 69) C dX8_startsToken_62 (by decide) (fun c62 => absurd c62 (by decide)) (fun c62 => ?_)
          refine g_iconst (v := nI 1) C dX8_startsToken_65 (by decide) ?_
          refine g_goto (tgt := 70) C dX8_startsToken_66 (by decide) ?_
          exact g_zret C Rt dX8_startsToken_70 (by decide) (by decide) (by decide) (⟨by rw [stT_t (Nat.pos_iff_ne_zero.mp c57) (fun z => absurd z.2.1 (by omega))]; rfl, rfl⟩)
      · refine g_aload_n C dX8_startsToken_34 rfl ?_
        refine g_get C i_X6 0 0 f_37 rfl rfl (by decide) rfl rfl dX8_startsToken_35 ?_
        refine g_iload_n C dX8_startsToken_38 rfl ?_
        refine g_iconst (v := nI 1) C dX8_startsToken_39 (by decide) ?_
        refine g_isub_n C dX8_startsToken_40 (by omega) ?_
        refine g_iald C 1 (a - 1) rfl rfl (by omega) (by decide) dX8_startsToken_41 ?_
        refine g_callS C (c_X8_familyOf E (t (a - 1)) ) gX8_startsToken_X8_familyOf rfl 1 (by decide +kernel) ⟨by decide, by decide⟩ ⟨by decide, by decide⟩ [] [0, 1] (wr := [gO th 6 [.ref tb, .int (nI n)], gA E tb 600 t]) rfl (by decide) rfl (by decide) (by decide) rfl rfl (Nat.le_of_ble_eq_true rfl) dX8_startsToken_42 ?_
        rintro _ _ ⟨rfl, rfl⟩
        show gg E _ 5 X 0 0 45 [some (.ref th), some (.int (nI a)), some (.int (nI (famN (t a)))), some (.int (nI 1)), none] [.int (nI (famN (t (a - 1))))] [gO th 6 [.ref tb, .int (nI n)], gA E tb 600 t]
        refine g_iload_n C dX8_startsToken_45 rfl ?_
        refine g_icmp_ne_n (tgt := 53) C dX8_startsToken_46 (by decide) (by have := famN_le (t a); have := famN_le (t (a - 1)); omega) (by have := famN_le (t a); have := famN_le (t (a - 1)); omega) (fun c46 => ?_) (fun c46 => ?_)
        · refine g_iconst (v := nI 0) C dX8_startsToken_53 (by decide) ?_
          refine g_istore C dX8_startsToken_54 (by decide) rfl (ll' := [some (.ref th), some (.int (nI a)), some (.int (nI (famN (t a)))), some (.int (nI 1)), some (.int (nI 0))]) rfl ?_
          refine g_iload_n C dX8_startsToken_56 rfl ?_
          refine g_if_eq_n (tgt := 69) C dX8_startsToken_57 (by decide) (by have := famN_le (t a); omega) (fun c57 => ?_) (fun c57 => ?_)
          · refine g_iconst (v := nI 0) C dX8_startsToken_69 (by decide) ?_
            exact g_zret C Rt dX8_startsToken_70 (by decide) (by decide) (by decide) (⟨by rw [stT_f0 c57]; rfl, rfl⟩)
          · refine g_iload C dX8_startsToken_60 rfl ?_
            refine g_if_ne (tgt := 69) C dX8_startsToken_62 (by decide) (fun c62 => absurd c62 (by decide)) (fun c62 => ?_)
            refine g_iconst (v := nI 1) C dX8_startsToken_65 (by decide) ?_
            refine g_goto (tgt := 70) C dX8_startsToken_66 (by decide) ?_
            exact g_zret C Rt dX8_startsToken_70 (by decide) (by decide) (by decide) (⟨by rw [stT_t (Nat.pos_iff_ne_zero.mp c57) (fun z => c46 z.2.2)]; rfl, rfl⟩)
        · refine g_iconst (v := nI 1) C dX8_startsToken_49 (by decide) ?_
          refine g_goto (tgt := 54) C dX8_startsToken_50 (by decide) ?_
          refine g_istore C dX8_startsToken_54 (by decide) rfl (ll' := [some (.ref th), some (.int (nI a)), some (.int (nI (famN (t a)))), some (.int (nI 1)), some (.int (nI 1))]) rfl ?_
          refine g_iload_n C dX8_startsToken_56 rfl ?_
          refine g_if_eq_n (tgt := 69) C dX8_startsToken_57 (by decide) (by have := famN_le (t a); omega) (fun c57 => ?_) (fun c57 => ?_)
          · refine g_iconst (v := nI 0) C dX8_startsToken_69 (by decide) ?_
            exact g_zret C Rt dX8_startsToken_70 (by decide) (by decide) (by decide) (⟨by rw [stT_f0 c57]; rfl, rfl⟩)
          · refine g_iload C dX8_startsToken_60 rfl ?_
            refine g_if_ne (tgt := 69) C dX8_startsToken_62 (by decide) (fun c62 => ?_) (fun c62 => absurd c62 (by decide))
            refine g_iconst (v := nI 0) C dX8_startsToken_69 (by decide) ?_
            exact g_zret C Rt dX8_startsToken_70 (by decide) (by decide) (by decide) (⟨by rw [stT_f1 ⟨Or.inr c17, c31, c46⟩]; rfl, rfl⟩)

abbrev rm_c_X8_append : Room := { frames := 0, cells := 0, slots := 0, locals := 0 }
set_option maxHeartbeats 4000000 in
set_option maxRecDepth 100000 in
theorem c_X8_append (E : gE) (h c0 c1 : Nat) (ks ps : Nat → Int32) (cn : Nat) (k : Int32) (p : Nat) (hc : cn ≤ 600) : MM E yX8_append wsX8_append rm_c_X8_append [.ref h, .int k, .int (nI p)] [gO h 8 [.ref c0, .ref c1, .int (nI cn)], gA E c0 601 ks, gA E c1 601 ps] (fun rv_ ru_ => rv_ = none ∧ ru_ = [gO h 8 [.ref c0, .ref c1, .int (nI (cn + 1))], gA E c0 601 (upd ks cn k), gA E c1 601 (upd ps cn (nI p))]) := by
  refine MM.ofG (cc := cX8_append) (maxL := 3) (ret := none) (by decide) rfl (Nat.le_of_ble_eq_true rfl) (ll := [some (.ref h), some (.int k), some (.int (nI p))]) rfl ?_
  intro X C Rt
  have C : gx E X cX8_append 3 wsX8_append RX8 := C
  have i_X8 : ∀ w ∈ u_ws RX8 TX8 3, w ∈ wsX8_append := by decide +kernel
  have f_15 : Cond.fieldLink RX8 15 "MarkPages$Tokens" "places" "[I" ∈ wsX8_append := by decide +kernel
  have f_18 : Cond.fieldLink RX8 18 "MarkPages$Tokens" "count" "I" ∈ wsX8_append := by decide +kernel
  have f_9 : Cond.fieldLink RX8 9 "MarkPages$Tokens" "kinds" "[I" ∈ wsX8_append := by decide +kernel
  refine g_aload_n C dX8_append_0 rfl ?_
  refine g_get C i_X8 0 2 f_18 rfl rfl (by decide) rfl rfl dX8_append_1 ?_
  refine g_sipush (v := nI 600) C dX8_append_4 (by decide) ?_
  refine g_icmp_gt_n (tgt := 40) C dX8_append_7 (by decide) (by omega) (by omega) (fun c7 => ?_) (fun c7 => ?_)
  · exact absurd c7 (by omega)
  · refine g_aload_n C dX8_append_10 rfl ?_
    refine g_get C i_X8 0 0 f_9 rfl rfl (by decide) rfl rfl dX8_append_11 ?_
    refine g_aload_n C dX8_append_14 rfl ?_
    refine g_get C i_X8 0 2 f_18 rfl rfl (by decide) rfl rfl dX8_append_15 ?_
    refine g_iload_n C dX8_append_18 rfl ?_
    refine g_iast C 1 cn rfl rfl (by omega) (by decide) dX8_append_19 (ws' := [gO h 8 [.ref c0, .ref c1, .int (nI cn)], gA E c0 601 (upd ks cn k), gA E c1 601 ps]) rfl ?_
    refine g_aload_n C dX8_append_20 rfl ?_
    refine g_get C i_X8 0 1 f_15 rfl rfl (by decide) rfl rfl dX8_append_21 ?_
    refine g_aload_n C dX8_append_24 rfl ?_
    refine g_get C i_X8 0 2 f_18 rfl rfl (by decide) rfl rfl dX8_append_25 ?_
    refine g_iload_n C dX8_append_28 rfl ?_
    refine g_iast C 2 cn rfl rfl (by omega) (by decide) dX8_append_29 (ws' := [gO h 8 [.ref c0, .ref c1, .int (nI cn)], gA E c0 601 (upd ks cn k), gA E c1 601 (upd ps cn (nI p))]) rfl ?_
    refine g_aload_n C dX8_append_30 rfl ?_
    refine g_dup C dX8_append_31 rfl ?_
    refine g_get C i_X8 0 2 f_18 rfl rfl (by decide) rfl rfl dX8_append_32 ?_
    refine g_iconst (v := nI 1) C dX8_append_35 (by decide) ?_
    refine g_iadd_n C dX8_append_36 ?_
    refine g_put C i_X8 tyX8 tyX8_ok nmX8 0 2 f_18 rfl rfl (by decide) rfl rfl rfl rfl rfl (Nat.le_of_ble_eq_true rfl) dX8_append_37 (ws' := [gO h 8 [.ref c0, .ref c1, .int (nI (cn + 1))], gA E c0 601 (upd ks cn k), gA E c1 601 (upd ps cn (nI p))]) rfl ?_
    exact g_vret C Rt dX8_append_40 (by decide) (by decide) (⟨rfl, rfl⟩)

abbrev rm_c_X8_scan : Room := { frames := 8, cells := 0, slots := 0, locals := 185 }
set_option maxHeartbeats 4000000 in
set_option maxRecDepth 100000 in
theorem c_X8_scan (E : gE) (th tb n : Nat) (t : Nat → Int32) (h c0 c1 cn : Nat) (ks ps : Nat → Int32) (hn : n ≤ 600) : MM E yX8_scan wsX8_scan rm_c_X8_scan [.ref h, .ref th] [gO h 8 [.ref c0, .ref c1, .int (nI cn)], gA E c0 601 ks, gA E c1 601 ps, gO th 6 [.ref tb, .int (nI n)], gA E tb 600 t] (fun rv_ ru_ => ∃ (ks2 ps2 : Nat → Int32), rv_ = none ∧ ru_ = [gO h 8 [.ref c0, .ref c1, .int (nI ((TKA t n).length))], gA E c0 601 ks2, gA E c1 601 ps2, gO th 6 [.ref tb, .int (nI n)], gA E tb 600 t] ∧ (tkR (TKA t n) ks2 ps2)) := by
  refine MM.ofG (cc := cX8_scan) (maxL := 3) (ret := none) (by decide) rfl (Nat.le_of_ble_eq_true rfl) (ll := [some (.ref h), some (.ref th), none]) rfl ?_
  intro X C Rt
  have C : gx E X cX8_scan 3 wsX8_scan RX8 := C
  have i_X6 : ∀ w ∈ u_ws RX6 TX6 2, w ∈ wsX8_scan := by decide +kernel
  have i_X8 : ∀ w ∈ u_ws RX8 TX8 3, w ∈ wsX8_scan := by decide +kernel
  have f_18 : Cond.fieldLink RX8 18 "MarkPages$Tokens" "count" "I" ∈ wsX8_scan := by decide +kernel
  have f_22 : Cond.fieldLink RX8 22 "MarkPages$Tape" "count" "I" ∈ wsX8_scan := by decide +kernel
  refine g_aload_n C dX8_scan_0 rfl ?_
  refine g_iconst (v := nI 0) C dX8_scan_1 (by decide) ?_
  refine g_put C i_X8 tyX8 tyX8_ok nmX8 0 2 f_18 rfl rfl (by decide) rfl rfl rfl rfl rfl (Nat.le_of_ble_eq_true rfl) dX8_scan_2 (ws' := [gO h 8 [.ref c0, .ref c1, .int (nI 0)], gA E c0 601 ks, gA E c1 601 ps, gO th 6 [.ref tb, .int (nI n)], gA E tb 600 t]) rfl ?_
  refine g_iconst (v := nI 0) C dX8_scan_5 (by decide) ?_
  refine g_istore_n C dX8_scan_6 (by decide) rfl (ll' := [some (.ref h), some (.ref th), some (.int (nI 0))]) rfl ?_
  have L7 : ∀ (n7 : Nat) (a : Nat) (k1 p1 : Nat → Int32), n - a < n7 → (a ≤ n) → (tkR (TKL t n a) k1 p1) → gg E rm_c_X8_scan 3 X 0 0 7 [some (.ref h), some (.ref th), some (.int (nI a))] [] [gO h 8 [.ref c0, .ref c1, .int (nI ((TKL t n a).length))], gA E c0 601 k1, gA E c1 601 p1, gO th 6 [.ref tb, .int (nI n)], gA E tb 600 t] := by
    intro n7
    induction n7 with
    | zero => intro a k1 p1 hm7; exact absurd hm7 (Nat.not_lt_zero _)
    | succ n7 ih7 =>
      intro a k1 p1 hm7 ha hr
      refine g_iload_n C dX8_scan_7 rfl ?_
      refine g_aload_n C dX8_scan_8 rfl ?_
      refine g_get C i_X6 3 1 f_22 rfl rfl (by decide) rfl rfl dX8_scan_9 ?_
      refine g_icmp_ge_n (tgt := 39) C dX8_scan_12 (by decide) (by omega) (by omega) (fun c12 => ?_) (fun c12 => ?_)
      · refine g_aload_n C dX8_scan_39 rfl ?_
        refine g_sipush (v := nI 1011) C dX8_scan_40 (by decide) ?_
        refine g_aload_n C dX8_scan_43 rfl ?_
        refine g_get C i_X6 3 1 f_22 rfl rfl (by decide) rfl rfl dX8_scan_44 ?_
        refine g_callV C (c_X8_append E h c0 c1 k1 p1 ((TKL t n a).length) (nI 1011) n (by have := TKL_len t n a; omega)) gX8_scan_X8_append rfl 2 (by decide +kernel) ⟨by decide, by decide⟩ ⟨by decide, by decide⟩ 0 rfl rfl [0, 1, 2] [3, 4] (wr := [gO th 6 [.ref tb, .int (nI n)], gA E tb 600 t]) rfl (by decide) rfl (by decide) (by decide) rfl rfl (Nat.le_of_ble_eq_true rfl) dX8_scan_47 ?_
        rintro _ _ ⟨rfl, rfl⟩
        refine gg.perm (ws' := [gO h 8 [.ref c0, .ref c1, .int (nI (((TKL t n a).length) + 1))], gA E c0 601 (upd k1 ((TKL t n a).length) (nI 1011)), gA E c1 601 (upd p1 ((TKL t n a).length) (nI n)), gO th 6 [.ref tb, .int (nI n)], gA E tb 600 t]) [2, 3, 4, 0, 1] (by decide) rfl ?_
        show gg E _ 3 X 0 0 50 [some (.ref h), some (.ref th), some (.int (nI a))] [] [gO h 8 [.ref c0, .ref c1, .int (nI (((TKL t n a).length) + 1))], gA E c0 601 (upd k1 ((TKL t n a).length) (nI 1011)), gA E c1 601 (upd p1 ((TKL t n a).length) (nI n)), gO th 6 [.ref tb, .int (nI n)], gA E tb 600 t]
        exact g_vret C Rt dX8_scan_50 (by decide) (by decide) (⟨upd k1 (TKL t n a).length (nI 1011), upd p1 (TKL t n a).length (nI n), rfl, by rw [TKA_len, show TKL t n n = TKL t n a from congrArg (TKL t n) (by omega)], by rw [TKA, show TKL t n n = TKL t n a from congrArg (TKL t n) (by omega)]; exact hr.snoc _ _⟩)
      · refine g_aload_n C dX8_scan_15 rfl ?_
        refine g_iload_n C dX8_scan_16 rfl ?_
        refine g_callS C (c_X8_startsToken E th tb n t a (by omega) (by omega)) gX8_scan_X8_startsToken rfl 2 (by decide +kernel) ⟨by decide, by decide⟩ ⟨by decide, by decide⟩ [3, 4] [0, 1, 2] (wr := [gO h 8 [.ref c0, .ref c1, .int (nI ((TKL t n a).length))], gA E c0 601 k1, gA E c1 601 p1]) rfl (by decide) rfl (by decide) (by decide) rfl rfl (Nat.le_of_ble_eq_true rfl) dX8_scan_17 ?_
        rintro _ _ ⟨rfl, rfl⟩
        show gg E _ 3 X 0 0 20 [some (.ref h), some (.ref th), some (.int (nI a))] [.int (b2i (stT t a))] [gO h 8 [.ref c0, .ref c1, .int (nI ((TKL t n a).length))], gA E c0 601 k1, gA E c1 601 p1, gO th 6 [.ref tb, .int (nI n)], gA E tb 600 t]
        refine g_if_eq (tgt := 33) C dX8_scan_20 (by decide) (fun c20 => ?_) (fun c20 => ?_)
        · have hS : TKL t n (a + 1) = TKL t n a := by rw [TKL, if_neg (by rw [b2i_f.mp c20]; decide)]
          rw [← hS]
          refine g_iinc_n (y := 1) C dX8_scan_33 rfl (by decide) (by decide) rfl (ll' := [some (.ref h), some (.ref th), some (.int (nI (a + 1)))]) rfl ?_
          refine g_goto (tgt := 7) C dX8_scan_36 (by decide) ?_
          exact ih7 (a + 1) k1 p1 (by omega) (by omega) (by rw [hS]; exact hr)
        · refine g_aload_n C dX8_scan_23 rfl ?_
          refine g_aload_n C dX8_scan_24 rfl ?_
          refine g_iload_n C dX8_scan_25 rfl ?_
          refine g_callS C (c_X8_tokenAt E th tb n t a (by omega) (by omega)) gX8_scan_X8_tokenAt rfl 2 (by decide +kernel) ⟨by decide, by decide⟩ ⟨by decide, by decide⟩ [3, 4] [0, 1, 2] (wr := [gO h 8 [.ref c0, .ref c1, .int (nI ((TKL t n a).length))], gA E c0 601 k1, gA E c1 601 p1]) rfl (by decide) rfl (by decide) (by decide) rfl rfl (Nat.le_of_ble_eq_true rfl) dX8_scan_26 ?_
          rintro _ _ ⟨rfl, rfl⟩
          show gg E _ 3 X 0 0 29 [some (.ref h), some (.ref th), some (.int (nI a))] [.int (tokC t n a), .ref h] [gO h 8 [.ref c0, .ref c1, .int (nI ((TKL t n a).length))], gA E c0 601 k1, gA E c1 601 p1, gO th 6 [.ref tb, .int (nI n)], gA E tb 600 t]
          refine g_iload_n C dX8_scan_29 rfl ?_
          refine g_callV C (c_X8_append E h c0 c1 k1 p1 ((TKL t n a).length) (tokC t n a) a (by have := TKL_len t n a; omega)) gX8_scan_X8_append rfl 2 (by decide +kernel) ⟨by decide, by decide⟩ ⟨by decide, by decide⟩ 0 rfl rfl [0, 1, 2] [3, 4] (wr := [gO th 6 [.ref tb, .int (nI n)], gA E tb 600 t]) rfl (by decide) rfl (by decide) (by decide) rfl rfl (Nat.le_of_ble_eq_true rfl) dX8_scan_30 ?_
          rintro _ _ ⟨rfl, rfl⟩
          refine gg.perm (ws' := [gO h 8 [.ref c0, .ref c1, .int (nI (((TKL t n a).length) + 1))], gA E c0 601 (upd k1 ((TKL t n a).length) (tokC t n a)), gA E c1 601 (upd p1 ((TKL t n a).length) (nI a)), gO th 6 [.ref tb, .int (nI n)], gA E tb 600 t]) [2, 3, 4, 0, 1] (by decide) rfl ?_
          show gg E _ 3 X 0 0 33 [some (.ref h), some (.ref th), some (.int (nI a))] [] [gO h 8 [.ref c0, .ref c1, .int (nI (((TKL t n a).length) + 1))], gA E c0 601 (upd k1 ((TKL t n a).length) (tokC t n a)), gA E c1 601 (upd p1 ((TKL t n a).length) (nI a)), gO th 6 [.ref tb, .int (nI n)], gA E tb 600 t]
          have hS : TKL t n (a + 1) = TKL t n a ++ [(tokC t n a, a)] := by rw [TKL, if_pos (b2i_t.mp c20)]
          rw [show (TKL t n a).length + 1 = (TKL t n (a + 1)).length by rw [hS]; exact tk1 _ _]
          refine g_iinc_n (y := 1) C dX8_scan_33 rfl (by decide) (by decide) rfl (ll' := [some (.ref h), some (.ref th), some (.int (nI (a + 1)))]) rfl ?_
          refine g_goto (tgt := 7) C dX8_scan_36 (by decide) ?_
          exact ih7 (a + 1) (upd k1 ((TKL t n a).length) (tokC t n a)) (upd p1 ((TKL t n a).length) (nI a)) (by omega) (by omega) (by rw [hS]; exact hr.snoc _ _)
  exact L7 _ 0 ks ps (Nat.lt_succ_self _) (by omega) (tkR.nil)

