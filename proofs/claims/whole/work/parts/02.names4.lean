theorem dX10_borne_1 : decode cX10_borne 1 = .ok (.iload_n 1, 1) := by decide +kernel
theorem dX10_borne_2 : decode cX10_borne 2 = .ok (.aload_n 0, 1) := by decide +kernel
theorem dX10_borne_3 : decode cX10_borne 3 = .ok (.getfield 59, 3) := by decide +kernel
theorem dX10_borne_6 : decode cX10_borne 6 = .ok (.iload_n 2, 1) := by decide +kernel
theorem dX10_borne_7 : decode cX10_borne 7 = .ok (.iaload, 1) := by decide +kernel
theorem dX10_borne_8 : decode cX10_borne 8 = .ok (.invokevirtual 97, 3) := by decide +kernel
theorem dX10_borne_11 : decode cX10_borne 11 = .ok (.istore_n 3, 1) := by decide +kernel
theorem dX10_borne_12 : decode cX10_borne 12 = .ok (.aload_n 0, 1) := by decide +kernel
theorem dX10_borne_13 : decode cX10_borne 13 = .ok (.aload_n 0, 1) := by decide +kernel
theorem dX10_borne_14 : decode cX10_borne 14 = .ok (.getfield 59, 3) := by decide +kernel
theorem dX10_borne_17 : decode cX10_borne 17 = .ok (.iload_n 2, 1) := by decide +kernel
theorem dX10_borne_18 : decode cX10_borne 18 = .ok (.iaload, 1) := by decide +kernel
theorem dX10_borne_19 : decode cX10_borne 19 = .ok (.invokevirtual 117, 3) := by decide +kernel
theorem dX10_borne_22 : decode cX10_borne 22 = .ok (.istore 4, 2) := by decide +kernel
theorem dX10_borne_24 : decode cX10_borne 24 = .ok (.iload_n 3, 1) := by decide +kernel
theorem dX10_borne_25 : decode cX10_borne 25 = .ok (.istore 5, 2) := by decide +kernel
theorem dX10_borne_27 : decode cX10_borne 27 = .ok (.iconst 1, 1) := by decide +kernel
theorem dX10_borne_28 : decode cX10_borne 28 = .ok (.istore 6, 2) := by decide +kernel
theorem dX10_borne_30 : decode cX10_borne 30 = .ok (.iload 6, 2) := by decide +kernel
theorem dX10_borne_32 : decode cX10_borne 32 = .ok (.iconst 1, 1) := by decide +kernel
theorem dX10_borne_33 : decode cX10_borne 33 = .ok (.aload_n 0, 1) := by decide +kernel
theorem dX10_borne_34 : decode cX10_borne 34 = .ok (.getfield 87, 3) := by decide +kernel
theorem dX10_borne_37 : decode cX10_borne 37 = .ok (.ishl, 1) := by decide +kernel
theorem dX10_borne_38 : decode cX10_borne 38 = .ok (.if_icmp .ge 73, 3) := by decide +kernel
theorem dX10_borne_41 : decode cX10_borne 41 = .ok (.iload 6, 2) := by decide +kernel
theorem dX10_borne_43 : decode cX10_borne 43 = .ok (.iload_n 3, 1) := by decide +kernel
theorem dX10_borne_44 : decode cX10_borne 44 = .ok (.iconst (-1), 1) := by decide +kernel
theorem dX10_borne_45 : decode cX10_borne 45 = .ok (.ixor, 1) := by decide +kernel
theorem dX10_borne_46 : decode cX10_borne 46 = .ok (.iand, 1) := by decide +kernel
theorem dX10_borne_47 : decode cX10_borne 47 = .ok (.ifCond .ne 58, 3) := by decide +kernel
theorem dX10_borne_50 : decode cX10_borne 50 = .ok (.iload 6, 2) := by decide +kernel
theorem dX10_borne_52 : decode cX10_borne 52 = .ok (.invokestatic 107, 3) := by decide +kernel
theorem dX10_borne_55 : decode cX10_borne 55 = .ok (.iload 5, 2) := by decide +kernel
theorem dX10_borne_57 : decode cX10_borne 57 = .ok (.invokestatic 107, 3) := by decide +kernel
theorem dX10_borne_60 : decode cX10_borne 60 = .ok (.if_icmp .lt 23, 3) := by decide +kernel
theorem dX10_borne_63 : decode cX10_borne 63 = .ok (.iload 6, 2) := by decide +kernel
theorem dX10_borne_65 : decode cX10_borne 65 = .ok (.invokestatic 107, 3) := by decide +kernel
theorem dX10_borne_68 : decode cX10_borne 68 = .ok (.iload 5, 2) := by decide +kernel
theorem dX10_borne_70 : decode cX10_borne 70 = .ok (.invokestatic 107, 3) := by decide +kernel
theorem dX10_borne_73 : decode cX10_borne 73 = .ok (.if_icmp .ne 32, 3) := by decide +kernel
theorem dX10_borne_76 : decode cX10_borne 76 = .ok (.iload 6, 2) := by decide +kernel
theorem dX10_borne_78 : decode cX10_borne 78 = .ok (.iload 5, 2) := by decide +kernel
theorem dX10_borne_80 : decode cX10_borne 80 = .ok (.if_icmp .ge 25, 3) := by decide +kernel
theorem dX10_borne_83 : decode cX10_borne 83 = .ok (.aload_n 0, 1) := by decide +kernel
theorem dX10_borne_84 : decode cX10_borne 84 = .ok (.aload_n 0, 1) := by decide +kernel
theorem dX10_borne_85 : decode cX10_borne 85 = .ok (.getfield 56, 3) := by decide +kernel
theorem dX10_borne_88 : decode cX10_borne 88 = .ok (.iload_n 2, 1) := by decide +kernel
theorem dX10_borne_89 : decode cX10_borne 89 = .ok (.iaload, 1) := by decide +kernel
theorem dX10_borne_90 : decode cX10_borne 90 = .ok (.iload_n 1, 1) := by decide +kernel
theorem dX10_borne_91 : decode cX10_borne 91 = .ok (.iload 6, 2) := by decide +kernel
theorem dX10_borne_93 : decode cX10_borne 93 = .ok (.iload 4, 2) := by decide +kernel
theorem dX10_borne_95 : decode cX10_borne 95 = .ok (.invokevirtual 247, 3) := by decide +kernel
theorem dX10_borne_98 : decode cX10_borne 98 = .ok (.ifCond .eq 7, 3) := by decide +kernel
theorem dX10_borne_101 : decode cX10_borne 101 = .ok (.iload 6, 2) := by decide +kernel
theorem dX10_borne_103 : decode cX10_borne 103 = .ok (.istore 5, 2) := by decide +kernel
theorem dX10_borne_105 : decode cX10_borne 105 = .ok (.iinc 6 1, 3) := by decide +kernel
theorem dX10_borne_108 : decode cX10_borne 108 = .ok (.goto (-78), 3) := by decide +kernel
theorem dX10_borne_111 : decode cX10_borne 111 = .ok (.iload 5, 2) := by decide +kernel
theorem dX10_borne_113 : decode cX10_borne 113 = .ok (.ireturn, 1) := by decide +kernel
set_option maxRecDepth 20000 in
theorem ggX10_line_X10_isPupil : GoodIn wsX10_line wsX10_isPupil := goodIn_r _ [8, 9, 10, 7, 11] (by decide +kernel) (by decide +kernel)
set_option maxRecDepth 20000 in
theorem gX10_line_X10_isPupil : GoodIn wsX10_line (va_wsS RX10 90 yX10_isPupil wsX10_isPupil) := goodIn_app (goodIn_of _ (by decide +kernel)) ggX10_line_X10_isPupil
set_option maxRecDepth 20000 in
theorem ggX10_line_X10_pages : GoodIn wsX10_line wsX10_pages := goodIn_r _ [15, 1, 16, 17, 2, 3, 4, 18, 19, 20, 7, 21, 22, 23, 24, 25, 26, 27, 28, 29, 30, 31, 32, 33, 34, 35, 36, 37, 38, 39, 40, 41, 42, 43, 44, 45, 46, 47, 48, 49, 50, 51, 52, 53, 54, 55, 56, 57, 58, 59, 60, 61, 62, 63, 68, 69, 70, 71, 72, 73, 74, 75, 76, 77, 78, 79, 80, 81, 82, 83, 84, 85, 86, 87, 88, 89, 90, 91, 92, 93, 94, 95, 96, 97, 98, 99, 100, 101, 102, 103, 104, 105, 106, 107] (by decide +kernel) (by decide +kernel)
set_option maxRecDepth 20000 in
theorem gX10_line_X10_pages : GoodIn wsX10_line (wsV RX10 251 RX10 yX10_pages wsX10_pages) := goodIn_app (goodIn_of _ (by decide +kernel)) ggX10_line_X10_pages
set_option maxRecDepth 20000 in
theorem ggX10_line_X10_isIn : GoodIn wsX10_line wsX10_isIn := goodIn_r _ [11] (by decide +kernel) (by decide +kernel)
set_option maxRecDepth 20000 in
theorem gX10_line_X10_isIn : GoodIn wsX10_line (va_wsS RX10 83 yX10_isIn wsX10_isIn) := goodIn_app (goodIn_of _ (by decide +kernel)) ggX10_line_X10_isIn
set_option maxRecDepth 20000 in
theorem ggX10_line_X10_borne : GoodIn wsX10_line wsX10_borne := goodIn_r _ [67, 4, 22, 3, 18, 19, 20, 7, 21, 23, 24, 29, 30, 31, 32, 33, 34, 35, 36, 37, 38, 50, 51, 52, 39, 40, 41, 42, 43, 44, 45, 46, 47, 48, 49, 53, 54, 55, 56, 57, 58, 59, 60, 61, 62, 63, 68, 69, 70, 71, 72, 73, 74, 75, 76, 77, 78, 79, 80, 81, 82, 83, 84, 85, 86, 87, 88, 89, 90, 91, 92, 93, 94, 95, 96, 97, 98, 99, 100, 101, 102, 103, 104, 105, 106, 107] (by decide +kernel) (by decide +kernel)
set_option maxRecDepth 20000 in
theorem gX10_line_X10_borne : GoodIn wsX10_line (wsV RX10 254 RX10 yX10_borne wsX10_borne) := goodIn_app (goodIn_of _ (by decide +kernel)) ggX10_line_X10_borne
theorem dX10_line_0 : decode cX10_line 0 = .ok (.iload_n 1, 1) := by decide +kernel
theorem dX10_line_1 : decode cX10_line 1 = .ok (.invokestatic 90, 3) := by decide +kernel
theorem dX10_line_4 : decode cX10_line 4 = .ok (.ifCond .ne 5, 3) := by decide +kernel
theorem dX10_line_7 : decode cX10_line 7 = .ok (.iconst (-1), 1) := by decide +kernel
theorem dX10_line_8 : decode cX10_line 8 = .ok (.ireturn, 1) := by decide +kernel
theorem dX10_line_9 : decode cX10_line 9 = .ok (.aload_n 0, 1) := by decide +kernel
theorem dX10_line_10 : decode cX10_line 10 = .ok (.iload_n 1, 1) := by decide +kernel
theorem dX10_line_11 : decode cX10_line 11 = .ok (.invokevirtual 251, 3) := by decide +kernel
theorem dX10_line_14 : decode cX10_line 14 = .ok (.iload_n 2, 1) := by decide +kernel
theorem dX10_line_15 : decode cX10_line 15 = .ok (.iconst 0, 1) := by decide +kernel
theorem dX10_line_16 : decode cX10_line 16 = .ok (.aload_n 0, 1) := by decide +kernel
theorem dX10_line_17 : decode cX10_line 17 = .ok (.getfield 240, 3) := by decide +kernel
theorem dX10_line_20 : decode cX10_line 20 = .ok (.iconst 1, 1) := by decide +kernel
theorem dX10_line_21 : decode cX10_line 21 = .ok (.isub, 1) := by decide +kernel
theorem dX10_line_22 : decode cX10_line 22 = .ok (.invokestatic 83, 3) := by decide +kernel
theorem dX10_line_25 : decode cX10_line 25 = .ok (.ifCond .ne 5, 3) := by decide +kernel
theorem dX10_line_28 : decode cX10_line 28 = .ok (.iconst (-1), 1) := by decide +kernel
theorem dX10_line_29 : decode cX10_line 29 = .ok (.ireturn, 1) := by decide +kernel
theorem dX10_line_30 : decode cX10_line 30 = .ok (.iload_n 3, 1) := by decide +kernel
theorem dX10_line_31 : decode cX10_line 31 = .ok (.ifCond .ne 17, 3) := by decide +kernel
theorem dX10_line_34 : decode cX10_line 34 = .ok (.aload_n 0, 1) := by decide +kernel
theorem dX10_line_35 : decode cX10_line 35 = .ok (.getfield 22, 3) := by decide +kernel
theorem dX10_line_38 : decode cX10_line 38 = .ok (.aload_n 0, 1) := by decide +kernel
theorem dX10_line_39 : decode cX10_line 39 = .ok (.getfield 56, 3) := by decide +kernel
theorem dX10_line_42 : decode cX10_line 42 = .ok (.iload_n 2, 1) := by decide +kernel
theorem dX10_line_43 : decode cX10_line 43 = .ok (.iaload, 1) := by decide +kernel
theorem dX10_line_44 : decode cX10_line 44 = .ok (.iaload, 1) := by decide +kernel
theorem dX10_line_45 : decode cX10_line 45 = .ok (.goto 46, 3) := by decide +kernel
theorem dX10_line_48 : decode cX10_line 48 = .ok (.iload_n 3, 1) := by decide +kernel
theorem dX10_line_49 : decode cX10_line 49 = .ok (.iconst 1, 1) := by decide +kernel
theorem dX10_line_50 : decode cX10_line 50 = .ok (.if_icmp .ne 12, 3) := by decide +kernel
theorem dX10_line_53 : decode cX10_line 53 = .ok (.aload_n 0, 1) := by decide +kernel
theorem dX10_line_54 : decode cX10_line 54 = .ok (.getfield 59, 3) := by decide +kernel
theorem dX10_line_57 : decode cX10_line 57 = .ok (.iload_n 2, 1) := by decide +kernel
theorem dX10_line_58 : decode cX10_line 58 = .ok (.iaload, 1) := by decide +kernel
theorem dX10_line_59 : decode cX10_line 59 = .ok (.goto 32, 3) := by decide +kernel
theorem dX10_line_62 : decode cX10_line 62 = .ok (.iload_n 3, 1) := by decide +kernel
theorem dX10_line_63 : decode cX10_line 63 = .ok (.iconst 2, 1) := by decide +kernel
theorem dX10_line_64 : decode cX10_line 64 = .ok (.if_icmp .ne 12, 3) := by decide +kernel
theorem dX10_line_67 : decode cX10_line 67 = .ok (.aload_n 0, 1) := by decide +kernel
theorem dX10_line_68 : decode cX10_line 68 = .ok (.getfield 56, 3) := by decide +kernel
theorem dX10_line_71 : decode cX10_line 71 = .ok (.iload_n 2, 1) := by decide +kernel
theorem dX10_line_72 : decode cX10_line 72 = .ok (.iaload, 1) := by decide +kernel
theorem dX10_line_73 : decode cX10_line 73 = .ok (.goto 18, 3) := by decide +kernel
theorem dX10_line_76 : decode cX10_line 76 = .ok (.iload_n 3, 1) := by decide +kernel
theorem dX10_line_77 : decode cX10_line 77 = .ok (.iconst 3, 1) := by decide +kernel
theorem dX10_line_78 : decode cX10_line 78 = .ok (.if_icmp .ne 12, 3) := by decide +kernel
theorem dX10_line_81 : decode cX10_line 81 = .ok (.aload_n 0, 1) := by decide +kernel
theorem dX10_line_82 : decode cX10_line 82 = .ok (.iload_n 1, 1) := by decide +kernel
theorem dX10_line_83 : decode cX10_line 83 = .ok (.iload_n 2, 1) := by decide +kernel
theorem dX10_line_84 : decode cX10_line 84 = .ok (.invokevirtual 254, 3) := by decide +kernel
theorem dX10_line_87 : decode cX10_line 87 = .ok (.goto 4, 3) := by decide +kernel
theorem dX10_line_90 : decode cX10_line 90 = .ok (.iconst (-1), 1) := by decide +kernel
theorem dX10_line_91 : decode cX10_line 91 = .ok (.ireturn, 1) := by decide +kernel
set_option maxRecDepth 20000 in
theorem ggX10_isTongue_X10_isIn : GoodIn wsX10_isTongue wsX10_isIn := goodIn_r _ [4] (by decide +kernel) (by decide +kernel)
set_option maxRecDepth 20000 in
theorem gX10_isTongue_X10_isIn : GoodIn wsX10_isTongue (va_wsS RX10 83 yX10_isIn wsX10_isIn) := goodIn_app (goodIn_of _ (by decide +kernel)) ggX10_isTongue_X10_isIn
theorem dX10_isTongue_0 : decode cX10_isTongue 0 = .ok (.iload_n 0, 1) := by decide +kernel
theorem dX10_isTongue_1 : decode cX10_isTongue 1 = .ok (.iconst 0, 1) := by decide +kernel
theorem dX10_isTongue_2 : decode cX10_isTongue 2 = .ok (.iconst 2, 1) := by decide +kernel
theorem dX10_isTongue_3 : decode cX10_isTongue 3 = .ok (.invokestatic 83, 3) := by decide +kernel
theorem dX10_isTongue_6 : decode cX10_isTongue 6 = .ok (.ireturn, 1) := by decide +kernel
set_option maxRecDepth 20000 in
theorem ggX10_phrase_X10_isIn : GoodIn wsX10_phrase wsX10_isIn := goodIn_r _ [8] (by decide +kernel) (by decide +kernel)
set_option maxRecDepth 20000 in
theorem gX10_phrase_X10_isIn : GoodIn wsX10_phrase (va_wsS RX10 83 yX10_isIn wsX10_isIn) := goodIn_app (goodIn_of _ (by decide +kernel)) ggX10_phrase_X10_isIn
set_option maxRecDepth 20000 in
theorem ggX10_phrase_X10_isTongue : GoodIn wsX10_phrase wsX10_isTongue := goodIn_r _ [11, 5, 6, 7, 8] (by decide +kernel) (by decide +kernel)
set_option maxRecDepth 20000 in
theorem gX10_phrase_X10_isTongue : GoodIn wsX10_phrase (va_wsS RX10 257 yX10_isTongue wsX10_isTongue) := goodIn_app (goodIn_of _ (by decide +kernel)) ggX10_phrase_X10_isTongue
theorem dX10_phrase_0 : decode cX10_phrase 0 = .ok (.aload_n 0, 1) := by decide +kernel
theorem dX10_phrase_1 : decode cX10_phrase 1 = .ok (.getfield 120, 3) := by decide +kernel
theorem dX10_phrase_4 : decode cX10_phrase 4 = .ok (.istore_n 3, 1) := by decide +kernel
theorem dX10_phrase_5 : decode cX10_phrase 5 = .ok (.aload_n 0, 1) := by decide +kernel
theorem dX10_phrase_6 : decode cX10_phrase 6 = .ok (.iconst 0, 1) := by decide +kernel
theorem dX10_phrase_7 : decode cX10_phrase 7 = .ok (.putfield 120, 3) := by decide +kernel
theorem dX10_phrase_10 : decode cX10_phrase 10 = .ok (.iload_n 1, 1) := by decide +kernel
theorem dX10_phrase_11 : decode cX10_phrase 11 = .ok (.iconst 0, 1) := by decide +kernel
theorem dX10_phrase_12 : decode cX10_phrase 12 = .ok (.bipush 39, 2) := by decide +kernel
theorem dX10_phrase_14 : decode cX10_phrase 14 = .ok (.invokestatic 83, 3) := by decide +kernel
theorem dX10_phrase_17 : decode cX10_phrase 17 = .ok (.ifCond .eq 16, 3) := by decide +kernel
theorem dX10_phrase_20 : decode cX10_phrase 20 = .ok (.iload_n 2, 1) := by decide +kernel
theorem dX10_phrase_21 : decode cX10_phrase 21 = .ok (.invokestatic 257, 3) := by decide +kernel
theorem dX10_phrase_24 : decode cX10_phrase 24 = .ok (.ifCond .eq 9, 3) := by decide +kernel
theorem dX10_phrase_27 : decode cX10_phrase 27 = .ok (.iload_n 3, 1) := by decide +kernel
theorem dX10_phrase_28 : decode cX10_phrase 28 = .ok (.bipush 20, 2) := by decide +kernel
theorem dX10_phrase_30 : decode cX10_phrase 30 = .ok (.if_icmp .le 5, 3) := by decide +kernel
theorem dX10_phrase_33 : decode cX10_phrase 33 = .ok (.iconst 0, 1) := by decide +kernel
theorem dX10_phrase_34 : decode cX10_phrase 34 = .ok (.ireturn, 1) := by decide +kernel
theorem dX10_phrase_35 : decode cX10_phrase 35 = .ok (.aload_n 0, 1) := by decide +kernel
theorem dX10_phrase_36 : decode cX10_phrase 36 = .ok (.getfield 62, 3) := by decide +kernel
theorem dX10_phrase_39 : decode cX10_phrase 39 = .ok (.iconst 3, 1) := by decide +kernel
theorem dX10_phrase_40 : decode cX10_phrase 40 = .ok (.iload_n 1, 1) := by decide +kernel
theorem dX10_phrase_41 : decode cX10_phrase 41 = .ok (.imul, 1) := by decide +kernel
theorem dX10_phrase_42 : decode cX10_phrase 42 = .ok (.iload_n 2, 1) := by decide +kernel
theorem dX10_phrase_43 : decode cX10_phrase 43 = .ok (.iadd, 1) := by decide +kernel
theorem dX10_phrase_44 : decode cX10_phrase 44 = .ok (.iload_n 3, 1) := by decide +kernel
theorem dX10_phrase_45 : decode cX10_phrase 45 = .ok (.iastore, 1) := by decide +kernel
theorem dX10_phrase_46 : decode cX10_phrase 46 = .ok (.iconst 0, 1) := by decide +kernel
theorem dX10_phrase_47 : decode cX10_phrase 47 = .ok (.istore 4, 2) := by decide +kernel
theorem dX10_phrase_49 : decode cX10_phrase 49 = .ok (.iload 4, 2) := by decide +kernel
theorem dX10_phrase_51 : decode cX10_phrase 51 = .ok (.iload_n 3, 1) := by decide +kernel
theorem dX10_phrase_52 : decode cX10_phrase 52 = .ok (.if_icmp .ge 32, 3) := by decide +kernel
theorem dX10_phrase_55 : decode cX10_phrase 55 = .ok (.aload_n 0, 1) := by decide +kernel
theorem dX10_phrase_56 : decode cX10_phrase 56 = .ok (.getfield 65, 3) := by decide +kernel
theorem dX10_phrase_59 : decode cX10_phrase 59 = .ok (.bipush 20, 2) := by decide +kernel
theorem dX10_phrase_61 : decode cX10_phrase 61 = .ok (.iconst 3, 1) := by decide +kernel
theorem dX10_phrase_62 : decode cX10_phrase 62 = .ok (.iload_n 1, 1) := by decide +kernel
theorem dX10_phrase_63 : decode cX10_phrase 63 = .ok (.imul, 1) := by decide +kernel
theorem dX10_phrase_64 : decode cX10_phrase 64 = .ok (.iload_n 2, 1) := by decide +kernel
theorem dX10_phrase_65 : decode cX10_phrase 65 = .ok (.iadd, 1) := by decide +kernel
theorem dX10_phrase_66 : decode cX10_phrase 66 = .ok (.imul, 1) := by decide +kernel
theorem dX10_phrase_67 : decode cX10_phrase 67 = .ok (.iload 4, 2) := by decide +kernel
theorem dX10_phrase_69 : decode cX10_phrase 69 = .ok (.iadd, 1) := by decide +kernel
theorem dX10_phrase_70 : decode cX10_phrase 70 = .ok (.aload_n 0, 1) := by decide +kernel
theorem dX10_phrase_71 : decode cX10_phrase 71 = .ok (.getfield 49, 3) := by decide +kernel
theorem dX10_phrase_74 : decode cX10_phrase 74 = .ok (.iload 4, 2) := by decide +kernel
theorem dX10_phrase_76 : decode cX10_phrase 76 = .ok (.iaload, 1) := by decide +kernel
theorem dX10_phrase_77 : decode cX10_phrase 77 = .ok (.iastore, 1) := by decide +kernel
theorem dX10_phrase_78 : decode cX10_phrase 78 = .ok (.iinc 4 1, 3) := by decide +kernel
theorem dX10_phrase_81 : decode cX10_phrase 81 = .ok (.goto (-32), 3) := by decide +kernel
theorem dX10_phrase_84 : decode cX10_phrase 84 = .ok (.iconst 1, 1) := by decide +kernel
theorem dX10_phrase_85 : decode cX10_phrase 85 = .ok (.ireturn, 1) := by decide +kernel
set_option maxRecDepth 20000 in
theorem ggX10_name_X10_isSkill : GoodIn wsX10_name wsX10_isSkill := goodIn_r _ [8, 9, 10, 7, 11] (by decide +kernel) (by decide +kernel)
set_option maxRecDepth 20000 in
theorem gX10_name_X10_isSkill : GoodIn wsX10_name (va_wsS RX10 104 yX10_isSkill wsX10_isSkill) := goodIn_app (goodIn_of _ (by decide +kernel)) ggX10_name_X10_isSkill
set_option maxRecDepth 20000 in
theorem ggX10_name_X10_isTongue : GoodIn wsX10_name wsX10_isTongue := goodIn_r _ [14, 9, 10, 7, 11] (by decide +kernel) (by decide +kernel)
set_option maxRecDepth 20000 in
theorem gX10_name_X10_isTongue : GoodIn wsX10_name (va_wsS RX10 257 yX10_isTongue wsX10_isTongue) := goodIn_app (goodIn_of _ (by decide +kernel)) ggX10_name_X10_isTongue
theorem dX10_name_0 : decode cX10_name 0 = .ok (.aload_n 0, 1) := by decide +kernel
theorem dX10_name_1 : decode cX10_name 1 = .ok (.getfield 120, 3) := by decide +kernel
theorem dX10_name_4 : decode cX10_name 4 = .ok (.istore_n 3, 1) := by decide +kernel
theorem dX10_name_5 : decode cX10_name 5 = .ok (.aload_n 0, 1) := by decide +kernel
theorem dX10_name_6 : decode cX10_name 6 = .ok (.iconst 0, 1) := by decide +kernel
theorem dX10_name_7 : decode cX10_name 7 = .ok (.putfield 120, 3) := by decide +kernel
theorem dX10_name_10 : decode cX10_name 10 = .ok (.iload_n 1, 1) := by decide +kernel
theorem dX10_name_11 : decode cX10_name 11 = .ok (.invokestatic 104, 3) := by decide +kernel
theorem dX10_name_14 : decode cX10_name 14 = .ok (.ifCond .eq 16, 3) := by decide +kernel
theorem dX10_name_17 : decode cX10_name 17 = .ok (.iload_n 2, 1) := by decide +kernel
theorem dX10_name_18 : decode cX10_name 18 = .ok (.invokestatic 257, 3) := by decide +kernel
theorem dX10_name_21 : decode cX10_name 21 = .ok (.ifCond .eq 9, 3) := by decide +kernel
theorem dX10_name_24 : decode cX10_name 24 = .ok (.iload_n 3, 1) := by decide +kernel
theorem dX10_name_25 : decode cX10_name 25 = .ok (.bipush 10, 2) := by decide +kernel
theorem dX10_name_27 : decode cX10_name 27 = .ok (.if_icmp .le 5, 3) := by decide +kernel
theorem dX10_name_30 : decode cX10_name 30 = .ok (.iconst 0, 1) := by decide +kernel
theorem dX10_name_31 : decode cX10_name 31 = .ok (.ireturn, 1) := by decide +kernel
theorem dX10_name_32 : decode cX10_name 32 = .ok (.aload_n 0, 1) := by decide +kernel
theorem dX10_name_33 : decode cX10_name 33 = .ok (.getfield 68, 3) := by decide +kernel
theorem dX10_name_36 : decode cX10_name 36 = .ok (.iconst 3, 1) := by decide +kernel
theorem dX10_name_37 : decode cX10_name 37 = .ok (.iload_n 1, 1) := by decide +kernel
theorem dX10_name_38 : decode cX10_name 38 = .ok (.imul, 1) := by decide +kernel
theorem dX10_name_39 : decode cX10_name 39 = .ok (.iload_n 2, 1) := by decide +kernel
theorem dX10_name_40 : decode cX10_name 40 = .ok (.iadd, 1) := by decide +kernel
theorem dX10_name_41 : decode cX10_name 41 = .ok (.iload_n 3, 1) := by decide +kernel
theorem dX10_name_42 : decode cX10_name 42 = .ok (.iastore, 1) := by decide +kernel
theorem dX10_name_43 : decode cX10_name 43 = .ok (.iconst 0, 1) := by decide +kernel
theorem dX10_name_44 : decode cX10_name 44 = .ok (.istore 4, 2) := by decide +kernel
theorem dX10_name_46 : decode cX10_name 46 = .ok (.iload 4, 2) := by decide +kernel
theorem dX10_name_48 : decode cX10_name 48 = .ok (.iload_n 3, 1) := by decide +kernel
theorem dX10_name_49 : decode cX10_name 49 = .ok (.if_icmp .ge 32, 3) := by decide +kernel
theorem dX10_name_52 : decode cX10_name 52 = .ok (.aload_n 0, 1) := by decide +kernel
theorem dX10_name_53 : decode cX10_name 53 = .ok (.getfield 71, 3) := by decide +kernel
theorem dX10_name_56 : decode cX10_name 56 = .ok (.bipush 10, 2) := by decide +kernel
theorem dX10_name_58 : decode cX10_name 58 = .ok (.iconst 3, 1) := by decide +kernel
theorem dX10_name_59 : decode cX10_name 59 = .ok (.iload_n 1, 1) := by decide +kernel
theorem dX10_name_60 : decode cX10_name 60 = .ok (.imul, 1) := by decide +kernel
theorem dX10_name_61 : decode cX10_name 61 = .ok (.iload_n 2, 1) := by decide +kernel
theorem dX10_name_62 : decode cX10_name 62 = .ok (.iadd, 1) := by decide +kernel
theorem dX10_name_63 : decode cX10_name 63 = .ok (.imul, 1) := by decide +kernel
theorem dX10_name_64 : decode cX10_name 64 = .ok (.iload 4, 2) := by decide +kernel
theorem dX10_name_66 : decode cX10_name 66 = .ok (.iadd, 1) := by decide +kernel
theorem dX10_name_67 : decode cX10_name 67 = .ok (.aload_n 0, 1) := by decide +kernel
theorem dX10_name_68 : decode cX10_name 68 = .ok (.getfield 49, 3) := by decide +kernel
theorem dX10_name_71 : decode cX10_name 71 = .ok (.iload 4, 2) := by decide +kernel
theorem dX10_name_73 : decode cX10_name 73 = .ok (.iaload, 1) := by decide +kernel
theorem dX10_name_74 : decode cX10_name 74 = .ok (.iastore, 1) := by decide +kernel
theorem dX10_name_75 : decode cX10_name 75 = .ok (.iinc 4 1, 3) := by decide +kernel
theorem dX10_name_78 : decode cX10_name 78 = .ok (.goto (-32), 3) := by decide +kernel
theorem dX10_name_81 : decode cX10_name 81 = .ok (.iconst 1, 1) := by decide +kernel
theorem dX10_name_82 : decode cX10_name 82 = .ok (.ireturn, 1) := by decide +kernel
theorem dX10_puts_0 : decode cX10_puts 0 = .ok (.aload_n 0, 1) := by decide +kernel
theorem dX10_puts_1 : decode cX10_puts 1 = .ok (.getfield 74, 3) := by decide +kernel
theorem dX10_puts_4 : decode cX10_puts 4 = .ok (.aload_n 0, 1) := by decide +kernel
theorem dX10_puts_5 : decode cX10_puts 5 = .ok (.getfield 260, 3) := by decide +kernel
theorem dX10_puts_8 : decode cX10_puts 8 = .ok (.iload_n 1, 1) := by decide +kernel
theorem dX10_puts_9 : decode cX10_puts 9 = .ok (.iastore, 1) := by decide +kernel
theorem dX10_puts_10 : decode cX10_puts 10 = .ok (.aload_n 0, 1) := by decide +kernel
theorem dX10_puts_11 : decode cX10_puts 11 = .ok (.dup, 1) := by decide +kernel
theorem dX10_puts_12 : decode cX10_puts 12 = .ok (.getfield 260, 3) := by decide +kernel
theorem dX10_puts_15 : decode cX10_puts 15 = .ok (.iconst 1, 1) := by decide +kernel
theorem dX10_puts_16 : decode cX10_puts 16 = .ok (.iadd, 1) := by decide +kernel
theorem dX10_puts_17 : decode cX10_puts 17 = .ok (.putfield 260, 3) := by decide +kernel
theorem dX10_puts_20 : decode cX10_puts 20 = .ok (.return_, 1) := by decide +kernel
set_option maxRecDepth 20000 in
theorem ggX10_writes_X10_puts : GoodIn wsX10_writes wsX10_puts := goodIn_r _ [12, 13, 14, 27, 28, 29, 30, 31, 32, 33, 34, 35, 36, 37, 38, 39, 40, 41, 42, 43, 44, 45, 46, 47, 48, 49, 50, 51, 52, 53, 54, 55, 56, 57, 58, 59, 60, 61, 62, 63, 64, 65, 66] (by decide +kernel) (by decide +kernel)
set_option maxRecDepth 20000 in
theorem gX10_writes_X10_puts : GoodIn wsX10_writes (wsV RX10 263 RX10 yX10_puts wsX10_puts) := goodIn_app (goodIn_of _ (by decide +kernel)) ggX10_writes_X10_puts
set_option maxRecDepth 20000 in
theorem ggX10_writes_X10_markedOf : GoodIn wsX10_writes wsX10_markedOf := goodIn_r _ [18, 19, 20, 21, 27, 28, 29, 30, 31, 32, 33, 34, 35, 36, 37, 38, 39, 40, 41, 42, 43, 44, 45, 46, 47, 48, 49, 50, 51, 52, 53, 54, 55, 56, 57, 58, 59, 60, 61, 62, 63, 64, 65, 66] (by decide +kernel) (by decide +kernel)
set_option maxRecDepth 20000 in
theorem gX10_writes_X10_markedOf : GoodIn wsX10_writes (wsV RX10 97 RX10 yX10_markedOf wsX10_markedOf) := goodIn_app (goodIn_of _ (by decide +kernel)) ggX10_writes_X10_markedOf
set_option maxRecDepth 20000 in
theorem ggX10_writes_X10_share : GoodIn wsX10_writes wsX10_share := goodIn_r _ [25, 19, 21, 26, 27, 28, 29, 30, 31, 32, 33, 34, 35, 36, 37, 38, 39, 40, 41, 42, 43, 44, 45, 46, 47, 48, 49, 50, 51, 52, 53, 54, 55, 56, 57, 58, 59, 60, 61, 62, 63, 64, 65, 66] (by decide +kernel) (by decide +kernel)
set_option maxRecDepth 20000 in
theorem gX10_writes_X10_share : GoodIn wsX10_writes (wsV RX10 101 RX10 yX10_share wsX10_share) := goodIn_app (goodIn_of _ (by decide +kernel)) ggX10_writes_X10_share
theorem dX10_writes_0 : decode cX10_writes 0 = .ok (.iconst 3, 1) := by decide +kernel
theorem dX10_writes_1 : decode cX10_writes 1 = .ok (.aload_n 0, 1) := by decide +kernel
theorem dX10_writes_2 : decode cX10_writes 2 = .ok (.getfield 22, 3) := by decide +kernel
theorem dX10_writes_5 : decode cX10_writes 5 = .ok (.aload_n 0, 1) := by decide +kernel
theorem dX10_writes_6 : decode cX10_writes 6 = .ok (.getfield 56, 3) := by decide +kernel
theorem dX10_writes_9 : decode cX10_writes 9 = .ok (.iload_n 2, 1) := by decide +kernel
theorem dX10_writes_10 : decode cX10_writes 10 = .ok (.iaload, 1) := by decide +kernel
theorem dX10_writes_11 : decode cX10_writes 11 = .ok (.iaload, 1) := by decide +kernel
theorem dX10_writes_12 : decode cX10_writes 12 = .ok (.imul, 1) := by decide +kernel
theorem dX10_writes_13 : decode cX10_writes 13 = .ok (.iload_n 3, 1) := by decide +kernel
theorem dX10_writes_14 : decode cX10_writes 14 = .ok (.iadd, 1) := by decide +kernel
theorem dX10_writes_15 : decode cX10_writes 15 = .ok (.istore 4, 2) := by decide +kernel
theorem dX10_writes_17 : decode cX10_writes 17 = .ok (.aload_n 0, 1) := by decide +kernel
theorem dX10_writes_18 : decode cX10_writes 18 = .ok (.getfield 59, 3) := by decide +kernel
theorem dX10_writes_21 : decode cX10_writes 21 = .ok (.iload_n 2, 1) := by decide +kernel
theorem dX10_writes_22 : decode cX10_writes 22 = .ok (.iaload, 1) := by decide +kernel
theorem dX10_writes_23 : decode cX10_writes 23 = .ok (.istore 5, 2) := by decide +kernel
theorem dX10_writes_25 : decode cX10_writes 25 = .ok (.aload_n 0, 1) := by decide +kernel
theorem dX10_writes_26 : decode cX10_writes 26 = .ok (.getfield 62, 3) := by decide +kernel
theorem dX10_writes_29 : decode cX10_writes 29 = .ok (.iload 4, 2) := by decide +kernel
theorem dX10_writes_31 : decode cX10_writes 31 = .ok (.iaload, 1) := by decide +kernel
theorem dX10_writes_32 : decode cX10_writes 32 = .ok (.ifCond .ne 4, 3) := by decide +kernel
theorem dX10_writes_35 : decode cX10_writes 35 = .ok (.return_, 1) := by decide +kernel
theorem dX10_writes_36 : decode cX10_writes 36 = .ok (.iconst 0, 1) := by decide +kernel
theorem dX10_writes_37 : decode cX10_writes 37 = .ok (.istore 6, 2) := by decide +kernel
theorem dX10_writes_39 : decode cX10_writes 39 = .ok (.iload 6, 2) := by decide +kernel
theorem dX10_writes_41 : decode cX10_writes 41 = .ok (.aload_n 0, 1) := by decide +kernel
theorem dX10_writes_42 : decode cX10_writes 42 = .ok (.getfield 62, 3) := by decide +kernel
theorem dX10_writes_45 : decode cX10_writes 45 = .ok (.iload 4, 2) := by decide +kernel
theorem dX10_writes_47 : decode cX10_writes 47 = .ok (.iaload, 1) := by decide +kernel
theorem dX10_writes_48 : decode cX10_writes 48 = .ok (.if_icmp .ge 163, 3) := by decide +kernel
theorem dX10_writes_51 : decode cX10_writes 51 = .ok (.aload_n 0, 1) := by decide +kernel
theorem dX10_writes_52 : decode cX10_writes 52 = .ok (.getfield 65, 3) := by decide +kernel
theorem dX10_writes_55 : decode cX10_writes 55 = .ok (.bipush 20, 2) := by decide +kernel
theorem dX10_writes_57 : decode cX10_writes 57 = .ok (.iload 4, 2) := by decide +kernel
theorem dX10_writes_59 : decode cX10_writes 59 = .ok (.imul, 1) := by decide +kernel
theorem dX10_writes_60 : decode cX10_writes 60 = .ok (.iload 6, 2) := by decide +kernel
theorem dX10_writes_62 : decode cX10_writes 62 = .ok (.iadd, 1) := by decide +kernel
theorem dX10_writes_63 : decode cX10_writes 63 = .ok (.iaload, 1) := by decide +kernel
theorem dX10_writes_64 : decode cX10_writes 64 = .ok (.istore 7, 2) := by decide +kernel
theorem dX10_writes_66 : decode cX10_writes 66 = .ok (.iload 7, 2) := by decide +kernel
theorem dX10_writes_68 : decode cX10_writes 68 = .ok (.bipush 37, 2) := by decide +kernel
theorem dX10_writes_70 : decode cX10_writes 70 = .ok (.if_icmp .ne 52, 3) := by decide +kernel
theorem dX10_writes_73 : decode cX10_writes 73 = .ok (.iconst 0, 1) := by decide +kernel
theorem dX10_writes_74 : decode cX10_writes 74 = .ok (.istore 8, 2) := by decide +kernel
theorem dX10_writes_76 : decode cX10_writes 76 = .ok (.iload 8, 2) := by decide +kernel
theorem dX10_writes_78 : decode cX10_writes 78 = .ok (.aload_n 0, 1) := by decide +kernel
theorem dX10_writes_79 : decode cX10_writes 79 = .ok (.getfield 68, 3) := by decide +kernel
theorem dX10_writes_82 : decode cX10_writes 82 = .ok (.iconst 3, 1) := by decide +kernel
theorem dX10_writes_83 : decode cX10_writes 83 = .ok (.iload 5, 2) := by decide +kernel
theorem dX10_writes_85 : decode cX10_writes 85 = .ok (.imul, 1) := by decide +kernel
theorem dX10_writes_86 : decode cX10_writes 86 = .ok (.iload_n 3, 1) := by decide +kernel
theorem dX10_writes_87 : decode cX10_writes 87 = .ok (.iadd, 1) := by decide +kernel
theorem dX10_writes_88 : decode cX10_writes 88 = .ok (.iaload, 1) := by decide +kernel
theorem dX10_writes_89 : decode cX10_writes 89 = .ok (.if_icmp .ge 30, 3) := by decide +kernel
theorem dX10_writes_92 : decode cX10_writes 92 = .ok (.aload_n 0, 1) := by decide +kernel
theorem dX10_writes_93 : decode cX10_writes 93 = .ok (.aload_n 0, 1) := by decide +kernel
theorem dX10_writes_94 : decode cX10_writes 94 = .ok (.getfield 71, 3) := by decide +kernel
theorem dX10_writes_97 : decode cX10_writes 97 = .ok (.bipush 10, 2) := by decide +kernel
theorem dX10_writes_99 : decode cX10_writes 99 = .ok (.iconst 3, 1) := by decide +kernel
theorem dX10_writes_100 : decode cX10_writes 100 = .ok (.iload 5, 2) := by decide +kernel
theorem dX10_writes_102 : decode cX10_writes 102 = .ok (.imul, 1) := by decide +kernel
theorem dX10_writes_103 : decode cX10_writes 103 = .ok (.iload_n 3, 1) := by decide +kernel
theorem dX10_writes_104 : decode cX10_writes 104 = .ok (.iadd, 1) := by decide +kernel
theorem dX10_writes_105 : decode cX10_writes 105 = .ok (.imul, 1) := by decide +kernel
theorem dX10_writes_106 : decode cX10_writes 106 = .ok (.iload 8, 2) := by decide +kernel
theorem dX10_writes_108 : decode cX10_writes 108 = .ok (.iadd, 1) := by decide +kernel
theorem dX10_writes_109 : decode cX10_writes 109 = .ok (.iaload, 1) := by decide +kernel
theorem dX10_writes_110 : decode cX10_writes 110 = .ok (.invokevirtual 263, 3) := by decide +kernel
theorem dX10_writes_113 : decode cX10_writes 113 = .ok (.iinc 8 1, 3) := by decide +kernel
theorem dX10_writes_116 : decode cX10_writes 116 = .ok (.goto (-40), 3) := by decide +kernel
theorem dX10_writes_119 : decode cX10_writes 119 = .ok (.goto 86, 3) := by decide +kernel
theorem dX10_writes_122 : decode cX10_writes 122 = .ok (.iload 7, 2) := by decide +kernel
theorem dX10_writes_124 : decode cX10_writes 124 = .ok (.bipush 35, 2) := by decide +kernel
theorem dX10_writes_126 : decode cX10_writes 126 = .ok (.if_icmp .ne 73, 3) := by decide +kernel
theorem dX10_writes_129 : decode cX10_writes 129 = .ok (.aload_n 0, 1) := by decide +kernel
theorem dX10_writes_130 : decode cX10_writes 130 = .ok (.iload_n 1, 1) := by decide +kernel
theorem dX10_writes_131 : decode cX10_writes 131 = .ok (.aload_n 0, 1) := by decide +kernel
theorem dX10_writes_132 : decode cX10_writes 132 = .ok (.iload_n 1, 1) := by decide +kernel
theorem dX10_writes_133 : decode cX10_writes 133 = .ok (.iload 5, 2) := by decide +kernel
theorem dX10_writes_135 : decode cX10_writes 135 = .ok (.invokevirtual 97, 3) := by decide +kernel
theorem dX10_writes_138 : decode cX10_writes 138 = .ok (.invokevirtual 101, 3) := by decide +kernel
theorem dX10_writes_141 : decode cX10_writes 141 = .ok (.istore 8, 2) := by decide +kernel
theorem dX10_writes_143 : decode cX10_writes 143 = .ok (.iload 8, 2) := by decide +kernel
theorem dX10_writes_145 : decode cX10_writes 145 = .ok (.bipush 99, 2) := by decide +kernel
theorem dX10_writes_147 : decode cX10_writes 147 = .ok (.if_icmp .le 15, 3) := by decide +kernel
theorem dX10_writes_150 : decode cX10_writes 150 = .ok (.aload_n 0, 1) := by decide +kernel
theorem dX10_writes_151 : decode cX10_writes 151 = .ok (.bipush 48, 2) := by decide +kernel
theorem dX10_writes_153 : decode cX10_writes 153 = .ok (.iload 8, 2) := by decide +kernel
theorem dX10_writes_155 : decode cX10_writes 155 = .ok (.bipush 100, 2) := by decide +kernel
theorem dX10_writes_157 : decode cX10_writes 157 = .ok (.idiv, 1) := by decide +kernel
theorem dX10_writes_158 : decode cX10_writes 158 = .ok (.iadd, 1) := by decide +kernel
theorem dX10_writes_159 : decode cX10_writes 159 = .ok (.invokevirtual 263, 3) := by decide +kernel
theorem dX10_writes_162 : decode cX10_writes 162 = .ok (.iload 8, 2) := by decide +kernel
theorem dX10_writes_164 : decode cX10_writes 164 = .ok (.bipush 9, 2) := by decide +kernel
theorem dX10_writes_166 : decode cX10_writes 166 = .ok (.if_icmp .le 18, 3) := by decide +kernel
theorem dX10_writes_169 : decode cX10_writes 169 = .ok (.aload_n 0, 1) := by decide +kernel
theorem dX10_writes_170 : decode cX10_writes 170 = .ok (.bipush 48, 2) := by decide +kernel
theorem dX10_writes_172 : decode cX10_writes 172 = .ok (.iload 8, 2) := by decide +kernel
theorem dX10_writes_174 : decode cX10_writes 174 = .ok (.bipush 10, 2) := by decide +kernel
theorem dX10_writes_176 : decode cX10_writes 176 = .ok (.idiv, 1) := by decide +kernel
theorem dX10_writes_177 : decode cX10_writes 177 = .ok (.bipush 10, 2) := by decide +kernel
theorem dX10_writes_179 : decode cX10_writes 179 = .ok (.irem, 1) := by decide +kernel
theorem dX10_writes_180 : decode cX10_writes 180 = .ok (.iadd, 1) := by decide +kernel
theorem dX10_writes_181 : decode cX10_writes 181 = .ok (.invokevirtual 263, 3) := by decide +kernel
theorem dX10_writes_184 : decode cX10_writes 184 = .ok (.aload_n 0, 1) := by decide +kernel
theorem dX10_writes_185 : decode cX10_writes 185 = .ok (.bipush 48, 2) := by decide +kernel
theorem dX10_writes_187 : decode cX10_writes 187 = .ok (.iload 8, 2) := by decide +kernel
theorem dX10_writes_189 : decode cX10_writes 189 = .ok (.bipush 10, 2) := by decide +kernel
theorem dX10_writes_191 : decode cX10_writes 191 = .ok (.irem, 1) := by decide +kernel
theorem dX10_writes_192 : decode cX10_writes 192 = .ok (.iadd, 1) := by decide +kernel
theorem dX10_writes_193 : decode cX10_writes 193 = .ok (.invokevirtual 263, 3) := by decide +kernel
theorem dX10_writes_196 : decode cX10_writes 196 = .ok (.goto 9, 3) := by decide +kernel
theorem dX10_writes_199 : decode cX10_writes 199 = .ok (.aload_n 0, 1) := by decide +kernel
theorem dX10_writes_200 : decode cX10_writes 200 = .ok (.iload 7, 2) := by decide +kernel
theorem dX10_writes_202 : decode cX10_writes 202 = .ok (.invokevirtual 263, 3) := by decide +kernel
theorem dX10_writes_205 : decode cX10_writes 205 = .ok (.iinc 6 1, 3) := by decide +kernel
theorem dX10_writes_208 : decode cX10_writes 208 = .ok (.goto (-169), 3) := by decide +kernel
theorem dX10_writes_211 : decode cX10_writes 211 = .ok (.aload_n 0, 1) := by decide +kernel
theorem dX10_writes_212 : decode cX10_writes 212 = .ok (.bipush 10, 2) := by decide +kernel
theorem dX10_writes_214 : decode cX10_writes 214 = .ok (.invokevirtual 263, 3) := by decide +kernel
theorem dX10_writes_217 : decode cX10_writes 217 = .ok (.return_, 1) := by decide +kernel
set_option maxRecDepth 20000 in
theorem ggX10_write_X10_isPupil : GoodIn wsX10_write wsX10_isPupil := goodIn_r _ [6, 7, 8, 5, 9] (by decide +kernel) (by decide +kernel)
set_option maxRecDepth 20000 in
theorem gX10_write_X10_isPupil : GoodIn wsX10_write (va_wsS RX10 90 yX10_isPupil wsX10_isPupil) := goodIn_app (goodIn_of _ (by decide +kernel)) ggX10_write_X10_isPupil
set_option maxRecDepth 20000 in
theorem ggX10_write_X10_isTongue : GoodIn wsX10_write wsX10_isTongue := goodIn_r _ [12, 7, 8, 5, 9] (by decide +kernel) (by decide +kernel)
set_option maxRecDepth 20000 in
theorem gX10_write_X10_isTongue : GoodIn wsX10_write (va_wsS RX10 257 yX10_isTongue wsX10_isTongue) := goodIn_app (goodIn_of _ (by decide +kernel)) ggX10_write_X10_isTongue
set_option maxRecDepth 20000 in
theorem ggX10_write_X10_pages : GoodIn wsX10_write wsX10_pages := goodIn_r _ [16, 2, 17, 18, 19, 20, 21, 22, 23, 24, 5, 25, 26, 27, 28, 29, 30, 31, 32, 33, 34, 35, 36, 37, 38, 39, 40, 41, 42, 43, 44, 45, 46, 47, 48, 49, 50, 51, 52, 53, 54, 55, 56, 57, 58, 59, 60, 61, 62, 63, 64, 65, 66, 67, 81, 82, 83, 84, 85, 86, 87, 88, 89, 90, 91, 92, 93, 94, 95, 96, 97, 98, 99, 100, 101, 102, 103, 104, 105, 106, 107, 108, 109, 110, 111, 112, 113, 114, 115, 116, 117, 118, 119, 120] (by decide +kernel) (by decide +kernel)
set_option maxRecDepth 20000 in
theorem gX10_write_X10_pages : GoodIn wsX10_write (wsV RX10 251 RX10 yX10_pages wsX10_pages) := goodIn_app (goodIn_of _ (by decide +kernel)) ggX10_write_X10_pages
set_option maxRecDepth 20000 in
theorem ggX10_write_X10_writes : GoodIn wsX10_write wsX10_writes := goodIn_r _ [71, 19, 20, 21, 72, 73, 74, 75, 76, 77, 78, 5, 79, 80, 1, 22, 23, 24, 25, 26, 27, 28, 38, 39, 40, 41, 42, 81, 82, 83, 84, 85, 86, 87, 88, 89, 90, 91, 92, 93, 94, 95, 96, 97, 98, 99, 100, 101, 102, 103, 104, 105, 106, 107, 108, 109, 110, 111, 112, 113, 114, 115, 116, 117, 118, 119, 120] (by decide +kernel) (by decide +kernel)
set_option maxRecDepth 20000 in
theorem gX10_write_X10_writes : GoodIn wsX10_write (wsV RX10 266 RX10 yX10_writes wsX10_writes) := goodIn_app (goodIn_of _ (by decide +kernel)) ggX10_write_X10_writes
theorem dX10_write_0 : decode cX10_write 0 = .ok (.iload_n 1, 1) := by decide +kernel
theorem dX10_write_1 : decode cX10_write 1 = .ok (.invokestatic 90, 3) := by decide +kernel
theorem dX10_write_4 : decode cX10_write 4 = .ok (.ifCond .eq 10, 3) := by decide +kernel
theorem dX10_write_7 : decode cX10_write 7 = .ok (.iload_n 2, 1) := by decide +kernel
theorem dX10_write_8 : decode cX10_write 8 = .ok (.invokestatic 257, 3) := by decide +kernel
theorem dX10_write_11 : decode cX10_write 11 = .ok (.ifCond .ne 5, 3) := by decide +kernel
theorem dX10_write_14 : decode cX10_write 14 = .ok (.iconst (-1), 1) := by decide +kernel
theorem dX10_write_15 : decode cX10_write 15 = .ok (.ireturn, 1) := by decide +kernel
theorem dX10_write_16 : decode cX10_write 16 = .ok (.aload_n 0, 1) := by decide +kernel
theorem dX10_write_17 : decode cX10_write 17 = .ok (.iload_n 1, 1) := by decide +kernel
theorem dX10_write_18 : decode cX10_write 18 = .ok (.invokevirtual 251, 3) := by decide +kernel
theorem dX10_write_21 : decode cX10_write 21 = .ok (.aload_n 0, 1) := by decide +kernel
theorem dX10_write_22 : decode cX10_write 22 = .ok (.iconst 0, 1) := by decide +kernel
theorem dX10_write_23 : decode cX10_write 23 = .ok (.putfield 260, 3) := by decide +kernel
theorem dX10_write_26 : decode cX10_write 26 = .ok (.iconst 0, 1) := by decide +kernel
theorem dX10_write_27 : decode cX10_write 27 = .ok (.istore_n 3, 1) := by decide +kernel
theorem dX10_write_28 : decode cX10_write 28 = .ok (.iload_n 3, 1) := by decide +kernel
theorem dX10_write_29 : decode cX10_write 29 = .ok (.aload_n 0, 1) := by decide +kernel
theorem dX10_write_30 : decode cX10_write 30 = .ok (.getfield 240, 3) := by decide +kernel
theorem dX10_write_33 : decode cX10_write 33 = .ok (.if_icmp .ge 16, 3) := by decide +kernel
theorem dX10_write_36 : decode cX10_write 36 = .ok (.aload_n 0, 1) := by decide +kernel
theorem dX10_write_37 : decode cX10_write 37 = .ok (.iload_n 1, 1) := by decide +kernel
theorem dX10_write_38 : decode cX10_write 38 = .ok (.iload_n 3, 1) := by decide +kernel
theorem dX10_write_39 : decode cX10_write 39 = .ok (.iload_n 2, 1) := by decide +kernel
theorem dX10_write_40 : decode cX10_write 40 = .ok (.invokevirtual 266, 3) := by decide +kernel
theorem dX10_write_43 : decode cX10_write 43 = .ok (.iinc 3 1, 3) := by decide +kernel
theorem dX10_write_46 : decode cX10_write 46 = .ok (.goto (-18), 3) := by decide +kernel
theorem dX10_write_49 : decode cX10_write 49 = .ok (.aload_n 0, 1) := by decide +kernel
theorem dX10_write_50 : decode cX10_write 50 = .ok (.getfield 260, 3) := by decide +kernel
theorem dX10_write_53 : decode cX10_write 53 = .ok (.ireturn, 1) := by decide +kernel
set_option maxRecDepth 20000 in
theorem ggX10_out_X10_isIn : GoodIn wsX10_out wsX10_isIn := goodIn_r _ [6] (by decide +kernel) (by decide +kernel)
set_option maxRecDepth 20000 in
theorem gX10_out_X10_isIn : GoodIn wsX10_out (va_wsS RX10 83 yX10_isIn wsX10_isIn) := goodIn_app (goodIn_of _ (by decide +kernel)) ggX10_out_X10_isIn
theorem dX10_out_0 : decode cX10_out 0 = .ok (.iload_n 1, 1) := by decide +kernel
theorem dX10_out_1 : decode cX10_out 1 = .ok (.iconst 0, 1) := by decide +kernel
theorem dX10_out_2 : decode cX10_out 2 = .ok (.aload_n 0, 1) := by decide +kernel
theorem dX10_out_3 : decode cX10_out 3 = .ok (.getfield 260, 3) := by decide +kernel
theorem dX10_out_6 : decode cX10_out 6 = .ok (.iconst 1, 1) := by decide +kernel
theorem dX10_out_7 : decode cX10_out 7 = .ok (.isub, 1) := by decide +kernel
theorem dX10_out_8 : decode cX10_out 8 = .ok (.invokestatic 83, 3) := by decide +kernel
theorem dX10_out_11 : decode cX10_out 11 = .ok (.ifCond .eq 12, 3) := by decide +kernel
theorem dX10_out_14 : decode cX10_out 14 = .ok (.aload_n 0, 1) := by decide +kernel
theorem dX10_out_15 : decode cX10_out 15 = .ok (.getfield 74, 3) := by decide +kernel
theorem dX10_out_18 : decode cX10_out 18 = .ok (.iload_n 1, 1) := by decide +kernel
theorem dX10_out_19 : decode cX10_out 19 = .ok (.iaload, 1) := by decide +kernel
theorem dX10_out_20 : decode cX10_out 20 = .ok (.goto 4, 3) := by decide +kernel
theorem dX10_out_23 : decode cX10_out 23 = .ok (.iconst (-1), 1) := by decide +kernel
theorem dX10_out_24 : decode cX10_out 24 = .ok (.ireturn, 1) := by decide +kernel
set_option maxRecDepth 20000 in
theorem ggX10_areAlike_X10_pages : GoodIn wsX10_areAlike wsX10_pages := goodIn_r _ [11, 1, 12, 13, 3, 4, 6, 14, 15, 16, 10, 17, 18, 19, 20, 21, 22, 23, 24, 25, 26, 27, 28, 29, 30, 31, 32, 33, 34, 35, 36, 37, 38, 39, 40, 41, 42, 43, 44, 45, 46, 47, 48, 49, 50, 51, 52, 53, 54, 55, 56, 57, 58, 59, 60, 61, 62, 63, 64, 65, 66, 67, 68, 69, 70, 71, 72, 73, 74, 75, 76, 77, 78, 79, 80, 81, 82, 83, 84, 85, 86, 87, 88, 89, 90, 91, 92, 93, 94, 95, 96, 97, 98, 99] (by decide +kernel) (by decide +kernel)
set_option maxRecDepth 20000 in
theorem gX10_areAlike_X10_pages : GoodIn wsX10_areAlike (wsV RX10 251 RX10 yX10_pages wsX10_pages) := goodIn_app (goodIn_of _ (by decide +kernel)) ggX10_areAlike_X10_pages
theorem dX10_areAlike_0 : decode cX10_areAlike 0 = .ok (.aload_n 0, 1) := by decide +kernel
theorem dX10_areAlike_1 : decode cX10_areAlike 1 = .ok (.iload_n 1, 1) := by decide +kernel
theorem dX10_areAlike_2 : decode cX10_areAlike 2 = .ok (.invokevirtual 251, 3) := by decide +kernel
theorem dX10_areAlike_5 : decode cX10_areAlike 5 = .ok (.aload_n 0, 1) := by decide +kernel
theorem dX10_areAlike_6 : decode cX10_areAlike 6 = .ok (.getfield 240, 3) := by decide +kernel
theorem dX10_areAlike_9 : decode cX10_areAlike 9 = .ok (.istore_n 3, 1) := by decide +kernel
theorem dX10_areAlike_10 : decode cX10_areAlike 10 = .ok (.iconst 0, 1) := by decide +kernel
theorem dX10_areAlike_11 : decode cX10_areAlike 11 = .ok (.istore 4, 2) := by decide +kernel
theorem dX10_areAlike_13 : decode cX10_areAlike 13 = .ok (.iload 4, 2) := by decide +kernel
theorem dX10_areAlike_15 : decode cX10_areAlike 15 = .ok (.iload_n 3, 1) := by decide +kernel
theorem dX10_areAlike_16 : decode cX10_areAlike 16 = .ok (.if_icmp .ge 42, 3) := by decide +kernel
theorem dX10_areAlike_19 : decode cX10_areAlike 19 = .ok (.aload_n 0, 1) := by decide +kernel
theorem dX10_areAlike_20 : decode cX10_areAlike 20 = .ok (.getfield 77, 3) := by decide +kernel
theorem dX10_areAlike_23 : decode cX10_areAlike 23 = .ok (.iload 4, 2) := by decide +kernel
theorem dX10_areAlike_25 : decode cX10_areAlike 25 = .ok (.aload_n 0, 1) := by decide +kernel
theorem dX10_areAlike_26 : decode cX10_areAlike 26 = .ok (.getfield 22, 3) := by decide +kernel
theorem dX10_areAlike_29 : decode cX10_areAlike 29 = .ok (.aload_n 0, 1) := by decide +kernel
theorem dX10_areAlike_30 : decode cX10_areAlike 30 = .ok (.getfield 56, 3) := by decide +kernel
theorem dX10_areAlike_33 : decode cX10_areAlike 33 = .ok (.iload 4, 2) := by decide +kernel
theorem dX10_areAlike_35 : decode cX10_areAlike 35 = .ok (.iaload, 1) := by decide +kernel
theorem dX10_areAlike_36 : decode cX10_areAlike 36 = .ok (.iaload, 1) := by decide +kernel
theorem dX10_areAlike_37 : decode cX10_areAlike 37 = .ok (.iastore, 1) := by decide +kernel
theorem dX10_areAlike_38 : decode cX10_areAlike 38 = .ok (.aload_n 0, 1) := by decide +kernel
theorem dX10_areAlike_39 : decode cX10_areAlike 39 = .ok (.getfield 80, 3) := by decide +kernel
theorem dX10_areAlike_42 : decode cX10_areAlike 42 = .ok (.iload 4, 2) := by decide +kernel
theorem dX10_areAlike_44 : decode cX10_areAlike 44 = .ok (.aload_n 0, 1) := by decide +kernel
theorem dX10_areAlike_45 : decode cX10_areAlike 45 = .ok (.getfield 59, 3) := by decide +kernel
theorem dX10_areAlike_48 : decode cX10_areAlike 48 = .ok (.iload 4, 2) := by decide +kernel
theorem dX10_areAlike_50 : decode cX10_areAlike 50 = .ok (.iaload, 1) := by decide +kernel
theorem dX10_areAlike_51 : decode cX10_areAlike 51 = .ok (.iastore, 1) := by decide +kernel
theorem dX10_areAlike_52 : decode cX10_areAlike 52 = .ok (.iinc 4 1, 3) := by decide +kernel
theorem dX10_areAlike_55 : decode cX10_areAlike 55 = .ok (.goto (-42), 3) := by decide +kernel
theorem dX10_areAlike_58 : decode cX10_areAlike 58 = .ok (.aload_n 0, 1) := by decide +kernel
theorem dX10_areAlike_59 : decode cX10_areAlike 59 = .ok (.iload_n 2, 1) := by decide +kernel
theorem dX10_areAlike_60 : decode cX10_areAlike 60 = .ok (.invokevirtual 251, 3) := by decide +kernel
theorem dX10_areAlike_63 : decode cX10_areAlike 63 = .ok (.aload_n 0, 1) := by decide +kernel
theorem dX10_areAlike_64 : decode cX10_areAlike 64 = .ok (.getfield 240, 3) := by decide +kernel
theorem dX10_areAlike_67 : decode cX10_areAlike 67 = .ok (.iload_n 3, 1) := by decide +kernel
theorem dX10_areAlike_68 : decode cX10_areAlike 68 = .ok (.if_icmp .ne 7, 3) := by decide +kernel
theorem dX10_areAlike_71 : decode cX10_areAlike 71 = .ok (.iconst 1, 1) := by decide +kernel
theorem dX10_areAlike_72 : decode cX10_areAlike 72 = .ok (.goto 4, 3) := by decide +kernel
theorem dX10_areAlike_75 : decode cX10_areAlike 75 = .ok (.iconst 0, 1) := by decide +kernel
theorem dX10_areAlike_76 : decode cX10_areAlike 76 = .ok (.istore 4, 2) := by decide +kernel
theorem dX10_areAlike_78 : decode cX10_areAlike 78 = .ok (.iconst 0, 1) := by decide +kernel
theorem dX10_areAlike_79 : decode cX10_areAlike 79 = .ok (.istore 5, 2) := by decide +kernel
theorem dX10_areAlike_81 : decode cX10_areAlike 81 = .ok (.iload 5, 2) := by decide +kernel
theorem dX10_areAlike_83 : decode cX10_areAlike 83 = .ok (.iload_n 3, 1) := by decide +kernel
theorem dX10_areAlike_84 : decode cX10_areAlike 84 = .ok (.if_icmp .ge 60, 3) := by decide +kernel
theorem dX10_areAlike_87 : decode cX10_areAlike 87 = .ok (.iload 4, 2) := by decide +kernel
theorem dX10_areAlike_89 : decode cX10_areAlike 89 = .ok (.ifCond .eq 55, 3) := by decide +kernel
theorem dX10_areAlike_92 : decode cX10_areAlike 92 = .ok (.aload_n 0, 1) := by decide +kernel
theorem dX10_areAlike_93 : decode cX10_areAlike 93 = .ok (.getfield 22, 3) := by decide +kernel
theorem dX10_areAlike_96 : decode cX10_areAlike 96 = .ok (.aload_n 0, 1) := by decide +kernel
theorem dX10_areAlike_97 : decode cX10_areAlike 97 = .ok (.getfield 56, 3) := by decide +kernel
theorem dX10_areAlike_100 : decode cX10_areAlike 100 = .ok (.iload 5, 2) := by decide +kernel
theorem dX10_areAlike_102 : decode cX10_areAlike 102 = .ok (.iaload, 1) := by decide +kernel
theorem dX10_areAlike_103 : decode cX10_areAlike 103 = .ok (.iaload, 1) := by decide +kernel
theorem dX10_areAlike_104 : decode cX10_areAlike 104 = .ok (.aload_n 0, 1) := by decide +kernel
theorem dX10_areAlike_105 : decode cX10_areAlike 105 = .ok (.getfield 77, 3) := by decide +kernel
theorem dX10_areAlike_108 : decode cX10_areAlike 108 = .ok (.iload 5, 2) := by decide +kernel
theorem dX10_areAlike_110 : decode cX10_areAlike 110 = .ok (.iaload, 1) := by decide +kernel
theorem dX10_areAlike_111 : decode cX10_areAlike 111 = .ok (.if_icmp .ne 24, 3) := by decide +kernel
theorem dX10_areAlike_114 : decode cX10_areAlike 114 = .ok (.aload_n 0, 1) := by decide +kernel
theorem dX10_areAlike_115 : decode cX10_areAlike 115 = .ok (.getfield 59, 3) := by decide +kernel
theorem dX10_areAlike_118 : decode cX10_areAlike 118 = .ok (.iload 5, 2) := by decide +kernel
theorem dX10_areAlike_120 : decode cX10_areAlike 120 = .ok (.iaload, 1) := by decide +kernel
theorem dX10_areAlike_121 : decode cX10_areAlike 121 = .ok (.aload_n 0, 1) := by decide +kernel
theorem dX10_areAlike_122 : decode cX10_areAlike 122 = .ok (.getfield 80, 3) := by decide +kernel
theorem dX10_areAlike_125 : decode cX10_areAlike 125 = .ok (.iload 5, 2) := by decide +kernel
theorem dX10_areAlike_127 : decode cX10_areAlike 127 = .ok (.iaload, 1) := by decide +kernel
theorem dX10_areAlike_128 : decode cX10_areAlike 128 = .ok (.if_icmp .ne 7, 3) := by decide +kernel
theorem dX10_areAlike_131 : decode cX10_areAlike 131 = .ok (.iconst 1, 1) := by decide +kernel
theorem dX10_areAlike_132 : decode cX10_areAlike 132 = .ok (.goto 4, 3) := by decide +kernel
theorem dX10_areAlike_135 : decode cX10_areAlike 135 = .ok (.iconst 0, 1) := by decide +kernel
theorem dX10_areAlike_136 : decode cX10_areAlike 136 = .ok (.istore 4, 2) := by decide +kernel
theorem dX10_areAlike_138 : decode cX10_areAlike 138 = .ok (.iinc 5 1, 3) := by decide +kernel
theorem dX10_areAlike_141 : decode cX10_areAlike 141 = .ok (.goto (-60), 3) := by decide +kernel
theorem dX10_areAlike_144 : decode cX10_areAlike 144 = .ok (.iload 4, 2) := by decide +kernel
theorem dX10_areAlike_146 : decode cX10_areAlike 146 = .ok (.ireturn, 1) := by decide +kernel
set_option maxRecDepth 20000 in
theorem ggX10_alike_X10_isPupil : GoodIn wsX10_alike wsX10_isPupil := goodIn_r _ [4, 5, 6, 3, 7] (by decide +kernel) (by decide +kernel)
set_option maxRecDepth 20000 in
theorem gX10_alike_X10_isPupil : GoodIn wsX10_alike (va_wsS RX10 90 yX10_isPupil wsX10_isPupil) := goodIn_app (goodIn_of _ (by decide +kernel)) ggX10_alike_X10_isPupil
set_option maxRecDepth 20000 in
theorem ggX10_alike_X10_areAlike : GoodIn wsX10_alike wsX10_areAlike := goodIn_r _ [11, 12, 13, 14, 15, 16, 17, 18, 19, 20, 3, 21, 22, 23, 24, 25, 26, 27, 28, 29, 30, 31, 32, 33, 34, 35, 36, 37, 38, 39, 40, 41, 42, 43, 44, 45, 46, 47, 48, 49, 50, 51, 52, 53, 54, 55, 56, 57, 58, 59, 60, 61, 62, 63, 64, 65, 66, 67, 68, 69, 70, 71, 72, 73, 74, 75, 76, 77, 78, 79, 80, 81, 82, 83, 84, 85, 86, 87, 88, 89, 90, 91, 92, 93, 94, 95, 96, 97, 98, 99, 100, 101, 102, 103, 104, 105, 106, 107, 108, 109] (by decide +kernel) (by decide +kernel)
set_option maxRecDepth 20000 in
theorem gX10_alike_X10_areAlike : GoodIn wsX10_alike (wsV RX10 270 RX10 yX10_areAlike wsX10_areAlike) := goodIn_app (goodIn_of _ (by decide +kernel)) ggX10_alike_X10_areAlike
theorem dX10_alike_0 : decode cX10_alike 0 = .ok (.iload_n 1, 1) := by decide +kernel
theorem dX10_alike_1 : decode cX10_alike 1 = .ok (.invokestatic 90, 3) := by decide +kernel
theorem dX10_alike_4 : decode cX10_alike 4 = .ok (.ifCond .eq 10, 3) := by decide +kernel
theorem dX10_alike_7 : decode cX10_alike 7 = .ok (.iload_n 2, 1) := by decide +kernel
theorem dX10_alike_8 : decode cX10_alike 8 = .ok (.invokestatic 90, 3) := by decide +kernel
theorem dX10_alike_11 : decode cX10_alike 11 = .ok (.ifCond .ne 7, 3) := by decide +kernel
theorem dX10_alike_14 : decode cX10_alike 14 = .ok (.iconst (-1), 1) := by decide +kernel
theorem dX10_alike_15 : decode cX10_alike 15 = .ok (.goto 17, 3) := by decide +kernel
theorem dX10_alike_18 : decode cX10_alike 18 = .ok (.aload_n 0, 1) := by decide +kernel
theorem dX10_alike_19 : decode cX10_alike 19 = .ok (.iload_n 1, 1) := by decide +kernel
theorem dX10_alike_20 : decode cX10_alike 20 = .ok (.iload_n 2, 1) := by decide +kernel
theorem dX10_alike_21 : decode cX10_alike 21 = .ok (.invokevirtual 270, 3) := by decide +kernel
theorem dX10_alike_24 : decode cX10_alike 24 = .ok (.ifCond .eq 7, 3) := by decide +kernel
theorem dX10_alike_27 : decode cX10_alike 27 = .ok (.iconst 1, 1) := by decide +kernel
theorem dX10_alike_28 : decode cX10_alike 28 = .ok (.goto 4, 3) := by decide +kernel
theorem dX10_alike_31 : decode cX10_alike 31 = .ok (.iconst 0, 1) := by decide +kernel
theorem dX10_alike_32 : decode cX10_alike 32 = .ok (.ireturn, 1) := by decide +kernel
set_option maxRecDepth 20000 in
theorem ggX10_sheet_X10_isSkill : GoodIn wsX10_sheet wsX10_isSkill := goodIn_r _ [4, 5, 6, 3, 7] (by decide +kernel) (by decide +kernel)
set_option maxRecDepth 20000 in
theorem gX10_sheet_X10_isSkill : GoodIn wsX10_sheet (va_wsS RX10 104 yX10_isSkill wsX10_isSkill) := goodIn_app (goodIn_of _ (by decide +kernel)) ggX10_sheet_X10_isSkill
set_option maxRecDepth 20000 in
theorem ggX10_sheet_X10_isIn : GoodIn wsX10_sheet wsX10_isIn := goodIn_r _ [7] (by decide +kernel) (by decide +kernel)
set_option maxRecDepth 20000 in
theorem gX10_sheet_X10_isIn : GoodIn wsX10_sheet (va_wsS RX10 83 yX10_isIn wsX10_isIn) := goodIn_app (goodIn_of _ (by decide +kernel)) ggX10_sheet_X10_isIn
set_option maxRecDepth 20000 in
theorem ggX10_sheet_X10_pages : GoodIn wsX10_sheet wsX10_pages := goodIn_r _ [11, 12, 13, 14, 15, 16, 17, 18, 19, 20, 3, 21, 22, 23, 24, 25, 26, 27, 28, 29, 30, 31, 32, 33, 34, 35, 36, 37, 38, 39, 40, 41, 42, 43, 44, 45, 46, 47, 48, 49, 50, 51, 52, 53, 54, 55, 56, 57, 58, 59, 60, 61, 62, 63, 64, 65, 66, 67, 68, 69, 70, 71, 72, 73, 74, 75, 76, 77, 78, 79, 80, 81, 82, 83, 84, 85, 86, 87, 88, 89, 90, 91, 92, 93, 94, 95, 96, 97, 98, 99, 100, 101, 102, 103] (by decide +kernel) (by decide +kernel)
set_option maxRecDepth 20000 in
theorem gX10_sheet_X10_pages : GoodIn wsX10_sheet (wsV RX10 251 RX10 yX10_pages wsX10_pages) := goodIn_app (goodIn_of _ (by decide +kernel)) ggX10_sheet_X10_pages
set_option maxRecDepth 20000 in
theorem ggX10_sheet_X10_has : GoodIn wsX10_sheet wsX10_has := goodIn_r _ [28, 12, 17, 15, 16, 64, 65, 66, 67, 68, 69, 70, 71, 72, 73, 74, 75, 76, 77, 78, 79, 80, 81, 82, 83, 84, 85, 86, 87, 88, 89, 90, 91, 92, 93, 94, 95, 96, 97, 98, 99, 100, 101, 102, 103] (by decide +kernel) (by decide +kernel)
set_option maxRecDepth 20000 in
theorem gX10_sheet_X10_has : GoodIn wsX10_sheet (wsV RX10 243 RX10 yX10_has wsX10_has) := goodIn_app (goodIn_of _ (by decide +kernel)) ggX10_sheet_X10_has
theorem dX10_sheet_0 : decode cX10_sheet 0 = .ok (.iload_n 1, 1) := by decide +kernel
theorem dX10_sheet_1 : decode cX10_sheet 1 = .ok (.invokestatic 104, 3) := by decide +kernel
theorem dX10_sheet_4 : decode cX10_sheet 4 = .ok (.ifCond .eq 12, 3) := by decide +kernel
theorem dX10_sheet_7 : decode cX10_sheet 7 = .ok (.iload_n 2, 1) := by decide +kernel
theorem dX10_sheet_8 : decode cX10_sheet 8 = .ok (.iconst 0, 1) := by decide +kernel
theorem dX10_sheet_9 : decode cX10_sheet 9 = .ok (.iconst 3, 1) := by decide +kernel
theorem dX10_sheet_10 : decode cX10_sheet 10 = .ok (.invokestatic 83, 3) := by decide +kernel
theorem dX10_sheet_13 : decode cX10_sheet 13 = .ok (.ifCond .ne 5, 3) := by decide +kernel
theorem dX10_sheet_16 : decode cX10_sheet 16 = .ok (.iconst (-1), 1) := by decide +kernel
theorem dX10_sheet_17 : decode cX10_sheet 17 = .ok (.ireturn, 1) := by decide +kernel
theorem dX10_sheet_18 : decode cX10_sheet 18 = .ok (.iconst 0, 1) := by decide +kernel
theorem dX10_sheet_19 : decode cX10_sheet 19 = .ok (.istore_n 3, 1) := by decide +kernel
theorem dX10_sheet_20 : decode cX10_sheet 20 = .ok (.iconst 0, 1) := by decide +kernel
theorem dX10_sheet_21 : decode cX10_sheet 21 = .ok (.istore 4, 2) := by decide +kernel
theorem dX10_sheet_23 : decode cX10_sheet 23 = .ok (.iload 4, 2) := by decide +kernel
theorem dX10_sheet_25 : decode cX10_sheet 25 = .ok (.bipush 8, 2) := by decide +kernel
theorem dX10_sheet_27 : decode cX10_sheet 27 = .ok (.if_icmp .ge 32, 3) := by decide +kernel
theorem dX10_sheet_30 : decode cX10_sheet 30 = .ok (.aload_n 0, 1) := by decide +kernel
theorem dX10_sheet_31 : decode cX10_sheet 31 = .ok (.iload 4, 2) := by decide +kernel
theorem dX10_sheet_33 : decode cX10_sheet 33 = .ok (.invokevirtual 251, 3) := by decide +kernel
theorem dX10_sheet_36 : decode cX10_sheet 36 = .ok (.iload_n 3, 1) := by decide +kernel
theorem dX10_sheet_37 : decode cX10_sheet 37 = .ok (.aload_n 0, 1) := by decide +kernel
theorem dX10_sheet_38 : decode cX10_sheet 38 = .ok (.iload_n 1, 1) := by decide +kernel
theorem dX10_sheet_39 : decode cX10_sheet 39 = .ok (.iload_n 2, 1) := by decide +kernel
theorem dX10_sheet_40 : decode cX10_sheet 40 = .ok (.invokevirtual 243, 3) := by decide +kernel
theorem dX10_sheet_43 : decode cX10_sheet 43 = .ok (.ifCond .eq 7, 3) := by decide +kernel
theorem dX10_sheet_46 : decode cX10_sheet 46 = .ok (.iconst 1, 1) := by decide +kernel
theorem dX10_sheet_47 : decode cX10_sheet 47 = .ok (.goto 4, 3) := by decide +kernel
theorem dX10_sheet_50 : decode cX10_sheet 50 = .ok (.iconst 0, 1) := by decide +kernel
theorem dX10_sheet_51 : decode cX10_sheet 51 = .ok (.iadd, 1) := by decide +kernel
theorem dX10_sheet_52 : decode cX10_sheet 52 = .ok (.istore_n 3, 1) := by decide +kernel
theorem dX10_sheet_53 : decode cX10_sheet 53 = .ok (.iinc 4 1, 3) := by decide +kernel
theorem dX10_sheet_56 : decode cX10_sheet 56 = .ok (.goto (-33), 3) := by decide +kernel
theorem dX10_sheet_59 : decode cX10_sheet 59 = .ok (.iload_n 3, 1) := by decide +kernel
theorem dX10_sheet_60 : decode cX10_sheet 60 = .ok (.ireturn, 1) := by decide +kernel
theorem dX10_hasMark_0 : decode cX10_hasMark 0 = .ok (.iconst 0, 1) := by decide +kernel
theorem dX10_hasMark_1 : decode cX10_hasMark 1 = .ok (.istore_n 2, 1) := by decide +kernel
theorem dX10_hasMark_2 : decode cX10_hasMark 2 = .ok (.iconst 0, 1) := by decide +kernel
theorem dX10_hasMark_3 : decode cX10_hasMark 3 = .ok (.istore_n 3, 1) := by decide +kernel
theorem dX10_hasMark_4 : decode cX10_hasMark 4 = .ok (.iload_n 3, 1) := by decide +kernel
theorem dX10_hasMark_5 : decode cX10_hasMark 5 = .ok (.aload_n 0, 1) := by decide +kernel
theorem dX10_hasMark_6 : decode cX10_hasMark 6 = .ok (.getfield 87, 3) := by decide +kernel
theorem dX10_hasMark_9 : decode cX10_hasMark 9 = .ok (.if_icmp .ge 34, 3) := by decide +kernel
theorem dX10_hasMark_12 : decode cX10_hasMark 12 = .ok (.iload_n 2, 1) := by decide +kernel
theorem dX10_hasMark_13 : decode cX10_hasMark 13 = .ok (.ifCond .ne 18, 3) := by decide +kernel
theorem dX10_hasMark_16 : decode cX10_hasMark 16 = .ok (.aload_n 0, 1) := by decide +kernel
theorem dX10_hasMark_17 : decode cX10_hasMark 17 = .ok (.getfield 16, 3) := by decide +kernel
theorem dX10_hasMark_20 : decode cX10_hasMark 20 = .ok (.bipush 10, 2) := by decide +kernel
theorem dX10_hasMark_22 : decode cX10_hasMark 22 = .ok (.iload_n 1, 1) := by decide +kernel
theorem dX10_hasMark_23 : decode cX10_hasMark 23 = .ok (.imul, 1) := by decide +kernel
theorem dX10_hasMark_24 : decode cX10_hasMark 24 = .ok (.iload_n 3, 1) := by decide +kernel
theorem dX10_hasMark_25 : decode cX10_hasMark 25 = .ok (.iadd, 1) := by decide +kernel
theorem dX10_hasMark_26 : decode cX10_hasMark 26 = .ok (.iaload, 1) := by decide +kernel
theorem dX10_hasMark_27 : decode cX10_hasMark 27 = .ok (.iconst (-1), 1) := by decide +kernel
theorem dX10_hasMark_28 : decode cX10_hasMark 28 = .ok (.if_icmp .eq 7, 3) := by decide +kernel
theorem dX10_hasMark_31 : decode cX10_hasMark 31 = .ok (.iconst 1, 1) := by decide +kernel
theorem dX10_hasMark_32 : decode cX10_hasMark 32 = .ok (.goto 4, 3) := by decide +kernel
theorem dX10_hasMark_35 : decode cX10_hasMark 35 = .ok (.iconst 0, 1) := by decide +kernel
theorem dX10_hasMark_36 : decode cX10_hasMark 36 = .ok (.istore_n 2, 1) := by decide +kernel
theorem dX10_hasMark_37 : decode cX10_hasMark 37 = .ok (.iinc 3 1, 3) := by decide +kernel
theorem dX10_hasMark_40 : decode cX10_hasMark 40 = .ok (.goto (-36), 3) := by decide +kernel
theorem dX10_hasMark_43 : decode cX10_hasMark 43 = .ok (.iload_n 2, 1) := by decide +kernel
theorem dX10_hasMark_44 : decode cX10_hasMark 44 = .ok (.ireturn, 1) := by decide +kernel
set_option maxRecDepth 20000 in
theorem ggX10_first_X10_hasMark : GoodIn wsX10_first wsX10_hasMark := goodIn_r _ [5, 6, 7, 68, 69, 70, 71, 72, 73, 74, 75, 76, 77, 78, 79, 80, 81, 82, 83, 84, 85, 86, 87, 88, 89, 90, 91, 92, 93, 94, 95, 96, 97, 98, 99, 100, 101, 102, 103, 104, 105, 106, 107] (by decide +kernel) (by decide +kernel)
set_option maxRecDepth 20000 in
theorem gX10_first_X10_hasMark : GoodIn wsX10_first (wsV RX10 273 RX10 yX10_hasMark wsX10_hasMark) := goodIn_app (goodIn_of _ (by decide +kernel)) ggX10_first_X10_hasMark
set_option maxRecDepth 20000 in
theorem ggX10_first_X10_areAlike : GoodIn wsX10_first wsX10_areAlike := goodIn_r _ [11, 12, 13, 14, 15, 16, 17, 18, 19, 20, 4, 21, 22, 23, 24, 25, 26, 27, 6, 28, 7, 29, 30, 31, 32, 33, 34, 35, 36, 37, 38, 39, 40, 41, 42, 43, 44, 45, 46, 47, 48, 49, 50, 51, 52, 53, 54, 55, 56, 57, 58, 59, 60, 61, 62, 63, 64, 65, 66, 67, 68, 69, 70, 71, 72, 73, 74, 75, 76, 77, 78, 79, 80, 81, 82, 83, 84, 85, 86, 87, 88, 89, 90, 91, 92, 93, 94, 95, 96, 97, 98, 99, 100, 101, 102, 103, 104, 105, 106, 107] (by decide +kernel) (by decide +kernel)
set_option maxRecDepth 20000 in
theorem gX10_first_X10_areAlike : GoodIn wsX10_first (wsV RX10 270 RX10 yX10_areAlike wsX10_areAlike) := goodIn_app (goodIn_of _ (by decide +kernel)) ggX10_first_X10_areAlike
theorem dX10_first_0 : decode cX10_first 0 = .ok (.iconst 0, 1) := by decide +kernel
theorem dX10_first_1 : decode cX10_first 1 = .ok (.istore_n 2, 1) := by decide +kernel
theorem dX10_first_2 : decode cX10_first 2 = .ok (.aload_n 0, 1) := by decide +kernel
theorem dX10_first_3 : decode cX10_first 3 = .ok (.iload_n 2, 1) := by decide +kernel
theorem dX10_first_4 : decode cX10_first 4 = .ok (.invokevirtual 273, 3) := by decide +kernel
theorem dX10_first_7 : decode cX10_first 7 = .ok (.ifCond .eq 12, 3) := by decide +kernel
theorem dX10_first_10 : decode cX10_first 10 = .ok (.aload_n 0, 1) := by decide +kernel
theorem dX10_first_11 : decode cX10_first 11 = .ok (.iload_n 2, 1) := by decide +kernel
theorem dX10_first_12 : decode cX10_first 12 = .ok (.iload_n 1, 1) := by decide +kernel
theorem dX10_first_13 : decode cX10_first 13 = .ok (.invokevirtual 270, 3) := by decide +kernel
theorem dX10_first_16 : decode cX10_first 16 = .ok (.ifCond .ne 9, 3) := by decide +kernel
theorem dX10_first_19 : decode cX10_first 19 = .ok (.iinc 2 1, 3) := by decide +kernel
theorem dX10_first_22 : decode cX10_first 22 = .ok (.goto (-20), 3) := by decide +kernel
theorem dX10_first_25 : decode cX10_first 25 = .ok (.iload_n 2, 1) := by decide +kernel
theorem dX10_first_26 : decode cX10_first 26 = .ok (.ireturn, 1) := by decide +kernel
set_option maxRecDepth 20000 in
theorem ggX10_group_X10_isPupil : GoodIn wsX10_group wsX10_isPupil := goodIn_r _ [4, 5, 6, 3, 7] (by decide +kernel) (by decide +kernel)
set_option maxRecDepth 20000 in
theorem gX10_group_X10_isPupil : GoodIn wsX10_group (va_wsS RX10 90 yX10_isPupil wsX10_isPupil) := goodIn_app (goodIn_of _ (by decide +kernel)) ggX10_group_X10_isPupil
set_option maxRecDepth 20000 in
theorem ggX10_group_X10_hasMark : GoodIn wsX10_group wsX10_hasMark := goodIn_r _ [11, 12, 13, 78, 79, 80, 81, 82, 83, 84, 85, 86, 87, 88, 89, 90, 91, 92, 93, 94, 95, 96, 97, 98, 99, 100, 101, 102, 103, 104, 105, 106, 107, 108, 109, 110, 111, 112, 113, 114, 115, 116, 117] (by decide +kernel) (by decide +kernel)
set_option maxRecDepth 20000 in
theorem gX10_group_X10_hasMark : GoodIn wsX10_group (wsV RX10 273 RX10 yX10_hasMark wsX10_hasMark) := goodIn_app (goodIn_of _ (by decide +kernel)) ggX10_group_X10_hasMark
set_option maxRecDepth 20000 in
theorem ggX10_group_X10_first : GoodIn wsX10_group wsX10_first := goodIn_r _ [17, 8, 9, 10, 3, 11, 12, 13, 18, 19, 20, 21, 22, 23, 24, 25, 26, 27, 28, 29, 30, 31, 32, 33, 34, 35, 36, 37, 38, 39, 40, 41, 42, 43, 44, 45, 46, 47, 48, 49, 50, 51, 52, 53, 54, 55, 56, 57, 58, 59, 60, 61, 62, 63, 64, 65, 66, 67, 68, 69, 70, 71, 72, 73, 74, 75, 76, 77, 78, 79, 80, 81, 82, 83, 84, 85, 86, 87, 88, 89, 90, 91, 92, 93, 94, 95, 96, 97, 98, 99, 100, 101, 102, 103, 104, 105, 106, 107, 108, 109, 110, 111, 112, 113, 114, 115, 116, 117] (by decide +kernel) (by decide +kernel)
set_option maxRecDepth 20000 in
theorem gX10_group_X10_first : GoodIn wsX10_group (wsV RX10 276 RX10 yX10_first wsX10_first) := goodIn_app (goodIn_of _ (by decide +kernel)) ggX10_group_X10_first
theorem dX10_group_0 : decode cX10_group 0 = .ok (.iload_n 1, 1) := by decide +kernel
theorem dX10_group_1 : decode cX10_group 1 = .ok (.iconst (-1), 1) := by decide +kernel
theorem dX10_group_2 : decode cX10_group 2 = .ok (.if_icmp .eq 20, 3) := by decide +kernel
theorem dX10_group_5 : decode cX10_group 5 = .ok (.iload_n 1, 1) := by decide +kernel
theorem dX10_group_6 : decode cX10_group 6 = .ok (.invokestatic 90, 3) := by decide +kernel
theorem dX10_group_9 : decode cX10_group 9 = .ok (.ifCond .eq 11, 3) := by decide +kernel
theorem dX10_group_12 : decode cX10_group 12 = .ok (.aload_n 0, 1) := by decide +kernel
theorem dX10_group_13 : decode cX10_group 13 = .ok (.iload_n 1, 1) := by decide +kernel
theorem dX10_group_14 : decode cX10_group 14 = .ok (.invokevirtual 273, 3) := by decide +kernel
theorem dX10_group_17 : decode cX10_group 17 = .ok (.ifCond .ne 5, 3) := by decide +kernel
theorem dX10_group_20 : decode cX10_group 20 = .ok (.iconst (-1), 1) := by decide +kernel
theorem dX10_group_21 : decode cX10_group 21 = .ok (.ireturn, 1) := by decide +kernel
theorem dX10_group_22 : decode cX10_group 22 = .ok (.iconst 0, 1) := by decide +kernel
theorem dX10_group_23 : decode cX10_group 23 = .ok (.istore_n 2, 1) := by decide +kernel
theorem dX10_group_24 : decode cX10_group 24 = .ok (.iload_n 1, 1) := by decide +kernel
theorem dX10_group_25 : decode cX10_group 25 = .ok (.iconst (-1), 1) := by decide +kernel
theorem dX10_group_26 : decode cX10_group 26 = .ok (.if_icmp .ne 8, 3) := by decide +kernel
theorem dX10_group_29 : decode cX10_group 29 = .ok (.bipush 8, 2) := by decide +kernel
theorem dX10_group_31 : decode cX10_group 31 = .ok (.goto 8, 3) := by decide +kernel
theorem dX10_group_34 : decode cX10_group 34 = .ok (.aload_n 0, 1) := by decide +kernel
theorem dX10_group_35 : decode cX10_group 35 = .ok (.iload_n 1, 1) := by decide +kernel
theorem dX10_group_36 : decode cX10_group 36 = .ok (.invokevirtual 276, 3) := by decide +kernel
theorem dX10_group_39 : decode cX10_group 39 = .ok (.istore_n 3, 1) := by decide +kernel
theorem dX10_group_40 : decode cX10_group 40 = .ok (.iconst 0, 1) := by decide +kernel
theorem dX10_group_41 : decode cX10_group 41 = .ok (.istore 4, 2) := by decide +kernel
theorem dX10_group_43 : decode cX10_group 43 = .ok (.iload 4, 2) := by decide +kernel
theorem dX10_group_45 : decode cX10_group 45 = .ok (.iload_n 3, 1) := by decide +kernel
theorem dX10_group_46 : decode cX10_group 46 = .ok (.if_icmp .ge 37, 3) := by decide +kernel
theorem dX10_group_49 : decode cX10_group 49 = .ok (.iload_n 2, 1) := by decide +kernel
theorem dX10_group_50 : decode cX10_group 50 = .ok (.aload_n 0, 1) := by decide +kernel
theorem dX10_group_51 : decode cX10_group 51 = .ok (.iload 4, 2) := by decide +kernel
theorem dX10_group_53 : decode cX10_group 53 = .ok (.invokevirtual 273, 3) := by decide +kernel
theorem dX10_group_56 : decode cX10_group 56 = .ok (.ifCond .eq 18, 3) := by decide +kernel
theorem dX10_group_59 : decode cX10_group 59 = .ok (.aload_n 0, 1) := by decide +kernel
theorem dX10_group_60 : decode cX10_group 60 = .ok (.iload 4, 2) := by decide +kernel
theorem dX10_group_62 : decode cX10_group 62 = .ok (.invokevirtual 276, 3) := by decide +kernel
theorem dX10_group_65 : decode cX10_group 65 = .ok (.iload 4, 2) := by decide +kernel
theorem dX10_group_67 : decode cX10_group 67 = .ok (.if_icmp .ne 7, 3) := by decide +kernel
theorem dX10_group_70 : decode cX10_group 70 = .ok (.iconst 1, 1) := by decide +kernel
theorem dX10_group_71 : decode cX10_group 71 = .ok (.goto 4, 3) := by decide +kernel
theorem dX10_group_74 : decode cX10_group 74 = .ok (.iconst 0, 1) := by decide +kernel
theorem dX10_group_75 : decode cX10_group 75 = .ok (.iadd, 1) := by decide +kernel
theorem dX10_group_76 : decode cX10_group 76 = .ok (.istore_n 2, 1) := by decide +kernel
theorem dX10_group_77 : decode cX10_group 77 = .ok (.iinc 4 1, 3) := by decide +kernel
theorem dX10_group_80 : decode cX10_group 80 = .ok (.goto (-37), 3) := by decide +kernel
theorem dX10_group_83 : decode cX10_group 83 = .ok (.iload_n 2, 1) := by decide +kernel
theorem dX10_group_84 : decode cX10_group 84 = .ok (.ireturn, 1) := by decide +kernel
theorem dJ6_bitCount_0f7a4_0 : decode cJ6_bitCount_0f7a4 0 = .ok (.iload_n 0, 1) := by decide +kernel
theorem dJ6_bitCount_0f7a4_1 : decode cJ6_bitCount_0f7a4 1 = .ok (.iload_n 0, 1) := by decide +kernel
theorem dJ6_bitCount_0f7a4_2 : decode cJ6_bitCount_0f7a4 2 = .ok (.iconst 1, 1) := by decide +kernel
theorem dJ6_bitCount_0f7a4_3 : decode cJ6_bitCount_0f7a4 3 = .ok (.iushr, 1) := by decide +kernel
theorem dJ6_bitCount_0f7a4_4 : decode cJ6_bitCount_0f7a4 4 = .ok (.ldc_w 265, 3) := by decide +kernel
theorem dJ6_bitCount_0f7a4_7 : decode cJ6_bitCount_0f7a4 7 = .ok (.iand, 1) := by decide +kernel
theorem dJ6_bitCount_0f7a4_8 : decode cJ6_bitCount_0f7a4 8 = .ok (.isub, 1) := by decide +kernel
theorem dJ6_bitCount_0f7a4_9 : decode cJ6_bitCount_0f7a4 9 = .ok (.istore_n 0, 1) := by decide +kernel
theorem dJ6_bitCount_0f7a4_10 : decode cJ6_bitCount_0f7a4 10 = .ok (.iload_n 0, 1) := by decide +kernel
theorem dJ6_bitCount_0f7a4_11 : decode cJ6_bitCount_0f7a4 11 = .ok (.ldc_w 266, 3) := by decide +kernel
theorem dJ6_bitCount_0f7a4_14 : decode cJ6_bitCount_0f7a4 14 = .ok (.iand, 1) := by decide +kernel
theorem dJ6_bitCount_0f7a4_15 : decode cJ6_bitCount_0f7a4 15 = .ok (.iload_n 0, 1) := by decide +kernel
theorem dJ6_bitCount_0f7a4_16 : decode cJ6_bitCount_0f7a4 16 = .ok (.iconst 2, 1) := by decide +kernel
theorem dJ6_bitCount_0f7a4_17 : decode cJ6_bitCount_0f7a4 17 = .ok (.iushr, 1) := by decide +kernel
theorem dJ6_bitCount_0f7a4_18 : decode cJ6_bitCount_0f7a4 18 = .ok (.ldc_w 266, 3) := by decide +kernel
theorem dJ6_bitCount_0f7a4_21 : decode cJ6_bitCount_0f7a4 21 = .ok (.iand, 1) := by decide +kernel
theorem dJ6_bitCount_0f7a4_22 : decode cJ6_bitCount_0f7a4 22 = .ok (.iadd, 1) := by decide +kernel
theorem dJ6_bitCount_0f7a4_23 : decode cJ6_bitCount_0f7a4 23 = .ok (.istore_n 0, 1) := by decide +kernel
theorem dJ6_bitCount_0f7a4_24 : decode cJ6_bitCount_0f7a4 24 = .ok (.iload_n 0, 1) := by decide +kernel
theorem dJ6_bitCount_0f7a4_25 : decode cJ6_bitCount_0f7a4 25 = .ok (.iload_n 0, 1) := by decide +kernel
theorem dJ6_bitCount_0f7a4_26 : decode cJ6_bitCount_0f7a4 26 = .ok (.iconst 4, 1) := by decide +kernel
theorem dJ6_bitCount_0f7a4_27 : decode cJ6_bitCount_0f7a4 27 = .ok (.iushr, 1) := by decide +kernel
theorem dJ6_bitCount_0f7a4_28 : decode cJ6_bitCount_0f7a4 28 = .ok (.iadd, 1) := by decide +kernel
theorem dJ6_bitCount_0f7a4_29 : decode cJ6_bitCount_0f7a4 29 = .ok (.ldc_w 267, 3) := by decide +kernel
theorem dJ6_bitCount_0f7a4_32 : decode cJ6_bitCount_0f7a4 32 = .ok (.iand, 1) := by decide +kernel
theorem dJ6_bitCount_0f7a4_33 : decode cJ6_bitCount_0f7a4 33 = .ok (.istore_n 0, 1) := by decide +kernel
theorem dJ6_bitCount_0f7a4_34 : decode cJ6_bitCount_0f7a4 34 = .ok (.iload_n 0, 1) := by decide +kernel
theorem dJ6_bitCount_0f7a4_35 : decode cJ6_bitCount_0f7a4 35 = .ok (.iload_n 0, 1) := by decide +kernel
theorem dJ6_bitCount_0f7a4_36 : decode cJ6_bitCount_0f7a4 36 = .ok (.bipush 8, 2) := by decide +kernel
theorem dJ6_bitCount_0f7a4_38 : decode cJ6_bitCount_0f7a4 38 = .ok (.iushr, 1) := by decide +kernel
theorem dJ6_bitCount_0f7a4_39 : decode cJ6_bitCount_0f7a4 39 = .ok (.iadd, 1) := by decide +kernel
theorem dJ6_bitCount_0f7a4_40 : decode cJ6_bitCount_0f7a4 40 = .ok (.istore_n 0, 1) := by decide +kernel
theorem dJ6_bitCount_0f7a4_41 : decode cJ6_bitCount_0f7a4 41 = .ok (.iload_n 0, 1) := by decide +kernel
theorem dJ6_bitCount_0f7a4_42 : decode cJ6_bitCount_0f7a4 42 = .ok (.iload_n 0, 1) := by decide +kernel
theorem dJ6_bitCount_0f7a4_43 : decode cJ6_bitCount_0f7a4 43 = .ok (.bipush 16, 2) := by decide +kernel
theorem dJ6_bitCount_0f7a4_45 : decode cJ6_bitCount_0f7a4 45 = .ok (.iushr, 1) := by decide +kernel
theorem dJ6_bitCount_0f7a4_46 : decode cJ6_bitCount_0f7a4 46 = .ok (.iadd, 1) := by decide +kernel
theorem dJ6_bitCount_0f7a4_47 : decode cJ6_bitCount_0f7a4 47 = .ok (.istore_n 0, 1) := by decide +kernel
theorem dJ6_bitCount_0f7a4_48 : decode cJ6_bitCount_0f7a4 48 = .ok (.iload_n 0, 1) := by decide +kernel
theorem dJ6_bitCount_0f7a4_49 : decode cJ6_bitCount_0f7a4 49 = .ok (.bipush 63, 2) := by decide +kernel
theorem dJ6_bitCount_0f7a4_51 : decode cJ6_bitCount_0f7a4 51 = .ok (.iand, 1) := by decide +kernel
theorem dJ6_bitCount_0f7a4_52 : decode cJ6_bitCount_0f7a4 52 = .ok (.ireturn, 1) := by decide +kernel
set_option maxRecDepth 20000 in
theorem ggJ0_length_8abf5_J0_coder_7d493 : GoodIn wsJ0_length_8abf5 wsJ0_coder_7d493 := goodIn_r _ [6, 7, 8] (by decide +kernel) (by decide +kernel)
set_option maxRecDepth 20000 in
theorem gJ0_length_8abf5_J0_coder_7d493 : GoodIn wsJ0_length_8abf5 (wsV RJ0 335 RJ0 yJ0_coder_7d493 wsJ0_coder_7d493) := goodIn_app (goodIn_of _ (by decide +kernel)) ggJ0_length_8abf5_J0_coder_7d493
theorem dJ0_length_8abf5_0 : decode cJ0_length_8abf5 0 = .ok (.aload_n 0, 1) := by decide +kernel
theorem dJ0_length_8abf5_1 : decode cJ0_length_8abf5 1 = .ok (.getfield 9, 3) := by decide +kernel
theorem dJ0_length_8abf5_4 : decode cJ0_length_8abf5 4 = .ok (.arraylength, 1) := by decide +kernel
theorem dJ0_length_8abf5_5 : decode cJ0_length_8abf5 5 = .ok (.aload_n 0, 1) := by decide +kernel
theorem dJ0_length_8abf5_6 : decode cJ0_length_8abf5 6 = .ok (.invokevirtual 335, 3) := by decide +kernel
theorem dJ0_length_8abf5_9 : decode cJ0_length_8abf5 9 = .ok (.ishr, 1) := by decide +kernel
theorem dJ0_length_8abf5_10 : decode cJ0_length_8abf5 10 = .ok (.ireturn, 1) := by decide +kernel
set_option maxRecDepth 20000 in
theorem ggJ0_charAt_5068e_J0_isLatin1_aae02 : GoodIn wsJ0_charAt_5068e wsJ0_isLatin1_aae02 := goodIn_r _ [6, 7, 8] (by decide +kernel) (by decide +kernel)
set_option maxRecDepth 20000 in
theorem gJ0_charAt_5068e_J0_isLatin1_aae02 : GoodIn wsJ0_charAt_5068e (wsV RJ0 492 RJ0 yJ0_isLatin1_aae02 wsJ0_isLatin1_aae02) := goodIn_app (goodIn_of _ (by decide +kernel)) ggJ0_charAt_5068e_J0_isLatin1_aae02
set_option maxRecDepth 20000 in
theorem ggJ0_charAt_5068e_J1_charAt_3b067 : GoodIn wsJ0_charAt_5068e wsJ1_charAt_3b067 := goodIn_r _ [12, 13, 14, 5, 15, 16, 17, 18, 19, 20] (by decide +kernel) (by decide +kernel)
set_option maxRecDepth 20000 in
theorem gJ0_charAt_5068e_J1_charAt_3b067 : GoodIn wsJ0_charAt_5068e (va_wsS RJ0 495 yJ1_charAt_3b067 wsJ1_charAt_3b067) := goodIn_app (goodIn_of _ (by decide +kernel)) ggJ0_charAt_5068e_J1_charAt_3b067
set_option maxRecDepth 20000 in
theorem ggJ0_charAt_5068e_J2_charAt_3b067 : GoodIn wsJ0_charAt_5068e wsJ2_charAt_3b067 := goodIn_r _ [24, 25, 26, 23, 27, 28, 29, 30, 31, 14, 5, 15, 16, 17, 18, 19, 20, 32, 33, 34, 35, 36, 37] (by decide +kernel) (by decide +kernel)
set_option maxRecDepth 20000 in
theorem gJ0_charAt_5068e_J2_charAt_3b067 : GoodIn wsJ0_charAt_5068e (va_wsS RJ0 498 yJ2_charAt_3b067 wsJ2_charAt_3b067) := goodIn_app (goodIn_of _ (by decide +kernel)) ggJ0_charAt_5068e_J2_charAt_3b067
theorem dJ0_charAt_5068e_0 : decode cJ0_charAt_5068e 0 = .ok (.aload_n 0, 1) := by decide +kernel
theorem dJ0_charAt_5068e_1 : decode cJ0_charAt_5068e 1 = .ok (.invokevirtual 492, 3) := by decide +kernel
theorem dJ0_charAt_5068e_4 : decode cJ0_charAt_5068e 4 = .ok (.ifCond .eq 12, 3) := by decide +kernel
theorem dJ0_charAt_5068e_7 : decode cJ0_charAt_5068e 7 = .ok (.aload_n 0, 1) := by decide +kernel
theorem dJ0_charAt_5068e_8 : decode cJ0_charAt_5068e 8 = .ok (.getfield 9, 3) := by decide +kernel
theorem dJ0_charAt_5068e_11 : decode cJ0_charAt_5068e 11 = .ok (.iload_n 1, 1) := by decide +kernel
theorem dJ0_charAt_5068e_12 : decode cJ0_charAt_5068e 12 = .ok (.invokestatic 495, 3) := by decide +kernel
theorem dJ0_charAt_5068e_15 : decode cJ0_charAt_5068e 15 = .ok (.ireturn, 1) := by decide +kernel
theorem dJ0_charAt_5068e_16 : decode cJ0_charAt_5068e 16 = .ok (.aload_n 0, 1) := by decide +kernel
theorem dJ0_charAt_5068e_17 : decode cJ0_charAt_5068e 17 = .ok (.getfield 9, 3) := by decide +kernel
theorem dJ0_charAt_5068e_20 : decode cJ0_charAt_5068e 20 = .ok (.iload_n 1, 1) := by decide +kernel
theorem dJ0_charAt_5068e_21 : decode cJ0_charAt_5068e 21 = .ok (.invokestatic 498, 3) := by decide +kernel
theorem dJ0_charAt_5068e_24 : decode cJ0_charAt_5068e 24 = .ok (.ireturn, 1) := by decide +kernel
theorem dJ0_coder_7d493_0 : decode cJ0_coder_7d493 0 = .ok (.getstatic 38, 3) := by decide +kernel
theorem dJ0_coder_7d493_3 : decode cJ0_coder_7d493 3 = .ok (.ifCond .eq 10, 3) := by decide +kernel
theorem dJ0_coder_7d493_6 : decode cJ0_coder_7d493 6 = .ok (.aload_n 0, 1) := by decide +kernel
theorem dJ0_coder_7d493_7 : decode cJ0_coder_7d493 7 = .ok (.getfield 15, 3) := by decide +kernel
theorem dJ0_coder_7d493_10 : decode cJ0_coder_7d493 10 = .ok (.goto 4, 3) := by decide +kernel
theorem dJ0_coder_7d493_13 : decode cJ0_coder_7d493 13 = .ok (.iconst 1, 1) := by decide +kernel
theorem dJ0_coder_7d493_14 : decode cJ0_coder_7d493 14 = .ok (.ireturn, 1) := by decide +kernel
theorem dJ0_isLatin1_aae02_0 : decode cJ0_isLatin1_aae02 0 = .ok (.getstatic 38, 3) := by decide +kernel
theorem dJ0_isLatin1_aae02_3 : decode cJ0_isLatin1_aae02 3 = .ok (.ifCond .eq 14, 3) := by decide +kernel
theorem dJ0_isLatin1_aae02_6 : decode cJ0_isLatin1_aae02 6 = .ok (.aload_n 0, 1) := by decide +kernel
theorem dJ0_isLatin1_aae02_7 : decode cJ0_isLatin1_aae02 7 = .ok (.getfield 15, 3) := by decide +kernel
theorem dJ0_isLatin1_aae02_10 : decode cJ0_isLatin1_aae02 10 = .ok (.ifCond .ne 7, 3) := by decide +kernel
theorem dJ0_isLatin1_aae02_13 : decode cJ0_isLatin1_aae02 13 = .ok (.iconst 1, 1) := by decide +kernel
theorem dJ0_isLatin1_aae02_14 : decode cJ0_isLatin1_aae02 14 = .ok (.goto 4, 3) := by decide +kernel
theorem dJ0_isLatin1_aae02_17 : decode cJ0_isLatin1_aae02 17 = .ok (.iconst 0, 1) := by decide +kernel
theorem dJ0_isLatin1_aae02_18 : decode cJ0_isLatin1_aae02 18 = .ok (.ireturn, 1) := by decide +kernel
set_option maxRecDepth 20000 in
theorem ggJ0_checkIndex_df160_J3_checkIndex_8e157 : GoodIn wsJ0_checkIndex_df160 wsJ3_checkIndex_8e157 := goodIn_r _ [5] (by decide +kernel) (by decide +kernel)
set_option maxRecDepth 20000 in
theorem gJ0_checkIndex_df160_J3_checkIndex_8e157 : GoodIn wsJ0_checkIndex_df160 (va_wsS RJ0 1059 yJ3_checkIndex_8e157 wsJ3_checkIndex_8e157) := goodIn_app (goodIn_of _ (by decide +kernel)) ggJ0_checkIndex_df160_J3_checkIndex_8e157
theorem dJ0_checkIndex_df160_0 : decode cJ0_checkIndex_df160 0 = .ok (.iload_n 0, 1) := by decide +kernel
theorem dJ0_checkIndex_df160_1 : decode cJ0_checkIndex_df160 1 = .ok (.iload_n 1, 1) := by decide +kernel
theorem dJ0_checkIndex_df160_2 : decode cJ0_checkIndex_df160 2 = .ok (.getstatic 1053, 3) := by decide +kernel
theorem dJ0_checkIndex_df160_5 : decode cJ0_checkIndex_df160 5 = .ok (.invokestatic 1059, 3) := by decide +kernel
theorem dJ0_checkIndex_df160_8 : decode cJ0_checkIndex_df160 8 = .ok (.pop, 1) := by decide +kernel
theorem dJ0_checkIndex_df160_9 : decode cJ0_checkIndex_df160 9 = .ok (.return_, 1) := by decide +kernel
set_option maxRecDepth 20000 in
theorem ggJ1_charAt_3b067_J0_checkIndex_df160 : GoodIn wsJ1_charAt_3b067 wsJ0_checkIndex_df160 := goodIn_r _ [4, 5, 6, 7, 8, 9] (by decide +kernel) (by decide +kernel)
set_option maxRecDepth 20000 in
theorem gJ1_charAt_3b067_J0_checkIndex_df160 : GoodIn wsJ1_charAt_3b067 (va_wsS RJ1 9 yJ0_checkIndex_df160 wsJ0_checkIndex_df160) := goodIn_app (goodIn_of _ (by decide +kernel)) ggJ1_charAt_3b067_J0_checkIndex_df160
theorem dJ1_charAt_3b067_0 : decode cJ1_charAt_3b067 0 = .ok (.iload_n 1, 1) := by decide +kernel
theorem dJ1_charAt_3b067_1 : decode cJ1_charAt_3b067 1 = .ok (.aload_n 0, 1) := by decide +kernel
theorem dJ1_charAt_3b067_2 : decode cJ1_charAt_3b067 2 = .ok (.arraylength, 1) := by decide +kernel
theorem dJ1_charAt_3b067_3 : decode cJ1_charAt_3b067 3 = .ok (.invokestatic 9, 3) := by decide +kernel
theorem dJ1_charAt_3b067_6 : decode cJ1_charAt_3b067 6 = .ok (.aload_n 0, 1) := by decide +kernel
theorem dJ1_charAt_3b067_7 : decode cJ1_charAt_3b067 7 = .ok (.iload_n 1, 1) := by decide +kernel
theorem dJ1_charAt_3b067_8 : decode cJ1_charAt_3b067 8 = .ok (.baload, 1) := by decide +kernel
theorem dJ1_charAt_3b067_9 : decode cJ1_charAt_3b067 9 = .ok (.sipush 255, 3) := by decide +kernel
theorem dJ1_charAt_3b067_12 : decode cJ1_charAt_3b067 12 = .ok (.iand, 1) := by decide +kernel
theorem dJ1_charAt_3b067_13 : decode cJ1_charAt_3b067 13 = .ok (.i2c, 1) := by decide +kernel
theorem dJ1_charAt_3b067_14 : decode cJ1_charAt_3b067 14 = .ok (.ireturn, 1) := by decide +kernel
set_option maxRecDepth 20000 in
theorem ggJ2_getChar_3b067_J2_length_9d52b : GoodIn wsJ2_getChar_3b067 wsJ2_length_9d52b := goodIn_r _ [7] (by decide +kernel) (by decide +kernel)
set_option maxRecDepth 20000 in
theorem gJ2_getChar_3b067_J2_length_9d52b : GoodIn wsJ2_getChar_3b067 (va_wsS RJ2 48 yJ2_length_9d52b wsJ2_length_9d52b) := goodIn_app (goodIn_of _ (by decide +kernel)) ggJ2_getChar_3b067_J2_length_9d52b
theorem dJ2_getChar_3b067_0 : decode cJ2_getChar_3b067 0 = .ok (.getstatic 44, 3) := by decide +kernel
theorem dJ2_getChar_3b067_3 : decode cJ2_getChar_3b067 3 = .ok (.ifCond .ne 25, 3) := by decide +kernel
theorem dJ2_getChar_3b067_6 : decode cJ2_getChar_3b067 6 = .ok (.iload_n 1, 1) := by decide +kernel
theorem dJ2_getChar_3b067_7 : decode cJ2_getChar_3b067 7 = .ok (.ifCond .lt 11, 3) := by decide +kernel
theorem dJ2_getChar_3b067_10 : decode cJ2_getChar_3b067 10 = .ok (.iload_n 1, 1) := by decide +kernel
theorem dJ2_getChar_3b067_11 : decode cJ2_getChar_3b067 11 = .ok (.aload_n 0, 1) := by decide +kernel
theorem dJ2_getChar_3b067_12 : decode cJ2_getChar_3b067 12 = .ok (.invokestatic 48, 3) := by decide +kernel
theorem dJ2_getChar_3b067_15 : decode cJ2_getChar_3b067 15 = .ok (.if_icmp .lt 13, 3) := by decide +kernel
theorem dJ2_getChar_3b067_18 : decode cJ2_getChar_3b067 18 = .ok (.new 52, 3) := by decide +kernel
theorem dJ2_getChar_3b067_21 : decode cJ2_getChar_3b067 21 = .ok (.dup, 1) := by decide +kernel
theorem dJ2_getChar_3b067_22 : decode cJ2_getChar_3b067 22 = .ok (.ldc 54, 2) := by decide +kernel
theorem dJ2_getChar_3b067_24 : decode cJ2_getChar_3b067 24 = .ok (.invokespecial 56, 3) := by decide +kernel
theorem dJ2_getChar_3b067_27 : decode cJ2_getChar_3b067 27 = .ok (.athrow, 1) := by decide +kernel
theorem dJ2_getChar_3b067_28 : decode cJ2_getChar_3b067 28 = .ok (.iload_n 1, 1) := by decide +kernel
theorem dJ2_getChar_3b067_29 : decode cJ2_getChar_3b067 29 = .ok (.iconst 1, 1) := by decide +kernel
theorem dJ2_getChar_3b067_30 : decode cJ2_getChar_3b067 30 = .ok (.ishl, 1) := by decide +kernel
theorem dJ2_getChar_3b067_31 : decode cJ2_getChar_3b067 31 = .ok (.istore_n 1, 1) := by decide +kernel
theorem dJ2_getChar_3b067_32 : decode cJ2_getChar_3b067 32 = .ok (.aload_n 0, 1) := by decide +kernel
theorem dJ2_getChar_3b067_33 : decode cJ2_getChar_3b067 33 = .ok (.iload_n 1, 1) := by decide +kernel
theorem dJ2_getChar_3b067_34 : decode cJ2_getChar_3b067 34 = .ok (.iinc 1 1, 3) := by decide +kernel
theorem dJ2_getChar_3b067_37 : decode cJ2_getChar_3b067 37 = .ok (.baload, 1) := by decide +kernel
theorem dJ2_getChar_3b067_38 : decode cJ2_getChar_3b067 38 = .ok (.sipush 255, 3) := by decide +kernel
theorem dJ2_getChar_3b067_41 : decode cJ2_getChar_3b067 41 = .ok (.iand, 1) := by decide +kernel
theorem dJ2_getChar_3b067_42 : decode cJ2_getChar_3b067 42 = .ok (.getstatic 59, 3) := by decide +kernel
theorem dJ2_getChar_3b067_45 : decode cJ2_getChar_3b067 45 = .ok (.ishl, 1) := by decide +kernel
theorem dJ2_getChar_3b067_46 : decode cJ2_getChar_3b067 46 = .ok (.aload_n 0, 1) := by decide +kernel
theorem dJ2_getChar_3b067_47 : decode cJ2_getChar_3b067 47 = .ok (.iload_n 1, 1) := by decide +kernel
theorem dJ2_getChar_3b067_48 : decode cJ2_getChar_3b067 48 = .ok (.baload, 1) := by decide +kernel
theorem dJ2_getChar_3b067_49 : decode cJ2_getChar_3b067 49 = .ok (.sipush 255, 3) := by decide +kernel
theorem dJ2_getChar_3b067_52 : decode cJ2_getChar_3b067 52 = .ok (.iand, 1) := by decide +kernel
theorem dJ2_getChar_3b067_53 : decode cJ2_getChar_3b067 53 = .ok (.getstatic 63, 3) := by decide +kernel
theorem dJ2_getChar_3b067_56 : decode cJ2_getChar_3b067 56 = .ok (.ishl, 1) := by decide +kernel
theorem dJ2_getChar_3b067_57 : decode cJ2_getChar_3b067 57 = .ok (.ior, 1) := by decide +kernel
theorem dJ2_getChar_3b067_58 : decode cJ2_getChar_3b067 58 = .ok (.i2c, 1) := by decide +kernel
theorem dJ2_getChar_3b067_59 : decode cJ2_getChar_3b067 59 = .ok (.ireturn, 1) := by decide +kernel
theorem dJ2_length_9d52b_0 : decode cJ2_length_9d52b 0 = .ok (.aload_n 0, 1) := by decide +kernel
theorem dJ2_length_9d52b_1 : decode cJ2_length_9d52b 1 = .ok (.arraylength, 1) := by decide +kernel
theorem dJ2_length_9d52b_2 : decode cJ2_length_9d52b 2 = .ok (.iconst 1, 1) := by decide +kernel
theorem dJ2_length_9d52b_3 : decode cJ2_length_9d52b 3 = .ok (.ishr, 1) := by decide +kernel
theorem dJ2_length_9d52b_4 : decode cJ2_length_9d52b 4 = .ok (.ireturn, 1) := by decide +kernel
set_option maxRecDepth 20000 in
theorem ggJ2_charAt_3b067_J2_checkIndex_2214a : GoodIn wsJ2_charAt_3b067 wsJ2_checkIndex_2214a := goodIn_r _ [4, 5, 6, 3, 7, 8, 9, 10, 11, 12, 13, 14, 15, 16] (by decide +kernel) (by decide +kernel)
set_option maxRecDepth 20000 in
theorem gJ2_charAt_3b067_J2_checkIndex_2214a : GoodIn wsJ2_charAt_3b067 (va_wsS RJ2 67 yJ2_checkIndex_2214a wsJ2_checkIndex_2214a) := goodIn_app (goodIn_of _ (by decide +kernel)) ggJ2_charAt_3b067_J2_checkIndex_2214a
set_option maxRecDepth 20000 in
theorem ggJ2_charAt_3b067_J2_getChar_3b067 : GoodIn wsJ2_charAt_3b067 wsJ2_getChar_3b067 := goodIn_r _ [19, 20, 21, 22, 5, 6, 3, 7] (by decide +kernel) (by decide +kernel)
set_option maxRecDepth 20000 in
theorem gJ2_charAt_3b067_J2_getChar_3b067 : GoodIn wsJ2_charAt_3b067 (va_wsS RJ2 71 yJ2_getChar_3b067 wsJ2_getChar_3b067) := goodIn_app (goodIn_of _ (by decide +kernel)) ggJ2_charAt_3b067_J2_getChar_3b067
theorem dJ2_charAt_3b067_0 : decode cJ2_charAt_3b067 0 = .ok (.iload_n 1, 1) := by decide +kernel
theorem dJ2_charAt_3b067_1 : decode cJ2_charAt_3b067 1 = .ok (.aload_n 0, 1) := by decide +kernel
theorem dJ2_charAt_3b067_2 : decode cJ2_charAt_3b067 2 = .ok (.invokestatic 67, 3) := by decide +kernel
theorem dJ2_charAt_3b067_5 : decode cJ2_charAt_3b067 5 = .ok (.aload_n 0, 1) := by decide +kernel
theorem dJ2_charAt_3b067_6 : decode cJ2_charAt_3b067 6 = .ok (.iload_n 1, 1) := by decide +kernel
theorem dJ2_charAt_3b067_7 : decode cJ2_charAt_3b067 7 = .ok (.invokestatic 71, 3) := by decide +kernel
theorem dJ2_charAt_3b067_10 : decode cJ2_charAt_3b067 10 = .ok (.ireturn, 1) := by decide +kernel
set_option maxRecDepth 20000 in
theorem ggJ2_checkIndex_2214a_J2_length_9d52b : GoodIn wsJ2_checkIndex_2214a wsJ2_length_9d52b := goodIn_r _ [4] (by decide +kernel) (by decide +kernel)
set_option maxRecDepth 20000 in
theorem gJ2_checkIndex_2214a_J2_length_9d52b : GoodIn wsJ2_checkIndex_2214a (va_wsS RJ2 48 yJ2_length_9d52b wsJ2_length_9d52b) := goodIn_app (goodIn_of _ (by decide +kernel)) ggJ2_checkIndex_2214a_J2_length_9d52b
set_option maxRecDepth 20000 in
theorem ggJ2_checkIndex_2214a_J0_checkIndex_df160 : GoodIn wsJ2_checkIndex_2214a wsJ0_checkIndex_df160 := goodIn_r _ [8, 9, 10, 11, 12, 13] (by decide +kernel) (by decide +kernel)
set_option maxRecDepth 20000 in
theorem gJ2_checkIndex_2214a_J0_checkIndex_df160 : GoodIn wsJ2_checkIndex_2214a (va_wsS RJ2 414 yJ0_checkIndex_df160 wsJ0_checkIndex_df160) := goodIn_app (goodIn_of _ (by decide +kernel)) ggJ2_checkIndex_2214a_J0_checkIndex_df160
theorem dJ2_checkIndex_2214a_0 : decode cJ2_checkIndex_2214a 0 = .ok (.iload_n 0, 1) := by decide +kernel
theorem dJ2_checkIndex_2214a_1 : decode cJ2_checkIndex_2214a 1 = .ok (.aload_n 1, 1) := by decide +kernel
theorem dJ2_checkIndex_2214a_2 : decode cJ2_checkIndex_2214a 2 = .ok (.invokestatic 48, 3) := by decide +kernel
theorem dJ2_checkIndex_2214a_5 : decode cJ2_checkIndex_2214a 5 = .ok (.invokestatic 414, 3) := by decide +kernel
theorem dJ2_checkIndex_2214a_8 : decode cJ2_checkIndex_2214a 8 = .ok (.return_, 1) := by decide +kernel
theorem dJ7_fill_53178_0 : decode cJ7_fill_53178 0 = .ok (.iconst 0, 1) := by decide +kernel
theorem dJ7_fill_53178_1 : decode cJ7_fill_53178 1 = .ok (.istore_n 2, 1) := by decide +kernel
theorem dJ7_fill_53178_2 : decode cJ7_fill_53178 2 = .ok (.aload_n 0, 1) := by decide +kernel
theorem dJ7_fill_53178_3 : decode cJ7_fill_53178 3 = .ok (.arraylength, 1) := by decide +kernel
theorem dJ7_fill_53178_4 : decode cJ7_fill_53178 4 = .ok (.istore_n 3, 1) := by decide +kernel
theorem dJ7_fill_53178_5 : decode cJ7_fill_53178 5 = .ok (.iload_n 2, 1) := by decide +kernel
theorem dJ7_fill_53178_6 : decode cJ7_fill_53178 6 = .ok (.iload_n 3, 1) := by decide +kernel
theorem dJ7_fill_53178_7 : decode cJ7_fill_53178 7 = .ok (.if_icmp .ge 13, 3) := by decide +kernel
theorem dJ7_fill_53178_10 : decode cJ7_fill_53178 10 = .ok (.aload_n 0, 1) := by decide +kernel
theorem dJ7_fill_53178_11 : decode cJ7_fill_53178 11 = .ok (.iload_n 2, 1) := by decide +kernel
theorem dJ7_fill_53178_12 : decode cJ7_fill_53178 12 = .ok (.iload_n 1, 1) := by decide +kernel
theorem dJ7_fill_53178_13 : decode cJ7_fill_53178 13 = .ok (.iastore, 1) := by decide +kernel
theorem dJ7_fill_53178_14 : decode cJ7_fill_53178 14 = .ok (.iinc 2 1, 3) := by decide +kernel
theorem dJ7_fill_53178_17 : decode cJ7_fill_53178 17 = .ok (.goto (-12), 3) := by decide +kernel
theorem dJ7_fill_53178_20 : decode cJ7_fill_53178 20 = .ok (.return_, 1) := by decide +kernel
theorem dJ3_checkIndex_8e157_0 : decode cJ3_checkIndex_8e157 0 = .ok (.iload_n 0, 1) := by decide +kernel
theorem dJ3_checkIndex_8e157_1 : decode cJ3_checkIndex_8e157 1 = .ok (.ifCond .lt 8, 3) := by decide +kernel
theorem dJ3_checkIndex_8e157_4 : decode cJ3_checkIndex_8e157 4 = .ok (.iload_n 0, 1) := by decide +kernel
theorem dJ3_checkIndex_8e157_5 : decode cJ3_checkIndex_8e157 5 = .ok (.iload_n 1, 1) := by decide +kernel
theorem dJ3_checkIndex_8e157_6 : decode cJ3_checkIndex_8e157 6 = .ok (.if_icmp .lt 10, 3) := by decide +kernel
theorem dJ3_checkIndex_8e157_9 : decode cJ3_checkIndex_8e157 9 = .ok (.aload_n 2, 1) := by decide +kernel
theorem dJ3_checkIndex_8e157_10 : decode cJ3_checkIndex_8e157 10 = .ok (.iload_n 0, 1) := by decide +kernel
theorem dJ3_checkIndex_8e157_11 : decode cJ3_checkIndex_8e157 11 = .ok (.iload_n 1, 1) := by decide +kernel
theorem dJ3_checkIndex_8e157_12 : decode cJ3_checkIndex_8e157 12 = .ok (.invokestatic 95, 3) := by decide +kernel
theorem dJ3_checkIndex_8e157_15 : decode cJ3_checkIndex_8e157 15 = .ok (.athrow, 1) := by decide +kernel
theorem dJ3_checkIndex_8e157_16 : decode cJ3_checkIndex_8e157 16 = .ok (.iload_n 0, 1) := by decide +kernel
theorem dJ3_checkIndex_8e157_17 : decode cJ3_checkIndex_8e157 17 = .ok (.ireturn, 1) := by decide +kernel
theorem dL_law_0 : decode cL_law 0 = .ok (.new 7, 3) := by decide +kernel
theorem dL_law_3 : decode cL_law 3 = .ok (.dup, 1) := by decide +kernel
theorem dL_law_4 : decode cL_law 4 = .ok (.invokespecial 9, 3) := by decide +kernel
theorem dL_law_7 : decode cL_law 7 = .ok (.astore_n 1, 1) := by decide +kernel
theorem dL_law_8 : decode cL_law 8 = .ok (.new 10, 3) := by decide +kernel
theorem dL_law_11 : decode cL_law 11 = .ok (.dup, 1) := by decide +kernel
theorem dL_law_12 : decode cL_law 12 = .ok (.invokespecial 12, 3) := by decide +kernel
theorem dL_law_15 : decode cL_law 15 = .ok (.astore_n 2, 1) := by decide +kernel
theorem dL_law_16 : decode cL_law 16 = .ok (.iconst 0, 1) := by decide +kernel
theorem dL_law_17 : decode cL_law 17 = .ok (.istore_n 3, 1) := by decide +kernel
theorem dL_law_18 : decode cL_law 18 = .ok (.iload_n 3, 1) := by decide +kernel
theorem dL_law_19 : decode cL_law 19 = .ok (.aload_n 0, 1) := by decide +kernel
theorem dL_law_20 : decode cL_law 20 = .ok (.arraylength, 1) := by decide +kernel
theorem dL_law_21 : decode cL_law 21 = .ok (.bipush 6, 2) := by decide +kernel
theorem dL_law_23 : decode cL_law 23 = .ok (.isub, 1) := by decide +kernel
theorem dL_law_24 : decode cL_law 24 = .ok (.if_icmp .gt 649, 3) := by decide +kernel
theorem dL_law_27 : decode cL_law 27 = .ok (.aload_n 0, 1) := by decide +kernel
theorem dL_law_28 : decode cL_law 28 = .ok (.iload_n 3, 1) := by decide +kernel
theorem dL_law_29 : decode cL_law 29 = .ok (.iaload, 1) := by decide +kernel
theorem dL_law_30 : decode cL_law 30 = .ok (.bipush 31, 2) := by decide +kernel
theorem dL_law_32 : decode cL_law 32 = .ok (.iand, 1) := by decide +kernel
theorem dL_law_33 : decode cL_law 33 = .ok (.tableswitch 634 0 16 #[83, 116, 159, 192, 235, 298, 321, 334, 357, 390, 423, 446, 489, 522, 545, 578, 611], 83) := by decide +kernel
theorem dL_law_116 : decode cL_law 116 = .ok (.aload_n 1, 1) := by decide +kernel
theorem dL_law_117 : decode cL_law 117 = .ok (.aload_n 0, 1) := by decide +kernel
theorem dL_law_118 : decode cL_law 118 = .ok (.iload_n 3, 1) := by decide +kernel
theorem dL_law_119 : decode cL_law 119 = .ok (.iconst 1, 1) := by decide +kernel
theorem dL_law_120 : decode cL_law 120 = .ok (.iadd, 1) := by decide +kernel
theorem dL_law_121 : decode cL_law 121 = .ok (.iaload, 1) := by decide +kernel
theorem dL_law_122 : decode cL_law 122 = .ok (.aload_n 0, 1) := by decide +kernel
theorem dL_law_123 : decode cL_law 123 = .ok (.iload_n 3, 1) := by decide +kernel
theorem dL_law_124 : decode cL_law 124 = .ok (.iconst 2, 1) := by decide +kernel
theorem dL_law_125 : decode cL_law 125 = .ok (.iadd, 1) := by decide +kernel
theorem dL_law_126 : decode cL_law 126 = .ok (.iaload, 1) := by decide +kernel
theorem dL_law_127 : decode cL_law 127 = .ok (.invokevirtual 13, 3) := by decide +kernel
theorem dL_law_130 : decode cL_law 130 = .ok (.aload_n 2, 1) := by decide +kernel
theorem dL_law_131 : decode cL_law 131 = .ok (.aload_n 0, 1) := by decide +kernel
theorem dL_law_132 : decode cL_law 132 = .ok (.iload_n 3, 1) := by decide +kernel
theorem dL_law_133 : decode cL_law 133 = .ok (.iconst 1, 1) := by decide +kernel
theorem dL_law_134 : decode cL_law 134 = .ok (.iadd, 1) := by decide +kernel
theorem dL_law_135 : decode cL_law 135 = .ok (.iaload, 1) := by decide +kernel
theorem dL_law_136 : decode cL_law 136 = .ok (.aload_n 0, 1) := by decide +kernel
theorem dL_law_137 : decode cL_law 137 = .ok (.iload_n 3, 1) := by decide +kernel
theorem dL_law_138 : decode cL_law 138 = .ok (.iconst 2, 1) := by decide +kernel
theorem dL_law_139 : decode cL_law 139 = .ok (.iadd, 1) := by decide +kernel
theorem dL_law_140 : decode cL_law 140 = .ok (.iaload, 1) := by decide +kernel
theorem dL_law_141 : decode cL_law 141 = .ok (.invokevirtual 17, 3) := by decide +kernel
theorem dL_law_144 : decode cL_law 144 = .ok (.if_icmp .eq 523, 3) := by decide +kernel
theorem dL_law_147 : decode cL_law 147 = .ok (.iconst 0, 1) := by decide +kernel
theorem dL_law_148 : decode cL_law 148 = .ok (.ireturn, 1) := by decide +kernel
theorem dL_law_149 : decode cL_law 149 = .ok (.aload_n 1, 1) := by decide +kernel
theorem dL_law_150 : decode cL_law 150 = .ok (.aload_n 0, 1) := by decide +kernel
theorem dL_law_151 : decode cL_law 151 = .ok (.iload_n 3, 1) := by decide +kernel
theorem dL_law_152 : decode cL_law 152 = .ok (.iconst 1, 1) := by decide +kernel
theorem dL_law_153 : decode cL_law 153 = .ok (.iadd, 1) := by decide +kernel
theorem dL_law_154 : decode cL_law 154 = .ok (.iaload, 1) := by decide +kernel
theorem dL_law_155 : decode cL_law 155 = .ok (.aload_n 0, 1) := by decide +kernel
theorem dL_law_156 : decode cL_law 156 = .ok (.iload_n 3, 1) := by decide +kernel
theorem dL_law_157 : decode cL_law 157 = .ok (.iconst 2, 1) := by decide +kernel
theorem dL_law_158 : decode cL_law 158 = .ok (.iadd, 1) := by decide +kernel
theorem dL_law_159 : decode cL_law 159 = .ok (.iaload, 1) := by decide +kernel
theorem dL_law_160 : decode cL_law 160 = .ok (.aload_n 0, 1) := by decide +kernel
theorem dL_law_161 : decode cL_law 161 = .ok (.iload_n 3, 1) := by decide +kernel
theorem dL_law_162 : decode cL_law 162 = .ok (.iconst 3, 1) := by decide +kernel
theorem dL_law_163 : decode cL_law 163 = .ok (.iadd, 1) := by decide +kernel
theorem dL_law_164 : decode cL_law 164 = .ok (.iaload, 1) := by decide +kernel
theorem dL_law_165 : decode cL_law 165 = .ok (.invokevirtual 18, 3) := by decide +kernel
theorem dL_law_168 : decode cL_law 168 = .ok (.aload_n 2, 1) := by decide +kernel
theorem dL_law_169 : decode cL_law 169 = .ok (.aload_n 0, 1) := by decide +kernel
theorem dL_law_170 : decode cL_law 170 = .ok (.iload_n 3, 1) := by decide +kernel
theorem dL_law_171 : decode cL_law 171 = .ok (.iconst 1, 1) := by decide +kernel
theorem dL_law_172 : decode cL_law 172 = .ok (.iadd, 1) := by decide +kernel
theorem dL_law_173 : decode cL_law 173 = .ok (.iaload, 1) := by decide +kernel
theorem dL_law_174 : decode cL_law 174 = .ok (.aload_n 0, 1) := by decide +kernel
theorem dL_law_175 : decode cL_law 175 = .ok (.iload_n 3, 1) := by decide +kernel
theorem dL_law_176 : decode cL_law 176 = .ok (.iconst 2, 1) := by decide +kernel
theorem dL_law_177 : decode cL_law 177 = .ok (.iadd, 1) := by decide +kernel
theorem dL_law_178 : decode cL_law 178 = .ok (.iaload, 1) := by decide +kernel
theorem dL_law_179 : decode cL_law 179 = .ok (.aload_n 0, 1) := by decide +kernel
theorem dL_law_180 : decode cL_law 180 = .ok (.iload_n 3, 1) := by decide +kernel
theorem dL_law_181 : decode cL_law 181 = .ok (.iconst 3, 1) := by decide +kernel
theorem dL_law_182 : decode cL_law 182 = .ok (.iadd, 1) := by decide +kernel
theorem dL_law_183 : decode cL_law 183 = .ok (.iaload, 1) := by decide +kernel
theorem dL_law_184 : decode cL_law 184 = .ok (.invokevirtual 22, 3) := by decide +kernel
theorem dL_law_187 : decode cL_law 187 = .ok (.if_icmp .eq 480, 3) := by decide +kernel
theorem dL_law_190 : decode cL_law 190 = .ok (.iconst 0, 1) := by decide +kernel
theorem dL_law_191 : decode cL_law 191 = .ok (.ireturn, 1) := by decide +kernel
theorem dL_law_192 : decode cL_law 192 = .ok (.aload_n 1, 1) := by decide +kernel
theorem dL_law_193 : decode cL_law 193 = .ok (.aload_n 0, 1) := by decide +kernel
theorem dL_law_194 : decode cL_law 194 = .ok (.iload_n 3, 1) := by decide +kernel
theorem dL_law_195 : decode cL_law 195 = .ok (.iconst 1, 1) := by decide +kernel
theorem dL_law_196 : decode cL_law 196 = .ok (.iadd, 1) := by decide +kernel
theorem dL_law_197 : decode cL_law 197 = .ok (.iaload, 1) := by decide +kernel
theorem dL_law_198 : decode cL_law 198 = .ok (.aload_n 0, 1) := by decide +kernel
theorem dL_law_199 : decode cL_law 199 = .ok (.iload_n 3, 1) := by decide +kernel
theorem dL_law_200 : decode cL_law 200 = .ok (.iconst 2, 1) := by decide +kernel
theorem dL_law_201 : decode cL_law 201 = .ok (.iadd, 1) := by decide +kernel
theorem dL_law_202 : decode cL_law 202 = .ok (.iaload, 1) := by decide +kernel
theorem dL_law_203 : decode cL_law 203 = .ok (.invokevirtual 23, 3) := by decide +kernel
theorem dL_law_206 : decode cL_law 206 = .ok (.aload_n 2, 1) := by decide +kernel
theorem dL_law_207 : decode cL_law 207 = .ok (.aload_n 0, 1) := by decide +kernel
theorem dL_law_208 : decode cL_law 208 = .ok (.iload_n 3, 1) := by decide +kernel
theorem dL_law_209 : decode cL_law 209 = .ok (.iconst 1, 1) := by decide +kernel
theorem dL_law_210 : decode cL_law 210 = .ok (.iadd, 1) := by decide +kernel
theorem dL_law_211 : decode cL_law 211 = .ok (.iaload, 1) := by decide +kernel
theorem dL_law_212 : decode cL_law 212 = .ok (.aload_n 0, 1) := by decide +kernel
theorem dL_law_213 : decode cL_law 213 = .ok (.iload_n 3, 1) := by decide +kernel
theorem dL_law_214 : decode cL_law 214 = .ok (.iconst 2, 1) := by decide +kernel
theorem dL_law_215 : decode cL_law 215 = .ok (.iadd, 1) := by decide +kernel
theorem dL_law_216 : decode cL_law 216 = .ok (.iaload, 1) := by decide +kernel
theorem dL_law_217 : decode cL_law 217 = .ok (.invokevirtual 26, 3) := by decide +kernel
theorem dL_law_220 : decode cL_law 220 = .ok (.if_icmp .eq 447, 3) := by decide +kernel
theorem dL_law_223 : decode cL_law 223 = .ok (.iconst 0, 1) := by decide +kernel
theorem dL_law_224 : decode cL_law 224 = .ok (.ireturn, 1) := by decide +kernel
theorem dL_law_225 : decode cL_law 225 = .ok (.aload_n 1, 1) := by decide +kernel
theorem dL_law_226 : decode cL_law 226 = .ok (.aload_n 0, 1) := by decide +kernel
theorem dL_law_227 : decode cL_law 227 = .ok (.iload_n 3, 1) := by decide +kernel
theorem dL_law_228 : decode cL_law 228 = .ok (.iconst 1, 1) := by decide +kernel
theorem dL_law_229 : decode cL_law 229 = .ok (.iadd, 1) := by decide +kernel
theorem dL_law_230 : decode cL_law 230 = .ok (.iaload, 1) := by decide +kernel
theorem dL_law_231 : decode cL_law 231 = .ok (.aload_n 0, 1) := by decide +kernel
theorem dL_law_232 : decode cL_law 232 = .ok (.iload_n 3, 1) := by decide +kernel
theorem dL_law_233 : decode cL_law 233 = .ok (.iconst 2, 1) := by decide +kernel
theorem dL_law_234 : decode cL_law 234 = .ok (.iadd, 1) := by decide +kernel
theorem dL_law_235 : decode cL_law 235 = .ok (.iaload, 1) := by decide +kernel
theorem dL_law_236 : decode cL_law 236 = .ok (.aload_n 0, 1) := by decide +kernel
theorem dL_law_237 : decode cL_law 237 = .ok (.iload_n 3, 1) := by decide +kernel
theorem dL_law_238 : decode cL_law 238 = .ok (.iconst 3, 1) := by decide +kernel
theorem dL_law_239 : decode cL_law 239 = .ok (.iadd, 1) := by decide +kernel
theorem dL_law_240 : decode cL_law 240 = .ok (.iaload, 1) := by decide +kernel
theorem dL_law_241 : decode cL_law 241 = .ok (.invokevirtual 27, 3) := by decide +kernel
theorem dL_law_244 : decode cL_law 244 = .ok (.aload_n 2, 1) := by decide +kernel
theorem dL_law_245 : decode cL_law 245 = .ok (.aload_n 0, 1) := by decide +kernel
theorem dL_law_246 : decode cL_law 246 = .ok (.iload_n 3, 1) := by decide +kernel
theorem dL_law_247 : decode cL_law 247 = .ok (.iconst 1, 1) := by decide +kernel
theorem dL_law_248 : decode cL_law 248 = .ok (.iadd, 1) := by decide +kernel
theorem dL_law_249 : decode cL_law 249 = .ok (.iaload, 1) := by decide +kernel
theorem dL_law_250 : decode cL_law 250 = .ok (.aload_n 0, 1) := by decide +kernel
theorem dL_law_251 : decode cL_law 251 = .ok (.iload_n 3, 1) := by decide +kernel
theorem dL_law_252 : decode cL_law 252 = .ok (.iconst 2, 1) := by decide +kernel
theorem dL_law_253 : decode cL_law 253 = .ok (.iadd, 1) := by decide +kernel
theorem dL_law_254 : decode cL_law 254 = .ok (.iaload, 1) := by decide +kernel
theorem dL_law_255 : decode cL_law 255 = .ok (.aload_n 0, 1) := by decide +kernel
theorem dL_law_256 : decode cL_law 256 = .ok (.iload_n 3, 1) := by decide +kernel
theorem dL_law_257 : decode cL_law 257 = .ok (.iconst 3, 1) := by decide +kernel
theorem dL_law_258 : decode cL_law 258 = .ok (.iadd, 1) := by decide +kernel
theorem dL_law_259 : decode cL_law 259 = .ok (.iaload, 1) := by decide +kernel
theorem dL_law_260 : decode cL_law 260 = .ok (.invokevirtual 31, 3) := by decide +kernel
theorem dL_law_263 : decode cL_law 263 = .ok (.if_icmp .eq 404, 3) := by decide +kernel
theorem dL_law_266 : decode cL_law 266 = .ok (.iconst 0, 1) := by decide +kernel
theorem dL_law_267 : decode cL_law 267 = .ok (.ireturn, 1) := by decide +kernel
theorem dL_law_268 : decode cL_law 268 = .ok (.aload_n 1, 1) := by decide +kernel
theorem dL_law_269 : decode cL_law 269 = .ok (.aload_n 0, 1) := by decide +kernel
theorem dL_law_270 : decode cL_law 270 = .ok (.iload_n 3, 1) := by decide +kernel
theorem dL_law_271 : decode cL_law 271 = .ok (.iconst 1, 1) := by decide +kernel
theorem dL_law_272 : decode cL_law 272 = .ok (.iadd, 1) := by decide +kernel
theorem dL_law_273 : decode cL_law 273 = .ok (.iaload, 1) := by decide +kernel
theorem dL_law_274 : decode cL_law 274 = .ok (.aload_n 0, 1) := by decide +kernel
theorem dL_law_275 : decode cL_law 275 = .ok (.iload_n 3, 1) := by decide +kernel
theorem dL_law_276 : decode cL_law 276 = .ok (.iconst 2, 1) := by decide +kernel
theorem dL_law_277 : decode cL_law 277 = .ok (.iadd, 1) := by decide +kernel
theorem dL_law_278 : decode cL_law 278 = .ok (.iaload, 1) := by decide +kernel
theorem dL_law_279 : decode cL_law 279 = .ok (.aload_n 0, 1) := by decide +kernel
theorem dL_law_280 : decode cL_law 280 = .ok (.iload_n 3, 1) := by decide +kernel
theorem dL_law_281 : decode cL_law 281 = .ok (.iconst 3, 1) := by decide +kernel
theorem dL_law_282 : decode cL_law 282 = .ok (.iadd, 1) := by decide +kernel
theorem dL_law_283 : decode cL_law 283 = .ok (.iaload, 1) := by decide +kernel
theorem dL_law_284 : decode cL_law 284 = .ok (.aload_n 0, 1) := by decide +kernel
theorem dL_law_285 : decode cL_law 285 = .ok (.iload_n 3, 1) := by decide +kernel
theorem dL_law_286 : decode cL_law 286 = .ok (.iconst 4, 1) := by decide +kernel
theorem dL_law_287 : decode cL_law 287 = .ok (.iadd, 1) := by decide +kernel
theorem dL_law_288 : decode cL_law 288 = .ok (.iaload, 1) := by decide +kernel
theorem dL_law_289 : decode cL_law 289 = .ok (.aload_n 0, 1) := by decide +kernel
theorem dL_law_290 : decode cL_law 290 = .ok (.iload_n 3, 1) := by decide +kernel
theorem dL_law_291 : decode cL_law 291 = .ok (.iconst 5, 1) := by decide +kernel
theorem dL_law_292 : decode cL_law 292 = .ok (.iadd, 1) := by decide +kernel
theorem dL_law_293 : decode cL_law 293 = .ok (.iaload, 1) := by decide +kernel
theorem dL_law_294 : decode cL_law 294 = .ok (.invokevirtual 32, 3) := by decide +kernel
theorem dL_law_297 : decode cL_law 297 = .ok (.aload_n 2, 1) := by decide +kernel
theorem dL_law_298 : decode cL_law 298 = .ok (.aload_n 0, 1) := by decide +kernel
theorem dL_law_299 : decode cL_law 299 = .ok (.iload_n 3, 1) := by decide +kernel
theorem dL_law_300 : decode cL_law 300 = .ok (.iconst 1, 1) := by decide +kernel
theorem dL_law_301 : decode cL_law 301 = .ok (.iadd, 1) := by decide +kernel
theorem dL_law_302 : decode cL_law 302 = .ok (.iaload, 1) := by decide +kernel
theorem dL_law_303 : decode cL_law 303 = .ok (.aload_n 0, 1) := by decide +kernel
theorem dL_law_304 : decode cL_law 304 = .ok (.iload_n 3, 1) := by decide +kernel
theorem dL_law_305 : decode cL_law 305 = .ok (.iconst 2, 1) := by decide +kernel
theorem dL_law_306 : decode cL_law 306 = .ok (.iadd, 1) := by decide +kernel
theorem dL_law_307 : decode cL_law 307 = .ok (.iaload, 1) := by decide +kernel
theorem dL_law_308 : decode cL_law 308 = .ok (.aload_n 0, 1) := by decide +kernel
theorem dL_law_309 : decode cL_law 309 = .ok (.iload_n 3, 1) := by decide +kernel
theorem dL_law_310 : decode cL_law 310 = .ok (.iconst 3, 1) := by decide +kernel
theorem dL_law_311 : decode cL_law 311 = .ok (.iadd, 1) := by decide +kernel
theorem dL_law_312 : decode cL_law 312 = .ok (.iaload, 1) := by decide +kernel
theorem dL_law_313 : decode cL_law 313 = .ok (.aload_n 0, 1) := by decide +kernel
theorem dL_law_314 : decode cL_law 314 = .ok (.iload_n 3, 1) := by decide +kernel
theorem dL_law_315 : decode cL_law 315 = .ok (.iconst 4, 1) := by decide +kernel
theorem dL_law_316 : decode cL_law 316 = .ok (.iadd, 1) := by decide +kernel
theorem dL_law_317 : decode cL_law 317 = .ok (.iaload, 1) := by decide +kernel
theorem dL_law_318 : decode cL_law 318 = .ok (.aload_n 0, 1) := by decide +kernel
theorem dL_law_319 : decode cL_law 319 = .ok (.iload_n 3, 1) := by decide +kernel
theorem dL_law_320 : decode cL_law 320 = .ok (.iconst 5, 1) := by decide +kernel
theorem dL_law_321 : decode cL_law 321 = .ok (.iadd, 1) := by decide +kernel
theorem dL_law_322 : decode cL_law 322 = .ok (.iaload, 1) := by decide +kernel
theorem dL_law_323 : decode cL_law 323 = .ok (.invokevirtual 36, 3) := by decide +kernel
theorem dL_law_326 : decode cL_law 326 = .ok (.if_icmp .eq 341, 3) := by decide +kernel
theorem dL_law_329 : decode cL_law 329 = .ok (.iconst 0, 1) := by decide +kernel
theorem dL_law_330 : decode cL_law 330 = .ok (.ireturn, 1) := by decide +kernel
theorem dL_law_331 : decode cL_law 331 = .ok (.aload_n 1, 1) := by decide +kernel
theorem dL_law_332 : decode cL_law 332 = .ok (.aload_n 0, 1) := by decide +kernel
theorem dL_law_333 : decode cL_law 333 = .ok (.iload_n 3, 1) := by decide +kernel
theorem dL_law_334 : decode cL_law 334 = .ok (.iconst 1, 1) := by decide +kernel
theorem dL_law_335 : decode cL_law 335 = .ok (.iadd, 1) := by decide +kernel
theorem dL_law_336 : decode cL_law 336 = .ok (.iaload, 1) := by decide +kernel
theorem dL_law_337 : decode cL_law 337 = .ok (.invokevirtual 37, 3) := by decide +kernel
theorem dL_law_340 : decode cL_law 340 = .ok (.aload_n 2, 1) := by decide +kernel
theorem dL_law_341 : decode cL_law 341 = .ok (.aload_n 0, 1) := by decide +kernel
theorem dL_law_342 : decode cL_law 342 = .ok (.iload_n 3, 1) := by decide +kernel
theorem dL_law_343 : decode cL_law 343 = .ok (.iconst 1, 1) := by decide +kernel
theorem dL_law_344 : decode cL_law 344 = .ok (.iadd, 1) := by decide +kernel
theorem dL_law_345 : decode cL_law 345 = .ok (.iaload, 1) := by decide +kernel
theorem dL_law_346 : decode cL_law 346 = .ok (.invokevirtual 41, 3) := by decide +kernel
theorem dL_law_349 : decode cL_law 349 = .ok (.if_icmp .eq 318, 3) := by decide +kernel
theorem dL_law_352 : decode cL_law 352 = .ok (.iconst 0, 1) := by decide +kernel
theorem dL_law_353 : decode cL_law 353 = .ok (.ireturn, 1) := by decide +kernel
theorem dL_law_354 : decode cL_law 354 = .ok (.aload_n 1, 1) := by decide +kernel
theorem dL_law_355 : decode cL_law 355 = .ok (.invokevirtual 42, 3) := by decide +kernel
theorem dL_law_358 : decode cL_law 358 = .ok (.aload_n 2, 1) := by decide +kernel
theorem dL_law_359 : decode cL_law 359 = .ok (.invokevirtual 46, 3) := by decide +kernel
theorem dL_law_362 : decode cL_law 362 = .ok (.if_icmp .eq 305, 3) := by decide +kernel
theorem dL_law_365 : decode cL_law 365 = .ok (.iconst 0, 1) := by decide +kernel
theorem dL_law_366 : decode cL_law 366 = .ok (.ireturn, 1) := by decide +kernel
theorem dL_law_367 : decode cL_law 367 = .ok (.aload_n 1, 1) := by decide +kernel
theorem dL_law_368 : decode cL_law 368 = .ok (.aload_n 0, 1) := by decide +kernel
theorem dL_law_369 : decode cL_law 369 = .ok (.iload_n 3, 1) := by decide +kernel
theorem dL_law_370 : decode cL_law 370 = .ok (.iconst 1, 1) := by decide +kernel
theorem dL_law_371 : decode cL_law 371 = .ok (.iadd, 1) := by decide +kernel
theorem dL_law_372 : decode cL_law 372 = .ok (.iaload, 1) := by decide +kernel
theorem dL_law_373 : decode cL_law 373 = .ok (.invokevirtual 47, 3) := by decide +kernel
theorem dL_law_376 : decode cL_law 376 = .ok (.aload_n 2, 1) := by decide +kernel
theorem dL_law_377 : decode cL_law 377 = .ok (.aload_n 0, 1) := by decide +kernel
theorem dL_law_378 : decode cL_law 378 = .ok (.iload_n 3, 1) := by decide +kernel
theorem dL_law_379 : decode cL_law 379 = .ok (.iconst 1, 1) := by decide +kernel
theorem dL_law_380 : decode cL_law 380 = .ok (.iadd, 1) := by decide +kernel
theorem dL_law_381 : decode cL_law 381 = .ok (.iaload, 1) := by decide +kernel
theorem dL_law_382 : decode cL_law 382 = .ok (.invokevirtual 51, 3) := by decide +kernel
theorem dL_law_385 : decode cL_law 385 = .ok (.if_icmp .eq 282, 3) := by decide +kernel
theorem dL_law_388 : decode cL_law 388 = .ok (.iconst 0, 1) := by decide +kernel
theorem dL_law_389 : decode cL_law 389 = .ok (.ireturn, 1) := by decide +kernel
theorem dL_law_390 : decode cL_law 390 = .ok (.aload_n 1, 1) := by decide +kernel
theorem dL_law_391 : decode cL_law 391 = .ok (.aload_n 0, 1) := by decide +kernel
theorem dL_law_392 : decode cL_law 392 = .ok (.iload_n 3, 1) := by decide +kernel
theorem dL_law_393 : decode cL_law 393 = .ok (.iconst 1, 1) := by decide +kernel
theorem dL_law_394 : decode cL_law 394 = .ok (.iadd, 1) := by decide +kernel
theorem dL_law_395 : decode cL_law 395 = .ok (.iaload, 1) := by decide +kernel
theorem dL_law_396 : decode cL_law 396 = .ok (.aload_n 0, 1) := by decide +kernel
theorem dL_law_397 : decode cL_law 397 = .ok (.iload_n 3, 1) := by decide +kernel
theorem dL_law_398 : decode cL_law 398 = .ok (.iconst 2, 1) := by decide +kernel
theorem dL_law_399 : decode cL_law 399 = .ok (.iadd, 1) := by decide +kernel
theorem dL_law_400 : decode cL_law 400 = .ok (.iaload, 1) := by decide +kernel
theorem dL_law_401 : decode cL_law 401 = .ok (.invokevirtual 52, 3) := by decide +kernel
theorem dL_law_404 : decode cL_law 404 = .ok (.aload_n 2, 1) := by decide +kernel
theorem dL_law_405 : decode cL_law 405 = .ok (.aload_n 0, 1) := by decide +kernel
theorem dL_law_406 : decode cL_law 406 = .ok (.iload_n 3, 1) := by decide +kernel
theorem dL_law_407 : decode cL_law 407 = .ok (.iconst 1, 1) := by decide +kernel
theorem dL_law_408 : decode cL_law 408 = .ok (.iadd, 1) := by decide +kernel
theorem dL_law_409 : decode cL_law 409 = .ok (.iaload, 1) := by decide +kernel
theorem dL_law_410 : decode cL_law 410 = .ok (.aload_n 0, 1) := by decide +kernel
theorem dL_law_411 : decode cL_law 411 = .ok (.iload_n 3, 1) := by decide +kernel
theorem dL_law_412 : decode cL_law 412 = .ok (.iconst 2, 1) := by decide +kernel
theorem dL_law_413 : decode cL_law 413 = .ok (.iadd, 1) := by decide +kernel
theorem dL_law_414 : decode cL_law 414 = .ok (.iaload, 1) := by decide +kernel
theorem dL_law_415 : decode cL_law 415 = .ok (.invokevirtual 56, 3) := by decide +kernel
theorem dL_law_418 : decode cL_law 418 = .ok (.if_icmp .eq 249, 3) := by decide +kernel
theorem dL_law_421 : decode cL_law 421 = .ok (.iconst 0, 1) := by decide +kernel
theorem dL_law_422 : decode cL_law 422 = .ok (.ireturn, 1) := by decide +kernel
theorem dL_law_423 : decode cL_law 423 = .ok (.aload_n 1, 1) := by decide +kernel
theorem dL_law_424 : decode cL_law 424 = .ok (.aload_n 0, 1) := by decide +kernel
theorem dL_law_425 : decode cL_law 425 = .ok (.iload_n 3, 1) := by decide +kernel
theorem dL_law_426 : decode cL_law 426 = .ok (.iconst 1, 1) := by decide +kernel
theorem dL_law_427 : decode cL_law 427 = .ok (.iadd, 1) := by decide +kernel
theorem dL_law_428 : decode cL_law 428 = .ok (.iaload, 1) := by decide +kernel
theorem dL_law_429 : decode cL_law 429 = .ok (.aload_n 0, 1) := by decide +kernel
theorem dL_law_430 : decode cL_law 430 = .ok (.iload_n 3, 1) := by decide +kernel
theorem dL_law_431 : decode cL_law 431 = .ok (.iconst 2, 1) := by decide +kernel
theorem dL_law_432 : decode cL_law 432 = .ok (.iadd, 1) := by decide +kernel
theorem dL_law_433 : decode cL_law 433 = .ok (.iaload, 1) := by decide +kernel
theorem dL_law_434 : decode cL_law 434 = .ok (.invokevirtual 57, 3) := by decide +kernel
theorem dL_law_437 : decode cL_law 437 = .ok (.aload_n 2, 1) := by decide +kernel
theorem dL_law_438 : decode cL_law 438 = .ok (.aload_n 0, 1) := by decide +kernel
theorem dL_law_439 : decode cL_law 439 = .ok (.iload_n 3, 1) := by decide +kernel
theorem dL_law_440 : decode cL_law 440 = .ok (.iconst 1, 1) := by decide +kernel
theorem dL_law_441 : decode cL_law 441 = .ok (.iadd, 1) := by decide +kernel
theorem dL_law_442 : decode cL_law 442 = .ok (.iaload, 1) := by decide +kernel
theorem dL_law_443 : decode cL_law 443 = .ok (.aload_n 0, 1) := by decide +kernel
theorem dL_law_444 : decode cL_law 444 = .ok (.iload_n 3, 1) := by decide +kernel
theorem dL_law_445 : decode cL_law 445 = .ok (.iconst 2, 1) := by decide +kernel
theorem dL_law_446 : decode cL_law 446 = .ok (.iadd, 1) := by decide +kernel
theorem dL_law_447 : decode cL_law 447 = .ok (.iaload, 1) := by decide +kernel
theorem dL_law_448 : decode cL_law 448 = .ok (.invokevirtual 60, 3) := by decide +kernel
theorem dL_law_451 : decode cL_law 451 = .ok (.if_icmp .eq 216, 3) := by decide +kernel
theorem dL_law_454 : decode cL_law 454 = .ok (.iconst 0, 1) := by decide +kernel
theorem dL_law_455 : decode cL_law 455 = .ok (.ireturn, 1) := by decide +kernel
theorem dL_law_456 : decode cL_law 456 = .ok (.aload_n 1, 1) := by decide +kernel
theorem dL_law_457 : decode cL_law 457 = .ok (.aload_n 0, 1) := by decide +kernel
theorem dL_law_458 : decode cL_law 458 = .ok (.iload_n 3, 1) := by decide +kernel
theorem dL_law_459 : decode cL_law 459 = .ok (.iconst 1, 1) := by decide +kernel
theorem dL_law_460 : decode cL_law 460 = .ok (.iadd, 1) := by decide +kernel
theorem dL_law_461 : decode cL_law 461 = .ok (.iaload, 1) := by decide +kernel
theorem dL_law_462 : decode cL_law 462 = .ok (.invokevirtual 61, 3) := by decide +kernel
theorem dL_law_465 : decode cL_law 465 = .ok (.aload_n 2, 1) := by decide +kernel
theorem dL_law_466 : decode cL_law 466 = .ok (.aload_n 0, 1) := by decide +kernel
theorem dL_law_467 : decode cL_law 467 = .ok (.iload_n 3, 1) := by decide +kernel
theorem dL_law_468 : decode cL_law 468 = .ok (.iconst 1, 1) := by decide +kernel
theorem dL_law_469 : decode cL_law 469 = .ok (.iadd, 1) := by decide +kernel
theorem dL_law_470 : decode cL_law 470 = .ok (.iaload, 1) := by decide +kernel
theorem dL_law_471 : decode cL_law 471 = .ok (.invokevirtual 64, 3) := by decide +kernel
theorem dL_law_474 : decode cL_law 474 = .ok (.if_icmp .eq 193, 3) := by decide +kernel
theorem dL_law_477 : decode cL_law 477 = .ok (.iconst 0, 1) := by decide +kernel
theorem dL_law_478 : decode cL_law 478 = .ok (.ireturn, 1) := by decide +kernel
theorem dL_law_479 : decode cL_law 479 = .ok (.aload_n 1, 1) := by decide +kernel
theorem dL_law_480 : decode cL_law 480 = .ok (.aload_n 0, 1) := by decide +kernel
theorem dL_law_481 : decode cL_law 481 = .ok (.iload_n 3, 1) := by decide +kernel
theorem dL_law_482 : decode cL_law 482 = .ok (.iconst 1, 1) := by decide +kernel
theorem dL_law_483 : decode cL_law 483 = .ok (.iadd, 1) := by decide +kernel
theorem dL_law_484 : decode cL_law 484 = .ok (.iaload, 1) := by decide +kernel
theorem dL_law_485 : decode cL_law 485 = .ok (.aload_n 0, 1) := by decide +kernel
theorem dL_law_486 : decode cL_law 486 = .ok (.iload_n 3, 1) := by decide +kernel
theorem dL_law_487 : decode cL_law 487 = .ok (.iconst 2, 1) := by decide +kernel
theorem dL_law_488 : decode cL_law 488 = .ok (.iadd, 1) := by decide +kernel
theorem dL_law_489 : decode cL_law 489 = .ok (.iaload, 1) := by decide +kernel
theorem dL_law_490 : decode cL_law 490 = .ok (.aload_n 0, 1) := by decide +kernel
theorem dL_law_491 : decode cL_law 491 = .ok (.iload_n 3, 1) := by decide +kernel
theorem dL_law_492 : decode cL_law 492 = .ok (.iconst 3, 1) := by decide +kernel
theorem dL_law_493 : decode cL_law 493 = .ok (.iadd, 1) := by decide +kernel
theorem dL_law_494 : decode cL_law 494 = .ok (.iaload, 1) := by decide +kernel
theorem dL_law_495 : decode cL_law 495 = .ok (.invokevirtual 65, 3) := by decide +kernel
theorem dL_law_498 : decode cL_law 498 = .ok (.aload_n 2, 1) := by decide +kernel
theorem dL_law_499 : decode cL_law 499 = .ok (.aload_n 0, 1) := by decide +kernel
theorem dL_law_500 : decode cL_law 500 = .ok (.iload_n 3, 1) := by decide +kernel
theorem dL_law_501 : decode cL_law 501 = .ok (.iconst 1, 1) := by decide +kernel
theorem dL_law_502 : decode cL_law 502 = .ok (.iadd, 1) := by decide +kernel
theorem dL_law_503 : decode cL_law 503 = .ok (.iaload, 1) := by decide +kernel
theorem dL_law_504 : decode cL_law 504 = .ok (.aload_n 0, 1) := by decide +kernel
theorem dL_law_505 : decode cL_law 505 = .ok (.iload_n 3, 1) := by decide +kernel
theorem dL_law_506 : decode cL_law 506 = .ok (.iconst 2, 1) := by decide +kernel
theorem dL_law_507 : decode cL_law 507 = .ok (.iadd, 1) := by decide +kernel
theorem dL_law_508 : decode cL_law 508 = .ok (.iaload, 1) := by decide +kernel
theorem dL_law_509 : decode cL_law 509 = .ok (.aload_n 0, 1) := by decide +kernel
theorem dL_law_510 : decode cL_law 510 = .ok (.iload_n 3, 1) := by decide +kernel
theorem dL_law_511 : decode cL_law 511 = .ok (.iconst 3, 1) := by decide +kernel
theorem dL_law_512 : decode cL_law 512 = .ok (.iadd, 1) := by decide +kernel
theorem dL_law_513 : decode cL_law 513 = .ok (.iaload, 1) := by decide +kernel
theorem dL_law_514 : decode cL_law 514 = .ok (.invokevirtual 68, 3) := by decide +kernel
theorem dL_law_517 : decode cL_law 517 = .ok (.if_icmp .eq 150, 3) := by decide +kernel
theorem dL_law_520 : decode cL_law 520 = .ok (.iconst 0, 1) := by decide +kernel
theorem dL_law_521 : decode cL_law 521 = .ok (.ireturn, 1) := by decide +kernel
theorem dL_law_522 : decode cL_law 522 = .ok (.aload_n 1, 1) := by decide +kernel
theorem dL_law_523 : decode cL_law 523 = .ok (.aload_n 0, 1) := by decide +kernel
theorem dL_law_524 : decode cL_law 524 = .ok (.iload_n 3, 1) := by decide +kernel
theorem dL_law_525 : decode cL_law 525 = .ok (.iconst 1, 1) := by decide +kernel
theorem dL_law_526 : decode cL_law 526 = .ok (.iadd, 1) := by decide +kernel
theorem dL_law_527 : decode cL_law 527 = .ok (.iaload, 1) := by decide +kernel
theorem dL_law_528 : decode cL_law 528 = .ok (.aload_n 0, 1) := by decide +kernel
theorem dL_law_529 : decode cL_law 529 = .ok (.iload_n 3, 1) := by decide +kernel
theorem dL_law_530 : decode cL_law 530 = .ok (.iconst 2, 1) := by decide +kernel
theorem dL_law_531 : decode cL_law 531 = .ok (.iadd, 1) := by decide +kernel
theorem dL_law_532 : decode cL_law 532 = .ok (.iaload, 1) := by decide +kernel
theorem dL_law_533 : decode cL_law 533 = .ok (.invokevirtual 69, 3) := by decide +kernel
theorem dL_law_536 : decode cL_law 536 = .ok (.aload_n 2, 1) := by decide +kernel
theorem dL_law_537 : decode cL_law 537 = .ok (.aload_n 0, 1) := by decide +kernel
theorem dL_law_538 : decode cL_law 538 = .ok (.iload_n 3, 1) := by decide +kernel
theorem dL_law_539 : decode cL_law 539 = .ok (.iconst 1, 1) := by decide +kernel
theorem dL_law_540 : decode cL_law 540 = .ok (.iadd, 1) := by decide +kernel
theorem dL_law_541 : decode cL_law 541 = .ok (.iaload, 1) := by decide +kernel
theorem dL_law_542 : decode cL_law 542 = .ok (.aload_n 0, 1) := by decide +kernel
theorem dL_law_543 : decode cL_law 543 = .ok (.iload_n 3, 1) := by decide +kernel
theorem dL_law_544 : decode cL_law 544 = .ok (.iconst 2, 1) := by decide +kernel
theorem dL_law_545 : decode cL_law 545 = .ok (.iadd, 1) := by decide +kernel
theorem dL_law_546 : decode cL_law 546 = .ok (.iaload, 1) := by decide +kernel
theorem dL_law_547 : decode cL_law 547 = .ok (.invokevirtual 72, 3) := by decide +kernel
theorem dL_law_550 : decode cL_law 550 = .ok (.if_icmp .eq 117, 3) := by decide +kernel
theorem dL_law_553 : decode cL_law 553 = .ok (.iconst 0, 1) := by decide +kernel
theorem dL_law_554 : decode cL_law 554 = .ok (.ireturn, 1) := by decide +kernel
theorem dL_law_555 : decode cL_law 555 = .ok (.aload_n 1, 1) := by decide +kernel
theorem dL_law_556 : decode cL_law 556 = .ok (.aload_n 0, 1) := by decide +kernel
theorem dL_law_557 : decode cL_law 557 = .ok (.iload_n 3, 1) := by decide +kernel
theorem dL_law_558 : decode cL_law 558 = .ok (.iconst 1, 1) := by decide +kernel
theorem dL_law_559 : decode cL_law 559 = .ok (.iadd, 1) := by decide +kernel
theorem dL_law_560 : decode cL_law 560 = .ok (.iaload, 1) := by decide +kernel
theorem dL_law_561 : decode cL_law 561 = .ok (.invokevirtual 73, 3) := by decide +kernel
theorem dL_law_564 : decode cL_law 564 = .ok (.aload_n 2, 1) := by decide +kernel
theorem dL_law_565 : decode cL_law 565 = .ok (.aload_n 0, 1) := by decide +kernel
theorem dL_law_566 : decode cL_law 566 = .ok (.iload_n 3, 1) := by decide +kernel
theorem dL_law_567 : decode cL_law 567 = .ok (.iconst 1, 1) := by decide +kernel
theorem dL_law_568 : decode cL_law 568 = .ok (.iadd, 1) := by decide +kernel
theorem dL_law_569 : decode cL_law 569 = .ok (.iaload, 1) := by decide +kernel
theorem dL_law_570 : decode cL_law 570 = .ok (.invokevirtual 76, 3) := by decide +kernel
theorem dL_law_573 : decode cL_law 573 = .ok (.if_icmp .eq 94, 3) := by decide +kernel
theorem dL_law_576 : decode cL_law 576 = .ok (.iconst 0, 1) := by decide +kernel
theorem dL_law_577 : decode cL_law 577 = .ok (.ireturn, 1) := by decide +kernel
theorem dL_law_578 : decode cL_law 578 = .ok (.aload_n 1, 1) := by decide +kernel
theorem dL_law_579 : decode cL_law 579 = .ok (.aload_n 0, 1) := by decide +kernel
theorem dL_law_580 : decode cL_law 580 = .ok (.iload_n 3, 1) := by decide +kernel
theorem dL_law_581 : decode cL_law 581 = .ok (.iconst 1, 1) := by decide +kernel
theorem dL_law_582 : decode cL_law 582 = .ok (.iadd, 1) := by decide +kernel
theorem dL_law_583 : decode cL_law 583 = .ok (.iaload, 1) := by decide +kernel
theorem dL_law_584 : decode cL_law 584 = .ok (.aload_n 0, 1) := by decide +kernel
theorem dL_law_585 : decode cL_law 585 = .ok (.iload_n 3, 1) := by decide +kernel
theorem dL_law_586 : decode cL_law 586 = .ok (.iconst 2, 1) := by decide +kernel
theorem dL_law_587 : decode cL_law 587 = .ok (.iadd, 1) := by decide +kernel
theorem dL_law_588 : decode cL_law 588 = .ok (.iaload, 1) := by decide +kernel
theorem dL_law_589 : decode cL_law 589 = .ok (.invokevirtual 77, 3) := by decide +kernel
theorem dL_law_592 : decode cL_law 592 = .ok (.aload_n 2, 1) := by decide +kernel
theorem dL_law_593 : decode cL_law 593 = .ok (.aload_n 0, 1) := by decide +kernel
theorem dL_law_594 : decode cL_law 594 = .ok (.iload_n 3, 1) := by decide +kernel
theorem dL_law_595 : decode cL_law 595 = .ok (.iconst 1, 1) := by decide +kernel
theorem dL_law_596 : decode cL_law 596 = .ok (.iadd, 1) := by decide +kernel
theorem dL_law_597 : decode cL_law 597 = .ok (.iaload, 1) := by decide +kernel
theorem dL_law_598 : decode cL_law 598 = .ok (.aload_n 0, 1) := by decide +kernel
theorem dL_law_599 : decode cL_law 599 = .ok (.iload_n 3, 1) := by decide +kernel
theorem dL_law_600 : decode cL_law 600 = .ok (.iconst 2, 1) := by decide +kernel
theorem dL_law_601 : decode cL_law 601 = .ok (.iadd, 1) := by decide +kernel
theorem dL_law_602 : decode cL_law 602 = .ok (.iaload, 1) := by decide +kernel
theorem dL_law_603 : decode cL_law 603 = .ok (.invokevirtual 80, 3) := by decide +kernel
theorem dL_law_606 : decode cL_law 606 = .ok (.if_icmp .eq 61, 3) := by decide +kernel
theorem dL_law_609 : decode cL_law 609 = .ok (.iconst 0, 1) := by decide +kernel
theorem dL_law_610 : decode cL_law 610 = .ok (.ireturn, 1) := by decide +kernel
theorem dL_law_611 : decode cL_law 611 = .ok (.aload_n 1, 1) := by decide +kernel
theorem dL_law_612 : decode cL_law 612 = .ok (.aload_n 0, 1) := by decide +kernel
theorem dL_law_613 : decode cL_law 613 = .ok (.iload_n 3, 1) := by decide +kernel
theorem dL_law_614 : decode cL_law 614 = .ok (.iconst 1, 1) := by decide +kernel
theorem dL_law_615 : decode cL_law 615 = .ok (.iadd, 1) := by decide +kernel
theorem dL_law_616 : decode cL_law 616 = .ok (.iaload, 1) := by decide +kernel
theorem dL_law_617 : decode cL_law 617 = .ok (.aload_n 0, 1) := by decide +kernel
theorem dL_law_618 : decode cL_law 618 = .ok (.iload_n 3, 1) := by decide +kernel
theorem dL_law_619 : decode cL_law 619 = .ok (.iconst 2, 1) := by decide +kernel
theorem dL_law_620 : decode cL_law 620 = .ok (.iadd, 1) := by decide +kernel
theorem dL_law_621 : decode cL_law 621 = .ok (.iaload, 1) := by decide +kernel
theorem dL_law_622 : decode cL_law 622 = .ok (.invokevirtual 81, 3) := by decide +kernel
theorem dL_law_625 : decode cL_law 625 = .ok (.aload_n 2, 1) := by decide +kernel
theorem dL_law_626 : decode cL_law 626 = .ok (.aload_n 0, 1) := by decide +kernel
theorem dL_law_627 : decode cL_law 627 = .ok (.iload_n 3, 1) := by decide +kernel
theorem dL_law_628 : decode cL_law 628 = .ok (.iconst 1, 1) := by decide +kernel
theorem dL_law_629 : decode cL_law 629 = .ok (.iadd, 1) := by decide +kernel
theorem dL_law_630 : decode cL_law 630 = .ok (.iaload, 1) := by decide +kernel
theorem dL_law_631 : decode cL_law 631 = .ok (.aload_n 0, 1) := by decide +kernel
theorem dL_law_632 : decode cL_law 632 = .ok (.iload_n 3, 1) := by decide +kernel
theorem dL_law_633 : decode cL_law 633 = .ok (.iconst 2, 1) := by decide +kernel
theorem dL_law_634 : decode cL_law 634 = .ok (.iadd, 1) := by decide +kernel
theorem dL_law_635 : decode cL_law 635 = .ok (.iaload, 1) := by decide +kernel
theorem dL_law_636 : decode cL_law 636 = .ok (.invokevirtual 84, 3) := by decide +kernel
theorem dL_law_639 : decode cL_law 639 = .ok (.if_icmp .eq 28, 3) := by decide +kernel
theorem dL_law_642 : decode cL_law 642 = .ok (.iconst 0, 1) := by decide +kernel
theorem dL_law_643 : decode cL_law 643 = .ok (.ireturn, 1) := by decide +kernel
theorem dL_law_644 : decode cL_law 644 = .ok (.aload_n 1, 1) := by decide +kernel
theorem dL_law_645 : decode cL_law 645 = .ok (.aload_n 0, 1) := by decide +kernel
theorem dL_law_646 : decode cL_law 646 = .ok (.iload_n 3, 1) := by decide +kernel
theorem dL_law_647 : decode cL_law 647 = .ok (.iconst 1, 1) := by decide +kernel
theorem dL_law_648 : decode cL_law 648 = .ok (.iadd, 1) := by decide +kernel
theorem dL_law_649 : decode cL_law 649 = .ok (.iaload, 1) := by decide +kernel
theorem dL_law_650 : decode cL_law 650 = .ok (.invokevirtual 85, 3) := by decide +kernel
theorem dL_law_653 : decode cL_law 653 = .ok (.aload_n 2, 1) := by decide +kernel
theorem dL_law_654 : decode cL_law 654 = .ok (.aload_n 0, 1) := by decide +kernel
theorem dL_law_655 : decode cL_law 655 = .ok (.iload_n 3, 1) := by decide +kernel
theorem dL_law_656 : decode cL_law 656 = .ok (.iconst 1, 1) := by decide +kernel
theorem dL_law_657 : decode cL_law 657 = .ok (.iadd, 1) := by decide +kernel
theorem dL_law_658 : decode cL_law 658 = .ok (.iaload, 1) := by decide +kernel
theorem dL_law_659 : decode cL_law 659 = .ok (.invokevirtual 88, 3) := by decide +kernel
theorem dL_law_662 : decode cL_law 662 = .ok (.if_icmp .eq 5, 3) := by decide +kernel
theorem dL_law_665 : decode cL_law 665 = .ok (.iconst 0, 1) := by decide +kernel
theorem dL_law_666 : decode cL_law 666 = .ok (.ireturn, 1) := by decide +kernel
theorem dL_law_667 : decode cL_law 667 = .ok (.iinc 3 6, 3) := by decide +kernel
theorem dL_law_670 : decode cL_law 670 = .ok (.goto (-652), 3) := by decide +kernel
theorem dL_law_673 : decode cL_law 673 = .ok (.iconst 1, 1) := by decide +kernel
theorem dL_law_674 : decode cL_law 674 = .ok (.ireturn, 1) := by decide +kernel
abbrev vwCl : List vw_C := [(RX0, TX0, 2), (RX1, TX1, 2), (RX2, TX2, 4), (RX3, TX3, 6), (RX4, TX4, 6), (RX5, TX5, 6), (RX6, TX6, 2), (RX7, TX7, 3), (RX8, TX8, 3), (RX9, TX9, 11), (RX10, TX10, 40)]
