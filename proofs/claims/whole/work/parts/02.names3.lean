theorem dX10_missed_41 : decode cX10_missed 41 = .ok (.goto 4, 3) := by decide +kernel
theorem dX10_missed_44 : decode cX10_missed 44 = .ok (.iconst 0, 1) := by decide +kernel
theorem dX10_missed_45 : decode cX10_missed 45 = .ok (.iadd, 1) := by decide +kernel
theorem dX10_missed_46 : decode cX10_missed 46 = .ok (.istore_n 3, 1) := by decide +kernel
theorem dX10_missed_47 : decode cX10_missed 47 = .ok (.iinc 4 1, 3) := by decide +kernel
theorem dX10_missed_50 : decode cX10_missed 50 = .ok (.goto (-45), 3) := by decide +kernel
theorem dX10_missed_53 : decode cX10_missed 53 = .ok (.iload_n 3, 1) := by decide +kernel
theorem dX10_missed_54 : decode cX10_missed 54 = .ok (.ireturn, 1) := by decide +kernel
theorem dX10_last_0 : decode cX10_last 0 = .ok (.aload_n 0, 1) := by decide +kernel
theorem dX10_last_1 : decode cX10_last 1 = .ok (.getfield 87, 3) := by decide +kernel
theorem dX10_last_4 : decode cX10_last 4 = .ok (.iconst 1, 1) := by decide +kernel
theorem dX10_last_5 : decode cX10_last 5 = .ok (.isub, 1) := by decide +kernel
theorem dX10_last_6 : decode cX10_last 6 = .ok (.istore_n 3, 1) := by decide +kernel
theorem dX10_last_7 : decode cX10_last 7 = .ok (.iload_n 3, 1) := by decide +kernel
theorem dX10_last_8 : decode cX10_last 8 = .ok (.ifCond .lt 40, 3) := by decide +kernel
theorem dX10_last_11 : decode cX10_last 11 = .ok (.iload_n 2, 1) := by decide +kernel
theorem dX10_last_12 : decode cX10_last 12 = .ok (.iload_n 3, 1) := by decide +kernel
theorem dX10_last_13 : decode cX10_last 13 = .ok (.ishr, 1) := by decide +kernel
theorem dX10_last_14 : decode cX10_last 14 = .ok (.iconst 1, 1) := by decide +kernel
theorem dX10_last_15 : decode cX10_last 15 = .ok (.iand, 1) := by decide +kernel
theorem dX10_last_16 : decode cX10_last 16 = .ok (.iconst 1, 1) := by decide +kernel
theorem dX10_last_17 : decode cX10_last 17 = .ok (.if_icmp .ne 25, 3) := by decide +kernel
theorem dX10_last_20 : decode cX10_last 20 = .ok (.bipush 100, 2) := by decide +kernel
theorem dX10_last_22 : decode cX10_last 22 = .ok (.aload_n 0, 1) := by decide +kernel
theorem dX10_last_23 : decode cX10_last 23 = .ok (.getfield 16, 3) := by decide +kernel
theorem dX10_last_26 : decode cX10_last 26 = .ok (.bipush 10, 2) := by decide +kernel
theorem dX10_last_28 : decode cX10_last 28 = .ok (.iload_n 1, 1) := by decide +kernel
theorem dX10_last_29 : decode cX10_last 29 = .ok (.imul, 1) := by decide +kernel
theorem dX10_last_30 : decode cX10_last 30 = .ok (.iload_n 3, 1) := by decide +kernel
theorem dX10_last_31 : decode cX10_last 31 = .ok (.iadd, 1) := by decide +kernel
theorem dX10_last_32 : decode cX10_last 32 = .ok (.iaload, 1) := by decide +kernel
theorem dX10_last_33 : decode cX10_last 33 = .ok (.imul, 1) := by decide +kernel
theorem dX10_last_34 : decode cX10_last 34 = .ok (.aload_n 0, 1) := by decide +kernel
theorem dX10_last_35 : decode cX10_last 35 = .ok (.getfield 7, 3) := by decide +kernel
theorem dX10_last_38 : decode cX10_last 38 = .ok (.iload_n 3, 1) := by decide +kernel
theorem dX10_last_39 : decode cX10_last 39 = .ok (.iaload, 1) := by decide +kernel
theorem dX10_last_40 : decode cX10_last 40 = .ok (.idiv, 1) := by decide +kernel
theorem dX10_last_41 : decode cX10_last 41 = .ok (.ireturn, 1) := by decide +kernel
theorem dX10_last_42 : decode cX10_last 42 = .ok (.iinc 3 (-1), 3) := by decide +kernel
theorem dX10_last_45 : decode cX10_last 45 = .ok (.goto (-38), 3) := by decide +kernel
theorem dX10_last_48 : decode cX10_last 48 = .ok (.iconst 0, 1) := by decide +kernel
theorem dX10_last_49 : decode cX10_last 49 = .ok (.ireturn, 1) := by decide +kernel
set_option maxRecDepth 20000 in
theorem ggX10_classOf_X10_markedOf : GoodIn wsX10_classOf wsX10_markedOf := goodIn_r _ [6, 7, 8, 9, 15, 16, 17, 18, 19, 20, 21, 22, 23, 24, 25, 26, 27, 28, 29, 30, 31, 32, 33, 34, 35, 36, 37, 38, 39, 40, 41, 42, 43, 44, 45, 46, 47, 48, 49, 50, 51, 52, 53, 54] (by decide +kernel) (by decide +kernel)
set_option maxRecDepth 20000 in
theorem gX10_classOf_X10_markedOf : GoodIn wsX10_classOf (wsV RX10 97 RX10 yX10_markedOf wsX10_markedOf) := goodIn_app (goodIn_of _ (by decide +kernel)) ggX10_classOf_X10_markedOf
set_option maxRecDepth 20000 in
theorem ggX10_classOf_X10_share : GoodIn wsX10_classOf wsX10_share := goodIn_r _ [13, 7, 9, 14, 15, 16, 17, 18, 19, 20, 21, 22, 23, 24, 25, 26, 27, 28, 29, 30, 31, 32, 33, 34, 35, 36, 37, 38, 39, 40, 41, 42, 43, 44, 45, 46, 47, 48, 49, 50, 51, 52, 53, 54] (by decide +kernel) (by decide +kernel)
set_option maxRecDepth 20000 in
theorem gX10_classOf_X10_share : GoodIn wsX10_classOf (wsV RX10 101 RX10 yX10_share wsX10_share) := goodIn_app (goodIn_of _ (by decide +kernel)) ggX10_classOf_X10_share
theorem dX10_classOf_0 : decode cX10_classOf 0 = .ok (.iconst 0, 1) := by decide +kernel
theorem dX10_classOf_1 : decode cX10_classOf 1 = .ok (.istore_n 2, 1) := by decide +kernel
theorem dX10_classOf_2 : decode cX10_classOf 2 = .ok (.iconst 0, 1) := by decide +kernel
theorem dX10_classOf_3 : decode cX10_classOf 3 = .ok (.istore_n 3, 1) := by decide +kernel
theorem dX10_classOf_4 : decode cX10_classOf 4 = .ok (.iload_n 3, 1) := by decide +kernel
theorem dX10_classOf_5 : decode cX10_classOf 5 = .ok (.bipush 8, 2) := by decide +kernel
theorem dX10_classOf_7 : decode cX10_classOf 7 = .ok (.if_icmp .ge 90, 3) := by decide +kernel
theorem dX10_classOf_10 : decode cX10_classOf 10 = .ok (.aload_n 0, 1) := by decide +kernel
theorem dX10_classOf_11 : decode cX10_classOf 11 = .ok (.iload_n 3, 1) := by decide +kernel
theorem dX10_classOf_12 : decode cX10_classOf 12 = .ok (.iload_n 1, 1) := by decide +kernel
theorem dX10_classOf_13 : decode cX10_classOf 13 = .ok (.invokevirtual 97, 3) := by decide +kernel
theorem dX10_classOf_16 : decode cX10_classOf 16 = .ok (.istore 4, 2) := by decide +kernel
theorem dX10_classOf_18 : decode cX10_classOf 18 = .ok (.iload 4, 2) := by decide +kernel
theorem dX10_classOf_20 : decode cX10_classOf 20 = .ok (.ifCond .ne 6, 3) := by decide +kernel
theorem dX10_classOf_23 : decode cX10_classOf 23 = .ok (.goto 68, 3) := by decide +kernel
theorem dX10_classOf_26 : decode cX10_classOf 26 = .ok (.aload_n 0, 1) := by decide +kernel
theorem dX10_classOf_27 : decode cX10_classOf 27 = .ok (.iload_n 3, 1) := by decide +kernel
theorem dX10_classOf_28 : decode cX10_classOf 28 = .ok (.iload 4, 2) := by decide +kernel
theorem dX10_classOf_30 : decode cX10_classOf 30 = .ok (.invokevirtual 101, 3) := by decide +kernel
theorem dX10_classOf_33 : decode cX10_classOf 33 = .ok (.istore 5, 2) := by decide +kernel
theorem dX10_classOf_35 : decode cX10_classOf 35 = .ok (.iload_n 2, 1) := by decide +kernel
theorem dX10_classOf_36 : decode cX10_classOf 36 = .ok (.istore 6, 2) := by decide +kernel
theorem dX10_classOf_38 : decode cX10_classOf 38 = .ok (.iload 6, 2) := by decide +kernel
theorem dX10_classOf_40 : decode cX10_classOf 40 = .ok (.ifCond .le 39, 3) := by decide +kernel
theorem dX10_classOf_43 : decode cX10_classOf 43 = .ok (.aload_n 0, 1) := by decide +kernel
theorem dX10_classOf_44 : decode cX10_classOf 44 = .ok (.getfield 19, 3) := by decide +kernel
theorem dX10_classOf_47 : decode cX10_classOf 47 = .ok (.iload 6, 2) := by decide +kernel
theorem dX10_classOf_49 : decode cX10_classOf 49 = .ok (.iconst 1, 1) := by decide +kernel
theorem dX10_classOf_50 : decode cX10_classOf 50 = .ok (.isub, 1) := by decide +kernel
theorem dX10_classOf_51 : decode cX10_classOf 51 = .ok (.iaload, 1) := by decide +kernel
theorem dX10_classOf_52 : decode cX10_classOf 52 = .ok (.iload 5, 2) := by decide +kernel
theorem dX10_classOf_54 : decode cX10_classOf 54 = .ok (.if_icmp .le 25, 3) := by decide +kernel
theorem dX10_classOf_57 : decode cX10_classOf 57 = .ok (.aload_n 0, 1) := by decide +kernel
theorem dX10_classOf_58 : decode cX10_classOf 58 = .ok (.getfield 19, 3) := by decide +kernel
theorem dX10_classOf_61 : decode cX10_classOf 61 = .ok (.iload 6, 2) := by decide +kernel
theorem dX10_classOf_63 : decode cX10_classOf 63 = .ok (.aload_n 0, 1) := by decide +kernel
theorem dX10_classOf_64 : decode cX10_classOf 64 = .ok (.getfield 19, 3) := by decide +kernel
theorem dX10_classOf_67 : decode cX10_classOf 67 = .ok (.iload 6, 2) := by decide +kernel
theorem dX10_classOf_69 : decode cX10_classOf 69 = .ok (.iconst 1, 1) := by decide +kernel
theorem dX10_classOf_70 : decode cX10_classOf 70 = .ok (.isub, 1) := by decide +kernel
theorem dX10_classOf_71 : decode cX10_classOf 71 = .ok (.iaload, 1) := by decide +kernel
theorem dX10_classOf_72 : decode cX10_classOf 72 = .ok (.iastore, 1) := by decide +kernel
theorem dX10_classOf_73 : decode cX10_classOf 73 = .ok (.iinc 6 (-1), 3) := by decide +kernel
theorem dX10_classOf_76 : decode cX10_classOf 76 = .ok (.goto (-38), 3) := by decide +kernel
theorem dX10_classOf_79 : decode cX10_classOf 79 = .ok (.aload_n 0, 1) := by decide +kernel
theorem dX10_classOf_80 : decode cX10_classOf 80 = .ok (.getfield 19, 3) := by decide +kernel
theorem dX10_classOf_83 : decode cX10_classOf 83 = .ok (.iload 6, 2) := by decide +kernel
theorem dX10_classOf_85 : decode cX10_classOf 85 = .ok (.iload 5, 2) := by decide +kernel
theorem dX10_classOf_87 : decode cX10_classOf 87 = .ok (.iastore, 1) := by decide +kernel
theorem dX10_classOf_88 : decode cX10_classOf 88 = .ok (.iinc 2 1, 3) := by decide +kernel
theorem dX10_classOf_91 : decode cX10_classOf 91 = .ok (.iinc 3 1, 3) := by decide +kernel
theorem dX10_classOf_94 : decode cX10_classOf 94 = .ok (.goto (-90), 3) := by decide +kernel
theorem dX10_classOf_97 : decode cX10_classOf 97 = .ok (.iload_n 2, 1) := by decide +kernel
theorem dX10_classOf_98 : decode cX10_classOf 98 = .ok (.ifCond .ne 7, 3) := by decide +kernel
theorem dX10_classOf_101 : decode cX10_classOf 101 = .ok (.iconst 0, 1) := by decide +kernel
theorem dX10_classOf_102 : decode cX10_classOf 102 = .ok (.goto 13, 3) := by decide +kernel
theorem dX10_classOf_105 : decode cX10_classOf 105 = .ok (.aload_n 0, 1) := by decide +kernel
theorem dX10_classOf_106 : decode cX10_classOf 106 = .ok (.getfield 19, 3) := by decide +kernel
theorem dX10_classOf_109 : decode cX10_classOf 109 = .ok (.iload_n 2, 1) := by decide +kernel
theorem dX10_classOf_110 : decode cX10_classOf 110 = .ok (.iconst 1, 1) := by decide +kernel
theorem dX10_classOf_111 : decode cX10_classOf 111 = .ok (.isub, 1) := by decide +kernel
theorem dX10_classOf_112 : decode cX10_classOf 112 = .ok (.iconst 2, 1) := by decide +kernel
theorem dX10_classOf_113 : decode cX10_classOf 113 = .ok (.idiv, 1) := by decide +kernel
theorem dX10_classOf_114 : decode cX10_classOf 114 = .ok (.iaload, 1) := by decide +kernel
theorem dX10_classOf_115 : decode cX10_classOf 115 = .ok (.ireturn, 1) := by decide +kernel
set_option maxRecDepth 20000 in
theorem ggX10_got_X10_isPupil : GoodIn wsX10_got wsX10_isPupil := goodIn_r _ [4, 5, 6, 3, 7] (by decide +kernel) (by decide +kernel)
set_option maxRecDepth 20000 in
theorem gX10_got_X10_isPupil : GoodIn wsX10_got (va_wsS RX10 90 yX10_isPupil wsX10_isPupil) := goodIn_app (goodIn_of _ (by decide +kernel)) ggX10_got_X10_isPupil
set_option maxRecDepth 20000 in
theorem ggX10_got_X10_isSkill : GoodIn wsX10_got wsX10_isSkill := goodIn_r _ [10, 5, 6, 3, 7] (by decide +kernel) (by decide +kernel)
set_option maxRecDepth 20000 in
theorem gX10_got_X10_isSkill : GoodIn wsX10_got (va_wsS RX10 104 yX10_isSkill wsX10_isSkill) := goodIn_app (goodIn_of _ (by decide +kernel)) ggX10_got_X10_isSkill
set_option maxRecDepth 20000 in
theorem ggX10_got_X10_markedOf : GoodIn wsX10_got wsX10_markedOf := goodIn_r _ [14, 15, 16, 17, 39, 40, 41, 42, 43, 44, 45, 46, 47, 48, 49, 50, 51, 52, 53, 54, 55, 56, 57, 58, 59, 60, 61, 62, 63, 64, 65, 66, 67, 68, 69, 70, 71, 72, 73, 74, 75, 76, 77, 78] (by decide +kernel) (by decide +kernel)
set_option maxRecDepth 20000 in
theorem gX10_got_X10_markedOf : GoodIn wsX10_got (wsV RX10 97 RX10 yX10_markedOf wsX10_markedOf) := goodIn_app (goodIn_of _ (by decide +kernel)) ggX10_got_X10_markedOf
set_option maxRecDepth 20000 in
theorem ggX10_got_X10_bits : GoodIn wsX10_got wsX10_bits := goodIn_r _ [20] (by decide +kernel) (by decide +kernel)
set_option maxRecDepth 20000 in
theorem gX10_got_X10_bits : GoodIn wsX10_got (va_wsS RX10 107 yX10_bits wsX10_bits) := goodIn_app (goodIn_of _ (by decide +kernel)) ggX10_got_X10_bits
set_option maxRecDepth 20000 in
theorem ggX10_got_X10_share : GoodIn wsX10_got wsX10_share := goodIn_r _ [24, 15, 17, 25, 39, 40, 41, 42, 43, 44, 45, 46, 47, 48, 49, 50, 51, 52, 53, 54, 55, 56, 57, 58, 59, 60, 61, 62, 63, 64, 65, 66, 67, 68, 69, 70, 71, 72, 73, 74, 75, 76, 77, 78] (by decide +kernel) (by decide +kernel)
set_option maxRecDepth 20000 in
theorem gX10_got_X10_share : GoodIn wsX10_got (wsV RX10 101 RX10 yX10_share wsX10_share) := goodIn_app (goodIn_of _ (by decide +kernel)) ggX10_got_X10_share
set_option maxRecDepth 20000 in
theorem ggX10_got_X10_missed : GoodIn wsX10_got wsX10_missed := goodIn_r _ [29, 15, 17, 39, 40, 41, 42, 43, 44, 45, 46, 47, 48, 49, 50, 51, 52, 53, 54, 55, 56, 57, 58, 59, 60, 61, 62, 63, 64, 65, 66, 67, 68, 69, 70, 71, 72, 73, 74, 75, 76, 77, 78] (by decide +kernel) (by decide +kernel)
set_option maxRecDepth 20000 in
theorem gX10_got_X10_missed : GoodIn wsX10_got (wsV RX10 111 RX10 yX10_missed wsX10_missed) := goodIn_app (goodIn_of _ (by decide +kernel)) ggX10_got_X10_missed
set_option maxRecDepth 20000 in
theorem ggX10_got_X10_last : GoodIn wsX10_got wsX10_last := goodIn_r _ [33, 15, 17, 25, 39, 40, 41, 42, 43, 44, 45, 46, 47, 48, 49, 50, 51, 52, 53, 54, 55, 56, 57, 58, 59, 60, 61, 62, 63, 64, 65, 66, 67, 68, 69, 70, 71, 72, 73, 74, 75, 76, 77, 78] (by decide +kernel) (by decide +kernel)
set_option maxRecDepth 20000 in
theorem gX10_got_X10_last : GoodIn wsX10_got (wsV RX10 114 RX10 yX10_last wsX10_last) := goodIn_app (goodIn_of _ (by decide +kernel)) ggX10_got_X10_last
set_option maxRecDepth 20000 in
theorem ggX10_got_X10_classOf : GoodIn wsX10_got wsX10_classOf := goodIn_r _ [37, 38, 11, 12, 13, 3, 14, 15, 16, 17, 21, 22, 23, 24, 25, 39, 40, 41, 42, 43, 44, 45, 46, 47, 48, 49, 50, 51, 52, 53, 54, 55, 56, 57, 58, 59, 60, 61, 62, 63, 64, 65, 66, 67, 68, 69, 70, 71, 72, 73, 74, 75, 76, 77, 78] (by decide +kernel) (by decide +kernel)
set_option maxRecDepth 20000 in
theorem gX10_got_X10_classOf : GoodIn wsX10_got (wsV RX10 117 RX10 yX10_classOf wsX10_classOf) := goodIn_app (goodIn_of _ (by decide +kernel)) ggX10_got_X10_classOf
theorem dX10_got_0 : decode cX10_got 0 = .ok (.iload_n 1, 1) := by decide +kernel
theorem dX10_got_1 : decode cX10_got 1 = .ok (.invokestatic 90, 3) := by decide +kernel
theorem dX10_got_4 : decode cX10_got 4 = .ok (.ifCond .eq 10, 3) := by decide +kernel
theorem dX10_got_7 : decode cX10_got 7 = .ok (.iload_n 2, 1) := by decide +kernel
theorem dX10_got_8 : decode cX10_got 8 = .ok (.invokestatic 104, 3) := by decide +kernel
theorem dX10_got_11 : decode cX10_got 11 = .ok (.ifCond .ne 5, 3) := by decide +kernel
theorem dX10_got_14 : decode cX10_got 14 = .ok (.iconst (-1), 1) := by decide +kernel
theorem dX10_got_15 : decode cX10_got 15 = .ok (.ireturn, 1) := by decide +kernel
theorem dX10_got_16 : decode cX10_got 16 = .ok (.aload_n 0, 1) := by decide +kernel
theorem dX10_got_17 : decode cX10_got 17 = .ok (.iload_n 1, 1) := by decide +kernel
theorem dX10_got_18 : decode cX10_got 18 = .ok (.iload_n 2, 1) := by decide +kernel
theorem dX10_got_19 : decode cX10_got 19 = .ok (.invokevirtual 97, 3) := by decide +kernel
theorem dX10_got_22 : decode cX10_got 22 = .ok (.istore 4, 2) := by decide +kernel
theorem dX10_got_24 : decode cX10_got 24 = .ok (.iload_n 3, 1) := by decide +kernel
theorem dX10_got_25 : decode cX10_got 25 = .ok (.tableswitch 71 0 4 #[35, 41, 49, 57, 65], 35) := by decide +kernel
theorem dX10_got_60 : decode cX10_got 60 = .ok (.iload 4, 2) := by decide +kernel
theorem dX10_got_62 : decode cX10_got 62 = .ok (.invokestatic 107, 3) := by decide +kernel
theorem dX10_got_65 : decode cX10_got 65 = .ok (.ireturn, 1) := by decide +kernel
theorem dX10_got_66 : decode cX10_got 66 = .ok (.aload_n 0, 1) := by decide +kernel
theorem dX10_got_67 : decode cX10_got 67 = .ok (.iload_n 1, 1) := by decide +kernel
theorem dX10_got_68 : decode cX10_got 68 = .ok (.iload 4, 2) := by decide +kernel
theorem dX10_got_70 : decode cX10_got 70 = .ok (.invokevirtual 101, 3) := by decide +kernel
theorem dX10_got_73 : decode cX10_got 73 = .ok (.ireturn, 1) := by decide +kernel
theorem dX10_got_74 : decode cX10_got 74 = .ok (.aload_n 0, 1) := by decide +kernel
theorem dX10_got_75 : decode cX10_got 75 = .ok (.iload_n 1, 1) := by decide +kernel
theorem dX10_got_76 : decode cX10_got 76 = .ok (.iload 4, 2) := by decide +kernel
theorem dX10_got_78 : decode cX10_got 78 = .ok (.invokevirtual 111, 3) := by decide +kernel
theorem dX10_got_81 : decode cX10_got 81 = .ok (.ireturn, 1) := by decide +kernel
theorem dX10_got_82 : decode cX10_got 82 = .ok (.aload_n 0, 1) := by decide +kernel
theorem dX10_got_83 : decode cX10_got 83 = .ok (.iload_n 1, 1) := by decide +kernel
theorem dX10_got_84 : decode cX10_got 84 = .ok (.iload 4, 2) := by decide +kernel
theorem dX10_got_86 : decode cX10_got 86 = .ok (.invokevirtual 114, 3) := by decide +kernel
theorem dX10_got_89 : decode cX10_got 89 = .ok (.ireturn, 1) := by decide +kernel
theorem dX10_got_90 : decode cX10_got 90 = .ok (.aload_n 0, 1) := by decide +kernel
theorem dX10_got_91 : decode cX10_got 91 = .ok (.iload_n 2, 1) := by decide +kernel
theorem dX10_got_92 : decode cX10_got 92 = .ok (.invokevirtual 117, 3) := by decide +kernel
theorem dX10_got_95 : decode cX10_got 95 = .ok (.ireturn, 1) := by decide +kernel
theorem dX10_got_96 : decode cX10_got 96 = .ok (.iconst (-1), 1) := by decide +kernel
theorem dX10_got_97 : decode cX10_got 97 = .ok (.ireturn, 1) := by decide +kernel
theorem dX10_feed_0 : decode cX10_feed 0 = .ok (.aload_n 0, 1) := by decide +kernel
theorem dX10_feed_1 : decode cX10_feed 1 = .ok (.getfield 120, 3) := by decide +kernel
theorem dX10_feed_4 : decode cX10_feed 4 = .ok (.bipush 20, 2) := by decide +kernel
theorem dX10_feed_6 : decode cX10_feed 6 = .ok (.iadd, 1) := by decide +kernel
theorem dX10_feed_7 : decode cX10_feed 7 = .ok (.sipush 600, 3) := by decide +kernel
theorem dX10_feed_10 : decode cX10_feed 10 = .ok (.if_icmp .le 5, 3) := by decide +kernel
theorem dX10_feed_13 : decode cX10_feed 13 = .ok (.iconst (-1), 1) := by decide +kernel
theorem dX10_feed_14 : decode cX10_feed 14 = .ok (.ireturn, 1) := by decide +kernel
theorem dX10_feed_15 : decode cX10_feed 15 = .ok (.iconst 0, 1) := by decide +kernel
theorem dX10_feed_16 : decode cX10_feed 16 = .ok (.istore 6, 2) := by decide +kernel
theorem dX10_feed_18 : decode cX10_feed 18 = .ok (.iload 6, 2) := by decide +kernel
theorem dX10_feed_20 : decode cX10_feed 20 = .ok (.bipush 20, 2) := by decide +kernel
theorem dX10_feed_22 : decode cX10_feed 22 = .ok (.if_icmp .ge 93, 3) := by decide +kernel
theorem dX10_feed_25 : decode cX10_feed 25 = .ok (.iload 6, 2) := by decide +kernel
theorem dX10_feed_27 : decode cX10_feed 27 = .ok (.iconst 4, 1) := by decide +kernel
theorem dX10_feed_28 : decode cX10_feed 28 = .ok (.if_icmp .ge 7, 3) := by decide +kernel
theorem dX10_feed_31 : decode cX10_feed 31 = .ok (.iload_n 1, 1) := by decide +kernel
theorem dX10_feed_32 : decode cX10_feed 32 = .ok (.goto 39, 3) := by decide +kernel
theorem dX10_feed_35 : decode cX10_feed 35 = .ok (.iload 6, 2) := by decide +kernel
theorem dX10_feed_37 : decode cX10_feed 37 = .ok (.bipush 8, 2) := by decide +kernel
theorem dX10_feed_39 : decode cX10_feed 39 = .ok (.if_icmp .ge 7, 3) := by decide +kernel
theorem dX10_feed_42 : decode cX10_feed 42 = .ok (.iload_n 2, 1) := by decide +kernel
theorem dX10_feed_43 : decode cX10_feed 43 = .ok (.goto 28, 3) := by decide +kernel
theorem dX10_feed_46 : decode cX10_feed 46 = .ok (.iload 6, 2) := by decide +kernel
theorem dX10_feed_48 : decode cX10_feed 48 = .ok (.bipush 12, 2) := by decide +kernel
theorem dX10_feed_50 : decode cX10_feed 50 = .ok (.if_icmp .ge 7, 3) := by decide +kernel
theorem dX10_feed_53 : decode cX10_feed 53 = .ok (.iload_n 3, 1) := by decide +kernel
theorem dX10_feed_54 : decode cX10_feed 54 = .ok (.goto 17, 3) := by decide +kernel
theorem dX10_feed_57 : decode cX10_feed 57 = .ok (.iload 6, 2) := by decide +kernel
theorem dX10_feed_59 : decode cX10_feed 59 = .ok (.bipush 16, 2) := by decide +kernel
theorem dX10_feed_61 : decode cX10_feed 61 = .ok (.if_icmp .ge 8, 3) := by decide +kernel
theorem dX10_feed_64 : decode cX10_feed 64 = .ok (.iload 4, 2) := by decide +kernel
theorem dX10_feed_66 : decode cX10_feed 66 = .ok (.goto 5, 3) := by decide +kernel
theorem dX10_feed_69 : decode cX10_feed 69 = .ok (.iload 5, 2) := by decide +kernel
theorem dX10_feed_71 : decode cX10_feed 71 = .ok (.istore 7, 2) := by decide +kernel
theorem dX10_feed_73 : decode cX10_feed 73 = .ok (.aload_n 0, 1) := by decide +kernel
theorem dX10_feed_74 : decode cX10_feed 74 = .ok (.getfield 49, 3) := by decide +kernel
theorem dX10_feed_77 : decode cX10_feed 77 = .ok (.aload_n 0, 1) := by decide +kernel
theorem dX10_feed_78 : decode cX10_feed 78 = .ok (.getfield 120, 3) := by decide +kernel
theorem dX10_feed_81 : decode cX10_feed 81 = .ok (.iload 7, 2) := by decide +kernel
theorem dX10_feed_83 : decode cX10_feed 83 = .ok (.bipush 24, 2) := by decide +kernel
theorem dX10_feed_85 : decode cX10_feed 85 = .ok (.bipush 8, 2) := by decide +kernel
theorem dX10_feed_87 : decode cX10_feed 87 = .ok (.iload 6, 2) := by decide +kernel
theorem dX10_feed_89 : decode cX10_feed 89 = .ok (.iconst 4, 1) := by decide +kernel
theorem dX10_feed_90 : decode cX10_feed 90 = .ok (.irem, 1) := by decide +kernel
theorem dX10_feed_91 : decode cX10_feed 91 = .ok (.imul, 1) := by decide +kernel
theorem dX10_feed_92 : decode cX10_feed 92 = .ok (.isub, 1) := by decide +kernel
theorem dX10_feed_93 : decode cX10_feed 93 = .ok (.ishr, 1) := by decide +kernel
theorem dX10_feed_94 : decode cX10_feed 94 = .ok (.sipush 255, 3) := by decide +kernel
theorem dX10_feed_97 : decode cX10_feed 97 = .ok (.iand, 1) := by decide +kernel
theorem dX10_feed_98 : decode cX10_feed 98 = .ok (.iastore, 1) := by decide +kernel
theorem dX10_feed_99 : decode cX10_feed 99 = .ok (.aload_n 0, 1) := by decide +kernel
theorem dX10_feed_100 : decode cX10_feed 100 = .ok (.dup, 1) := by decide +kernel
theorem dX10_feed_101 : decode cX10_feed 101 = .ok (.getfield 120, 3) := by decide +kernel
theorem dX10_feed_104 : decode cX10_feed 104 = .ok (.iconst 1, 1) := by decide +kernel
theorem dX10_feed_105 : decode cX10_feed 105 = .ok (.iadd, 1) := by decide +kernel
theorem dX10_feed_106 : decode cX10_feed 106 = .ok (.putfield 120, 3) := by decide +kernel
theorem dX10_feed_109 : decode cX10_feed 109 = .ok (.iinc 6 1, 3) := by decide +kernel
theorem dX10_feed_112 : decode cX10_feed 112 = .ok (.goto (-94), 3) := by decide +kernel
theorem dX10_feed_115 : decode cX10_feed 115 = .ok (.aload_n 0, 1) := by decide +kernel
theorem dX10_feed_116 : decode cX10_feed 116 = .ok (.getfield 120, 3) := by decide +kernel
theorem dX10_feed_119 : decode cX10_feed 119 = .ok (.ireturn, 1) := by decide +kernel
set_option maxRecDepth 20000 in
theorem ggX10_end_X10_isIn : GoodIn wsX10_end wsX10_isIn := goodIn_r _ [5] (by decide +kernel) (by decide +kernel)
set_option maxRecDepth 20000 in
theorem gX10_end_X10_isIn : GoodIn wsX10_end (va_wsS RX10 83 yX10_isIn wsX10_isIn) := goodIn_app (goodIn_of _ (by decide +kernel)) ggX10_end_X10_isIn
theorem dX10_end_0 : decode cX10_end 0 = .ok (.iload_n 1, 1) := by decide +kernel
theorem dX10_end_1 : decode cX10_end 1 = .ok (.iconst 0, 1) := by decide +kernel
theorem dX10_end_2 : decode cX10_end 2 = .ok (.aload_n 0, 1) := by decide +kernel
theorem dX10_end_3 : decode cX10_end 3 = .ok (.getfield 120, 3) := by decide +kernel
theorem dX10_end_6 : decode cX10_end 6 = .ok (.invokestatic 83, 3) := by decide +kernel
theorem dX10_end_9 : decode cX10_end 9 = .ok (.ifCond .ne 5, 3) := by decide +kernel
theorem dX10_end_12 : decode cX10_end 12 = .ok (.iconst 0, 1) := by decide +kernel
theorem dX10_end_13 : decode cX10_end 13 = .ok (.ireturn, 1) := by decide +kernel
theorem dX10_end_14 : decode cX10_end 14 = .ok (.aload_n 0, 1) := by decide +kernel
theorem dX10_end_15 : decode cX10_end 15 = .ok (.iload_n 1, 1) := by decide +kernel
theorem dX10_end_16 : decode cX10_end 16 = .ok (.putfield 120, 3) := by decide +kernel
theorem dX10_end_19 : decode cX10_end 19 = .ok (.iconst 1, 1) := by decide +kernel
theorem dX10_end_20 : decode cX10_end 20 = .ok (.ireturn, 1) := by decide +kernel
theorem dX10_see_0 : decode cX10_see 0 = .ok (.iload_n 1, 1) := by decide +kernel
theorem dX10_see_1 : decode cX10_see 1 = .ok (.aload_n 0, 1) := by decide +kernel
theorem dX10_see_2 : decode cX10_see 2 = .ok (.getfield 120, 3) := by decide +kernel
theorem dX10_see_5 : decode cX10_see 5 = .ok (.if_icmp .ge 12, 3) := by decide +kernel
theorem dX10_see_8 : decode cX10_see 8 = .ok (.aload_n 0, 1) := by decide +kernel
theorem dX10_see_9 : decode cX10_see 9 = .ok (.getfield 49, 3) := by decide +kernel
theorem dX10_see_12 : decode cX10_see 12 = .ok (.iload_n 1, 1) := by decide +kernel
theorem dX10_see_13 : decode cX10_see 13 = .ok (.iaload, 1) := by decide +kernel
theorem dX10_see_14 : decode cX10_see 14 = .ok (.goto 4, 3) := by decide +kernel
theorem dX10_see_17 : decode cX10_see 17 = .ok (.iconst (-1), 1) := by decide +kernel
theorem dX10_see_18 : decode cX10_see 18 = .ok (.ireturn, 1) := by decide +kernel
set_option maxRecDepth 20000 in
theorem ggX10_isLetter_X10_isIn : GoodIn wsX10_isLetter wsX10_isIn := goodIn_r _ [4] (by decide +kernel) (by decide +kernel)
set_option maxRecDepth 20000 in
theorem gX10_isLetter_X10_isIn : GoodIn wsX10_isLetter (va_wsS RX10 83 yX10_isIn wsX10_isIn) := goodIn_app (goodIn_of _ (by decide +kernel)) ggX10_isLetter_X10_isIn
theorem dX10_isLetter_0 : decode cX10_isLetter 0 = .ok (.iload_n 0, 1) := by decide +kernel
theorem dX10_isLetter_1 : decode cX10_isLetter 1 = .ok (.bipush 97, 2) := by decide +kernel
theorem dX10_isLetter_3 : decode cX10_isLetter 3 = .ok (.bipush 122, 2) := by decide +kernel
theorem dX10_isLetter_5 : decode cX10_isLetter 5 = .ok (.invokestatic 83, 3) := by decide +kernel
theorem dX10_isLetter_8 : decode cX10_isLetter 8 = .ok (.ifCond .ne 14, 3) := by decide +kernel
theorem dX10_isLetter_11 : decode cX10_isLetter 11 = .ok (.iload_n 0, 1) := by decide +kernel
theorem dX10_isLetter_12 : decode cX10_isLetter 12 = .ok (.bipush 65, 2) := by decide +kernel
theorem dX10_isLetter_14 : decode cX10_isLetter 14 = .ok (.bipush 90, 2) := by decide +kernel
theorem dX10_isLetter_16 : decode cX10_isLetter 16 = .ok (.invokestatic 83, 3) := by decide +kernel
theorem dX10_isLetter_19 : decode cX10_isLetter 19 = .ok (.ifCond .eq 7, 3) := by decide +kernel
theorem dX10_isLetter_22 : decode cX10_isLetter 22 = .ok (.iconst 1, 1) := by decide +kernel
theorem dX10_isLetter_23 : decode cX10_isLetter 23 = .ok (.goto 4, 3) := by decide +kernel
theorem dX10_isLetter_26 : decode cX10_isLetter 26 = .ok (.iconst 0, 1) := by decide +kernel
theorem dX10_isLetter_27 : decode cX10_isLetter 27 = .ok (.ireturn, 1) := by decide +kernel
set_option maxRecDepth 20000 in
theorem ggX10_isDigit_X10_isIn : GoodIn wsX10_isDigit wsX10_isIn := goodIn_r _ [4] (by decide +kernel) (by decide +kernel)
set_option maxRecDepth 20000 in
theorem gX10_isDigit_X10_isIn : GoodIn wsX10_isDigit (va_wsS RX10 83 yX10_isIn wsX10_isIn) := goodIn_app (goodIn_of _ (by decide +kernel)) ggX10_isDigit_X10_isIn
theorem dX10_isDigit_0 : decode cX10_isDigit 0 = .ok (.iload_n 0, 1) := by decide +kernel
theorem dX10_isDigit_1 : decode cX10_isDigit 1 = .ok (.bipush 48, 2) := by decide +kernel
theorem dX10_isDigit_3 : decode cX10_isDigit 3 = .ok (.bipush 57, 2) := by decide +kernel
theorem dX10_isDigit_5 : decode cX10_isDigit 5 = .ok (.invokestatic 83, 3) := by decide +kernel
theorem dX10_isDigit_8 : decode cX10_isDigit 8 = .ok (.ireturn, 1) := by decide +kernel
theorem dX10_word_0 : decode cX10_word 0 = .ok (.lload_n 0, 1) := by decide +kernel
theorem dX10_word_1 : decode cX10_word 1 = .ok (.ldc2_w 123, 3) := by decide +kernel
theorem dX10_word_4 : decode cX10_word 4 = .ok (.lcmp, 1) := by decide +kernel
theorem dX10_word_5 : decode cX10_word 5 = .ok (.ifCond .ne 5, 3) := by decide +kernel
theorem dX10_word_8 : decode cX10_word 8 = .ok (.iconst 3, 1) := by decide +kernel
theorem dX10_word_9 : decode cX10_word 9 = .ok (.ireturn, 1) := by decide +kernel
theorem dX10_word_10 : decode cX10_word 10 = .ok (.lload_n 0, 1) := by decide +kernel
theorem dX10_word_11 : decode cX10_word 11 = .ok (.ldc2_w 125, 3) := by decide +kernel
theorem dX10_word_14 : decode cX10_word 14 = .ok (.lcmp, 1) := by decide +kernel
theorem dX10_word_15 : decode cX10_word 15 = .ok (.ifCond .ne 5, 3) := by decide +kernel
theorem dX10_word_18 : decode cX10_word 18 = .ok (.iconst 4, 1) := by decide +kernel
theorem dX10_word_19 : decode cX10_word 19 = .ok (.ireturn, 1) := by decide +kernel
theorem dX10_word_20 : decode cX10_word 20 = .ok (.lload_n 0, 1) := by decide +kernel
theorem dX10_word_21 : decode cX10_word 21 = .ok (.ldc2_w 127, 3) := by decide +kernel
theorem dX10_word_24 : decode cX10_word 24 = .ok (.lcmp, 1) := by decide +kernel
theorem dX10_word_25 : decode cX10_word 25 = .ok (.ifCond .ne 5, 3) := by decide +kernel
theorem dX10_word_28 : decode cX10_word 28 = .ok (.iconst 5, 1) := by decide +kernel
theorem dX10_word_29 : decode cX10_word 29 = .ok (.ireturn, 1) := by decide +kernel
theorem dX10_word_30 : decode cX10_word 30 = .ok (.lload_n 0, 1) := by decide +kernel
theorem dX10_word_31 : decode cX10_word 31 = .ok (.ldc2_w 129, 3) := by decide +kernel
theorem dX10_word_34 : decode cX10_word 34 = .ok (.lcmp, 1) := by decide +kernel
theorem dX10_word_35 : decode cX10_word 35 = .ok (.ifCond .ne 6, 3) := by decide +kernel
theorem dX10_word_38 : decode cX10_word 38 = .ok (.bipush 6, 2) := by decide +kernel
theorem dX10_word_40 : decode cX10_word 40 = .ok (.ireturn, 1) := by decide +kernel
theorem dX10_word_41 : decode cX10_word 41 = .ok (.lload_n 0, 1) := by decide +kernel
theorem dX10_word_42 : decode cX10_word 42 = .ok (.ldc2_w 131, 3) := by decide +kernel
theorem dX10_word_45 : decode cX10_word 45 = .ok (.lcmp, 1) := by decide +kernel
theorem dX10_word_46 : decode cX10_word 46 = .ok (.ifCond .ne 6, 3) := by decide +kernel
theorem dX10_word_49 : decode cX10_word 49 = .ok (.bipush 7, 2) := by decide +kernel
theorem dX10_word_51 : decode cX10_word 51 = .ok (.ireturn, 1) := by decide +kernel
theorem dX10_word_52 : decode cX10_word 52 = .ok (.lload_n 0, 1) := by decide +kernel
theorem dX10_word_53 : decode cX10_word 53 = .ok (.ldc2_w 133, 3) := by decide +kernel
theorem dX10_word_56 : decode cX10_word 56 = .ok (.lcmp, 1) := by decide +kernel
theorem dX10_word_57 : decode cX10_word 57 = .ok (.ifCond .ne 6, 3) := by decide +kernel
theorem dX10_word_60 : decode cX10_word 60 = .ok (.bipush 8, 2) := by decide +kernel
theorem dX10_word_62 : decode cX10_word 62 = .ok (.ireturn, 1) := by decide +kernel
theorem dX10_word_63 : decode cX10_word 63 = .ok (.lload_n 0, 1) := by decide +kernel
theorem dX10_word_64 : decode cX10_word 64 = .ok (.ldc2_w 135, 3) := by decide +kernel
theorem dX10_word_67 : decode cX10_word 67 = .ok (.lcmp, 1) := by decide +kernel
theorem dX10_word_68 : decode cX10_word 68 = .ok (.ifCond .ne 7, 3) := by decide +kernel
theorem dX10_word_71 : decode cX10_word 71 = .ok (.sipush 1001, 3) := by decide +kernel
theorem dX10_word_74 : decode cX10_word 74 = .ok (.ireturn, 1) := by decide +kernel
theorem dX10_word_75 : decode cX10_word 75 = .ok (.lload_n 0, 1) := by decide +kernel
theorem dX10_word_76 : decode cX10_word 76 = .ok (.ldc2_w 137, 3) := by decide +kernel
theorem dX10_word_79 : decode cX10_word 79 = .ok (.lcmp, 1) := by decide +kernel
theorem dX10_word_80 : decode cX10_word 80 = .ok (.ifCond .ne 7, 3) := by decide +kernel
theorem dX10_word_83 : decode cX10_word 83 = .ok (.sipush 1002, 3) := by decide +kernel
theorem dX10_word_86 : decode cX10_word 86 = .ok (.ireturn, 1) := by decide +kernel
theorem dX10_word_87 : decode cX10_word 87 = .ok (.lload_n 0, 1) := by decide +kernel
theorem dX10_word_88 : decode cX10_word 88 = .ok (.ldc2_w 139, 3) := by decide +kernel
theorem dX10_word_91 : decode cX10_word 91 = .ok (.lcmp, 1) := by decide +kernel
theorem dX10_word_92 : decode cX10_word 92 = .ok (.ifCond .ne 7, 3) := by decide +kernel
theorem dX10_word_95 : decode cX10_word 95 = .ok (.sipush 1003, 3) := by decide +kernel
theorem dX10_word_98 : decode cX10_word 98 = .ok (.ireturn, 1) := by decide +kernel
theorem dX10_word_99 : decode cX10_word 99 = .ok (.lload_n 0, 1) := by decide +kernel
theorem dX10_word_100 : decode cX10_word 100 = .ok (.ldc2_w 141, 3) := by decide +kernel
theorem dX10_word_103 : decode cX10_word 103 = .ok (.lcmp, 1) := by decide +kernel
theorem dX10_word_104 : decode cX10_word 104 = .ok (.ifCond .ne 7, 3) := by decide +kernel
theorem dX10_word_107 : decode cX10_word 107 = .ok (.sipush 1004, 3) := by decide +kernel
theorem dX10_word_110 : decode cX10_word 110 = .ok (.ireturn, 1) := by decide +kernel
theorem dX10_word_111 : decode cX10_word 111 = .ok (.lload_n 0, 1) := by decide +kernel
theorem dX10_word_112 : decode cX10_word 112 = .ok (.ldc2_w 143, 3) := by decide +kernel
theorem dX10_word_115 : decode cX10_word 115 = .ok (.lcmp, 1) := by decide +kernel
theorem dX10_word_116 : decode cX10_word 116 = .ok (.ifCond .ne 9, 3) := by decide +kernel
theorem dX10_word_119 : decode cX10_word 119 = .ok (.sipush 1005, 3) := by decide +kernel
theorem dX10_word_122 : decode cX10_word 122 = .ok (.goto 4, 3) := by decide +kernel
theorem dX10_word_125 : decode cX10_word 125 = .ok (.iconst 1, 1) := by decide +kernel
theorem dX10_word_126 : decode cX10_word 126 = .ok (.ireturn, 1) := by decide +kernel
set_option maxRecDepth 20000 in
theorem ggX10_next0_X10_see : GoodIn wsX10_next0 wsX10_see := goodIn_r _ [9, 10, 11, 35, 36, 37, 38, 39, 40, 41, 42, 43, 44, 45, 46, 47, 48, 49, 50, 51, 52, 53, 54, 55, 56, 57, 58, 59, 60, 61, 62, 63, 64, 65, 66, 67, 68, 69, 70, 71, 72, 73, 74] (by decide +kernel) (by decide +kernel)
set_option maxRecDepth 20000 in
theorem gX10_next0_X10_see : GoodIn wsX10_next0 (wsV RX10 148 RX10 yX10_see wsX10_see) := goodIn_app (goodIn_of _ (by decide +kernel)) ggX10_next0_X10_see
set_option maxRecDepth 20000 in
theorem ggX10_next0_X10_isLetter : GoodIn wsX10_next0 wsX10_isLetter := goodIn_r _ [14, 15, 16, 8, 17] (by decide +kernel) (by decide +kernel)
set_option maxRecDepth 20000 in
theorem gX10_next0_X10_isLetter : GoodIn wsX10_next0 (va_wsS RX10 157 yX10_isLetter wsX10_isLetter) := goodIn_app (goodIn_of _ (by decide +kernel)) ggX10_next0_X10_isLetter
set_option maxRecDepth 20000 in
theorem ggX10_next0_X10_word : GoodIn wsX10_next0 wsX10_word := goodIn_r _ [20, 21, 22, 23, 24, 25, 26, 27, 28, 29, 30, 31] (by decide +kernel) (by decide +kernel)
set_option maxRecDepth 20000 in
theorem gX10_next0_X10_word : GoodIn wsX10_next0 (va_wsS RX10 160 yX10_word wsX10_word) := goodIn_app (goodIn_of _ (by decide +kernel)) ggX10_next0_X10_word
set_option maxRecDepth 20000 in
theorem ggX10_next0_X10_isDigit : GoodIn wsX10_next0 wsX10_isDigit := goodIn_r _ [34, 15, 16, 8, 17] (by decide +kernel) (by decide +kernel)
set_option maxRecDepth 20000 in
theorem gX10_next0_X10_isDigit : GoodIn wsX10_next0 (va_wsS RX10 164 yX10_isDigit wsX10_isDigit) := goodIn_app (goodIn_of _ (by decide +kernel)) ggX10_next0_X10_isDigit
theorem dX10_next0_0 : decode cX10_next0 0 = .ok (.aload_n 0, 1) := by decide +kernel
theorem dX10_next0_1 : decode cX10_next0 1 = .ok (.aload_n 0, 1) := by decide +kernel
theorem dX10_next0_2 : decode cX10_next0 2 = .ok (.getfield 145, 3) := by decide +kernel
theorem dX10_next0_5 : decode cX10_next0 5 = .ok (.invokevirtual 148, 3) := by decide +kernel
theorem dX10_next0_8 : decode cX10_next0 8 = .ok (.bipush 32, 2) := by decide +kernel
theorem dX10_next0_10 : decode cX10_next0 10 = .ok (.if_icmp .eq 16, 3) := by decide +kernel
theorem dX10_next0_13 : decode cX10_next0 13 = .ok (.aload_n 0, 1) := by decide +kernel
theorem dX10_next0_14 : decode cX10_next0 14 = .ok (.aload_n 0, 1) := by decide +kernel
theorem dX10_next0_15 : decode cX10_next0 15 = .ok (.getfield 145, 3) := by decide +kernel
theorem dX10_next0_18 : decode cX10_next0 18 = .ok (.invokevirtual 148, 3) := by decide +kernel
theorem dX10_next0_21 : decode cX10_next0 21 = .ok (.bipush 10, 2) := by decide +kernel
theorem dX10_next0_23 : decode cX10_next0 23 = .ok (.if_icmp .ne 16, 3) := by decide +kernel
theorem dX10_next0_26 : decode cX10_next0 26 = .ok (.aload_n 0, 1) := by decide +kernel
theorem dX10_next0_27 : decode cX10_next0 27 = .ok (.dup, 1) := by decide +kernel
theorem dX10_next0_28 : decode cX10_next0 28 = .ok (.getfield 145, 3) := by decide +kernel
theorem dX10_next0_31 : decode cX10_next0 31 = .ok (.iconst 1, 1) := by decide +kernel
theorem dX10_next0_32 : decode cX10_next0 32 = .ok (.iadd, 1) := by decide +kernel
theorem dX10_next0_33 : decode cX10_next0 33 = .ok (.putfield 145, 3) := by decide +kernel
theorem dX10_next0_36 : decode cX10_next0 36 = .ok (.goto (-36), 3) := by decide +kernel
theorem dX10_next0_39 : decode cX10_next0 39 = .ok (.aload_n 0, 1) := by decide +kernel
theorem dX10_next0_40 : decode cX10_next0 40 = .ok (.aload_n 0, 1) := by decide +kernel
theorem dX10_next0_41 : decode cX10_next0 41 = .ok (.getfield 145, 3) := by decide +kernel
theorem dX10_next0_44 : decode cX10_next0 44 = .ok (.putfield 151, 3) := by decide +kernel
theorem dX10_next0_47 : decode cX10_next0 47 = .ok (.aload_n 0, 1) := by decide +kernel
theorem dX10_next0_48 : decode cX10_next0 48 = .ok (.aload_n 0, 1) := by decide +kernel
theorem dX10_next0_49 : decode cX10_next0 49 = .ok (.getfield 145, 3) := by decide +kernel
theorem dX10_next0_52 : decode cX10_next0 52 = .ok (.invokevirtual 148, 3) := by decide +kernel
theorem dX10_next0_55 : decode cX10_next0 55 = .ok (.istore_n 1, 1) := by decide +kernel
theorem dX10_next0_56 : decode cX10_next0 56 = .ok (.iconst 0, 1) := by decide +kernel
theorem dX10_next0_57 : decode cX10_next0 57 = .ok (.istore_n 2, 1) := by decide +kernel
theorem dX10_next0_58 : decode cX10_next0 58 = .ok (.iload_n 1, 1) := by decide +kernel
theorem dX10_next0_59 : decode cX10_next0 59 = .ok (.iconst (-1), 1) := by decide +kernel
theorem dX10_next0_60 : decode cX10_next0 60 = .ok (.if_icmp .ne 11, 3) := by decide +kernel
theorem dX10_next0_63 : decode cX10_next0 63 = .ok (.aload_n 0, 1) := by decide +kernel
theorem dX10_next0_64 : decode cX10_next0 64 = .ok (.iconst 0, 1) := by decide +kernel
theorem dX10_next0_65 : decode cX10_next0 65 = .ok (.putfield 154, 3) := by decide +kernel
theorem dX10_next0_68 : decode cX10_next0 68 = .ok (.goto 248, 3) := by decide +kernel
theorem dX10_next0_71 : decode cX10_next0 71 = .ok (.iload_n 1, 1) := by decide +kernel
theorem dX10_next0_72 : decode cX10_next0 72 = .ok (.invokestatic 157, 3) := by decide +kernel
theorem dX10_next0_75 : decode cX10_next0 75 = .ok (.ifCond .eq 77, 3) := by decide +kernel
theorem dX10_next0_78 : decode cX10_next0 78 = .ok (.lconst 0, 1) := by decide +kernel
theorem dX10_next0_79 : decode cX10_next0 79 = .ok (.lstore_n 3, 1) := by decide +kernel
theorem dX10_next0_80 : decode cX10_next0 80 = .ok (.aload_n 0, 1) := by decide +kernel
theorem dX10_next0_81 : decode cX10_next0 81 = .ok (.aload_n 0, 1) := by decide +kernel
theorem dX10_next0_82 : decode cX10_next0 82 = .ok (.getfield 145, 3) := by decide +kernel
theorem dX10_next0_85 : decode cX10_next0 85 = .ok (.invokevirtual 148, 3) := by decide +kernel
theorem dX10_next0_88 : decode cX10_next0 88 = .ok (.invokestatic 157, 3) := by decide +kernel
theorem dX10_next0_91 : decode cX10_next0 91 = .ok (.ifCond .eq 40, 3) := by decide +kernel
theorem dX10_next0_94 : decode cX10_next0 94 = .ok (.iload_n 2, 1) := by decide +kernel
theorem dX10_next0_95 : decode cX10_next0 95 = .ok (.bipush 7, 2) := by decide +kernel
theorem dX10_next0_97 : decode cX10_next0 97 = .ok (.if_icmp .ge 18, 3) := by decide +kernel
theorem dX10_next0_100 : decode cX10_next0 100 = .ok (.lload_n 3, 1) := by decide +kernel
theorem dX10_next0_101 : decode cX10_next0 101 = .ok (.bipush 8, 2) := by decide +kernel
theorem dX10_next0_103 : decode cX10_next0 103 = .ok (.lshl, 1) := by decide +kernel
theorem dX10_next0_104 : decode cX10_next0 104 = .ok (.aload_n 0, 1) := by decide +kernel
theorem dX10_next0_105 : decode cX10_next0 105 = .ok (.aload_n 0, 1) := by decide +kernel
theorem dX10_next0_106 : decode cX10_next0 106 = .ok (.getfield 145, 3) := by decide +kernel
theorem dX10_next0_109 : decode cX10_next0 109 = .ok (.invokevirtual 148, 3) := by decide +kernel
theorem dX10_next0_112 : decode cX10_next0 112 = .ok (.i2l, 1) := by decide +kernel
theorem dX10_next0_113 : decode cX10_next0 113 = .ok (.lor, 1) := by decide +kernel
theorem dX10_next0_114 : decode cX10_next0 114 = .ok (.lstore_n 3, 1) := by decide +kernel
theorem dX10_next0_115 : decode cX10_next0 115 = .ok (.iinc 2 1, 3) := by decide +kernel
theorem dX10_next0_118 : decode cX10_next0 118 = .ok (.aload_n 0, 1) := by decide +kernel
theorem dX10_next0_119 : decode cX10_next0 119 = .ok (.dup, 1) := by decide +kernel
theorem dX10_next0_120 : decode cX10_next0 120 = .ok (.getfield 145, 3) := by decide +kernel
theorem dX10_next0_123 : decode cX10_next0 123 = .ok (.iconst 1, 1) := by decide +kernel
theorem dX10_next0_124 : decode cX10_next0 124 = .ok (.iadd, 1) := by decide +kernel
theorem dX10_next0_125 : decode cX10_next0 125 = .ok (.putfield 145, 3) := by decide +kernel
theorem dX10_next0_128 : decode cX10_next0 128 = .ok (.goto (-48), 3) := by decide +kernel
theorem dX10_next0_131 : decode cX10_next0 131 = .ok (.aload_n 0, 1) := by decide +kernel
theorem dX10_next0_132 : decode cX10_next0 132 = .ok (.iload_n 2, 1) := by decide +kernel
theorem dX10_next0_133 : decode cX10_next0 133 = .ok (.bipush 7, 2) := by decide +kernel
theorem dX10_next0_135 : decode cX10_next0 135 = .ok (.if_icmp .ge 10, 3) := by decide +kernel
theorem dX10_next0_138 : decode cX10_next0 138 = .ok (.lload_n 3, 1) := by decide +kernel
theorem dX10_next0_139 : decode cX10_next0 139 = .ok (.invokestatic 160, 3) := by decide +kernel
theorem dX10_next0_142 : decode cX10_next0 142 = .ok (.goto 4, 3) := by decide +kernel
theorem dX10_next0_145 : decode cX10_next0 145 = .ok (.iconst 1, 1) := by decide +kernel
theorem dX10_next0_146 : decode cX10_next0 146 = .ok (.putfield 154, 3) := by decide +kernel
theorem dX10_next0_149 : decode cX10_next0 149 = .ok (.goto 167, 3) := by decide +kernel
theorem dX10_next0_152 : decode cX10_next0 152 = .ok (.iload_n 1, 1) := by decide +kernel
theorem dX10_next0_153 : decode cX10_next0 153 = .ok (.invokestatic 164, 3) := by decide +kernel
theorem dX10_next0_156 : decode cX10_next0 156 = .ok (.ifCond .eq 83, 3) := by decide +kernel
theorem dX10_next0_159 : decode cX10_next0 159 = .ok (.aload_n 0, 1) := by decide +kernel
theorem dX10_next0_160 : decode cX10_next0 160 = .ok (.iconst 0, 1) := by decide +kernel
theorem dX10_next0_161 : decode cX10_next0 161 = .ok (.putfield 167, 3) := by decide +kernel
theorem dX10_next0_164 : decode cX10_next0 164 = .ok (.aload_n 0, 1) := by decide +kernel
theorem dX10_next0_165 : decode cX10_next0 165 = .ok (.aload_n 0, 1) := by decide +kernel
theorem dX10_next0_166 : decode cX10_next0 166 = .ok (.getfield 145, 3) := by decide +kernel
theorem dX10_next0_169 : decode cX10_next0 169 = .ok (.invokevirtual 148, 3) := by decide +kernel
theorem dX10_next0_172 : decode cX10_next0 172 = .ok (.invokestatic 164, 3) := by decide +kernel
theorem dX10_next0_175 : decode cX10_next0 175 = .ok (.ifCond .eq 47, 3) := by decide +kernel
theorem dX10_next0_178 : decode cX10_next0 178 = .ok (.iload_n 2, 1) := by decide +kernel
theorem dX10_next0_179 : decode cX10_next0 179 = .ok (.iconst 3, 1) := by decide +kernel
theorem dX10_next0_180 : decode cX10_next0 180 = .ok (.if_icmp .ge 26, 3) := by decide +kernel
theorem dX10_next0_183 : decode cX10_next0 183 = .ok (.aload_n 0, 1) := by decide +kernel
theorem dX10_next0_184 : decode cX10_next0 184 = .ok (.bipush 10, 2) := by decide +kernel
theorem dX10_next0_186 : decode cX10_next0 186 = .ok (.aload_n 0, 1) := by decide +kernel
theorem dX10_next0_187 : decode cX10_next0 187 = .ok (.getfield 167, 3) := by decide +kernel
theorem dX10_next0_190 : decode cX10_next0 190 = .ok (.imul, 1) := by decide +kernel
theorem dX10_next0_191 : decode cX10_next0 191 = .ok (.aload_n 0, 1) := by decide +kernel
theorem dX10_next0_192 : decode cX10_next0 192 = .ok (.aload_n 0, 1) := by decide +kernel
theorem dX10_next0_193 : decode cX10_next0 193 = .ok (.getfield 145, 3) := by decide +kernel
theorem dX10_next0_196 : decode cX10_next0 196 = .ok (.invokevirtual 148, 3) := by decide +kernel
theorem dX10_next0_199 : decode cX10_next0 199 = .ok (.iadd, 1) := by decide +kernel
theorem dX10_next0_200 : decode cX10_next0 200 = .ok (.bipush 48, 2) := by decide +kernel
theorem dX10_next0_202 : decode cX10_next0 202 = .ok (.isub, 1) := by decide +kernel
theorem dX10_next0_203 : decode cX10_next0 203 = .ok (.putfield 167, 3) := by decide +kernel
theorem dX10_next0_206 : decode cX10_next0 206 = .ok (.iinc 2 1, 3) := by decide +kernel
theorem dX10_next0_209 : decode cX10_next0 209 = .ok (.aload_n 0, 1) := by decide +kernel
theorem dX10_next0_210 : decode cX10_next0 210 = .ok (.dup, 1) := by decide +kernel
theorem dX10_next0_211 : decode cX10_next0 211 = .ok (.getfield 145, 3) := by decide +kernel
theorem dX10_next0_214 : decode cX10_next0 214 = .ok (.iconst 1, 1) := by decide +kernel
theorem dX10_next0_215 : decode cX10_next0 215 = .ok (.iadd, 1) := by decide +kernel
theorem dX10_next0_216 : decode cX10_next0 216 = .ok (.putfield 145, 3) := by decide +kernel
theorem dX10_next0_219 : decode cX10_next0 219 = .ok (.goto (-55), 3) := by decide +kernel
theorem dX10_next0_222 : decode cX10_next0 222 = .ok (.aload_n 0, 1) := by decide +kernel
theorem dX10_next0_223 : decode cX10_next0 223 = .ok (.iload_n 2, 1) := by decide +kernel
theorem dX10_next0_224 : decode cX10_next0 224 = .ok (.iconst 4, 1) := by decide +kernel
theorem dX10_next0_225 : decode cX10_next0 225 = .ok (.if_icmp .ge 7, 3) := by decide +kernel
theorem dX10_next0_228 : decode cX10_next0 228 = .ok (.iconst 2, 1) := by decide +kernel
theorem dX10_next0_229 : decode cX10_next0 229 = .ok (.goto 4, 3) := by decide +kernel
theorem dX10_next0_232 : decode cX10_next0 232 = .ok (.iconst 1, 1) := by decide +kernel
theorem dX10_next0_233 : decode cX10_next0 233 = .ok (.putfield 154, 3) := by decide +kernel
theorem dX10_next0_236 : decode cX10_next0 236 = .ok (.goto 80, 3) := by decide +kernel
theorem dX10_next0_239 : decode cX10_next0 239 = .ok (.aload_n 0, 1) := by decide +kernel
theorem dX10_next0_240 : decode cX10_next0 240 = .ok (.dup, 1) := by decide +kernel
theorem dX10_next0_241 : decode cX10_next0 241 = .ok (.getfield 145, 3) := by decide +kernel
theorem dX10_next0_244 : decode cX10_next0 244 = .ok (.iconst 1, 1) := by decide +kernel
theorem dX10_next0_245 : decode cX10_next0 245 = .ok (.iadd, 1) := by decide +kernel
theorem dX10_next0_246 : decode cX10_next0 246 = .ok (.putfield 145, 3) := by decide +kernel
theorem dX10_next0_249 : decode cX10_next0 249 = .ok (.iload_n 1, 1) := by decide +kernel
theorem dX10_next0_250 : decode cX10_next0 250 = .ok (.bipush 59, 2) := by decide +kernel
theorem dX10_next0_252 : decode cX10_next0 252 = .ok (.if_icmp .eq 45, 3) := by decide +kernel
theorem dX10_next0_255 : decode cX10_next0 255 = .ok (.iload_n 1, 1) := by decide +kernel
theorem dX10_next0_256 : decode cX10_next0 256 = .ok (.bipush 40, 2) := by decide +kernel
theorem dX10_next0_258 : decode cX10_next0 258 = .ok (.if_icmp .eq 39, 3) := by decide +kernel
theorem dX10_next0_261 : decode cX10_next0 261 = .ok (.iload_n 1, 1) := by decide +kernel
theorem dX10_next0_262 : decode cX10_next0 262 = .ok (.bipush 41, 2) := by decide +kernel
theorem dX10_next0_264 : decode cX10_next0 264 = .ok (.if_icmp .eq 33, 3) := by decide +kernel
theorem dX10_next0_267 : decode cX10_next0 267 = .ok (.iload_n 1, 1) := by decide +kernel
theorem dX10_next0_268 : decode cX10_next0 268 = .ok (.bipush 60, 2) := by decide +kernel
theorem dX10_next0_270 : decode cX10_next0 270 = .ok (.if_icmp .eq 27, 3) := by decide +kernel
theorem dX10_next0_273 : decode cX10_next0 273 = .ok (.iload_n 1, 1) := by decide +kernel
theorem dX10_next0_274 : decode cX10_next0 274 = .ok (.bipush 61, 2) := by decide +kernel
theorem dX10_next0_276 : decode cX10_next0 276 = .ok (.if_icmp .eq 21, 3) := by decide +kernel
theorem dX10_next0_279 : decode cX10_next0 279 = .ok (.iload_n 1, 1) := by decide +kernel
theorem dX10_next0_280 : decode cX10_next0 280 = .ok (.bipush 62, 2) := by decide +kernel
theorem dX10_next0_282 : decode cX10_next0 282 = .ok (.if_icmp .eq 15, 3) := by decide +kernel
theorem dX10_next0_285 : decode cX10_next0 285 = .ok (.iload_n 1, 1) := by decide +kernel
theorem dX10_next0_286 : decode cX10_next0 286 = .ok (.bipush 43, 2) := by decide +kernel
theorem dX10_next0_288 : decode cX10_next0 288 = .ok (.if_icmp .eq 9, 3) := by decide +kernel
theorem dX10_next0_291 : decode cX10_next0 291 = .ok (.iload_n 1, 1) := by decide +kernel
theorem dX10_next0_292 : decode cX10_next0 292 = .ok (.bipush 45, 2) := by decide +kernel
theorem dX10_next0_294 : decode cX10_next0 294 = .ok (.if_icmp .ne 7, 3) := by decide +kernel
theorem dX10_next0_297 : decode cX10_next0 297 = .ok (.iconst 1, 1) := by decide +kernel
theorem dX10_next0_298 : decode cX10_next0 298 = .ok (.goto 4, 3) := by decide +kernel
theorem dX10_next0_301 : decode cX10_next0 301 = .ok (.iconst 0, 1) := by decide +kernel
theorem dX10_next0_302 : decode cX10_next0 302 = .ok (.istore_n 3, 1) := by decide +kernel
theorem dX10_next0_303 : decode cX10_next0 303 = .ok (.aload_n 0, 1) := by decide +kernel
theorem dX10_next0_304 : decode cX10_next0 304 = .ok (.iload_n 3, 1) := by decide +kernel
theorem dX10_next0_305 : decode cX10_next0 305 = .ok (.ifCond .eq 7, 3) := by decide +kernel
theorem dX10_next0_308 : decode cX10_next0 308 = .ok (.iload_n 1, 1) := by decide +kernel
theorem dX10_next0_309 : decode cX10_next0 309 = .ok (.goto 4, 3) := by decide +kernel
theorem dX10_next0_312 : decode cX10_next0 312 = .ok (.iconst 1, 1) := by decide +kernel
theorem dX10_next0_313 : decode cX10_next0 313 = .ok (.putfield 154, 3) := by decide +kernel
theorem dX10_next0_316 : decode cX10_next0 316 = .ok (.return_, 1) := by decide +kernel
theorem dX10_bad_0 : decode cX10_bad 0 = .ok (.aload_n 0, 1) := by decide +kernel
theorem dX10_bad_1 : decode cX10_bad 1 = .ok (.iload_n 1, 1) := by decide +kernel
theorem dX10_bad_2 : decode cX10_bad 2 = .ok (.putfield 170, 3) := by decide +kernel
theorem dX10_bad_5 : decode cX10_bad 5 = .ok (.aload_n 0, 1) := by decide +kernel
theorem dX10_bad_6 : decode cX10_bad 6 = .ok (.aload_n 0, 1) := by decide +kernel
theorem dX10_bad_7 : decode cX10_bad 7 = .ok (.getfield 151, 3) := by decide +kernel
theorem dX10_bad_10 : decode cX10_bad 10 = .ok (.putfield 173, 3) := by decide +kernel
theorem dX10_bad_13 : decode cX10_bad 13 = .ok (.iconst 0, 1) := by decide +kernel
theorem dX10_bad_14 : decode cX10_bad 14 = .ok (.ireturn, 1) := by decide +kernel
set_option maxRecDepth 20000 in
theorem ggX10_need_X10_bad : GoodIn wsX10_need wsX10_bad := goodIn_r _ [6, 7, 8, 9, 45, 46, 47, 48, 49, 50, 51, 52, 53, 54, 55, 56, 57, 58, 59, 60, 61, 62, 63, 64, 65, 66, 67, 68, 69, 70, 71, 72, 73, 74, 75, 76, 77, 78, 79, 80, 81, 82, 83, 84] (by decide +kernel) (by decide +kernel)
set_option maxRecDepth 20000 in
theorem gX10_need_X10_bad : GoodIn wsX10_need (wsV RX10 176 RX10 yX10_bad wsX10_bad) := goodIn_app (goodIn_of _ (by decide +kernel)) ggX10_need_X10_bad
set_option maxRecDepth 20000 in
theorem ggX10_need_X10_next0 : GoodIn wsX10_need wsX10_next0 := goodIn_r _ [13, 14, 8, 1, 15, 16, 17, 18, 5, 19, 20, 21, 22, 23, 24, 25, 26, 27, 28, 29, 30, 31, 32, 33, 34, 35, 36, 37, 38, 39, 40, 41, 42, 43, 44, 45, 46, 47, 48, 49, 50, 51, 52, 53, 54, 55, 56, 57, 58, 59, 60, 61, 62, 63, 64, 65, 66, 67, 68, 69, 70, 71, 72, 73, 74, 75, 76, 77, 78, 79, 80, 81, 82, 83, 84] (by decide +kernel) (by decide +kernel)
set_option maxRecDepth 20000 in
theorem gX10_need_X10_next0 : GoodIn wsX10_need (wsV RX10 179 RX10 yX10_next0 wsX10_next0) := goodIn_app (goodIn_of _ (by decide +kernel)) ggX10_need_X10_next0
theorem dX10_need_0 : decode cX10_need 0 = .ok (.aload_n 0, 1) := by decide +kernel
theorem dX10_need_1 : decode cX10_need 1 = .ok (.getfield 154, 3) := by decide +kernel
theorem dX10_need_4 : decode cX10_need 4 = .ok (.iload_n 1, 1) := by decide +kernel
theorem dX10_need_5 : decode cX10_need 5 = .ok (.if_icmp .eq 9, 3) := by decide +kernel
theorem dX10_need_8 : decode cX10_need 8 = .ok (.aload_n 0, 1) := by decide +kernel
theorem dX10_need_9 : decode cX10_need 9 = .ok (.iconst 1, 1) := by decide +kernel
theorem dX10_need_10 : decode cX10_need 10 = .ok (.invokevirtual 176, 3) := by decide +kernel
theorem dX10_need_13 : decode cX10_need 13 = .ok (.ireturn, 1) := by decide +kernel
theorem dX10_need_14 : decode cX10_need 14 = .ok (.aload_n 0, 1) := by decide +kernel
theorem dX10_need_15 : decode cX10_need 15 = .ok (.invokevirtual 179, 3) := by decide +kernel
theorem dX10_need_18 : decode cX10_need 18 = .ok (.iconst 1, 1) := by decide +kernel
theorem dX10_need_19 : decode cX10_need 19 = .ok (.ireturn, 1) := by decide +kernel
set_option maxRecDepth 20000 in
theorem ggX10_aNumber_X10_bad : GoodIn wsX10_aNumber wsX10_bad := goodIn_r _ [8, 9, 10, 11, 46, 47, 48, 49, 50, 51, 52, 53, 54, 55, 56, 57, 58, 59, 60, 61, 62, 63, 64, 65, 66, 67, 68, 69, 70, 71, 72, 73, 74, 75, 76, 77, 78, 79, 80, 81, 82, 83, 84, 85] (by decide +kernel) (by decide +kernel)
set_option maxRecDepth 20000 in
theorem gX10_aNumber_X10_bad : GoodIn wsX10_aNumber (wsV RX10 176 RX10 yX10_bad wsX10_bad) := goodIn_app (goodIn_of _ (by decide +kernel)) ggX10_aNumber_X10_bad
set_option maxRecDepth 20000 in
theorem ggX10_aNumber_X10_next0 : GoodIn wsX10_aNumber wsX10_next0 := goodIn_r _ [15, 16, 10, 1, 2, 17, 18, 19, 7, 20, 21, 22, 23, 24, 25, 26, 27, 28, 29, 30, 31, 32, 33, 34, 35, 36, 37, 38, 39, 40, 41, 42, 43, 44, 45, 46, 47, 48, 49, 50, 51, 52, 53, 54, 55, 56, 57, 58, 59, 60, 61, 62, 63, 64, 65, 66, 67, 68, 69, 70, 71, 72, 73, 74, 75, 76, 77, 78, 79, 80, 81, 82, 83, 84, 85] (by decide +kernel) (by decide +kernel)
set_option maxRecDepth 20000 in
theorem gX10_aNumber_X10_next0 : GoodIn wsX10_aNumber (wsV RX10 179 RX10 yX10_next0 wsX10_next0) := goodIn_app (goodIn_of _ (by decide +kernel)) ggX10_aNumber_X10_next0
theorem dX10_aNumber_0 : decode cX10_aNumber 0 = .ok (.aload_n 0, 1) := by decide +kernel
theorem dX10_aNumber_1 : decode cX10_aNumber 1 = .ok (.getfield 154, 3) := by decide +kernel
theorem dX10_aNumber_4 : decode cX10_aNumber 4 = .ok (.iconst 2, 1) := by decide +kernel
theorem dX10_aNumber_5 : decode cX10_aNumber 5 = .ok (.if_icmp .eq 9, 3) := by decide +kernel
theorem dX10_aNumber_8 : decode cX10_aNumber 8 = .ok (.aload_n 0, 1) := by decide +kernel
theorem dX10_aNumber_9 : decode cX10_aNumber 9 = .ok (.iconst 1, 1) := by decide +kernel
theorem dX10_aNumber_10 : decode cX10_aNumber 10 = .ok (.invokevirtual 176, 3) := by decide +kernel
theorem dX10_aNumber_13 : decode cX10_aNumber 13 = .ok (.ireturn, 1) := by decide +kernel
theorem dX10_aNumber_14 : decode cX10_aNumber 14 = .ok (.aload_n 0, 1) := by decide +kernel
theorem dX10_aNumber_15 : decode cX10_aNumber 15 = .ok (.getfield 167, 3) := by decide +kernel
theorem dX10_aNumber_18 : decode cX10_aNumber 18 = .ok (.iload_n 1, 1) := by decide +kernel
theorem dX10_aNumber_19 : decode cX10_aNumber 19 = .ok (.if_icmp .le 9, 3) := by decide +kernel
theorem dX10_aNumber_22 : decode cX10_aNumber 22 = .ok (.aload_n 0, 1) := by decide +kernel
theorem dX10_aNumber_23 : decode cX10_aNumber 23 = .ok (.iconst 2, 1) := by decide +kernel
theorem dX10_aNumber_24 : decode cX10_aNumber 24 = .ok (.invokevirtual 176, 3) := by decide +kernel
theorem dX10_aNumber_27 : decode cX10_aNumber 27 = .ok (.ireturn, 1) := by decide +kernel
theorem dX10_aNumber_28 : decode cX10_aNumber 28 = .ok (.aload_n 0, 1) := by decide +kernel
theorem dX10_aNumber_29 : decode cX10_aNumber 29 = .ok (.aload_n 0, 1) := by decide +kernel
theorem dX10_aNumber_30 : decode cX10_aNumber 30 = .ok (.getfield 167, 3) := by decide +kernel
theorem dX10_aNumber_33 : decode cX10_aNumber 33 = .ok (.putfield 182, 3) := by decide +kernel
theorem dX10_aNumber_36 : decode cX10_aNumber 36 = .ok (.aload_n 0, 1) := by decide +kernel
theorem dX10_aNumber_37 : decode cX10_aNumber 37 = .ok (.invokevirtual 179, 3) := by decide +kernel
theorem dX10_aNumber_40 : decode cX10_aNumber 40 = .ok (.iconst 1, 1) := by decide +kernel
theorem dX10_aNumber_41 : decode cX10_aNumber 41 = .ok (.ireturn, 1) := by decide +kernel
theorem dX10_lay_0 : decode cX10_lay 0 = .ok (.aload_n 0, 1) := by decide +kernel
theorem dX10_lay_1 : decode cX10_lay 1 = .ok (.getfield 43, 3) := by decide +kernel
theorem dX10_lay_4 : decode cX10_lay 4 = .ok (.aload_n 0, 1) := by decide +kernel
theorem dX10_lay_5 : decode cX10_lay 5 = .ok (.getfield 185, 3) := by decide +kernel
theorem dX10_lay_8 : decode cX10_lay 8 = .ok (.iload_n 1, 1) := by decide +kernel
theorem dX10_lay_9 : decode cX10_lay 9 = .ok (.iastore, 1) := by decide +kernel
theorem dX10_lay_10 : decode cX10_lay 10 = .ok (.aload_n 0, 1) := by decide +kernel
theorem dX10_lay_11 : decode cX10_lay 11 = .ok (.dup, 1) := by decide +kernel
theorem dX10_lay_12 : decode cX10_lay 12 = .ok (.getfield 185, 3) := by decide +kernel
theorem dX10_lay_15 : decode cX10_lay 15 = .ok (.iconst 1, 1) := by decide +kernel
theorem dX10_lay_16 : decode cX10_lay 16 = .ok (.iadd, 1) := by decide +kernel
theorem dX10_lay_17 : decode cX10_lay 17 = .ok (.putfield 185, 3) := by decide +kernel
theorem dX10_lay_20 : decode cX10_lay 20 = .ok (.return_, 1) := by decide +kernel
set_option maxRecDepth 20000 in
theorem ggX10_opens_X10_bad : GoodIn wsX10_opens wsX10_bad := goodIn_r _ [6, 7, 8, 9, 46, 47, 48, 49, 50, 51, 52, 53, 54, 55, 56, 57, 58, 59, 60, 61, 62, 63, 64, 65, 66, 67, 68, 69, 70, 71, 72, 73, 74, 75, 76, 77, 78, 79, 80, 81, 82, 83, 84, 85] (by decide +kernel) (by decide +kernel)
set_option maxRecDepth 20000 in
theorem gX10_opens_X10_bad : GoodIn wsX10_opens (wsV RX10 176 RX10 yX10_bad wsX10_bad) := goodIn_app (goodIn_of _ (by decide +kernel)) ggX10_opens_X10_bad
set_option maxRecDepth 20000 in
theorem ggX10_opens_X10_next0 : GoodIn wsX10_opens wsX10_next0 := goodIn_r _ [13, 14, 8, 15, 16, 17, 18, 19, 5, 20, 21, 22, 23, 24, 25, 26, 27, 28, 29, 30, 31, 32, 33, 34, 35, 36, 37, 38, 39, 40, 41, 42, 43, 44, 45, 46, 47, 48, 49, 50, 51, 52, 53, 54, 55, 56, 57, 58, 59, 60, 61, 62, 63, 64, 65, 66, 67, 68, 69, 70, 71, 72, 73, 74, 75, 76, 77, 78, 79, 80, 81, 82, 83, 84, 85] (by decide +kernel) (by decide +kernel)
set_option maxRecDepth 20000 in
theorem gX10_opens_X10_next0 : GoodIn wsX10_opens (wsV RX10 179 RX10 yX10_next0 wsX10_next0) := goodIn_app (goodIn_of _ (by decide +kernel)) ggX10_opens_X10_next0
theorem dX10_opens_0 : decode cX10_opens 0 = .ok (.aload_n 0, 1) := by decide +kernel
theorem dX10_opens_1 : decode cX10_opens 1 = .ok (.getfield 188, 3) := by decide +kernel
theorem dX10_opens_4 : decode cX10_opens 4 = .ok (.bipush 8, 2) := by decide +kernel
theorem dX10_opens_6 : decode cX10_opens 6 = .ok (.if_icmp .ne 9, 3) := by decide +kernel
theorem dX10_opens_9 : decode cX10_opens 9 = .ok (.aload_n 0, 1) := by decide +kernel
theorem dX10_opens_10 : decode cX10_opens 10 = .ok (.iconst 3, 1) := by decide +kernel
theorem dX10_opens_11 : decode cX10_opens 11 = .ok (.invokevirtual 176, 3) := by decide +kernel
theorem dX10_opens_14 : decode cX10_opens 14 = .ok (.ireturn, 1) := by decide +kernel
theorem dX10_opens_15 : decode cX10_opens 15 = .ok (.aload_n 0, 1) := by decide +kernel
theorem dX10_opens_16 : decode cX10_opens 16 = .ok (.dup, 1) := by decide +kernel
theorem dX10_opens_17 : decode cX10_opens 17 = .ok (.getfield 188, 3) := by decide +kernel
theorem dX10_opens_20 : decode cX10_opens 20 = .ok (.iconst 1, 1) := by decide +kernel
theorem dX10_opens_21 : decode cX10_opens 21 = .ok (.iadd, 1) := by decide +kernel
theorem dX10_opens_22 : decode cX10_opens 22 = .ok (.putfield 188, 3) := by decide +kernel
theorem dX10_opens_25 : decode cX10_opens 25 = .ok (.aload_n 0, 1) := by decide +kernel
theorem dX10_opens_26 : decode cX10_opens 26 = .ok (.invokevirtual 179, 3) := by decide +kernel
theorem dX10_opens_29 : decode cX10_opens 29 = .ok (.iconst 1, 1) := by decide +kernel
theorem dX10_opens_30 : decode cX10_opens 30 = .ok (.ireturn, 1) := by decide +kernel
set_option maxRecDepth 20000 in
theorem ggX10_any_X10_all : GoodIn wsX10_any wsX10_all := goodIn_r _ [48, 1, 49, 50, 51, 5, 6, 7, 8, 9, 10, 11, 12, 13, 14, 15, 16, 17, 18, 19, 20, 21, 22, 23, 24, 25, 26, 27, 28, 29, 30, 31, 32, 33, 34, 35, 36, 37, 38, 39, 40, 41, 42, 43, 44, 45, 46, 47, 0, 2, 3, 4, 52, 53, 54, 55, 56, 57, 58, 59, 60, 61, 62, 63, 64, 65, 66, 67, 68, 69, 70, 71, 72, 73, 74, 75, 76, 77, 78, 79, 80, 81, 82, 83, 84, 85, 86, 87, 88, 89, 90, 91, 92, 93, 94, 95, 96, 97, 98, 99, 100, 101, 102, 103, 104, 105, 106, 107, 108, 109, 110, 111, 112, 113, 114, 115, 116, 117, 118] (by decide +kernel) (by decide +kernel)
set_option maxRecDepth 20000 in
theorem gX10_any_X10_all : GoodIn wsX10_any (wsV RX10 191 RX10 yX10_all wsX10_all) := goodIn_app (goodIn_of _ (by decide +kernel)) ggX10_any_X10_all
set_option maxRecDepth 20000 in
theorem ggX10_any_X10_next0 : GoodIn wsX10_any wsX10_next0 := goodIn_r _ [9, 10, 11, 1, 12, 13, 14, 15, 5, 16, 17, 18, 19, 20, 21, 22, 23, 24, 25, 26, 27, 28, 29, 30, 31, 32, 33, 34, 35, 36, 37, 38, 39, 40, 41, 79, 80, 81, 82, 83, 84, 85, 86, 87, 88, 89, 90, 91, 92, 93, 94, 95, 96, 97, 98, 99, 100, 101, 102, 103, 104, 105, 106, 107, 108, 109, 110, 111, 112, 113, 114, 115, 116, 117, 118] (by decide +kernel) (by decide +kernel)
set_option maxRecDepth 20000 in
theorem gX10_any_X10_next0 : GoodIn wsX10_any (wsV RX10 179 RX10 yX10_next0 wsX10_next0) := goodIn_app (goodIn_of _ (by decide +kernel)) ggX10_any_X10_next0
set_option maxRecDepth 20000 in
theorem ggX10_any_X10_lay : GoodIn wsX10_any wsX10_lay := goodIn_r _ [45, 46, 47, 79, 80, 81, 82, 83, 84, 85, 86, 87, 88, 89, 90, 91, 92, 93, 94, 95, 96, 97, 98, 99, 100, 101, 102, 103, 104, 105, 106, 107, 108, 109, 110, 111, 112, 113, 114, 115, 116, 117, 118] (by decide +kernel) (by decide +kernel)
set_option maxRecDepth 20000 in
theorem gX10_any_X10_lay : GoodIn wsX10_any (wsV RX10 195 RX10 yX10_lay wsX10_lay) := goodIn_app (goodIn_of _ (by decide +kernel)) ggX10_any_X10_lay
theorem dX10_any_0 : decode cX10_any 0 = .ok (.aload_n 0, 1) := by decide +kernel
theorem dX10_any_1 : decode cX10_any 1 = .ok (.invokevirtual 191, 3) := by decide +kernel
theorem dX10_any_4 : decode cX10_any 4 = .ok (.ifCond .ne 5, 3) := by decide +kernel
theorem dX10_any_7 : decode cX10_any 7 = .ok (.iconst 0, 1) := by decide +kernel
theorem dX10_any_8 : decode cX10_any 8 = .ok (.ireturn, 1) := by decide +kernel
theorem dX10_any_9 : decode cX10_any 9 = .ok (.aload_n 0, 1) := by decide +kernel
theorem dX10_any_10 : decode cX10_any 10 = .ok (.getfield 154, 3) := by decide +kernel
theorem dX10_any_13 : decode cX10_any 13 = .ok (.bipush 6, 2) := by decide +kernel
theorem dX10_any_15 : decode cX10_any 15 = .ok (.if_icmp .ne 26, 3) := by decide +kernel
theorem dX10_any_18 : decode cX10_any 18 = .ok (.aload_n 0, 1) := by decide +kernel
theorem dX10_any_19 : decode cX10_any 19 = .ok (.invokevirtual 179, 3) := by decide +kernel
theorem dX10_any_22 : decode cX10_any 22 = .ok (.aload_n 0, 1) := by decide +kernel
theorem dX10_any_23 : decode cX10_any 23 = .ok (.invokevirtual 191, 3) := by decide +kernel
theorem dX10_any_26 : decode cX10_any 26 = .ok (.ifCond .ne 5, 3) := by decide +kernel
theorem dX10_any_29 : decode cX10_any 29 = .ok (.iconst 0, 1) := by decide +kernel
theorem dX10_any_30 : decode cX10_any 30 = .ok (.ireturn, 1) := by decide +kernel
theorem dX10_any_31 : decode cX10_any 31 = .ok (.aload_n 0, 1) := by decide +kernel
theorem dX10_any_32 : decode cX10_any 32 = .ok (.sipush 2007, 3) := by decide +kernel
theorem dX10_any_35 : decode cX10_any 35 = .ok (.invokevirtual 195, 3) := by decide +kernel
theorem dX10_any_38 : decode cX10_any 38 = .ok (.goto (-29), 3) := by decide +kernel
theorem dX10_any_41 : decode cX10_any 41 = .ok (.iconst 1, 1) := by decide +kernel
theorem dX10_any_42 : decode cX10_any 42 = .ok (.ireturn, 1) := by decide +kernel
set_option maxRecDepth 20000 in
theorem ggX10_all_X10_one : GoodIn wsX10_all wsX10_one := goodIn_r _ [52, 1, 53, 54, 55, 56, 5, 57, 58, 59, 60, 61, 62, 11, 63, 6, 7, 8, 9, 10, 12, 13, 14, 15, 16, 17, 18, 19, 20, 21, 22, 23, 24, 25, 26, 27, 28, 29, 30, 31, 32, 33, 34, 35, 36, 37, 38, 39, 40, 41, 2, 3, 4, 42, 43, 44, 45, 46, 47, 64, 65, 66, 67, 68, 69, 70, 71, 72, 73, 74, 75, 76, 77, 78, 0, 48, 49, 50, 51, 79, 80, 81, 82, 83, 84, 85, 86, 87, 88, 89, 90, 91, 92, 93, 94, 95, 96, 97, 98, 99, 100, 101, 102, 103, 104, 105, 106, 107, 108, 109, 110, 111, 112, 113, 114, 115, 116, 117, 118] (by decide +kernel) (by decide +kernel)
set_option maxRecDepth 20000 in
theorem gX10_all_X10_one : GoodIn wsX10_all (wsV RX10 199 RX10 yX10_one wsX10_one) := goodIn_app (goodIn_of _ (by decide +kernel)) ggX10_all_X10_one
set_option maxRecDepth 20000 in
theorem ggX10_all_X10_next0 : GoodIn wsX10_all wsX10_next0 := goodIn_r _ [9, 10, 11, 1, 12, 13, 14, 15, 5, 16, 17, 18, 19, 20, 21, 22, 23, 24, 25, 26, 27, 28, 29, 30, 31, 32, 33, 34, 35, 36, 37, 38, 39, 40, 41, 79, 80, 81, 82, 83, 84, 85, 86, 87, 88, 89, 90, 91, 92, 93, 94, 95, 96, 97, 98, 99, 100, 101, 102, 103, 104, 105, 106, 107, 108, 109, 110, 111, 112, 113, 114, 115, 116, 117, 118] (by decide +kernel) (by decide +kernel)
set_option maxRecDepth 20000 in
theorem gX10_all_X10_next0 : GoodIn wsX10_all (wsV RX10 179 RX10 yX10_next0 wsX10_next0) := goodIn_app (goodIn_of _ (by decide +kernel)) ggX10_all_X10_next0
set_option maxRecDepth 20000 in
theorem ggX10_all_X10_lay : GoodIn wsX10_all wsX10_lay := goodIn_r _ [45, 46, 47, 79, 80, 81, 82, 83, 84, 85, 86, 87, 88, 89, 90, 91, 92, 93, 94, 95, 96, 97, 98, 99, 100, 101, 102, 103, 104, 105, 106, 107, 108, 109, 110, 111, 112, 113, 114, 115, 116, 117, 118] (by decide +kernel) (by decide +kernel)
set_option maxRecDepth 20000 in
theorem gX10_all_X10_lay : GoodIn wsX10_all (wsV RX10 195 RX10 yX10_lay wsX10_lay) := goodIn_app (goodIn_of _ (by decide +kernel)) ggX10_all_X10_lay
theorem dX10_all_0 : decode cX10_all 0 = .ok (.aload_n 0, 1) := by decide +kernel
theorem dX10_all_1 : decode cX10_all 1 = .ok (.invokevirtual 199, 3) := by decide +kernel
theorem dX10_all_4 : decode cX10_all 4 = .ok (.ifCond .ne 5, 3) := by decide +kernel
theorem dX10_all_7 : decode cX10_all 7 = .ok (.iconst 0, 1) := by decide +kernel
theorem dX10_all_8 : decode cX10_all 8 = .ok (.ireturn, 1) := by decide +kernel
theorem dX10_all_9 : decode cX10_all 9 = .ok (.aload_n 0, 1) := by decide +kernel
theorem dX10_all_10 : decode cX10_all 10 = .ok (.getfield 154, 3) := by decide +kernel
theorem dX10_all_13 : decode cX10_all 13 = .ok (.bipush 7, 2) := by decide +kernel
theorem dX10_all_15 : decode cX10_all 15 = .ok (.if_icmp .ne 26, 3) := by decide +kernel
theorem dX10_all_18 : decode cX10_all 18 = .ok (.aload_n 0, 1) := by decide +kernel
theorem dX10_all_19 : decode cX10_all 19 = .ok (.invokevirtual 179, 3) := by decide +kernel
theorem dX10_all_22 : decode cX10_all 22 = .ok (.aload_n 0, 1) := by decide +kernel
theorem dX10_all_23 : decode cX10_all 23 = .ok (.invokevirtual 199, 3) := by decide +kernel
theorem dX10_all_26 : decode cX10_all 26 = .ok (.ifCond .ne 5, 3) := by decide +kernel
theorem dX10_all_29 : decode cX10_all 29 = .ok (.iconst 0, 1) := by decide +kernel
theorem dX10_all_30 : decode cX10_all 30 = .ok (.ireturn, 1) := by decide +kernel
theorem dX10_all_31 : decode cX10_all 31 = .ok (.aload_n 0, 1) := by decide +kernel
theorem dX10_all_32 : decode cX10_all 32 = .ok (.sipush 2006, 3) := by decide +kernel
theorem dX10_all_35 : decode cX10_all 35 = .ok (.invokevirtual 195, 3) := by decide +kernel
theorem dX10_all_38 : decode cX10_all 38 = .ok (.goto (-29), 3) := by decide +kernel
theorem dX10_all_41 : decode cX10_all 41 = .ok (.iconst 1, 1) := by decide +kernel
theorem dX10_all_42 : decode cX10_all 42 = .ok (.ireturn, 1) := by decide +kernel
set_option maxRecDepth 20000 in
theorem ggX10_one_X10_opens : GoodIn wsX10_one wsX10_opens := goodIn_r _ [7, 2, 8, 9, 10, 6, 11, 12, 13, 14, 15, 16, 17, 18, 19, 1, 20, 21, 22, 23, 24, 25, 26, 27, 28, 29, 30, 31, 32, 33, 34, 35, 36, 37, 38, 39, 40, 41, 42, 43, 44, 45, 46, 47, 48, 49, 79, 80, 81, 82, 83, 84, 85, 86, 87, 88, 89, 90, 91, 92, 93, 94, 95, 96, 97, 98, 99, 100, 101, 102, 103, 104, 105, 106, 107, 108, 109, 110, 111, 112, 113, 114, 115, 116, 117, 118] (by decide +kernel) (by decide +kernel)
set_option maxRecDepth 20000 in
theorem gX10_one_X10_opens : GoodIn wsX10_one (wsV RX10 202 RX10 yX10_opens wsX10_opens) := goodIn_app (goodIn_of _ (by decide +kernel)) ggX10_one_X10_opens
set_option maxRecDepth 20000 in
theorem ggX10_one_X10_one : GoodIn wsX10_one wsX10_one := goodIn_r _ [0, 1, 2, 3, 4, 5, 6, 7, 8, 9, 10, 11, 12, 13, 14, 15, 16, 17, 18, 19, 20, 21, 22, 23, 24, 25, 26, 27, 28, 29, 30, 31, 32, 33, 34, 35, 36, 37, 38, 39, 40, 41, 42, 43, 44, 45, 46, 47, 48, 49, 50, 51, 52, 53, 54, 55, 56, 57, 58, 59, 60, 61, 62, 63, 64, 65, 66, 67, 68, 69, 70, 71, 72, 73, 74, 75, 76, 77, 78, 79, 80, 81, 82, 83, 84, 85, 86, 87, 88, 89, 90, 91, 92, 93, 94, 95, 96, 97, 98, 99, 100, 101, 102, 103, 104, 105, 106, 107, 108, 109, 110, 111, 112, 113, 114, 115, 116, 117, 118] (by decide +kernel) (by decide +kernel)
set_option maxRecDepth 20000 in
theorem gX10_one_X10_one : GoodIn wsX10_one (wsV RX10 199 RX10 yX10_one wsX10_one) := goodIn_app (goodIn_of _ (by decide +kernel)) ggX10_one_X10_one
set_option maxRecDepth 20000 in
theorem ggX10_one_X10_lay : GoodIn wsX10_one wsX10_lay := goodIn_r _ [56, 57, 58, 79, 80, 81, 82, 83, 84, 85, 86, 87, 88, 89, 90, 91, 92, 93, 94, 95, 96, 97, 98, 99, 100, 101, 102, 103, 104, 105, 106, 107, 108, 109, 110, 111, 112, 113, 114, 115, 116, 117, 118] (by decide +kernel) (by decide +kernel)
set_option maxRecDepth 20000 in
theorem gX10_one_X10_lay : GoodIn wsX10_one (wsV RX10 195 RX10 yX10_lay wsX10_lay) := goodIn_app (goodIn_of _ (by decide +kernel)) ggX10_one_X10_lay
set_option maxRecDepth 20000 in
theorem ggX10_one_X10_any : GoodIn wsX10_one wsX10_any := goodIn_r _ [75, 1, 76, 77, 78, 6, 15, 16, 17, 18, 19, 13, 20, 21, 22, 23, 24, 25, 26, 27, 28, 29, 30, 31, 32, 33, 34, 35, 36, 37, 38, 39, 40, 41, 42, 43, 44, 45, 46, 47, 48, 49, 53, 54, 55, 56, 57, 58, 74, 50, 51, 52, 0, 2, 3, 4, 5, 7, 8, 9, 10, 11, 12, 14, 59, 60, 61, 62, 63, 64, 65, 66, 67, 68, 69, 70, 71, 72, 73, 79, 80, 81, 82, 83, 84, 85, 86, 87, 88, 89, 90, 91, 92, 93, 94, 95, 96, 97, 98, 99, 100, 101, 102, 103, 104, 105, 106, 107, 108, 109, 110, 111, 112, 113, 114, 115, 116, 117, 118] (by decide +kernel) (by decide +kernel)
set_option maxRecDepth 20000 in
theorem gX10_one_X10_any : GoodIn wsX10_one (wsV RX10 205 RX10 yX10_any wsX10_any) := goodIn_app (goodIn_of _ (by decide +kernel)) ggX10_one_X10_any
set_option maxRecDepth 20000 in
theorem ggX10_one_X10_need : GoodIn wsX10_one wsX10_need := goodIn_r _ [65, 1, 8, 9, 10, 6, 11, 12, 13, 14, 15, 16, 17, 18, 19, 20, 21, 22, 23, 24, 25, 26, 27, 28, 29, 30, 31, 32, 33, 34, 35, 36, 37, 38, 39, 40, 41, 42, 43, 44, 45, 46, 47, 48, 49, 79, 80, 81, 82, 83, 84, 85, 86, 87, 88, 89, 90, 91, 92, 93, 94, 95, 96, 97, 98, 99, 100, 101, 102, 103, 104, 105, 106, 107, 108, 109, 110, 111, 112, 113, 114, 115, 116, 117, 118] (by decide +kernel) (by decide +kernel)
set_option maxRecDepth 20000 in
theorem gX10_one_X10_need : GoodIn wsX10_one (wsV RX10 208 RX10 yX10_need wsX10_need) := goodIn_app (goodIn_of _ (by decide +kernel)) ggX10_one_X10_need
set_option maxRecDepth 20000 in
theorem ggX10_one_X10_sum : GoodIn wsX10_one wsX10_sum := goodIn_r _ [69, 1, 70, 71, 72, 6, 73, 20, 8, 9, 10, 11, 12, 13, 14, 53, 54, 55, 56, 57, 58, 15, 16, 17, 18, 19, 21, 22, 23, 24, 25, 26, 27, 28, 29, 30, 31, 32, 33, 34, 35, 36, 37, 38, 39, 40, 41, 42, 43, 44, 45, 46, 47, 48, 49, 79, 80, 81, 82, 83, 84, 85, 86, 87, 88, 89, 90, 91, 92, 93, 94, 95, 96, 97, 98, 99, 100, 101, 102, 103, 104, 105, 106, 107, 108, 109, 110, 111, 112, 113, 114, 115, 116, 117, 118] (by decide +kernel) (by decide +kernel)
set_option maxRecDepth 20000 in
theorem gX10_one_X10_sum : GoodIn wsX10_one (wsV RX10 211 RX10 yX10_sum wsX10_sum) := goodIn_app (goodIn_of _ (by decide +kernel)) ggX10_one_X10_sum
set_option maxRecDepth 20000 in
theorem ggX10_one_X10_bad : GoodIn wsX10_one wsX10_bad := goodIn_r _ [11, 12, 13, 14, 79, 80, 81, 82, 83, 84, 85, 86, 87, 88, 89, 90, 91, 92, 93, 94, 95, 96, 97, 98, 99, 100, 101, 102, 103, 104, 105, 106, 107, 108, 109, 110, 111, 112, 113, 114, 115, 116, 117, 118] (by decide +kernel) (by decide +kernel)
set_option maxRecDepth 20000 in
theorem gX10_one_X10_bad : GoodIn wsX10_one (wsV RX10 176 RX10 yX10_bad wsX10_bad) := goodIn_app (goodIn_of _ (by decide +kernel)) ggX10_one_X10_bad
set_option maxRecDepth 20000 in
theorem ggX10_one_X10_next0 : GoodIn wsX10_one wsX10_next0 := goodIn_r _ [18, 19, 13, 1, 20, 21, 22, 23, 6, 24, 25, 26, 27, 28, 29, 30, 31, 32, 33, 34, 35, 36, 37, 38, 39, 40, 41, 42, 43, 44, 45, 46, 47, 48, 49, 79, 80, 81, 82, 83, 84, 85, 86, 87, 88, 89, 90, 91, 92, 93, 94, 95, 96, 97, 98, 99, 100, 101, 102, 103, 104, 105, 106, 107, 108, 109, 110, 111, 112, 113, 114, 115, 116, 117, 118] (by decide +kernel) (by decide +kernel)
set_option maxRecDepth 20000 in
theorem gX10_one_X10_next0 : GoodIn wsX10_one (wsV RX10 179 RX10 yX10_next0 wsX10_next0) := goodIn_app (goodIn_of _ (by decide +kernel)) ggX10_one_X10_next0
theorem dX10_one_0 : decode cX10_one 0 = .ok (.aload_n 0, 1) := by decide +kernel
theorem dX10_one_1 : decode cX10_one 1 = .ok (.getfield 154, 3) := by decide +kernel
theorem dX10_one_4 : decode cX10_one 4 = .ok (.bipush 8, 2) := by decide +kernel
theorem dX10_one_6 : decode cX10_one 6 = .ok (.if_icmp .ne 38, 3) := by decide +kernel
theorem dX10_one_9 : decode cX10_one 9 = .ok (.aload_n 0, 1) := by decide +kernel
theorem dX10_one_10 : decode cX10_one 10 = .ok (.invokevirtual 202, 3) := by decide +kernel
theorem dX10_one_13 : decode cX10_one 13 = .ok (.ifCond .eq 10, 3) := by decide +kernel
theorem dX10_one_16 : decode cX10_one 16 = .ok (.aload_n 0, 1) := by decide +kernel
theorem dX10_one_17 : decode cX10_one 17 = .ok (.invokevirtual 199, 3) := by decide +kernel
theorem dX10_one_20 : decode cX10_one 20 = .ok (.ifCond .ne 5, 3) := by decide +kernel
theorem dX10_one_23 : decode cX10_one 23 = .ok (.iconst 0, 1) := by decide +kernel
theorem dX10_one_24 : decode cX10_one 24 = .ok (.ireturn, 1) := by decide +kernel
theorem dX10_one_25 : decode cX10_one 25 = .ok (.aload_n 0, 1) := by decide +kernel
theorem dX10_one_26 : decode cX10_one 26 = .ok (.dup, 1) := by decide +kernel
theorem dX10_one_27 : decode cX10_one 27 = .ok (.getfield 188, 3) := by decide +kernel
theorem dX10_one_30 : decode cX10_one 30 = .ok (.iconst 1, 1) := by decide +kernel
theorem dX10_one_31 : decode cX10_one 31 = .ok (.isub, 1) := by decide +kernel
theorem dX10_one_32 : decode cX10_one 32 = .ok (.putfield 188, 3) := by decide +kernel
theorem dX10_one_35 : decode cX10_one 35 = .ok (.aload_n 0, 1) := by decide +kernel
theorem dX10_one_36 : decode cX10_one 36 = .ok (.sipush 2005, 3) := by decide +kernel
theorem dX10_one_39 : decode cX10_one 39 = .ok (.invokevirtual 195, 3) := by decide +kernel
theorem dX10_one_42 : decode cX10_one 42 = .ok (.iconst 1, 1) := by decide +kernel
theorem dX10_one_43 : decode cX10_one 43 = .ok (.ireturn, 1) := by decide +kernel
theorem dX10_one_44 : decode cX10_one 44 = .ok (.aload_n 0, 1) := by decide +kernel
theorem dX10_one_45 : decode cX10_one 45 = .ok (.getfield 154, 3) := by decide +kernel
theorem dX10_one_48 : decode cX10_one 48 = .ok (.bipush 40, 2) := by decide +kernel
theorem dX10_one_50 : decode cX10_one 50 = .ok (.if_icmp .ne 40, 3) := by decide +kernel
theorem dX10_one_53 : decode cX10_one 53 = .ok (.aload_n 0, 1) := by decide +kernel
theorem dX10_one_54 : decode cX10_one 54 = .ok (.invokevirtual 202, 3) := by decide +kernel
theorem dX10_one_57 : decode cX10_one 57 = .ok (.ifCond .eq 19, 3) := by decide +kernel
theorem dX10_one_60 : decode cX10_one 60 = .ok (.aload_n 0, 1) := by decide +kernel
theorem dX10_one_61 : decode cX10_one 61 = .ok (.invokevirtual 205, 3) := by decide +kernel
theorem dX10_one_64 : decode cX10_one 64 = .ok (.ifCond .eq 12, 3) := by decide +kernel
theorem dX10_one_67 : decode cX10_one 67 = .ok (.aload_n 0, 1) := by decide +kernel
theorem dX10_one_68 : decode cX10_one 68 = .ok (.bipush 41, 2) := by decide +kernel
theorem dX10_one_70 : decode cX10_one 70 = .ok (.invokevirtual 208, 3) := by decide +kernel
theorem dX10_one_73 : decode cX10_one 73 = .ok (.ifCond .ne 5, 3) := by decide +kernel
theorem dX10_one_76 : decode cX10_one 76 = .ok (.iconst 0, 1) := by decide +kernel
theorem dX10_one_77 : decode cX10_one 77 = .ok (.ireturn, 1) := by decide +kernel
theorem dX10_one_78 : decode cX10_one 78 = .ok (.aload_n 0, 1) := by decide +kernel
theorem dX10_one_79 : decode cX10_one 79 = .ok (.dup, 1) := by decide +kernel
theorem dX10_one_80 : decode cX10_one 80 = .ok (.getfield 188, 3) := by decide +kernel
theorem dX10_one_83 : decode cX10_one 83 = .ok (.iconst 1, 1) := by decide +kernel
theorem dX10_one_84 : decode cX10_one 84 = .ok (.isub, 1) := by decide +kernel
theorem dX10_one_85 : decode cX10_one 85 = .ok (.putfield 188, 3) := by decide +kernel
theorem dX10_one_88 : decode cX10_one 88 = .ok (.iconst 1, 1) := by decide +kernel
theorem dX10_one_89 : decode cX10_one 89 = .ok (.ireturn, 1) := by decide +kernel
theorem dX10_one_90 : decode cX10_one 90 = .ok (.aload_n 0, 1) := by decide +kernel
theorem dX10_one_91 : decode cX10_one 91 = .ok (.invokevirtual 211, 3) := by decide +kernel
theorem dX10_one_94 : decode cX10_one 94 = .ok (.ifCond .ne 5, 3) := by decide +kernel
theorem dX10_one_97 : decode cX10_one 97 = .ok (.iconst 0, 1) := by decide +kernel
theorem dX10_one_98 : decode cX10_one 98 = .ok (.ireturn, 1) := by decide +kernel
theorem dX10_one_99 : decode cX10_one 99 = .ok (.aload_n 0, 1) := by decide +kernel
theorem dX10_one_100 : decode cX10_one 100 = .ok (.getfield 154, 3) := by decide +kernel
theorem dX10_one_103 : decode cX10_one 103 = .ok (.bipush 60, 2) := by decide +kernel
theorem dX10_one_105 : decode cX10_one 105 = .ok (.if_icmp .ne 9, 3) := by decide +kernel
theorem dX10_one_108 : decode cX10_one 108 = .ok (.sipush 2002, 3) := by decide +kernel
theorem dX10_one_111 : decode cX10_one 111 = .ok (.goto 34, 3) := by decide +kernel
theorem dX10_one_114 : decode cX10_one 114 = .ok (.aload_n 0, 1) := by decide +kernel
theorem dX10_one_115 : decode cX10_one 115 = .ok (.getfield 154, 3) := by decide +kernel
theorem dX10_one_118 : decode cX10_one 118 = .ok (.bipush 61, 2) := by decide +kernel
theorem dX10_one_120 : decode cX10_one 120 = .ok (.if_icmp .ne 9, 3) := by decide +kernel
theorem dX10_one_123 : decode cX10_one 123 = .ok (.sipush 2003, 3) := by decide +kernel
theorem dX10_one_126 : decode cX10_one 126 = .ok (.goto 19, 3) := by decide +kernel
theorem dX10_one_129 : decode cX10_one 129 = .ok (.aload_n 0, 1) := by decide +kernel
theorem dX10_one_130 : decode cX10_one 130 = .ok (.getfield 154, 3) := by decide +kernel
theorem dX10_one_133 : decode cX10_one 133 = .ok (.bipush 62, 2) := by decide +kernel
theorem dX10_one_135 : decode cX10_one 135 = .ok (.if_icmp .ne 9, 3) := by decide +kernel
theorem dX10_one_138 : decode cX10_one 138 = .ok (.sipush 2004, 3) := by decide +kernel
theorem dX10_one_141 : decode cX10_one 141 = .ok (.goto 4, 3) := by decide +kernel
theorem dX10_one_144 : decode cX10_one 144 = .ok (.iconst (-1), 1) := by decide +kernel
theorem dX10_one_145 : decode cX10_one 145 = .ok (.istore_n 1, 1) := by decide +kernel
theorem dX10_one_146 : decode cX10_one 146 = .ok (.iload_n 1, 1) := by decide +kernel
theorem dX10_one_147 : decode cX10_one 147 = .ok (.iconst (-1), 1) := by decide +kernel
theorem dX10_one_148 : decode cX10_one 148 = .ok (.if_icmp .ne 9, 3) := by decide +kernel
theorem dX10_one_151 : decode cX10_one 151 = .ok (.aload_n 0, 1) := by decide +kernel
theorem dX10_one_152 : decode cX10_one 152 = .ok (.iconst 1, 1) := by decide +kernel
theorem dX10_one_153 : decode cX10_one 153 = .ok (.invokevirtual 176, 3) := by decide +kernel
theorem dX10_one_156 : decode cX10_one 156 = .ok (.ireturn, 1) := by decide +kernel
theorem dX10_one_157 : decode cX10_one 157 = .ok (.aload_n 0, 1) := by decide +kernel
theorem dX10_one_158 : decode cX10_one 158 = .ok (.invokevirtual 179, 3) := by decide +kernel
theorem dX10_one_161 : decode cX10_one 161 = .ok (.aload_n 0, 1) := by decide +kernel
theorem dX10_one_162 : decode cX10_one 162 = .ok (.invokevirtual 211, 3) := by decide +kernel
theorem dX10_one_165 : decode cX10_one 165 = .ok (.ifCond .ne 5, 3) := by decide +kernel
theorem dX10_one_168 : decode cX10_one 168 = .ok (.iconst 0, 1) := by decide +kernel
theorem dX10_one_169 : decode cX10_one 169 = .ok (.ireturn, 1) := by decide +kernel
theorem dX10_one_170 : decode cX10_one 170 = .ok (.aload_n 0, 1) := by decide +kernel
theorem dX10_one_171 : decode cX10_one 171 = .ok (.iload_n 1, 1) := by decide +kernel
theorem dX10_one_172 : decode cX10_one 172 = .ok (.invokevirtual 195, 3) := by decide +kernel
theorem dX10_one_175 : decode cX10_one 175 = .ok (.iconst 1, 1) := by decide +kernel
theorem dX10_one_176 : decode cX10_one 176 = .ok (.ireturn, 1) := by decide +kernel
set_option maxRecDepth 20000 in
theorem ggX10_sum_X10_unit : GoodIn wsX10_sum wsX10_unit := goodIn_r _ [6, 1, 7, 8, 9, 10, 5, 11, 12, 13, 14, 15, 16, 17, 18, 19, 20, 21, 22, 23, 24, 25, 26, 27, 28, 29, 30, 31, 32, 33, 34, 35, 36, 37, 38, 39, 40, 41, 42, 43, 44, 45, 46, 47, 48, 49, 50, 51, 52, 53, 54, 55, 56, 57, 58, 59, 60, 61, 62, 63, 64, 65, 66, 67, 68, 69, 70, 71, 72, 73, 74, 75, 76, 77, 78, 79, 80, 81, 82, 83, 84, 85, 86, 87, 88, 89, 90, 91, 92, 93, 94] (by decide +kernel) (by decide +kernel)
set_option maxRecDepth 20000 in
theorem gX10_sum_X10_unit : GoodIn wsX10_sum (wsV RX10 214 RX10 yX10_unit wsX10_unit) := goodIn_app (goodIn_of _ (by decide +kernel)) ggX10_sum_X10_unit
set_option maxRecDepth 20000 in
theorem ggX10_sum_X10_next0 : GoodIn wsX10_sum wsX10_next0 := goodIn_r _ [24, 25, 13, 1, 7, 26, 27, 28, 5, 29, 30, 31, 32, 33, 34, 35, 36, 37, 38, 39, 40, 41, 42, 43, 44, 45, 46, 47, 48, 49, 50, 51, 52, 53, 54, 55, 56, 57, 58, 59, 60, 61, 62, 63, 64, 65, 66, 67, 68, 69, 70, 71, 72, 73, 74, 75, 76, 77, 78, 79, 80, 81, 82, 83, 84, 85, 86, 87, 88, 89, 90, 91, 92, 93, 94] (by decide +kernel) (by decide +kernel)
set_option maxRecDepth 20000 in
theorem gX10_sum_X10_next0 : GoodIn wsX10_sum (wsV RX10 179 RX10 yX10_next0 wsX10_next0) := goodIn_app (goodIn_of _ (by decide +kernel)) ggX10_sum_X10_next0
set_option maxRecDepth 20000 in
theorem ggX10_sum_X10_lay : GoodIn wsX10_sum wsX10_lay := goodIn_r _ [18, 19, 20, 55, 56, 57, 58, 59, 60, 61, 62, 63, 64, 65, 66, 67, 68, 69, 70, 71, 72, 73, 74, 75, 76, 77, 78, 79, 80, 81, 82, 83, 84, 85, 86, 87, 88, 89, 90, 91, 92, 93, 94] (by decide +kernel) (by decide +kernel)
set_option maxRecDepth 20000 in
theorem gX10_sum_X10_lay : GoodIn wsX10_sum (wsV RX10 195 RX10 yX10_lay wsX10_lay) := goodIn_app (goodIn_of _ (by decide +kernel)) ggX10_sum_X10_lay
theorem dX10_sum_0 : decode cX10_sum 0 = .ok (.aload_n 0, 1) := by decide +kernel
theorem dX10_sum_1 : decode cX10_sum 1 = .ok (.invokevirtual 214, 3) := by decide +kernel
theorem dX10_sum_4 : decode cX10_sum 4 = .ok (.ifCond .ne 5, 3) := by decide +kernel
theorem dX10_sum_7 : decode cX10_sum 7 = .ok (.iconst 0, 1) := by decide +kernel
theorem dX10_sum_8 : decode cX10_sum 8 = .ok (.ireturn, 1) := by decide +kernel
theorem dX10_sum_9 : decode cX10_sum 9 = .ok (.aload_n 0, 1) := by decide +kernel
theorem dX10_sum_10 : decode cX10_sum 10 = .ok (.getfield 154, 3) := by decide +kernel
theorem dX10_sum_13 : decode cX10_sum 13 = .ok (.bipush 43, 2) := by decide +kernel
theorem dX10_sum_15 : decode cX10_sum 15 = .ok (.if_icmp .eq 12, 3) := by decide +kernel
theorem dX10_sum_18 : decode cX10_sum 18 = .ok (.aload_n 0, 1) := by decide +kernel
theorem dX10_sum_19 : decode cX10_sum 19 = .ok (.getfield 154, 3) := by decide +kernel
theorem dX10_sum_22 : decode cX10_sum 22 = .ok (.bipush 45, 2) := by decide +kernel
theorem dX10_sum_24 : decode cX10_sum 24 = .ok (.if_icmp .ne 43, 3) := by decide +kernel
theorem dX10_sum_27 : decode cX10_sum 27 = .ok (.aload_n 0, 1) := by decide +kernel
theorem dX10_sum_28 : decode cX10_sum 28 = .ok (.getfield 154, 3) := by decide +kernel
theorem dX10_sum_31 : decode cX10_sum 31 = .ok (.bipush 43, 2) := by decide +kernel
theorem dX10_sum_33 : decode cX10_sum 33 = .ok (.if_icmp .ne 9, 3) := by decide +kernel
theorem dX10_sum_36 : decode cX10_sum 36 = .ok (.sipush 2000, 3) := by decide +kernel
theorem dX10_sum_39 : decode cX10_sum 39 = .ok (.goto 6, 3) := by decide +kernel
theorem dX10_sum_42 : decode cX10_sum 42 = .ok (.sipush 2001, 3) := by decide +kernel
theorem dX10_sum_45 : decode cX10_sum 45 = .ok (.istore_n 1, 1) := by decide +kernel
theorem dX10_sum_46 : decode cX10_sum 46 = .ok (.aload_n 0, 1) := by decide +kernel
theorem dX10_sum_47 : decode cX10_sum 47 = .ok (.invokevirtual 179, 3) := by decide +kernel
theorem dX10_sum_50 : decode cX10_sum 50 = .ok (.aload_n 0, 1) := by decide +kernel
theorem dX10_sum_51 : decode cX10_sum 51 = .ok (.invokevirtual 214, 3) := by decide +kernel
theorem dX10_sum_54 : decode cX10_sum 54 = .ok (.ifCond .ne 5, 3) := by decide +kernel
theorem dX10_sum_57 : decode cX10_sum 57 = .ok (.iconst 0, 1) := by decide +kernel
theorem dX10_sum_58 : decode cX10_sum 58 = .ok (.ireturn, 1) := by decide +kernel
theorem dX10_sum_59 : decode cX10_sum 59 = .ok (.aload_n 0, 1) := by decide +kernel
theorem dX10_sum_60 : decode cX10_sum 60 = .ok (.iload_n 1, 1) := by decide +kernel
theorem dX10_sum_61 : decode cX10_sum 61 = .ok (.invokevirtual 195, 3) := by decide +kernel
theorem dX10_sum_64 : decode cX10_sum 64 = .ok (.goto (-55), 3) := by decide +kernel
theorem dX10_sum_67 : decode cX10_sum 67 = .ok (.iconst 1, 1) := by decide +kernel
theorem dX10_sum_68 : decode cX10_sum 68 = .ok (.ireturn, 1) := by decide +kernel
set_option maxRecDepth 20000 in
theorem ggX10_unit_X10_bad : GoodIn wsX10_unit wsX10_bad := goodIn_r _ [7, 8, 9, 10, 51, 52, 53, 54, 55, 56, 57, 58, 59, 60, 61, 62, 63, 64, 65, 66, 67, 68, 69, 70, 71, 72, 73, 74, 75, 76, 77, 78, 79, 80, 81, 82, 83, 84, 85, 86, 87, 88, 89, 90] (by decide +kernel) (by decide +kernel)
set_option maxRecDepth 20000 in
theorem gX10_unit_X10_bad : GoodIn wsX10_unit (wsV RX10 176 RX10 yX10_bad wsX10_bad) := goodIn_app (goodIn_of _ (by decide +kernel)) ggX10_unit_X10_bad
set_option maxRecDepth 20000 in
theorem ggX10_unit_X10_lay : GoodIn wsX10_unit wsX10_lay := goodIn_r _ [14, 15, 16, 51, 52, 53, 54, 55, 56, 57, 58, 59, 60, 61, 62, 63, 64, 65, 66, 67, 68, 69, 70, 71, 72, 73, 74, 75, 76, 77, 78, 79, 80, 81, 82, 83, 84, 85, 86, 87, 88, 89, 90] (by decide +kernel) (by decide +kernel)
set_option maxRecDepth 20000 in
theorem gX10_unit_X10_lay : GoodIn wsX10_unit (wsV RX10 195 RX10 yX10_lay wsX10_lay) := goodIn_app (goodIn_of _ (by decide +kernel)) ggX10_unit_X10_lay
set_option maxRecDepth 20000 in
theorem ggX10_unit_X10_next0 : GoodIn wsX10_unit wsX10_next0 := goodIn_r _ [20, 21, 9, 1, 2, 22, 23, 24, 6, 25, 26, 27, 28, 29, 30, 31, 32, 33, 34, 35, 36, 37, 38, 39, 40, 41, 42, 43, 44, 45, 46, 47, 48, 49, 50, 51, 52, 53, 54, 55, 56, 57, 58, 59, 60, 61, 62, 63, 64, 65, 66, 67, 68, 69, 70, 71, 72, 73, 74, 75, 76, 77, 78, 79, 80, 81, 82, 83, 84, 85, 86, 87, 88, 89, 90] (by decide +kernel) (by decide +kernel)
set_option maxRecDepth 20000 in
theorem gX10_unit_X10_next0 : GoodIn wsX10_unit (wsV RX10 179 RX10 yX10_next0 wsX10_next0) := goodIn_app (goodIn_of _ (by decide +kernel)) ggX10_unit_X10_next0
theorem dX10_unit_0 : decode cX10_unit 0 = .ok (.aload_n 0, 1) := by decide +kernel
theorem dX10_unit_1 : decode cX10_unit 1 = .ok (.getfield 154, 3) := by decide +kernel
theorem dX10_unit_4 : decode cX10_unit 4 = .ok (.iconst 2, 1) := by decide +kernel
theorem dX10_unit_5 : decode cX10_unit 5 = .ok (.if_icmp .eq 19, 3) := by decide +kernel
theorem dX10_unit_8 : decode cX10_unit 8 = .ok (.aload_n 0, 1) := by decide +kernel
theorem dX10_unit_9 : decode cX10_unit 9 = .ok (.getfield 154, 3) := by decide +kernel
theorem dX10_unit_12 : decode cX10_unit 12 = .ok (.sipush 1001, 3) := by decide +kernel
theorem dX10_unit_15 : decode cX10_unit 15 = .ok (.if_icmp .ge 9, 3) := by decide +kernel
theorem dX10_unit_18 : decode cX10_unit 18 = .ok (.aload_n 0, 1) := by decide +kernel
theorem dX10_unit_19 : decode cX10_unit 19 = .ok (.iconst 1, 1) := by decide +kernel
theorem dX10_unit_20 : decode cX10_unit 20 = .ok (.invokevirtual 176, 3) := by decide +kernel
theorem dX10_unit_23 : decode cX10_unit 23 = .ok (.ireturn, 1) := by decide +kernel
theorem dX10_unit_24 : decode cX10_unit 24 = .ok (.aload_n 0, 1) := by decide +kernel
theorem dX10_unit_25 : decode cX10_unit 25 = .ok (.aload_n 0, 1) := by decide +kernel
theorem dX10_unit_26 : decode cX10_unit 26 = .ok (.getfield 154, 3) := by decide +kernel
theorem dX10_unit_29 : decode cX10_unit 29 = .ok (.iconst 2, 1) := by decide +kernel
theorem dX10_unit_30 : decode cX10_unit 30 = .ok (.if_icmp .ne 10, 3) := by decide +kernel
theorem dX10_unit_33 : decode cX10_unit 33 = .ok (.aload_n 0, 1) := by decide +kernel
theorem dX10_unit_34 : decode cX10_unit 34 = .ok (.getfield 167, 3) := by decide +kernel
theorem dX10_unit_37 : decode cX10_unit 37 = .ok (.goto 7, 3) := by decide +kernel
theorem dX10_unit_40 : decode cX10_unit 40 = .ok (.aload_n 0, 1) := by decide +kernel
theorem dX10_unit_41 : decode cX10_unit 41 = .ok (.getfield 154, 3) := by decide +kernel
theorem dX10_unit_44 : decode cX10_unit 44 = .ok (.invokevirtual 195, 3) := by decide +kernel
theorem dX10_unit_47 : decode cX10_unit 47 = .ok (.aload_n 0, 1) := by decide +kernel
theorem dX10_unit_48 : decode cX10_unit 48 = .ok (.invokevirtual 179, 3) := by decide +kernel
theorem dX10_unit_51 : decode cX10_unit 51 = .ok (.iconst 1, 1) := by decide +kernel
theorem dX10_unit_52 : decode cX10_unit 52 = .ok (.ireturn, 1) := by decide +kernel
set_option maxRecDepth 20000 in
theorem ggX10_aRule_X10_bad : GoodIn wsX10_aRule wsX10_bad := goodIn_r _ [13, 14, 15, 16, 89, 90, 91, 92, 93, 94, 95, 96, 97, 98, 99, 100, 101, 102, 103, 104, 105, 106, 107, 108, 109, 110, 111, 112, 113, 114, 115, 116, 117, 118, 119, 120, 121, 122, 123, 124, 125, 126, 127, 128] (by decide +kernel) (by decide +kernel)
set_option maxRecDepth 20000 in
theorem gX10_aRule_X10_bad : GoodIn wsX10_aRule (wsV RX10 176 RX10 yX10_bad wsX10_bad) := goodIn_app (goodIn_of _ (by decide +kernel)) ggX10_aRule_X10_bad
set_option maxRecDepth 20000 in
theorem ggX10_aRule_X10_next0 : GoodIn wsX10_aRule wsX10_next0 := goodIn_r _ [20, 21, 15, 1, 22, 23, 24, 25, 12, 26, 27, 28, 29, 30, 31, 32, 33, 34, 35, 36, 37, 38, 39, 40, 41, 42, 43, 44, 45, 46, 47, 48, 49, 50, 51, 89, 90, 91, 92, 93, 94, 95, 96, 97, 98, 99, 100, 101, 102, 103, 104, 105, 106, 107, 108, 109, 110, 111, 112, 113, 114, 115, 116, 117, 118, 119, 120, 121, 122, 123, 124, 125, 126, 127, 128] (by decide +kernel) (by decide +kernel)
set_option maxRecDepth 20000 in
theorem gX10_aRule_X10_next0 : GoodIn wsX10_aRule (wsV RX10 179 RX10 yX10_next0 wsX10_next0) := goodIn_app (goodIn_of _ (by decide +kernel)) ggX10_aRule_X10_next0
set_option maxRecDepth 20000 in
theorem ggX10_aRule_X10_aNumber : GoodIn wsX10_aRule wsX10_aNumber := goodIn_r _ [55, 1, 22, 4, 9, 10, 11, 12, 13, 14, 15, 16, 17, 18, 19, 20, 21, 23, 24, 25, 26, 27, 28, 29, 30, 31, 32, 33, 34, 35, 36, 37, 38, 39, 40, 41, 42, 43, 44, 45, 46, 47, 48, 49, 50, 51, 89, 90, 91, 92, 93, 94, 95, 96, 97, 98, 99, 100, 101, 102, 103, 104, 105, 106, 107, 108, 109, 110, 111, 112, 113, 114, 115, 116, 117, 118, 119, 120, 121, 122, 123, 124, 125, 126, 127, 128] (by decide +kernel) (by decide +kernel)
set_option maxRecDepth 20000 in
theorem gX10_aRule_X10_aNumber : GoodIn wsX10_aRule (wsV RX10 220 RX10 yX10_aNumber wsX10_aNumber) := goodIn_app (goodIn_of _ (by decide +kernel)) ggX10_aRule_X10_aNumber
set_option maxRecDepth 20000 in
theorem ggX10_aRule_X10_need : GoodIn wsX10_aRule wsX10_need := goodIn_r _ [59, 1, 9, 10, 11, 12, 13, 14, 15, 16, 17, 18, 19, 20, 21, 22, 23, 24, 25, 26, 27, 28, 29, 30, 31, 32, 33, 34, 35, 36, 37, 38, 39, 40, 41, 42, 43, 44, 45, 46, 47, 48, 49, 50, 51, 89, 90, 91, 92, 93, 94, 95, 96, 97, 98, 99, 100, 101, 102, 103, 104, 105, 106, 107, 108, 109, 110, 111, 112, 113, 114, 115, 116, 117, 118, 119, 120, 121, 122, 123, 124, 125, 126, 127, 128] (by decide +kernel) (by decide +kernel)
set_option maxRecDepth 20000 in
theorem gX10_aRule_X10_need : GoodIn wsX10_aRule (wsV RX10 208 RX10 yX10_need wsX10_need) := goodIn_app (goodIn_of _ (by decide +kernel)) ggX10_aRule_X10_need
set_option maxRecDepth 20000 in
theorem ggX10_aRule_X10_any : GoodIn wsX10_aRule wsX10_any := goodIn_r _ [63, 1, 64, 65, 66, 12, 17, 18, 19, 20, 21, 15, 22, 23, 24, 25, 26, 27, 28, 29, 30, 31, 32, 33, 34, 35, 36, 37, 38, 39, 40, 41, 42, 43, 44, 45, 46, 47, 48, 49, 50, 51, 67, 68, 69, 70, 71, 7, 72, 73, 74, 75, 76, 8, 77, 78, 79, 80, 9, 10, 11, 13, 14, 16, 60, 61, 62, 56, 57, 58, 59, 81, 82, 83, 84, 85, 86, 87, 88, 89, 90, 91, 92, 93, 94, 95, 96, 97, 98, 99, 100, 101, 102, 103, 104, 105, 106, 107, 108, 109, 110, 111, 112, 113, 114, 115, 116, 117, 118, 119, 120, 121, 122, 123, 124, 125, 126, 127, 128] (by decide +kernel) (by decide +kernel)
set_option maxRecDepth 20000 in
theorem gX10_aRule_X10_any : GoodIn wsX10_aRule (wsV RX10 205 RX10 yX10_any wsX10_any) := goodIn_app (goodIn_of _ (by decide +kernel)) ggX10_aRule_X10_any
theorem dX10_aRule_0 : decode cX10_aRule 0 = .ok (.aload_n 0, 1) := by decide +kernel
theorem dX10_aRule_1 : decode cX10_aRule 1 = .ok (.getfield 154, 3) := by decide +kernel
theorem dX10_aRule_4 : decode cX10_aRule 4 = .ok (.iconst 3, 1) := by decide +kernel
theorem dX10_aRule_5 : decode cX10_aRule 5 = .ok (.if_icmp .eq 9, 3) := by decide +kernel
theorem dX10_aRule_8 : decode cX10_aRule 8 = .ok (.aload_n 0, 1) := by decide +kernel
theorem dX10_aRule_9 : decode cX10_aRule 9 = .ok (.iconst 1, 1) := by decide +kernel
theorem dX10_aRule_10 : decode cX10_aRule 10 = .ok (.invokevirtual 176, 3) := by decide +kernel
theorem dX10_aRule_13 : decode cX10_aRule 13 = .ok (.ireturn, 1) := by decide +kernel
theorem dX10_aRule_14 : decode cX10_aRule 14 = .ok (.aload_n 0, 1) := by decide +kernel
theorem dX10_aRule_15 : decode cX10_aRule 15 = .ok (.getfield 217, 3) := by decide +kernel
theorem dX10_aRule_18 : decode cX10_aRule 18 = .ok (.bipush 12, 2) := by decide +kernel
theorem dX10_aRule_20 : decode cX10_aRule 20 = .ok (.if_icmp .ne 9, 3) := by decide +kernel
theorem dX10_aRule_23 : decode cX10_aRule 23 = .ok (.aload_n 0, 1) := by decide +kernel
theorem dX10_aRule_24 : decode cX10_aRule 24 = .ok (.iconst 3, 1) := by decide +kernel
theorem dX10_aRule_25 : decode cX10_aRule 25 = .ok (.invokevirtual 176, 3) := by decide +kernel
theorem dX10_aRule_28 : decode cX10_aRule 28 = .ok (.ireturn, 1) := by decide +kernel
theorem dX10_aRule_29 : decode cX10_aRule 29 = .ok (.aload_n 0, 1) := by decide +kernel
theorem dX10_aRule_30 : decode cX10_aRule 30 = .ok (.invokevirtual 179, 3) := by decide +kernel
theorem dX10_aRule_33 : decode cX10_aRule 33 = .ok (.aload_n 0, 1) := by decide +kernel
theorem dX10_aRule_34 : decode cX10_aRule 34 = .ok (.bipush 39, 2) := by decide +kernel
theorem dX10_aRule_36 : decode cX10_aRule 36 = .ok (.invokevirtual 220, 3) := by decide +kernel
theorem dX10_aRule_39 : decode cX10_aRule 39 = .ok (.ifCond .ne 5, 3) := by decide +kernel
theorem dX10_aRule_42 : decode cX10_aRule 42 = .ok (.iconst 0, 1) := by decide +kernel
theorem dX10_aRule_43 : decode cX10_aRule 43 = .ok (.ireturn, 1) := by decide +kernel
theorem dX10_aRule_44 : decode cX10_aRule 44 = .ok (.aload_n 0, 1) := by decide +kernel
theorem dX10_aRule_45 : decode cX10_aRule 45 = .ok (.getfield 34, 3) := by decide +kernel
theorem dX10_aRule_48 : decode cX10_aRule 48 = .ok (.aload_n 0, 1) := by decide +kernel
theorem dX10_aRule_49 : decode cX10_aRule 49 = .ok (.getfield 217, 3) := by decide +kernel
theorem dX10_aRule_52 : decode cX10_aRule 52 = .ok (.aload_n 0, 1) := by decide +kernel
theorem dX10_aRule_53 : decode cX10_aRule 53 = .ok (.getfield 182, 3) := by decide +kernel
theorem dX10_aRule_56 : decode cX10_aRule 56 = .ok (.iastore, 1) := by decide +kernel
theorem dX10_aRule_57 : decode cX10_aRule 57 = .ok (.aload_n 0, 1) := by decide +kernel
theorem dX10_aRule_58 : decode cX10_aRule 58 = .ok (.getfield 37, 3) := by decide +kernel
theorem dX10_aRule_61 : decode cX10_aRule 61 = .ok (.aload_n 0, 1) := by decide +kernel
theorem dX10_aRule_62 : decode cX10_aRule 62 = .ok (.getfield 217, 3) := by decide +kernel
theorem dX10_aRule_65 : decode cX10_aRule 65 = .ok (.iconst (-1), 1) := by decide +kernel
theorem dX10_aRule_66 : decode cX10_aRule 66 = .ok (.iastore, 1) := by decide +kernel
theorem dX10_aRule_67 : decode cX10_aRule 67 = .ok (.aload_n 0, 1) := by decide +kernel
theorem dX10_aRule_68 : decode cX10_aRule 68 = .ok (.getfield 154, 3) := by decide +kernel
theorem dX10_aRule_71 : decode cX10_aRule 71 = .ok (.iconst 4, 1) := by decide +kernel
theorem dX10_aRule_72 : decode cX10_aRule 72 = .ok (.if_icmp .ne 30, 3) := by decide +kernel
theorem dX10_aRule_75 : decode cX10_aRule 75 = .ok (.aload_n 0, 1) := by decide +kernel
theorem dX10_aRule_76 : decode cX10_aRule 76 = .ok (.invokevirtual 179, 3) := by decide +kernel
theorem dX10_aRule_79 : decode cX10_aRule 79 = .ok (.aload_n 0, 1) := by decide +kernel
theorem dX10_aRule_80 : decode cX10_aRule 80 = .ok (.iconst 4, 1) := by decide +kernel
theorem dX10_aRule_81 : decode cX10_aRule 81 = .ok (.invokevirtual 220, 3) := by decide +kernel
theorem dX10_aRule_84 : decode cX10_aRule 84 = .ok (.ifCond .ne 5, 3) := by decide +kernel
theorem dX10_aRule_87 : decode cX10_aRule 87 = .ok (.iconst 0, 1) := by decide +kernel
theorem dX10_aRule_88 : decode cX10_aRule 88 = .ok (.ireturn, 1) := by decide +kernel
theorem dX10_aRule_89 : decode cX10_aRule 89 = .ok (.aload_n 0, 1) := by decide +kernel
theorem dX10_aRule_90 : decode cX10_aRule 90 = .ok (.getfield 37, 3) := by decide +kernel
theorem dX10_aRule_93 : decode cX10_aRule 93 = .ok (.aload_n 0, 1) := by decide +kernel
theorem dX10_aRule_94 : decode cX10_aRule 94 = .ok (.getfield 217, 3) := by decide +kernel
theorem dX10_aRule_97 : decode cX10_aRule 97 = .ok (.aload_n 0, 1) := by decide +kernel
theorem dX10_aRule_98 : decode cX10_aRule 98 = .ok (.getfield 182, 3) := by decide +kernel
theorem dX10_aRule_101 : decode cX10_aRule 101 = .ok (.iastore, 1) := by decide +kernel
theorem dX10_aRule_102 : decode cX10_aRule 102 = .ok (.aload_n 0, 1) := by decide +kernel
theorem dX10_aRule_103 : decode cX10_aRule 103 = .ok (.getfield 40, 3) := by decide +kernel
theorem dX10_aRule_106 : decode cX10_aRule 106 = .ok (.aload_n 0, 1) := by decide +kernel
theorem dX10_aRule_107 : decode cX10_aRule 107 = .ok (.getfield 217, 3) := by decide +kernel
theorem dX10_aRule_110 : decode cX10_aRule 110 = .ok (.aload_n 0, 1) := by decide +kernel
theorem dX10_aRule_111 : decode cX10_aRule 111 = .ok (.getfield 185, 3) := by decide +kernel
theorem dX10_aRule_114 : decode cX10_aRule 114 = .ok (.iastore, 1) := by decide +kernel
theorem dX10_aRule_115 : decode cX10_aRule 115 = .ok (.aload_n 0, 1) := by decide +kernel
theorem dX10_aRule_116 : decode cX10_aRule 116 = .ok (.dup, 1) := by decide +kernel
theorem dX10_aRule_117 : decode cX10_aRule 117 = .ok (.getfield 217, 3) := by decide +kernel
theorem dX10_aRule_120 : decode cX10_aRule 120 = .ok (.iconst 1, 1) := by decide +kernel
theorem dX10_aRule_121 : decode cX10_aRule 121 = .ok (.iadd, 1) := by decide +kernel
theorem dX10_aRule_122 : decode cX10_aRule 122 = .ok (.putfield 217, 3) := by decide +kernel
theorem dX10_aRule_125 : decode cX10_aRule 125 = .ok (.aload_n 0, 1) := by decide +kernel
theorem dX10_aRule_126 : decode cX10_aRule 126 = .ok (.iconst 0, 1) := by decide +kernel
theorem dX10_aRule_127 : decode cX10_aRule 127 = .ok (.putfield 188, 3) := by decide +kernel
theorem dX10_aRule_130 : decode cX10_aRule 130 = .ok (.aload_n 0, 1) := by decide +kernel
theorem dX10_aRule_131 : decode cX10_aRule 131 = .ok (.iconst 5, 1) := by decide +kernel
theorem dX10_aRule_132 : decode cX10_aRule 132 = .ok (.invokevirtual 208, 3) := by decide +kernel
theorem dX10_aRule_135 : decode cX10_aRule 135 = .ok (.ifCond .eq 23, 3) := by decide +kernel
theorem dX10_aRule_138 : decode cX10_aRule 138 = .ok (.aload_n 0, 1) := by decide +kernel
theorem dX10_aRule_139 : decode cX10_aRule 139 = .ok (.invokevirtual 205, 3) := by decide +kernel
theorem dX10_aRule_142 : decode cX10_aRule 142 = .ok (.ifCond .eq 16, 3) := by decide +kernel
theorem dX10_aRule_145 : decode cX10_aRule 145 = .ok (.aload_n 0, 1) := by decide +kernel
theorem dX10_aRule_146 : decode cX10_aRule 146 = .ok (.bipush 59, 2) := by decide +kernel
theorem dX10_aRule_148 : decode cX10_aRule 148 = .ok (.invokevirtual 208, 3) := by decide +kernel
theorem dX10_aRule_151 : decode cX10_aRule 151 = .ok (.ifCond .eq 7, 3) := by decide +kernel
theorem dX10_aRule_154 : decode cX10_aRule 154 = .ok (.iconst 1, 1) := by decide +kernel
theorem dX10_aRule_155 : decode cX10_aRule 155 = .ok (.goto 4, 3) := by decide +kernel
theorem dX10_aRule_158 : decode cX10_aRule 158 = .ok (.iconst 0, 1) := by decide +kernel
theorem dX10_aRule_159 : decode cX10_aRule 159 = .ok (.ireturn, 1) := by decide +kernel
set_option maxRecDepth 20000 in
theorem ggX10_rules_X10_next0 : GoodIn wsX10_rules wsX10_next0 := goodIn_r _ [23, 2, 24, 5, 25, 26, 27, 28, 22, 29, 6, 30, 31, 32, 33, 34, 35, 36, 37, 38, 39, 40, 41, 42, 43, 44, 45, 46, 47, 48, 49, 50, 51, 52, 53, 100, 101, 102, 103, 104, 105, 106, 107, 108, 109, 110, 111, 112, 113, 114, 115, 116, 117, 118, 119, 120, 121, 122, 123, 124, 125, 126, 127, 128, 129, 130, 131, 132, 133, 134, 135, 136, 137, 138, 139] (by decide +kernel) (by decide +kernel)
set_option maxRecDepth 20000 in
theorem gX10_rules_X10_next0 : GoodIn wsX10_rules (wsV RX10 179 RX10 yX10_next0 wsX10_next0) := goodIn_app (goodIn_of _ (by decide +kernel)) ggX10_rules_X10_next0
set_option maxRecDepth 20000 in
theorem ggX10_rules_X10_aRule : GoodIn wsX10_rules wsX10_aRule := goodIn_r _ [57, 5, 3, 12, 58, 14, 16, 4, 59, 60, 61, 62, 22, 63, 1, 24, 8, 19, 20, 21, 23, 2, 25, 26, 27, 28, 29, 6, 30, 31, 32, 33, 34, 35, 36, 37, 38, 39, 40, 41, 42, 43, 44, 45, 46, 47, 48, 49, 50, 51, 52, 53, 64, 65, 66, 67, 68, 69, 70, 71, 72, 73, 74, 75, 76, 77, 78, 79, 80, 81, 82, 18, 83, 84, 85, 86, 87, 88, 89, 90, 91, 92, 93, 94, 95, 96, 97, 98, 99, 100, 101, 102, 103, 104, 105, 106, 107, 108, 109, 110, 111, 112, 113, 114, 115, 116, 117, 118, 119, 120, 121, 122, 123, 124, 125, 126, 127, 128, 129, 130, 131, 132, 133, 134, 135, 136, 137, 138, 139] (by decide +kernel) (by decide +kernel)
set_option maxRecDepth 20000 in
theorem gX10_rules_X10_aRule : GoodIn wsX10_rules (wsV RX10 223 RX10 yX10_aRule wsX10_aRule) := goodIn_app (goodIn_of _ (by decide +kernel)) ggX10_rules_X10_aRule
theorem dX10_rules_0 : decode cX10_rules 0 = .ok (.aload_n 0, 1) := by decide +kernel
theorem dX10_rules_1 : decode cX10_rules 1 = .ok (.iconst 0, 1) := by decide +kernel
theorem dX10_rules_2 : decode cX10_rules 2 = .ok (.putfield 170, 3) := by decide +kernel
theorem dX10_rules_5 : decode cX10_rules 5 = .ok (.aload_n 0, 1) := by decide +kernel
theorem dX10_rules_6 : decode cX10_rules 6 = .ok (.iconst 0, 1) := by decide +kernel
theorem dX10_rules_7 : decode cX10_rules 7 = .ok (.putfield 145, 3) := by decide +kernel
theorem dX10_rules_10 : decode cX10_rules 10 = .ok (.aload_n 0, 1) := by decide +kernel
theorem dX10_rules_11 : decode cX10_rules 11 = .ok (.iconst 0, 1) := by decide +kernel
theorem dX10_rules_12 : decode cX10_rules 12 = .ok (.putfield 217, 3) := by decide +kernel
theorem dX10_rules_15 : decode cX10_rules 15 = .ok (.aload_n 0, 1) := by decide +kernel
theorem dX10_rules_16 : decode cX10_rules 16 = .ok (.iconst 0, 1) := by decide +kernel
theorem dX10_rules_17 : decode cX10_rules 17 = .ok (.putfield 185, 3) := by decide +kernel
theorem dX10_rules_20 : decode cX10_rules 20 = .ok (.aload_n 0, 1) := by decide +kernel
theorem dX10_rules_21 : decode cX10_rules 21 = .ok (.invokevirtual 179, 3) := by decide +kernel
theorem dX10_rules_24 : decode cX10_rules 24 = .ok (.iconst 1, 1) := by decide +kernel
theorem dX10_rules_25 : decode cX10_rules 25 = .ok (.istore_n 1, 1) := by decide +kernel
theorem dX10_rules_26 : decode cX10_rules 26 = .ok (.iload_n 1, 1) := by decide +kernel
theorem dX10_rules_27 : decode cX10_rules 27 = .ok (.ifCond .eq 18, 3) := by decide +kernel
theorem dX10_rules_30 : decode cX10_rules 30 = .ok (.aload_n 0, 1) := by decide +kernel
theorem dX10_rules_31 : decode cX10_rules 31 = .ok (.getfield 154, 3) := by decide +kernel
theorem dX10_rules_34 : decode cX10_rules 34 = .ok (.ifCond .eq 11, 3) := by decide +kernel
theorem dX10_rules_37 : decode cX10_rules 37 = .ok (.aload_n 0, 1) := by decide +kernel
theorem dX10_rules_38 : decode cX10_rules 38 = .ok (.invokevirtual 223, 3) := by decide +kernel
theorem dX10_rules_41 : decode cX10_rules 41 = .ok (.istore_n 1, 1) := by decide +kernel
theorem dX10_rules_42 : decode cX10_rules 42 = .ok (.goto (-16), 3) := by decide +kernel
theorem dX10_rules_45 : decode cX10_rules 45 = .ok (.aload_n 0, 1) := by decide +kernel
theorem dX10_rules_46 : decode cX10_rules 46 = .ok (.iconst 0, 1) := by decide +kernel
theorem dX10_rules_47 : decode cX10_rules 47 = .ok (.putfield 120, 3) := by decide +kernel
theorem dX10_rules_50 : decode cX10_rules 50 = .ok (.aload_n 0, 1) := by decide +kernel
theorem dX10_rules_51 : decode cX10_rules 51 = .ok (.aload_n 0, 1) := by decide +kernel
theorem dX10_rules_52 : decode cX10_rules 52 = .ok (.getfield 170, 3) := by decide +kernel
theorem dX10_rules_55 : decode cX10_rules 55 = .ok (.putfield 226, 3) := by decide +kernel
theorem dX10_rules_58 : decode cX10_rules 58 = .ok (.aload_n 0, 1) := by decide +kernel
theorem dX10_rules_59 : decode cX10_rules 59 = .ok (.iload_n 1, 1) := by decide +kernel
theorem dX10_rules_60 : decode cX10_rules 60 = .ok (.ifCond .eq 7, 3) := by decide +kernel
theorem dX10_rules_63 : decode cX10_rules 63 = .ok (.iconst (-1), 1) := by decide +kernel
theorem dX10_rules_64 : decode cX10_rules 64 = .ok (.goto 7, 3) := by decide +kernel
theorem dX10_rules_67 : decode cX10_rules 67 = .ok (.aload_n 0, 1) := by decide +kernel
theorem dX10_rules_68 : decode cX10_rules 68 = .ok (.getfield 173, 3) := by decide +kernel
theorem dX10_rules_71 : decode cX10_rules 71 = .ok (.putfield 52, 3) := by decide +kernel
theorem dX10_rules_74 : decode cX10_rules 74 = .ok (.iload_n 1, 1) := by decide +kernel
theorem dX10_rules_75 : decode cX10_rules 75 = .ok (.ifCond .ne 5, 3) := by decide +kernel
theorem dX10_rules_78 : decode cX10_rules 78 = .ok (.iconst (-1), 1) := by decide +kernel
theorem dX10_rules_79 : decode cX10_rules 79 = .ok (.ireturn, 1) := by decide +kernel
theorem dX10_rules_80 : decode cX10_rules 80 = .ok (.aload_n 0, 1) := by decide +kernel
theorem dX10_rules_81 : decode cX10_rules 81 = .ok (.aload_n 0, 1) := by decide +kernel
theorem dX10_rules_82 : decode cX10_rules 82 = .ok (.getfield 217, 3) := by decide +kernel
theorem dX10_rules_85 : decode cX10_rules 85 = .ok (.putfield 229, 3) := by decide +kernel
theorem dX10_rules_88 : decode cX10_rules 88 = .ok (.iconst 0, 1) := by decide +kernel
theorem dX10_rules_89 : decode cX10_rules 89 = .ok (.istore_n 2, 1) := by decide +kernel
theorem dX10_rules_90 : decode cX10_rules 90 = .ok (.iload_n 2, 1) := by decide +kernel
theorem dX10_rules_91 : decode cX10_rules 91 = .ok (.aload_n 0, 1) := by decide +kernel
theorem dX10_rules_92 : decode cX10_rules 92 = .ok (.getfield 229, 3) := by decide +kernel
theorem dX10_rules_95 : decode cX10_rules 95 = .ok (.if_icmp .ge 45, 3) := by decide +kernel
theorem dX10_rules_98 : decode cX10_rules 98 = .ok (.aload_n 0, 1) := by decide +kernel
theorem dX10_rules_99 : decode cX10_rules 99 = .ok (.getfield 22, 3) := by decide +kernel
theorem dX10_rules_102 : decode cX10_rules 102 = .ok (.iload_n 2, 1) := by decide +kernel
theorem dX10_rules_103 : decode cX10_rules 103 = .ok (.aload_n 0, 1) := by decide +kernel
theorem dX10_rules_104 : decode cX10_rules 104 = .ok (.getfield 34, 3) := by decide +kernel
theorem dX10_rules_107 : decode cX10_rules 107 = .ok (.iload_n 2, 1) := by decide +kernel
theorem dX10_rules_108 : decode cX10_rules 108 = .ok (.iaload, 1) := by decide +kernel
theorem dX10_rules_109 : decode cX10_rules 109 = .ok (.iastore, 1) := by decide +kernel
theorem dX10_rules_110 : decode cX10_rules 110 = .ok (.aload_n 0, 1) := by decide +kernel
theorem dX10_rules_111 : decode cX10_rules 111 = .ok (.getfield 25, 3) := by decide +kernel
theorem dX10_rules_114 : decode cX10_rules 114 = .ok (.iload_n 2, 1) := by decide +kernel
theorem dX10_rules_115 : decode cX10_rules 115 = .ok (.aload_n 0, 1) := by decide +kernel
theorem dX10_rules_116 : decode cX10_rules 116 = .ok (.getfield 37, 3) := by decide +kernel
theorem dX10_rules_119 : decode cX10_rules 119 = .ok (.iload_n 2, 1) := by decide +kernel
theorem dX10_rules_120 : decode cX10_rules 120 = .ok (.iaload, 1) := by decide +kernel
theorem dX10_rules_121 : decode cX10_rules 121 = .ok (.iastore, 1) := by decide +kernel
theorem dX10_rules_122 : decode cX10_rules 122 = .ok (.aload_n 0, 1) := by decide +kernel
theorem dX10_rules_123 : decode cX10_rules 123 = .ok (.getfield 28, 3) := by decide +kernel
theorem dX10_rules_126 : decode cX10_rules 126 = .ok (.iload_n 2, 1) := by decide +kernel
theorem dX10_rules_127 : decode cX10_rules 127 = .ok (.aload_n 0, 1) := by decide +kernel
theorem dX10_rules_128 : decode cX10_rules 128 = .ok (.getfield 40, 3) := by decide +kernel
theorem dX10_rules_131 : decode cX10_rules 131 = .ok (.iload_n 2, 1) := by decide +kernel
theorem dX10_rules_132 : decode cX10_rules 132 = .ok (.iaload, 1) := by decide +kernel
theorem dX10_rules_133 : decode cX10_rules 133 = .ok (.iastore, 1) := by decide +kernel
theorem dX10_rules_134 : decode cX10_rules 134 = .ok (.iinc 2 1, 3) := by decide +kernel
theorem dX10_rules_137 : decode cX10_rules 137 = .ok (.goto (-47), 3) := by decide +kernel
theorem dX10_rules_140 : decode cX10_rules 140 = .ok (.aload_n 0, 1) := by decide +kernel
theorem dX10_rules_141 : decode cX10_rules 141 = .ok (.getfield 28, 3) := by decide +kernel
theorem dX10_rules_144 : decode cX10_rules 144 = .ok (.aload_n 0, 1) := by decide +kernel
theorem dX10_rules_145 : decode cX10_rules 145 = .ok (.getfield 229, 3) := by decide +kernel
theorem dX10_rules_148 : decode cX10_rules 148 = .ok (.aload_n 0, 1) := by decide +kernel
theorem dX10_rules_149 : decode cX10_rules 149 = .ok (.getfield 185, 3) := by decide +kernel
theorem dX10_rules_152 : decode cX10_rules 152 = .ok (.iastore, 1) := by decide +kernel
theorem dX10_rules_153 : decode cX10_rules 153 = .ok (.iconst 0, 1) := by decide +kernel
theorem dX10_rules_154 : decode cX10_rules 154 = .ok (.istore_n 2, 1) := by decide +kernel
theorem dX10_rules_155 : decode cX10_rules 155 = .ok (.iload_n 2, 1) := by decide +kernel
theorem dX10_rules_156 : decode cX10_rules 156 = .ok (.aload_n 0, 1) := by decide +kernel
theorem dX10_rules_157 : decode cX10_rules 157 = .ok (.getfield 185, 3) := by decide +kernel
theorem dX10_rules_160 : decode cX10_rules 160 = .ok (.if_icmp .ge 21, 3) := by decide +kernel
theorem dX10_rules_163 : decode cX10_rules 163 = .ok (.aload_n 0, 1) := by decide +kernel
theorem dX10_rules_164 : decode cX10_rules 164 = .ok (.getfield 31, 3) := by decide +kernel
theorem dX10_rules_167 : decode cX10_rules 167 = .ok (.iload_n 2, 1) := by decide +kernel
theorem dX10_rules_168 : decode cX10_rules 168 = .ok (.aload_n 0, 1) := by decide +kernel
theorem dX10_rules_169 : decode cX10_rules 169 = .ok (.getfield 43, 3) := by decide +kernel
theorem dX10_rules_172 : decode cX10_rules 172 = .ok (.iload_n 2, 1) := by decide +kernel
theorem dX10_rules_173 : decode cX10_rules 173 = .ok (.iaload, 1) := by decide +kernel
theorem dX10_rules_174 : decode cX10_rules 174 = .ok (.iastore, 1) := by decide +kernel
theorem dX10_rules_175 : decode cX10_rules 175 = .ok (.iinc 2 1, 3) := by decide +kernel
theorem dX10_rules_178 : decode cX10_rules 178 = .ok (.goto (-23), 3) := by decide +kernel
theorem dX10_rules_181 : decode cX10_rules 181 = .ok (.aload_n 0, 1) := by decide +kernel
theorem dX10_rules_182 : decode cX10_rules 182 = .ok (.getfield 229, 3) := by decide +kernel
theorem dX10_rules_185 : decode cX10_rules 185 = .ok (.ireturn, 1) := by decide +kernel
theorem dX10_fault_0 : decode cX10_fault 0 = .ok (.iload_n 1, 1) := by decide +kernel
theorem dX10_fault_1 : decode cX10_fault 1 = .ok (.ifCond .ne 10, 3) := by decide +kernel
theorem dX10_fault_4 : decode cX10_fault 4 = .ok (.aload_n 0, 1) := by decide +kernel
theorem dX10_fault_5 : decode cX10_fault 5 = .ok (.getfield 226, 3) := by decide +kernel
theorem dX10_fault_8 : decode cX10_fault 8 = .ok (.goto 16, 3) := by decide +kernel
theorem dX10_fault_11 : decode cX10_fault 11 = .ok (.iload_n 1, 1) := by decide +kernel
theorem dX10_fault_12 : decode cX10_fault 12 = .ok (.iconst 1, 1) := by decide +kernel
theorem dX10_fault_13 : decode cX10_fault 13 = .ok (.if_icmp .ne 10, 3) := by decide +kernel
theorem dX10_fault_16 : decode cX10_fault 16 = .ok (.aload_n 0, 1) := by decide +kernel
theorem dX10_fault_17 : decode cX10_fault 17 = .ok (.getfield 52, 3) := by decide +kernel
theorem dX10_fault_20 : decode cX10_fault 20 = .ok (.goto 4, 3) := by decide +kernel
theorem dX10_fault_23 : decode cX10_fault 23 = .ok (.iconst (-1), 1) := by decide +kernel
theorem dX10_fault_24 : decode cX10_fault 24 = .ok (.ireturn, 1) := by decide +kernel
set_option maxRecDepth 20000 in
theorem ggX10_known_X10_bits : GoodIn wsX10_known wsX10_bits := goodIn_r _ [4] (by decide +kernel) (by decide +kernel)
set_option maxRecDepth 20000 in
theorem gX10_known_X10_bits : GoodIn wsX10_known (va_wsS RX10 107 yX10_bits wsX10_bits) := goodIn_app (goodIn_of _ (by decide +kernel)) ggX10_known_X10_bits
set_option maxRecDepth 20000 in
theorem ggX10_known_X10_share : GoodIn wsX10_known wsX10_share := goodIn_r _ [8, 9, 10, 11, 20, 21, 22, 23, 24, 25, 26, 27, 28, 29, 30, 31, 32, 33, 34, 35, 36, 37, 38, 39, 40, 41, 42, 43, 44, 45, 46, 47, 48, 49, 50, 51, 52, 53, 54, 55, 56, 57, 58, 59] (by decide +kernel) (by decide +kernel)
set_option maxRecDepth 20000 in
theorem gX10_known_X10_share : GoodIn wsX10_known (wsV RX10 101 RX10 yX10_share wsX10_share) := goodIn_app (goodIn_of _ (by decide +kernel)) ggX10_known_X10_share
set_option maxRecDepth 20000 in
theorem ggX10_known_X10_missed : GoodIn wsX10_known wsX10_missed := goodIn_r _ [15, 9, 10, 20, 21, 22, 23, 24, 25, 26, 27, 28, 29, 30, 31, 32, 33, 34, 35, 36, 37, 38, 39, 40, 41, 42, 43, 44, 45, 46, 47, 48, 49, 50, 51, 52, 53, 54, 55, 56, 57, 58, 59] (by decide +kernel) (by decide +kernel)
set_option maxRecDepth 20000 in
theorem gX10_known_X10_missed : GoodIn wsX10_known (wsV RX10 111 RX10 yX10_missed wsX10_missed) := goodIn_app (goodIn_of _ (by decide +kernel)) ggX10_known_X10_missed
set_option maxRecDepth 20000 in
theorem ggX10_known_X10_last : GoodIn wsX10_known wsX10_last := goodIn_r _ [19, 9, 10, 11, 20, 21, 22, 23, 24, 25, 26, 27, 28, 29, 30, 31, 32, 33, 34, 35, 36, 37, 38, 39, 40, 41, 42, 43, 44, 45, 46, 47, 48, 49, 50, 51, 52, 53, 54, 55, 56, 57, 58, 59] (by decide +kernel) (by decide +kernel)
set_option maxRecDepth 20000 in
theorem gX10_known_X10_last : GoodIn wsX10_known (wsV RX10 114 RX10 yX10_last wsX10_last) := goodIn_app (goodIn_of _ (by decide +kernel)) ggX10_known_X10_last
theorem dX10_known_0 : decode cX10_known 0 = .ok (.iload_n 3, 1) := by decide +kernel
theorem dX10_known_1 : decode cX10_known 1 = .ok (.tableswitch 57 1001 1004 #[31, 36, 43, 50], 31) := by decide +kernel
theorem dX10_known_32 : decode cX10_known 32 = .ok (.iload_n 2, 1) := by decide +kernel
theorem dX10_known_33 : decode cX10_known 33 = .ok (.invokestatic 107, 3) := by decide +kernel
theorem dX10_known_36 : decode cX10_known 36 = .ok (.ireturn, 1) := by decide +kernel
theorem dX10_known_37 : decode cX10_known 37 = .ok (.aload_n 0, 1) := by decide +kernel
theorem dX10_known_38 : decode cX10_known 38 = .ok (.iload_n 1, 1) := by decide +kernel
theorem dX10_known_39 : decode cX10_known 39 = .ok (.iload_n 2, 1) := by decide +kernel
theorem dX10_known_40 : decode cX10_known 40 = .ok (.invokevirtual 101, 3) := by decide +kernel
theorem dX10_known_43 : decode cX10_known 43 = .ok (.ireturn, 1) := by decide +kernel
theorem dX10_known_44 : decode cX10_known 44 = .ok (.aload_n 0, 1) := by decide +kernel
theorem dX10_known_45 : decode cX10_known 45 = .ok (.iload_n 1, 1) := by decide +kernel
theorem dX10_known_46 : decode cX10_known 46 = .ok (.iload_n 2, 1) := by decide +kernel
theorem dX10_known_47 : decode cX10_known 47 = .ok (.invokevirtual 111, 3) := by decide +kernel
theorem dX10_known_50 : decode cX10_known 50 = .ok (.ireturn, 1) := by decide +kernel
theorem dX10_known_51 : decode cX10_known 51 = .ok (.aload_n 0, 1) := by decide +kernel
theorem dX10_known_52 : decode cX10_known 52 = .ok (.iload_n 1, 1) := by decide +kernel
theorem dX10_known_53 : decode cX10_known 53 = .ok (.iload_n 2, 1) := by decide +kernel
theorem dX10_known_54 : decode cX10_known 54 = .ok (.invokevirtual 114, 3) := by decide +kernel
theorem dX10_known_57 : decode cX10_known 57 = .ok (.ireturn, 1) := by decide +kernel
theorem dX10_known_58 : decode cX10_known 58 = .ok (.iload 4, 2) := by decide +kernel
theorem dX10_known_60 : decode cX10_known 60 = .ok (.ireturn, 1) := by decide +kernel
theorem dX10_both_0 : decode cX10_both 0 = .ok (.iload_n 0, 1) := by decide +kernel
theorem dX10_both_1 : decode cX10_both 1 = .ok (.tableswitch 88 2000 2006 #[43, 47, 51, 62, 73, 88, 84], 43) := by decide +kernel
theorem dX10_both_44 : decode cX10_both 44 = .ok (.iload_n 1, 1) := by decide +kernel
theorem dX10_both_45 : decode cX10_both 45 = .ok (.iload_n 2, 1) := by decide +kernel
theorem dX10_both_46 : decode cX10_both 46 = .ok (.iadd, 1) := by decide +kernel
theorem dX10_both_47 : decode cX10_both 47 = .ok (.ireturn, 1) := by decide +kernel
theorem dX10_both_48 : decode cX10_both 48 = .ok (.iload_n 1, 1) := by decide +kernel
theorem dX10_both_49 : decode cX10_both 49 = .ok (.iload_n 2, 1) := by decide +kernel
theorem dX10_both_50 : decode cX10_both 50 = .ok (.isub, 1) := by decide +kernel
theorem dX10_both_51 : decode cX10_both 51 = .ok (.ireturn, 1) := by decide +kernel
theorem dX10_both_52 : decode cX10_both 52 = .ok (.iload_n 1, 1) := by decide +kernel
theorem dX10_both_53 : decode cX10_both 53 = .ok (.iload_n 2, 1) := by decide +kernel
theorem dX10_both_54 : decode cX10_both 54 = .ok (.if_icmp .ge 7, 3) := by decide +kernel
theorem dX10_both_57 : decode cX10_both 57 = .ok (.iconst 1, 1) := by decide +kernel
theorem dX10_both_58 : decode cX10_both 58 = .ok (.goto 4, 3) := by decide +kernel
theorem dX10_both_61 : decode cX10_both 61 = .ok (.iconst 0, 1) := by decide +kernel
theorem dX10_both_62 : decode cX10_both 62 = .ok (.ireturn, 1) := by decide +kernel
theorem dX10_both_63 : decode cX10_both 63 = .ok (.iload_n 1, 1) := by decide +kernel
theorem dX10_both_64 : decode cX10_both 64 = .ok (.iload_n 2, 1) := by decide +kernel
theorem dX10_both_65 : decode cX10_both 65 = .ok (.if_icmp .ne 7, 3) := by decide +kernel
theorem dX10_both_68 : decode cX10_both 68 = .ok (.iconst 1, 1) := by decide +kernel
theorem dX10_both_69 : decode cX10_both 69 = .ok (.goto 4, 3) := by decide +kernel
theorem dX10_both_72 : decode cX10_both 72 = .ok (.iconst 0, 1) := by decide +kernel
theorem dX10_both_73 : decode cX10_both 73 = .ok (.ireturn, 1) := by decide +kernel
theorem dX10_both_74 : decode cX10_both 74 = .ok (.iload_n 1, 1) := by decide +kernel
theorem dX10_both_75 : decode cX10_both 75 = .ok (.iload_n 2, 1) := by decide +kernel
theorem dX10_both_76 : decode cX10_both 76 = .ok (.if_icmp .le 7, 3) := by decide +kernel
theorem dX10_both_79 : decode cX10_both 79 = .ok (.iconst 1, 1) := by decide +kernel
theorem dX10_both_80 : decode cX10_both 80 = .ok (.goto 4, 3) := by decide +kernel
theorem dX10_both_83 : decode cX10_both 83 = .ok (.iconst 0, 1) := by decide +kernel
theorem dX10_both_84 : decode cX10_both 84 = .ok (.ireturn, 1) := by decide +kernel
theorem dX10_both_85 : decode cX10_both 85 = .ok (.iload_n 1, 1) := by decide +kernel
theorem dX10_both_86 : decode cX10_both 86 = .ok (.iload_n 2, 1) := by decide +kernel
theorem dX10_both_87 : decode cX10_both 87 = .ok (.iand, 1) := by decide +kernel
theorem dX10_both_88 : decode cX10_both 88 = .ok (.ireturn, 1) := by decide +kernel
theorem dX10_both_89 : decode cX10_both 89 = .ok (.iload_n 1, 1) := by decide +kernel
theorem dX10_both_90 : decode cX10_both 90 = .ok (.iload_n 2, 1) := by decide +kernel
theorem dX10_both_91 : decode cX10_both 91 = .ok (.ior, 1) := by decide +kernel
theorem dX10_both_92 : decode cX10_both 92 = .ok (.ireturn, 1) := by decide +kernel
set_option maxRecDepth 20000 in
theorem ggX10_isSo_X10_known : GoodIn wsX10_isSo wsX10_known := goodIn_r _ [8, 9, 10, 7, 11, 12, 13, 14, 15, 16, 17, 18, 19, 20, 21, 22, 23, 24, 25, 26, 30, 31, 32, 33, 34, 35, 36, 37, 38, 39, 40, 41, 42, 43, 44, 45, 46, 47, 48, 49, 50, 51, 52, 53, 54, 55, 56, 57, 58, 59, 60, 61, 62, 63, 64, 65, 66, 67, 68, 69] (by decide +kernel) (by decide +kernel)
set_option maxRecDepth 20000 in
theorem gX10_isSo_X10_known : GoodIn wsX10_isSo (wsV RX10 232 RX10 yX10_known wsX10_known) := goodIn_app (goodIn_of _ (by decide +kernel)) ggX10_isSo_X10_known
set_option maxRecDepth 20000 in
theorem ggX10_isSo_X10_both : GoodIn wsX10_isSo wsX10_both := goodIn_r _ [29] (by decide +kernel) (by decide +kernel)
set_option maxRecDepth 20000 in
theorem gX10_isSo_X10_both : GoodIn wsX10_isSo (va_wsS RX10 236 yX10_both wsX10_both) := goodIn_app (goodIn_of _ (by decide +kernel)) ggX10_isSo_X10_both
theorem dX10_isSo_0 : decode cX10_isSo 0 = .ok (.iconst 0, 1) := by decide +kernel
theorem dX10_isSo_1 : decode cX10_isSo 1 = .ok (.istore 5, 2) := by decide +kernel
theorem dX10_isSo_3 : decode cX10_isSo 3 = .ok (.aload_n 0, 1) := by decide +kernel
theorem dX10_isSo_4 : decode cX10_isSo 4 = .ok (.getfield 28, 3) := by decide +kernel
theorem dX10_isSo_7 : decode cX10_isSo 7 = .ok (.iload_n 1, 1) := by decide +kernel
theorem dX10_isSo_8 : decode cX10_isSo 8 = .ok (.iaload, 1) := by decide +kernel
theorem dX10_isSo_9 : decode cX10_isSo 9 = .ok (.istore 6, 2) := by decide +kernel
theorem dX10_isSo_11 : decode cX10_isSo 11 = .ok (.iload 6, 2) := by decide +kernel
theorem dX10_isSo_13 : decode cX10_isSo 13 = .ok (.aload_n 0, 1) := by decide +kernel
theorem dX10_isSo_14 : decode cX10_isSo 14 = .ok (.getfield 28, 3) := by decide +kernel
theorem dX10_isSo_17 : decode cX10_isSo 17 = .ok (.iload_n 1, 1) := by decide +kernel
theorem dX10_isSo_18 : decode cX10_isSo 18 = .ok (.iconst 1, 1) := by decide +kernel
theorem dX10_isSo_19 : decode cX10_isSo 19 = .ok (.iadd, 1) := by decide +kernel
theorem dX10_isSo_20 : decode cX10_isSo 20 = .ok (.iaload, 1) := by decide +kernel
theorem dX10_isSo_21 : decode cX10_isSo 21 = .ok (.if_icmp .ge 126, 3) := by decide +kernel
theorem dX10_isSo_24 : decode cX10_isSo 24 = .ok (.aload_n 0, 1) := by decide +kernel
theorem dX10_isSo_25 : decode cX10_isSo 25 = .ok (.getfield 31, 3) := by decide +kernel
theorem dX10_isSo_28 : decode cX10_isSo 28 = .ok (.iload 6, 2) := by decide +kernel
theorem dX10_isSo_30 : decode cX10_isSo 30 = .ok (.iaload, 1) := by decide +kernel
theorem dX10_isSo_31 : decode cX10_isSo 31 = .ok (.istore 7, 2) := by decide +kernel
theorem dX10_isSo_33 : decode cX10_isSo 33 = .ok (.iload 7, 2) := by decide +kernel
theorem dX10_isSo_35 : decode cX10_isSo 35 = .ok (.sipush 2000, 3) := by decide +kernel
theorem dX10_isSo_38 : decode cX10_isSo 38 = .ok (.if_icmp .ge 39, 3) := by decide +kernel
theorem dX10_isSo_41 : decode cX10_isSo 41 = .ok (.aload_n 0, 1) := by decide +kernel
theorem dX10_isSo_42 : decode cX10_isSo 42 = .ok (.getfield 46, 3) := by decide +kernel
theorem dX10_isSo_45 : decode cX10_isSo 45 = .ok (.iload 5, 2) := by decide +kernel
theorem dX10_isSo_47 : decode cX10_isSo 47 = .ok (.iload 7, 2) := by decide +kernel
theorem dX10_isSo_49 : decode cX10_isSo 49 = .ok (.sipush 1001, 3) := by decide +kernel
theorem dX10_isSo_52 : decode cX10_isSo 52 = .ok (.if_icmp .ge 8, 3) := by decide +kernel
theorem dX10_isSo_55 : decode cX10_isSo 55 = .ok (.iload 7, 2) := by decide +kernel
theorem dX10_isSo_57 : decode cX10_isSo 57 = .ok (.goto 13, 3) := by decide +kernel
theorem dX10_isSo_60 : decode cX10_isSo 60 = .ok (.aload_n 0, 1) := by decide +kernel
theorem dX10_isSo_61 : decode cX10_isSo 61 = .ok (.iload_n 2, 1) := by decide +kernel
theorem dX10_isSo_62 : decode cX10_isSo 62 = .ok (.iload_n 3, 1) := by decide +kernel
theorem dX10_isSo_63 : decode cX10_isSo 63 = .ok (.iload 7, 2) := by decide +kernel
theorem dX10_isSo_65 : decode cX10_isSo 65 = .ok (.iload 4, 2) := by decide +kernel
theorem dX10_isSo_67 : decode cX10_isSo 67 = .ok (.invokevirtual 232, 3) := by decide +kernel
theorem dX10_isSo_70 : decode cX10_isSo 70 = .ok (.iastore, 1) := by decide +kernel
theorem dX10_isSo_71 : decode cX10_isSo 71 = .ok (.iinc 5 1, 3) := by decide +kernel
theorem dX10_isSo_74 : decode cX10_isSo 74 = .ok (.goto 67, 3) := by decide +kernel
theorem dX10_isSo_77 : decode cX10_isSo 77 = .ok (.iload 7, 2) := by decide +kernel
theorem dX10_isSo_79 : decode cX10_isSo 79 = .ok (.sipush 2005, 3) := by decide +kernel
theorem dX10_isSo_82 : decode cX10_isSo 82 = .ok (.if_icmp .ne 26, 3) := by decide +kernel
theorem dX10_isSo_85 : decode cX10_isSo 85 = .ok (.aload_n 0, 1) := by decide +kernel
theorem dX10_isSo_86 : decode cX10_isSo 86 = .ok (.getfield 46, 3) := by decide +kernel
theorem dX10_isSo_89 : decode cX10_isSo 89 = .ok (.iload 5, 2) := by decide +kernel
theorem dX10_isSo_91 : decode cX10_isSo 91 = .ok (.iconst 1, 1) := by decide +kernel
theorem dX10_isSo_92 : decode cX10_isSo 92 = .ok (.isub, 1) := by decide +kernel
theorem dX10_isSo_93 : decode cX10_isSo 93 = .ok (.iconst 1, 1) := by decide +kernel
theorem dX10_isSo_94 : decode cX10_isSo 94 = .ok (.aload_n 0, 1) := by decide +kernel
theorem dX10_isSo_95 : decode cX10_isSo 95 = .ok (.getfield 46, 3) := by decide +kernel
theorem dX10_isSo_98 : decode cX10_isSo 98 = .ok (.iload 5, 2) := by decide +kernel
theorem dX10_isSo_100 : decode cX10_isSo 100 = .ok (.iconst 1, 1) := by decide +kernel
theorem dX10_isSo_101 : decode cX10_isSo 101 = .ok (.isub, 1) := by decide +kernel
theorem dX10_isSo_102 : decode cX10_isSo 102 = .ok (.iaload, 1) := by decide +kernel
theorem dX10_isSo_103 : decode cX10_isSo 103 = .ok (.isub, 1) := by decide +kernel
theorem dX10_isSo_104 : decode cX10_isSo 104 = .ok (.iastore, 1) := by decide +kernel
theorem dX10_isSo_105 : decode cX10_isSo 105 = .ok (.goto 36, 3) := by decide +kernel
theorem dX10_isSo_108 : decode cX10_isSo 108 = .ok (.iinc 5 (-1), 3) := by decide +kernel
theorem dX10_isSo_111 : decode cX10_isSo 111 = .ok (.aload_n 0, 1) := by decide +kernel
theorem dX10_isSo_112 : decode cX10_isSo 112 = .ok (.getfield 46, 3) := by decide +kernel
theorem dX10_isSo_115 : decode cX10_isSo 115 = .ok (.iload 5, 2) := by decide +kernel
theorem dX10_isSo_117 : decode cX10_isSo 117 = .ok (.iconst 1, 1) := by decide +kernel
theorem dX10_isSo_118 : decode cX10_isSo 118 = .ok (.isub, 1) := by decide +kernel
theorem dX10_isSo_119 : decode cX10_isSo 119 = .ok (.iload 7, 2) := by decide +kernel
theorem dX10_isSo_121 : decode cX10_isSo 121 = .ok (.aload_n 0, 1) := by decide +kernel
theorem dX10_isSo_122 : decode cX10_isSo 122 = .ok (.getfield 46, 3) := by decide +kernel
theorem dX10_isSo_125 : decode cX10_isSo 125 = .ok (.iload 5, 2) := by decide +kernel
theorem dX10_isSo_127 : decode cX10_isSo 127 = .ok (.iconst 1, 1) := by decide +kernel
theorem dX10_isSo_128 : decode cX10_isSo 128 = .ok (.isub, 1) := by decide +kernel
theorem dX10_isSo_129 : decode cX10_isSo 129 = .ok (.iaload, 1) := by decide +kernel
theorem dX10_isSo_130 : decode cX10_isSo 130 = .ok (.aload_n 0, 1) := by decide +kernel
theorem dX10_isSo_131 : decode cX10_isSo 131 = .ok (.getfield 46, 3) := by decide +kernel
theorem dX10_isSo_134 : decode cX10_isSo 134 = .ok (.iload 5, 2) := by decide +kernel
theorem dX10_isSo_136 : decode cX10_isSo 136 = .ok (.iaload, 1) := by decide +kernel
theorem dX10_isSo_137 : decode cX10_isSo 137 = .ok (.invokestatic 236, 3) := by decide +kernel
theorem dX10_isSo_140 : decode cX10_isSo 140 = .ok (.iastore, 1) := by decide +kernel
theorem dX10_isSo_141 : decode cX10_isSo 141 = .ok (.iinc 6 1, 3) := by decide +kernel
theorem dX10_isSo_144 : decode cX10_isSo 144 = .ok (.goto (-133), 3) := by decide +kernel
theorem dX10_isSo_147 : decode cX10_isSo 147 = .ok (.aload_n 0, 1) := by decide +kernel
theorem dX10_isSo_148 : decode cX10_isSo 148 = .ok (.getfield 46, 3) := by decide +kernel
theorem dX10_isSo_151 : decode cX10_isSo 151 = .ok (.iconst 0, 1) := by decide +kernel
theorem dX10_isSo_152 : decode cX10_isSo 152 = .ok (.iaload, 1) := by decide +kernel
theorem dX10_isSo_153 : decode cX10_isSo 153 = .ok (.iconst 1, 1) := by decide +kernel
theorem dX10_isSo_154 : decode cX10_isSo 154 = .ok (.if_icmp .ne 7, 3) := by decide +kernel
theorem dX10_isSo_157 : decode cX10_isSo 157 = .ok (.iconst 1, 1) := by decide +kernel
theorem dX10_isSo_158 : decode cX10_isSo 158 = .ok (.goto 4, 3) := by decide +kernel
theorem dX10_isSo_161 : decode cX10_isSo 161 = .ok (.iconst 0, 1) := by decide +kernel
theorem dX10_isSo_162 : decode cX10_isSo 162 = .ok (.ireturn, 1) := by decide +kernel
theorem dX10_has_0 : decode cX10_has 0 = .ok (.iconst 0, 1) := by decide +kernel
theorem dX10_has_1 : decode cX10_has 1 = .ok (.istore_n 3, 1) := by decide +kernel
theorem dX10_has_2 : decode cX10_has 2 = .ok (.iconst 0, 1) := by decide +kernel
theorem dX10_has_3 : decode cX10_has 3 = .ok (.istore 4, 2) := by decide +kernel
theorem dX10_has_5 : decode cX10_has 5 = .ok (.iload 4, 2) := by decide +kernel
theorem dX10_has_7 : decode cX10_has 7 = .ok (.aload_n 0, 1) := by decide +kernel
theorem dX10_has_8 : decode cX10_has 8 = .ok (.getfield 240, 3) := by decide +kernel
theorem dX10_has_11 : decode cX10_has 11 = .ok (.if_icmp .ge 49, 3) := by decide +kernel
theorem dX10_has_14 : decode cX10_has 14 = .ok (.iload_n 3, 1) := by decide +kernel
theorem dX10_has_15 : decode cX10_has 15 = .ok (.ifCond .ne 33, 3) := by decide +kernel
theorem dX10_has_18 : decode cX10_has 18 = .ok (.aload_n 0, 1) := by decide +kernel
theorem dX10_has_19 : decode cX10_has 19 = .ok (.getfield 59, 3) := by decide +kernel
theorem dX10_has_22 : decode cX10_has 22 = .ok (.iload 4, 2) := by decide +kernel
theorem dX10_has_24 : decode cX10_has 24 = .ok (.iaload, 1) := by decide +kernel
theorem dX10_has_25 : decode cX10_has 25 = .ok (.iload_n 1, 1) := by decide +kernel
theorem dX10_has_26 : decode cX10_has 26 = .ok (.if_icmp .ne 26, 3) := by decide +kernel
theorem dX10_has_29 : decode cX10_has 29 = .ok (.aload_n 0, 1) := by decide +kernel
theorem dX10_has_30 : decode cX10_has 30 = .ok (.getfield 22, 3) := by decide +kernel
theorem dX10_has_33 : decode cX10_has 33 = .ok (.aload_n 0, 1) := by decide +kernel
theorem dX10_has_34 : decode cX10_has 34 = .ok (.getfield 56, 3) := by decide +kernel
theorem dX10_has_37 : decode cX10_has 37 = .ok (.iload 4, 2) := by decide +kernel
theorem dX10_has_39 : decode cX10_has 39 = .ok (.iaload, 1) := by decide +kernel
theorem dX10_has_40 : decode cX10_has 40 = .ok (.iaload, 1) := by decide +kernel
theorem dX10_has_41 : decode cX10_has 41 = .ok (.bipush 10, 2) := by decide +kernel
theorem dX10_has_43 : decode cX10_has 43 = .ok (.idiv, 1) := by decide +kernel
theorem dX10_has_44 : decode cX10_has 44 = .ok (.iload_n 2, 1) := by decide +kernel
theorem dX10_has_45 : decode cX10_has 45 = .ok (.if_icmp .ne 7, 3) := by decide +kernel
theorem dX10_has_48 : decode cX10_has 48 = .ok (.iconst 1, 1) := by decide +kernel
theorem dX10_has_49 : decode cX10_has 49 = .ok (.goto 4, 3) := by decide +kernel
theorem dX10_has_52 : decode cX10_has 52 = .ok (.iconst 0, 1) := by decide +kernel
theorem dX10_has_53 : decode cX10_has 53 = .ok (.istore_n 3, 1) := by decide +kernel
theorem dX10_has_54 : decode cX10_has 54 = .ok (.iinc 4 1, 3) := by decide +kernel
theorem dX10_has_57 : decode cX10_has 57 = .ok (.goto (-52), 3) := by decide +kernel
theorem dX10_has_60 : decode cX10_has 60 = .ok (.iload_n 3, 1) := by decide +kernel
theorem dX10_has_61 : decode cX10_has 61 = .ok (.ireturn, 1) := by decide +kernel
set_option maxRecDepth 20000 in
theorem ggX10_pages_X10_markedOf : GoodIn wsX10_pages wsX10_markedOf := goodIn_r _ [11, 12, 13, 14, 54, 55, 56, 57, 58, 59, 60, 61, 62, 63, 64, 65, 66, 67, 68, 69, 70, 71, 72, 73, 74, 75, 76, 77, 78, 79, 80, 81, 82, 83, 84, 85, 86, 87, 88, 89, 90, 91, 92, 93] (by decide +kernel) (by decide +kernel)
set_option maxRecDepth 20000 in
theorem gX10_pages_X10_markedOf : GoodIn wsX10_pages (wsV RX10 97 RX10 yX10_markedOf wsX10_markedOf) := goodIn_app (goodIn_of _ (by decide +kernel)) ggX10_pages_X10_markedOf
set_option maxRecDepth 20000 in
theorem ggX10_pages_X10_has : GoodIn wsX10_pages wsX10_has := goodIn_r _ [18, 1, 6, 4, 5, 54, 55, 56, 57, 58, 59, 60, 61, 62, 63, 64, 65, 66, 67, 68, 69, 70, 71, 72, 73, 74, 75, 76, 77, 78, 79, 80, 81, 82, 83, 84, 85, 86, 87, 88, 89, 90, 91, 92, 93] (by decide +kernel) (by decide +kernel)
set_option maxRecDepth 20000 in
theorem gX10_pages_X10_has : GoodIn wsX10_pages (wsV RX10 243 RX10 yX10_has wsX10_has) := goodIn_app (goodIn_of _ (by decide +kernel)) ggX10_pages_X10_has
set_option maxRecDepth 20000 in
theorem ggX10_pages_X10_classOf : GoodIn wsX10_pages wsX10_classOf := goodIn_r _ [22, 23, 7, 8, 9, 10, 11, 12, 13, 14, 24, 25, 26, 27, 28, 54, 55, 56, 57, 58, 59, 60, 61, 62, 63, 64, 65, 66, 67, 68, 69, 70, 71, 72, 73, 74, 75, 76, 77, 78, 79, 80, 81, 82, 83, 84, 85, 86, 87, 88, 89, 90, 91, 92, 93] (by decide +kernel) (by decide +kernel)
set_option maxRecDepth 20000 in
theorem gX10_pages_X10_classOf : GoodIn wsX10_pages (wsV RX10 117 RX10 yX10_classOf wsX10_classOf) := goodIn_app (goodIn_of _ (by decide +kernel)) ggX10_pages_X10_classOf
set_option maxRecDepth 20000 in
theorem ggX10_pages_X10_isSo : GoodIn wsX10_pages wsX10_isSo := goodIn_r _ [32, 33, 34, 35, 36, 37, 38, 10, 39, 40, 41, 42, 24, 25, 26, 27, 12, 14, 28, 43, 44, 45, 46, 47, 48, 49, 50, 51, 52, 53, 54, 55, 56, 57, 58, 59, 60, 61, 62, 63, 64, 65, 66, 67, 68, 69, 70, 71, 72, 73, 74, 75, 76, 77, 78, 79, 80, 81, 82, 83, 84, 85, 86, 87, 88, 89, 90, 91, 92, 93] (by decide +kernel) (by decide +kernel)
set_option maxRecDepth 20000 in
theorem gX10_pages_X10_isSo : GoodIn wsX10_pages (wsV RX10 247 RX10 yX10_isSo wsX10_isSo) := goodIn_app (goodIn_of _ (by decide +kernel)) ggX10_pages_X10_isSo
theorem dX10_pages_0 : decode cX10_pages 0 = .ok (.aload_n 0, 1) := by decide +kernel
theorem dX10_pages_1 : decode cX10_pages 1 = .ok (.iconst 0, 1) := by decide +kernel
theorem dX10_pages_2 : decode cX10_pages 2 = .ok (.putfield 240, 3) := by decide +kernel
theorem dX10_pages_5 : decode cX10_pages 5 = .ok (.iconst 0, 1) := by decide +kernel
theorem dX10_pages_6 : decode cX10_pages 6 = .ok (.istore_n 2, 1) := by decide +kernel
theorem dX10_pages_7 : decode cX10_pages 7 = .ok (.iload_n 2, 1) := by decide +kernel
theorem dX10_pages_8 : decode cX10_pages 8 = .ok (.aload_n 0, 1) := by decide +kernel
theorem dX10_pages_9 : decode cX10_pages 9 = .ok (.getfield 229, 3) := by decide +kernel
theorem dX10_pages_12 : decode cX10_pages 12 = .ok (.if_icmp .ge 133, 3) := by decide +kernel
theorem dX10_pages_15 : decode cX10_pages 15 = .ok (.iconst 0, 1) := by decide +kernel
theorem dX10_pages_16 : decode cX10_pages 16 = .ok (.istore_n 3, 1) := by decide +kernel
theorem dX10_pages_17 : decode cX10_pages 17 = .ok (.iload_n 3, 1) := by decide +kernel
theorem dX10_pages_18 : decode cX10_pages 18 = .ok (.iconst 5, 1) := by decide +kernel
theorem dX10_pages_19 : decode cX10_pages 19 = .ok (.if_icmp .ge 120, 3) := by decide +kernel
theorem dX10_pages_22 : decode cX10_pages 22 = .ok (.aload_n 0, 1) := by decide +kernel
theorem dX10_pages_23 : decode cX10_pages 23 = .ok (.getfield 25, 3) := by decide +kernel
theorem dX10_pages_26 : decode cX10_pages 26 = .ok (.iload_n 2, 1) := by decide +kernel
theorem dX10_pages_27 : decode cX10_pages 27 = .ok (.iaload, 1) := by decide +kernel
theorem dX10_pages_28 : decode cX10_pages 28 = .ok (.iconst (-1), 1) := by decide +kernel
theorem dX10_pages_29 : decode cX10_pages 29 = .ok (.if_icmp .eq 13, 3) := by decide +kernel
theorem dX10_pages_32 : decode cX10_pages 32 = .ok (.aload_n 0, 1) := by decide +kernel
theorem dX10_pages_33 : decode cX10_pages 33 = .ok (.getfield 25, 3) := by decide +kernel
theorem dX10_pages_36 : decode cX10_pages 36 = .ok (.iload_n 2, 1) := by decide +kernel
theorem dX10_pages_37 : decode cX10_pages 37 = .ok (.iaload, 1) := by decide +kernel
theorem dX10_pages_38 : decode cX10_pages 38 = .ok (.iload_n 3, 1) := by decide +kernel
theorem dX10_pages_39 : decode cX10_pages 39 = .ok (.if_icmp .ne 94, 3) := by decide +kernel
theorem dX10_pages_42 : decode cX10_pages 42 = .ok (.aload_n 0, 1) := by decide +kernel
theorem dX10_pages_43 : decode cX10_pages 43 = .ok (.getfield 240, 3) := by decide +kernel
theorem dX10_pages_46 : decode cX10_pages 46 = .ok (.bipush 12, 2) := by decide +kernel
theorem dX10_pages_48 : decode cX10_pages 48 = .ok (.if_icmp .ne 6, 3) := by decide +kernel
theorem dX10_pages_51 : decode cX10_pages 51 = .ok (.goto 82, 3) := by decide +kernel
theorem dX10_pages_54 : decode cX10_pages 54 = .ok (.aload_n 0, 1) := by decide +kernel
theorem dX10_pages_55 : decode cX10_pages 55 = .ok (.iload_n 1, 1) := by decide +kernel
theorem dX10_pages_56 : decode cX10_pages 56 = .ok (.iload_n 3, 1) := by decide +kernel
theorem dX10_pages_57 : decode cX10_pages 57 = .ok (.invokevirtual 97, 3) := by decide +kernel
theorem dX10_pages_60 : decode cX10_pages 60 = .ok (.istore 4, 2) := by decide +kernel
theorem dX10_pages_62 : decode cX10_pages 62 = .ok (.iload 4, 2) := by decide +kernel
theorem dX10_pages_64 : decode cX10_pages 64 = .ok (.ifCond .eq 69, 3) := by decide +kernel
theorem dX10_pages_67 : decode cX10_pages 67 = .ok (.aload_n 0, 1) := by decide +kernel
theorem dX10_pages_68 : decode cX10_pages 68 = .ok (.iload_n 3, 1) := by decide +kernel
theorem dX10_pages_69 : decode cX10_pages 69 = .ok (.aload_n 0, 1) := by decide +kernel
theorem dX10_pages_70 : decode cX10_pages 70 = .ok (.getfield 22, 3) := by decide +kernel
theorem dX10_pages_73 : decode cX10_pages 73 = .ok (.iload_n 2, 1) := by decide +kernel
theorem dX10_pages_74 : decode cX10_pages 74 = .ok (.iaload, 1) := by decide +kernel
theorem dX10_pages_75 : decode cX10_pages 75 = .ok (.bipush 10, 2) := by decide +kernel
theorem dX10_pages_77 : decode cX10_pages 77 = .ok (.idiv, 1) := by decide +kernel
theorem dX10_pages_78 : decode cX10_pages 78 = .ok (.invokevirtual 243, 3) := by decide +kernel
theorem dX10_pages_81 : decode cX10_pages 81 = .ok (.ifCond .ne 52, 3) := by decide +kernel
theorem dX10_pages_84 : decode cX10_pages 84 = .ok (.aload_n 0, 1) := by decide +kernel
theorem dX10_pages_85 : decode cX10_pages 85 = .ok (.iload_n 2, 1) := by decide +kernel
theorem dX10_pages_86 : decode cX10_pages 86 = .ok (.iload_n 1, 1) := by decide +kernel
theorem dX10_pages_87 : decode cX10_pages 87 = .ok (.iload 4, 2) := by decide +kernel
theorem dX10_pages_89 : decode cX10_pages 89 = .ok (.aload_n 0, 1) := by decide +kernel
theorem dX10_pages_90 : decode cX10_pages 90 = .ok (.iload_n 3, 1) := by decide +kernel
theorem dX10_pages_91 : decode cX10_pages 91 = .ok (.invokevirtual 117, 3) := by decide +kernel
theorem dX10_pages_94 : decode cX10_pages 94 = .ok (.invokevirtual 247, 3) := by decide +kernel
theorem dX10_pages_97 : decode cX10_pages 97 = .ok (.ifCond .ne 6, 3) := by decide +kernel
theorem dX10_pages_100 : decode cX10_pages 100 = .ok (.goto 33, 3) := by decide +kernel
theorem dX10_pages_103 : decode cX10_pages 103 = .ok (.aload_n 0, 1) := by decide +kernel
theorem dX10_pages_104 : decode cX10_pages 104 = .ok (.getfield 56, 3) := by decide +kernel
theorem dX10_pages_107 : decode cX10_pages 107 = .ok (.aload_n 0, 1) := by decide +kernel
theorem dX10_pages_108 : decode cX10_pages 108 = .ok (.getfield 240, 3) := by decide +kernel
theorem dX10_pages_111 : decode cX10_pages 111 = .ok (.iload_n 2, 1) := by decide +kernel
theorem dX10_pages_112 : decode cX10_pages 112 = .ok (.iastore, 1) := by decide +kernel
theorem dX10_pages_113 : decode cX10_pages 113 = .ok (.aload_n 0, 1) := by decide +kernel
theorem dX10_pages_114 : decode cX10_pages 114 = .ok (.getfield 59, 3) := by decide +kernel
theorem dX10_pages_117 : decode cX10_pages 117 = .ok (.aload_n 0, 1) := by decide +kernel
theorem dX10_pages_118 : decode cX10_pages 118 = .ok (.getfield 240, 3) := by decide +kernel
theorem dX10_pages_121 : decode cX10_pages 121 = .ok (.iload_n 3, 1) := by decide +kernel
theorem dX10_pages_122 : decode cX10_pages 122 = .ok (.iastore, 1) := by decide +kernel
theorem dX10_pages_123 : decode cX10_pages 123 = .ok (.aload_n 0, 1) := by decide +kernel
theorem dX10_pages_124 : decode cX10_pages 124 = .ok (.dup, 1) := by decide +kernel
theorem dX10_pages_125 : decode cX10_pages 125 = .ok (.getfield 240, 3) := by decide +kernel
theorem dX10_pages_128 : decode cX10_pages 128 = .ok (.iconst 1, 1) := by decide +kernel
theorem dX10_pages_129 : decode cX10_pages 129 = .ok (.iadd, 1) := by decide +kernel
theorem dX10_pages_130 : decode cX10_pages 130 = .ok (.putfield 240, 3) := by decide +kernel
theorem dX10_pages_133 : decode cX10_pages 133 = .ok (.iinc 3 1, 3) := by decide +kernel
theorem dX10_pages_136 : decode cX10_pages 136 = .ok (.goto (-119), 3) := by decide +kernel
theorem dX10_pages_139 : decode cX10_pages 139 = .ok (.iinc 2 1, 3) := by decide +kernel
theorem dX10_pages_142 : decode cX10_pages 142 = .ok (.goto (-135), 3) := by decide +kernel
theorem dX10_pages_145 : decode cX10_pages 145 = .ok (.return_, 1) := by decide +kernel
set_option maxRecDepth 20000 in
theorem ggX10_page_X10_isPupil : GoodIn wsX10_page wsX10_isPupil := goodIn_r _ [5, 6, 7, 4, 8] (by decide +kernel) (by decide +kernel)
set_option maxRecDepth 20000 in
theorem gX10_page_X10_isPupil : GoodIn wsX10_page (va_wsS RX10 90 yX10_isPupil wsX10_isPupil) := goodIn_app (goodIn_of _ (by decide +kernel)) ggX10_page_X10_isPupil
set_option maxRecDepth 20000 in
theorem ggX10_page_X10_pages : GoodIn wsX10_page wsX10_pages := goodIn_r _ [12, 1, 13, 14, 15, 16, 17, 18, 19, 20, 4, 21, 22, 23, 24, 25, 26, 27, 28, 29, 30, 31, 32, 33, 34, 35, 36, 37, 38, 39, 40, 41, 42, 43, 44, 45, 46, 47, 48, 49, 50, 51, 52, 53, 54, 55, 56, 57, 58, 59, 60, 61, 62, 63, 64, 65, 66, 67, 68, 69, 70, 71, 72, 73, 74, 75, 76, 77, 78, 79, 80, 81, 82, 83, 84, 85, 86, 87, 88, 89, 90, 91, 92, 93, 94, 95, 96, 97, 98, 99, 100, 101, 102, 103] (by decide +kernel) (by decide +kernel)
set_option maxRecDepth 20000 in
theorem gX10_page_X10_pages : GoodIn wsX10_page (wsV RX10 251 RX10 yX10_pages wsX10_pages) := goodIn_app (goodIn_of _ (by decide +kernel)) ggX10_page_X10_pages
theorem dX10_page_0 : decode cX10_page 0 = .ok (.iload_n 1, 1) := by decide +kernel
theorem dX10_page_1 : decode cX10_page 1 = .ok (.invokestatic 90, 3) := by decide +kernel
theorem dX10_page_4 : decode cX10_page 4 = .ok (.ifCond .ne 5, 3) := by decide +kernel
theorem dX10_page_7 : decode cX10_page 7 = .ok (.iconst (-1), 1) := by decide +kernel
theorem dX10_page_8 : decode cX10_page 8 = .ok (.ireturn, 1) := by decide +kernel
theorem dX10_page_9 : decode cX10_page 9 = .ok (.aload_n 0, 1) := by decide +kernel
theorem dX10_page_10 : decode cX10_page 10 = .ok (.iload_n 1, 1) := by decide +kernel
theorem dX10_page_11 : decode cX10_page 11 = .ok (.invokevirtual 251, 3) := by decide +kernel
theorem dX10_page_14 : decode cX10_page 14 = .ok (.aload_n 0, 1) := by decide +kernel
theorem dX10_page_15 : decode cX10_page 15 = .ok (.getfield 240, 3) := by decide +kernel
theorem dX10_page_18 : decode cX10_page 18 = .ok (.ireturn, 1) := by decide +kernel
set_option maxRecDepth 20000 in
theorem ggX10_borne_X10_markedOf : GoodIn wsX10_borne wsX10_markedOf := goodIn_r _ [8, 2, 9, 10, 46, 47, 48, 49, 50, 51, 52, 53, 54, 55, 56, 57, 58, 59, 60, 61, 62, 63, 64, 65, 66, 67, 68, 69, 70, 71, 72, 73, 74, 75, 76, 77, 78, 79, 80, 81, 82, 83, 84, 85] (by decide +kernel) (by decide +kernel)
set_option maxRecDepth 20000 in
theorem gX10_borne_X10_markedOf : GoodIn wsX10_borne (wsV RX10 97 RX10 yX10_markedOf wsX10_markedOf) := goodIn_app (goodIn_of _ (by decide +kernel)) ggX10_borne_X10_markedOf
set_option maxRecDepth 20000 in
theorem ggX10_borne_X10_classOf : GoodIn wsX10_borne wsX10_classOf := goodIn_r _ [14, 15, 4, 5, 6, 7, 8, 2, 9, 10, 16, 17, 18, 19, 20, 46, 47, 48, 49, 50, 51, 52, 53, 54, 55, 56, 57, 58, 59, 60, 61, 62, 63, 64, 65, 66, 67, 68, 69, 70, 71, 72, 73, 74, 75, 76, 77, 78, 79, 80, 81, 82, 83, 84, 85] (by decide +kernel) (by decide +kernel)
set_option maxRecDepth 20000 in
theorem gX10_borne_X10_classOf : GoodIn wsX10_borne (wsV RX10 117 RX10 yX10_classOf wsX10_classOf) := goodIn_app (goodIn_of _ (by decide +kernel)) ggX10_borne_X10_classOf
set_option maxRecDepth 20000 in
theorem ggX10_borne_X10_bits : GoodIn wsX10_borne wsX10_bits := goodIn_r _ [23] (by decide +kernel) (by decide +kernel)
set_option maxRecDepth 20000 in
theorem gX10_borne_X10_bits : GoodIn wsX10_borne (va_wsS RX10 107 yX10_bits wsX10_bits) := goodIn_app (goodIn_of _ (by decide +kernel)) ggX10_borne_X10_bits
set_option maxRecDepth 20000 in
theorem ggX10_borne_X10_isSo : GoodIn wsX10_borne wsX10_isSo := goodIn_r _ [27, 28, 29, 30, 31, 32, 33, 7, 34, 21, 22, 23, 16, 17, 18, 19, 2, 10, 20, 35, 36, 37, 38, 39, 40, 41, 42, 43, 44, 45, 46, 47, 48, 49, 50, 51, 52, 53, 54, 55, 56, 57, 58, 59, 60, 61, 62, 63, 64, 65, 66, 67, 68, 69, 70, 71, 72, 73, 74, 75, 76, 77, 78, 79, 80, 81, 82, 83, 84, 85] (by decide +kernel) (by decide +kernel)
set_option maxRecDepth 20000 in
theorem gX10_borne_X10_isSo : GoodIn wsX10_borne (wsV RX10 247 RX10 yX10_isSo wsX10_isSo) := goodIn_app (goodIn_of _ (by decide +kernel)) ggX10_borne_X10_isSo
theorem dX10_borne_0 : decode cX10_borne 0 = .ok (.aload_n 0, 1) := by decide +kernel
