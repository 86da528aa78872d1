theorem dX3_hasQuestion_0 : decode cX3_hasQuestion 0 = .ok (.iload_n 1, 1) := by decide +kernel
theorem dX3_hasQuestion_1 : decode cX3_hasQuestion 1 = .ok (.ifCond .lt 15, 3) := by decide +kernel
theorem dX3_hasQuestion_4 : decode cX3_hasQuestion 4 = .ok (.iload_n 1, 1) := by decide +kernel
theorem dX3_hasQuestion_5 : decode cX3_hasQuestion 5 = .ok (.aload_n 0, 1) := by decide +kernel
theorem dX3_hasQuestion_6 : decode cX3_hasQuestion 6 = .ok (.getfield 33, 3) := by decide +kernel
theorem dX3_hasQuestion_9 : decode cX3_hasQuestion 9 = .ok (.if_icmp .ge 7, 3) := by decide +kernel
theorem dX3_hasQuestion_12 : decode cX3_hasQuestion 12 = .ok (.iconst 1, 1) := by decide +kernel
theorem dX3_hasQuestion_13 : decode cX3_hasQuestion 13 = .ok (.goto 4, 3) := by decide +kernel
theorem dX3_hasQuestion_16 : decode cX3_hasQuestion 16 = .ok (.iconst 0, 1) := by decide +kernel
theorem dX3_hasQuestion_17 : decode cX3_hasQuestion 17 = .ok (.ireturn, 1) := by decide +kernel
theorem dX3_pointsOf_0 : decode cX3_pointsOf 0 = .ok (.aload_n 0, 1) := by decide +kernel
theorem dX3_pointsOf_1 : decode cX3_pointsOf 1 = .ok (.getfield 18, 3) := by decide +kernel
theorem dX3_pointsOf_4 : decode cX3_pointsOf 4 = .ok (.iload_n 1, 1) := by decide +kernel
theorem dX3_pointsOf_5 : decode cX3_pointsOf 5 = .ok (.bipush 10, 2) := by decide +kernel
theorem dX3_pointsOf_7 : decode cX3_pointsOf 7 = .ok (.imul, 1) := by decide +kernel
theorem dX3_pointsOf_8 : decode cX3_pointsOf 8 = .ok (.iload_n 2, 1) := by decide +kernel
theorem dX3_pointsOf_9 : decode cX3_pointsOf 9 = .ok (.iadd, 1) := by decide +kernel
theorem dX3_pointsOf_10 : decode cX3_pointsOf 10 = .ok (.iaload, 1) := by decide +kernel
theorem dX3_pointsOf_11 : decode cX3_pointsOf 11 = .ok (.ireturn, 1) := by decide +kernel
set_option maxRecDepth 20000 in
theorem ggX3_setPoints_X3_medianOf : GoodIn wsX3_setPoints wsX3_medianOf := goodIn_r _ [7, 8, 9, 10, 11, 6, 12, 13, 14, 15, 16, 17, 18, 1, 19, 20, 21, 22, 23, 24, 25, 26, 27, 28, 29, 30, 31, 32, 33] (by decide +kernel) (by decide +kernel)
set_option maxRecDepth 20000 in
theorem gX3_setPoints_X3_medianOf : GoodIn wsX3_setPoints (wsV RX3 37 RX3 yX3_medianOf wsX3_medianOf) := goodIn_app (goodIn_of _ (by decide +kernel)) ggX3_setPoints_X3_medianOf
theorem dX3_setPoints_0 : decode cX3_setPoints 0 = .ok (.aload_n 0, 1) := by decide +kernel
theorem dX3_setPoints_1 : decode cX3_setPoints 1 = .ok (.getfield 18, 3) := by decide +kernel
theorem dX3_setPoints_4 : decode cX3_setPoints 4 = .ok (.iload_n 1, 1) := by decide +kernel
theorem dX3_setPoints_5 : decode cX3_setPoints 5 = .ok (.bipush 10, 2) := by decide +kernel
theorem dX3_setPoints_7 : decode cX3_setPoints 7 = .ok (.imul, 1) := by decide +kernel
theorem dX3_setPoints_8 : decode cX3_setPoints 8 = .ok (.iload_n 2, 1) := by decide +kernel
theorem dX3_setPoints_9 : decode cX3_setPoints 9 = .ok (.iadd, 1) := by decide +kernel
theorem dX3_setPoints_10 : decode cX3_setPoints 10 = .ok (.iload_n 3, 1) := by decide +kernel
theorem dX3_setPoints_11 : decode cX3_setPoints 11 = .ok (.iastore, 1) := by decide +kernel
theorem dX3_setPoints_12 : decode cX3_setPoints 12 = .ok (.iconst 0, 1) := by decide +kernel
theorem dX3_setPoints_13 : decode cX3_setPoints 13 = .ok (.istore 4, 2) := by decide +kernel
theorem dX3_setPoints_15 : decode cX3_setPoints 15 = .ok (.iload 4, 2) := by decide +kernel
theorem dX3_setPoints_17 : decode cX3_setPoints 17 = .ok (.iconst 5, 1) := by decide +kernel
theorem dX3_setPoints_18 : decode cX3_setPoints 18 = .ok (.if_icmp .ge 22, 3) := by decide +kernel
theorem dX3_setPoints_21 : decode cX3_setPoints 21 = .ok (.aload_n 0, 1) := by decide +kernel
theorem dX3_setPoints_22 : decode cX3_setPoints 22 = .ok (.getfield 21, 3) := by decide +kernel
theorem dX3_setPoints_25 : decode cX3_setPoints 25 = .ok (.iload 4, 2) := by decide +kernel
theorem dX3_setPoints_27 : decode cX3_setPoints 27 = .ok (.aload_n 0, 1) := by decide +kernel
theorem dX3_setPoints_28 : decode cX3_setPoints 28 = .ok (.iload 4, 2) := by decide +kernel
theorem dX3_setPoints_30 : decode cX3_setPoints 30 = .ok (.invokevirtual 37, 3) := by decide +kernel
theorem dX3_setPoints_33 : decode cX3_setPoints 33 = .ok (.iastore, 1) := by decide +kernel
theorem dX3_setPoints_34 : decode cX3_setPoints 34 = .ok (.iinc 4 1, 3) := by decide +kernel
theorem dX3_setPoints_37 : decode cX3_setPoints 37 = .ok (.goto (-22), 3) := by decide +kernel
theorem dX3_setPoints_40 : decode cX3_setPoints 40 = .ok (.return_, 1) := by decide +kernel
set_option maxRecDepth 20000 in
theorem ggX3_hasMark_X3_pointsOf : GoodIn wsX3_hasMark wsX3_pointsOf := goodIn_r _ [6, 7, 8, 9, 10, 11, 12, 13] (by decide +kernel) (by decide +kernel)
set_option maxRecDepth 20000 in
theorem gX3_hasMark_X3_pointsOf : GoodIn wsX3_hasMark (wsV RX3 41 RX3 yX3_pointsOf wsX3_pointsOf) := goodIn_app (goodIn_of _ (by decide +kernel)) ggX3_hasMark_X3_pointsOf
theorem dX3_hasMark_0 : decode cX3_hasMark 0 = .ok (.iconst 0, 1) := by decide +kernel
theorem dX3_hasMark_1 : decode cX3_hasMark 1 = .ok (.istore_n 2, 1) := by decide +kernel
theorem dX3_hasMark_2 : decode cX3_hasMark 2 = .ok (.iload_n 2, 1) := by decide +kernel
theorem dX3_hasMark_3 : decode cX3_hasMark 3 = .ok (.aload_n 0, 1) := by decide +kernel
theorem dX3_hasMark_4 : decode cX3_hasMark 4 = .ok (.getfield 33, 3) := by decide +kernel
theorem dX3_hasMark_7 : decode cX3_hasMark 7 = .ok (.if_icmp .ge 21, 3) := by decide +kernel
theorem dX3_hasMark_10 : decode cX3_hasMark 10 = .ok (.aload_n 0, 1) := by decide +kernel
theorem dX3_hasMark_11 : decode cX3_hasMark 11 = .ok (.iload_n 1, 1) := by decide +kernel
theorem dX3_hasMark_12 : decode cX3_hasMark 12 = .ok (.iload_n 2, 1) := by decide +kernel
theorem dX3_hasMark_13 : decode cX3_hasMark 13 = .ok (.invokevirtual 41, 3) := by decide +kernel
theorem dX3_hasMark_16 : decode cX3_hasMark 16 = .ok (.iconst (-1), 1) := by decide +kernel
theorem dX3_hasMark_17 : decode cX3_hasMark 17 = .ok (.if_icmp .eq 5, 3) := by decide +kernel
theorem dX3_hasMark_20 : decode cX3_hasMark 20 = .ok (.iconst 1, 1) := by decide +kernel
theorem dX3_hasMark_21 : decode cX3_hasMark 21 = .ok (.ireturn, 1) := by decide +kernel
theorem dX3_hasMark_22 : decode cX3_hasMark 22 = .ok (.iinc 2 1, 3) := by decide +kernel
theorem dX3_hasMark_25 : decode cX3_hasMark 25 = .ok (.goto (-23), 3) := by decide +kernel
theorem dX3_hasMark_28 : decode cX3_hasMark 28 = .ok (.iconst 0, 1) := by decide +kernel
theorem dX3_hasMark_29 : decode cX3_hasMark 29 = .ok (.ireturn, 1) := by decide +kernel
set_option maxRecDepth 20000 in
theorem ggX3_markedOf_X3_pointsOf : GoodIn wsX3_markedOf wsX3_pointsOf := goodIn_r _ [7, 8, 9, 10, 11, 12, 13, 14] (by decide +kernel) (by decide +kernel)
set_option maxRecDepth 20000 in
theorem gX3_markedOf_X3_pointsOf : GoodIn wsX3_markedOf (wsV RX3 41 RX3 yX3_pointsOf wsX3_pointsOf) := goodIn_app (goodIn_of _ (by decide +kernel)) ggX3_markedOf_X3_pointsOf
theorem dX3_markedOf_0 : decode cX3_markedOf 0 = .ok (.iconst 0, 1) := by decide +kernel
theorem dX3_markedOf_1 : decode cX3_markedOf 1 = .ok (.istore_n 3, 1) := by decide +kernel
theorem dX3_markedOf_2 : decode cX3_markedOf 2 = .ok (.iconst 0, 1) := by decide +kernel
theorem dX3_markedOf_3 : decode cX3_markedOf 3 = .ok (.istore 4, 2) := by decide +kernel
theorem dX3_markedOf_5 : decode cX3_markedOf 5 = .ok (.iload 4, 2) := by decide +kernel
theorem dX3_markedOf_7 : decode cX3_markedOf 7 = .ok (.aload_n 0, 1) := by decide +kernel
theorem dX3_markedOf_8 : decode cX3_markedOf 8 = .ok (.getfield 33, 3) := by decide +kernel
theorem dX3_markedOf_11 : decode cX3_markedOf 11 = .ok (.if_icmp .ge 42, 3) := by decide +kernel
theorem dX3_markedOf_14 : decode cX3_markedOf 14 = .ok (.aload_n 0, 1) := by decide +kernel
theorem dX3_markedOf_15 : decode cX3_markedOf 15 = .ok (.getfield 15, 3) := by decide +kernel
theorem dX3_markedOf_18 : decode cX3_markedOf 18 = .ok (.iload 4, 2) := by decide +kernel
theorem dX3_markedOf_20 : decode cX3_markedOf 20 = .ok (.iaload, 1) := by decide +kernel
theorem dX3_markedOf_21 : decode cX3_markedOf 21 = .ok (.iload_n 2, 1) := by decide +kernel
theorem dX3_markedOf_22 : decode cX3_markedOf 22 = .ok (.ishr, 1) := by decide +kernel
theorem dX3_markedOf_23 : decode cX3_markedOf 23 = .ok (.iconst 1, 1) := by decide +kernel
theorem dX3_markedOf_24 : decode cX3_markedOf 24 = .ok (.iand, 1) := by decide +kernel
theorem dX3_markedOf_25 : decode cX3_markedOf 25 = .ok (.iconst 1, 1) := by decide +kernel
theorem dX3_markedOf_26 : decode cX3_markedOf 26 = .ok (.if_icmp .ne 21, 3) := by decide +kernel
theorem dX3_markedOf_29 : decode cX3_markedOf 29 = .ok (.aload_n 0, 1) := by decide +kernel
theorem dX3_markedOf_30 : decode cX3_markedOf 30 = .ok (.iload_n 1, 1) := by decide +kernel
theorem dX3_markedOf_31 : decode cX3_markedOf 31 = .ok (.iload 4, 2) := by decide +kernel
theorem dX3_markedOf_33 : decode cX3_markedOf 33 = .ok (.invokevirtual 41, 3) := by decide +kernel
theorem dX3_markedOf_36 : decode cX3_markedOf 36 = .ok (.iconst (-1), 1) := by decide +kernel
theorem dX3_markedOf_37 : decode cX3_markedOf 37 = .ok (.if_icmp .eq 10, 3) := by decide +kernel
theorem dX3_markedOf_40 : decode cX3_markedOf 40 = .ok (.iload_n 3, 1) := by decide +kernel
theorem dX3_markedOf_41 : decode cX3_markedOf 41 = .ok (.iconst 1, 1) := by decide +kernel
theorem dX3_markedOf_42 : decode cX3_markedOf 42 = .ok (.iload 4, 2) := by decide +kernel
theorem dX3_markedOf_44 : decode cX3_markedOf 44 = .ok (.ishl, 1) := by decide +kernel
theorem dX3_markedOf_45 : decode cX3_markedOf 45 = .ok (.ior, 1) := by decide +kernel
theorem dX3_markedOf_46 : decode cX3_markedOf 46 = .ok (.istore_n 3, 1) := by decide +kernel
theorem dX3_markedOf_47 : decode cX3_markedOf 47 = .ok (.iinc 4 1, 3) := by decide +kernel
theorem dX3_markedOf_50 : decode cX3_markedOf 50 = .ok (.goto (-45), 3) := by decide +kernel
theorem dX3_markedOf_53 : decode cX3_markedOf 53 = .ok (.iload_n 3, 1) := by decide +kernel
theorem dX3_markedOf_54 : decode cX3_markedOf 54 = .ok (.ireturn, 1) := by decide +kernel
set_option maxRecDepth 20000 in
theorem ggX3_measure_J6_bitCount_0f7a4 : GoodIn wsX3_measure wsJ6_bitCount_0f7a4 := goodIn_r _ [5, 6, 7, 8] (by decide +kernel) (by decide +kernel)
set_option maxRecDepth 20000 in
theorem gX3_measure_J6_bitCount_0f7a4 : GoodIn wsX3_measure (va_wsS RX3 45 yJ6_bitCount_0f7a4 wsJ6_bitCount_0f7a4) := goodIn_app (goodIn_of _ (by decide +kernel)) ggX3_measure_J6_bitCount_0f7a4
set_option maxRecDepth 20000 in
theorem ggX3_measure_X3_shareBy : GoodIn wsX3_measure wsX3_shareBy := goodIn_r _ [13, 14, 15, 16, 17, 18, 12, 19, 20, 29, 30, 31, 32, 33, 34] (by decide +kernel) (by decide +kernel)
set_option maxRecDepth 20000 in
theorem gX3_measure_X3_shareBy : GoodIn wsX3_measure (wsV RX3 50 RX3 yX3_shareBy wsX3_shareBy) := goodIn_app (goodIn_of _ (by decide +kernel)) ggX3_measure_X3_shareBy
set_option maxRecDepth 20000 in
theorem ggX3_measure_X3_missedBy : GoodIn wsX3_measure wsX3_missedBy := goodIn_r _ [24, 14, 16, 17, 18, 12, 19, 20, 29, 30, 31, 32, 33, 34] (by decide +kernel) (by decide +kernel)
set_option maxRecDepth 20000 in
theorem gX3_measure_X3_missedBy : GoodIn wsX3_measure (wsV RX3 53 RX3 yX3_missedBy wsX3_missedBy) := goodIn_app (goodIn_of _ (by decide +kernel)) ggX3_measure_X3_missedBy
set_option maxRecDepth 20000 in
theorem ggX3_measure_X3_lastOf : GoodIn wsX3_measure wsX3_lastOf := goodIn_r _ [28, 14, 29, 30, 31, 32, 33, 34] (by decide +kernel) (by decide +kernel)
set_option maxRecDepth 20000 in
theorem gX3_measure_X3_lastOf : GoodIn wsX3_measure (wsV RX3 56 RX3 yX3_lastOf wsX3_lastOf) := goodIn_app (goodIn_of _ (by decide +kernel)) ggX3_measure_X3_lastOf
theorem dX3_measure_0 : decode cX3_measure 0 = .ok (.aload 4, 2) := by decide +kernel
theorem dX3_measure_2 : decode cX3_measure 2 = .ok (.iconst 0, 1) := by decide +kernel
theorem dX3_measure_3 : decode cX3_measure 3 = .ok (.iload_n 3, 1) := by decide +kernel
theorem dX3_measure_4 : decode cX3_measure 4 = .ok (.invokestatic 45, 3) := by decide +kernel
theorem dX3_measure_7 : decode cX3_measure 7 = .ok (.iastore, 1) := by decide +kernel
theorem dX3_measure_8 : decode cX3_measure 8 = .ok (.aload 4, 2) := by decide +kernel
theorem dX3_measure_10 : decode cX3_measure 10 = .ok (.iconst 1, 1) := by decide +kernel
theorem dX3_measure_11 : decode cX3_measure 11 = .ok (.aload_n 0, 1) := by decide +kernel
theorem dX3_measure_12 : decode cX3_measure 12 = .ok (.iload_n 1, 1) := by decide +kernel
theorem dX3_measure_13 : decode cX3_measure 13 = .ok (.iload_n 3, 1) := by decide +kernel
theorem dX3_measure_14 : decode cX3_measure 14 = .ok (.invokevirtual 50, 3) := by decide +kernel
theorem dX3_measure_17 : decode cX3_measure 17 = .ok (.iastore, 1) := by decide +kernel
theorem dX3_measure_18 : decode cX3_measure 18 = .ok (.aload 4, 2) := by decide +kernel
theorem dX3_measure_20 : decode cX3_measure 20 = .ok (.iconst 2, 1) := by decide +kernel
theorem dX3_measure_21 : decode cX3_measure 21 = .ok (.aload_n 0, 1) := by decide +kernel
theorem dX3_measure_22 : decode cX3_measure 22 = .ok (.iload_n 1, 1) := by decide +kernel
theorem dX3_measure_23 : decode cX3_measure 23 = .ok (.iload_n 3, 1) := by decide +kernel
theorem dX3_measure_24 : decode cX3_measure 24 = .ok (.invokevirtual 53, 3) := by decide +kernel
theorem dX3_measure_27 : decode cX3_measure 27 = .ok (.iastore, 1) := by decide +kernel
theorem dX3_measure_28 : decode cX3_measure 28 = .ok (.aload 4, 2) := by decide +kernel
theorem dX3_measure_30 : decode cX3_measure 30 = .ok (.iconst 3, 1) := by decide +kernel
theorem dX3_measure_31 : decode cX3_measure 31 = .ok (.aload_n 0, 1) := by decide +kernel
theorem dX3_measure_32 : decode cX3_measure 32 = .ok (.iload_n 1, 1) := by decide +kernel
theorem dX3_measure_33 : decode cX3_measure 33 = .ok (.aload_n 0, 1) := by decide +kernel
theorem dX3_measure_34 : decode cX3_measure 34 = .ok (.iload_n 3, 1) := by decide +kernel
theorem dX3_measure_35 : decode cX3_measure 35 = .ok (.invokevirtual 56, 3) := by decide +kernel
theorem dX3_measure_38 : decode cX3_measure 38 = .ok (.invokevirtual 50, 3) := by decide +kernel
theorem dX3_measure_41 : decode cX3_measure 41 = .ok (.iastore, 1) := by decide +kernel
theorem dX3_measure_42 : decode cX3_measure 42 = .ok (.aload 4, 2) := by decide +kernel
theorem dX3_measure_44 : decode cX3_measure 44 = .ok (.iconst 4, 1) := by decide +kernel
theorem dX3_measure_45 : decode cX3_measure 45 = .ok (.aload_n 0, 1) := by decide +kernel
theorem dX3_measure_46 : decode cX3_measure 46 = .ok (.getfield 21, 3) := by decide +kernel
theorem dX3_measure_49 : decode cX3_measure 49 = .ok (.iload_n 2, 1) := by decide +kernel
theorem dX3_measure_50 : decode cX3_measure 50 = .ok (.iaload, 1) := by decide +kernel
theorem dX3_measure_51 : decode cX3_measure 51 = .ok (.iastore, 1) := by decide +kernel
theorem dX3_measure_52 : decode cX3_measure 52 = .ok (.return_, 1) := by decide +kernel
set_option maxRecDepth 20000 in
theorem ggX3_shareBy_X3_pointsOf : GoodIn wsX3_shareBy wsX3_pointsOf := goodIn_r _ [7, 8, 9, 10, 11, 12, 13, 14] (by decide +kernel) (by decide +kernel)
set_option maxRecDepth 20000 in
theorem gX3_shareBy_X3_pointsOf : GoodIn wsX3_shareBy (wsV RX3 41 RX3 yX3_pointsOf wsX3_pointsOf) := goodIn_app (goodIn_of _ (by decide +kernel)) ggX3_shareBy_X3_pointsOf
theorem dX3_shareBy_0 : decode cX3_shareBy 0 = .ok (.iconst 0, 1) := by decide +kernel
theorem dX3_shareBy_1 : decode cX3_shareBy 1 = .ok (.istore_n 3, 1) := by decide +kernel
theorem dX3_shareBy_2 : decode cX3_shareBy 2 = .ok (.iconst 0, 1) := by decide +kernel
theorem dX3_shareBy_3 : decode cX3_shareBy 3 = .ok (.istore 4, 2) := by decide +kernel
theorem dX3_shareBy_5 : decode cX3_shareBy 5 = .ok (.iconst 0, 1) := by decide +kernel
theorem dX3_shareBy_6 : decode cX3_shareBy 6 = .ok (.istore 5, 2) := by decide +kernel
theorem dX3_shareBy_8 : decode cX3_shareBy 8 = .ok (.iload 5, 2) := by decide +kernel
theorem dX3_shareBy_10 : decode cX3_shareBy 10 = .ok (.aload_n 0, 1) := by decide +kernel
theorem dX3_shareBy_11 : decode cX3_shareBy 11 = .ok (.getfield 33, 3) := by decide +kernel
theorem dX3_shareBy_14 : decode cX3_shareBy 14 = .ok (.if_icmp .ge 41, 3) := by decide +kernel
theorem dX3_shareBy_17 : decode cX3_shareBy 17 = .ok (.iload_n 2, 1) := by decide +kernel
theorem dX3_shareBy_18 : decode cX3_shareBy 18 = .ok (.iload 5, 2) := by decide +kernel
theorem dX3_shareBy_20 : decode cX3_shareBy 20 = .ok (.ishr, 1) := by decide +kernel
theorem dX3_shareBy_21 : decode cX3_shareBy 21 = .ok (.iconst 1, 1) := by decide +kernel
theorem dX3_shareBy_22 : decode cX3_shareBy 22 = .ok (.iand, 1) := by decide +kernel
theorem dX3_shareBy_23 : decode cX3_shareBy 23 = .ok (.iconst 1, 1) := by decide +kernel
theorem dX3_shareBy_24 : decode cX3_shareBy 24 = .ok (.if_icmp .ne 25, 3) := by decide +kernel
theorem dX3_shareBy_27 : decode cX3_shareBy 27 = .ok (.iload_n 3, 1) := by decide +kernel
theorem dX3_shareBy_28 : decode cX3_shareBy 28 = .ok (.aload_n 0, 1) := by decide +kernel
theorem dX3_shareBy_29 : decode cX3_shareBy 29 = .ok (.iload_n 1, 1) := by decide +kernel
theorem dX3_shareBy_30 : decode cX3_shareBy 30 = .ok (.iload 5, 2) := by decide +kernel
theorem dX3_shareBy_32 : decode cX3_shareBy 32 = .ok (.invokevirtual 41, 3) := by decide +kernel
theorem dX3_shareBy_35 : decode cX3_shareBy 35 = .ok (.iadd, 1) := by decide +kernel
theorem dX3_shareBy_36 : decode cX3_shareBy 36 = .ok (.istore_n 3, 1) := by decide +kernel
theorem dX3_shareBy_37 : decode cX3_shareBy 37 = .ok (.iload 4, 2) := by decide +kernel
theorem dX3_shareBy_39 : decode cX3_shareBy 39 = .ok (.aload_n 0, 1) := by decide +kernel
theorem dX3_shareBy_40 : decode cX3_shareBy 40 = .ok (.getfield 9, 3) := by decide +kernel
theorem dX3_shareBy_43 : decode cX3_shareBy 43 = .ok (.iload 5, 2) := by decide +kernel
theorem dX3_shareBy_45 : decode cX3_shareBy 45 = .ok (.iaload, 1) := by decide +kernel
theorem dX3_shareBy_46 : decode cX3_shareBy 46 = .ok (.iadd, 1) := by decide +kernel
theorem dX3_shareBy_47 : decode cX3_shareBy 47 = .ok (.istore 4, 2) := by decide +kernel
theorem dX3_shareBy_49 : decode cX3_shareBy 49 = .ok (.iinc 5 1, 3) := by decide +kernel
theorem dX3_shareBy_52 : decode cX3_shareBy 52 = .ok (.goto (-44), 3) := by decide +kernel
theorem dX3_shareBy_55 : decode cX3_shareBy 55 = .ok (.iload 4, 2) := by decide +kernel
theorem dX3_shareBy_57 : decode cX3_shareBy 57 = .ok (.ifCond .le 13, 3) := by decide +kernel
theorem dX3_shareBy_60 : decode cX3_shareBy 60 = .ok (.bipush 100, 2) := by decide +kernel
theorem dX3_shareBy_62 : decode cX3_shareBy 62 = .ok (.iload_n 3, 1) := by decide +kernel
theorem dX3_shareBy_63 : decode cX3_shareBy 63 = .ok (.imul, 1) := by decide +kernel
theorem dX3_shareBy_64 : decode cX3_shareBy 64 = .ok (.iload 4, 2) := by decide +kernel
theorem dX3_shareBy_66 : decode cX3_shareBy 66 = .ok (.idiv, 1) := by decide +kernel
theorem dX3_shareBy_67 : decode cX3_shareBy 67 = .ok (.goto 4, 3) := by decide +kernel
theorem dX3_shareBy_70 : decode cX3_shareBy 70 = .ok (.iconst 0, 1) := by decide +kernel
theorem dX3_shareBy_71 : decode cX3_shareBy 71 = .ok (.ireturn, 1) := by decide +kernel
theorem dX3_lastOf_0 : decode cX3_lastOf 0 = .ok (.iconst 0, 1) := by decide +kernel
theorem dX3_lastOf_1 : decode cX3_lastOf 1 = .ok (.istore_n 2, 1) := by decide +kernel
theorem dX3_lastOf_2 : decode cX3_lastOf 2 = .ok (.iconst 0, 1) := by decide +kernel
theorem dX3_lastOf_3 : decode cX3_lastOf 3 = .ok (.istore_n 3, 1) := by decide +kernel
theorem dX3_lastOf_4 : decode cX3_lastOf 4 = .ok (.iload_n 3, 1) := by decide +kernel
theorem dX3_lastOf_5 : decode cX3_lastOf 5 = .ok (.aload_n 0, 1) := by decide +kernel
theorem dX3_lastOf_6 : decode cX3_lastOf 6 = .ok (.getfield 33, 3) := by decide +kernel
theorem dX3_lastOf_9 : decode cX3_lastOf 9 = .ok (.if_icmp .ge 22, 3) := by decide +kernel
theorem dX3_lastOf_12 : decode cX3_lastOf 12 = .ok (.iload_n 1, 1) := by decide +kernel
theorem dX3_lastOf_13 : decode cX3_lastOf 13 = .ok (.iload_n 3, 1) := by decide +kernel
theorem dX3_lastOf_14 : decode cX3_lastOf 14 = .ok (.ishr, 1) := by decide +kernel
theorem dX3_lastOf_15 : decode cX3_lastOf 15 = .ok (.iconst 1, 1) := by decide +kernel
theorem dX3_lastOf_16 : decode cX3_lastOf 16 = .ok (.iand, 1) := by decide +kernel
theorem dX3_lastOf_17 : decode cX3_lastOf 17 = .ok (.iconst 1, 1) := by decide +kernel
theorem dX3_lastOf_18 : decode cX3_lastOf 18 = .ok (.if_icmp .ne 7, 3) := by decide +kernel
theorem dX3_lastOf_21 : decode cX3_lastOf 21 = .ok (.iconst 1, 1) := by decide +kernel
theorem dX3_lastOf_22 : decode cX3_lastOf 22 = .ok (.iload_n 3, 1) := by decide +kernel
theorem dX3_lastOf_23 : decode cX3_lastOf 23 = .ok (.ishl, 1) := by decide +kernel
theorem dX3_lastOf_24 : decode cX3_lastOf 24 = .ok (.istore_n 2, 1) := by decide +kernel
theorem dX3_lastOf_25 : decode cX3_lastOf 25 = .ok (.iinc 3 1, 3) := by decide +kernel
theorem dX3_lastOf_28 : decode cX3_lastOf 28 = .ok (.goto (-24), 3) := by decide +kernel
theorem dX3_lastOf_31 : decode cX3_lastOf 31 = .ok (.iload_n 2, 1) := by decide +kernel
theorem dX3_lastOf_32 : decode cX3_lastOf 32 = .ok (.ireturn, 1) := by decide +kernel
set_option maxRecDepth 20000 in
theorem ggX3_missedBy_X3_pointsOf : GoodIn wsX3_missedBy wsX3_pointsOf := goodIn_r _ [6, 7, 8, 9, 10, 11, 12, 13] (by decide +kernel) (by decide +kernel)
set_option maxRecDepth 20000 in
theorem gX3_missedBy_X3_pointsOf : GoodIn wsX3_missedBy (wsV RX3 41 RX3 yX3_pointsOf wsX3_pointsOf) := goodIn_app (goodIn_of _ (by decide +kernel)) ggX3_missedBy_X3_pointsOf
theorem dX3_missedBy_0 : decode cX3_missedBy 0 = .ok (.iconst 0, 1) := by decide +kernel
theorem dX3_missedBy_1 : decode cX3_missedBy 1 = .ok (.istore_n 3, 1) := by decide +kernel
theorem dX3_missedBy_2 : decode cX3_missedBy 2 = .ok (.iconst 0, 1) := by decide +kernel
theorem dX3_missedBy_3 : decode cX3_missedBy 3 = .ok (.istore 4, 2) := by decide +kernel
theorem dX3_missedBy_5 : decode cX3_missedBy 5 = .ok (.iload 4, 2) := by decide +kernel
theorem dX3_missedBy_7 : decode cX3_missedBy 7 = .ok (.aload_n 0, 1) := by decide +kernel
theorem dX3_missedBy_8 : decode cX3_missedBy 8 = .ok (.getfield 33, 3) := by decide +kernel
theorem dX3_missedBy_11 : decode cX3_missedBy 11 = .ok (.if_icmp .ge 32, 3) := by decide +kernel
theorem dX3_missedBy_14 : decode cX3_missedBy 14 = .ok (.iload_n 2, 1) := by decide +kernel
theorem dX3_missedBy_15 : decode cX3_missedBy 15 = .ok (.iload 4, 2) := by decide +kernel
theorem dX3_missedBy_17 : decode cX3_missedBy 17 = .ok (.ishr, 1) := by decide +kernel
theorem dX3_missedBy_18 : decode cX3_missedBy 18 = .ok (.iconst 1, 1) := by decide +kernel
theorem dX3_missedBy_19 : decode cX3_missedBy 19 = .ok (.iand, 1) := by decide +kernel
theorem dX3_missedBy_20 : decode cX3_missedBy 20 = .ok (.iconst 1, 1) := by decide +kernel
theorem dX3_missedBy_21 : decode cX3_missedBy 21 = .ok (.if_icmp .ne 16, 3) := by decide +kernel
theorem dX3_missedBy_24 : decode cX3_missedBy 24 = .ok (.aload_n 0, 1) := by decide +kernel
theorem dX3_missedBy_25 : decode cX3_missedBy 25 = .ok (.iload_n 1, 1) := by decide +kernel
theorem dX3_missedBy_26 : decode cX3_missedBy 26 = .ok (.iload 4, 2) := by decide +kernel
theorem dX3_missedBy_28 : decode cX3_missedBy 28 = .ok (.invokevirtual 41, 3) := by decide +kernel
theorem dX3_missedBy_31 : decode cX3_missedBy 31 = .ok (.ifCond .ne 6, 3) := by decide +kernel
theorem dX3_missedBy_34 : decode cX3_missedBy 34 = .ok (.iinc 3 1, 3) := by decide +kernel
theorem dX3_missedBy_37 : decode cX3_missedBy 37 = .ok (.iinc 4 1, 3) := by decide +kernel
theorem dX3_missedBy_40 : decode cX3_missedBy 40 = .ok (.goto (-35), 3) := by decide +kernel
theorem dX3_missedBy_43 : decode cX3_missedBy 43 = .ok (.iload_n 3, 1) := by decide +kernel
theorem dX3_missedBy_44 : decode cX3_missedBy 44 = .ok (.ireturn, 1) := by decide +kernel
set_option maxRecDepth 20000 in
theorem ggX3_medianOf_X3_markedOf : GoodIn wsX3_medianOf wsX3_markedOf := goodIn_r _ [6, 7, 8, 9, 10, 11, 5, 12, 13, 23, 24, 25, 26, 27, 28] (by decide +kernel) (by decide +kernel)
set_option maxRecDepth 20000 in
theorem gX3_medianOf_X3_markedOf : GoodIn wsX3_medianOf (wsV RX3 59 RX3 yX3_markedOf wsX3_markedOf) := goodIn_app (goodIn_of _ (by decide +kernel)) ggX3_medianOf_X3_markedOf
set_option maxRecDepth 20000 in
theorem ggX3_medianOf_X3_shareBy : GoodIn wsX3_medianOf wsX3_shareBy := goodIn_r _ [17, 7, 18, 9, 10, 11, 5, 12, 13, 23, 24, 25, 26, 27, 28] (by decide +kernel) (by decide +kernel)
set_option maxRecDepth 20000 in
theorem gX3_medianOf_X3_shareBy : GoodIn wsX3_medianOf (wsV RX3 50 RX3 yX3_shareBy wsX3_shareBy) := goodIn_app (goodIn_of _ (by decide +kernel)) ggX3_medianOf_X3_shareBy
set_option maxRecDepth 20000 in
theorem ggX3_medianOf_X3_insertRising : GoodIn wsX3_medianOf wsX3_insertRising := goodIn_r _ [22, 1, 23, 24, 25, 26, 27, 28] (by decide +kernel) (by decide +kernel)
set_option maxRecDepth 20000 in
theorem gX3_medianOf_X3_insertRising : GoodIn wsX3_medianOf (wsV RX3 62 RX3 yX3_insertRising wsX3_insertRising) := goodIn_app (goodIn_of _ (by decide +kernel)) ggX3_medianOf_X3_insertRising
theorem dX3_medianOf_0 : decode cX3_medianOf 0 = .ok (.iconst 0, 1) := by decide +kernel
theorem dX3_medianOf_1 : decode cX3_medianOf 1 = .ok (.istore_n 2, 1) := by decide +kernel
theorem dX3_medianOf_2 : decode cX3_medianOf 2 = .ok (.iconst 0, 1) := by decide +kernel
theorem dX3_medianOf_3 : decode cX3_medianOf 3 = .ok (.istore_n 3, 1) := by decide +kernel
theorem dX3_medianOf_4 : decode cX3_medianOf 4 = .ok (.iload_n 3, 1) := by decide +kernel
theorem dX3_medianOf_5 : decode cX3_medianOf 5 = .ok (.bipush 8, 2) := by decide +kernel
theorem dX3_medianOf_7 : decode cX3_medianOf 7 = .ok (.if_icmp .ge 37, 3) := by decide +kernel
theorem dX3_medianOf_10 : decode cX3_medianOf 10 = .ok (.aload_n 0, 1) := by decide +kernel
theorem dX3_medianOf_11 : decode cX3_medianOf 11 = .ok (.iload_n 3, 1) := by decide +kernel
theorem dX3_medianOf_12 : decode cX3_medianOf 12 = .ok (.iload_n 1, 1) := by decide +kernel
theorem dX3_medianOf_13 : decode cX3_medianOf 13 = .ok (.invokevirtual 59, 3) := by decide +kernel
theorem dX3_medianOf_16 : decode cX3_medianOf 16 = .ok (.istore 4, 2) := by decide +kernel
theorem dX3_medianOf_18 : decode cX3_medianOf 18 = .ok (.iload 4, 2) := by decide +kernel
theorem dX3_medianOf_20 : decode cX3_medianOf 20 = .ok (.ifCond .eq 18, 3) := by decide +kernel
theorem dX3_medianOf_23 : decode cX3_medianOf 23 = .ok (.aload_n 0, 1) := by decide +kernel
theorem dX3_medianOf_24 : decode cX3_medianOf 24 = .ok (.iload_n 2, 1) := by decide +kernel
theorem dX3_medianOf_25 : decode cX3_medianOf 25 = .ok (.aload_n 0, 1) := by decide +kernel
theorem dX3_medianOf_26 : decode cX3_medianOf 26 = .ok (.iload_n 3, 1) := by decide +kernel
theorem dX3_medianOf_27 : decode cX3_medianOf 27 = .ok (.iload 4, 2) := by decide +kernel
theorem dX3_medianOf_29 : decode cX3_medianOf 29 = .ok (.invokevirtual 50, 3) := by decide +kernel
theorem dX3_medianOf_32 : decode cX3_medianOf 32 = .ok (.invokevirtual 62, 3) := by decide +kernel
theorem dX3_medianOf_35 : decode cX3_medianOf 35 = .ok (.iinc 2 1, 3) := by decide +kernel
theorem dX3_medianOf_38 : decode cX3_medianOf 38 = .ok (.iinc 3 1, 3) := by decide +kernel
theorem dX3_medianOf_41 : decode cX3_medianOf 41 = .ok (.goto (-37), 3) := by decide +kernel
theorem dX3_medianOf_44 : decode cX3_medianOf 44 = .ok (.iload_n 2, 1) := by decide +kernel
theorem dX3_medianOf_45 : decode cX3_medianOf 45 = .ok (.ifCond .le 16, 3) := by decide +kernel
theorem dX3_medianOf_48 : decode cX3_medianOf 48 = .ok (.aload_n 0, 1) := by decide +kernel
theorem dX3_medianOf_49 : decode cX3_medianOf 49 = .ok (.getfield 24, 3) := by decide +kernel
theorem dX3_medianOf_52 : decode cX3_medianOf 52 = .ok (.iload_n 2, 1) := by decide +kernel
theorem dX3_medianOf_53 : decode cX3_medianOf 53 = .ok (.iconst 1, 1) := by decide +kernel
theorem dX3_medianOf_54 : decode cX3_medianOf 54 = .ok (.isub, 1) := by decide +kernel
theorem dX3_medianOf_55 : decode cX3_medianOf 55 = .ok (.iconst 2, 1) := by decide +kernel
theorem dX3_medianOf_56 : decode cX3_medianOf 56 = .ok (.idiv, 1) := by decide +kernel
theorem dX3_medianOf_57 : decode cX3_medianOf 57 = .ok (.iaload, 1) := by decide +kernel
theorem dX3_medianOf_58 : decode cX3_medianOf 58 = .ok (.goto 4, 3) := by decide +kernel
theorem dX3_medianOf_61 : decode cX3_medianOf 61 = .ok (.iconst 0, 1) := by decide +kernel
theorem dX3_medianOf_62 : decode cX3_medianOf 62 = .ok (.ireturn, 1) := by decide +kernel
theorem dX3_insertRising_0 : decode cX3_insertRising 0 = .ok (.iload_n 1, 1) := by decide +kernel
theorem dX3_insertRising_1 : decode cX3_insertRising 1 = .ok (.istore_n 3, 1) := by decide +kernel
theorem dX3_insertRising_2 : decode cX3_insertRising 2 = .ok (.iload_n 1, 1) := by decide +kernel
theorem dX3_insertRising_3 : decode cX3_insertRising 3 = .ok (.istore 4, 2) := by decide +kernel
theorem dX3_insertRising_5 : decode cX3_insertRising 5 = .ok (.iload 4, 2) := by decide +kernel
theorem dX3_insertRising_7 : decode cX3_insertRising 7 = .ok (.ifCond .le 43, 3) := by decide +kernel
theorem dX3_insertRising_10 : decode cX3_insertRising 10 = .ok (.aload_n 0, 1) := by decide +kernel
theorem dX3_insertRising_11 : decode cX3_insertRising 11 = .ok (.getfield 24, 3) := by decide +kernel
theorem dX3_insertRising_14 : decode cX3_insertRising 14 = .ok (.iload 4, 2) := by decide +kernel
theorem dX3_insertRising_16 : decode cX3_insertRising 16 = .ok (.iconst 1, 1) := by decide +kernel
theorem dX3_insertRising_17 : decode cX3_insertRising 17 = .ok (.isub, 1) := by decide +kernel
theorem dX3_insertRising_18 : decode cX3_insertRising 18 = .ok (.iaload, 1) := by decide +kernel
theorem dX3_insertRising_19 : decode cX3_insertRising 19 = .ok (.iload_n 2, 1) := by decide +kernel
theorem dX3_insertRising_20 : decode cX3_insertRising 20 = .ok (.if_icmp .le 30, 3) := by decide +kernel
theorem dX3_insertRising_23 : decode cX3_insertRising 23 = .ok (.aload_n 0, 1) := by decide +kernel
theorem dX3_insertRising_24 : decode cX3_insertRising 24 = .ok (.getfield 24, 3) := by decide +kernel
theorem dX3_insertRising_27 : decode cX3_insertRising 27 = .ok (.iload 4, 2) := by decide +kernel
theorem dX3_insertRising_29 : decode cX3_insertRising 29 = .ok (.aload_n 0, 1) := by decide +kernel
theorem dX3_insertRising_30 : decode cX3_insertRising 30 = .ok (.getfield 24, 3) := by decide +kernel
theorem dX3_insertRising_33 : decode cX3_insertRising 33 = .ok (.iload 4, 2) := by decide +kernel
theorem dX3_insertRising_35 : decode cX3_insertRising 35 = .ok (.iconst 1, 1) := by decide +kernel
theorem dX3_insertRising_36 : decode cX3_insertRising 36 = .ok (.isub, 1) := by decide +kernel
theorem dX3_insertRising_37 : decode cX3_insertRising 37 = .ok (.iaload, 1) := by decide +kernel
theorem dX3_insertRising_38 : decode cX3_insertRising 38 = .ok (.iastore, 1) := by decide +kernel
theorem dX3_insertRising_39 : decode cX3_insertRising 39 = .ok (.iload 4, 2) := by decide +kernel
theorem dX3_insertRising_41 : decode cX3_insertRising 41 = .ok (.iconst 1, 1) := by decide +kernel
theorem dX3_insertRising_42 : decode cX3_insertRising 42 = .ok (.isub, 1) := by decide +kernel
theorem dX3_insertRising_43 : decode cX3_insertRising 43 = .ok (.istore_n 3, 1) := by decide +kernel
theorem dX3_insertRising_44 : decode cX3_insertRising 44 = .ok (.iinc 4 (-1), 3) := by decide +kernel
theorem dX3_insertRising_47 : decode cX3_insertRising 47 = .ok (.goto (-42), 3) := by decide +kernel
theorem dX3_insertRising_50 : decode cX3_insertRising 50 = .ok (.aload_n 0, 1) := by decide +kernel
theorem dX3_insertRising_51 : decode cX3_insertRising 51 = .ok (.getfield 24, 3) := by decide +kernel
theorem dX3_insertRising_54 : decode cX3_insertRising 54 = .ok (.iload_n 3, 1) := by decide +kernel
theorem dX3_insertRising_55 : decode cX3_insertRising 55 = .ok (.iload_n 2, 1) := by decide +kernel
theorem dX3_insertRising_56 : decode cX3_insertRising 56 = .ok (.iastore, 1) := by decide +kernel
theorem dX3_insertRising_57 : decode cX3_insertRising 57 = .ok (.return_, 1) := by decide +kernel
theorem dX4_init_0 : decode cX4_init 0 = .ok (.aload_n 0, 1) := by decide +kernel
theorem dX4_init_1 : decode cX4_init 1 = .ok (.invokespecial 3, 3) := by decide +kernel
theorem dX4_init_4 : decode cX4_init 4 = .ok (.aload_n 0, 1) := by decide +kernel
theorem dX4_init_5 : decode cX4_init 5 = .ok (.bipush 12, 2) := by decide +kernel
theorem dX4_init_7 : decode cX4_init 7 = .ok (.newarray .int, 2) := by decide +kernel
theorem dX4_init_9 : decode cX4_init 9 = .ok (.putfield 9, 3) := by decide +kernel
theorem dX4_init_12 : decode cX4_init 12 = .ok (.aload_n 0, 1) := by decide +kernel
theorem dX4_init_13 : decode cX4_init 13 = .ok (.bipush 12, 2) := by decide +kernel
theorem dX4_init_15 : decode cX4_init 15 = .ok (.newarray .int, 2) := by decide +kernel
theorem dX4_init_17 : decode cX4_init 17 = .ok (.putfield 15, 3) := by decide +kernel
theorem dX4_init_20 : decode cX4_init 20 = .ok (.aload_n 0, 1) := by decide +kernel
theorem dX4_init_21 : decode cX4_init 21 = .ok (.bipush 13, 2) := by decide +kernel
theorem dX4_init_23 : decode cX4_init 23 = .ok (.newarray .int, 2) := by decide +kernel
theorem dX4_init_25 : decode cX4_init 25 = .ok (.putfield 18, 3) := by decide +kernel
theorem dX4_init_28 : decode cX4_init 28 = .ok (.aload_n 0, 1) := by decide +kernel
theorem dX4_init_29 : decode cX4_init 29 = .ok (.sipush 600, 3) := by decide +kernel
theorem dX4_init_32 : decode cX4_init 32 = .ok (.newarray .int, 2) := by decide +kernel
theorem dX4_init_34 : decode cX4_init 34 = .ok (.putfield 21, 3) := by decide +kernel
theorem dX4_init_37 : decode cX4_init 37 = .ok (.return_, 1) := by decide +kernel
theorem dX4_clear_0 : decode cX4_clear 0 = .ok (.aload_n 0, 1) := by decide +kernel
theorem dX4_clear_1 : decode cX4_clear 1 = .ok (.iconst 0, 1) := by decide +kernel
theorem dX4_clear_2 : decode cX4_clear 2 = .ok (.putfield 24, 3) := by decide +kernel
theorem dX4_clear_5 : decode cX4_clear 5 = .ok (.aload_n 0, 1) := by decide +kernel
theorem dX4_clear_6 : decode cX4_clear 6 = .ok (.iconst 0, 1) := by decide +kernel
theorem dX4_clear_7 : decode cX4_clear 7 = .ok (.putfield 28, 3) := by decide +kernel
theorem dX4_clear_10 : decode cX4_clear 10 = .ok (.return_, 1) := by decide +kernel
theorem dX4_append_0 : decode cX4_append 0 = .ok (.aload_n 0, 1) := by decide +kernel
theorem dX4_append_1 : decode cX4_append 1 = .ok (.getfield 28, 3) := by decide +kernel
theorem dX4_append_4 : decode cX4_append 4 = .ok (.sipush 600, 3) := by decide +kernel
theorem dX4_append_7 : decode cX4_append 7 = .ok (.if_icmp .ge 23, 3) := by decide +kernel
theorem dX4_append_10 : decode cX4_append 10 = .ok (.aload_n 0, 1) := by decide +kernel
theorem dX4_append_11 : decode cX4_append 11 = .ok (.getfield 21, 3) := by decide +kernel
theorem dX4_append_14 : decode cX4_append 14 = .ok (.aload_n 0, 1) := by decide +kernel
theorem dX4_append_15 : decode cX4_append 15 = .ok (.getfield 28, 3) := by decide +kernel
theorem dX4_append_18 : decode cX4_append 18 = .ok (.iload_n 1, 1) := by decide +kernel
theorem dX4_append_19 : decode cX4_append 19 = .ok (.iastore, 1) := by decide +kernel
theorem dX4_append_20 : decode cX4_append 20 = .ok (.aload_n 0, 1) := by decide +kernel
theorem dX4_append_21 : decode cX4_append 21 = .ok (.dup, 1) := by decide +kernel
theorem dX4_append_22 : decode cX4_append 22 = .ok (.getfield 28, 3) := by decide +kernel
theorem dX4_append_25 : decode cX4_append 25 = .ok (.iconst 1, 1) := by decide +kernel
theorem dX4_append_26 : decode cX4_append 26 = .ok (.iadd, 1) := by decide +kernel
theorem dX4_append_27 : decode cX4_append 27 = .ok (.putfield 28, 3) := by decide +kernel
theorem dX4_append_30 : decode cX4_append 30 = .ok (.return_, 1) := by decide +kernel
theorem dX4_closeRule_0 : decode cX4_closeRule 0 = .ok (.aload_n 0, 1) := by decide +kernel
theorem dX4_closeRule_1 : decode cX4_closeRule 1 = .ok (.getfield 24, 3) := by decide +kernel
theorem dX4_closeRule_4 : decode cX4_closeRule 4 = .ok (.bipush 12, 2) := by decide +kernel
theorem dX4_closeRule_6 : decode cX4_closeRule 6 = .ok (.if_icmp .ge 46, 3) := by decide +kernel
theorem dX4_closeRule_9 : decode cX4_closeRule 9 = .ok (.aload_n 0, 1) := by decide +kernel
theorem dX4_closeRule_10 : decode cX4_closeRule 10 = .ok (.getfield 9, 3) := by decide +kernel
theorem dX4_closeRule_13 : decode cX4_closeRule 13 = .ok (.aload_n 0, 1) := by decide +kernel
theorem dX4_closeRule_14 : decode cX4_closeRule 14 = .ok (.getfield 24, 3) := by decide +kernel
theorem dX4_closeRule_17 : decode cX4_closeRule 17 = .ok (.iload_n 1, 1) := by decide +kernel
theorem dX4_closeRule_18 : decode cX4_closeRule 18 = .ok (.iastore, 1) := by decide +kernel
theorem dX4_closeRule_19 : decode cX4_closeRule 19 = .ok (.aload_n 0, 1) := by decide +kernel
theorem dX4_closeRule_20 : decode cX4_closeRule 20 = .ok (.getfield 15, 3) := by decide +kernel
theorem dX4_closeRule_23 : decode cX4_closeRule 23 = .ok (.aload_n 0, 1) := by decide +kernel
theorem dX4_closeRule_24 : decode cX4_closeRule 24 = .ok (.getfield 24, 3) := by decide +kernel
theorem dX4_closeRule_27 : decode cX4_closeRule 27 = .ok (.iload_n 2, 1) := by decide +kernel
theorem dX4_closeRule_28 : decode cX4_closeRule 28 = .ok (.iastore, 1) := by decide +kernel
theorem dX4_closeRule_29 : decode cX4_closeRule 29 = .ok (.aload_n 0, 1) := by decide +kernel
theorem dX4_closeRule_30 : decode cX4_closeRule 30 = .ok (.dup, 1) := by decide +kernel
theorem dX4_closeRule_31 : decode cX4_closeRule 31 = .ok (.getfield 24, 3) := by decide +kernel
theorem dX4_closeRule_34 : decode cX4_closeRule 34 = .ok (.iconst 1, 1) := by decide +kernel
theorem dX4_closeRule_35 : decode cX4_closeRule 35 = .ok (.iadd, 1) := by decide +kernel
theorem dX4_closeRule_36 : decode cX4_closeRule 36 = .ok (.putfield 24, 3) := by decide +kernel
theorem dX4_closeRule_39 : decode cX4_closeRule 39 = .ok (.aload_n 0, 1) := by decide +kernel
theorem dX4_closeRule_40 : decode cX4_closeRule 40 = .ok (.getfield 18, 3) := by decide +kernel
theorem dX4_closeRule_43 : decode cX4_closeRule 43 = .ok (.aload_n 0, 1) := by decide +kernel
theorem dX4_closeRule_44 : decode cX4_closeRule 44 = .ok (.getfield 24, 3) := by decide +kernel
theorem dX4_closeRule_47 : decode cX4_closeRule 47 = .ok (.aload_n 0, 1) := by decide +kernel
theorem dX4_closeRule_48 : decode cX4_closeRule 48 = .ok (.getfield 28, 3) := by decide +kernel
theorem dX4_closeRule_51 : decode cX4_closeRule 51 = .ok (.iastore, 1) := by decide +kernel
theorem dX4_closeRule_52 : decode cX4_closeRule 52 = .ok (.return_, 1) := by decide +kernel
theorem dX4_isFor_0 : decode cX4_isFor 0 = .ok (.aload_n 0, 1) := by decide +kernel
theorem dX4_isFor_1 : decode cX4_isFor 1 = .ok (.getfield 15, 3) := by decide +kernel
theorem dX4_isFor_4 : decode cX4_isFor 4 = .ok (.iload_n 1, 1) := by decide +kernel
theorem dX4_isFor_5 : decode cX4_isFor 5 = .ok (.iaload, 1) := by decide +kernel
theorem dX4_isFor_6 : decode cX4_isFor 6 = .ok (.iconst (-1), 1) := by decide +kernel
theorem dX4_isFor_7 : decode cX4_isFor 7 = .ok (.if_icmp .eq 13, 3) := by decide +kernel
theorem dX4_isFor_10 : decode cX4_isFor 10 = .ok (.aload_n 0, 1) := by decide +kernel
theorem dX4_isFor_11 : decode cX4_isFor 11 = .ok (.getfield 15, 3) := by decide +kernel
theorem dX4_isFor_14 : decode cX4_isFor 14 = .ok (.iload_n 1, 1) := by decide +kernel
theorem dX4_isFor_15 : decode cX4_isFor 15 = .ok (.iaload, 1) := by decide +kernel
theorem dX4_isFor_16 : decode cX4_isFor 16 = .ok (.iload_n 2, 1) := by decide +kernel
theorem dX4_isFor_17 : decode cX4_isFor 17 = .ok (.if_icmp .ne 7, 3) := by decide +kernel
theorem dX4_isFor_20 : decode cX4_isFor 20 = .ok (.iconst 1, 1) := by decide +kernel
theorem dX4_isFor_21 : decode cX4_isFor 21 = .ok (.goto 4, 3) := by decide +kernel
theorem dX4_isFor_24 : decode cX4_isFor 24 = .ok (.iconst 0, 1) := by decide +kernel
theorem dX4_isFor_25 : decode cX4_isFor 25 = .ok (.ireturn, 1) := by decide +kernel
set_option maxRecDepth 20000 in
theorem ggX5_init_X8_init : GoodIn wsX5_init wsX8_init := goodIn_r _ [16, 17, 2, 3, 18, 19, 20, 28, 29, 30] (by decide +kernel) (by decide +kernel)
set_option maxRecDepth 20000 in
theorem gX5_init_X8_init_n11 : GoodIn wsX5_init (wsX8_init) := ggX5_init_X8_init
set_option maxRecDepth 20000 in
theorem ggX5_init_X4_init : GoodIn wsX5_init wsX4_init := goodIn_r _ [22, 23, 2, 3, 18, 24, 25, 26, 27, 37, 38, 39, 40, 41, 42] (by decide +kernel) (by decide +kernel)
set_option maxRecDepth 20000 in
theorem gX5_init_X4_init_n20 : GoodIn wsX5_init (wsX4_init) := ggX5_init_X4_init
theorem dX5_init_0 : decode cX5_init 0 = .ok (.aload_n 0, 1) := by decide +kernel
theorem dX5_init_1 : decode cX5_init 1 = .ok (.invokespecial 3, 3) := by decide +kernel
theorem dX5_init_4 : decode cX5_init 4 = .ok (.aload_n 0, 1) := by decide +kernel
theorem dX5_init_5 : decode cX5_init 5 = .ok (.new 9, 3) := by decide +kernel
theorem dX5_init_8 : decode cX5_init 8 = .ok (.dup, 1) := by decide +kernel
theorem dX5_init_9 : decode cX5_init 9 = .ok (.invokespecial 11, 3) := by decide +kernel
theorem dX5_init_12 : decode cX5_init 12 = .ok (.putfield 12, 3) := by decide +kernel
theorem dX5_init_15 : decode cX5_init 15 = .ok (.aload_n 0, 1) := by decide +kernel
theorem dX5_init_16 : decode cX5_init 16 = .ok (.new 18, 3) := by decide +kernel
theorem dX5_init_19 : decode cX5_init 19 = .ok (.dup, 1) := by decide +kernel
theorem dX5_init_20 : decode cX5_init 20 = .ok (.invokespecial 20, 3) := by decide +kernel
theorem dX5_init_23 : decode cX5_init 23 = .ok (.putfield 21, 3) := by decide +kernel
theorem dX5_init_26 : decode cX5_init 26 = .ok (.aload_n 0, 1) := by decide +kernel
theorem dX5_init_27 : decode cX5_init 27 = .ok (.sipush 1011, 3) := by decide +kernel
theorem dX5_init_30 : decode cX5_init 30 = .ok (.putfield 25, 3) := by decide +kernel
theorem dX5_init_33 : decode cX5_init 33 = .ok (.aload_n 0, 1) := by decide +kernel
theorem dX5_init_34 : decode cX5_init 34 = .ok (.iconst 0, 1) := by decide +kernel
theorem dX5_init_35 : decode cX5_init 35 = .ok (.putfield 29, 3) := by decide +kernel
theorem dX5_init_38 : decode cX5_init 38 = .ok (.aload_n 0, 1) := by decide +kernel
theorem dX5_init_39 : decode cX5_init 39 = .ok (.iconst (-1), 1) := by decide +kernel
theorem dX5_init_40 : decode cX5_init 40 = .ok (.putfield 32, 3) := by decide +kernel
theorem dX5_init_43 : decode cX5_init 43 = .ok (.return_, 1) := by decide +kernel
set_option maxRecDepth 20000 in
theorem ggX5_begin_X8_scan : GoodIn wsX5_begin wsX8_scan := goodIn_r _ [12, 13, 14, 15, 16, 11, 17, 18, 19, 20, 21, 22, 23, 24, 25, 26, 27, 28, 29, 30, 31, 32, 33, 34, 35, 36, 37, 38, 39, 40, 41, 42, 43, 44, 45, 46, 47, 48, 49, 50, 51, 52, 53, 54, 55, 56, 57, 58, 59, 60, 61, 62, 63, 64, 65, 66, 67, 68, 69, 70, 71, 72, 73, 74, 75, 76, 77, 78, 79, 80, 81, 82, 83, 84, 85, 86, 87, 88, 89, 90, 91, 92, 93, 94, 108, 109, 110, 111, 112] (by decide +kernel) (by decide +kernel)
set_option maxRecDepth 20000 in
theorem gX5_begin_X8_scan : GoodIn wsX5_begin (wsV RX5 35 RX8 yX8_scan wsX8_scan) := goodIn_app (goodIn_of _ (by decide +kernel)) ggX5_begin_X8_scan
set_option maxRecDepth 20000 in
theorem ggX5_begin_X4_clear : GoodIn wsX5_begin wsX4_clear := goodIn_r _ [99, 100, 101, 113, 114, 115, 116, 117, 118] (by decide +kernel) (by decide +kernel)
set_option maxRecDepth 20000 in
theorem gX5_begin_X4_clear : GoodIn wsX5_begin (wsV RX5 39 RX4 yX4_clear wsX4_clear) := goodIn_app (goodIn_of _ (by decide +kernel)) ggX5_begin_X4_clear
theorem dX5_begin_0 : decode cX5_begin 0 = .ok (.aload_n 0, 1) := by decide +kernel
theorem dX5_begin_1 : decode cX5_begin 1 = .ok (.getfield 12, 3) := by decide +kernel
theorem dX5_begin_4 : decode cX5_begin 4 = .ok (.aload_n 1, 1) := by decide +kernel
theorem dX5_begin_5 : decode cX5_begin 5 = .ok (.invokevirtual 35, 3) := by decide +kernel
theorem dX5_begin_8 : decode cX5_begin 8 = .ok (.aload_n 0, 1) := by decide +kernel
theorem dX5_begin_9 : decode cX5_begin 9 = .ok (.getfield 21, 3) := by decide +kernel
theorem dX5_begin_12 : decode cX5_begin 12 = .ok (.invokevirtual 39, 3) := by decide +kernel
theorem dX5_begin_15 : decode cX5_begin 15 = .ok (.aload_n 0, 1) := by decide +kernel
theorem dX5_begin_16 : decode cX5_begin 16 = .ok (.iconst 0, 1) := by decide +kernel
theorem dX5_begin_17 : decode cX5_begin 17 = .ok (.putfield 42, 3) := by decide +kernel
theorem dX5_begin_20 : decode cX5_begin 20 = .ok (.aload_n 0, 1) := by decide +kernel
theorem dX5_begin_21 : decode cX5_begin 21 = .ok (.aload_n 0, 1) := by decide +kernel
theorem dX5_begin_22 : decode cX5_begin 22 = .ok (.getfield 12, 3) := by decide +kernel
theorem dX5_begin_25 : decode cX5_begin 25 = .ok (.getfield 45, 3) := by decide +kernel
theorem dX5_begin_28 : decode cX5_begin 28 = .ok (.iconst 0, 1) := by decide +kernel
theorem dX5_begin_29 : decode cX5_begin 29 = .ok (.iaload, 1) := by decide +kernel
theorem dX5_begin_30 : decode cX5_begin 30 = .ok (.putfield 25, 3) := by decide +kernel
theorem dX5_begin_33 : decode cX5_begin 33 = .ok (.aload_n 0, 1) := by decide +kernel
theorem dX5_begin_34 : decode cX5_begin 34 = .ok (.iconst 0, 1) := by decide +kernel
theorem dX5_begin_35 : decode cX5_begin 35 = .ok (.putfield 29, 3) := by decide +kernel
theorem dX5_begin_38 : decode cX5_begin 38 = .ok (.aload_n 0, 1) := by decide +kernel
theorem dX5_begin_39 : decode cX5_begin 39 = .ok (.iconst (-1), 1) := by decide +kernel
theorem dX5_begin_40 : decode cX5_begin 40 = .ok (.putfield 32, 3) := by decide +kernel
theorem dX5_begin_43 : decode cX5_begin 43 = .ok (.return_, 1) := by decide +kernel
set_option maxRecDepth 20000 in
theorem ggX5_readRule_X5_refuse : GoodIn wsX5_readRule wsX5_refuse := goodIn_r _ [8, 9, 10, 11, 12, 13, 66, 67, 68, 69, 70, 71, 78, 79, 80] (by decide +kernel) (by decide +kernel)
set_option maxRecDepth 20000 in
theorem gX5_readRule_X5_refuse : GoodIn wsX5_readRule (wsV RX5 49 RX5 yX5_refuse wsX5_refuse) := goodIn_app (goodIn_of _ (by decide +kernel)) ggX5_readRule_X5_refuse
set_option maxRecDepth 20000 in
theorem ggX5_readRule_X5_advance : GoodIn wsX5_readRule wsX5_advance := goodIn_r _ [17, 12, 10, 18, 19, 1, 66, 67, 68, 69, 70, 71, 78, 79, 80] (by decide +kernel) (by decide +kernel)
set_option maxRecDepth 20000 in
theorem gX5_readRule_X5_advance : GoodIn wsX5_readRule (wsV RX5 56 RX5 yX5_advance wsX5_advance) := goodIn_app (goodIn_of _ (by decide +kernel)) ggX5_readRule_X5_advance
set_option maxRecDepth 20000 in
theorem ggX5_readRule_X5_readNumber : GoodIn wsX5_readRule wsX5_readNumber := goodIn_r _ [23, 1, 4, 5, 6, 7, 8, 9, 10, 11, 12, 13, 14, 15, 16, 17, 18, 19, 66, 67, 68, 69, 70, 71, 78, 79, 80] (by decide +kernel) (by decide +kernel)
set_option maxRecDepth 20000 in
theorem gX5_readRule_X5_readNumber : GoodIn wsX5_readRule (wsV RX5 59 RX5 yX5_readNumber wsX5_readNumber) := goodIn_app (goodIn_of _ (by decide +kernel)) ggX5_readRule_X5_readNumber
set_option maxRecDepth 20000 in
theorem ggX5_readRule_X5_expect : GoodIn wsX5_readRule wsX5_expect := goodIn_r _ [27, 1, 4, 5, 6, 7, 8, 9, 10, 11, 12, 13, 14, 15, 16, 17, 18, 19, 66, 67, 68, 69, 70, 71, 78, 79, 80] (by decide +kernel) (by decide +kernel)
set_option maxRecDepth 20000 in
theorem gX5_readRule_X5_expect : GoodIn wsX5_readRule (wsV RX5 63 RX5 yX5_expect wsX5_expect) := goodIn_app (goodIn_of _ (by decide +kernel)) ggX5_readRule_X5_expect
set_option maxRecDepth 20000 in
theorem ggX5_readRule_X5_readEither : GoodIn wsX5_readRule wsX5_readEither := goodIn_r _ [31, 10, 18, 1, 2, 32, 33, 34, 7, 14, 15, 16, 17, 12, 19, 35, 36, 37, 38, 39, 40, 41, 42, 43, 44, 45, 46, 47, 48, 49, 50, 51, 52, 53, 54, 55, 56, 57, 4, 5, 6, 8, 9, 11, 13, 28, 29, 30, 24, 25, 26, 27, 66, 67, 68, 69, 70, 71, 78, 79, 80, 72, 73, 74, 75, 76, 77] (by decide +kernel) (by decide +kernel)
set_option maxRecDepth 20000 in
theorem gX5_readRule_X5_readEither : GoodIn wsX5_readRule (wsV RX5 66 RX5 yX5_readEither wsX5_readEither) := goodIn_app (goodIn_of _ (by decide +kernel)) ggX5_readRule_X5_readEither
set_option maxRecDepth 20000 in
theorem ggX5_readRule_X4_closeRule : GoodIn wsX5_readRule wsX4_closeRule := goodIn_r _ [61, 62, 63, 64, 65, 40, 72, 73, 74, 75, 76, 77] (by decide +kernel) (by decide +kernel)
set_option maxRecDepth 20000 in
theorem gX5_readRule_X4_closeRule : GoodIn wsX5_readRule (wsV RX5 69 RX4 yX4_closeRule wsX4_closeRule) := goodIn_app (goodIn_of _ (by decide +kernel)) ggX5_readRule_X4_closeRule
theorem dX5_readRule_0 : decode cX5_readRule 0 = .ok (.aload_n 0, 1) := by decide +kernel
theorem dX5_readRule_1 : decode cX5_readRule 1 = .ok (.getfield 25, 3) := by decide +kernel
theorem dX5_readRule_4 : decode cX5_readRule 4 = .ok (.sipush 1000, 3) := by decide +kernel
theorem dX5_readRule_7 : decode cX5_readRule 7 = .ok (.if_icmp .eq 9, 3) := by decide +kernel
theorem dX5_readRule_10 : decode cX5_readRule 10 = .ok (.aload_n 0, 1) := by decide +kernel
theorem dX5_readRule_11 : decode cX5_readRule 11 = .ok (.iconst 1, 1) := by decide +kernel
theorem dX5_readRule_12 : decode cX5_readRule 12 = .ok (.invokevirtual 49, 3) := by decide +kernel
theorem dX5_readRule_15 : decode cX5_readRule 15 = .ok (.ireturn, 1) := by decide +kernel
theorem dX5_readRule_16 : decode cX5_readRule 16 = .ok (.aload_n 0, 1) := by decide +kernel
theorem dX5_readRule_17 : decode cX5_readRule 17 = .ok (.getfield 21, 3) := by decide +kernel
theorem dX5_readRule_20 : decode cX5_readRule 20 = .ok (.getfield 53, 3) := by decide +kernel
theorem dX5_readRule_23 : decode cX5_readRule 23 = .ok (.bipush 12, 2) := by decide +kernel
theorem dX5_readRule_25 : decode cX5_readRule 25 = .ok (.if_icmp .lt 9, 3) := by decide +kernel
theorem dX5_readRule_28 : decode cX5_readRule 28 = .ok (.aload_n 0, 1) := by decide +kernel
theorem dX5_readRule_29 : decode cX5_readRule 29 = .ok (.iconst 3, 1) := by decide +kernel
theorem dX5_readRule_30 : decode cX5_readRule 30 = .ok (.invokevirtual 49, 3) := by decide +kernel
theorem dX5_readRule_33 : decode cX5_readRule 33 = .ok (.ireturn, 1) := by decide +kernel
theorem dX5_readRule_34 : decode cX5_readRule 34 = .ok (.aload_n 0, 1) := by decide +kernel
theorem dX5_readRule_35 : decode cX5_readRule 35 = .ok (.invokevirtual 56, 3) := by decide +kernel
theorem dX5_readRule_38 : decode cX5_readRule 38 = .ok (.aload_n 0, 1) := by decide +kernel
theorem dX5_readRule_39 : decode cX5_readRule 39 = .ok (.bipush 39, 2) := by decide +kernel
theorem dX5_readRule_41 : decode cX5_readRule 41 = .ok (.invokevirtual 59, 3) := by decide +kernel
theorem dX5_readRule_44 : decode cX5_readRule 44 = .ok (.istore_n 1, 1) := by decide +kernel
theorem dX5_readRule_45 : decode cX5_readRule 45 = .ok (.iload_n 1, 1) := by decide +kernel
theorem dX5_readRule_46 : decode cX5_readRule 46 = .ok (.iconst (-1), 1) := by decide +kernel
theorem dX5_readRule_47 : decode cX5_readRule 47 = .ok (.if_icmp .ne 5, 3) := by decide +kernel
theorem dX5_readRule_50 : decode cX5_readRule 50 = .ok (.iconst 0, 1) := by decide +kernel
theorem dX5_readRule_51 : decode cX5_readRule 51 = .ok (.ireturn, 1) := by decide +kernel
theorem dX5_readRule_52 : decode cX5_readRule 52 = .ok (.iconst (-1), 1) := by decide +kernel
theorem dX5_readRule_53 : decode cX5_readRule 53 = .ok (.istore_n 2, 1) := by decide +kernel
theorem dX5_readRule_54 : decode cX5_readRule 54 = .ok (.aload_n 0, 1) := by decide +kernel
theorem dX5_readRule_55 : decode cX5_readRule 55 = .ok (.getfield 25, 3) := by decide +kernel
theorem dX5_readRule_58 : decode cX5_readRule 58 = .ok (.sipush 1001, 3) := by decide +kernel
theorem dX5_readRule_61 : decode cX5_readRule 61 = .ok (.if_icmp .ne 20, 3) := by decide +kernel
theorem dX5_readRule_64 : decode cX5_readRule 64 = .ok (.aload_n 0, 1) := by decide +kernel
theorem dX5_readRule_65 : decode cX5_readRule 65 = .ok (.invokevirtual 56, 3) := by decide +kernel
theorem dX5_readRule_68 : decode cX5_readRule 68 = .ok (.aload_n 0, 1) := by decide +kernel
theorem dX5_readRule_69 : decode cX5_readRule 69 = .ok (.iconst 4, 1) := by decide +kernel
theorem dX5_readRule_70 : decode cX5_readRule 70 = .ok (.invokevirtual 59, 3) := by decide +kernel
theorem dX5_readRule_73 : decode cX5_readRule 73 = .ok (.istore_n 2, 1) := by decide +kernel
theorem dX5_readRule_74 : decode cX5_readRule 74 = .ok (.iload_n 2, 1) := by decide +kernel
theorem dX5_readRule_75 : decode cX5_readRule 75 = .ok (.iconst (-1), 1) := by decide +kernel
theorem dX5_readRule_76 : decode cX5_readRule 76 = .ok (.if_icmp .ne 5, 3) := by decide +kernel
theorem dX5_readRule_79 : decode cX5_readRule 79 = .ok (.iconst 0, 1) := by decide +kernel
theorem dX5_readRule_80 : decode cX5_readRule 80 = .ok (.ireturn, 1) := by decide +kernel
theorem dX5_readRule_81 : decode cX5_readRule 81 = .ok (.aload_n 0, 1) := by decide +kernel
theorem dX5_readRule_82 : decode cX5_readRule 82 = .ok (.sipush 1002, 3) := by decide +kernel
theorem dX5_readRule_85 : decode cX5_readRule 85 = .ok (.invokevirtual 63, 3) := by decide +kernel
theorem dX5_readRule_88 : decode cX5_readRule 88 = .ok (.ifCond .eq 21, 3) := by decide +kernel
theorem dX5_readRule_91 : decode cX5_readRule 91 = .ok (.aload_n 0, 1) := by decide +kernel
theorem dX5_readRule_92 : decode cX5_readRule 92 = .ok (.iconst 0, 1) := by decide +kernel
theorem dX5_readRule_93 : decode cX5_readRule 93 = .ok (.invokevirtual 66, 3) := by decide +kernel
theorem dX5_readRule_96 : decode cX5_readRule 96 = .ok (.ifCond .eq 13, 3) := by decide +kernel
theorem dX5_readRule_99 : decode cX5_readRule 99 = .ok (.aload_n 0, 1) := by decide +kernel
theorem dX5_readRule_100 : decode cX5_readRule 100 = .ok (.sipush 1159, 3) := by decide +kernel
theorem dX5_readRule_103 : decode cX5_readRule 103 = .ok (.invokevirtual 63, 3) := by decide +kernel
theorem dX5_readRule_106 : decode cX5_readRule 106 = .ok (.ifCond .ne 5, 3) := by decide +kernel
theorem dX5_readRule_109 : decode cX5_readRule 109 = .ok (.iconst 0, 1) := by decide +kernel
theorem dX5_readRule_110 : decode cX5_readRule 110 = .ok (.ireturn, 1) := by decide +kernel
theorem dX5_readRule_111 : decode cX5_readRule 111 = .ok (.aload_n 0, 1) := by decide +kernel
theorem dX5_readRule_112 : decode cX5_readRule 112 = .ok (.getfield 21, 3) := by decide +kernel
theorem dX5_readRule_115 : decode cX5_readRule 115 = .ok (.iload_n 1, 1) := by decide +kernel
theorem dX5_readRule_116 : decode cX5_readRule 116 = .ok (.iload_n 2, 1) := by decide +kernel
theorem dX5_readRule_117 : decode cX5_readRule 117 = .ok (.invokevirtual 69, 3) := by decide +kernel
theorem dX5_readRule_120 : decode cX5_readRule 120 = .ok (.iconst 1, 1) := by decide +kernel
theorem dX5_readRule_121 : decode cX5_readRule 121 = .ok (.ireturn, 1) := by decide +kernel
set_option maxRecDepth 20000 in
theorem ggX5_readNumber_X5_refuse : GoodIn wsX5_readNumber wsX5_refuse := goodIn_r _ [6, 7, 8, 9, 10, 11, 18, 19, 20, 21, 22, 23, 24, 25, 26] (by decide +kernel) (by decide +kernel)
set_option maxRecDepth 20000 in
theorem gX5_readNumber_X5_refuse : GoodIn wsX5_readNumber (wsV RX5 49 RX5 yX5_refuse wsX5_refuse) := goodIn_app (goodIn_of _ (by decide +kernel)) ggX5_readNumber_X5_refuse
set_option maxRecDepth 20000 in
theorem ggX5_readNumber_X5_advance : GoodIn wsX5_readNumber wsX5_advance := goodIn_r _ [15, 10, 8, 16, 17, 1, 18, 19, 20, 21, 22, 23, 24, 25, 26] (by decide +kernel) (by decide +kernel)
set_option maxRecDepth 20000 in
theorem gX5_readNumber_X5_advance : GoodIn wsX5_readNumber (wsV RX5 56 RX5 yX5_advance wsX5_advance) := goodIn_app (goodIn_of _ (by decide +kernel)) ggX5_readNumber_X5_advance
theorem dX5_readNumber_0 : decode cX5_readNumber 0 = .ok (.aload_n 0, 1) := by decide +kernel
theorem dX5_readNumber_1 : decode cX5_readNumber 1 = .ok (.getfield 25, 3) := by decide +kernel
theorem dX5_readNumber_4 : decode cX5_readNumber 4 = .ok (.istore_n 2, 1) := by decide +kernel
theorem dX5_readNumber_5 : decode cX5_readNumber 5 = .ok (.iload_n 2, 1) := by decide +kernel
theorem dX5_readNumber_6 : decode cX5_readNumber 6 = .ok (.sipush 999, 3) := by decide +kernel
theorem dX5_readNumber_9 : decode cX5_readNumber 9 = .ok (.if_icmp .le 11, 3) := by decide +kernel
theorem dX5_readNumber_12 : decode cX5_readNumber 12 = .ok (.aload_n 0, 1) := by decide +kernel
theorem dX5_readNumber_13 : decode cX5_readNumber 13 = .ok (.iconst 1, 1) := by decide +kernel
theorem dX5_readNumber_14 : decode cX5_readNumber 14 = .ok (.invokevirtual 49, 3) := by decide +kernel
theorem dX5_readNumber_17 : decode cX5_readNumber 17 = .ok (.pop, 1) := by decide +kernel
theorem dX5_readNumber_18 : decode cX5_readNumber 18 = .ok (.iconst (-1), 1) := by decide +kernel
theorem dX5_readNumber_19 : decode cX5_readNumber 19 = .ok (.ireturn, 1) := by decide +kernel
theorem dX5_readNumber_20 : decode cX5_readNumber 20 = .ok (.iload_n 2, 1) := by decide +kernel
theorem dX5_readNumber_21 : decode cX5_readNumber 21 = .ok (.iload_n 1, 1) := by decide +kernel
theorem dX5_readNumber_22 : decode cX5_readNumber 22 = .ok (.if_icmp .le 11, 3) := by decide +kernel
theorem dX5_readNumber_25 : decode cX5_readNumber 25 = .ok (.aload_n 0, 1) := by decide +kernel
theorem dX5_readNumber_26 : decode cX5_readNumber 26 = .ok (.iconst 2, 1) := by decide +kernel
theorem dX5_readNumber_27 : decode cX5_readNumber 27 = .ok (.invokevirtual 49, 3) := by decide +kernel
theorem dX5_readNumber_30 : decode cX5_readNumber 30 = .ok (.pop, 1) := by decide +kernel
theorem dX5_readNumber_31 : decode cX5_readNumber 31 = .ok (.iconst (-1), 1) := by decide +kernel
theorem dX5_readNumber_32 : decode cX5_readNumber 32 = .ok (.ireturn, 1) := by decide +kernel
theorem dX5_readNumber_33 : decode cX5_readNumber 33 = .ok (.aload_n 0, 1) := by decide +kernel
theorem dX5_readNumber_34 : decode cX5_readNumber 34 = .ok (.invokevirtual 56, 3) := by decide +kernel
theorem dX5_readNumber_37 : decode cX5_readNumber 37 = .ok (.iload_n 2, 1) := by decide +kernel
theorem dX5_readNumber_38 : decode cX5_readNumber 38 = .ok (.ireturn, 1) := by decide +kernel
set_option maxRecDepth 20000 in
theorem ggX5_readEither_X5_readBoth : GoodIn wsX5_readEither wsX5_readBoth := goodIn_r _ [22, 1, 2, 3, 4, 23, 24, 25, 8, 9, 10, 11, 12, 13, 14, 15, 16, 17, 18, 19, 20, 21, 26, 27, 28, 29, 30, 31, 32, 33, 34, 35, 36, 37, 38, 39, 40, 41, 42, 43, 44, 45, 46, 47, 48, 49, 50, 51, 0, 5, 6, 7, 52, 53, 54, 55, 56, 57, 58, 59, 60, 61, 62, 63, 64, 65, 66] (by decide +kernel) (by decide +kernel)
set_option maxRecDepth 20000 in
theorem gX5_readEither_X5_readBoth : GoodIn wsX5_readEither (wsV RX5 73 RX5 yX5_readBoth wsX5_readBoth) := goodIn_app (goodIn_of _ (by decide +kernel)) ggX5_readEither_X5_readBoth
set_option maxRecDepth 20000 in
theorem ggX5_readEither_X5_advance : GoodIn wsX5_readEither wsX5_advance := goodIn_r _ [12, 13, 1, 2, 14, 3, 52, 53, 54, 55, 56, 57, 58, 59, 60] (by decide +kernel) (by decide +kernel)
set_option maxRecDepth 20000 in
theorem gX5_readEither_X5_advance : GoodIn wsX5_readEither (wsV RX5 56 RX5 yX5_advance wsX5_advance) := goodIn_app (goodIn_of _ (by decide +kernel)) ggX5_readEither_X5_advance
set_option maxRecDepth 20000 in
theorem ggX5_readEither_X4_append : GoodIn wsX5_readEither wsX4_append := goodIn_r _ [19, 20, 21, 61, 62, 63, 64, 65, 66] (by decide +kernel) (by decide +kernel)
set_option maxRecDepth 20000 in
theorem gX5_readEither_X4_append : GoodIn wsX5_readEither (wsV RX5 77 RX4 yX4_append wsX4_append) := goodIn_app (goodIn_of _ (by decide +kernel)) ggX5_readEither_X4_append
theorem dX5_readEither_0 : decode cX5_readEither 0 = .ok (.aload_n 0, 1) := by decide +kernel
theorem dX5_readEither_1 : decode cX5_readEither 1 = .ok (.iload_n 1, 1) := by decide +kernel
theorem dX5_readEither_2 : decode cX5_readEither 2 = .ok (.invokevirtual 73, 3) := by decide +kernel
theorem dX5_readEither_5 : decode cX5_readEither 5 = .ok (.istore_n 2, 1) := by decide +kernel
theorem dX5_readEither_6 : decode cX5_readEither 6 = .ok (.iconst 0, 1) := by decide +kernel
theorem dX5_readEither_7 : decode cX5_readEither 7 = .ok (.istore_n 3, 1) := by decide +kernel
theorem dX5_readEither_8 : decode cX5_readEither 8 = .ok (.iload_n 3, 1) := by decide +kernel
theorem dX5_readEither_9 : decode cX5_readEither 9 = .ok (.aload_n 0, 1) := by decide +kernel
theorem dX5_readEither_10 : decode cX5_readEither 10 = .ok (.getfield 12, 3) := by decide +kernel
theorem dX5_readEither_13 : decode cX5_readEither 13 = .ok (.getfield 76, 3) := by decide +kernel
theorem dX5_readEither_16 : decode cX5_readEither 16 = .ok (.if_icmp .ge 43, 3) := by decide +kernel
theorem dX5_readEither_19 : decode cX5_readEither 19 = .ok (.iload_n 2, 1) := by decide +kernel
theorem dX5_readEither_20 : decode cX5_readEither 20 = .ok (.ifCond .eq 39, 3) := by decide +kernel
theorem dX5_readEither_23 : decode cX5_readEither 23 = .ok (.aload_n 0, 1) := by decide +kernel
theorem dX5_readEither_24 : decode cX5_readEither 24 = .ok (.getfield 25, 3) := by decide +kernel
theorem dX5_readEither_27 : decode cX5_readEither 27 = .ok (.sipush 1003, 3) := by decide +kernel
theorem dX5_readEither_30 : decode cX5_readEither 30 = .ok (.if_icmp .ne 29, 3) := by decide +kernel
theorem dX5_readEither_33 : decode cX5_readEither 33 = .ok (.aload_n 0, 1) := by decide +kernel
theorem dX5_readEither_34 : decode cX5_readEither 34 = .ok (.invokevirtual 56, 3) := by decide +kernel
theorem dX5_readEither_37 : decode cX5_readEither 37 = .ok (.aload_n 0, 1) := by decide +kernel
theorem dX5_readEither_38 : decode cX5_readEither 38 = .ok (.iload_n 1, 1) := by decide +kernel
theorem dX5_readEither_39 : decode cX5_readEither 39 = .ok (.invokevirtual 73, 3) := by decide +kernel
theorem dX5_readEither_42 : decode cX5_readEither 42 = .ok (.istore_n 2, 1) := by decide +kernel
theorem dX5_readEither_43 : decode cX5_readEither 43 = .ok (.aload_n 0, 1) := by decide +kernel
theorem dX5_readEither_44 : decode cX5_readEither 44 = .ok (.getfield 21, 3) := by decide +kernel
theorem dX5_readEither_47 : decode cX5_readEither 47 = .ok (.sipush 1003, 3) := by decide +kernel
theorem dX5_readEither_50 : decode cX5_readEither 50 = .ok (.invokevirtual 77, 3) := by decide +kernel
theorem dX5_readEither_53 : decode cX5_readEither 53 = .ok (.iinc 3 1, 3) := by decide +kernel
theorem dX5_readEither_56 : decode cX5_readEither 56 = .ok (.goto (-48), 3) := by decide +kernel
theorem dX5_readEither_59 : decode cX5_readEither 59 = .ok (.iload_n 2, 1) := by decide +kernel
theorem dX5_readEither_60 : decode cX5_readEither 60 = .ok (.ireturn, 1) := by decide +kernel
set_option maxRecDepth 20000 in
theorem ggX5_readBoth_X5_readCondition : GoodIn wsX5_readBoth wsX5_readCondition := goodIn_r _ [22, 3, 4, 23, 24, 25, 8, 26, 27, 28, 29, 30, 1, 2, 31, 32, 33, 34, 35, 36, 37, 38, 39, 13, 40, 15, 16, 17, 18, 19, 20, 21, 9, 10, 11, 12, 14, 41, 42, 43, 44, 45, 46, 47, 5, 6, 7, 0, 48, 49, 50, 51, 52, 53, 54, 55, 56, 57, 58, 59, 60, 61, 62, 63, 64, 65, 66] (by decide +kernel) (by decide +kernel)
set_option maxRecDepth 20000 in
theorem gX5_readBoth_X5_readCondition : GoodIn wsX5_readBoth (wsV RX5 81 RX5 yX5_readCondition wsX5_readCondition) := goodIn_app (goodIn_of _ (by decide +kernel)) ggX5_readBoth_X5_readCondition
set_option maxRecDepth 20000 in
theorem ggX5_readBoth_X5_advance : GoodIn wsX5_readBoth wsX5_advance := goodIn_r _ [12, 13, 1, 2, 14, 3, 52, 53, 54, 55, 56, 57, 58, 59, 60] (by decide +kernel) (by decide +kernel)
set_option maxRecDepth 20000 in
theorem gX5_readBoth_X5_advance : GoodIn wsX5_readBoth (wsV RX5 56 RX5 yX5_advance wsX5_advance) := goodIn_app (goodIn_of _ (by decide +kernel)) ggX5_readBoth_X5_advance
set_option maxRecDepth 20000 in
theorem ggX5_readBoth_X4_append : GoodIn wsX5_readBoth wsX4_append := goodIn_r _ [19, 20, 21, 61, 62, 63, 64, 65, 66] (by decide +kernel) (by decide +kernel)
set_option maxRecDepth 20000 in
theorem gX5_readBoth_X4_append : GoodIn wsX5_readBoth (wsV RX5 77 RX4 yX4_append wsX4_append) := goodIn_app (goodIn_of _ (by decide +kernel)) ggX5_readBoth_X4_append
theorem dX5_readBoth_0 : decode cX5_readBoth 0 = .ok (.aload_n 0, 1) := by decide +kernel
theorem dX5_readBoth_1 : decode cX5_readBoth 1 = .ok (.iload_n 1, 1) := by decide +kernel
theorem dX5_readBoth_2 : decode cX5_readBoth 2 = .ok (.invokevirtual 81, 3) := by decide +kernel
theorem dX5_readBoth_5 : decode cX5_readBoth 5 = .ok (.istore_n 2, 1) := by decide +kernel
theorem dX5_readBoth_6 : decode cX5_readBoth 6 = .ok (.iconst 0, 1) := by decide +kernel
theorem dX5_readBoth_7 : decode cX5_readBoth 7 = .ok (.istore_n 3, 1) := by decide +kernel
theorem dX5_readBoth_8 : decode cX5_readBoth 8 = .ok (.iload_n 3, 1) := by decide +kernel
theorem dX5_readBoth_9 : decode cX5_readBoth 9 = .ok (.aload_n 0, 1) := by decide +kernel
theorem dX5_readBoth_10 : decode cX5_readBoth 10 = .ok (.getfield 12, 3) := by decide +kernel
theorem dX5_readBoth_13 : decode cX5_readBoth 13 = .ok (.getfield 76, 3) := by decide +kernel
theorem dX5_readBoth_16 : decode cX5_readBoth 16 = .ok (.if_icmp .ge 43, 3) := by decide +kernel
theorem dX5_readBoth_19 : decode cX5_readBoth 19 = .ok (.iload_n 2, 1) := by decide +kernel
theorem dX5_readBoth_20 : decode cX5_readBoth 20 = .ok (.ifCond .eq 39, 3) := by decide +kernel
theorem dX5_readBoth_23 : decode cX5_readBoth 23 = .ok (.aload_n 0, 1) := by decide +kernel
theorem dX5_readBoth_24 : decode cX5_readBoth 24 = .ok (.getfield 25, 3) := by decide +kernel
theorem dX5_readBoth_27 : decode cX5_readBoth 27 = .ok (.sipush 1004, 3) := by decide +kernel
theorem dX5_readBoth_30 : decode cX5_readBoth 30 = .ok (.if_icmp .ne 29, 3) := by decide +kernel
theorem dX5_readBoth_33 : decode cX5_readBoth 33 = .ok (.aload_n 0, 1) := by decide +kernel
theorem dX5_readBoth_34 : decode cX5_readBoth 34 = .ok (.invokevirtual 56, 3) := by decide +kernel
theorem dX5_readBoth_37 : decode cX5_readBoth 37 = .ok (.aload_n 0, 1) := by decide +kernel
theorem dX5_readBoth_38 : decode cX5_readBoth 38 = .ok (.iload_n 1, 1) := by decide +kernel
theorem dX5_readBoth_39 : decode cX5_readBoth 39 = .ok (.invokevirtual 81, 3) := by decide +kernel
theorem dX5_readBoth_42 : decode cX5_readBoth 42 = .ok (.istore_n 2, 1) := by decide +kernel
theorem dX5_readBoth_43 : decode cX5_readBoth 43 = .ok (.aload_n 0, 1) := by decide +kernel
theorem dX5_readBoth_44 : decode cX5_readBoth 44 = .ok (.getfield 21, 3) := by decide +kernel
theorem dX5_readBoth_47 : decode cX5_readBoth 47 = .ok (.sipush 1004, 3) := by decide +kernel
theorem dX5_readBoth_50 : decode cX5_readBoth 50 = .ok (.invokevirtual 77, 3) := by decide +kernel
theorem dX5_readBoth_53 : decode cX5_readBoth 53 = .ok (.iinc 3 1, 3) := by decide +kernel
theorem dX5_readBoth_56 : decode cX5_readBoth 56 = .ok (.goto (-48), 3) := by decide +kernel
theorem dX5_readBoth_59 : decode cX5_readBoth 59 = .ok (.iload_n 2, 1) := by decide +kernel
theorem dX5_readBoth_60 : decode cX5_readBoth 60 = .ok (.ireturn, 1) := by decide +kernel
set_option maxRecDepth 20000 in
theorem ggX5_readCondition_X5_readComparison : GoodIn wsX5_readCondition wsX5_readComparison := goodIn_r _ [7, 1, 2, 8, 9, 10, 6, 11, 12, 13, 14, 15, 16, 17, 18, 19, 20, 21, 22, 23, 24, 25, 26, 27, 28, 29, 30, 31, 32, 33, 34, 35, 36, 52, 53, 54, 55, 56, 57, 58, 59, 60, 61, 62, 63, 64, 65, 66] (by decide +kernel) (by decide +kernel)
set_option maxRecDepth 20000 in
theorem gX5_readCondition_X5_readComparison : GoodIn wsX5_readCondition (wsV RX5 84 RX5 yX5_readComparison wsX5_readComparison) := goodIn_app (goodIn_of _ (by decide +kernel)) ggX5_readCondition_X5_readComparison
set_option maxRecDepth 20000 in
theorem ggX5_readCondition_X5_refuse : GoodIn wsX5_readCondition wsX5_refuse := goodIn_r _ [20, 21, 12, 22, 23, 24, 52, 53, 54, 55, 56, 57, 58, 59, 60] (by decide +kernel) (by decide +kernel)
set_option maxRecDepth 20000 in
theorem gX5_readCondition_X5_refuse : GoodIn wsX5_readCondition (wsV RX5 49 RX5 yX5_refuse wsX5_refuse) := goodIn_app (goodIn_of _ (by decide +kernel)) ggX5_readCondition_X5_refuse
set_option maxRecDepth 20000 in
theorem ggX5_readCondition_X5_advance : GoodIn wsX5_readCondition wsX5_advance := goodIn_r _ [35, 23, 12, 13, 36, 1, 52, 53, 54, 55, 56, 57, 58, 59, 60] (by decide +kernel) (by decide +kernel)
set_option maxRecDepth 20000 in
theorem gX5_readCondition_X5_advance : GoodIn wsX5_readCondition (wsV RX5 56 RX5 yX5_advance wsX5_advance) := goodIn_app (goodIn_of _ (by decide +kernel)) ggX5_readCondition_X5_advance
set_option maxRecDepth 20000 in
theorem ggX5_readCondition_X5_readEither : GoodIn wsX5_readCondition wsX5_readEither := goodIn_r _ [48, 12, 13, 1, 2, 49, 50, 51, 6, 32, 33, 34, 35, 23, 36, 25, 26, 27, 28, 29, 30, 31, 47, 44, 45, 46, 0, 3, 4, 5, 7, 8, 9, 10, 11, 14, 15, 16, 17, 18, 19, 20, 21, 22, 24, 37, 38, 39, 40, 41, 42, 43, 52, 53, 54, 55, 56, 57, 58, 59, 60, 61, 62, 63, 64, 65, 66] (by decide +kernel) (by decide +kernel)
set_option maxRecDepth 20000 in
theorem gX5_readCondition_X5_readEither : GoodIn wsX5_readCondition (wsV RX5 66 RX5 yX5_readEither wsX5_readEither) := goodIn_app (goodIn_of _ (by decide +kernel)) ggX5_readCondition_X5_readEither
set_option maxRecDepth 20000 in
theorem ggX5_readCondition_X5_expect : GoodIn wsX5_readCondition wsX5_expect := goodIn_r _ [43, 1, 17, 18, 19, 6, 20, 21, 12, 22, 23, 24, 32, 33, 34, 35, 13, 36, 52, 53, 54, 55, 56, 57, 58, 59, 60] (by decide +kernel) (by decide +kernel)
set_option maxRecDepth 20000 in
theorem gX5_readCondition_X5_expect : GoodIn wsX5_readCondition (wsV RX5 63 RX5 yX5_expect wsX5_expect) := goodIn_app (goodIn_of _ (by decide +kernel)) ggX5_readCondition_X5_expect
set_option maxRecDepth 20000 in
theorem ggX5_readCondition_X5_readCondition : GoodIn wsX5_readCondition wsX5_readCondition := goodIn_r _ [0, 1, 2, 3, 4, 5, 6, 7, 8, 9, 10, 11, 12, 13, 14, 15, 16, 17, 18, 19, 20, 21, 22, 23, 24, 25, 26, 27, 28, 29, 30, 31, 32, 33, 34, 35, 36, 37, 38, 39, 40, 41, 42, 43, 44, 45, 46, 47, 48, 49, 50, 51, 52, 53, 54, 55, 56, 57, 58, 59, 60, 61, 62, 63, 64, 65, 66] (by decide +kernel) (by decide +kernel)
set_option maxRecDepth 20000 in
theorem gX5_readCondition_X5_readCondition : GoodIn wsX5_readCondition (wsV RX5 81 RX5 yX5_readCondition wsX5_readCondition) := goodIn_app (goodIn_of _ (by decide +kernel)) ggX5_readCondition_X5_readCondition
set_option maxRecDepth 20000 in
theorem ggX5_readCondition_X4_append : GoodIn wsX5_readCondition wsX4_append := goodIn_r _ [29, 30, 31, 61, 62, 63, 64, 65, 66] (by decide +kernel) (by decide +kernel)
set_option maxRecDepth 20000 in
theorem gX5_readCondition_X4_append : GoodIn wsX5_readCondition (wsV RX5 77 RX4 yX4_append wsX4_append) := goodIn_app (goodIn_of _ (by decide +kernel)) ggX5_readCondition_X4_append
theorem dX5_readCondition_0 : decode cX5_readCondition 0 = .ok (.aload_n 0, 1) := by decide +kernel
theorem dX5_readCondition_1 : decode cX5_readCondition 1 = .ok (.getfield 25, 3) := by decide +kernel
theorem dX5_readCondition_4 : decode cX5_readCondition 4 = .ok (.sipush 1005, 3) := by decide +kernel
theorem dX5_readCondition_7 : decode cX5_readCondition 7 = .ok (.if_icmp .eq 18, 3) := by decide +kernel
theorem dX5_readCondition_10 : decode cX5_readCondition 10 = .ok (.aload_n 0, 1) := by decide +kernel
theorem dX5_readCondition_11 : decode cX5_readCondition 11 = .ok (.getfield 25, 3) := by decide +kernel
theorem dX5_readCondition_14 : decode cX5_readCondition 14 = .ok (.sipush 1140, 3) := by decide +kernel
theorem dX5_readCondition_17 : decode cX5_readCondition 17 = .ok (.if_icmp .eq 8, 3) := by decide +kernel
theorem dX5_readCondition_20 : decode cX5_readCondition 20 = .ok (.aload_n 0, 1) := by decide +kernel
theorem dX5_readCondition_21 : decode cX5_readCondition 21 = .ok (.invokevirtual 84, 3) := by decide +kernel
theorem dX5_readCondition_24 : decode cX5_readCondition 24 = .ok (.ireturn, 1) := by decide +kernel
theorem dX5_readCondition_25 : decode cX5_readCondition 25 = .ok (.iload_n 1, 1) := by decide +kernel
theorem dX5_readCondition_26 : decode cX5_readCondition 26 = .ok (.bipush 8, 2) := by decide +kernel
theorem dX5_readCondition_28 : decode cX5_readCondition 28 = .ok (.if_icmp .lt 9, 3) := by decide +kernel
theorem dX5_readCondition_31 : decode cX5_readCondition 31 = .ok (.aload_n 0, 1) := by decide +kernel
theorem dX5_readCondition_32 : decode cX5_readCondition 32 = .ok (.iconst 3, 1) := by decide +kernel
theorem dX5_readCondition_33 : decode cX5_readCondition 33 = .ok (.invokevirtual 49, 3) := by decide +kernel
theorem dX5_readCondition_36 : decode cX5_readCondition 36 = .ok (.ireturn, 1) := by decide +kernel
theorem dX5_readCondition_37 : decode cX5_readCondition 37 = .ok (.aload_n 0, 1) := by decide +kernel
theorem dX5_readCondition_38 : decode cX5_readCondition 38 = .ok (.getfield 25, 3) := by decide +kernel
theorem dX5_readCondition_41 : decode cX5_readCondition 41 = .ok (.sipush 1005, 3) := by decide +kernel
theorem dX5_readCondition_44 : decode cX5_readCondition 44 = .ok (.if_icmp .ne 7, 3) := by decide +kernel
theorem dX5_readCondition_47 : decode cX5_readCondition 47 = .ok (.iconst 1, 1) := by decide +kernel
theorem dX5_readCondition_48 : decode cX5_readCondition 48 = .ok (.goto 4, 3) := by decide +kernel
theorem dX5_readCondition_51 : decode cX5_readCondition 51 = .ok (.iconst 0, 1) := by decide +kernel
theorem dX5_readCondition_52 : decode cX5_readCondition 52 = .ok (.istore_n 2, 1) := by decide +kernel
theorem dX5_readCondition_53 : decode cX5_readCondition 53 = .ok (.aload_n 0, 1) := by decide +kernel
theorem dX5_readCondition_54 : decode cX5_readCondition 54 = .ok (.invokevirtual 56, 3) := by decide +kernel
theorem dX5_readCondition_57 : decode cX5_readCondition 57 = .ok (.iload_n 2, 1) := by decide +kernel
theorem dX5_readCondition_58 : decode cX5_readCondition 58 = .ok (.ifCond .ne 29, 3) := by decide +kernel
theorem dX5_readCondition_61 : decode cX5_readCondition 61 = .ok (.aload_n 0, 1) := by decide +kernel
theorem dX5_readCondition_62 : decode cX5_readCondition 62 = .ok (.iload_n 1, 1) := by decide +kernel
theorem dX5_readCondition_63 : decode cX5_readCondition 63 = .ok (.iconst 1, 1) := by decide +kernel
theorem dX5_readCondition_64 : decode cX5_readCondition 64 = .ok (.iadd, 1) := by decide +kernel
theorem dX5_readCondition_65 : decode cX5_readCondition 65 = .ok (.invokevirtual 66, 3) := by decide +kernel
theorem dX5_readCondition_68 : decode cX5_readCondition 68 = .ok (.ifCond .eq 17, 3) := by decide +kernel
theorem dX5_readCondition_71 : decode cX5_readCondition 71 = .ok (.aload_n 0, 1) := by decide +kernel
theorem dX5_readCondition_72 : decode cX5_readCondition 72 = .ok (.sipush 1141, 3) := by decide +kernel
theorem dX5_readCondition_75 : decode cX5_readCondition 75 = .ok (.invokevirtual 63, 3) := by decide +kernel
theorem dX5_readCondition_78 : decode cX5_readCondition 78 = .ok (.ifCond .eq 7, 3) := by decide +kernel
theorem dX5_readCondition_81 : decode cX5_readCondition 81 = .ok (.iconst 1, 1) := by decide +kernel
theorem dX5_readCondition_82 : decode cX5_readCondition 82 = .ok (.goto 4, 3) := by decide +kernel
theorem dX5_readCondition_85 : decode cX5_readCondition 85 = .ok (.iconst 0, 1) := by decide +kernel
theorem dX5_readCondition_86 : decode cX5_readCondition 86 = .ok (.ireturn, 1) := by decide +kernel
theorem dX5_readCondition_87 : decode cX5_readCondition 87 = .ok (.aload_n 0, 1) := by decide +kernel
theorem dX5_readCondition_88 : decode cX5_readCondition 88 = .ok (.iload_n 1, 1) := by decide +kernel
theorem dX5_readCondition_89 : decode cX5_readCondition 89 = .ok (.iconst 1, 1) := by decide +kernel
theorem dX5_readCondition_90 : decode cX5_readCondition 90 = .ok (.iadd, 1) := by decide +kernel
theorem dX5_readCondition_91 : decode cX5_readCondition 91 = .ok (.invokevirtual 81, 3) := by decide +kernel
theorem dX5_readCondition_94 : decode cX5_readCondition 94 = .ok (.istore_n 3, 1) := by decide +kernel
theorem dX5_readCondition_95 : decode cX5_readCondition 95 = .ok (.aload_n 0, 1) := by decide +kernel
theorem dX5_readCondition_96 : decode cX5_readCondition 96 = .ok (.getfield 21, 3) := by decide +kernel
theorem dX5_readCondition_99 : decode cX5_readCondition 99 = .ok (.sipush 1005, 3) := by decide +kernel
theorem dX5_readCondition_102 : decode cX5_readCondition 102 = .ok (.invokevirtual 77, 3) := by decide +kernel
theorem dX5_readCondition_105 : decode cX5_readCondition 105 = .ok (.iload_n 3, 1) := by decide +kernel
theorem dX5_readCondition_106 : decode cX5_readCondition 106 = .ok (.ireturn, 1) := by decide +kernel
set_option maxRecDepth 20000 in
theorem ggX5_readComparison_X5_readSum : GoodIn wsX5_readComparison wsX5_readSum := goodIn_r _ [7, 8, 9, 1, 2, 10, 11, 6, 12, 13, 14, 15, 16, 17, 18, 19, 20, 21, 22, 23, 24, 25, 26, 27, 28, 29, 30, 31, 32, 33, 34, 35, 36, 37, 38, 39, 40, 41, 42, 43, 44, 45, 46, 47] (by decide +kernel) (by decide +kernel)
set_option maxRecDepth 20000 in
theorem gX5_readComparison_X5_readSum : GoodIn wsX5_readComparison (wsV RX5 88 RX5 yX5_readSum wsX5_readSum) := goodIn_app (goodIn_of _ (by decide +kernel)) ggX5_readComparison_X5_readSum
set_option maxRecDepth 20000 in
theorem ggX5_readComparison_X5_refuse : GoodIn wsX5_readComparison wsX5_refuse := goodIn_r _ [16, 17, 8, 18, 19, 20, 33, 34, 35, 36, 37, 38, 39, 40, 41] (by decide +kernel) (by decide +kernel)
set_option maxRecDepth 20000 in
theorem gX5_readComparison_X5_refuse : GoodIn wsX5_readComparison (wsV RX5 49 RX5 yX5_refuse wsX5_refuse) := goodIn_app (goodIn_of _ (by decide +kernel)) ggX5_readComparison_X5_refuse
set_option maxRecDepth 20000 in
theorem ggX5_readComparison_X5_advance : GoodIn wsX5_readComparison wsX5_advance := goodIn_r _ [31, 19, 8, 9, 32, 1, 33, 34, 35, 36, 37, 38, 39, 40, 41] (by decide +kernel) (by decide +kernel)
set_option maxRecDepth 20000 in
theorem gX5_readComparison_X5_advance : GoodIn wsX5_readComparison (wsV RX5 56 RX5 yX5_advance wsX5_advance) := goodIn_app (goodIn_of _ (by decide +kernel)) ggX5_readComparison_X5_advance
set_option maxRecDepth 20000 in
theorem ggX5_readComparison_X4_append : GoodIn wsX5_readComparison wsX4_append := goodIn_r _ [25, 26, 27, 42, 43, 44, 45, 46, 47] (by decide +kernel) (by decide +kernel)
set_option maxRecDepth 20000 in
theorem gX5_readComparison_X4_append : GoodIn wsX5_readComparison (wsV RX5 77 RX4 yX4_append wsX4_append) := goodIn_app (goodIn_of _ (by decide +kernel)) ggX5_readComparison_X4_append
theorem dX5_readComparison_0 : decode cX5_readComparison 0 = .ok (.aload_n 0, 1) := by decide +kernel
theorem dX5_readComparison_1 : decode cX5_readComparison 1 = .ok (.invokevirtual 88, 3) := by decide +kernel
theorem dX5_readComparison_4 : decode cX5_readComparison 4 = .ok (.ifCond .ne 5, 3) := by decide +kernel
theorem dX5_readComparison_7 : decode cX5_readComparison 7 = .ok (.iconst 0, 1) := by decide +kernel
theorem dX5_readComparison_8 : decode cX5_readComparison 8 = .ok (.ireturn, 1) := by decide +kernel
theorem dX5_readComparison_9 : decode cX5_readComparison 9 = .ok (.aload_n 0, 1) := by decide +kernel
theorem dX5_readComparison_10 : decode cX5_readComparison 10 = .ok (.getfield 25, 3) := by decide +kernel
theorem dX5_readComparison_13 : decode cX5_readComparison 13 = .ok (.istore_n 1, 1) := by decide +kernel
theorem dX5_readComparison_14 : decode cX5_readComparison 14 = .ok (.iload_n 1, 1) := by decide +kernel
theorem dX5_readComparison_15 : decode cX5_readComparison 15 = .ok (.sipush 1160, 3) := by decide +kernel
theorem dX5_readComparison_18 : decode cX5_readComparison 18 = .ok (.if_icmp .eq 23, 3) := by decide +kernel
theorem dX5_readComparison_21 : decode cX5_readComparison 21 = .ok (.iload_n 1, 1) := by decide +kernel
theorem dX5_readComparison_22 : decode cX5_readComparison 22 = .ok (.sipush 1161, 3) := by decide +kernel
theorem dX5_readComparison_25 : decode cX5_readComparison 25 = .ok (.if_icmp .eq 16, 3) := by decide +kernel
theorem dX5_readComparison_28 : decode cX5_readComparison 28 = .ok (.iload_n 1, 1) := by decide +kernel
theorem dX5_readComparison_29 : decode cX5_readComparison 29 = .ok (.sipush 1162, 3) := by decide +kernel
theorem dX5_readComparison_32 : decode cX5_readComparison 32 = .ok (.if_icmp .eq 9, 3) := by decide +kernel
theorem dX5_readComparison_35 : decode cX5_readComparison 35 = .ok (.aload_n 0, 1) := by decide +kernel
theorem dX5_readComparison_36 : decode cX5_readComparison 36 = .ok (.iconst 1, 1) := by decide +kernel
theorem dX5_readComparison_37 : decode cX5_readComparison 37 = .ok (.invokevirtual 49, 3) := by decide +kernel
theorem dX5_readComparison_40 : decode cX5_readComparison 40 = .ok (.ireturn, 1) := by decide +kernel
theorem dX5_readComparison_41 : decode cX5_readComparison 41 = .ok (.aload_n 0, 1) := by decide +kernel
theorem dX5_readComparison_42 : decode cX5_readComparison 42 = .ok (.invokevirtual 56, 3) := by decide +kernel
theorem dX5_readComparison_45 : decode cX5_readComparison 45 = .ok (.aload_n 0, 1) := by decide +kernel
theorem dX5_readComparison_46 : decode cX5_readComparison 46 = .ok (.invokevirtual 88, 3) := by decide +kernel
theorem dX5_readComparison_49 : decode cX5_readComparison 49 = .ok (.istore_n 2, 1) := by decide +kernel
theorem dX5_readComparison_50 : decode cX5_readComparison 50 = .ok (.aload_n 0, 1) := by decide +kernel
theorem dX5_readComparison_51 : decode cX5_readComparison 51 = .ok (.getfield 21, 3) := by decide +kernel
theorem dX5_readComparison_54 : decode cX5_readComparison 54 = .ok (.iload_n 1, 1) := by decide +kernel
theorem dX5_readComparison_55 : decode cX5_readComparison 55 = .ok (.invokevirtual 77, 3) := by decide +kernel
theorem dX5_readComparison_58 : decode cX5_readComparison 58 = .ok (.iload_n 2, 1) := by decide +kernel
theorem dX5_readComparison_59 : decode cX5_readComparison 59 = .ok (.ireturn, 1) := by decide +kernel
set_option maxRecDepth 20000 in
theorem ggX5_readSum_X5_isValue : GoodIn wsX5_readSum wsX5_isValue := goodIn_r _ [8] (by decide +kernel) (by decide +kernel)
set_option maxRecDepth 20000 in
theorem gX5_readSum_X5_isValue : GoodIn wsX5_readSum (va_wsS RX5 91 yX5_isValue wsX5_isValue) := goodIn_app (goodIn_of _ (by decide +kernel)) ggX5_readSum_X5_isValue
set_option maxRecDepth 20000 in
theorem ggX5_readSum_X5_refuse : GoodIn wsX5_readSum wsX5_refuse := goodIn_r _ [12, 13, 1, 14, 15, 16, 29, 30, 31, 32, 33, 34, 35, 36, 37] (by decide +kernel) (by decide +kernel)
set_option maxRecDepth 20000 in
theorem gX5_readSum_X5_refuse : GoodIn wsX5_readSum (wsV RX5 49 RX5 yX5_refuse wsX5_refuse) := goodIn_app (goodIn_of _ (by decide +kernel)) ggX5_readSum_X5_refuse
set_option maxRecDepth 20000 in
theorem ggX5_readSum_X4_append : GoodIn wsX5_readSum wsX4_append := goodIn_r _ [21, 22, 23, 38, 39, 40, 41, 42, 43] (by decide +kernel) (by decide +kernel)
set_option maxRecDepth 20000 in
theorem gX5_readSum_X4_append : GoodIn wsX5_readSum (wsV RX5 77 RX4 yX4_append wsX4_append) := goodIn_app (goodIn_of _ (by decide +kernel)) ggX5_readSum_X4_append
set_option maxRecDepth 20000 in
theorem ggX5_readSum_X5_advance : GoodIn wsX5_readSum wsX5_advance := goodIn_r _ [27, 15, 1, 2, 28, 3, 29, 30, 31, 32, 33, 34, 35, 36, 37] (by decide +kernel) (by decide +kernel)
set_option maxRecDepth 20000 in
theorem gX5_readSum_X5_advance : GoodIn wsX5_readSum (wsV RX5 56 RX5 yX5_advance wsX5_advance) := goodIn_app (goodIn_of _ (by decide +kernel)) ggX5_readSum_X5_advance
theorem dX5_readSum_0 : decode cX5_readSum 0 = .ok (.sipush 1012, 3) := by decide +kernel
theorem dX5_readSum_3 : decode cX5_readSum 3 = .ok (.istore_n 1, 1) := by decide +kernel
theorem dX5_readSum_4 : decode cX5_readSum 4 = .ok (.iconst 0, 1) := by decide +kernel
theorem dX5_readSum_5 : decode cX5_readSum 5 = .ok (.istore_n 2, 1) := by decide +kernel
theorem dX5_readSum_6 : decode cX5_readSum 6 = .ok (.iload_n 2, 1) := by decide +kernel
theorem dX5_readSum_7 : decode cX5_readSum 7 = .ok (.aload_n 0, 1) := by decide +kernel
theorem dX5_readSum_8 : decode cX5_readSum 8 = .ok (.getfield 12, 3) := by decide +kernel
theorem dX5_readSum_11 : decode cX5_readSum 11 = .ok (.getfield 76, 3) := by decide +kernel
theorem dX5_readSum_14 : decode cX5_readSum 14 = .ok (.if_icmp .ge 80, 3) := by decide +kernel
theorem dX5_readSum_17 : decode cX5_readSum 17 = .ok (.aload_n 0, 1) := by decide +kernel
theorem dX5_readSum_18 : decode cX5_readSum 18 = .ok (.getfield 25, 3) := by decide +kernel
theorem dX5_readSum_21 : decode cX5_readSum 21 = .ok (.invokestatic 91, 3) := by decide +kernel
theorem dX5_readSum_24 : decode cX5_readSum 24 = .ok (.ifCond .ne 9, 3) := by decide +kernel
theorem dX5_readSum_27 : decode cX5_readSum 27 = .ok (.aload_n 0, 1) := by decide +kernel
theorem dX5_readSum_28 : decode cX5_readSum 28 = .ok (.iconst 1, 1) := by decide +kernel
theorem dX5_readSum_29 : decode cX5_readSum 29 = .ok (.invokevirtual 49, 3) := by decide +kernel
theorem dX5_readSum_32 : decode cX5_readSum 32 = .ok (.ireturn, 1) := by decide +kernel
theorem dX5_readSum_33 : decode cX5_readSum 33 = .ok (.aload_n 0, 1) := by decide +kernel
theorem dX5_readSum_34 : decode cX5_readSum 34 = .ok (.getfield 21, 3) := by decide +kernel
theorem dX5_readSum_37 : decode cX5_readSum 37 = .ok (.aload_n 0, 1) := by decide +kernel
theorem dX5_readSum_38 : decode cX5_readSum 38 = .ok (.getfield 25, 3) := by decide +kernel
theorem dX5_readSum_41 : decode cX5_readSum 41 = .ok (.invokevirtual 77, 3) := by decide +kernel
theorem dX5_readSum_44 : decode cX5_readSum 44 = .ok (.aload_n 0, 1) := by decide +kernel
theorem dX5_readSum_45 : decode cX5_readSum 45 = .ok (.invokevirtual 56, 3) := by decide +kernel
theorem dX5_readSum_48 : decode cX5_readSum 48 = .ok (.iload_n 1, 1) := by decide +kernel
theorem dX5_readSum_49 : decode cX5_readSum 49 = .ok (.sipush 1012, 3) := by decide +kernel
theorem dX5_readSum_52 : decode cX5_readSum 52 = .ok (.if_icmp .eq 11, 3) := by decide +kernel
theorem dX5_readSum_55 : decode cX5_readSum 55 = .ok (.aload_n 0, 1) := by decide +kernel
theorem dX5_readSum_56 : decode cX5_readSum 56 = .ok (.getfield 21, 3) := by decide +kernel
theorem dX5_readSum_59 : decode cX5_readSum 59 = .ok (.iload_n 1, 1) := by decide +kernel
theorem dX5_readSum_60 : decode cX5_readSum 60 = .ok (.invokevirtual 77, 3) := by decide +kernel
theorem dX5_readSum_63 : decode cX5_readSum 63 = .ok (.aload_n 0, 1) := by decide +kernel
theorem dX5_readSum_64 : decode cX5_readSum 64 = .ok (.getfield 25, 3) := by decide +kernel
theorem dX5_readSum_67 : decode cX5_readSum 67 = .ok (.istore_n 1, 1) := by decide +kernel
theorem dX5_readSum_68 : decode cX5_readSum 68 = .ok (.iload_n 1, 1) := by decide +kernel
theorem dX5_readSum_69 : decode cX5_readSum 69 = .ok (.sipush 1143, 3) := by decide +kernel
theorem dX5_readSum_72 : decode cX5_readSum 72 = .ok (.if_icmp .eq 12, 3) := by decide +kernel
theorem dX5_readSum_75 : decode cX5_readSum 75 = .ok (.iload_n 1, 1) := by decide +kernel
theorem dX5_readSum_76 : decode cX5_readSum 76 = .ok (.sipush 1145, 3) := by decide +kernel
theorem dX5_readSum_79 : decode cX5_readSum 79 = .ok (.if_icmp .eq 5, 3) := by decide +kernel
theorem dX5_readSum_82 : decode cX5_readSum 82 = .ok (.iconst 1, 1) := by decide +kernel
theorem dX5_readSum_83 : decode cX5_readSum 83 = .ok (.ireturn, 1) := by decide +kernel
theorem dX5_readSum_84 : decode cX5_readSum 84 = .ok (.aload_n 0, 1) := by decide +kernel
theorem dX5_readSum_85 : decode cX5_readSum 85 = .ok (.invokevirtual 56, 3) := by decide +kernel
theorem dX5_readSum_88 : decode cX5_readSum 88 = .ok (.iinc 2 1, 3) := by decide +kernel
theorem dX5_readSum_91 : decode cX5_readSum 91 = .ok (.goto (-85), 3) := by decide +kernel
theorem dX5_readSum_94 : decode cX5_readSum 94 = .ok (.aload_n 0, 1) := by decide +kernel
theorem dX5_readSum_95 : decode cX5_readSum 95 = .ok (.iconst 1, 1) := by decide +kernel
theorem dX5_readSum_96 : decode cX5_readSum 96 = .ok (.invokevirtual 49, 3) := by decide +kernel
theorem dX5_readSum_99 : decode cX5_readSum 99 = .ok (.ireturn, 1) := by decide +kernel
theorem dX5_isValue_0 : decode cX5_isValue 0 = .ok (.iload_n 0, 1) := by decide +kernel
theorem dX5_isValue_1 : decode cX5_isValue 1 = .ok (.sipush 999, 3) := by decide +kernel
theorem dX5_isValue_4 : decode cX5_isValue 4 = .ok (.if_icmp .le 17, 3) := by decide +kernel
theorem dX5_isValue_7 : decode cX5_isValue 7 = .ok (.iload_n 0, 1) := by decide +kernel
theorem dX5_isValue_8 : decode cX5_isValue 8 = .ok (.sipush 1006, 3) := by decide +kernel
theorem dX5_isValue_11 : decode cX5_isValue 11 = .ok (.if_icmp .lt 14, 3) := by decide +kernel
theorem dX5_isValue_14 : decode cX5_isValue 14 = .ok (.iload_n 0, 1) := by decide +kernel
theorem dX5_isValue_15 : decode cX5_isValue 15 = .ok (.sipush 1010, 3) := by decide +kernel
theorem dX5_isValue_18 : decode cX5_isValue 18 = .ok (.if_icmp .gt 7, 3) := by decide +kernel
theorem dX5_isValue_21 : decode cX5_isValue 21 = .ok (.iconst 1, 1) := by decide +kernel
theorem dX5_isValue_22 : decode cX5_isValue 22 = .ok (.goto 4, 3) := by decide +kernel
theorem dX5_isValue_25 : decode cX5_isValue 25 = .ok (.iconst 0, 1) := by decide +kernel
theorem dX5_isValue_26 : decode cX5_isValue 26 = .ok (.ireturn, 1) := by decide +kernel
set_option maxRecDepth 20000 in
theorem ggX5_expect_X5_refuse : GoodIn wsX5_expect wsX5_refuse := goodIn_r _ [6, 7, 8, 9, 10, 11, 18, 19, 20, 21, 22, 23, 24, 25, 26] (by decide +kernel) (by decide +kernel)
set_option maxRecDepth 20000 in
theorem gX5_expect_X5_refuse : GoodIn wsX5_expect (wsV RX5 49 RX5 yX5_refuse wsX5_refuse) := goodIn_app (goodIn_of _ (by decide +kernel)) ggX5_expect_X5_refuse
set_option maxRecDepth 20000 in
theorem ggX5_expect_X5_advance : GoodIn wsX5_expect wsX5_advance := goodIn_r _ [15, 10, 8, 16, 17, 1, 18, 19, 20, 21, 22, 23, 24, 25, 26] (by decide +kernel) (by decide +kernel)
set_option maxRecDepth 20000 in
theorem gX5_expect_X5_advance : GoodIn wsX5_expect (wsV RX5 56 RX5 yX5_advance wsX5_advance) := goodIn_app (goodIn_of _ (by decide +kernel)) ggX5_expect_X5_advance
theorem dX5_expect_0 : decode cX5_expect 0 = .ok (.aload_n 0, 1) := by decide +kernel
theorem dX5_expect_1 : decode cX5_expect 1 = .ok (.getfield 25, 3) := by decide +kernel
theorem dX5_expect_4 : decode cX5_expect 4 = .ok (.iload_n 1, 1) := by decide +kernel
theorem dX5_expect_5 : decode cX5_expect 5 = .ok (.if_icmp .eq 9, 3) := by decide +kernel
theorem dX5_expect_8 : decode cX5_expect 8 = .ok (.aload_n 0, 1) := by decide +kernel
theorem dX5_expect_9 : decode cX5_expect 9 = .ok (.iconst 1, 1) := by decide +kernel
theorem dX5_expect_10 : decode cX5_expect 10 = .ok (.invokevirtual 49, 3) := by decide +kernel
theorem dX5_expect_13 : decode cX5_expect 13 = .ok (.ireturn, 1) := by decide +kernel
theorem dX5_expect_14 : decode cX5_expect 14 = .ok (.aload_n 0, 1) := by decide +kernel
theorem dX5_expect_15 : decode cX5_expect 15 = .ok (.invokevirtual 56, 3) := by decide +kernel
theorem dX5_expect_18 : decode cX5_expect 18 = .ok (.iconst 1, 1) := by decide +kernel
theorem dX5_expect_19 : decode cX5_expect 19 = .ok (.ireturn, 1) := by decide +kernel
theorem dX5_advance_0 : decode cX5_advance 0 = .ok (.aload_n 0, 1) := by decide +kernel
theorem dX5_advance_1 : decode cX5_advance 1 = .ok (.getfield 42, 3) := by decide +kernel
theorem dX5_advance_4 : decode cX5_advance 4 = .ok (.aload_n 0, 1) := by decide +kernel
theorem dX5_advance_5 : decode cX5_advance 5 = .ok (.getfield 12, 3) := by decide +kernel
theorem dX5_advance_8 : decode cX5_advance 8 = .ok (.getfield 76, 3) := by decide +kernel
theorem dX5_advance_11 : decode cX5_advance 11 = .ok (.iconst 1, 1) := by decide +kernel
theorem dX5_advance_12 : decode cX5_advance 12 = .ok (.isub, 1) := by decide +kernel
theorem dX5_advance_13 : decode cX5_advance 13 = .ok (.if_icmp .ge 29, 3) := by decide +kernel
theorem dX5_advance_16 : decode cX5_advance 16 = .ok (.aload_n 0, 1) := by decide +kernel
theorem dX5_advance_17 : decode cX5_advance 17 = .ok (.dup, 1) := by decide +kernel
theorem dX5_advance_18 : decode cX5_advance 18 = .ok (.getfield 42, 3) := by decide +kernel
theorem dX5_advance_21 : decode cX5_advance 21 = .ok (.iconst 1, 1) := by decide +kernel
theorem dX5_advance_22 : decode cX5_advance 22 = .ok (.iadd, 1) := by decide +kernel
theorem dX5_advance_23 : decode cX5_advance 23 = .ok (.putfield 42, 3) := by decide +kernel
theorem dX5_advance_26 : decode cX5_advance 26 = .ok (.aload_n 0, 1) := by decide +kernel
theorem dX5_advance_27 : decode cX5_advance 27 = .ok (.aload_n 0, 1) := by decide +kernel
theorem dX5_advance_28 : decode cX5_advance 28 = .ok (.getfield 12, 3) := by decide +kernel
theorem dX5_advance_31 : decode cX5_advance 31 = .ok (.getfield 45, 3) := by decide +kernel
theorem dX5_advance_34 : decode cX5_advance 34 = .ok (.aload_n 0, 1) := by decide +kernel
theorem dX5_advance_35 : decode cX5_advance 35 = .ok (.getfield 42, 3) := by decide +kernel
theorem dX5_advance_38 : decode cX5_advance 38 = .ok (.iaload, 1) := by decide +kernel
theorem dX5_advance_39 : decode cX5_advance 39 = .ok (.putfield 25, 3) := by decide +kernel
theorem dX5_advance_42 : decode cX5_advance 42 = .ok (.return_, 1) := by decide +kernel
theorem dX5_refuse_0 : decode cX5_refuse 0 = .ok (.aload_n 0, 1) := by decide +kernel
theorem dX5_refuse_1 : decode cX5_refuse 1 = .ok (.iload_n 1, 1) := by decide +kernel
theorem dX5_refuse_2 : decode cX5_refuse 2 = .ok (.putfield 29, 3) := by decide +kernel
theorem dX5_refuse_5 : decode cX5_refuse 5 = .ok (.aload_n 0, 1) := by decide +kernel
theorem dX5_refuse_6 : decode cX5_refuse 6 = .ok (.aload_n 0, 1) := by decide +kernel
theorem dX5_refuse_7 : decode cX5_refuse 7 = .ok (.getfield 12, 3) := by decide +kernel
theorem dX5_refuse_10 : decode cX5_refuse 10 = .ok (.getfield 94, 3) := by decide +kernel
theorem dX5_refuse_13 : decode cX5_refuse 13 = .ok (.aload_n 0, 1) := by decide +kernel
theorem dX5_refuse_14 : decode cX5_refuse 14 = .ok (.getfield 42, 3) := by decide +kernel
theorem dX5_refuse_17 : decode cX5_refuse 17 = .ok (.iaload, 1) := by decide +kernel
theorem dX5_refuse_18 : decode cX5_refuse 18 = .ok (.putfield 32, 3) := by decide +kernel
theorem dX5_refuse_21 : decode cX5_refuse 21 = .ok (.iconst 0, 1) := by decide +kernel
theorem dX5_refuse_22 : decode cX5_refuse 22 = .ok (.ireturn, 1) := by decide +kernel
theorem dX6_init_0 : decode cX6_init 0 = .ok (.aload_n 0, 1) := by decide +kernel
theorem dX6_init_1 : decode cX6_init 1 = .ok (.invokespecial 3, 3) := by decide +kernel
theorem dX6_init_4 : decode cX6_init 4 = .ok (.aload_n 0, 1) := by decide +kernel
theorem dX6_init_5 : decode cX6_init 5 = .ok (.sipush 600, 3) := by decide +kernel
theorem dX6_init_8 : decode cX6_init 8 = .ok (.newarray .int, 2) := by decide +kernel
theorem dX6_init_10 : decode cX6_init 10 = .ok (.putfield 9, 3) := by decide +kernel
theorem dX6_init_13 : decode cX6_init 13 = .ok (.return_, 1) := by decide +kernel
theorem dX6_take_0 : decode cX6_take 0 = .ok (.bipush 24, 2) := by decide +kernel
theorem dX6_take_2 : decode cX6_take 2 = .ok (.istore_n 2, 1) := by decide +kernel
theorem dX6_take_3 : decode cX6_take 3 = .ok (.iload_n 2, 1) := by decide +kernel
theorem dX6_take_4 : decode cX6_take 4 = .ok (.ifCond .lt 45, 3) := by decide +kernel
theorem dX6_take_7 : decode cX6_take 7 = .ok (.aload_n 0, 1) := by decide +kernel
theorem dX6_take_8 : decode cX6_take 8 = .ok (.getfield 15, 3) := by decide +kernel
theorem dX6_take_11 : decode cX6_take 11 = .ok (.sipush 600, 3) := by decide +kernel
theorem dX6_take_14 : decode cX6_take 14 = .ok (.if_icmp .ge 35, 3) := by decide +kernel
theorem dX6_take_17 : decode cX6_take 17 = .ok (.aload_n 0, 1) := by decide +kernel
theorem dX6_take_18 : decode cX6_take 18 = .ok (.getfield 9, 3) := by decide +kernel
theorem dX6_take_21 : decode cX6_take 21 = .ok (.aload_n 0, 1) := by decide +kernel
theorem dX6_take_22 : decode cX6_take 22 = .ok (.getfield 15, 3) := by decide +kernel
theorem dX6_take_25 : decode cX6_take 25 = .ok (.iload_n 1, 1) := by decide +kernel
theorem dX6_take_26 : decode cX6_take 26 = .ok (.iload_n 2, 1) := by decide +kernel
theorem dX6_take_27 : decode cX6_take 27 = .ok (.ishr, 1) := by decide +kernel
theorem dX6_take_28 : decode cX6_take 28 = .ok (.sipush 255, 3) := by decide +kernel
theorem dX6_take_31 : decode cX6_take 31 = .ok (.iand, 1) := by decide +kernel
theorem dX6_take_32 : decode cX6_take 32 = .ok (.iastore, 1) := by decide +kernel
theorem dX6_take_33 : decode cX6_take 33 = .ok (.aload_n 0, 1) := by decide +kernel
theorem dX6_take_34 : decode cX6_take 34 = .ok (.dup, 1) := by decide +kernel
theorem dX6_take_35 : decode cX6_take 35 = .ok (.getfield 15, 3) := by decide +kernel
theorem dX6_take_38 : decode cX6_take 38 = .ok (.iconst 1, 1) := by decide +kernel
theorem dX6_take_39 : decode cX6_take 39 = .ok (.iadd, 1) := by decide +kernel
theorem dX6_take_40 : decode cX6_take 40 = .ok (.putfield 15, 3) := by decide +kernel
theorem dX6_take_43 : decode cX6_take 43 = .ok (.iinc 2 (-8), 3) := by decide +kernel
theorem dX6_take_46 : decode cX6_take 46 = .ok (.goto (-43), 3) := by decide +kernel
theorem dX6_take_49 : decode cX6_take 49 = .ok (.return_, 1) := by decide +kernel
theorem dX7_init_0 : decode cX7_init 0 = .ok (.aload_n 0, 1) := by decide +kernel
theorem dX7_init_1 : decode cX7_init 1 = .ok (.invokespecial 1, 3) := by decide +kernel
theorem dX7_init_4 : decode cX7_init 4 = .ok (.aload_n 0, 1) := by decide +kernel
theorem dX7_init_5 : decode cX7_init 5 = .ok (.iload_n 2, 1) := by decide +kernel
theorem dX7_init_6 : decode cX7_init 6 = .ok (.putfield 7, 3) := by decide +kernel
theorem dX7_init_9 : decode cX7_init 9 = .ok (.aload_n 0, 1) := by decide +kernel
theorem dX7_init_10 : decode cX7_init 10 = .ok (.iload_n 1, 1) := by decide +kernel
theorem dX7_init_11 : decode cX7_init 11 = .ok (.newarray .int, 2) := by decide +kernel
theorem dX7_init_13 : decode cX7_init 13 = .ok (.putfield 13, 3) := by decide +kernel
theorem dX7_init_16 : decode cX7_init 16 = .ok (.aload_n 0, 1) := by decide +kernel
theorem dX7_init_17 : decode cX7_init 17 = .ok (.iload_n 1, 1) := by decide +kernel
theorem dX7_init_18 : decode cX7_init 18 = .ok (.iload_n 2, 1) := by decide +kernel
theorem dX7_init_19 : decode cX7_init 19 = .ok (.imul, 1) := by decide +kernel
theorem dX7_init_20 : decode cX7_init 20 = .ok (.newarray .int, 2) := by decide +kernel
theorem dX7_init_22 : decode cX7_init 22 = .ok (.putfield 17, 3) := by decide +kernel
theorem dX7_init_25 : decode cX7_init 25 = .ok (.return_, 1) := by decide +kernel
theorem dX7_keep_0 : decode cX7_keep 0 = .ok (.iload_n 1, 1) := by decide +kernel
theorem dX7_keep_1 : decode cX7_keep 1 = .ok (.ifCond .lt 23, 3) := by decide +kernel
theorem dX7_keep_4 : decode cX7_keep 4 = .ok (.iload_n 1, 1) := by decide +kernel
theorem dX7_keep_5 : decode cX7_keep 5 = .ok (.aload_n 0, 1) := by decide +kernel
theorem dX7_keep_6 : decode cX7_keep 6 = .ok (.getfield 13, 3) := by decide +kernel
theorem dX7_keep_9 : decode cX7_keep 9 = .ok (.arraylength, 1) := by decide +kernel
theorem dX7_keep_10 : decode cX7_keep 10 = .ok (.if_icmp .ge 14, 3) := by decide +kernel
theorem dX7_keep_13 : decode cX7_keep 13 = .ok (.aload_n 2, 1) := by decide +kernel
theorem dX7_keep_14 : decode cX7_keep 14 = .ok (.getfield 20, 3) := by decide +kernel
theorem dX7_keep_17 : decode cX7_keep 17 = .ok (.aload_n 0, 1) := by decide +kernel
theorem dX7_keep_18 : decode cX7_keep 18 = .ok (.getfield 7, 3) := by decide +kernel
theorem dX7_keep_21 : decode cX7_keep 21 = .ok (.if_icmp .le 5, 3) := by decide +kernel
theorem dX7_keep_24 : decode cX7_keep 24 = .ok (.iconst 0, 1) := by decide +kernel
theorem dX7_keep_25 : decode cX7_keep 25 = .ok (.ireturn, 1) := by decide +kernel
theorem dX7_keep_26 : decode cX7_keep 26 = .ok (.aload_n 2, 1) := by decide +kernel
theorem dX7_keep_27 : decode cX7_keep 27 = .ok (.getfield 25, 3) := by decide +kernel
theorem dX7_keep_30 : decode cX7_keep 30 = .ok (.iconst 0, 1) := by decide +kernel
theorem dX7_keep_31 : decode cX7_keep 31 = .ok (.aload_n 0, 1) := by decide +kernel
theorem dX7_keep_32 : decode cX7_keep 32 = .ok (.getfield 17, 3) := by decide +kernel
theorem dX7_keep_35 : decode cX7_keep 35 = .ok (.iload_n 1, 1) := by decide +kernel
theorem dX7_keep_36 : decode cX7_keep 36 = .ok (.aload_n 0, 1) := by decide +kernel
theorem dX7_keep_37 : decode cX7_keep 37 = .ok (.getfield 7, 3) := by decide +kernel
theorem dX7_keep_40 : decode cX7_keep 40 = .ok (.imul, 1) := by decide +kernel
theorem dX7_keep_41 : decode cX7_keep 41 = .ok (.aload_n 2, 1) := by decide +kernel
theorem dX7_keep_42 : decode cX7_keep 42 = .ok (.getfield 20, 3) := by decide +kernel
theorem dX7_keep_45 : decode cX7_keep 45 = .ok (.invokestatic 26, 3) := by decide +kernel
theorem dX7_keep_48 : decode cX7_keep 48 = .ok (.aload_n 0, 1) := by decide +kernel
theorem dX7_keep_49 : decode cX7_keep 49 = .ok (.getfield 13, 3) := by decide +kernel
theorem dX7_keep_52 : decode cX7_keep 52 = .ok (.iload_n 1, 1) := by decide +kernel
theorem dX7_keep_53 : decode cX7_keep 53 = .ok (.aload_n 2, 1) := by decide +kernel
theorem dX7_keep_54 : decode cX7_keep 54 = .ok (.getfield 20, 3) := by decide +kernel
theorem dX7_keep_57 : decode cX7_keep 57 = .ok (.iastore, 1) := by decide +kernel
theorem dX7_keep_58 : decode cX7_keep 58 = .ok (.iconst 1, 1) := by decide +kernel
theorem dX7_keep_59 : decode cX7_keep 59 = .ok (.ireturn, 1) := by decide +kernel
theorem dX7_byteAt_0 : decode cX7_byteAt 0 = .ok (.aload_n 0, 1) := by decide +kernel
theorem dX7_byteAt_1 : decode cX7_byteAt 1 = .ok (.getfield 17, 3) := by decide +kernel
theorem dX7_byteAt_4 : decode cX7_byteAt 4 = .ok (.iload_n 1, 1) := by decide +kernel
theorem dX7_byteAt_5 : decode cX7_byteAt 5 = .ok (.aload_n 0, 1) := by decide +kernel
theorem dX7_byteAt_6 : decode cX7_byteAt 6 = .ok (.getfield 7, 3) := by decide +kernel
theorem dX7_byteAt_9 : decode cX7_byteAt 9 = .ok (.imul, 1) := by decide +kernel
theorem dX7_byteAt_10 : decode cX7_byteAt 10 = .ok (.iload_n 2, 1) := by decide +kernel
theorem dX7_byteAt_11 : decode cX7_byteAt 11 = .ok (.iadd, 1) := by decide +kernel
theorem dX7_byteAt_12 : decode cX7_byteAt 12 = .ok (.iaload, 1) := by decide +kernel
theorem dX7_byteAt_13 : decode cX7_byteAt 13 = .ok (.ireturn, 1) := by decide +kernel
theorem dX8_init_0 : decode cX8_init 0 = .ok (.aload_n 0, 1) := by decide +kernel
theorem dX8_init_1 : decode cX8_init 1 = .ok (.invokespecial 3, 3) := by decide +kernel
theorem dX8_init_4 : decode cX8_init 4 = .ok (.aload_n 0, 1) := by decide +kernel
theorem dX8_init_5 : decode cX8_init 5 = .ok (.sipush 601, 3) := by decide +kernel
theorem dX8_init_8 : decode cX8_init 8 = .ok (.newarray .int, 2) := by decide +kernel
theorem dX8_init_10 : decode cX8_init 10 = .ok (.putfield 9, 3) := by decide +kernel
theorem dX8_init_13 : decode cX8_init 13 = .ok (.aload_n 0, 1) := by decide +kernel
theorem dX8_init_14 : decode cX8_init 14 = .ok (.sipush 601, 3) := by decide +kernel
theorem dX8_init_17 : decode cX8_init 17 = .ok (.newarray .int, 2) := by decide +kernel
theorem dX8_init_19 : decode cX8_init 19 = .ok (.putfield 15, 3) := by decide +kernel
theorem dX8_init_22 : decode cX8_init 22 = .ok (.return_, 1) := by decide +kernel
set_option maxRecDepth 20000 in
theorem ggX8_scan_X8_startsToken : GoodIn wsX8_scan wsX8_startsToken := goodIn_r _ [6, 7, 8, 9, 5, 10, 87, 88] (by decide +kernel) (by decide +kernel)
set_option maxRecDepth 20000 in
theorem gX8_scan_X8_startsToken : GoodIn wsX8_scan (va_wsS RX8 25 yX8_startsToken wsX8_startsToken) := goodIn_app (goodIn_of _ (by decide +kernel)) ggX8_scan_X8_startsToken
set_option maxRecDepth 20000 in
theorem ggX8_scan_X8_tokenAt : GoodIn wsX8_scan wsX8_tokenAt := goodIn_r _ [13, 7, 2, 8, 9, 5, 10, 14, 15, 16, 17, 18, 19, 20, 21, 22, 23, 24, 25, 26, 27, 28, 29, 30, 31, 32, 33, 34, 35, 36, 37, 38, 39, 40, 41, 42, 43, 44, 45, 46, 47, 48, 49, 50, 51, 52, 53, 54, 55, 56, 57, 58, 59, 60, 61, 62, 63, 64, 65, 66, 67, 68, 69, 70, 71, 72, 73, 74, 75, 76, 77, 87, 88] (by decide +kernel) (by decide +kernel)
set_option maxRecDepth 20000 in
theorem gX8_scan_X8_tokenAt : GoodIn wsX8_scan (va_wsS RX8 29 yX8_tokenAt wsX8_tokenAt) := goodIn_app (goodIn_of _ (by decide +kernel)) ggX8_scan_X8_tokenAt
set_option maxRecDepth 20000 in
theorem ggX8_scan_X8_append : GoodIn wsX8_scan wsX8_append := goodIn_r _ [81, 1, 82, 83, 84, 85, 86] (by decide +kernel) (by decide +kernel)
set_option maxRecDepth 20000 in
theorem gX8_scan_X8_append : GoodIn wsX8_scan (wsV RX8 33 RX8 yX8_append wsX8_append) := goodIn_app (goodIn_of _ (by decide +kernel)) ggX8_scan_X8_append
theorem dX8_scan_0 : decode cX8_scan 0 = .ok (.aload_n 0, 1) := by decide +kernel
theorem dX8_scan_1 : decode cX8_scan 1 = .ok (.iconst 0, 1) := by decide +kernel
theorem dX8_scan_2 : decode cX8_scan 2 = .ok (.putfield 18, 3) := by decide +kernel
theorem dX8_scan_5 : decode cX8_scan 5 = .ok (.iconst 0, 1) := by decide +kernel
theorem dX8_scan_6 : decode cX8_scan 6 = .ok (.istore_n 2, 1) := by decide +kernel
theorem dX8_scan_7 : decode cX8_scan 7 = .ok (.iload_n 2, 1) := by decide +kernel
theorem dX8_scan_8 : decode cX8_scan 8 = .ok (.aload_n 1, 1) := by decide +kernel
theorem dX8_scan_9 : decode cX8_scan 9 = .ok (.getfield 22, 3) := by decide +kernel
theorem dX8_scan_12 : decode cX8_scan 12 = .ok (.if_icmp .ge 27, 3) := by decide +kernel
theorem dX8_scan_15 : decode cX8_scan 15 = .ok (.aload_n 1, 1) := by decide +kernel
theorem dX8_scan_16 : decode cX8_scan 16 = .ok (.iload_n 2, 1) := by decide +kernel
theorem dX8_scan_17 : decode cX8_scan 17 = .ok (.invokestatic 25, 3) := by decide +kernel
theorem dX8_scan_20 : decode cX8_scan 20 = .ok (.ifCond .eq 13, 3) := by decide +kernel
theorem dX8_scan_23 : decode cX8_scan 23 = .ok (.aload_n 0, 1) := by decide +kernel
theorem dX8_scan_24 : decode cX8_scan 24 = .ok (.aload_n 1, 1) := by decide +kernel
theorem dX8_scan_25 : decode cX8_scan 25 = .ok (.iload_n 2, 1) := by decide +kernel
theorem dX8_scan_26 : decode cX8_scan 26 = .ok (.invokestatic 29, 3) := by decide +kernel
theorem dX8_scan_29 : decode cX8_scan 29 = .ok (.iload_n 2, 1) := by decide +kernel
theorem dX8_scan_30 : decode cX8_scan 30 = .ok (.invokevirtual 33, 3) := by decide +kernel
theorem dX8_scan_33 : decode cX8_scan 33 = .ok (.iinc 2 1, 3) := by decide +kernel
theorem dX8_scan_36 : decode cX8_scan 36 = .ok (.goto (-29), 3) := by decide +kernel
theorem dX8_scan_39 : decode cX8_scan 39 = .ok (.aload_n 0, 1) := by decide +kernel
theorem dX8_scan_40 : decode cX8_scan 40 = .ok (.sipush 1011, 3) := by decide +kernel
theorem dX8_scan_43 : decode cX8_scan 43 = .ok (.aload_n 1, 1) := by decide +kernel
theorem dX8_scan_44 : decode cX8_scan 44 = .ok (.getfield 22, 3) := by decide +kernel
theorem dX8_scan_47 : decode cX8_scan 47 = .ok (.invokevirtual 33, 3) := by decide +kernel
theorem dX8_scan_50 : decode cX8_scan 50 = .ok (.return_, 1) := by decide +kernel
theorem dX8_append_0 : decode cX8_append 0 = .ok (.aload_n 0, 1) := by decide +kernel
theorem dX8_append_1 : decode cX8_append 1 = .ok (.getfield 18, 3) := by decide +kernel
theorem dX8_append_4 : decode cX8_append 4 = .ok (.sipush 600, 3) := by decide +kernel
theorem dX8_append_7 : decode cX8_append 7 = .ok (.if_icmp .gt 33, 3) := by decide +kernel
theorem dX8_append_10 : decode cX8_append 10 = .ok (.aload_n 0, 1) := by decide +kernel
theorem dX8_append_11 : decode cX8_append 11 = .ok (.getfield 9, 3) := by decide +kernel
theorem dX8_append_14 : decode cX8_append 14 = .ok (.aload_n 0, 1) := by decide +kernel
theorem dX8_append_15 : decode cX8_append 15 = .ok (.getfield 18, 3) := by decide +kernel
theorem dX8_append_18 : decode cX8_append 18 = .ok (.iload_n 1, 1) := by decide +kernel
theorem dX8_append_19 : decode cX8_append 19 = .ok (.iastore, 1) := by decide +kernel
theorem dX8_append_20 : decode cX8_append 20 = .ok (.aload_n 0, 1) := by decide +kernel
theorem dX8_append_21 : decode cX8_append 21 = .ok (.getfield 15, 3) := by decide +kernel
theorem dX8_append_24 : decode cX8_append 24 = .ok (.aload_n 0, 1) := by decide +kernel
theorem dX8_append_25 : decode cX8_append 25 = .ok (.getfield 18, 3) := by decide +kernel
theorem dX8_append_28 : decode cX8_append 28 = .ok (.iload_n 2, 1) := by decide +kernel
theorem dX8_append_29 : decode cX8_append 29 = .ok (.iastore, 1) := by decide +kernel
theorem dX8_append_30 : decode cX8_append 30 = .ok (.aload_n 0, 1) := by decide +kernel
theorem dX8_append_31 : decode cX8_append 31 = .ok (.dup, 1) := by decide +kernel
theorem dX8_append_32 : decode cX8_append 32 = .ok (.getfield 18, 3) := by decide +kernel
theorem dX8_append_35 : decode cX8_append 35 = .ok (.iconst 1, 1) := by decide +kernel
theorem dX8_append_36 : decode cX8_append 36 = .ok (.iadd, 1) := by decide +kernel
theorem dX8_append_37 : decode cX8_append 37 = .ok (.putfield 18, 3) := by decide +kernel
theorem dX8_append_40 : decode cX8_append 40 = .ok (.return_, 1) := by decide +kernel
set_option maxRecDepth 20000 in
theorem ggX8_startsToken_X8_familyOf : GoodIn wsX8_startsToken wsX8_familyOf := goodIn_r _ [5] (by decide +kernel) (by decide +kernel)
set_option maxRecDepth 20000 in
theorem gX8_startsToken_X8_familyOf : GoodIn wsX8_startsToken (va_wsS RX8 40 yX8_familyOf wsX8_familyOf) := goodIn_app (goodIn_of _ (by decide +kernel)) ggX8_startsToken_X8_familyOf
theorem dX8_startsToken_0 : decode cX8_startsToken 0 = .ok (.aload_n 0, 1) := by decide +kernel
theorem dX8_startsToken_1 : decode cX8_startsToken 1 = .ok (.getfield 37, 3) := by decide +kernel
theorem dX8_startsToken_4 : decode cX8_startsToken 4 = .ok (.iload_n 1, 1) := by decide +kernel
theorem dX8_startsToken_5 : decode cX8_startsToken 5 = .ok (.iaload, 1) := by decide +kernel
theorem dX8_startsToken_6 : decode cX8_startsToken 6 = .ok (.invokestatic 40, 3) := by decide +kernel
theorem dX8_startsToken_9 : decode cX8_startsToken 9 = .ok (.istore_n 2, 1) := by decide +kernel
theorem dX8_startsToken_10 : decode cX8_startsToken 10 = .ok (.iload_n 2, 1) := by decide +kernel
theorem dX8_startsToken_11 : decode cX8_startsToken 11 = .ok (.iconst 1, 1) := by decide +kernel
theorem dX8_startsToken_12 : decode cX8_startsToken 12 = .ok (.if_icmp .eq 8, 3) := by decide +kernel
theorem dX8_startsToken_15 : decode cX8_startsToken 15 = .ok (.iload_n 2, 1) := by decide +kernel
theorem dX8_startsToken_16 : decode cX8_startsToken 16 = .ok (.iconst 2, 1) := by decide +kernel
theorem dX8_startsToken_17 : decode cX8_startsToken 17 = .ok (.if_icmp .ne 7, 3) := by decide +kernel
theorem dX8_startsToken_20 : decode cX8_startsToken 20 = .ok (.iconst 1, 1) := by decide +kernel
theorem dX8_startsToken_21 : decode cX8_startsToken 21 = .ok (.goto 4, 3) := by decide +kernel
theorem dX8_startsToken_24 : decode cX8_startsToken 24 = .ok (.iconst 0, 1) := by decide +kernel
theorem dX8_startsToken_25 : decode cX8_startsToken 25 = .ok (.istore_n 3, 1) := by decide +kernel
theorem dX8_startsToken_26 : decode cX8_startsToken 26 = .ok (.iload_n 3, 1) := by decide +kernel
theorem dX8_startsToken_27 : decode cX8_startsToken 27 = .ok (.ifCond .eq 26, 3) := by decide +kernel
theorem dX8_startsToken_30 : decode cX8_startsToken 30 = .ok (.iload_n 1, 1) := by decide +kernel
theorem dX8_startsToken_31 : decode cX8_startsToken 31 = .ok (.ifCond .le 22, 3) := by decide +kernel
theorem dX8_startsToken_34 : decode cX8_startsToken 34 = .ok (.aload_n 0, 1) := by decide +kernel
theorem dX8_startsToken_35 : decode cX8_startsToken 35 = .ok (.getfield 37, 3) := by decide +kernel
theorem dX8_startsToken_38 : decode cX8_startsToken 38 = .ok (.iload_n 1, 1) := by decide +kernel
theorem dX8_startsToken_39 : decode cX8_startsToken 39 = .ok (.iconst 1, 1) := by decide +kernel
theorem dX8_startsToken_40 : decode cX8_startsToken 40 = .ok (.isub, 1) := by decide +kernel
theorem dX8_startsToken_41 : decode cX8_startsToken 41 = .ok (.iaload, 1) := by decide +kernel
theorem dX8_startsToken_42 : decode cX8_startsToken 42 = .ok (.invokestatic 40, 3) := by decide +kernel
theorem dX8_startsToken_45 : decode cX8_startsToken 45 = .ok (.iload_n 2, 1) := by decide +kernel
theorem dX8_startsToken_46 : decode cX8_startsToken 46 = .ok (.if_icmp .ne 7, 3) := by decide +kernel
theorem dX8_startsToken_49 : decode cX8_startsToken 49 = .ok (.iconst 1, 1) := by decide +kernel
theorem dX8_startsToken_50 : decode cX8_startsToken 50 = .ok (.goto 4, 3) := by decide +kernel
theorem dX8_startsToken_53 : decode cX8_startsToken 53 = .ok (.iconst 0, 1) := by decide +kernel
theorem dX8_startsToken_54 : decode cX8_startsToken 54 = .ok (.istore 4, 2) := by decide +kernel
theorem dX8_startsToken_56 : decode cX8_startsToken 56 = .ok (.iload_n 2, 1) := by decide +kernel
theorem dX8_startsToken_57 : decode cX8_startsToken 57 = .ok (.ifCond .eq 12, 3) := by decide +kernel
theorem dX8_startsToken_60 : decode cX8_startsToken 60 = .ok (.iload 4, 2) := by decide +kernel
theorem dX8_startsToken_62 : decode cX8_startsToken 62 = .ok (.ifCond .ne 7, 3) := by decide +kernel
theorem dX8_startsToken_65 : decode cX8_startsToken 65 = .ok (.iconst 1, 1) := by decide +kernel
theorem dX8_startsToken_66 : decode cX8_startsToken 66 = .ok (.goto 4, 3) := by decide +kernel
theorem dX8_startsToken_69 : decode cX8_startsToken 69 = .ok (.iconst 0, 1) := by decide +kernel
theorem dX8_startsToken_70 : decode cX8_startsToken 70 = .ok (.ireturn, 1) := by decide +kernel
theorem dX8_familyOf_0 : decode cX8_familyOf 0 = .ok (.iload_n 0, 1) := by decide +kernel
theorem dX8_familyOf_1 : decode cX8_familyOf 1 = .ok (.bipush 32, 2) := by decide +kernel
theorem dX8_familyOf_3 : decode cX8_familyOf 3 = .ok (.if_icmp .eq 9, 3) := by decide +kernel
theorem dX8_familyOf_6 : decode cX8_familyOf 6 = .ok (.iload_n 0, 1) := by decide +kernel
theorem dX8_familyOf_7 : decode cX8_familyOf 7 = .ok (.bipush 10, 2) := by decide +kernel
theorem dX8_familyOf_9 : decode cX8_familyOf 9 = .ok (.if_icmp .ne 5, 3) := by decide +kernel
theorem dX8_familyOf_12 : decode cX8_familyOf 12 = .ok (.iconst 0, 1) := by decide +kernel
theorem dX8_familyOf_13 : decode cX8_familyOf 13 = .ok (.ireturn, 1) := by decide +kernel
theorem dX8_familyOf_14 : decode cX8_familyOf 14 = .ok (.iload_n 0, 1) := by decide +kernel
theorem dX8_familyOf_15 : decode cX8_familyOf 15 = .ok (.bipush 97, 2) := by decide +kernel
theorem dX8_familyOf_17 : decode cX8_familyOf 17 = .ok (.if_icmp .lt 9, 3) := by decide +kernel
theorem dX8_familyOf_20 : decode cX8_familyOf 20 = .ok (.iload_n 0, 1) := by decide +kernel
theorem dX8_familyOf_21 : decode cX8_familyOf 21 = .ok (.bipush 122, 2) := by decide +kernel
theorem dX8_familyOf_23 : decode cX8_familyOf 23 = .ok (.if_icmp .le 15, 3) := by decide +kernel
theorem dX8_familyOf_26 : decode cX8_familyOf 26 = .ok (.iload_n 0, 1) := by decide +kernel
theorem dX8_familyOf_27 : decode cX8_familyOf 27 = .ok (.bipush 65, 2) := by decide +kernel
theorem dX8_familyOf_29 : decode cX8_familyOf 29 = .ok (.if_icmp .lt 11, 3) := by decide +kernel
theorem dX8_familyOf_32 : decode cX8_familyOf 32 = .ok (.iload_n 0, 1) := by decide +kernel
theorem dX8_familyOf_33 : decode cX8_familyOf 33 = .ok (.bipush 90, 2) := by decide +kernel
theorem dX8_familyOf_35 : decode cX8_familyOf 35 = .ok (.if_icmp .gt 5, 3) := by decide +kernel
theorem dX8_familyOf_38 : decode cX8_familyOf 38 = .ok (.iconst 1, 1) := by decide +kernel
theorem dX8_familyOf_39 : decode cX8_familyOf 39 = .ok (.ireturn, 1) := by decide +kernel
theorem dX8_familyOf_40 : decode cX8_familyOf 40 = .ok (.iload_n 0, 1) := by decide +kernel
theorem dX8_familyOf_41 : decode cX8_familyOf 41 = .ok (.bipush 48, 2) := by decide +kernel
theorem dX8_familyOf_43 : decode cX8_familyOf 43 = .ok (.if_icmp .lt 13, 3) := by decide +kernel
theorem dX8_familyOf_46 : decode cX8_familyOf 46 = .ok (.iload_n 0, 1) := by decide +kernel
theorem dX8_familyOf_47 : decode cX8_familyOf 47 = .ok (.bipush 57, 2) := by decide +kernel
theorem dX8_familyOf_49 : decode cX8_familyOf 49 = .ok (.if_icmp .gt 7, 3) := by decide +kernel
theorem dX8_familyOf_52 : decode cX8_familyOf 52 = .ok (.iconst 2, 1) := by decide +kernel
theorem dX8_familyOf_53 : decode cX8_familyOf 53 = .ok (.goto 4, 3) := by decide +kernel
theorem dX8_familyOf_56 : decode cX8_familyOf 56 = .ok (.iconst 3, 1) := by decide +kernel
theorem dX8_familyOf_57 : decode cX8_familyOf 57 = .ok (.ireturn, 1) := by decide +kernel
set_option maxRecDepth 20000 in
theorem ggX8_tokenAt_X8_familyOf : GoodIn wsX8_tokenAt wsX8_familyOf := goodIn_r _ [6] (by decide +kernel) (by decide +kernel)
set_option maxRecDepth 20000 in
theorem gX8_tokenAt_X8_familyOf : GoodIn wsX8_tokenAt (va_wsS RX8 40 yX8_familyOf wsX8_familyOf) := goodIn_app (goodIn_of _ (by decide +kernel)) ggX8_tokenAt_X8_familyOf
set_option maxRecDepth 20000 in
theorem ggX8_tokenAt_X8_signOf : GoodIn wsX8_tokenAt wsX8_signOf := goodIn_r _ [9] (by decide +kernel) (by decide +kernel)
set_option maxRecDepth 20000 in
theorem gX8_tokenAt_X8_signOf : GoodIn wsX8_tokenAt (va_wsS RX8 44 yX8_signOf wsX8_signOf) := goodIn_app (goodIn_of _ (by decide +kernel)) ggX8_tokenAt_X8_signOf
set_option maxRecDepth 20000 in
theorem ggX8_tokenAt_X8_keywordOf : GoodIn wsX8_tokenAt wsX8_keywordOf := goodIn_r _ [12, 13, 14, 5, 15, 16, 17, 18, 1, 19, 20, 21, 22, 23, 24, 25, 26, 27, 28, 29, 30, 31, 32, 33, 34, 35, 36, 37, 38, 39, 40, 41, 42, 43, 44, 45, 46, 47, 48, 49, 50, 51, 52, 53, 54, 55, 56, 57, 58, 59, 60, 61, 62, 63, 64, 65, 66, 67, 71, 72] (by decide +kernel) (by decide +kernel)
set_option maxRecDepth 20000 in
theorem gX8_tokenAt_X8_keywordOf : GoodIn wsX8_tokenAt (va_wsS RX8 47 yX8_keywordOf wsX8_keywordOf) := goodIn_app (goodIn_of _ (by decide +kernel)) ggX8_tokenAt_X8_keywordOf
set_option maxRecDepth 20000 in
theorem ggX8_tokenAt_X8_numberOf : GoodIn wsX8_tokenAt wsX8_numberOf := goodIn_r _ [70, 1, 71, 72] (by decide +kernel) (by decide +kernel)
set_option maxRecDepth 20000 in
theorem gX8_tokenAt_X8_numberOf : GoodIn wsX8_tokenAt (va_wsS RX8 51 yX8_numberOf wsX8_numberOf) := goodIn_app (goodIn_of _ (by decide +kernel)) ggX8_tokenAt_X8_numberOf
theorem dX8_tokenAt_0 : decode cX8_tokenAt 0 = .ok (.aload_n 0, 1) := by decide +kernel
theorem dX8_tokenAt_1 : decode cX8_tokenAt 1 = .ok (.getfield 37, 3) := by decide +kernel
theorem dX8_tokenAt_4 : decode cX8_tokenAt 4 = .ok (.iload_n 1, 1) := by decide +kernel
theorem dX8_tokenAt_5 : decode cX8_tokenAt 5 = .ok (.iaload, 1) := by decide +kernel
theorem dX8_tokenAt_6 : decode cX8_tokenAt 6 = .ok (.invokestatic 40, 3) := by decide +kernel
theorem dX8_tokenAt_9 : decode cX8_tokenAt 9 = .ok (.istore_n 2, 1) := by decide +kernel
theorem dX8_tokenAt_10 : decode cX8_tokenAt 10 = .ok (.iload_n 2, 1) := by decide +kernel
theorem dX8_tokenAt_11 : decode cX8_tokenAt 11 = .ok (.iconst 3, 1) := by decide +kernel
theorem dX8_tokenAt_12 : decode cX8_tokenAt 12 = .ok (.if_icmp .ne 13, 3) := by decide +kernel
theorem dX8_tokenAt_15 : decode cX8_tokenAt 15 = .ok (.aload_n 0, 1) := by decide +kernel
theorem dX8_tokenAt_16 : decode cX8_tokenAt 16 = .ok (.getfield 37, 3) := by decide +kernel
theorem dX8_tokenAt_19 : decode cX8_tokenAt 19 = .ok (.iload_n 1, 1) := by decide +kernel
theorem dX8_tokenAt_20 : decode cX8_tokenAt 20 = .ok (.iaload, 1) := by decide +kernel
theorem dX8_tokenAt_21 : decode cX8_tokenAt 21 = .ok (.invokestatic 44, 3) := by decide +kernel
theorem dX8_tokenAt_24 : decode cX8_tokenAt 24 = .ok (.ireturn, 1) := by decide +kernel
theorem dX8_tokenAt_25 : decode cX8_tokenAt 25 = .ok (.iload_n 1, 1) := by decide +kernel
theorem dX8_tokenAt_26 : decode cX8_tokenAt 26 = .ok (.istore_n 3, 1) := by decide +kernel
theorem dX8_tokenAt_27 : decode cX8_tokenAt 27 = .ok (.iload_n 3, 1) := by decide +kernel
theorem dX8_tokenAt_28 : decode cX8_tokenAt 28 = .ok (.aload_n 0, 1) := by decide +kernel
theorem dX8_tokenAt_29 : decode cX8_tokenAt 29 = .ok (.getfield 22, 3) := by decide +kernel
theorem dX8_tokenAt_32 : decode cX8_tokenAt 32 = .ok (.if_icmp .ge 22, 3) := by decide +kernel
theorem dX8_tokenAt_35 : decode cX8_tokenAt 35 = .ok (.aload_n 0, 1) := by decide +kernel
theorem dX8_tokenAt_36 : decode cX8_tokenAt 36 = .ok (.getfield 37, 3) := by decide +kernel
theorem dX8_tokenAt_39 : decode cX8_tokenAt 39 = .ok (.iload_n 3, 1) := by decide +kernel
theorem dX8_tokenAt_40 : decode cX8_tokenAt 40 = .ok (.iaload, 1) := by decide +kernel
theorem dX8_tokenAt_41 : decode cX8_tokenAt 41 = .ok (.invokestatic 40, 3) := by decide +kernel
theorem dX8_tokenAt_44 : decode cX8_tokenAt 44 = .ok (.iload_n 2, 1) := by decide +kernel
theorem dX8_tokenAt_45 : decode cX8_tokenAt 45 = .ok (.if_icmp .ne 9, 3) := by decide +kernel
theorem dX8_tokenAt_48 : decode cX8_tokenAt 48 = .ok (.iinc 3 1, 3) := by decide +kernel
theorem dX8_tokenAt_51 : decode cX8_tokenAt 51 = .ok (.goto (-24), 3) := by decide +kernel
theorem dX8_tokenAt_54 : decode cX8_tokenAt 54 = .ok (.iload_n 2, 1) := by decide +kernel
theorem dX8_tokenAt_55 : decode cX8_tokenAt 55 = .ok (.iconst 1, 1) := by decide +kernel
theorem dX8_tokenAt_56 : decode cX8_tokenAt 56 = .ok (.if_icmp .ne 12, 3) := by decide +kernel
theorem dX8_tokenAt_59 : decode cX8_tokenAt 59 = .ok (.aload_n 0, 1) := by decide +kernel
theorem dX8_tokenAt_60 : decode cX8_tokenAt 60 = .ok (.iload_n 1, 1) := by decide +kernel
theorem dX8_tokenAt_61 : decode cX8_tokenAt 61 = .ok (.iload_n 3, 1) := by decide +kernel
theorem dX8_tokenAt_62 : decode cX8_tokenAt 62 = .ok (.invokestatic 47, 3) := by decide +kernel
theorem dX8_tokenAt_65 : decode cX8_tokenAt 65 = .ok (.goto 9, 3) := by decide +kernel
theorem dX8_tokenAt_68 : decode cX8_tokenAt 68 = .ok (.aload_n 0, 1) := by decide +kernel
theorem dX8_tokenAt_69 : decode cX8_tokenAt 69 = .ok (.iload_n 1, 1) := by decide +kernel
theorem dX8_tokenAt_70 : decode cX8_tokenAt 70 = .ok (.iload_n 3, 1) := by decide +kernel
theorem dX8_tokenAt_71 : decode cX8_tokenAt 71 = .ok (.invokestatic 51, 3) := by decide +kernel
theorem dX8_tokenAt_74 : decode cX8_tokenAt 74 = .ok (.ireturn, 1) := by decide +kernel
theorem dX8_signOf_0 : decode cX8_signOf 0 = .ok (.iload_n 0, 1) := by decide +kernel
theorem dX8_signOf_1 : decode cX8_signOf 1 = .ok (.tableswitch 113 40 62 #[107, 107, 113, 107, 113, 107, 113, 113, 113, 113, 113, 113, 113, 113, 113, 113, 113, 113, 113, 107, 107, 107, 107], 107) := by decide +kernel
theorem dX8_signOf_108 : decode cX8_signOf 108 = .ok (.sipush 1100, 3) := by decide +kernel
theorem dX8_signOf_111 : decode cX8_signOf 111 = .ok (.iload_n 0, 1) := by decide +kernel
theorem dX8_signOf_112 : decode cX8_signOf 112 = .ok (.iadd, 1) := by decide +kernel
theorem dX8_signOf_113 : decode cX8_signOf 113 = .ok (.ireturn, 1) := by decide +kernel
theorem dX8_signOf_114 : decode cX8_signOf 114 = .ok (.sipush 1012, 3) := by decide +kernel
theorem dX8_signOf_117 : decode cX8_signOf 117 = .ok (.ireturn, 1) := by decide +kernel
theorem dX8_numberOf_0 : decode cX8_numberOf 0 = .ok (.iload_n 2, 1) := by decide +kernel
theorem dX8_numberOf_1 : decode cX8_numberOf 1 = .ok (.iload_n 1, 1) := by decide +kernel
theorem dX8_numberOf_2 : decode cX8_numberOf 2 = .ok (.isub, 1) := by decide +kernel
theorem dX8_numberOf_3 : decode cX8_numberOf 3 = .ok (.iconst 3, 1) := by decide +kernel
theorem dX8_numberOf_4 : decode cX8_numberOf 4 = .ok (.if_icmp .le 7, 3) := by decide +kernel
theorem dX8_numberOf_7 : decode cX8_numberOf 7 = .ok (.sipush 1012, 3) := by decide +kernel
theorem dX8_numberOf_10 : decode cX8_numberOf 10 = .ok (.ireturn, 1) := by decide +kernel
theorem dX8_numberOf_11 : decode cX8_numberOf 11 = .ok (.iconst 0, 1) := by decide +kernel
theorem dX8_numberOf_12 : decode cX8_numberOf 12 = .ok (.istore_n 3, 1) := by decide +kernel
theorem dX8_numberOf_13 : decode cX8_numberOf 13 = .ok (.iload_n 1, 1) := by decide +kernel
theorem dX8_numberOf_14 : decode cX8_numberOf 14 = .ok (.istore 4, 2) := by decide +kernel
theorem dX8_numberOf_16 : decode cX8_numberOf 16 = .ok (.iload 4, 2) := by decide +kernel
theorem dX8_numberOf_18 : decode cX8_numberOf 18 = .ok (.iload_n 2, 1) := by decide +kernel
theorem dX8_numberOf_19 : decode cX8_numberOf 19 = .ok (.if_icmp .ge 25, 3) := by decide +kernel
theorem dX8_numberOf_22 : decode cX8_numberOf 22 = .ok (.iload_n 3, 1) := by decide +kernel
theorem dX8_numberOf_23 : decode cX8_numberOf 23 = .ok (.bipush 10, 2) := by decide +kernel
theorem dX8_numberOf_25 : decode cX8_numberOf 25 = .ok (.imul, 1) := by decide +kernel
theorem dX8_numberOf_26 : decode cX8_numberOf 26 = .ok (.aload_n 0, 1) := by decide +kernel
theorem dX8_numberOf_27 : decode cX8_numberOf 27 = .ok (.getfield 37, 3) := by decide +kernel
theorem dX8_numberOf_30 : decode cX8_numberOf 30 = .ok (.iload 4, 2) := by decide +kernel
theorem dX8_numberOf_32 : decode cX8_numberOf 32 = .ok (.iaload, 1) := by decide +kernel
theorem dX8_numberOf_33 : decode cX8_numberOf 33 = .ok (.iadd, 1) := by decide +kernel
theorem dX8_numberOf_34 : decode cX8_numberOf 34 = .ok (.bipush 48, 2) := by decide +kernel
theorem dX8_numberOf_36 : decode cX8_numberOf 36 = .ok (.isub, 1) := by decide +kernel
theorem dX8_numberOf_37 : decode cX8_numberOf 37 = .ok (.istore_n 3, 1) := by decide +kernel
theorem dX8_numberOf_38 : decode cX8_numberOf 38 = .ok (.iinc 4 1, 3) := by decide +kernel
theorem dX8_numberOf_41 : decode cX8_numberOf 41 = .ok (.goto (-25), 3) := by decide +kernel
theorem dX8_numberOf_44 : decode cX8_numberOf 44 = .ok (.iload_n 3, 1) := by decide +kernel
theorem dX8_numberOf_45 : decode cX8_numberOf 45 = .ok (.ireturn, 1) := by decide +kernel
set_option maxRecDepth 20000 in
theorem ggX8_keywordOf_X8_spelling : GoodIn wsX8_keywordOf wsX8_spelling := goodIn_r _ [4] (by decide +kernel) (by decide +kernel)
set_option maxRecDepth 20000 in
theorem gX8_keywordOf_X8_spelling : GoodIn wsX8_keywordOf (va_wsS RX8 54 yX8_spelling wsX8_spelling) := goodIn_app (goodIn_of _ (by decide +kernel)) ggX8_keywordOf_X8_spelling
set_option maxRecDepth 20000 in
theorem ggX8_keywordOf_X8_spells : GoodIn wsX8_keywordOf wsX8_spells := goodIn_r _ [7, 8, 9, 10, 11, 12, 13, 14, 15, 16, 17, 18, 19, 20, 21, 22, 23, 24, 25, 26, 27, 28, 29, 30, 31, 32, 33, 34, 35, 36, 37, 38, 39, 40, 41, 42, 43, 44, 45, 46, 47, 48, 49, 50, 51, 52, 53, 54, 55, 56, 57, 58, 59] (by decide +kernel) (by decide +kernel)
set_option maxRecDepth 20000 in
theorem gX8_keywordOf_X8_spells : GoodIn wsX8_keywordOf (va_wsS RX8 58 yX8_spells wsX8_spells) := goodIn_app (goodIn_of _ (by decide +kernel)) ggX8_keywordOf_X8_spells
theorem dX8_keywordOf_0 : decode cX8_keywordOf 0 = .ok (.sipush 1000, 3) := by decide +kernel
theorem dX8_keywordOf_3 : decode cX8_keywordOf 3 = .ok (.istore_n 3, 1) := by decide +kernel
theorem dX8_keywordOf_4 : decode cX8_keywordOf 4 = .ok (.iload_n 3, 1) := by decide +kernel
theorem dX8_keywordOf_5 : decode cX8_keywordOf 5 = .ok (.sipush 1010, 3) := by decide +kernel
theorem dX8_keywordOf_8 : decode cX8_keywordOf 8 = .ok (.if_icmp .gt 24, 3) := by decide +kernel
theorem dX8_keywordOf_11 : decode cX8_keywordOf 11 = .ok (.aload_n 0, 1) := by decide +kernel
theorem dX8_keywordOf_12 : decode cX8_keywordOf 12 = .ok (.iload_n 1, 1) := by decide +kernel
theorem dX8_keywordOf_13 : decode cX8_keywordOf 13 = .ok (.iload_n 2, 1) := by decide +kernel
theorem dX8_keywordOf_14 : decode cX8_keywordOf 14 = .ok (.iload_n 3, 1) := by decide +kernel
theorem dX8_keywordOf_15 : decode cX8_keywordOf 15 = .ok (.invokestatic 54, 3) := by decide +kernel
theorem dX8_keywordOf_18 : decode cX8_keywordOf 18 = .ok (.invokestatic 58, 3) := by decide +kernel
theorem dX8_keywordOf_21 : decode cX8_keywordOf 21 = .ok (.ifCond .eq 5, 3) := by decide +kernel
theorem dX8_keywordOf_24 : decode cX8_keywordOf 24 = .ok (.iload_n 3, 1) := by decide +kernel
theorem dX8_keywordOf_25 : decode cX8_keywordOf 25 = .ok (.ireturn, 1) := by decide +kernel
theorem dX8_keywordOf_26 : decode cX8_keywordOf 26 = .ok (.iinc 3 1, 3) := by decide +kernel
theorem dX8_keywordOf_29 : decode cX8_keywordOf 29 = .ok (.goto (-25), 3) := by decide +kernel
theorem dX8_keywordOf_32 : decode cX8_keywordOf 32 = .ok (.sipush 1012, 3) := by decide +kernel
theorem dX8_keywordOf_35 : decode cX8_keywordOf 35 = .ok (.ireturn, 1) := by decide +kernel
set_option maxRecDepth 20000 in
theorem ggX8_spells_J0_length_8abf5 : GoodIn wsX8_spells wsJ0_length_8abf5 := goodIn_r _ [6, 7, 8, 9, 10, 5, 11, 12, 13] (by decide +kernel) (by decide +kernel)
set_option maxRecDepth 20000 in
theorem gX8_spells_J0_length_8abf5 : GoodIn wsX8_spells (wsV RX8 62 RJ0 yJ0_length_8abf5 wsJ0_length_8abf5) := goodIn_app (goodIn_of _ (by decide +kernel)) ggX8_spells_J0_length_8abf5
set_option maxRecDepth 20000 in
theorem ggX8_spells_J0_charAt_5068e : GoodIn wsX8_spells wsJ0_charAt_5068e := goodIn_r _ [17, 7, 18, 19, 20, 5, 21, 12, 13, 22, 23, 24, 25, 26, 27, 28, 29, 30, 31, 32, 33, 34, 35, 36, 37, 38, 39, 40, 41, 42, 43, 44, 45, 46, 47, 48, 49, 50] (by decide +kernel) (by decide +kernel)
set_option maxRecDepth 20000 in
theorem gX8_spells_J0_charAt_5068e : GoodIn wsX8_spells (wsV RX8 68 RJ0 yJ0_charAt_5068e wsJ0_charAt_5068e) := goodIn_app (goodIn_of _ (by decide +kernel)) ggX8_spells_J0_charAt_5068e
theorem dX8_spells_0 : decode cX8_spells 0 = .ok (.iload_n 2, 1) := by decide +kernel
theorem dX8_spells_1 : decode cX8_spells 1 = .ok (.iload_n 1, 1) := by decide +kernel
theorem dX8_spells_2 : decode cX8_spells 2 = .ok (.isub, 1) := by decide +kernel
theorem dX8_spells_3 : decode cX8_spells 3 = .ok (.aload_n 3, 1) := by decide +kernel
theorem dX8_spells_4 : decode cX8_spells 4 = .ok (.invokevirtual 62, 3) := by decide +kernel
theorem dX8_spells_7 : decode cX8_spells 7 = .ok (.if_icmp .eq 5, 3) := by decide +kernel
theorem dX8_spells_10 : decode cX8_spells 10 = .ok (.iconst 0, 1) := by decide +kernel
theorem dX8_spells_11 : decode cX8_spells 11 = .ok (.ireturn, 1) := by decide +kernel
theorem dX8_spells_12 : decode cX8_spells 12 = .ok (.iconst 0, 1) := by decide +kernel
theorem dX8_spells_13 : decode cX8_spells 13 = .ok (.istore 4, 2) := by decide +kernel
theorem dX8_spells_15 : decode cX8_spells 15 = .ok (.iload 4, 2) := by decide +kernel
theorem dX8_spells_17 : decode cX8_spells 17 = .ok (.aload_n 3, 1) := by decide +kernel
theorem dX8_spells_18 : decode cX8_spells 18 = .ok (.invokevirtual 62, 3) := by decide +kernel
theorem dX8_spells_21 : decode cX8_spells 21 = .ok (.if_icmp .ge 29, 3) := by decide +kernel
theorem dX8_spells_24 : decode cX8_spells 24 = .ok (.aload_n 0, 1) := by decide +kernel
theorem dX8_spells_25 : decode cX8_spells 25 = .ok (.getfield 37, 3) := by decide +kernel
theorem dX8_spells_28 : decode cX8_spells 28 = .ok (.iload_n 1, 1) := by decide +kernel
theorem dX8_spells_29 : decode cX8_spells 29 = .ok (.iload 4, 2) := by decide +kernel
theorem dX8_spells_31 : decode cX8_spells 31 = .ok (.iadd, 1) := by decide +kernel
theorem dX8_spells_32 : decode cX8_spells 32 = .ok (.iaload, 1) := by decide +kernel
theorem dX8_spells_33 : decode cX8_spells 33 = .ok (.aload_n 3, 1) := by decide +kernel
theorem dX8_spells_34 : decode cX8_spells 34 = .ok (.iload 4, 2) := by decide +kernel
theorem dX8_spells_36 : decode cX8_spells 36 = .ok (.invokevirtual 68, 3) := by decide +kernel
theorem dX8_spells_39 : decode cX8_spells 39 = .ok (.if_icmp .eq 5, 3) := by decide +kernel
theorem dX8_spells_42 : decode cX8_spells 42 = .ok (.iconst 0, 1) := by decide +kernel
theorem dX8_spells_43 : decode cX8_spells 43 = .ok (.ireturn, 1) := by decide +kernel
theorem dX8_spells_44 : decode cX8_spells 44 = .ok (.iinc 4 1, 3) := by decide +kernel
theorem dX8_spells_47 : decode cX8_spells 47 = .ok (.goto (-32), 3) := by decide +kernel
theorem dX8_spells_50 : decode cX8_spells 50 = .ok (.iconst 1, 1) := by decide +kernel
theorem dX8_spells_51 : decode cX8_spells 51 = .ok (.ireturn, 1) := by decide +kernel
theorem dX8_spelling_0 : decode cX8_spelling 0 = .ok (.iload_n 0, 1) := by decide +kernel
theorem dX8_spelling_1 : decode cX8_spelling 1 = .ok (.tableswitch 85 1000 1009 #[55, 58, 61, 64, 67, 70, 73, 76, 79, 82], 55) := by decide +kernel
theorem dX8_spelling_56 : decode cX8_spelling 56 = .ok (.ldc 72, 2) := by decide +kernel
theorem dX8_spelling_58 : decode cX8_spelling 58 = .ok (.areturn, 1) := by decide +kernel
theorem dX8_spelling_59 : decode cX8_spelling 59 = .ok (.ldc 74, 2) := by decide +kernel
theorem dX8_spelling_61 : decode cX8_spelling 61 = .ok (.areturn, 1) := by decide +kernel
theorem dX8_spelling_62 : decode cX8_spelling 62 = .ok (.ldc 76, 2) := by decide +kernel
theorem dX8_spelling_64 : decode cX8_spelling 64 = .ok (.areturn, 1) := by decide +kernel
theorem dX8_spelling_65 : decode cX8_spelling 65 = .ok (.ldc 78, 2) := by decide +kernel
theorem dX8_spelling_67 : decode cX8_spelling 67 = .ok (.areturn, 1) := by decide +kernel
theorem dX8_spelling_68 : decode cX8_spelling 68 = .ok (.ldc 80, 2) := by decide +kernel
theorem dX8_spelling_70 : decode cX8_spelling 70 = .ok (.areturn, 1) := by decide +kernel
theorem dX8_spelling_71 : decode cX8_spelling 71 = .ok (.ldc 82, 2) := by decide +kernel
theorem dX8_spelling_73 : decode cX8_spelling 73 = .ok (.areturn, 1) := by decide +kernel
theorem dX8_spelling_74 : decode cX8_spelling 74 = .ok (.ldc 84, 2) := by decide +kernel
theorem dX8_spelling_76 : decode cX8_spelling 76 = .ok (.areturn, 1) := by decide +kernel
theorem dX8_spelling_77 : decode cX8_spelling 77 = .ok (.ldc 86, 2) := by decide +kernel
theorem dX8_spelling_79 : decode cX8_spelling 79 = .ok (.areturn, 1) := by decide +kernel
theorem dX8_spelling_80 : decode cX8_spelling 80 = .ok (.ldc 88, 2) := by decide +kernel
theorem dX8_spelling_82 : decode cX8_spelling 82 = .ok (.areturn, 1) := by decide +kernel
theorem dX8_spelling_83 : decode cX8_spelling 83 = .ok (.ldc 90, 2) := by decide +kernel
theorem dX8_spelling_85 : decode cX8_spelling 85 = .ok (.areturn, 1) := by decide +kernel
theorem dX8_spelling_86 : decode cX8_spelling 86 = .ok (.ldc 92, 2) := by decide +kernel
theorem dX8_spelling_88 : decode cX8_spelling 88 = .ok (.areturn, 1) := by decide +kernel
set_option maxRecDepth 20000 in
theorem ggX9_init_X3_init : GoodIn wsX9_init wsX3_init := goodIn_r _ [43, 44, 2, 3, 28, 45, 46, 47, 48, 49, 50, 51, 52, 53, 103, 104, 105, 106, 107, 108] (by decide +kernel) (by decide +kernel)
set_option maxRecDepth 20000 in
theorem gX9_init_X3_init : GoodIn wsX9_init (wsX3_init) := ggX9_init_X3_init
set_option maxRecDepth 20000 in
theorem ggX9_init_X6_init : GoodIn wsX9_init wsX6_init := goodIn_r _ [55, 56, 2, 3, 28, 57, 120, 121] (by decide +kernel) (by decide +kernel)
set_option maxRecDepth 20000 in
theorem gX9_init_X6_init_n18 : GoodIn wsX9_init (wsX6_init) := ggX9_init_X6_init
set_option maxRecDepth 20000 in
theorem ggX9_init_X5_init : GoodIn wsX9_init wsX5_init := goodIn_r _ [59, 60, 2, 3, 61, 62, 63, 64, 65, 36, 37, 66, 67, 68, 69, 70, 71, 72, 28, 73, 74, 75, 76, 77, 78, 79, 80, 81, 145, 146, 147, 122, 123, 124, 125, 126, 127, 135, 136, 137, 138, 139, 140] (by decide +kernel) (by decide +kernel)
set_option maxRecDepth 20000 in
theorem gX9_init_X5_init_n25 : GoodIn wsX9_init (wsX5_init) := ggX9_init_X5_init
set_option maxRecDepth 20000 in
theorem ggX9_init_X0_init : GoodIn wsX9_init wsX0_init := goodIn_r _ [83, 84, 2, 3, 28, 85, 128, 129] (by decide +kernel) (by decide +kernel)
set_option maxRecDepth 20000 in
theorem gX9_init_X0_init_n32 : GoodIn wsX9_init (wsX0_init) := ggX9_init_X0_init
set_option maxRecDepth 20000 in
theorem ggX9_init_X7_init : GoodIn wsX9_init wsX7_init := goodIn_r _ [88, 89, 2, 3, 90, 28, 91, 92, 130, 131, 132] (by decide +kernel) (by decide +kernel)
set_option maxRecDepth 20000 in
theorem gX9_init_X7_init : GoodIn wsX9_init (wsX7_init) := ggX9_init_X7_init
set_option maxRecDepth 20000 in
theorem ggX9_init_X1_init : GoodIn wsX9_init wsX1_init := goodIn_r _ [94, 95, 2, 3, 28, 96, 133, 134] (by decide +kernel) (by decide +kernel)
set_option maxRecDepth 20000 in
theorem gX9_init_X1_init_n66 : GoodIn wsX9_init (wsX1_init) := ggX9_init_X1_init
set_option maxRecDepth 20000 in
theorem ggX9_init_X4_init : GoodIn wsX9_init wsX4_init := goodIn_r _ [76, 77, 2, 3, 28, 78, 79, 80, 81, 135, 136, 137, 138, 139, 140] (by decide +kernel) (by decide +kernel)
set_option maxRecDepth 20000 in
theorem gX9_init_X4_init_n73 : GoodIn wsX9_init (wsX4_init) := ggX9_init_X4_init
set_option maxRecDepth 20000 in
theorem ggX9_init_X2_init : GoodIn wsX9_init wsX2_init := goodIn_r _ [98, 99, 2, 3, 28, 100, 101, 102, 141, 142, 143, 144] (by decide +kernel) (by decide +kernel)
set_option maxRecDepth 20000 in
theorem gX9_init_X2_init_n78 : GoodIn wsX9_init (wsX2_init) := ggX9_init_X2_init
theorem dX9_init_0 : decode cX9_init 0 = .ok (.aload_n 0, 1) := by decide +kernel
theorem dX9_init_1 : decode cX9_init 1 = .ok (.invokespecial 3, 3) := by decide +kernel
theorem dX9_init_4 : decode cX9_init 4 = .ok (.aload_n 0, 1) := by decide +kernel
theorem dX9_init_5 : decode cX9_init 5 = .ok (.new 9, 3) := by decide +kernel
theorem dX9_init_8 : decode cX9_init 8 = .ok (.dup, 1) := by decide +kernel
theorem dX9_init_9 : decode cX9_init 9 = .ok (.invokespecial 11, 3) := by decide +kernel
theorem dX9_init_12 : decode cX9_init 12 = .ok (.putfield 12, 3) := by decide +kernel
theorem dX9_init_15 : decode cX9_init 15 = .ok (.aload_n 0, 1) := by decide +kernel
theorem dX9_init_16 : decode cX9_init 16 = .ok (.new 16, 3) := by decide +kernel
theorem dX9_init_19 : decode cX9_init 19 = .ok (.dup, 1) := by decide +kernel
theorem dX9_init_20 : decode cX9_init 20 = .ok (.invokespecial 18, 3) := by decide +kernel
theorem dX9_init_23 : decode cX9_init 23 = .ok (.putfield 19, 3) := by decide +kernel
theorem dX9_init_26 : decode cX9_init 26 = .ok (.aload_n 0, 1) := by decide +kernel
theorem dX9_init_27 : decode cX9_init 27 = .ok (.new 23, 3) := by decide +kernel
theorem dX9_init_30 : decode cX9_init 30 = .ok (.dup, 1) := by decide +kernel
theorem dX9_init_31 : decode cX9_init 31 = .ok (.invokespecial 25, 3) := by decide +kernel
theorem dX9_init_34 : decode cX9_init 34 = .ok (.putfield 26, 3) := by decide +kernel
theorem dX9_init_37 : decode cX9_init 37 = .ok (.aload_n 0, 1) := by decide +kernel
theorem dX9_init_38 : decode cX9_init 38 = .ok (.new 30, 3) := by decide +kernel
theorem dX9_init_41 : decode cX9_init 41 = .ok (.dup, 1) := by decide +kernel
theorem dX9_init_42 : decode cX9_init 42 = .ok (.invokespecial 32, 3) := by decide +kernel
theorem dX9_init_45 : decode cX9_init 45 = .ok (.putfield 33, 3) := by decide +kernel
theorem dX9_init_48 : decode cX9_init 48 = .ok (.aload_n 0, 1) := by decide +kernel
theorem dX9_init_49 : decode cX9_init 49 = .ok (.new 37, 3) := by decide +kernel
theorem dX9_init_52 : decode cX9_init 52 = .ok (.dup, 1) := by decide +kernel
theorem dX9_init_53 : decode cX9_init 53 = .ok (.bipush 120, 2) := by decide +kernel
theorem dX9_init_55 : decode cX9_init 55 = .ok (.bipush 20, 2) := by decide +kernel
theorem dX9_init_57 : decode cX9_init 57 = .ok (.invokespecial 39, 3) := by decide +kernel
theorem dX9_init_60 : decode cX9_init 60 = .ok (.putfield 42, 3) := by decide +kernel
theorem dX9_init_63 : decode cX9_init 63 = .ok (.aload_n 0, 1) := by decide +kernel
theorem dX9_init_64 : decode cX9_init 64 = .ok (.new 37, 3) := by decide +kernel
theorem dX9_init_67 : decode cX9_init 67 = .ok (.dup, 1) := by decide +kernel
theorem dX9_init_68 : decode cX9_init 68 = .ok (.bipush 15, 2) := by decide +kernel
theorem dX9_init_70 : decode cX9_init 70 = .ok (.bipush 10, 2) := by decide +kernel
theorem dX9_init_72 : decode cX9_init 72 = .ok (.invokespecial 39, 3) := by decide +kernel
theorem dX9_init_75 : decode cX9_init 75 = .ok (.putfield 46, 3) := by decide +kernel
theorem dX9_init_78 : decode cX9_init 78 = .ok (.aload_n 0, 1) := by decide +kernel
theorem dX9_init_79 : decode cX9_init 79 = .ok (.bipush 8, 2) := by decide +kernel
theorem dX9_init_81 : decode cX9_init 81 = .ok (.anewarray 49, 3) := by decide +kernel
theorem dX9_init_84 : decode cX9_init 84 = .ok (.putfield 51, 3) := by decide +kernel
theorem dX9_init_87 : decode cX9_init 87 = .ok (.aload_n 0, 1) := by decide +kernel
theorem dX9_init_88 : decode cX9_init 88 = .ok (.iconst 5, 1) := by decide +kernel
theorem dX9_init_89 : decode cX9_init 89 = .ok (.iconst 5, 1) := by decide +kernel
theorem dX9_init_90 : decode cX9_init 90 = .ok (.multianewarray 55 2, 4) := by decide +kernel
theorem dX9_init_94 : decode cX9_init 94 = .ok (.putfield 57, 3) := by decide +kernel
theorem dX9_init_97 : decode cX9_init 97 = .ok (.aload_n 0, 1) := by decide +kernel
theorem dX9_init_98 : decode cX9_init 98 = .ok (.iconst 5, 1) := by decide +kernel
theorem dX9_init_99 : decode cX9_init 99 = .ok (.newarray .int, 2) := by decide +kernel
theorem dX9_init_101 : decode cX9_init 101 = .ok (.putfield 60, 3) := by decide +kernel
theorem dX9_init_104 : decode cX9_init 104 = .ok (.aload_n 0, 1) := by decide +kernel
theorem dX9_init_105 : decode cX9_init 105 = .ok (.new 64, 3) := by decide +kernel
theorem dX9_init_108 : decode cX9_init 108 = .ok (.dup, 1) := by decide +kernel
theorem dX9_init_109 : decode cX9_init 109 = .ok (.invokespecial 66, 3) := by decide +kernel
theorem dX9_init_112 : decode cX9_init 112 = .ok (.putfield 67, 3) := by decide +kernel
theorem dX9_init_115 : decode cX9_init 115 = .ok (.aload_n 0, 1) := by decide +kernel
theorem dX9_init_116 : decode cX9_init 116 = .ok (.new 71, 3) := by decide +kernel
theorem dX9_init_119 : decode cX9_init 119 = .ok (.dup, 1) := by decide +kernel
theorem dX9_init_120 : decode cX9_init 120 = .ok (.invokespecial 73, 3) := by decide +kernel
theorem dX9_init_123 : decode cX9_init 123 = .ok (.putfield 74, 3) := by decide +kernel
theorem dX9_init_126 : decode cX9_init 126 = .ok (.iconst 0, 1) := by decide +kernel
theorem dX9_init_127 : decode cX9_init 127 = .ok (.istore_n 1, 1) := by decide +kernel
theorem dX9_init_128 : decode cX9_init 128 = .ok (.iload_n 1, 1) := by decide +kernel
theorem dX9_init_129 : decode cX9_init 129 = .ok (.bipush 8, 2) := by decide +kernel
theorem dX9_init_131 : decode cX9_init 131 = .ok (.if_icmp .ge 22, 3) := by decide +kernel
theorem dX9_init_134 : decode cX9_init 134 = .ok (.aload_n 0, 1) := by decide +kernel
theorem dX9_init_135 : decode cX9_init 135 = .ok (.getfield 51, 3) := by decide +kernel
theorem dX9_init_138 : decode cX9_init 138 = .ok (.iload_n 1, 1) := by decide +kernel
theorem dX9_init_139 : decode cX9_init 139 = .ok (.new 49, 3) := by decide +kernel
theorem dX9_init_142 : decode cX9_init 142 = .ok (.dup, 1) := by decide +kernel
theorem dX9_init_143 : decode cX9_init 143 = .ok (.invokespecial 78, 3) := by decide +kernel
