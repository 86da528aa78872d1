theorem dX9_init_146 : decode cX9_init 146 = .ok (.aastore, 1) := by decide +kernel
theorem dX9_init_147 : decode cX9_init 147 = .ok (.iinc 1 1, 3) := by decide +kernel
theorem dX9_init_150 : decode cX9_init 150 = .ok (.goto (-22), 3) := by decide +kernel
theorem dX9_init_153 : decode cX9_init 153 = .ok (.return_, 1) := by decide +kernel
set_option maxRecDepth 20000 in
theorem ggX9_question_X3_addQuestion : GoodIn wsX9_question wsX3_addQuestion := goodIn_r _ [6, 7, 8, 9, 21, 22, 23, 24, 25, 26] (by decide +kernel) (by decide +kernel)
set_option maxRecDepth 20000 in
theorem gX9_question_X3_addQuestion : GoodIn wsX9_question (wsV RX9 79 RX3 yX3_addQuestion wsX3_addQuestion) := goodIn_app (goodIn_of _ (by decide +kernel)) ggX9_question_X3_addQuestion
theorem dX9_question_0 : decode cX9_question 0 = .ok (.iload_n 1, 1) := by decide +kernel
theorem dX9_question_1 : decode cX9_question 1 = .ok (.iconst 1, 1) := by decide +kernel
theorem dX9_question_2 : decode cX9_question 2 = .ok (.if_icmp .lt 24, 3) := by decide +kernel
theorem dX9_question_5 : decode cX9_question 5 = .ok (.iload_n 1, 1) := by decide +kernel
theorem dX9_question_6 : decode cX9_question 6 = .ok (.bipush 20, 2) := by decide +kernel
theorem dX9_question_8 : decode cX9_question 8 = .ok (.if_icmp .gt 18, 3) := by decide +kernel
theorem dX9_question_11 : decode cX9_question 11 = .ok (.iload_n 2, 1) := by decide +kernel
theorem dX9_question_12 : decode cX9_question 12 = .ok (.iconst 1, 1) := by decide +kernel
theorem dX9_question_13 : decode cX9_question 13 = .ok (.if_icmp .lt 13, 3) := by decide +kernel
theorem dX9_question_16 : decode cX9_question 16 = .ok (.iload_n 2, 1) := by decide +kernel
theorem dX9_question_17 : decode cX9_question 17 = .ok (.bipush 32, 2) := by decide +kernel
theorem dX9_question_19 : decode cX9_question 19 = .ok (.if_icmp .ge 7, 3) := by decide +kernel
theorem dX9_question_22 : decode cX9_question 22 = .ok (.iconst 1, 1) := by decide +kernel
theorem dX9_question_23 : decode cX9_question 23 = .ok (.goto 4, 3) := by decide +kernel
theorem dX9_question_26 : decode cX9_question 26 = .ok (.iconst 0, 1) := by decide +kernel
theorem dX9_question_27 : decode cX9_question 27 = .ok (.istore_n 3, 1) := by decide +kernel
theorem dX9_question_28 : decode cX9_question 28 = .ok (.iload_n 3, 1) := by decide +kernel
theorem dX9_question_29 : decode cX9_question 29 = .ok (.ifCond .eq 15, 3) := by decide +kernel
theorem dX9_question_32 : decode cX9_question 32 = .ok (.aload_n 0, 1) := by decide +kernel
theorem dX9_question_33 : decode cX9_question 33 = .ok (.getfield 12, 3) := by decide +kernel
theorem dX9_question_36 : decode cX9_question 36 = .ok (.iload_n 1, 1) := by decide +kernel
theorem dX9_question_37 : decode cX9_question 37 = .ok (.iload_n 2, 1) := by decide +kernel
theorem dX9_question_38 : decode cX9_question 38 = .ok (.invokevirtual 79, 3) := by decide +kernel
theorem dX9_question_41 : decode cX9_question 41 = .ok (.goto 4, 3) := by decide +kernel
theorem dX9_question_44 : decode cX9_question 44 = .ok (.iconst (-1), 1) := by decide +kernel
theorem dX9_question_45 : decode cX9_question 45 = .ok (.ireturn, 1) := by decide +kernel
set_option maxRecDepth 20000 in
theorem ggX9_mark_X9_isPupil : GoodIn wsX9_mark wsX9_isPupil := goodIn_r _ [6] (by decide +kernel) (by decide +kernel)
set_option maxRecDepth 20000 in
theorem gX9_mark_X9_isPupil : GoodIn wsX9_mark (va_wsS RX9 83 yX9_isPupil wsX9_isPupil) := goodIn_app (goodIn_of _ (by decide +kernel)) ggX9_mark_X9_isPupil
set_option maxRecDepth 20000 in
theorem ggX9_mark_X3_hasQuestion : GoodIn wsX9_mark wsX3_hasQuestion := goodIn_r _ [11, 12, 53, 54, 55, 56, 57, 58] (by decide +kernel) (by decide +kernel)
set_option maxRecDepth 20000 in
theorem gX9_mark_X3_hasQuestion : GoodIn wsX9_mark (wsV RX9 87 RX3 yX3_hasQuestion wsX3_hasQuestion) := goodIn_app (goodIn_of _ (by decide +kernel)) ggX9_mark_X3_hasQuestion
set_option maxRecDepth 20000 in
theorem ggX9_mark_X3_setPoints : GoodIn wsX9_mark wsX3_setPoints := goodIn_r _ [16, 17, 18, 19, 20, 21, 10, 22, 23, 24, 25, 26, 27, 12, 28, 29, 30, 31, 32, 33, 34, 35, 36, 37, 38, 39, 40, 41, 53, 54, 55, 56, 57, 58] (by decide +kernel) (by decide +kernel)
set_option maxRecDepth 20000 in
theorem gX9_mark_X3_setPoints : GoodIn wsX9_mark (wsV RX9 93 RX3 yX3_setPoints wsX3_setPoints) := goodIn_app (goodIn_of _ (by decide +kernel)) ggX9_mark_X3_setPoints
theorem dX9_mark_0 : decode cX9_mark 0 = .ok (.iload_n 1, 1) := by decide +kernel
theorem dX9_mark_1 : decode cX9_mark 1 = .ok (.invokestatic 83, 3) := by decide +kernel
theorem dX9_mark_4 : decode cX9_mark 4 = .ok (.ifCond .eq 32, 3) := by decide +kernel
theorem dX9_mark_7 : decode cX9_mark 7 = .ok (.aload_n 0, 1) := by decide +kernel
theorem dX9_mark_8 : decode cX9_mark 8 = .ok (.getfield 12, 3) := by decide +kernel
theorem dX9_mark_11 : decode cX9_mark 11 = .ok (.iload_n 2, 1) := by decide +kernel
theorem dX9_mark_12 : decode cX9_mark 12 = .ok (.invokevirtual 87, 3) := by decide +kernel
theorem dX9_mark_15 : decode cX9_mark 15 = .ok (.ifCond .eq 21, 3) := by decide +kernel
theorem dX9_mark_18 : decode cX9_mark 18 = .ok (.iload_n 3, 1) := by decide +kernel
theorem dX9_mark_19 : decode cX9_mark 19 = .ok (.iconst (-1), 1) := by decide +kernel
theorem dX9_mark_20 : decode cX9_mark 20 = .ok (.if_icmp .lt 16, 3) := by decide +kernel
theorem dX9_mark_23 : decode cX9_mark 23 = .ok (.iload_n 3, 1) := by decide +kernel
theorem dX9_mark_24 : decode cX9_mark 24 = .ok (.aload_n 0, 1) := by decide +kernel
theorem dX9_mark_25 : decode cX9_mark 25 = .ok (.getfield 12, 3) := by decide +kernel
theorem dX9_mark_28 : decode cX9_mark 28 = .ok (.getfield 90, 3) := by decide +kernel
theorem dX9_mark_31 : decode cX9_mark 31 = .ok (.iload_n 2, 1) := by decide +kernel
theorem dX9_mark_32 : decode cX9_mark 32 = .ok (.iaload, 1) := by decide +kernel
theorem dX9_mark_33 : decode cX9_mark 33 = .ok (.if_icmp .le 5, 3) := by decide +kernel
theorem dX9_mark_36 : decode cX9_mark 36 = .ok (.iconst 0, 1) := by decide +kernel
theorem dX9_mark_37 : decode cX9_mark 37 = .ok (.ireturn, 1) := by decide +kernel
theorem dX9_mark_38 : decode cX9_mark 38 = .ok (.aload_n 0, 1) := by decide +kernel
theorem dX9_mark_39 : decode cX9_mark 39 = .ok (.getfield 12, 3) := by decide +kernel
theorem dX9_mark_42 : decode cX9_mark 42 = .ok (.iload_n 1, 1) := by decide +kernel
theorem dX9_mark_43 : decode cX9_mark 43 = .ok (.iload_n 2, 1) := by decide +kernel
theorem dX9_mark_44 : decode cX9_mark 44 = .ok (.iload_n 3, 1) := by decide +kernel
theorem dX9_mark_45 : decode cX9_mark 45 = .ok (.invokevirtual 93, 3) := by decide +kernel
theorem dX9_mark_48 : decode cX9_mark 48 = .ok (.iconst 1, 1) := by decide +kernel
theorem dX9_mark_49 : decode cX9_mark 49 = .ok (.ireturn, 1) := by decide +kernel
set_option maxRecDepth 20000 in
theorem ggX9_of_X3_hasQuestion : GoodIn wsX9_of wsX3_hasQuestion := goodIn_r _ [8, 9, 26, 27, 28, 29, 30, 31] (by decide +kernel) (by decide +kernel)
set_option maxRecDepth 20000 in
theorem gX9_of_X3_hasQuestion : GoodIn wsX9_of (wsV RX9 87 RX3 yX3_hasQuestion wsX3_hasQuestion) := goodIn_app (goodIn_of _ (by decide +kernel)) ggX9_of_X3_hasQuestion
set_option maxRecDepth 20000 in
theorem ggX9_of_X3_pointsOf : GoodIn wsX9_of wsX3_pointsOf := goodIn_r _ [13, 14, 26, 27, 28, 29, 30, 31] (by decide +kernel) (by decide +kernel)
set_option maxRecDepth 20000 in
theorem gX9_of_X3_pointsOf : GoodIn wsX9_of (wsV RX9 100 RX3 yX3_pointsOf wsX3_pointsOf) := goodIn_app (goodIn_of _ (by decide +kernel)) ggX9_of_X3_pointsOf
theorem dX9_of_0 : decode cX9_of 0 = .ok (.aload_n 0, 1) := by decide +kernel
theorem dX9_of_1 : decode cX9_of 1 = .ok (.getfield 12, 3) := by decide +kernel
theorem dX9_of_4 : decode cX9_of 4 = .ok (.iload_n 1, 1) := by decide +kernel
theorem dX9_of_5 : decode cX9_of 5 = .ok (.invokevirtual 87, 3) := by decide +kernel
theorem dX9_of_8 : decode cX9_of 8 = .ok (.ifCond .ne 5, 3) := by decide +kernel
theorem dX9_of_11 : decode cX9_of 11 = .ok (.iconst (-1), 1) := by decide +kernel
theorem dX9_of_12 : decode cX9_of 12 = .ok (.ireturn, 1) := by decide +kernel
theorem dX9_of_13 : decode cX9_of 13 = .ok (.iload_n 2, 1) := by decide +kernel
theorem dX9_of_14 : decode cX9_of 14 = .ok (.ifCond .ne 13, 3) := by decide +kernel
theorem dX9_of_17 : decode cX9_of 17 = .ok (.aload_n 0, 1) := by decide +kernel
theorem dX9_of_18 : decode cX9_of 18 = .ok (.getfield 12, 3) := by decide +kernel
theorem dX9_of_21 : decode cX9_of 21 = .ok (.getfield 90, 3) := by decide +kernel
theorem dX9_of_24 : decode cX9_of 24 = .ok (.iload_n 1, 1) := by decide +kernel
theorem dX9_of_25 : decode cX9_of 25 = .ok (.iaload, 1) := by decide +kernel
theorem dX9_of_26 : decode cX9_of 26 = .ok (.ireturn, 1) := by decide +kernel
theorem dX9_of_27 : decode cX9_of 27 = .ok (.iload_n 2, 1) := by decide +kernel
theorem dX9_of_28 : decode cX9_of 28 = .ok (.iconst 1, 1) := by decide +kernel
theorem dX9_of_29 : decode cX9_of 29 = .ok (.if_icmp .ne 13, 3) := by decide +kernel
theorem dX9_of_32 : decode cX9_of 32 = .ok (.aload_n 0, 1) := by decide +kernel
theorem dX9_of_33 : decode cX9_of 33 = .ok (.getfield 12, 3) := by decide +kernel
theorem dX9_of_36 : decode cX9_of 36 = .ok (.getfield 97, 3) := by decide +kernel
theorem dX9_of_39 : decode cX9_of 39 = .ok (.iload_n 1, 1) := by decide +kernel
theorem dX9_of_40 : decode cX9_of 40 = .ok (.iaload, 1) := by decide +kernel
theorem dX9_of_41 : decode cX9_of 41 = .ok (.ireturn, 1) := by decide +kernel
theorem dX9_of_42 : decode cX9_of 42 = .ok (.iload_n 2, 1) := by decide +kernel
theorem dX9_of_43 : decode cX9_of 43 = .ok (.bipush 10, 2) := by decide +kernel
theorem dX9_of_45 : decode cX9_of 45 = .ok (.if_icmp .lt 13, 3) := by decide +kernel
theorem dX9_of_48 : decode cX9_of 48 = .ok (.iload_n 2, 1) := by decide +kernel
theorem dX9_of_49 : decode cX9_of 49 = .ok (.bipush 18, 2) := by decide +kernel
theorem dX9_of_51 : decode cX9_of 51 = .ok (.if_icmp .ge 7, 3) := by decide +kernel
theorem dX9_of_54 : decode cX9_of 54 = .ok (.iconst 1, 1) := by decide +kernel
theorem dX9_of_55 : decode cX9_of 55 = .ok (.goto 4, 3) := by decide +kernel
theorem dX9_of_58 : decode cX9_of 58 = .ok (.iconst 0, 1) := by decide +kernel
theorem dX9_of_59 : decode cX9_of 59 = .ok (.istore_n 3, 1) := by decide +kernel
theorem dX9_of_60 : decode cX9_of 60 = .ok (.iload_n 3, 1) := by decide +kernel
theorem dX9_of_61 : decode cX9_of 61 = .ok (.ifCond .eq 18, 3) := by decide +kernel
theorem dX9_of_64 : decode cX9_of 64 = .ok (.aload_n 0, 1) := by decide +kernel
theorem dX9_of_65 : decode cX9_of 65 = .ok (.getfield 12, 3) := by decide +kernel
theorem dX9_of_68 : decode cX9_of 68 = .ok (.iload_n 2, 1) := by decide +kernel
theorem dX9_of_69 : decode cX9_of 69 = .ok (.bipush 10, 2) := by decide +kernel
theorem dX9_of_71 : decode cX9_of 71 = .ok (.isub, 1) := by decide +kernel
theorem dX9_of_72 : decode cX9_of 72 = .ok (.iload_n 1, 1) := by decide +kernel
theorem dX9_of_73 : decode cX9_of 73 = .ok (.invokevirtual 100, 3) := by decide +kernel
theorem dX9_of_76 : decode cX9_of 76 = .ok (.goto 4, 3) := by decide +kernel
theorem dX9_of_79 : decode cX9_of 79 = .ok (.iconst (-1), 1) := by decide +kernel
theorem dX9_of_80 : decode cX9_of 80 = .ok (.ireturn, 1) := by decide +kernel
set_option maxRecDepth 20000 in
theorem ggX9_got_X9_isPupil : GoodIn wsX9_got wsX9_isPupil := goodIn_r _ [6] (by decide +kernel) (by decide +kernel)
set_option maxRecDepth 20000 in
theorem gX9_got_X9_isPupil : GoodIn wsX9_got (va_wsS RX9 83 yX9_isPupil wsX9_isPupil) := goodIn_app (goodIn_of _ (by decide +kernel)) ggX9_got_X9_isPupil
set_option maxRecDepth 20000 in
theorem ggX9_got_X9_isSkill : GoodIn wsX9_got wsX9_isSkill := goodIn_r _ [9] (by decide +kernel) (by decide +kernel)
set_option maxRecDepth 20000 in
theorem gX9_got_X9_isSkill : GoodIn wsX9_got (va_wsS RX9 103 yX9_isSkill wsX9_isSkill) := goodIn_app (goodIn_of _ (by decide +kernel)) ggX9_got_X9_isSkill
set_option maxRecDepth 20000 in
theorem ggX9_got_X3_markedOf : GoodIn wsX9_got wsX3_markedOf := goodIn_r _ [14, 15, 16, 17, 18, 19, 13, 20, 21, 58, 59, 60, 61, 62, 63] (by decide +kernel) (by decide +kernel)
set_option maxRecDepth 20000 in
theorem gX9_got_X3_markedOf : GoodIn wsX9_got (wsV RX9 106 RX3 yX3_markedOf wsX3_markedOf) := goodIn_app (goodIn_of _ (by decide +kernel)) ggX9_got_X3_markedOf
set_option maxRecDepth 20000 in
theorem ggX9_got_X3_measure : GoodIn wsX9_got wsX3_measure := goodIn_r _ [25, 26, 27, 28, 29, 30, 31, 32, 33, 34, 35, 36, 13, 37, 15, 38, 17, 18, 19, 20, 21, 39, 40, 41, 42, 43, 44, 45, 46, 58, 59, 60, 61, 62, 63] (by decide +kernel) (by decide +kernel)
set_option maxRecDepth 20000 in
theorem gX9_got_X3_measure : GoodIn wsX9_got (wsV RX9 109 RX3 yX3_measure wsX3_measure) := goodIn_app (goodIn_of _ (by decide +kernel)) ggX9_got_X3_measure
theorem dX9_got_0 : decode cX9_got 0 = .ok (.iload_n 1, 1) := by decide +kernel
theorem dX9_got_1 : decode cX9_got 1 = .ok (.invokestatic 83, 3) := by decide +kernel
theorem dX9_got_4 : decode cX9_got 4 = .ok (.ifCond .eq 19, 3) := by decide +kernel
theorem dX9_got_7 : decode cX9_got 7 = .ok (.iload_n 2, 1) := by decide +kernel
theorem dX9_got_8 : decode cX9_got 8 = .ok (.invokestatic 103, 3) := by decide +kernel
theorem dX9_got_11 : decode cX9_got 11 = .ok (.ifCond .eq 12, 3) := by decide +kernel
theorem dX9_got_14 : decode cX9_got 14 = .ok (.iload_n 3, 1) := by decide +kernel
theorem dX9_got_15 : decode cX9_got 15 = .ok (.ifCond .lt 8, 3) := by decide +kernel
theorem dX9_got_18 : decode cX9_got 18 = .ok (.iload_n 3, 1) := by decide +kernel
theorem dX9_got_19 : decode cX9_got 19 = .ok (.iconst 5, 1) := by decide +kernel
theorem dX9_got_20 : decode cX9_got 20 = .ok (.if_icmp .lt 5, 3) := by decide +kernel
theorem dX9_got_23 : decode cX9_got 23 = .ok (.iconst (-1), 1) := by decide +kernel
theorem dX9_got_24 : decode cX9_got 24 = .ok (.ireturn, 1) := by decide +kernel
theorem dX9_got_25 : decode cX9_got 25 = .ok (.aload_n 0, 1) := by decide +kernel
theorem dX9_got_26 : decode cX9_got 26 = .ok (.getfield 12, 3) := by decide +kernel
theorem dX9_got_29 : decode cX9_got 29 = .ok (.iload_n 1, 1) := by decide +kernel
theorem dX9_got_30 : decode cX9_got 30 = .ok (.iload_n 2, 1) := by decide +kernel
theorem dX9_got_31 : decode cX9_got 31 = .ok (.aload_n 0, 1) := by decide +kernel
theorem dX9_got_32 : decode cX9_got 32 = .ok (.getfield 12, 3) := by decide +kernel
theorem dX9_got_35 : decode cX9_got 35 = .ok (.iload_n 1, 1) := by decide +kernel
theorem dX9_got_36 : decode cX9_got 36 = .ok (.iload_n 2, 1) := by decide +kernel
theorem dX9_got_37 : decode cX9_got 37 = .ok (.invokevirtual 106, 3) := by decide +kernel
theorem dX9_got_40 : decode cX9_got 40 = .ok (.aload_n 0, 1) := by decide +kernel
theorem dX9_got_41 : decode cX9_got 41 = .ok (.getfield 60, 3) := by decide +kernel
theorem dX9_got_44 : decode cX9_got 44 = .ok (.invokevirtual 109, 3) := by decide +kernel
theorem dX9_got_47 : decode cX9_got 47 = .ok (.aload_n 0, 1) := by decide +kernel
theorem dX9_got_48 : decode cX9_got 48 = .ok (.getfield 60, 3) := by decide +kernel
theorem dX9_got_51 : decode cX9_got 51 = .ok (.iload_n 3, 1) := by decide +kernel
theorem dX9_got_52 : decode cX9_got 52 = .ok (.iaload, 1) := by decide +kernel
theorem dX9_got_53 : decode cX9_got 53 = .ok (.ireturn, 1) := by decide +kernel
set_option maxRecDepth 20000 in
theorem ggX9_feed_X6_take : GoodIn wsX9_feed wsX6_take := goodIn_r _ [7, 8, 9, 21, 22] (by decide +kernel) (by decide +kernel)
set_option maxRecDepth 20000 in
theorem gX9_feed_X6_take : GoodIn wsX9_feed (wsV RX9 117 RX6 yX6_take wsX6_take) := goodIn_app (goodIn_of _ (by decide +kernel)) ggX9_feed_X6_take
theorem dX9_feed_0 : decode cX9_feed 0 = .ok (.aload_n 0, 1) := by decide +kernel
theorem dX9_feed_1 : decode cX9_feed 1 = .ok (.getfield 19, 3) := by decide +kernel
theorem dX9_feed_4 : decode cX9_feed 4 = .ok (.getfield 113, 3) := by decide +kernel
theorem dX9_feed_7 : decode cX9_feed 7 = .ok (.sipush 580, 3) := by decide +kernel
theorem dX9_feed_10 : decode cX9_feed 10 = .ok (.if_icmp .le 5, 3) := by decide +kernel
theorem dX9_feed_13 : decode cX9_feed 13 = .ok (.iconst (-1), 1) := by decide +kernel
theorem dX9_feed_14 : decode cX9_feed 14 = .ok (.ireturn, 1) := by decide +kernel
theorem dX9_feed_15 : decode cX9_feed 15 = .ok (.aload_n 0, 1) := by decide +kernel
theorem dX9_feed_16 : decode cX9_feed 16 = .ok (.getfield 19, 3) := by decide +kernel
theorem dX9_feed_19 : decode cX9_feed 19 = .ok (.iload_n 1, 1) := by decide +kernel
theorem dX9_feed_20 : decode cX9_feed 20 = .ok (.invokevirtual 117, 3) := by decide +kernel
theorem dX9_feed_23 : decode cX9_feed 23 = .ok (.aload_n 0, 1) := by decide +kernel
theorem dX9_feed_24 : decode cX9_feed 24 = .ok (.getfield 19, 3) := by decide +kernel
theorem dX9_feed_27 : decode cX9_feed 27 = .ok (.iload_n 2, 1) := by decide +kernel
theorem dX9_feed_28 : decode cX9_feed 28 = .ok (.invokevirtual 117, 3) := by decide +kernel
theorem dX9_feed_31 : decode cX9_feed 31 = .ok (.aload_n 0, 1) := by decide +kernel
theorem dX9_feed_32 : decode cX9_feed 32 = .ok (.getfield 19, 3) := by decide +kernel
theorem dX9_feed_35 : decode cX9_feed 35 = .ok (.iload_n 3, 1) := by decide +kernel
theorem dX9_feed_36 : decode cX9_feed 36 = .ok (.invokevirtual 117, 3) := by decide +kernel
theorem dX9_feed_39 : decode cX9_feed 39 = .ok (.aload_n 0, 1) := by decide +kernel
theorem dX9_feed_40 : decode cX9_feed 40 = .ok (.getfield 19, 3) := by decide +kernel
theorem dX9_feed_43 : decode cX9_feed 43 = .ok (.iload 4, 2) := by decide +kernel
theorem dX9_feed_45 : decode cX9_feed 45 = .ok (.invokevirtual 117, 3) := by decide +kernel
theorem dX9_feed_48 : decode cX9_feed 48 = .ok (.aload_n 0, 1) := by decide +kernel
theorem dX9_feed_49 : decode cX9_feed 49 = .ok (.getfield 19, 3) := by decide +kernel
theorem dX9_feed_52 : decode cX9_feed 52 = .ok (.iload 5, 2) := by decide +kernel
theorem dX9_feed_54 : decode cX9_feed 54 = .ok (.invokevirtual 117, 3) := by decide +kernel
theorem dX9_feed_57 : decode cX9_feed 57 = .ok (.aload_n 0, 1) := by decide +kernel
theorem dX9_feed_58 : decode cX9_feed 58 = .ok (.getfield 19, 3) := by decide +kernel
theorem dX9_feed_61 : decode cX9_feed 61 = .ok (.getfield 113, 3) := by decide +kernel
theorem dX9_feed_64 : decode cX9_feed 64 = .ok (.ireturn, 1) := by decide +kernel
theorem dX9_end_0 : decode cX9_end 0 = .ok (.iload_n 1, 1) := by decide +kernel
theorem dX9_end_1 : decode cX9_end 1 = .ok (.ifCond .lt 14, 3) := by decide +kernel
theorem dX9_end_4 : decode cX9_end 4 = .ok (.iload_n 1, 1) := by decide +kernel
theorem dX9_end_5 : decode cX9_end 5 = .ok (.aload_n 0, 1) := by decide +kernel
theorem dX9_end_6 : decode cX9_end 6 = .ok (.getfield 19, 3) := by decide +kernel
theorem dX9_end_9 : decode cX9_end 9 = .ok (.getfield 113, 3) := by decide +kernel
theorem dX9_end_12 : decode cX9_end 12 = .ok (.if_icmp .le 5, 3) := by decide +kernel
theorem dX9_end_15 : decode cX9_end 15 = .ok (.iconst 0, 1) := by decide +kernel
theorem dX9_end_16 : decode cX9_end 16 = .ok (.ireturn, 1) := by decide +kernel
theorem dX9_end_17 : decode cX9_end 17 = .ok (.aload_n 0, 1) := by decide +kernel
theorem dX9_end_18 : decode cX9_end 18 = .ok (.getfield 19, 3) := by decide +kernel
theorem dX9_end_21 : decode cX9_end 21 = .ok (.iload_n 1, 1) := by decide +kernel
theorem dX9_end_22 : decode cX9_end 22 = .ok (.putfield 113, 3) := by decide +kernel
theorem dX9_end_25 : decode cX9_end 25 = .ok (.iconst 1, 1) := by decide +kernel
theorem dX9_end_26 : decode cX9_end 26 = .ok (.ireturn, 1) := by decide +kernel
set_option maxRecDepth 20000 in
theorem ggX9_rules_X5_begin : GoodIn wsX9_rules wsX5_begin := goodIn_r _ [12, 13, 14, 15, 16, 17, 18, 19, 20, 21, 22, 23, 24, 25, 26, 27, 28, 29, 30, 31, 32, 33, 34, 35, 36, 37, 38, 39, 40, 41, 42, 43, 44, 45, 46, 47, 48, 49, 50, 51, 52, 53, 54, 55, 56, 57, 58, 59, 60, 61, 62, 63, 64, 65, 66, 67, 68, 69, 70, 71, 72, 73, 74, 75, 76, 77, 78, 79, 80, 81, 82, 83, 84, 85, 86, 87, 88, 89, 90, 91, 92, 93, 94, 95, 96, 97, 98, 99, 100, 101, 102, 103, 104, 105, 106, 107, 108, 109, 110, 111, 112, 113, 185, 186, 187, 188, 189, 190, 197, 198, 199, 183, 184, 191, 192, 193, 194, 195, 196] (by decide +kernel) (by decide +kernel)
set_option maxRecDepth 20000 in
theorem gX9_rules_X5_begin : GoodIn wsX9_rules (wsV RX9 121 RX5 yX5_begin wsX5_begin) := goodIn_app (goodIn_of _ (by decide +kernel)) ggX9_rules_X5_begin
set_option maxRecDepth 20000 in
theorem ggX9_rules_X5_readRule : GoodIn wsX9_rules wsX5_readRule := goodIn_r _ [117, 17, 14, 118, 119, 120, 121, 11, 122, 18, 13, 123, 15, 19, 124, 125, 126, 127, 128, 16, 129, 130, 131, 132, 133, 134, 135, 136, 137, 138, 139, 140, 141, 142, 143, 144, 145, 146, 110, 147, 113, 148, 149, 150, 151, 152, 153, 154, 155, 156, 157, 158, 159, 160, 161, 162, 163, 164, 165, 166, 167, 168, 112, 169, 170, 171, 185, 186, 187, 188, 189, 190, 191, 192, 193, 194, 195, 196, 197, 198, 199] (by decide +kernel) (by decide +kernel)
set_option maxRecDepth 20000 in
theorem gX9_rules_X5_readRule : GoodIn wsX9_rules (wsV RX9 128 RX5 yX5_readRule wsX5_readRule) := goodIn_app (goodIn_of _ (by decide +kernel)) ggX9_rules_X5_readRule
theorem dX9_rules_0 : decode cX9_rules 0 = .ok (.aload_n 0, 1) := by decide +kernel
theorem dX9_rules_1 : decode cX9_rules 1 = .ok (.getfield 26, 3) := by decide +kernel
theorem dX9_rules_4 : decode cX9_rules 4 = .ok (.aload_n 0, 1) := by decide +kernel
theorem dX9_rules_5 : decode cX9_rules 5 = .ok (.getfield 19, 3) := by decide +kernel
theorem dX9_rules_8 : decode cX9_rules 8 = .ok (.invokevirtual 121, 3) := by decide +kernel
theorem dX9_rules_11 : decode cX9_rules 11 = .ok (.aload_n 0, 1) := by decide +kernel
theorem dX9_rules_12 : decode cX9_rules 12 = .ok (.getfield 19, 3) := by decide +kernel
theorem dX9_rules_15 : decode cX9_rules 15 = .ok (.iconst 0, 1) := by decide +kernel
theorem dX9_rules_16 : decode cX9_rules 16 = .ok (.putfield 113, 3) := by decide +kernel
theorem dX9_rules_19 : decode cX9_rules 19 = .ok (.iconst 1, 1) := by decide +kernel
theorem dX9_rules_20 : decode cX9_rules 20 = .ok (.istore_n 1, 1) := by decide +kernel
theorem dX9_rules_21 : decode cX9_rules 21 = .ok (.iconst 0, 1) := by decide +kernel
theorem dX9_rules_22 : decode cX9_rules 22 = .ok (.istore_n 2, 1) := by decide +kernel
theorem dX9_rules_23 : decode cX9_rules 23 = .ok (.iload_n 2, 1) := by decide +kernel
theorem dX9_rules_24 : decode cX9_rules 24 = .ok (.bipush 12, 2) := by decide +kernel
theorem dX9_rules_26 : decode cX9_rules 26 = .ok (.if_icmp .gt 34, 3) := by decide +kernel
theorem dX9_rules_29 : decode cX9_rules 29 = .ok (.iload_n 1, 1) := by decide +kernel
theorem dX9_rules_30 : decode cX9_rules 30 = .ok (.ifCond .eq 30, 3) := by decide +kernel
theorem dX9_rules_33 : decode cX9_rules 33 = .ok (.aload_n 0, 1) := by decide +kernel
theorem dX9_rules_34 : decode cX9_rules 34 = .ok (.getfield 26, 3) := by decide +kernel
theorem dX9_rules_37 : decode cX9_rules 37 = .ok (.getfield 125, 3) := by decide +kernel
theorem dX9_rules_40 : decode cX9_rules 40 = .ok (.sipush 1011, 3) := by decide +kernel
theorem dX9_rules_43 : decode cX9_rules 43 = .ok (.if_icmp .eq 17, 3) := by decide +kernel
theorem dX9_rules_46 : decode cX9_rules 46 = .ok (.aload_n 0, 1) := by decide +kernel
theorem dX9_rules_47 : decode cX9_rules 47 = .ok (.getfield 26, 3) := by decide +kernel
theorem dX9_rules_50 : decode cX9_rules 50 = .ok (.invokevirtual 128, 3) := by decide +kernel
theorem dX9_rules_53 : decode cX9_rules 53 = .ok (.istore_n 1, 1) := by decide +kernel
theorem dX9_rules_54 : decode cX9_rules 54 = .ok (.iinc 2 1, 3) := by decide +kernel
theorem dX9_rules_57 : decode cX9_rules 57 = .ok (.goto (-34), 3) := by decide +kernel
theorem dX9_rules_60 : decode cX9_rules 60 = .ok (.iload_n 1, 1) := by decide +kernel
theorem dX9_rules_61 : decode cX9_rules 61 = .ok (.ifCond .ne 5, 3) := by decide +kernel
theorem dX9_rules_64 : decode cX9_rules 64 = .ok (.iconst (-1), 1) := by decide +kernel
theorem dX9_rules_65 : decode cX9_rules 65 = .ok (.ireturn, 1) := by decide +kernel
theorem dX9_rules_66 : decode cX9_rules 66 = .ok (.aload_n 0, 1) := by decide +kernel
theorem dX9_rules_67 : decode cX9_rules 67 = .ok (.getfield 74, 3) := by decide +kernel
theorem dX9_rules_70 : decode cX9_rules 70 = .ok (.astore_n 2, 1) := by decide +kernel
theorem dX9_rules_71 : decode cX9_rules 71 = .ok (.aload_n 0, 1) := by decide +kernel
theorem dX9_rules_72 : decode cX9_rules 72 = .ok (.aload_n 0, 1) := by decide +kernel
theorem dX9_rules_73 : decode cX9_rules 73 = .ok (.getfield 26, 3) := by decide +kernel
theorem dX9_rules_76 : decode cX9_rules 76 = .ok (.getfield 132, 3) := by decide +kernel
theorem dX9_rules_79 : decode cX9_rules 79 = .ok (.putfield 74, 3) := by decide +kernel
theorem dX9_rules_82 : decode cX9_rules 82 = .ok (.aload_n 0, 1) := by decide +kernel
theorem dX9_rules_83 : decode cX9_rules 83 = .ok (.getfield 26, 3) := by decide +kernel
theorem dX9_rules_86 : decode cX9_rules 86 = .ok (.aload_n 2, 1) := by decide +kernel
theorem dX9_rules_87 : decode cX9_rules 87 = .ok (.putfield 132, 3) := by decide +kernel
theorem dX9_rules_90 : decode cX9_rules 90 = .ok (.aload_n 0, 1) := by decide +kernel
theorem dX9_rules_91 : decode cX9_rules 91 = .ok (.getfield 74, 3) := by decide +kernel
theorem dX9_rules_94 : decode cX9_rules 94 = .ok (.getfield 135, 3) := by decide +kernel
theorem dX9_rules_97 : decode cX9_rules 97 = .ok (.ireturn, 1) := by decide +kernel
theorem dX9_fault_0 : decode cX9_fault 0 = .ok (.iload_n 1, 1) := by decide +kernel
theorem dX9_fault_1 : decode cX9_fault 1 = .ok (.ifCond .ne 11, 3) := by decide +kernel
theorem dX9_fault_4 : decode cX9_fault 4 = .ok (.aload_n 0, 1) := by decide +kernel
theorem dX9_fault_5 : decode cX9_fault 5 = .ok (.getfield 26, 3) := by decide +kernel
theorem dX9_fault_8 : decode cX9_fault 8 = .ok (.getfield 136, 3) := by decide +kernel
theorem dX9_fault_11 : decode cX9_fault 11 = .ok (.ireturn, 1) := by decide +kernel
theorem dX9_fault_12 : decode cX9_fault 12 = .ok (.iload_n 1, 1) := by decide +kernel
theorem dX9_fault_13 : decode cX9_fault 13 = .ok (.iconst 1, 1) := by decide +kernel
theorem dX9_fault_14 : decode cX9_fault 14 = .ok (.if_icmp .ne 13, 3) := by decide +kernel
theorem dX9_fault_17 : decode cX9_fault 17 = .ok (.aload_n 0, 1) := by decide +kernel
theorem dX9_fault_18 : decode cX9_fault 18 = .ok (.getfield 26, 3) := by decide +kernel
theorem dX9_fault_21 : decode cX9_fault 21 = .ok (.getfield 139, 3) := by decide +kernel
theorem dX9_fault_24 : decode cX9_fault 24 = .ok (.goto 4, 3) := by decide +kernel
theorem dX9_fault_27 : decode cX9_fault 27 = .ok (.iconst (-1), 1) := by decide +kernel
theorem dX9_fault_28 : decode cX9_fault 28 = .ok (.ireturn, 1) := by decide +kernel
set_option maxRecDepth 20000 in
theorem ggX9_phrase_X9_isTongue : GoodIn wsX9_phrase wsX9_isTongue := goodIn_r _ [5] (by decide +kernel) (by decide +kernel)
set_option maxRecDepth 20000 in
theorem gX9_phrase_X9_isTongue : GoodIn wsX9_phrase (va_wsS RX9 142 yX9_isTongue wsX9_isTongue) := goodIn_app (goodIn_of _ (by decide +kernel)) ggX9_phrase_X9_isTongue
set_option maxRecDepth 20000 in
theorem ggX9_phrase_X9_rowOf : GoodIn wsX9_phrase wsX9_rowOf := goodIn_r _ [8] (by decide +kernel) (by decide +kernel)
set_option maxRecDepth 20000 in
theorem gX9_phrase_X9_rowOf : GoodIn wsX9_phrase (va_wsS RX9 145 yX9_rowOf wsX9_rowOf) := goodIn_app (goodIn_of _ (by decide +kernel)) ggX9_phrase_X9_rowOf
set_option maxRecDepth 20000 in
theorem ggX9_phrase_X9_keepTape : GoodIn wsX9_phrase wsX9_keepTape := goodIn_r _ [12, 13, 14, 15, 16, 17, 18, 19, 20, 21, 22, 23, 24, 25, 26, 27, 28, 29, 30, 31, 32, 33, 34, 35, 36, 37, 38, 39, 40, 41, 42, 43, 44] (by decide +kernel) (by decide +kernel)
set_option maxRecDepth 20000 in
theorem gX9_phrase_X9_keepTape : GoodIn wsX9_phrase (wsV RX9 148 RX9 yX9_keepTape wsX9_keepTape) := goodIn_app (goodIn_of _ (by decide +kernel)) ggX9_phrase_X9_keepTape
theorem dX9_phrase_0 : decode cX9_phrase 0 = .ok (.iload_n 1, 1) := by decide +kernel
theorem dX9_phrase_1 : decode cX9_phrase 1 = .ok (.ifCond .lt 20, 3) := by decide +kernel
theorem dX9_phrase_4 : decode cX9_phrase 4 = .ok (.iload_n 1, 1) := by decide +kernel
theorem dX9_phrase_5 : decode cX9_phrase 5 = .ok (.bipush 40, 2) := by decide +kernel
theorem dX9_phrase_7 : decode cX9_phrase 7 = .ok (.if_icmp .ge 14, 3) := by decide +kernel
theorem dX9_phrase_10 : decode cX9_phrase 10 = .ok (.iload_n 2, 1) := by decide +kernel
theorem dX9_phrase_11 : decode cX9_phrase 11 = .ok (.invokestatic 142, 3) := by decide +kernel
theorem dX9_phrase_14 : decode cX9_phrase 14 = .ok (.ifCond .eq 7, 3) := by decide +kernel
theorem dX9_phrase_17 : decode cX9_phrase 17 = .ok (.iconst 1, 1) := by decide +kernel
theorem dX9_phrase_18 : decode cX9_phrase 18 = .ok (.goto 4, 3) := by decide +kernel
theorem dX9_phrase_21 : decode cX9_phrase 21 = .ok (.iconst 0, 1) := by decide +kernel
theorem dX9_phrase_22 : decode cX9_phrase 22 = .ok (.istore_n 3, 1) := by decide +kernel
theorem dX9_phrase_23 : decode cX9_phrase 23 = .ok (.aload_n 0, 1) := by decide +kernel
theorem dX9_phrase_24 : decode cX9_phrase 24 = .ok (.aload_n 0, 1) := by decide +kernel
theorem dX9_phrase_25 : decode cX9_phrase 25 = .ok (.getfield 42, 3) := by decide +kernel
theorem dX9_phrase_28 : decode cX9_phrase 28 = .ok (.iload_n 3, 1) := by decide +kernel
theorem dX9_phrase_29 : decode cX9_phrase 29 = .ok (.ifCond .eq 11, 3) := by decide +kernel
theorem dX9_phrase_32 : decode cX9_phrase 32 = .ok (.iload_n 1, 1) := by decide +kernel
theorem dX9_phrase_33 : decode cX9_phrase 33 = .ok (.iload_n 2, 1) := by decide +kernel
theorem dX9_phrase_34 : decode cX9_phrase 34 = .ok (.invokestatic 145, 3) := by decide +kernel
theorem dX9_phrase_37 : decode cX9_phrase 37 = .ok (.goto 4, 3) := by decide +kernel
theorem dX9_phrase_40 : decode cX9_phrase 40 = .ok (.iconst (-1), 1) := by decide +kernel
theorem dX9_phrase_41 : decode cX9_phrase 41 = .ok (.invokevirtual 148, 3) := by decide +kernel
theorem dX9_phrase_44 : decode cX9_phrase 44 = .ok (.ireturn, 1) := by decide +kernel
set_option maxRecDepth 20000 in
theorem ggX9_name_X9_isSkill : GoodIn wsX9_name wsX9_isSkill := goodIn_r _ [5] (by decide +kernel) (by decide +kernel)
set_option maxRecDepth 20000 in
theorem gX9_name_X9_isSkill : GoodIn wsX9_name (va_wsS RX9 103 yX9_isSkill wsX9_isSkill) := goodIn_app (goodIn_of _ (by decide +kernel)) ggX9_name_X9_isSkill
set_option maxRecDepth 20000 in
theorem ggX9_name_X9_isTongue : GoodIn wsX9_name wsX9_isTongue := goodIn_r _ [8] (by decide +kernel) (by decide +kernel)
set_option maxRecDepth 20000 in
theorem gX9_name_X9_isTongue : GoodIn wsX9_name (va_wsS RX9 142 yX9_isTongue wsX9_isTongue) := goodIn_app (goodIn_of _ (by decide +kernel)) ggX9_name_X9_isTongue
set_option maxRecDepth 20000 in
theorem ggX9_name_X9_rowOf : GoodIn wsX9_name wsX9_rowOf := goodIn_r _ [11] (by decide +kernel) (by decide +kernel)
set_option maxRecDepth 20000 in
theorem gX9_name_X9_rowOf : GoodIn wsX9_name (va_wsS RX9 145 yX9_rowOf wsX9_rowOf) := goodIn_app (goodIn_of _ (by decide +kernel)) ggX9_name_X9_rowOf
set_option maxRecDepth 20000 in
theorem ggX9_name_X9_keepTape : GoodIn wsX9_name wsX9_keepTape := goodIn_r _ [15, 16, 17, 18, 19, 20, 21, 22, 23, 24, 25, 26, 27, 28, 29, 30, 31, 32, 33, 34, 35, 36, 37, 38, 39, 40, 41, 42, 43, 44, 45, 46, 47] (by decide +kernel) (by decide +kernel)
set_option maxRecDepth 20000 in
theorem gX9_name_X9_keepTape : GoodIn wsX9_name (wsV RX9 148 RX9 yX9_keepTape wsX9_keepTape) := goodIn_app (goodIn_of _ (by decide +kernel)) ggX9_name_X9_keepTape
theorem dX9_name_0 : decode cX9_name 0 = .ok (.iload_n 1, 1) := by decide +kernel
theorem dX9_name_1 : decode cX9_name 1 = .ok (.invokestatic 103, 3) := by decide +kernel
theorem dX9_name_4 : decode cX9_name 4 = .ok (.ifCond .eq 14, 3) := by decide +kernel
theorem dX9_name_7 : decode cX9_name 7 = .ok (.iload_n 2, 1) := by decide +kernel
theorem dX9_name_8 : decode cX9_name 8 = .ok (.invokestatic 142, 3) := by decide +kernel
theorem dX9_name_11 : decode cX9_name 11 = .ok (.ifCond .eq 7, 3) := by decide +kernel
theorem dX9_name_14 : decode cX9_name 14 = .ok (.iconst 1, 1) := by decide +kernel
theorem dX9_name_15 : decode cX9_name 15 = .ok (.goto 4, 3) := by decide +kernel
theorem dX9_name_18 : decode cX9_name 18 = .ok (.iconst 0, 1) := by decide +kernel
theorem dX9_name_19 : decode cX9_name 19 = .ok (.istore_n 3, 1) := by decide +kernel
theorem dX9_name_20 : decode cX9_name 20 = .ok (.aload_n 0, 1) := by decide +kernel
theorem dX9_name_21 : decode cX9_name 21 = .ok (.aload_n 0, 1) := by decide +kernel
theorem dX9_name_22 : decode cX9_name 22 = .ok (.getfield 46, 3) := by decide +kernel
theorem dX9_name_25 : decode cX9_name 25 = .ok (.iload_n 3, 1) := by decide +kernel
theorem dX9_name_26 : decode cX9_name 26 = .ok (.ifCond .eq 11, 3) := by decide +kernel
theorem dX9_name_29 : decode cX9_name 29 = .ok (.iload_n 1, 1) := by decide +kernel
theorem dX9_name_30 : decode cX9_name 30 = .ok (.iload_n 2, 1) := by decide +kernel
theorem dX9_name_31 : decode cX9_name 31 = .ok (.invokestatic 145, 3) := by decide +kernel
theorem dX9_name_34 : decode cX9_name 34 = .ok (.goto 4, 3) := by decide +kernel
theorem dX9_name_37 : decode cX9_name 37 = .ok (.iconst (-1), 1) := by decide +kernel
theorem dX9_name_38 : decode cX9_name 38 = .ok (.invokevirtual 148, 3) := by decide +kernel
theorem dX9_name_41 : decode cX9_name 41 = .ok (.ireturn, 1) := by decide +kernel
set_option maxRecDepth 20000 in
theorem ggX9_page_X9_isPupil : GoodIn wsX9_page wsX9_isPupil := goodIn_r _ [5] (by decide +kernel) (by decide +kernel)
set_option maxRecDepth 20000 in
theorem gX9_page_X9_isPupil : GoodIn wsX9_page (va_wsS RX9 83 yX9_isPupil wsX9_isPupil) := goodIn_app (goodIn_of _ (by decide +kernel)) ggX9_page_X9_isPupil
set_option maxRecDepth 20000 in
theorem ggX9_page_X9_freshPage : GoodIn wsX9_page wsX9_freshPage := goodIn_r _ [9, 10, 1, 11, 12, 13, 14, 15, 16, 17, 18, 19, 20, 21, 22, 23, 24, 25, 26, 27, 28, 29, 30, 31, 32, 33, 34, 35, 36, 37, 38, 39, 40, 41, 42, 43, 44, 45, 46, 47, 48, 49, 50, 51, 52, 53, 54, 4, 55, 56, 57, 58, 59, 60, 61, 62, 63, 64, 65, 66, 67, 68, 69, 70, 71, 72, 73, 74, 75, 76, 77, 78, 79, 80, 81, 82, 83, 84, 85, 86, 87, 88, 89, 90, 91, 92, 93, 94, 95, 96, 97, 98, 99, 100, 101, 102, 103, 108, 109, 110, 111, 112, 113, 114, 115, 116, 117, 118, 104, 105, 106, 107, 119, 120, 121, 122, 123, 124, 125, 126, 127, 128, 129, 130, 131, 132] (by decide +kernel) (by decide +kernel)
set_option maxRecDepth 20000 in
theorem gX9_page_X9_freshPage : GoodIn wsX9_page (wsV RX9 152 RX9 yX9_freshPage wsX9_freshPage) := goodIn_app (goodIn_of _ (by decide +kernel)) ggX9_page_X9_freshPage
theorem dX9_page_0 : decode cX9_page 0 = .ok (.iload_n 1, 1) := by decide +kernel
theorem dX9_page_1 : decode cX9_page 1 = .ok (.invokestatic 83, 3) := by decide +kernel
theorem dX9_page_4 : decode cX9_page 4 = .ok (.ifCond .eq 14, 3) := by decide +kernel
theorem dX9_page_7 : decode cX9_page 7 = .ok (.aload_n 0, 1) := by decide +kernel
theorem dX9_page_8 : decode cX9_page 8 = .ok (.iload_n 1, 1) := by decide +kernel
theorem dX9_page_9 : decode cX9_page 9 = .ok (.invokevirtual 152, 3) := by decide +kernel
theorem dX9_page_12 : decode cX9_page 12 = .ok (.getfield 156, 3) := by decide +kernel
theorem dX9_page_15 : decode cX9_page 15 = .ok (.goto 4, 3) := by decide +kernel
theorem dX9_page_18 : decode cX9_page 18 = .ok (.iconst (-1), 1) := by decide +kernel
theorem dX9_page_19 : decode cX9_page 19 = .ok (.ireturn, 1) := by decide +kernel
set_option maxRecDepth 20000 in
theorem ggX9_line_X9_isPupil : GoodIn wsX9_line wsX9_isPupil := goodIn_r _ [8] (by decide +kernel) (by decide +kernel)
set_option maxRecDepth 20000 in
theorem gX9_line_X9_isPupil : GoodIn wsX9_line (va_wsS RX9 83 yX9_isPupil wsX9_isPupil) := goodIn_app (goodIn_of _ (by decide +kernel)) ggX9_line_X9_isPupil
set_option maxRecDepth 20000 in
theorem ggX9_line_X9_freshPage : GoodIn wsX9_line wsX9_freshPage := goodIn_r _ [12, 13, 1, 14, 15, 16, 17, 18, 19, 20, 21, 22, 23, 24, 25, 26, 27, 28, 29, 30, 31, 32, 33, 34, 35, 36, 37, 38, 39, 40, 41, 42, 43, 44, 45, 46, 47, 48, 49, 50, 51, 52, 53, 54, 55, 56, 57, 7, 58, 59, 60, 61, 62, 63, 64, 65, 66, 67, 68, 69, 70, 71, 72, 73, 74, 75, 76, 77, 78, 79, 80, 81, 82, 83, 84, 85, 86, 87, 88, 89, 90, 91, 92, 93, 94, 95, 96, 97, 98, 99, 100, 101, 102, 103, 104, 105, 106, 121, 122, 123, 124, 125, 126, 127, 128, 129, 130, 131, 117, 118, 119, 120, 132, 133, 134, 135, 136, 137, 138, 139, 140, 141, 142, 143, 144, 145] (by decide +kernel) (by decide +kernel)
set_option maxRecDepth 20000 in
theorem gX9_line_X9_freshPage : GoodIn wsX9_line (wsV RX9 152 RX9 yX9_freshPage wsX9_freshPage) := goodIn_app (goodIn_of _ (by decide +kernel)) ggX9_line_X9_freshPage
set_option maxRecDepth 20000 in
theorem ggX9_line_X9_bearersOf : GoodIn wsX9_line wsX9_bearersOf := goodIn_r _ [110, 14, 18, 19, 20, 21, 22, 23, 24, 25, 26, 27, 28, 29, 111, 36, 37, 38, 39, 40, 41, 112, 113, 114, 7, 115, 116, 60, 16, 30, 31, 32, 33, 34, 35, 42, 43, 44, 45, 46, 47, 48, 49, 50, 51, 52, 53, 54, 75, 76, 77, 78, 79, 80, 81, 82, 83, 84, 85, 86, 87, 88, 89, 90, 91, 92, 93, 94, 95, 96, 97, 98, 99, 100, 101, 121, 122, 123, 124, 125, 126, 127, 128, 129, 130, 131, 138, 139, 140, 141, 142, 143, 144, 145, 132, 133, 134, 135, 136, 137] (by decide +kernel) (by decide +kernel)
set_option maxRecDepth 20000 in
theorem gX9_line_X9_bearersOf : GoodIn wsX9_line (wsV RX9 166 RX9 yX9_bearersOf wsX9_bearersOf) := goodIn_app (goodIn_of _ (by decide +kernel)) ggX9_line_X9_bearersOf
theorem dX9_line_0 : decode cX9_line 0 = .ok (.iload_n 1, 1) := by decide +kernel
theorem dX9_line_1 : decode cX9_line 1 = .ok (.invokestatic 83, 3) := by decide +kernel
theorem dX9_line_4 : decode cX9_line 4 = .ok (.ifCond .ne 5, 3) := by decide +kernel
theorem dX9_line_7 : decode cX9_line 7 = .ok (.iconst (-1), 1) := by decide +kernel
theorem dX9_line_8 : decode cX9_line 8 = .ok (.ireturn, 1) := by decide +kernel
theorem dX9_line_9 : decode cX9_line 9 = .ok (.aload_n 0, 1) := by decide +kernel
theorem dX9_line_10 : decode cX9_line 10 = .ok (.iload_n 1, 1) := by decide +kernel
theorem dX9_line_11 : decode cX9_line 11 = .ok (.invokevirtual 152, 3) := by decide +kernel
theorem dX9_line_14 : decode cX9_line 14 = .ok (.astore 4, 2) := by decide +kernel
theorem dX9_line_16 : decode cX9_line 16 = .ok (.iload_n 2, 1) := by decide +kernel
theorem dX9_line_17 : decode cX9_line 17 = .ok (.ifCond .lt 12, 3) := by decide +kernel
theorem dX9_line_20 : decode cX9_line 20 = .ok (.iload_n 2, 1) := by decide +kernel
theorem dX9_line_21 : decode cX9_line 21 = .ok (.aload 4, 2) := by decide +kernel
theorem dX9_line_23 : decode cX9_line 23 = .ok (.getfield 156, 3) := by decide +kernel
theorem dX9_line_26 : decode cX9_line 26 = .ok (.if_icmp .lt 5, 3) := by decide +kernel
theorem dX9_line_29 : decode cX9_line 29 = .ok (.iconst (-1), 1) := by decide +kernel
theorem dX9_line_30 : decode cX9_line 30 = .ok (.ireturn, 1) := by decide +kernel
theorem dX9_line_31 : decode cX9_line 31 = .ok (.iload_n 3, 1) := by decide +kernel
theorem dX9_line_32 : decode cX9_line 32 = .ok (.tableswitch 76 0 3 #[32, 40, 48, 56], 32) := by decide +kernel
theorem dX9_line_64 : decode cX9_line 64 = .ok (.aload 4, 2) := by decide +kernel
theorem dX9_line_66 : decode cX9_line 66 = .ok (.getfield 157, 3) := by decide +kernel
theorem dX9_line_69 : decode cX9_line 69 = .ok (.iload_n 2, 1) := by decide +kernel
theorem dX9_line_70 : decode cX9_line 70 = .ok (.iaload, 1) := by decide +kernel
theorem dX9_line_71 : decode cX9_line 71 = .ok (.ireturn, 1) := by decide +kernel
theorem dX9_line_72 : decode cX9_line 72 = .ok (.aload 4, 2) := by decide +kernel
theorem dX9_line_74 : decode cX9_line 74 = .ok (.getfield 160, 3) := by decide +kernel
theorem dX9_line_77 : decode cX9_line 77 = .ok (.iload_n 2, 1) := by decide +kernel
theorem dX9_line_78 : decode cX9_line 78 = .ok (.iaload, 1) := by decide +kernel
theorem dX9_line_79 : decode cX9_line 79 = .ok (.ireturn, 1) := by decide +kernel
theorem dX9_line_80 : decode cX9_line 80 = .ok (.aload 4, 2) := by decide +kernel
theorem dX9_line_82 : decode cX9_line 82 = .ok (.getfield 163, 3) := by decide +kernel
theorem dX9_line_85 : decode cX9_line 85 = .ok (.iload_n 2, 1) := by decide +kernel
theorem dX9_line_86 : decode cX9_line 86 = .ok (.iaload, 1) := by decide +kernel
theorem dX9_line_87 : decode cX9_line 87 = .ok (.ireturn, 1) := by decide +kernel
theorem dX9_line_88 : decode cX9_line 88 = .ok (.aload_n 0, 1) := by decide +kernel
theorem dX9_line_89 : decode cX9_line 89 = .ok (.iload_n 1, 1) := by decide +kernel
theorem dX9_line_90 : decode cX9_line 90 = .ok (.aload 4, 2) := by decide +kernel
theorem dX9_line_92 : decode cX9_line 92 = .ok (.getfield 160, 3) := by decide +kernel
theorem dX9_line_95 : decode cX9_line 95 = .ok (.iload_n 2, 1) := by decide +kernel
theorem dX9_line_96 : decode cX9_line 96 = .ok (.iaload, 1) := by decide +kernel
theorem dX9_line_97 : decode cX9_line 97 = .ok (.aload 4, 2) := by decide +kernel
theorem dX9_line_99 : decode cX9_line 99 = .ok (.getfield 163, 3) := by decide +kernel
theorem dX9_line_102 : decode cX9_line 102 = .ok (.iload_n 2, 1) := by decide +kernel
theorem dX9_line_103 : decode cX9_line 103 = .ok (.iaload, 1) := by decide +kernel
theorem dX9_line_104 : decode cX9_line 104 = .ok (.invokevirtual 166, 3) := by decide +kernel
theorem dX9_line_107 : decode cX9_line 107 = .ok (.ireturn, 1) := by decide +kernel
theorem dX9_line_108 : decode cX9_line 108 = .ok (.iconst (-1), 1) := by decide +kernel
theorem dX9_line_109 : decode cX9_line 109 = .ok (.ireturn, 1) := by decide +kernel
set_option maxRecDepth 20000 in
theorem ggX9_write_X9_isPupil : GoodIn wsX9_write wsX9_isPupil := goodIn_r _ [9] (by decide +kernel) (by decide +kernel)
set_option maxRecDepth 20000 in
theorem gX9_write_X9_isPupil : GoodIn wsX9_write (va_wsS RX9 83 yX9_isPupil wsX9_isPupil) := goodIn_app (goodIn_of _ (by decide +kernel)) ggX9_write_X9_isPupil
set_option maxRecDepth 20000 in
theorem ggX9_write_X9_isTongue : GoodIn wsX9_write wsX9_isTongue := goodIn_r _ [12] (by decide +kernel) (by decide +kernel)
set_option maxRecDepth 20000 in
theorem gX9_write_X9_isTongue : GoodIn wsX9_write (va_wsS RX9 142 yX9_isTongue wsX9_isTongue) := goodIn_app (goodIn_of _ (by decide +kernel)) ggX9_write_X9_isTongue
set_option maxRecDepth 20000 in
theorem ggX9_write_X9_freshPage : GoodIn wsX9_write wsX9_freshPage := goodIn_r _ [16, 17, 3, 18, 19, 20, 21, 22, 23, 24, 25, 26, 27, 28, 29, 30, 31, 32, 33, 34, 35, 36, 37, 38, 39, 40, 41, 42, 43, 44, 45, 46, 47, 48, 49, 50, 51, 52, 53, 54, 55, 56, 57, 58, 59, 60, 61, 8, 62, 63, 64, 65, 66, 67, 68, 69, 70, 71, 72, 73, 74, 75, 76, 77, 78, 79, 80, 81, 82, 83, 84, 85, 86, 87, 88, 89, 90, 91, 92, 93, 94, 95, 96, 97, 98, 99, 100, 101, 102, 103, 104, 105, 106, 107, 108, 109, 110, 144, 145, 146, 147, 148, 149, 150, 151, 152, 153, 154, 157, 158, 159, 160, 161, 162, 163, 164, 165, 166, 167, 168, 169, 170, 171, 172, 173, 174] (by decide +kernel) (by decide +kernel)
set_option maxRecDepth 20000 in
theorem gX9_write_X9_freshPage : GoodIn wsX9_write (wsV RX9 152 RX9 yX9_freshPage wsX9_freshPage) := goodIn_app (goodIn_of _ (by decide +kernel)) ggX9_write_X9_freshPage
set_option maxRecDepth 20000 in
theorem ggX9_write_X9_writeLine : GoodIn wsX9_write wsX9_writeLine := goodIn_r _ [114, 115, 116, 1, 19, 117, 118, 8, 119, 120, 121, 122, 123, 124, 125, 126, 127, 128, 129, 130, 131, 132, 133, 134, 135, 136, 137, 138, 139, 140, 141, 142, 143, 144, 145, 146, 147, 148, 149, 150, 151, 152, 153, 154, 175, 176, 177, 155, 156] (by decide +kernel) (by decide +kernel)
set_option maxRecDepth 20000 in
theorem gX9_write_X9_writeLine : GoodIn wsX9_write (wsV RX9 171 RX9 yX9_writeLine wsX9_writeLine) := goodIn_app (goodIn_of _ (by decide +kernel)) ggX9_write_X9_writeLine
theorem dX9_write_0 : decode cX9_write 0 = .ok (.iload_n 1, 1) := by decide +kernel
theorem dX9_write_1 : decode cX9_write 1 = .ok (.invokestatic 83, 3) := by decide +kernel
theorem dX9_write_4 : decode cX9_write 4 = .ok (.ifCond .eq 10, 3) := by decide +kernel
theorem dX9_write_7 : decode cX9_write 7 = .ok (.iload_n 2, 1) := by decide +kernel
theorem dX9_write_8 : decode cX9_write 8 = .ok (.invokestatic 142, 3) := by decide +kernel
theorem dX9_write_11 : decode cX9_write 11 = .ok (.ifCond .ne 5, 3) := by decide +kernel
theorem dX9_write_14 : decode cX9_write 14 = .ok (.iconst (-1), 1) := by decide +kernel
theorem dX9_write_15 : decode cX9_write 15 = .ok (.ireturn, 1) := by decide +kernel
theorem dX9_write_16 : decode cX9_write 16 = .ok (.aload_n 0, 1) := by decide +kernel
theorem dX9_write_17 : decode cX9_write 17 = .ok (.iload_n 1, 1) := by decide +kernel
theorem dX9_write_18 : decode cX9_write 18 = .ok (.invokevirtual 152, 3) := by decide +kernel
theorem dX9_write_21 : decode cX9_write 21 = .ok (.astore_n 3, 1) := by decide +kernel
theorem dX9_write_22 : decode cX9_write 22 = .ok (.aload_n 0, 1) := by decide +kernel
theorem dX9_write_23 : decode cX9_write 23 = .ok (.getfield 67, 3) := by decide +kernel
theorem dX9_write_26 : decode cX9_write 26 = .ok (.iconst 0, 1) := by decide +kernel
theorem dX9_write_27 : decode cX9_write 27 = .ok (.putfield 170, 3) := by decide +kernel
theorem dX9_write_30 : decode cX9_write 30 = .ok (.iconst 0, 1) := by decide +kernel
theorem dX9_write_31 : decode cX9_write 31 = .ok (.istore 4, 2) := by decide +kernel
theorem dX9_write_33 : decode cX9_write 33 = .ok (.iload 4, 2) := by decide +kernel
theorem dX9_write_35 : decode cX9_write 35 = .ok (.aload_n 3, 1) := by decide +kernel
theorem dX9_write_36 : decode cX9_write 36 = .ok (.getfield 156, 3) := by decide +kernel
theorem dX9_write_39 : decode cX9_write 39 = .ok (.if_icmp .ge 28, 3) := by decide +kernel
theorem dX9_write_42 : decode cX9_write 42 = .ok (.aload_n 0, 1) := by decide +kernel
theorem dX9_write_43 : decode cX9_write 43 = .ok (.aload_n 3, 1) := by decide +kernel
theorem dX9_write_44 : decode cX9_write 44 = .ok (.getfield 157, 3) := by decide +kernel
theorem dX9_write_47 : decode cX9_write 47 = .ok (.iload 4, 2) := by decide +kernel
theorem dX9_write_49 : decode cX9_write 49 = .ok (.iaload, 1) := by decide +kernel
theorem dX9_write_50 : decode cX9_write 50 = .ok (.aload_n 3, 1) := by decide +kernel
theorem dX9_write_51 : decode cX9_write 51 = .ok (.getfield 160, 3) := by decide +kernel
theorem dX9_write_54 : decode cX9_write 54 = .ok (.iload 4, 2) := by decide +kernel
theorem dX9_write_56 : decode cX9_write 56 = .ok (.iaload, 1) := by decide +kernel
theorem dX9_write_57 : decode cX9_write 57 = .ok (.iload_n 2, 1) := by decide +kernel
theorem dX9_write_58 : decode cX9_write 58 = .ok (.invokevirtual 171, 3) := by decide +kernel
theorem dX9_write_61 : decode cX9_write 61 = .ok (.iinc 4 1, 3) := by decide +kernel
theorem dX9_write_64 : decode cX9_write 64 = .ok (.goto (-31), 3) := by decide +kernel
theorem dX9_write_67 : decode cX9_write 67 = .ok (.aload_n 0, 1) := by decide +kernel
theorem dX9_write_68 : decode cX9_write 68 = .ok (.getfield 67, 3) := by decide +kernel
theorem dX9_write_71 : decode cX9_write 71 = .ok (.getfield 170, 3) := by decide +kernel
theorem dX9_write_74 : decode cX9_write 74 = .ok (.ireturn, 1) := by decide +kernel
theorem dX9_out_0 : decode cX9_out 0 = .ok (.iload_n 1, 1) := by decide +kernel
theorem dX9_out_1 : decode cX9_out 1 = .ok (.ifCond .lt 26, 3) := by decide +kernel
theorem dX9_out_4 : decode cX9_out 4 = .ok (.iload_n 1, 1) := by decide +kernel
theorem dX9_out_5 : decode cX9_out 5 = .ok (.aload_n 0, 1) := by decide +kernel
theorem dX9_out_6 : decode cX9_out 6 = .ok (.getfield 67, 3) := by decide +kernel
theorem dX9_out_9 : decode cX9_out 9 = .ok (.getfield 170, 3) := by decide +kernel
theorem dX9_out_12 : decode cX9_out 12 = .ok (.if_icmp .ge 15, 3) := by decide +kernel
theorem dX9_out_15 : decode cX9_out 15 = .ok (.aload_n 0, 1) := by decide +kernel
theorem dX9_out_16 : decode cX9_out 16 = .ok (.getfield 67, 3) := by decide +kernel
theorem dX9_out_19 : decode cX9_out 19 = .ok (.getfield 174, 3) := by decide +kernel
theorem dX9_out_22 : decode cX9_out 22 = .ok (.iload_n 1, 1) := by decide +kernel
theorem dX9_out_23 : decode cX9_out 23 = .ok (.iaload, 1) := by decide +kernel
theorem dX9_out_24 : decode cX9_out 24 = .ok (.goto 4, 3) := by decide +kernel
theorem dX9_out_27 : decode cX9_out 27 = .ok (.iconst (-1), 1) := by decide +kernel
theorem dX9_out_28 : decode cX9_out 28 = .ok (.ireturn, 1) := by decide +kernel
set_option maxRecDepth 20000 in
theorem ggX9_alike_X9_isPupil : GoodIn wsX9_alike wsX9_isPupil := goodIn_r _ [4] (by decide +kernel) (by decide +kernel)
set_option maxRecDepth 20000 in
theorem gX9_alike_X9_isPupil : GoodIn wsX9_alike (va_wsS RX9 83 yX9_isPupil wsX9_isPupil) := goodIn_app (goodIn_of _ (by decide +kernel)) ggX9_alike_X9_isPupil
set_option maxRecDepth 20000 in
theorem ggX9_alike_X9_freshPage : GoodIn wsX9_alike wsX9_freshPage := goodIn_r _ [8, 9, 10, 11, 12, 13, 14, 15, 16, 17, 18, 19, 20, 21, 22, 23, 24, 25, 26, 27, 28, 29, 30, 31, 32, 33, 34, 35, 36, 37, 38, 39, 40, 41, 42, 43, 44, 45, 46, 47, 48, 49, 50, 51, 52, 53, 54, 3, 55, 56, 57, 58, 59, 60, 61, 62, 63, 64, 65, 66, 67, 68, 69, 70, 71, 72, 73, 74, 75, 76, 77, 78, 79, 80, 81, 82, 83, 84, 85, 86, 87, 88, 89, 90, 91, 92, 93, 94, 95, 96, 97, 98, 99, 100, 101, 102, 103, 108, 109, 110, 111, 112, 113, 114, 115, 116, 117, 118, 119, 120, 121, 122, 123, 124, 125, 126, 127, 128, 129, 130, 131, 132, 133, 134, 135, 136] (by decide +kernel) (by decide +kernel)
set_option maxRecDepth 20000 in
theorem gX9_alike_X9_freshPage : GoodIn wsX9_alike (wsV RX9 152 RX9 yX9_freshPage wsX9_freshPage) := goodIn_app (goodIn_of _ (by decide +kernel)) ggX9_alike_X9_freshPage
set_option maxRecDepth 20000 in
theorem ggX9_alike_X2_sameLines : GoodIn wsX9_alike wsX2_sameLines := goodIn_r _ [107, 69, 71, 70, 119, 120, 121, 122] (by decide +kernel) (by decide +kernel)
set_option maxRecDepth 20000 in
theorem gX9_alike_X2_sameLines : GoodIn wsX9_alike (wsV RX9 177 RX2 yX2_sameLines wsX2_sameLines) := goodIn_app (goodIn_of _ (by decide +kernel)) ggX9_alike_X2_sameLines
theorem dX9_alike_0 : decode cX9_alike 0 = .ok (.iload_n 1, 1) := by decide +kernel
theorem dX9_alike_1 : decode cX9_alike 1 = .ok (.invokestatic 83, 3) := by decide +kernel
theorem dX9_alike_4 : decode cX9_alike 4 = .ok (.ifCond .eq 10, 3) := by decide +kernel
theorem dX9_alike_7 : decode cX9_alike 7 = .ok (.iload_n 2, 1) := by decide +kernel
theorem dX9_alike_8 : decode cX9_alike 8 = .ok (.invokestatic 83, 3) := by decide +kernel
theorem dX9_alike_11 : decode cX9_alike 11 = .ok (.ifCond .ne 5, 3) := by decide +kernel
theorem dX9_alike_14 : decode cX9_alike 14 = .ok (.iconst (-1), 1) := by decide +kernel
theorem dX9_alike_15 : decode cX9_alike 15 = .ok (.ireturn, 1) := by decide +kernel
theorem dX9_alike_16 : decode cX9_alike 16 = .ok (.aload_n 0, 1) := by decide +kernel
theorem dX9_alike_17 : decode cX9_alike 17 = .ok (.iload_n 1, 1) := by decide +kernel
theorem dX9_alike_18 : decode cX9_alike 18 = .ok (.invokevirtual 152, 3) := by decide +kernel
theorem dX9_alike_21 : decode cX9_alike 21 = .ok (.aload_n 0, 1) := by decide +kernel
theorem dX9_alike_22 : decode cX9_alike 22 = .ok (.iload_n 2, 1) := by decide +kernel
theorem dX9_alike_23 : decode cX9_alike 23 = .ok (.invokevirtual 152, 3) := by decide +kernel
theorem dX9_alike_26 : decode cX9_alike 26 = .ok (.invokevirtual 177, 3) := by decide +kernel
theorem dX9_alike_29 : decode cX9_alike 29 = .ok (.ifCond .eq 7, 3) := by decide +kernel
theorem dX9_alike_32 : decode cX9_alike 32 = .ok (.iconst 1, 1) := by decide +kernel
theorem dX9_alike_33 : decode cX9_alike 33 = .ok (.goto 4, 3) := by decide +kernel
theorem dX9_alike_36 : decode cX9_alike 36 = .ok (.iconst 0, 1) := by decide +kernel
theorem dX9_alike_37 : decode cX9_alike 37 = .ok (.ireturn, 1) := by decide +kernel
set_option maxRecDepth 20000 in
theorem ggX9_sheet_X9_isSkill : GoodIn wsX9_sheet wsX9_isSkill := goodIn_r _ [4] (by decide +kernel) (by decide +kernel)
set_option maxRecDepth 20000 in
theorem gX9_sheet_X9_isSkill : GoodIn wsX9_sheet (va_wsS RX9 103 yX9_isSkill wsX9_isSkill) := goodIn_app (goodIn_of _ (by decide +kernel)) ggX9_sheet_X9_isSkill
set_option maxRecDepth 20000 in
theorem ggX9_sheet_X9_freshPage : GoodIn wsX9_sheet wsX9_freshPage := goodIn_r _ [8, 9, 10, 11, 12, 13, 14, 15, 16, 17, 18, 19, 20, 21, 22, 23, 24, 25, 26, 27, 28, 29, 30, 31, 32, 33, 34, 35, 36, 37, 38, 39, 40, 41, 42, 43, 44, 45, 46, 47, 48, 49, 50, 51, 52, 53, 54, 3, 55, 56, 57, 58, 59, 60, 61, 62, 63, 64, 65, 66, 67, 68, 69, 70, 71, 72, 73, 74, 75, 76, 77, 78, 79, 80, 81, 82, 83, 84, 85, 86, 87, 88, 89, 90, 91, 92, 93, 94, 95, 96, 97, 98, 99, 100, 101, 102, 103, 104, 105, 106, 107, 108, 109, 110, 111, 112, 113, 114, 115, 116, 117, 118, 119, 120, 121, 122, 123, 124, 125, 126, 127, 128, 129, 130, 131, 132] (by decide +kernel) (by decide +kernel)
set_option maxRecDepth 20000 in
theorem gX9_sheet_X9_freshPage : GoodIn wsX9_sheet (wsV RX9 152 RX9 yX9_freshPage wsX9_freshPage) := goodIn_app (goodIn_of _ (by decide +kernel)) ggX9_sheet_X9_freshPage
set_option maxRecDepth 20000 in
theorem ggX9_sheet_X2_hasSort : GoodIn wsX9_sheet wsX2_hasSort := goodIn_r _ [68, 69, 70, 71, 115, 116, 117, 118] (by decide +kernel) (by decide +kernel)
set_option maxRecDepth 20000 in
theorem gX9_sheet_X2_hasSort : GoodIn wsX9_sheet (wsV RX9 181 RX2 yX2_hasSort wsX2_hasSort) := goodIn_app (goodIn_of _ (by decide +kernel)) ggX9_sheet_X2_hasSort
theorem dX9_sheet_0 : decode cX9_sheet 0 = .ok (.iload_n 1, 1) := by decide +kernel
theorem dX9_sheet_1 : decode cX9_sheet 1 = .ok (.invokestatic 103, 3) := by decide +kernel
theorem dX9_sheet_4 : decode cX9_sheet 4 = .ok (.ifCond .eq 12, 3) := by decide +kernel
theorem dX9_sheet_7 : decode cX9_sheet 7 = .ok (.iload_n 2, 1) := by decide +kernel
theorem dX9_sheet_8 : decode cX9_sheet 8 = .ok (.ifCond .lt 8, 3) := by decide +kernel
theorem dX9_sheet_11 : decode cX9_sheet 11 = .ok (.iload_n 2, 1) := by decide +kernel
theorem dX9_sheet_12 : decode cX9_sheet 12 = .ok (.iconst 4, 1) := by decide +kernel
theorem dX9_sheet_13 : decode cX9_sheet 13 = .ok (.if_icmp .lt 5, 3) := by decide +kernel
theorem dX9_sheet_16 : decode cX9_sheet 16 = .ok (.iconst (-1), 1) := by decide +kernel
theorem dX9_sheet_17 : decode cX9_sheet 17 = .ok (.ireturn, 1) := by decide +kernel
theorem dX9_sheet_18 : decode cX9_sheet 18 = .ok (.iconst 0, 1) := by decide +kernel
theorem dX9_sheet_19 : decode cX9_sheet 19 = .ok (.istore_n 3, 1) := by decide +kernel
theorem dX9_sheet_20 : decode cX9_sheet 20 = .ok (.iconst 0, 1) := by decide +kernel
theorem dX9_sheet_21 : decode cX9_sheet 21 = .ok (.istore 4, 2) := by decide +kernel
theorem dX9_sheet_23 : decode cX9_sheet 23 = .ok (.iload 4, 2) := by decide +kernel
theorem dX9_sheet_25 : decode cX9_sheet 25 = .ok (.bipush 8, 2) := by decide +kernel
theorem dX9_sheet_27 : decode cX9_sheet 27 = .ok (.if_icmp .ge 26, 3) := by decide +kernel
theorem dX9_sheet_30 : decode cX9_sheet 30 = .ok (.aload_n 0, 1) := by decide +kernel
theorem dX9_sheet_31 : decode cX9_sheet 31 = .ok (.iload 4, 2) := by decide +kernel
theorem dX9_sheet_33 : decode cX9_sheet 33 = .ok (.invokevirtual 152, 3) := by decide +kernel
theorem dX9_sheet_36 : decode cX9_sheet 36 = .ok (.iload_n 1, 1) := by decide +kernel
theorem dX9_sheet_37 : decode cX9_sheet 37 = .ok (.iload_n 2, 1) := by decide +kernel
theorem dX9_sheet_38 : decode cX9_sheet 38 = .ok (.invokevirtual 181, 3) := by decide +kernel
theorem dX9_sheet_41 : decode cX9_sheet 41 = .ok (.ifCond .eq 6, 3) := by decide +kernel
theorem dX9_sheet_44 : decode cX9_sheet 44 = .ok (.iinc 3 1, 3) := by decide +kernel
theorem dX9_sheet_47 : decode cX9_sheet 47 = .ok (.iinc 4 1, 3) := by decide +kernel
theorem dX9_sheet_50 : decode cX9_sheet 50 = .ok (.goto (-27), 3) := by decide +kernel
theorem dX9_sheet_53 : decode cX9_sheet 53 = .ok (.iload_n 3, 1) := by decide +kernel
theorem dX9_sheet_54 : decode cX9_sheet 54 = .ok (.ireturn, 1) := by decide +kernel
set_option maxRecDepth 20000 in
theorem ggX9_group_X9_isPupil : GoodIn wsX9_group wsX9_isPupil := goodIn_r _ [5] (by decide +kernel) (by decide +kernel)
set_option maxRecDepth 20000 in
theorem gX9_group_X9_isPupil : GoodIn wsX9_group (va_wsS RX9 83 yX9_isPupil wsX9_isPupil) := goodIn_app (goodIn_of _ (by decide +kernel)) ggX9_group_X9_isPupil
set_option maxRecDepth 20000 in
theorem ggX9_group_X3_hasMark : GoodIn wsX9_group wsX3_hasMark := goodIn_r _ [10, 11, 12, 13, 14, 9, 15, 16, 131, 132, 133, 134, 135, 136] (by decide +kernel) (by decide +kernel)
set_option maxRecDepth 20000 in
theorem gX9_group_X3_hasMark : GoodIn wsX9_group (wsV RX9 185 RX3 yX3_hasMark wsX3_hasMark) := goodIn_app (goodIn_of _ (by decide +kernel)) ggX9_group_X3_hasMark
set_option maxRecDepth 20000 in
theorem ggX9_group_X9_freshPage : GoodIn wsX9_group wsX9_freshPage := goodIn_r _ [20, 21, 22, 1, 23, 24, 25, 26, 27, 28, 9, 29, 11, 30, 12, 13, 14, 15, 16, 31, 32, 33, 34, 35, 36, 37, 38, 39, 40, 41, 42, 43, 44, 45, 46, 47, 48, 49, 50, 51, 52, 53, 54, 55, 56, 57, 58, 4, 59, 60, 61, 62, 63, 64, 65, 66, 67, 68, 69, 70, 71, 72, 73, 74, 75, 76, 77, 78, 79, 80, 81, 82, 83, 84, 85, 86, 87, 88, 89, 90, 91, 92, 93, 94, 95, 96, 97, 98, 99, 100, 101, 102, 103, 104, 105, 106, 107, 120, 121, 122, 123, 124, 125, 126, 127, 128, 129, 130, 137, 138, 139, 140, 141, 142, 143, 144, 145, 146, 131, 132, 133, 134, 135, 136, 147, 148] (by decide +kernel) (by decide +kernel)
set_option maxRecDepth 20000 in
theorem gX9_group_X9_freshPage : GoodIn wsX9_group (wsV RX9 152 RX9 yX9_freshPage wsX9_freshPage) := goodIn_app (goodIn_of _ (by decide +kernel)) ggX9_group_X9_freshPage
set_option maxRecDepth 20000 in
theorem ggX9_group_X9_leastAlike : GoodIn wsX9_group wsX9_leastAlike := goodIn_r _ [111, 1, 21, 6, 7, 8, 9, 10, 11, 12, 13, 14, 15, 16, 112, 113, 114, 71, 115, 73, 75, 74, 120, 121, 122, 123, 124, 125, 126, 127, 128, 129, 130, 131, 132, 133, 134, 135, 136, 137, 138, 139, 140] (by decide +kernel) (by decide +kernel)
set_option maxRecDepth 20000 in
theorem gX9_group_X9_leastAlike : GoodIn wsX9_group (wsV RX9 188 RX9 yX9_leastAlike wsX9_leastAlike) := goodIn_app (goodIn_of _ (by decide +kernel)) ggX9_group_X9_leastAlike
set_option maxRecDepth 20000 in
theorem ggX9_group_X9_groupsBelow : GoodIn wsX9_group wsX9_groupsBelow := goodIn_r _ [119, 1, 6, 7, 8, 9, 10, 11, 12, 13, 14, 15, 16, 108, 109, 110, 4, 111, 21, 112, 113, 114, 71, 115, 73, 75, 74, 120, 121, 122, 123, 124, 125, 126, 127, 128, 129, 130, 131, 132, 133, 134, 135, 136, 137, 138, 139, 140] (by decide +kernel) (by decide +kernel)
set_option maxRecDepth 20000 in
theorem gX9_group_X9_groupsBelow : GoodIn wsX9_group (wsV RX9 192 RX9 yX9_groupsBelow wsX9_groupsBelow) := goodIn_app (goodIn_of _ (by decide +kernel)) ggX9_group_X9_groupsBelow
theorem dX9_group_0 : decode cX9_group 0 = .ok (.iload_n 1, 1) := by decide +kernel
theorem dX9_group_1 : decode cX9_group 1 = .ok (.iconst (-1), 1) := by decide +kernel
theorem dX9_group_2 : decode cX9_group 2 = .ok (.if_icmp .ne 7, 3) := by decide +kernel
theorem dX9_group_5 : decode cX9_group 5 = .ok (.iconst 1, 1) := by decide +kernel
theorem dX9_group_6 : decode cX9_group 6 = .ok (.goto 4, 3) := by decide +kernel
theorem dX9_group_9 : decode cX9_group 9 = .ok (.iconst 0, 1) := by decide +kernel
theorem dX9_group_10 : decode cX9_group 10 = .ok (.istore_n 2, 1) := by decide +kernel
theorem dX9_group_11 : decode cX9_group 11 = .ok (.iload_n 2, 1) := by decide +kernel
theorem dX9_group_12 : decode cX9_group 12 = .ok (.ifCond .ne 23, 3) := by decide +kernel
theorem dX9_group_15 : decode cX9_group 15 = .ok (.iload_n 1, 1) := by decide +kernel
theorem dX9_group_16 : decode cX9_group 16 = .ok (.invokestatic 83, 3) := by decide +kernel
theorem dX9_group_19 : decode cX9_group 19 = .ok (.ifCond .eq 14, 3) := by decide +kernel
theorem dX9_group_22 : decode cX9_group 22 = .ok (.aload_n 0, 1) := by decide +kernel
theorem dX9_group_23 : decode cX9_group 23 = .ok (.getfield 12, 3) := by decide +kernel
theorem dX9_group_26 : decode cX9_group 26 = .ok (.iload_n 1, 1) := by decide +kernel
theorem dX9_group_27 : decode cX9_group 27 = .ok (.invokevirtual 185, 3) := by decide +kernel
theorem dX9_group_30 : decode cX9_group 30 = .ok (.ifCond .ne 5, 3) := by decide +kernel
theorem dX9_group_33 : decode cX9_group 33 = .ok (.iconst (-1), 1) := by decide +kernel
theorem dX9_group_34 : decode cX9_group 34 = .ok (.ireturn, 1) := by decide +kernel
theorem dX9_group_35 : decode cX9_group 35 = .ok (.iconst 0, 1) := by decide +kernel
theorem dX9_group_36 : decode cX9_group 36 = .ok (.istore_n 3, 1) := by decide +kernel
theorem dX9_group_37 : decode cX9_group 37 = .ok (.iload_n 3, 1) := by decide +kernel
theorem dX9_group_38 : decode cX9_group 38 = .ok (.bipush 8, 2) := by decide +kernel
theorem dX9_group_40 : decode cX9_group 40 = .ok (.if_icmp .ge 15, 3) := by decide +kernel
theorem dX9_group_43 : decode cX9_group 43 = .ok (.aload_n 0, 1) := by decide +kernel
theorem dX9_group_44 : decode cX9_group 44 = .ok (.iload_n 3, 1) := by decide +kernel
theorem dX9_group_45 : decode cX9_group 45 = .ok (.invokevirtual 152, 3) := by decide +kernel
theorem dX9_group_48 : decode cX9_group 48 = .ok (.pop, 1) := by decide +kernel
theorem dX9_group_49 : decode cX9_group 49 = .ok (.iinc 3 1, 3) := by decide +kernel
theorem dX9_group_52 : decode cX9_group 52 = .ok (.goto (-15), 3) := by decide +kernel
theorem dX9_group_55 : decode cX9_group 55 = .ok (.aload_n 0, 1) := by decide +kernel
theorem dX9_group_56 : decode cX9_group 56 = .ok (.iload_n 2, 1) := by decide +kernel
theorem dX9_group_57 : decode cX9_group 57 = .ok (.ifCond .eq 8, 3) := by decide +kernel
theorem dX9_group_60 : decode cX9_group 60 = .ok (.bipush 8, 2) := by decide +kernel
theorem dX9_group_62 : decode cX9_group 62 = .ok (.goto 8, 3) := by decide +kernel
theorem dX9_group_65 : decode cX9_group 65 = .ok (.aload_n 0, 1) := by decide +kernel
theorem dX9_group_66 : decode cX9_group 66 = .ok (.iload_n 1, 1) := by decide +kernel
theorem dX9_group_67 : decode cX9_group 67 = .ok (.invokevirtual 188, 3) := by decide +kernel
theorem dX9_group_70 : decode cX9_group 70 = .ok (.invokevirtual 192, 3) := by decide +kernel
theorem dX9_group_73 : decode cX9_group 73 = .ok (.ireturn, 1) := by decide +kernel
theorem dX9_isPupil_0 : decode cX9_isPupil 0 = .ok (.iload_n 0, 1) := by decide +kernel
theorem dX9_isPupil_1 : decode cX9_isPupil 1 = .ok (.ifCond .lt 13, 3) := by decide +kernel
theorem dX9_isPupil_4 : decode cX9_isPupil 4 = .ok (.iload_n 0, 1) := by decide +kernel
theorem dX9_isPupil_5 : decode cX9_isPupil 5 = .ok (.bipush 8, 2) := by decide +kernel
theorem dX9_isPupil_7 : decode cX9_isPupil 7 = .ok (.if_icmp .ge 7, 3) := by decide +kernel
theorem dX9_isPupil_10 : decode cX9_isPupil 10 = .ok (.iconst 1, 1) := by decide +kernel
theorem dX9_isPupil_11 : decode cX9_isPupil 11 = .ok (.goto 4, 3) := by decide +kernel
theorem dX9_isPupil_14 : decode cX9_isPupil 14 = .ok (.iconst 0, 1) := by decide +kernel
theorem dX9_isPupil_15 : decode cX9_isPupil 15 = .ok (.ireturn, 1) := by decide +kernel
theorem dX9_isSkill_0 : decode cX9_isSkill 0 = .ok (.iload_n 0, 1) := by decide +kernel
theorem dX9_isSkill_1 : decode cX9_isSkill 1 = .ok (.ifCond .lt 12, 3) := by decide +kernel
theorem dX9_isSkill_4 : decode cX9_isSkill 4 = .ok (.iload_n 0, 1) := by decide +kernel
theorem dX9_isSkill_5 : decode cX9_isSkill 5 = .ok (.iconst 5, 1) := by decide +kernel
theorem dX9_isSkill_6 : decode cX9_isSkill 6 = .ok (.if_icmp .ge 7, 3) := by decide +kernel
theorem dX9_isSkill_9 : decode cX9_isSkill 9 = .ok (.iconst 1, 1) := by decide +kernel
theorem dX9_isSkill_10 : decode cX9_isSkill 10 = .ok (.goto 4, 3) := by decide +kernel
theorem dX9_isSkill_13 : decode cX9_isSkill 13 = .ok (.iconst 0, 1) := by decide +kernel
theorem dX9_isSkill_14 : decode cX9_isSkill 14 = .ok (.ireturn, 1) := by decide +kernel
theorem dX9_isTongue_0 : decode cX9_isTongue 0 = .ok (.iload_n 0, 1) := by decide +kernel
theorem dX9_isTongue_1 : decode cX9_isTongue 1 = .ok (.ifCond .lt 12, 3) := by decide +kernel
theorem dX9_isTongue_4 : decode cX9_isTongue 4 = .ok (.iload_n 0, 1) := by decide +kernel
theorem dX9_isTongue_5 : decode cX9_isTongue 5 = .ok (.iconst 3, 1) := by decide +kernel
theorem dX9_isTongue_6 : decode cX9_isTongue 6 = .ok (.if_icmp .ge 7, 3) := by decide +kernel
theorem dX9_isTongue_9 : decode cX9_isTongue 9 = .ok (.iconst 1, 1) := by decide +kernel
theorem dX9_isTongue_10 : decode cX9_isTongue 10 = .ok (.goto 4, 3) := by decide +kernel
theorem dX9_isTongue_13 : decode cX9_isTongue 13 = .ok (.iconst 0, 1) := by decide +kernel
theorem dX9_isTongue_14 : decode cX9_isTongue 14 = .ok (.ireturn, 1) := by decide +kernel
theorem dX9_rowOf_0 : decode cX9_rowOf 0 = .ok (.iload_n 0, 1) := by decide +kernel
theorem dX9_rowOf_1 : decode cX9_rowOf 1 = .ok (.iconst 3, 1) := by decide +kernel
theorem dX9_rowOf_2 : decode cX9_rowOf 2 = .ok (.imul, 1) := by decide +kernel
theorem dX9_rowOf_3 : decode cX9_rowOf 3 = .ok (.iload_n 1, 1) := by decide +kernel
theorem dX9_rowOf_4 : decode cX9_rowOf 4 = .ok (.iadd, 1) := by decide +kernel
theorem dX9_rowOf_5 : decode cX9_rowOf 5 = .ok (.ireturn, 1) := by decide +kernel
set_option maxRecDepth 20000 in
theorem ggX9_keepTape_X7_keep : GoodIn wsX9_keepTape wsX7_keep := goodIn_r _ [7, 8, 9, 10, 11, 12, 13, 14, 15, 16, 30, 31, 32, 28, 29] (by decide +kernel) (by decide +kernel)
set_option maxRecDepth 20000 in
theorem gX9_keepTape_X7_keep : GoodIn wsX9_keepTape (wsV RX9 195 RX7 yX7_keep wsX7_keep) := goodIn_app (goodIn_of _ (by decide +kernel)) ggX9_keepTape_X7_keep
theorem dX9_keepTape_0 : decode cX9_keepTape 0 = .ok (.aload_n 1, 1) := by decide +kernel
theorem dX9_keepTape_1 : decode cX9_keepTape 1 = .ok (.iload_n 2, 1) := by decide +kernel
theorem dX9_keepTape_2 : decode cX9_keepTape 2 = .ok (.aload_n 0, 1) := by decide +kernel
theorem dX9_keepTape_3 : decode cX9_keepTape 3 = .ok (.getfield 19, 3) := by decide +kernel
theorem dX9_keepTape_6 : decode cX9_keepTape 6 = .ok (.invokevirtual 195, 3) := by decide +kernel
theorem dX9_keepTape_9 : decode cX9_keepTape 9 = .ok (.istore_n 3, 1) := by decide +kernel
theorem dX9_keepTape_10 : decode cX9_keepTape 10 = .ok (.aload_n 0, 1) := by decide +kernel
theorem dX9_keepTape_11 : decode cX9_keepTape 11 = .ok (.getfield 19, 3) := by decide +kernel
theorem dX9_keepTape_14 : decode cX9_keepTape 14 = .ok (.iconst 0, 1) := by decide +kernel
theorem dX9_keepTape_15 : decode cX9_keepTape 15 = .ok (.putfield 113, 3) := by decide +kernel
theorem dX9_keepTape_18 : decode cX9_keepTape 18 = .ok (.iload_n 3, 1) := by decide +kernel
theorem dX9_keepTape_19 : decode cX9_keepTape 19 = .ok (.ireturn, 1) := by decide +kernel
set_option maxRecDepth 20000 in
theorem ggX9_freshPage_X3_markedOf : GoodIn wsX9_freshPage wsX3_markedOf := goodIn_r _ [11, 12, 13, 14, 15, 16, 10, 17, 18, 118, 119, 120, 121, 122, 123] (by decide +kernel) (by decide +kernel)
set_option maxRecDepth 20000 in
theorem gX9_freshPage_X3_markedOf : GoodIn wsX9_freshPage (wsV RX9 106 RX3 yX3_markedOf wsX3_markedOf) := goodIn_app (goodIn_of _ (by decide +kernel)) ggX9_freshPage_X3_markedOf
set_option maxRecDepth 20000 in
theorem ggX9_freshPage_X3_measure : GoodIn wsX9_freshPage wsX3_measure := goodIn_r _ [22, 23, 24, 25, 26, 27, 28, 29, 30, 31, 32, 33, 10, 34, 12, 35, 14, 15, 16, 17, 18, 36, 37, 38, 39, 40, 41, 42, 43, 118, 119, 120, 121, 122, 123] (by decide +kernel) (by decide +kernel)
set_option maxRecDepth 20000 in
theorem gX9_freshPage_X3_measure : GoodIn wsX9_freshPage (wsV RX9 109 RX3 yX3_measure wsX3_measure) := goodIn_app (goodIn_of _ (by decide +kernel)) ggX9_freshPage_X3_measure
set_option maxRecDepth 20000 in
theorem ggX9_freshPage_X9_addLinesOf : GoodIn wsX9_freshPage wsX9_addLinesOf := goodIn_r _ [48, 5, 49, 4, 50, 51, 52, 53, 54, 55, 56, 57, 58, 59, 60, 61, 62, 63, 64, 65, 66, 67, 68, 69, 70, 71, 72, 73, 74, 75, 76, 77, 78, 79, 80, 81, 82, 83, 84, 85, 86, 87, 88, 89, 90, 91, 92, 93, 94, 95, 96, 97, 98, 99, 100, 101, 102, 103, 104, 105, 106, 107, 112, 113, 114, 115, 116, 117, 108, 109, 110, 111, 124, 125] (by decide +kernel) (by decide +kernel)
set_option maxRecDepth 20000 in
theorem gX9_freshPage_X9_addLinesOf : GoodIn wsX9_freshPage (wsV RX9 199 RX9 yX9_addLinesOf wsX9_addLinesOf) := goodIn_app (goodIn_of _ (by decide +kernel)) ggX9_freshPage_X9_addLinesOf
theorem dX9_freshPage_0 : decode cX9_freshPage 0 = .ok (.aload_n 0, 1) := by decide +kernel
theorem dX9_freshPage_1 : decode cX9_freshPage 1 = .ok (.getfield 51, 3) := by decide +kernel
theorem dX9_freshPage_4 : decode cX9_freshPage 4 = .ok (.iload_n 1, 1) := by decide +kernel
theorem dX9_freshPage_5 : decode cX9_freshPage 5 = .ok (.aaload, 1) := by decide +kernel
theorem dX9_freshPage_6 : decode cX9_freshPage 6 = .ok (.astore_n 2, 1) := by decide +kernel
theorem dX9_freshPage_7 : decode cX9_freshPage 7 = .ok (.aload_n 2, 1) := by decide +kernel
theorem dX9_freshPage_8 : decode cX9_freshPage 8 = .ok (.iconst 0, 1) := by decide +kernel
theorem dX9_freshPage_9 : decode cX9_freshPage 9 = .ok (.putfield 156, 3) := by decide +kernel
theorem dX9_freshPage_12 : decode cX9_freshPage 12 = .ok (.iconst 0, 1) := by decide +kernel
theorem dX9_freshPage_13 : decode cX9_freshPage 13 = .ok (.istore_n 3, 1) := by decide +kernel
theorem dX9_freshPage_14 : decode cX9_freshPage 14 = .ok (.iload_n 3, 1) := by decide +kernel
theorem dX9_freshPage_15 : decode cX9_freshPage 15 = .ok (.iconst 5, 1) := by decide +kernel
theorem dX9_freshPage_16 : decode cX9_freshPage 16 = .ok (.if_icmp .ge 33, 3) := by decide +kernel
theorem dX9_freshPage_19 : decode cX9_freshPage 19 = .ok (.aload_n 0, 1) := by decide +kernel
theorem dX9_freshPage_20 : decode cX9_freshPage 20 = .ok (.getfield 12, 3) := by decide +kernel
theorem dX9_freshPage_23 : decode cX9_freshPage 23 = .ok (.iload_n 1, 1) := by decide +kernel
theorem dX9_freshPage_24 : decode cX9_freshPage 24 = .ok (.iload_n 3, 1) := by decide +kernel
theorem dX9_freshPage_25 : decode cX9_freshPage 25 = .ok (.aload_n 0, 1) := by decide +kernel
theorem dX9_freshPage_26 : decode cX9_freshPage 26 = .ok (.getfield 12, 3) := by decide +kernel
theorem dX9_freshPage_29 : decode cX9_freshPage 29 = .ok (.iload_n 1, 1) := by decide +kernel
theorem dX9_freshPage_30 : decode cX9_freshPage 30 = .ok (.iload_n 3, 1) := by decide +kernel
theorem dX9_freshPage_31 : decode cX9_freshPage 31 = .ok (.invokevirtual 106, 3) := by decide +kernel
theorem dX9_freshPage_34 : decode cX9_freshPage 34 = .ok (.aload_n 0, 1) := by decide +kernel
theorem dX9_freshPage_35 : decode cX9_freshPage 35 = .ok (.getfield 57, 3) := by decide +kernel
theorem dX9_freshPage_38 : decode cX9_freshPage 38 = .ok (.iload_n 3, 1) := by decide +kernel
theorem dX9_freshPage_39 : decode cX9_freshPage 39 = .ok (.aaload, 1) := by decide +kernel
theorem dX9_freshPage_40 : decode cX9_freshPage 40 = .ok (.invokevirtual 109, 3) := by decide +kernel
theorem dX9_freshPage_43 : decode cX9_freshPage 43 = .ok (.iinc 3 1, 3) := by decide +kernel
theorem dX9_freshPage_46 : decode cX9_freshPage 46 = .ok (.goto (-32), 3) := by decide +kernel
theorem dX9_freshPage_49 : decode cX9_freshPage 49 = .ok (.iconst 0, 1) := by decide +kernel
theorem dX9_freshPage_50 : decode cX9_freshPage 50 = .ok (.istore_n 3, 1) := by decide +kernel
theorem dX9_freshPage_51 : decode cX9_freshPage 51 = .ok (.iload_n 3, 1) := by decide +kernel
theorem dX9_freshPage_52 : decode cX9_freshPage 52 = .ok (.aload_n 0, 1) := by decide +kernel
theorem dX9_freshPage_53 : decode cX9_freshPage 53 = .ok (.getfield 74, 3) := by decide +kernel
theorem dX9_freshPage_56 : decode cX9_freshPage 56 = .ok (.getfield 135, 3) := by decide +kernel
theorem dX9_freshPage_59 : decode cX9_freshPage 59 = .ok (.if_icmp .ge 15, 3) := by decide +kernel
theorem dX9_freshPage_62 : decode cX9_freshPage 62 = .ok (.aload_n 0, 1) := by decide +kernel
theorem dX9_freshPage_63 : decode cX9_freshPage 63 = .ok (.iload_n 3, 1) := by decide +kernel
theorem dX9_freshPage_64 : decode cX9_freshPage 64 = .ok (.aload_n 2, 1) := by decide +kernel
theorem dX9_freshPage_65 : decode cX9_freshPage 65 = .ok (.invokevirtual 199, 3) := by decide +kernel
theorem dX9_freshPage_68 : decode cX9_freshPage 68 = .ok (.iinc 3 1, 3) := by decide +kernel
theorem dX9_freshPage_71 : decode cX9_freshPage 71 = .ok (.goto (-20), 3) := by decide +kernel
theorem dX9_freshPage_74 : decode cX9_freshPage 74 = .ok (.aload_n 2, 1) := by decide +kernel
theorem dX9_freshPage_75 : decode cX9_freshPage 75 = .ok (.areturn, 1) := by decide +kernel
set_option maxRecDepth 20000 in
theorem ggX9_addLinesOf_X4_isFor : GoodIn wsX9_addLinesOf wsX4_isFor := goodIn_r _ [9, 10, 62, 63, 64, 65, 66, 67] (by decide +kernel) (by decide +kernel)
set_option maxRecDepth 20000 in
theorem gX9_addLinesOf_X4_isFor : GoodIn wsX9_addLinesOf (wsV RX9 204 RX4 yX4_isFor wsX4_isFor) := goodIn_app (goodIn_of _ (by decide +kernel)) ggX9_addLinesOf_X4_isFor
set_option maxRecDepth 20000 in
theorem ggX9_addLinesOf_X2_hasSort : GoodIn wsX9_addLinesOf wsX2_hasSort := goodIn_r _ [15, 16, 17, 18, 68, 69, 70, 71] (by decide +kernel) (by decide +kernel)
set_option maxRecDepth 20000 in
theorem gX9_addLinesOf_X2_hasSort : GoodIn wsX9_addLinesOf (wsV RX9 181 RX2 yX2_hasSort wsX2_hasSort) := goodIn_app (goodIn_of _ (by decide +kernel)) ggX9_addLinesOf_X2_hasSort
set_option maxRecDepth 20000 in
theorem ggX9_addLinesOf_X0_isSo : GoodIn wsX9_addLinesOf wsX0_isSo := goodIn_r _ [23, 24, 25, 26, 27, 28, 29, 22, 30, 31, 32, 33, 34, 35, 36, 37, 38, 39, 40, 41, 42, 43, 44, 45, 72, 73, 62, 63, 64, 65, 66, 67] (by decide +kernel) (by decide +kernel)
set_option maxRecDepth 20000 in
theorem gX9_addLinesOf_X0_isSo : GoodIn wsX9_addLinesOf (wsV RX9 207 RX0 yX0_isSo wsX0_isSo) := goodIn_app (goodIn_of _ (by decide +kernel)) ggX9_addLinesOf_X0_isSo
set_option maxRecDepth 20000 in
theorem ggX9_addLinesOf_X2_add : GoodIn wsX9_addLinesOf wsX2_add := goodIn_r _ [49, 16, 18, 17, 50, 68, 69, 70, 71] (by decide +kernel) (by decide +kernel)
set_option maxRecDepth 20000 in
theorem gX9_addLinesOf_X2_add : GoodIn wsX9_addLinesOf (wsV RX9 211 RX2 yX2_add wsX2_add) := goodIn_app (goodIn_of _ (by decide +kernel)) ggX9_addLinesOf_X2_add
theorem dX9_addLinesOf_0 : decode cX9_addLinesOf 0 = .ok (.aload_n 0, 1) := by decide +kernel
theorem dX9_addLinesOf_1 : decode cX9_addLinesOf 1 = .ok (.getfield 74, 3) := by decide +kernel
theorem dX9_addLinesOf_4 : decode cX9_addLinesOf 4 = .ok (.getfield 203, 3) := by decide +kernel
theorem dX9_addLinesOf_7 : decode cX9_addLinesOf 7 = .ok (.iload_n 1, 1) := by decide +kernel
theorem dX9_addLinesOf_8 : decode cX9_addLinesOf 8 = .ok (.iaload, 1) := by decide +kernel
theorem dX9_addLinesOf_9 : decode cX9_addLinesOf 9 = .ok (.bipush 10, 2) := by decide +kernel
theorem dX9_addLinesOf_11 : decode cX9_addLinesOf 11 = .ok (.idiv, 1) := by decide +kernel
theorem dX9_addLinesOf_12 : decode cX9_addLinesOf 12 = .ok (.istore_n 3, 1) := by decide +kernel
theorem dX9_addLinesOf_13 : decode cX9_addLinesOf 13 = .ok (.iconst 0, 1) := by decide +kernel
theorem dX9_addLinesOf_14 : decode cX9_addLinesOf 14 = .ok (.istore 4, 2) := by decide +kernel
theorem dX9_addLinesOf_16 : decode cX9_addLinesOf 16 = .ok (.iload 4, 2) := by decide +kernel
theorem dX9_addLinesOf_18 : decode cX9_addLinesOf 18 = .ok (.iconst 5, 1) := by decide +kernel
theorem dX9_addLinesOf_19 : decode cX9_addLinesOf 19 = .ok (.if_icmp .ge 94, 3) := by decide +kernel
theorem dX9_addLinesOf_22 : decode cX9_addLinesOf 22 = .ok (.aload_n 0, 1) := by decide +kernel
theorem dX9_addLinesOf_23 : decode cX9_addLinesOf 23 = .ok (.getfield 74, 3) := by decide +kernel
theorem dX9_addLinesOf_26 : decode cX9_addLinesOf 26 = .ok (.iload_n 1, 1) := by decide +kernel
theorem dX9_addLinesOf_27 : decode cX9_addLinesOf 27 = .ok (.iload 4, 2) := by decide +kernel
theorem dX9_addLinesOf_29 : decode cX9_addLinesOf 29 = .ok (.invokevirtual 204, 3) := by decide +kernel
theorem dX9_addLinesOf_32 : decode cX9_addLinesOf 32 = .ok (.ifCond .eq 29, 3) := by decide +kernel
theorem dX9_addLinesOf_35 : decode cX9_addLinesOf 35 = .ok (.aload_n 0, 1) := by decide +kernel
theorem dX9_addLinesOf_36 : decode cX9_addLinesOf 36 = .ok (.getfield 57, 3) := by decide +kernel
theorem dX9_addLinesOf_39 : decode cX9_addLinesOf 39 = .ok (.iload 4, 2) := by decide +kernel
theorem dX9_addLinesOf_41 : decode cX9_addLinesOf 41 = .ok (.aaload, 1) := by decide +kernel
theorem dX9_addLinesOf_42 : decode cX9_addLinesOf 42 = .ok (.iconst 0, 1) := by decide +kernel
theorem dX9_addLinesOf_43 : decode cX9_addLinesOf 43 = .ok (.iaload, 1) := by decide +kernel
theorem dX9_addLinesOf_44 : decode cX9_addLinesOf 44 = .ok (.ifCond .le 17, 3) := by decide +kernel
theorem dX9_addLinesOf_47 : decode cX9_addLinesOf 47 = .ok (.aload_n 2, 1) := by decide +kernel
theorem dX9_addLinesOf_48 : decode cX9_addLinesOf 48 = .ok (.iload 4, 2) := by decide +kernel
theorem dX9_addLinesOf_50 : decode cX9_addLinesOf 50 = .ok (.iload_n 3, 1) := by decide +kernel
theorem dX9_addLinesOf_51 : decode cX9_addLinesOf 51 = .ok (.invokevirtual 181, 3) := by decide +kernel
theorem dX9_addLinesOf_54 : decode cX9_addLinesOf 54 = .ok (.ifCond .ne 7, 3) := by decide +kernel
theorem dX9_addLinesOf_57 : decode cX9_addLinesOf 57 = .ok (.iconst 1, 1) := by decide +kernel
theorem dX9_addLinesOf_58 : decode cX9_addLinesOf 58 = .ok (.goto 4, 3) := by decide +kernel
theorem dX9_addLinesOf_61 : decode cX9_addLinesOf 61 = .ok (.iconst 0, 1) := by decide +kernel
theorem dX9_addLinesOf_62 : decode cX9_addLinesOf 62 = .ok (.istore 5, 2) := by decide +kernel
theorem dX9_addLinesOf_64 : decode cX9_addLinesOf 64 = .ok (.iload 5, 2) := by decide +kernel
theorem dX9_addLinesOf_66 : decode cX9_addLinesOf 66 = .ok (.ifCond .eq 41, 3) := by decide +kernel
theorem dX9_addLinesOf_69 : decode cX9_addLinesOf 69 = .ok (.aload_n 0, 1) := by decide +kernel
theorem dX9_addLinesOf_70 : decode cX9_addLinesOf 70 = .ok (.getfield 33, 3) := by decide +kernel
theorem dX9_addLinesOf_73 : decode cX9_addLinesOf 73 = .ok (.aload_n 0, 1) := by decide +kernel
theorem dX9_addLinesOf_74 : decode cX9_addLinesOf 74 = .ok (.getfield 74, 3) := by decide +kernel
theorem dX9_addLinesOf_77 : decode cX9_addLinesOf 77 = .ok (.iload_n 1, 1) := by decide +kernel
theorem dX9_addLinesOf_78 : decode cX9_addLinesOf 78 = .ok (.aload_n 0, 1) := by decide +kernel
theorem dX9_addLinesOf_79 : decode cX9_addLinesOf 79 = .ok (.getfield 57, 3) := by decide +kernel
theorem dX9_addLinesOf_82 : decode cX9_addLinesOf 82 = .ok (.iload 4, 2) := by decide +kernel
theorem dX9_addLinesOf_84 : decode cX9_addLinesOf 84 = .ok (.aaload, 1) := by decide +kernel
theorem dX9_addLinesOf_85 : decode cX9_addLinesOf 85 = .ok (.invokevirtual 207, 3) := by decide +kernel
theorem dX9_addLinesOf_88 : decode cX9_addLinesOf 88 = .ok (.ifCond .eq 19, 3) := by decide +kernel
theorem dX9_addLinesOf_91 : decode cX9_addLinesOf 91 = .ok (.aload_n 2, 1) := by decide +kernel
theorem dX9_addLinesOf_92 : decode cX9_addLinesOf 92 = .ok (.aload_n 0, 1) := by decide +kernel
theorem dX9_addLinesOf_93 : decode cX9_addLinesOf 93 = .ok (.getfield 74, 3) := by decide +kernel
theorem dX9_addLinesOf_96 : decode cX9_addLinesOf 96 = .ok (.getfield 203, 3) := by decide +kernel
theorem dX9_addLinesOf_99 : decode cX9_addLinesOf 99 = .ok (.iload_n 1, 1) := by decide +kernel
theorem dX9_addLinesOf_100 : decode cX9_addLinesOf 100 = .ok (.iaload, 1) := by decide +kernel
theorem dX9_addLinesOf_101 : decode cX9_addLinesOf 101 = .ok (.iload 4, 2) := by decide +kernel
theorem dX9_addLinesOf_103 : decode cX9_addLinesOf 103 = .ok (.iload_n 1, 1) := by decide +kernel
theorem dX9_addLinesOf_104 : decode cX9_addLinesOf 104 = .ok (.invokevirtual 211, 3) := by decide +kernel
theorem dX9_addLinesOf_107 : decode cX9_addLinesOf 107 = .ok (.iinc 4 1, 3) := by decide +kernel
theorem dX9_addLinesOf_110 : decode cX9_addLinesOf 110 = .ok (.goto (-94), 3) := by decide +kernel
theorem dX9_addLinesOf_113 : decode cX9_addLinesOf 113 = .ok (.return_, 1) := by decide +kernel
set_option maxRecDepth 20000 in
theorem ggX9_bearersOf_X3_markedOf : GoodIn wsX9_bearersOf wsX3_markedOf := goodIn_r _ [6, 7, 8, 9, 10, 11, 5, 12, 13, 86, 87, 88, 89, 90, 91] (by decide +kernel) (by decide +kernel)
set_option maxRecDepth 20000 in
theorem gX9_bearersOf_X3_markedOf : GoodIn wsX9_bearersOf (wsV RX9 106 RX3 yX3_markedOf wsX3_markedOf) := goodIn_app (goodIn_of _ (by decide +kernel)) ggX9_bearersOf_X3_markedOf
set_option maxRecDepth 20000 in
theorem ggX9_bearersOf_J6_bitCount_0f7a4 : GoodIn wsX9_bearersOf wsJ6_bitCount_0f7a4 := goodIn_r _ [17, 18, 19, 20] (by decide +kernel) (by decide +kernel)
set_option maxRecDepth 20000 in
theorem gX9_bearersOf_J6_bitCount_0f7a4 : GoodIn wsX9_bearersOf (va_wsS RX9 214 yJ6_bitCount_0f7a4 wsJ6_bitCount_0f7a4) := goodIn_app (goodIn_of _ (by decide +kernel)) ggX9_bearersOf_J6_bitCount_0f7a4
set_option maxRecDepth 20000 in
theorem ggX9_bearersOf_X9_bears : GoodIn wsX9_bearersOf wsX9_bears := goodIn_r _ [25, 1, 26, 27, 28, 29, 30, 31, 5, 32, 33, 34, 15, 16, 17, 18, 19, 20, 35, 36, 37, 38, 7, 39, 9, 10, 11, 12, 13, 40, 41, 42, 43, 44, 45, 46, 47, 48, 49, 50, 51, 52, 53, 54, 55, 56, 57, 58, 59, 60, 61, 62, 63, 64, 65, 66, 67, 68, 69, 70, 71, 72, 73, 74, 75, 76, 77, 78, 79, 80, 81, 82, 83, 84, 85, 86, 87, 88, 89, 90, 91, 92, 93, 94, 95, 96, 97, 98, 99] (by decide +kernel) (by decide +kernel)
set_option maxRecDepth 20000 in
theorem gX9_bearersOf_X9_bears : GoodIn wsX9_bearersOf (wsV RX9 219 RX9 yX9_bears wsX9_bears) := goodIn_app (goodIn_of _ (by decide +kernel)) ggX9_bearersOf_X9_bears
theorem dX9_bearersOf_0 : decode cX9_bearersOf 0 = .ok (.aload_n 0, 1) := by decide +kernel
theorem dX9_bearersOf_1 : decode cX9_bearersOf 1 = .ok (.getfield 12, 3) := by decide +kernel
theorem dX9_bearersOf_4 : decode cX9_bearersOf 4 = .ok (.iload_n 1, 1) := by decide +kernel
theorem dX9_bearersOf_5 : decode cX9_bearersOf 5 = .ok (.iload_n 2, 1) := by decide +kernel
theorem dX9_bearersOf_6 : decode cX9_bearersOf 6 = .ok (.invokevirtual 106, 3) := by decide +kernel
theorem dX9_bearersOf_9 : decode cX9_bearersOf 9 = .ok (.istore 4, 2) := by decide +kernel
theorem dX9_bearersOf_11 : decode cX9_bearersOf 11 = .ok (.iload 4, 2) := by decide +kernel
theorem dX9_bearersOf_13 : decode cX9_bearersOf 13 = .ok (.invokestatic 214, 3) := by decide +kernel
theorem dX9_bearersOf_16 : decode cX9_bearersOf 16 = .ok (.istore 5, 2) := by decide +kernel
theorem dX9_bearersOf_18 : decode cX9_bearersOf 18 = .ok (.iconst 1, 1) := by decide +kernel
theorem dX9_bearersOf_19 : decode cX9_bearersOf 19 = .ok (.istore 6, 2) := by decide +kernel
theorem dX9_bearersOf_21 : decode cX9_bearersOf 21 = .ok (.iload 6, 2) := by decide +kernel
theorem dX9_bearersOf_23 : decode cX9_bearersOf 23 = .ok (.iload 5, 2) := by decide +kernel
theorem dX9_bearersOf_25 : decode cX9_bearersOf 25 = .ok (.if_icmp .gt 72, 3) := by decide +kernel
theorem dX9_bearersOf_28 : decode cX9_bearersOf 28 = .ok (.iconst 1, 1) := by decide +kernel
theorem dX9_bearersOf_29 : decode cX9_bearersOf 29 = .ok (.istore 7, 2) := by decide +kernel
theorem dX9_bearersOf_31 : decode cX9_bearersOf 31 = .ok (.iload 7, 2) := by decide +kernel
theorem dX9_bearersOf_33 : decode cX9_bearersOf 33 = .ok (.iload 4, 2) := by decide +kernel
theorem dX9_bearersOf_35 : decode cX9_bearersOf 35 = .ok (.if_icmp .gt 56, 3) := by decide +kernel
theorem dX9_bearersOf_38 : decode cX9_bearersOf 38 = .ok (.iload 7, 2) := by decide +kernel
theorem dX9_bearersOf_40 : decode cX9_bearersOf 40 = .ok (.iload 4, 2) := by decide +kernel
theorem dX9_bearersOf_42 : decode cX9_bearersOf 42 = .ok (.iconst (-1), 1) := by decide +kernel
theorem dX9_bearersOf_43 : decode cX9_bearersOf 43 = .ok (.ixor, 1) := by decide +kernel
theorem dX9_bearersOf_44 : decode cX9_bearersOf 44 = .ok (.iand, 1) := by decide +kernel
theorem dX9_bearersOf_45 : decode cX9_bearersOf 45 = .ok (.ifCond .ne 17, 3) := by decide +kernel
theorem dX9_bearersOf_48 : decode cX9_bearersOf 48 = .ok (.iload 7, 2) := by decide +kernel
theorem dX9_bearersOf_50 : decode cX9_bearersOf 50 = .ok (.invokestatic 214, 3) := by decide +kernel
theorem dX9_bearersOf_53 : decode cX9_bearersOf 53 = .ok (.iload 6, 2) := by decide +kernel
theorem dX9_bearersOf_55 : decode cX9_bearersOf 55 = .ok (.if_icmp .ne 7, 3) := by decide +kernel
theorem dX9_bearersOf_58 : decode cX9_bearersOf 58 = .ok (.iconst 1, 1) := by decide +kernel
theorem dX9_bearersOf_59 : decode cX9_bearersOf 59 = .ok (.goto 4, 3) := by decide +kernel
theorem dX9_bearersOf_62 : decode cX9_bearersOf 62 = .ok (.iconst 0, 1) := by decide +kernel
theorem dX9_bearersOf_63 : decode cX9_bearersOf 63 = .ok (.istore 8, 2) := by decide +kernel
theorem dX9_bearersOf_65 : decode cX9_bearersOf 65 = .ok (.iload 8, 2) := by decide +kernel
theorem dX9_bearersOf_67 : decode cX9_bearersOf 67 = .ok (.ifCond .eq 18, 3) := by decide +kernel
theorem dX9_bearersOf_70 : decode cX9_bearersOf 70 = .ok (.aload_n 0, 1) := by decide +kernel
theorem dX9_bearersOf_71 : decode cX9_bearersOf 71 = .ok (.iload_n 1, 1) := by decide +kernel
theorem dX9_bearersOf_72 : decode cX9_bearersOf 72 = .ok (.iload_n 2, 1) := by decide +kernel
theorem dX9_bearersOf_73 : decode cX9_bearersOf 73 = .ok (.iload_n 3, 1) := by decide +kernel
theorem dX9_bearersOf_74 : decode cX9_bearersOf 74 = .ok (.iload 7, 2) := by decide +kernel
theorem dX9_bearersOf_76 : decode cX9_bearersOf 76 = .ok (.invokevirtual 219, 3) := by decide +kernel
theorem dX9_bearersOf_79 : decode cX9_bearersOf 79 = .ok (.ifCond .eq 6, 3) := by decide +kernel
theorem dX9_bearersOf_82 : decode cX9_bearersOf 82 = .ok (.iload 7, 2) := by decide +kernel
theorem dX9_bearersOf_84 : decode cX9_bearersOf 84 = .ok (.ireturn, 1) := by decide +kernel
theorem dX9_bearersOf_85 : decode cX9_bearersOf 85 = .ok (.iinc 7 1, 3) := by decide +kernel
theorem dX9_bearersOf_88 : decode cX9_bearersOf 88 = .ok (.goto (-57), 3) := by decide +kernel
theorem dX9_bearersOf_91 : decode cX9_bearersOf 91 = .ok (.iinc 6 1, 3) := by decide +kernel
theorem dX9_bearersOf_94 : decode cX9_bearersOf 94 = .ok (.goto (-73), 3) := by decide +kernel
theorem dX9_bearersOf_97 : decode cX9_bearersOf 97 = .ok (.iload 4, 2) := by decide +kernel
theorem dX9_bearersOf_99 : decode cX9_bearersOf 99 = .ok (.ireturn, 1) := by decide +kernel
set_option maxRecDepth 20000 in
theorem ggX9_bears_X3_measure : GoodIn wsX9_bears wsX3_measure := goodIn_r _ [9, 10, 11, 12, 13, 14, 15, 16, 17, 18, 19, 20, 8, 21, 22, 23, 24, 25, 26, 27, 28, 29, 30, 31, 32, 33, 34, 35, 36, 75, 76, 77, 78, 79, 80] (by decide +kernel) (by decide +kernel)
set_option maxRecDepth 20000 in
theorem gX9_bears_X3_measure : GoodIn wsX9_bears (wsV RX9 109 RX3 yX3_measure wsX3_measure) := goodIn_app (goodIn_of _ (by decide +kernel)) ggX9_bears_X3_measure
set_option maxRecDepth 20000 in
theorem ggX9_bears_X0_isSo : GoodIn wsX9_bears wsX0_isSo := goodIn_r _ [41, 42, 43, 44, 45, 46, 47, 40, 48, 49, 50, 51, 52, 53, 54, 55, 56, 57, 58, 59, 60, 61, 62, 63, 81, 82, 83, 84, 85, 86, 87, 88] (by decide +kernel) (by decide +kernel)
set_option maxRecDepth 20000 in
theorem gX9_bears_X0_isSo : GoodIn wsX9_bears (wsV RX9 207 RX0 yX0_isSo wsX0_isSo) := goodIn_app (goodIn_of _ (by decide +kernel)) ggX9_bears_X0_isSo
theorem dX9_bears_0 : decode cX9_bears 0 = .ok (.aload_n 0, 1) := by decide +kernel
theorem dX9_bears_1 : decode cX9_bears 1 = .ok (.getfield 12, 3) := by decide +kernel
theorem dX9_bears_4 : decode cX9_bears 4 = .ok (.iload_n 1, 1) := by decide +kernel
theorem dX9_bears_5 : decode cX9_bears 5 = .ok (.iload_n 2, 1) := by decide +kernel
theorem dX9_bears_6 : decode cX9_bears 6 = .ok (.iload 4, 2) := by decide +kernel
theorem dX9_bears_8 : decode cX9_bears 8 = .ok (.aload_n 0, 1) := by decide +kernel
theorem dX9_bears_9 : decode cX9_bears 9 = .ok (.getfield 60, 3) := by decide +kernel
theorem dX9_bears_12 : decode cX9_bears 12 = .ok (.invokevirtual 109, 3) := by decide +kernel
theorem dX9_bears_15 : decode cX9_bears 15 = .ok (.aload_n 0, 1) := by decide +kernel
theorem dX9_bears_16 : decode cX9_bears 16 = .ok (.getfield 33, 3) := by decide +kernel
theorem dX9_bears_19 : decode cX9_bears 19 = .ok (.aload_n 0, 1) := by decide +kernel
theorem dX9_bears_20 : decode cX9_bears 20 = .ok (.getfield 74, 3) := by decide +kernel
theorem dX9_bears_23 : decode cX9_bears 23 = .ok (.iload_n 3, 1) := by decide +kernel
theorem dX9_bears_24 : decode cX9_bears 24 = .ok (.aload_n 0, 1) := by decide +kernel
theorem dX9_bears_25 : decode cX9_bears 25 = .ok (.getfield 60, 3) := by decide +kernel
theorem dX9_bears_28 : decode cX9_bears 28 = .ok (.invokevirtual 207, 3) := by decide +kernel
theorem dX9_bears_31 : decode cX9_bears 31 = .ok (.ireturn, 1) := by decide +kernel
set_option maxRecDepth 20000 in
theorem ggX9_writeLine_X9_rowOf : GoodIn wsX9_writeLine wsX9_rowOf := goodIn_r _ [8] (by decide +kernel) (by decide +kernel)
set_option maxRecDepth 20000 in
theorem gX9_writeLine_X9_rowOf : GoodIn wsX9_writeLine (va_wsS RX9 145 yX9_rowOf wsX9_rowOf) := goodIn_app (goodIn_of _ (by decide +kernel)) ggX9_writeLine_X9_rowOf
set_option maxRecDepth 20000 in
theorem ggX9_writeLine_X7_byteAt : GoodIn wsX9_writeLine wsX7_byteAt := goodIn_r _ [13, 14, 15, 44, 45, 46] (by decide +kernel) (by decide +kernel)
set_option maxRecDepth 20000 in
theorem gX9_writeLine_X7_byteAt : GoodIn wsX9_writeLine (wsV RX9 226 RX7 yX7_byteAt wsX7_byteAt) := goodIn_app (goodIn_of _ (by decide +kernel)) ggX9_writeLine_X7_byteAt
set_option maxRecDepth 20000 in
theorem ggX9_writeLine_X9_writeName : GoodIn wsX9_writeLine wsX9_writeName := goodIn_r _ [19, 20, 2, 3, 9, 10, 11, 12, 13, 14, 15, 21, 22, 23, 24, 25, 26, 27, 33, 34, 35, 36, 37, 38, 39, 40, 41, 42, 43, 44, 45, 46, 47, 48] (by decide +kernel) (by decide +kernel)
set_option maxRecDepth 20000 in
theorem gX9_writeLine_X9_writeName : GoodIn wsX9_writeLine (wsV RX9 229 RX9 yX9_writeName wsX9_writeName) := goodIn_app (goodIn_of _ (by decide +kernel)) ggX9_writeLine_X9_writeName
set_option maxRecDepth 20000 in
theorem ggX9_writeLine_X1_putNumber : GoodIn wsX9_writeLine wsX1_putNumber := goodIn_r _ [31, 32, 22, 23, 24, 25, 26, 27, 47, 48] (by decide +kernel) (by decide +kernel)
set_option maxRecDepth 20000 in
theorem gX9_writeLine_X1_putNumber : GoodIn wsX9_writeLine (wsV RX9 232 RX1 yX1_putNumber wsX1_putNumber) := goodIn_app (goodIn_of _ (by decide +kernel)) ggX9_writeLine_X1_putNumber
set_option maxRecDepth 20000 in
theorem ggX9_writeLine_X1_put : GoodIn wsX9_writeLine wsX1_put := goodIn_r _ [25, 26, 27, 47, 48] (by decide +kernel) (by decide +kernel)
set_option maxRecDepth 20000 in
theorem gX9_writeLine_X1_put : GoodIn wsX9_writeLine (wsV RX9 235 RX1 yX1_put wsX1_put) := goodIn_app (goodIn_of _ (by decide +kernel)) ggX9_writeLine_X1_put
theorem dX9_writeLine_0 : decode cX9_writeLine 0 = .ok (.iload_n 1, 1) := by decide +kernel
theorem dX9_writeLine_1 : decode cX9_writeLine 1 = .ok (.iload_n 3, 1) := by decide +kernel
theorem dX9_writeLine_2 : decode cX9_writeLine 2 = .ok (.invokestatic 145, 3) := by decide +kernel
theorem dX9_writeLine_5 : decode cX9_writeLine 5 = .ok (.istore 4, 2) := by decide +kernel
theorem dX9_writeLine_7 : decode cX9_writeLine 7 = .ok (.aload_n 0, 1) := by decide +kernel
theorem dX9_writeLine_8 : decode cX9_writeLine 8 = .ok (.getfield 42, 3) := by decide +kernel
theorem dX9_writeLine_11 : decode cX9_writeLine 11 = .ok (.getfield 223, 3) := by decide +kernel
theorem dX9_writeLine_14 : decode cX9_writeLine 14 = .ok (.iload 4, 2) := by decide +kernel
theorem dX9_writeLine_16 : decode cX9_writeLine 16 = .ok (.iaload, 1) := by decide +kernel
theorem dX9_writeLine_17 : decode cX9_writeLine 17 = .ok (.ifCond .ne 4, 3) := by decide +kernel
theorem dX9_writeLine_20 : decode cX9_writeLine 20 = .ok (.return_, 1) := by decide +kernel
theorem dX9_writeLine_21 : decode cX9_writeLine 21 = .ok (.iconst 0, 1) := by decide +kernel
theorem dX9_writeLine_22 : decode cX9_writeLine 22 = .ok (.istore 5, 2) := by decide +kernel
theorem dX9_writeLine_24 : decode cX9_writeLine 24 = .ok (.iload 5, 2) := by decide +kernel
theorem dX9_writeLine_26 : decode cX9_writeLine 26 = .ok (.aload_n 0, 1) := by decide +kernel
theorem dX9_writeLine_27 : decode cX9_writeLine 27 = .ok (.getfield 42, 3) := by decide +kernel
theorem dX9_writeLine_30 : decode cX9_writeLine 30 = .ok (.getfield 223, 3) := by decide +kernel
theorem dX9_writeLine_33 : decode cX9_writeLine 33 = .ok (.iload 4, 2) := by decide +kernel
theorem dX9_writeLine_35 : decode cX9_writeLine 35 = .ok (.iaload, 1) := by decide +kernel
theorem dX9_writeLine_36 : decode cX9_writeLine 36 = .ok (.if_icmp .ge 75, 3) := by decide +kernel
theorem dX9_writeLine_39 : decode cX9_writeLine 39 = .ok (.aload_n 0, 1) := by decide +kernel
theorem dX9_writeLine_40 : decode cX9_writeLine 40 = .ok (.getfield 42, 3) := by decide +kernel
theorem dX9_writeLine_43 : decode cX9_writeLine 43 = .ok (.iload 4, 2) := by decide +kernel
theorem dX9_writeLine_45 : decode cX9_writeLine 45 = .ok (.iload 5, 2) := by decide +kernel
theorem dX9_writeLine_47 : decode cX9_writeLine 47 = .ok (.invokevirtual 226, 3) := by decide +kernel
theorem dX9_writeLine_50 : decode cX9_writeLine 50 = .ok (.istore 6, 2) := by decide +kernel
theorem dX9_writeLine_52 : decode cX9_writeLine 52 = .ok (.iload 6, 2) := by decide +kernel
theorem dX9_writeLine_54 : decode cX9_writeLine 54 = .ok (.bipush 37, 2) := by decide +kernel
theorem dX9_writeLine_56 : decode cX9_writeLine 56 = .ok (.if_icmp .ne 15, 3) := by decide +kernel
theorem dX9_writeLine_59 : decode cX9_writeLine 59 = .ok (.aload_n 0, 1) := by decide +kernel
theorem dX9_writeLine_60 : decode cX9_writeLine 60 = .ok (.iload_n 2, 1) := by decide +kernel
theorem dX9_writeLine_61 : decode cX9_writeLine 61 = .ok (.iload_n 3, 1) := by decide +kernel
theorem dX9_writeLine_62 : decode cX9_writeLine 62 = .ok (.invokestatic 145, 3) := by decide +kernel
theorem dX9_writeLine_65 : decode cX9_writeLine 65 = .ok (.invokevirtual 229, 3) := by decide +kernel
theorem dX9_writeLine_68 : decode cX9_writeLine 68 = .ok (.goto 37, 3) := by decide +kernel
theorem dX9_writeLine_71 : decode cX9_writeLine 71 = .ok (.iload 6, 2) := by decide +kernel
theorem dX9_writeLine_73 : decode cX9_writeLine 73 = .ok (.bipush 35, 2) := by decide +kernel
theorem dX9_writeLine_75 : decode cX9_writeLine 75 = .ok (.if_icmp .ne 21, 3) := by decide +kernel
theorem dX9_writeLine_78 : decode cX9_writeLine 78 = .ok (.aload_n 0, 1) := by decide +kernel
theorem dX9_writeLine_79 : decode cX9_writeLine 79 = .ok (.getfield 67, 3) := by decide +kernel
theorem dX9_writeLine_82 : decode cX9_writeLine 82 = .ok (.aload_n 0, 1) := by decide +kernel
theorem dX9_writeLine_83 : decode cX9_writeLine 83 = .ok (.getfield 57, 3) := by decide +kernel
theorem dX9_writeLine_86 : decode cX9_writeLine 86 = .ok (.iload_n 2, 1) := by decide +kernel
theorem dX9_writeLine_87 : decode cX9_writeLine 87 = .ok (.aaload, 1) := by decide +kernel
theorem dX9_writeLine_88 : decode cX9_writeLine 88 = .ok (.iconst 1, 1) := by decide +kernel
theorem dX9_writeLine_89 : decode cX9_writeLine 89 = .ok (.iaload, 1) := by decide +kernel
theorem dX9_writeLine_90 : decode cX9_writeLine 90 = .ok (.invokevirtual 232, 3) := by decide +kernel
theorem dX9_writeLine_93 : decode cX9_writeLine 93 = .ok (.goto 12, 3) := by decide +kernel
theorem dX9_writeLine_96 : decode cX9_writeLine 96 = .ok (.aload_n 0, 1) := by decide +kernel
theorem dX9_writeLine_97 : decode cX9_writeLine 97 = .ok (.getfield 67, 3) := by decide +kernel
theorem dX9_writeLine_100 : decode cX9_writeLine 100 = .ok (.iload 6, 2) := by decide +kernel
theorem dX9_writeLine_102 : decode cX9_writeLine 102 = .ok (.invokevirtual 235, 3) := by decide +kernel
theorem dX9_writeLine_105 : decode cX9_writeLine 105 = .ok (.iinc 5 1, 3) := by decide +kernel
theorem dX9_writeLine_108 : decode cX9_writeLine 108 = .ok (.goto (-84), 3) := by decide +kernel
theorem dX9_writeLine_111 : decode cX9_writeLine 111 = .ok (.aload_n 0, 1) := by decide +kernel
theorem dX9_writeLine_112 : decode cX9_writeLine 112 = .ok (.getfield 67, 3) := by decide +kernel
theorem dX9_writeLine_115 : decode cX9_writeLine 115 = .ok (.bipush 10, 2) := by decide +kernel
theorem dX9_writeLine_117 : decode cX9_writeLine 117 = .ok (.invokevirtual 235, 3) := by decide +kernel
theorem dX9_writeLine_120 : decode cX9_writeLine 120 = .ok (.return_, 1) := by decide +kernel
set_option maxRecDepth 20000 in
theorem ggX9_writeName_X7_byteAt : GoodIn wsX9_writeName wsX7_byteAt := goodIn_r _ [8, 9, 10, 29, 30, 31] (by decide +kernel) (by decide +kernel)
set_option maxRecDepth 20000 in
theorem gX9_writeName_X7_byteAt : GoodIn wsX9_writeName (wsV RX9 226 RX7 yX7_byteAt wsX7_byteAt) := goodIn_app (goodIn_of _ (by decide +kernel)) ggX9_writeName_X7_byteAt
set_option maxRecDepth 20000 in
theorem ggX9_writeName_X1_put : GoodIn wsX9_writeName wsX1_put := goodIn_r _ [15, 16, 17, 32, 33] (by decide +kernel) (by decide +kernel)
set_option maxRecDepth 20000 in
theorem gX9_writeName_X1_put : GoodIn wsX9_writeName (wsV RX9 235 RX1 yX1_put wsX1_put) := goodIn_app (goodIn_of _ (by decide +kernel)) ggX9_writeName_X1_put
theorem dX9_writeName_0 : decode cX9_writeName 0 = .ok (.iconst 0, 1) := by decide +kernel
theorem dX9_writeName_1 : decode cX9_writeName 1 = .ok (.istore_n 2, 1) := by decide +kernel
theorem dX9_writeName_2 : decode cX9_writeName 2 = .ok (.iload_n 2, 1) := by decide +kernel
theorem dX9_writeName_3 : decode cX9_writeName 3 = .ok (.aload_n 0, 1) := by decide +kernel
theorem dX9_writeName_4 : decode cX9_writeName 4 = .ok (.getfield 46, 3) := by decide +kernel
theorem dX9_writeName_7 : decode cX9_writeName 7 = .ok (.getfield 223, 3) := by decide +kernel
theorem dX9_writeName_10 : decode cX9_writeName 10 = .ok (.iload_n 1, 1) := by decide +kernel
theorem dX9_writeName_11 : decode cX9_writeName 11 = .ok (.iaload, 1) := by decide +kernel
theorem dX9_writeName_12 : decode cX9_writeName 12 = .ok (.if_icmp .ge 25, 3) := by decide +kernel
theorem dX9_writeName_15 : decode cX9_writeName 15 = .ok (.aload_n 0, 1) := by decide +kernel
theorem dX9_writeName_16 : decode cX9_writeName 16 = .ok (.getfield 67, 3) := by decide +kernel
theorem dX9_writeName_19 : decode cX9_writeName 19 = .ok (.aload_n 0, 1) := by decide +kernel
theorem dX9_writeName_20 : decode cX9_writeName 20 = .ok (.getfield 46, 3) := by decide +kernel
theorem dX9_writeName_23 : decode cX9_writeName 23 = .ok (.iload_n 1, 1) := by decide +kernel
theorem dX9_writeName_24 : decode cX9_writeName 24 = .ok (.iload_n 2, 1) := by decide +kernel
theorem dX9_writeName_25 : decode cX9_writeName 25 = .ok (.invokevirtual 226, 3) := by decide +kernel
theorem dX9_writeName_28 : decode cX9_writeName 28 = .ok (.invokevirtual 235, 3) := by decide +kernel
theorem dX9_writeName_31 : decode cX9_writeName 31 = .ok (.iinc 2 1, 3) := by decide +kernel
theorem dX9_writeName_34 : decode cX9_writeName 34 = .ok (.goto (-32), 3) := by decide +kernel
theorem dX9_writeName_37 : decode cX9_writeName 37 = .ok (.return_, 1) := by decide +kernel
set_option maxRecDepth 20000 in
theorem ggX9_leastAlike_X3_hasMark : GoodIn wsX9_leastAlike wsX3_hasMark := goodIn_r _ [7, 8, 9, 10, 11, 6, 12, 13, 33, 34, 35, 36, 37, 38] (by decide +kernel) (by decide +kernel)
set_option maxRecDepth 20000 in
theorem gX9_leastAlike_X3_hasMark : GoodIn wsX9_leastAlike (wsV RX9 185 RX3 yX3_hasMark wsX3_hasMark) := goodIn_app (goodIn_of _ (by decide +kernel)) ggX9_leastAlike_X3_hasMark
set_option maxRecDepth 20000 in
theorem ggX9_leastAlike_X2_sameLines : GoodIn wsX9_leastAlike wsX2_sameLines := goodIn_r _ [18, 19, 20, 21, 39, 40, 41, 42] (by decide +kernel) (by decide +kernel)
set_option maxRecDepth 20000 in
theorem gX9_leastAlike_X2_sameLines : GoodIn wsX9_leastAlike (wsV RX9 177 RX2 yX2_sameLines wsX2_sameLines) := goodIn_app (goodIn_of _ (by decide +kernel)) ggX9_leastAlike_X2_sameLines
theorem dX9_leastAlike_0 : decode cX9_leastAlike 0 = .ok (.iconst 0, 1) := by decide +kernel
theorem dX9_leastAlike_1 : decode cX9_leastAlike 1 = .ok (.istore_n 2, 1) := by decide +kernel
theorem dX9_leastAlike_2 : decode cX9_leastAlike 2 = .ok (.iload_n 2, 1) := by decide +kernel
theorem dX9_leastAlike_3 : decode cX9_leastAlike 3 = .ok (.iload_n 1, 1) := by decide +kernel
theorem dX9_leastAlike_4 : decode cX9_leastAlike 4 = .ok (.if_icmp .ge 40, 3) := by decide +kernel
theorem dX9_leastAlike_7 : decode cX9_leastAlike 7 = .ok (.aload_n 0, 1) := by decide +kernel
theorem dX9_leastAlike_8 : decode cX9_leastAlike 8 = .ok (.getfield 12, 3) := by decide +kernel
theorem dX9_leastAlike_11 : decode cX9_leastAlike 11 = .ok (.iload_n 2, 1) := by decide +kernel
theorem dX9_leastAlike_12 : decode cX9_leastAlike 12 = .ok (.invokevirtual 185, 3) := by decide +kernel
theorem dX9_leastAlike_15 : decode cX9_leastAlike 15 = .ok (.ifCond .eq 23, 3) := by decide +kernel
theorem dX9_leastAlike_18 : decode cX9_leastAlike 18 = .ok (.aload_n 0, 1) := by decide +kernel
theorem dX9_leastAlike_19 : decode cX9_leastAlike 19 = .ok (.getfield 51, 3) := by decide +kernel
theorem dX9_leastAlike_22 : decode cX9_leastAlike 22 = .ok (.iload_n 2, 1) := by decide +kernel
theorem dX9_leastAlike_23 : decode cX9_leastAlike 23 = .ok (.aaload, 1) := by decide +kernel
theorem dX9_leastAlike_24 : decode cX9_leastAlike 24 = .ok (.aload_n 0, 1) := by decide +kernel
theorem dX9_leastAlike_25 : decode cX9_leastAlike 25 = .ok (.getfield 51, 3) := by decide +kernel
theorem dX9_leastAlike_28 : decode cX9_leastAlike 28 = .ok (.iload_n 1, 1) := by decide +kernel
theorem dX9_leastAlike_29 : decode cX9_leastAlike 29 = .ok (.aaload, 1) := by decide +kernel
theorem dX9_leastAlike_30 : decode cX9_leastAlike 30 = .ok (.invokevirtual 177, 3) := by decide +kernel
theorem dX9_leastAlike_33 : decode cX9_leastAlike 33 = .ok (.ifCond .eq 5, 3) := by decide +kernel
theorem dX9_leastAlike_36 : decode cX9_leastAlike 36 = .ok (.iload_n 2, 1) := by decide +kernel
theorem dX9_leastAlike_37 : decode cX9_leastAlike 37 = .ok (.ireturn, 1) := by decide +kernel
theorem dX9_leastAlike_38 : decode cX9_leastAlike 38 = .ok (.iinc 2 1, 3) := by decide +kernel
theorem dX9_leastAlike_41 : decode cX9_leastAlike 41 = .ok (.goto (-39), 3) := by decide +kernel
theorem dX9_leastAlike_44 : decode cX9_leastAlike 44 = .ok (.iload_n 1, 1) := by decide +kernel
theorem dX9_leastAlike_45 : decode cX9_leastAlike 45 = .ok (.ireturn, 1) := by decide +kernel
set_option maxRecDepth 20000 in
theorem ggX9_groupsBelow_X3_hasMark : GoodIn wsX9_groupsBelow wsX3_hasMark := goodIn_r _ [6, 7, 8, 9, 10, 5, 11, 12, 38, 39, 40, 41, 42, 43] (by decide +kernel) (by decide +kernel)
set_option maxRecDepth 20000 in
theorem gX9_groupsBelow_X3_hasMark : GoodIn wsX9_groupsBelow (wsV RX9 185 RX3 yX3_hasMark wsX3_hasMark) := goodIn_app (goodIn_of _ (by decide +kernel)) ggX9_groupsBelow_X3_hasMark
set_option maxRecDepth 20000 in
theorem ggX9_groupsBelow_X9_leastAlike : GoodIn wsX9_groupsBelow wsX9_leastAlike := goodIn_r _ [17, 1, 18, 2, 3, 4, 5, 6, 7, 8, 9, 10, 11, 12, 19, 20, 21, 22, 23, 24, 25, 26, 27, 28, 29, 30, 31, 32, 33, 34, 35, 36, 37, 38, 39, 40, 41, 42, 43, 44, 45, 46, 47] (by decide +kernel) (by decide +kernel)
set_option maxRecDepth 20000 in
theorem gX9_groupsBelow_X9_leastAlike : GoodIn wsX9_groupsBelow (wsV RX9 188 RX9 yX9_leastAlike wsX9_leastAlike) := goodIn_app (goodIn_of _ (by decide +kernel)) ggX9_groupsBelow_X9_leastAlike
theorem dX9_groupsBelow_0 : decode cX9_groupsBelow 0 = .ok (.iconst 0, 1) := by decide +kernel
theorem dX9_groupsBelow_1 : decode cX9_groupsBelow 1 = .ok (.istore_n 2, 1) := by decide +kernel
theorem dX9_groupsBelow_2 : decode cX9_groupsBelow 2 = .ok (.iconst 0, 1) := by decide +kernel
theorem dX9_groupsBelow_3 : decode cX9_groupsBelow 3 = .ok (.istore_n 3, 1) := by decide +kernel
theorem dX9_groupsBelow_4 : decode cX9_groupsBelow 4 = .ok (.iload_n 3, 1) := by decide +kernel
theorem dX9_groupsBelow_5 : decode cX9_groupsBelow 5 = .ok (.iload_n 1, 1) := by decide +kernel
theorem dX9_groupsBelow_6 : decode cX9_groupsBelow 6 = .ok (.if_icmp .ge 32, 3) := by decide +kernel
theorem dX9_groupsBelow_9 : decode cX9_groupsBelow 9 = .ok (.aload_n 0, 1) := by decide +kernel
theorem dX9_groupsBelow_10 : decode cX9_groupsBelow 10 = .ok (.getfield 12, 3) := by decide +kernel
theorem dX9_groupsBelow_13 : decode cX9_groupsBelow 13 = .ok (.iload_n 3, 1) := by decide +kernel
theorem dX9_groupsBelow_14 : decode cX9_groupsBelow 14 = .ok (.invokevirtual 185, 3) := by decide +kernel
theorem dX9_groupsBelow_17 : decode cX9_groupsBelow 17 = .ok (.ifCond .eq 15, 3) := by decide +kernel
theorem dX9_groupsBelow_20 : decode cX9_groupsBelow 20 = .ok (.aload_n 0, 1) := by decide +kernel
theorem dX9_groupsBelow_21 : decode cX9_groupsBelow 21 = .ok (.iload_n 3, 1) := by decide +kernel
theorem dX9_groupsBelow_22 : decode cX9_groupsBelow 22 = .ok (.invokevirtual 188, 3) := by decide +kernel
theorem dX9_groupsBelow_25 : decode cX9_groupsBelow 25 = .ok (.iload_n 3, 1) := by decide +kernel
theorem dX9_groupsBelow_26 : decode cX9_groupsBelow 26 = .ok (.if_icmp .ne 6, 3) := by decide +kernel
theorem dX9_groupsBelow_29 : decode cX9_groupsBelow 29 = .ok (.iinc 2 1, 3) := by decide +kernel
theorem dX9_groupsBelow_32 : decode cX9_groupsBelow 32 = .ok (.iinc 3 1, 3) := by decide +kernel
theorem dX9_groupsBelow_35 : decode cX9_groupsBelow 35 = .ok (.goto (-31), 3) := by decide +kernel
theorem dX9_groupsBelow_38 : decode cX9_groupsBelow 38 = .ok (.iload_n 2, 1) := by decide +kernel
theorem dX9_groupsBelow_39 : decode cX9_groupsBelow 39 = .ok (.ireturn, 1) := by decide +kernel
theorem dX10_init_0 : decode cX10_init 0 = .ok (.aload_n 0, 1) := by decide +kernel
theorem dX10_init_1 : decode cX10_init 1 = .ok (.invokespecial 1, 3) := by decide +kernel
theorem dX10_init_4 : decode cX10_init 4 = .ok (.aload_n 0, 1) := by decide +kernel
theorem dX10_init_5 : decode cX10_init 5 = .ok (.bipush 10, 2) := by decide +kernel
theorem dX10_init_7 : decode cX10_init 7 = .ok (.newarray .int, 2) := by decide +kernel
theorem dX10_init_9 : decode cX10_init 9 = .ok (.putfield 7, 3) := by decide +kernel
theorem dX10_init_12 : decode cX10_init 12 = .ok (.aload_n 0, 1) := by decide +kernel
theorem dX10_init_13 : decode cX10_init 13 = .ok (.bipush 10, 2) := by decide +kernel
theorem dX10_init_15 : decode cX10_init 15 = .ok (.newarray .int, 2) := by decide +kernel
theorem dX10_init_17 : decode cX10_init 17 = .ok (.putfield 13, 3) := by decide +kernel
theorem dX10_init_20 : decode cX10_init 20 = .ok (.aload_n 0, 1) := by decide +kernel
theorem dX10_init_21 : decode cX10_init 21 = .ok (.bipush 80, 2) := by decide +kernel
theorem dX10_init_23 : decode cX10_init 23 = .ok (.newarray .int, 2) := by decide +kernel
theorem dX10_init_25 : decode cX10_init 25 = .ok (.putfield 16, 3) := by decide +kernel
theorem dX10_init_28 : decode cX10_init 28 = .ok (.aload_n 0, 1) := by decide +kernel
theorem dX10_init_29 : decode cX10_init 29 = .ok (.bipush 8, 2) := by decide +kernel
theorem dX10_init_31 : decode cX10_init 31 = .ok (.newarray .int, 2) := by decide +kernel
theorem dX10_init_33 : decode cX10_init 33 = .ok (.putfield 19, 3) := by decide +kernel
theorem dX10_init_36 : decode cX10_init 36 = .ok (.aload_n 0, 1) := by decide +kernel
theorem dX10_init_37 : decode cX10_init 37 = .ok (.bipush 12, 2) := by decide +kernel
theorem dX10_init_39 : decode cX10_init 39 = .ok (.newarray .int, 2) := by decide +kernel
theorem dX10_init_41 : decode cX10_init 41 = .ok (.putfield 22, 3) := by decide +kernel
theorem dX10_init_44 : decode cX10_init 44 = .ok (.aload_n 0, 1) := by decide +kernel
theorem dX10_init_45 : decode cX10_init 45 = .ok (.bipush 12, 2) := by decide +kernel
theorem dX10_init_47 : decode cX10_init 47 = .ok (.newarray .int, 2) := by decide +kernel
theorem dX10_init_49 : decode cX10_init 49 = .ok (.putfield 25, 3) := by decide +kernel
theorem dX10_init_52 : decode cX10_init 52 = .ok (.aload_n 0, 1) := by decide +kernel
theorem dX10_init_53 : decode cX10_init 53 = .ok (.bipush 13, 2) := by decide +kernel
theorem dX10_init_55 : decode cX10_init 55 = .ok (.newarray .int, 2) := by decide +kernel
theorem dX10_init_57 : decode cX10_init 57 = .ok (.putfield 28, 3) := by decide +kernel
theorem dX10_init_60 : decode cX10_init 60 = .ok (.aload_n 0, 1) := by decide +kernel
theorem dX10_init_61 : decode cX10_init 61 = .ok (.sipush 620, 3) := by decide +kernel
theorem dX10_init_64 : decode cX10_init 64 = .ok (.newarray .int, 2) := by decide +kernel
theorem dX10_init_66 : decode cX10_init 66 = .ok (.putfield 31, 3) := by decide +kernel
theorem dX10_init_69 : decode cX10_init 69 = .ok (.aload_n 0, 1) := by decide +kernel
theorem dX10_init_70 : decode cX10_init 70 = .ok (.bipush 12, 2) := by decide +kernel
theorem dX10_init_72 : decode cX10_init 72 = .ok (.newarray .int, 2) := by decide +kernel
theorem dX10_init_74 : decode cX10_init 74 = .ok (.putfield 34, 3) := by decide +kernel
theorem dX10_init_77 : decode cX10_init 77 = .ok (.aload_n 0, 1) := by decide +kernel
theorem dX10_init_78 : decode cX10_init 78 = .ok (.bipush 12, 2) := by decide +kernel
theorem dX10_init_80 : decode cX10_init 80 = .ok (.newarray .int, 2) := by decide +kernel
theorem dX10_init_82 : decode cX10_init 82 = .ok (.putfield 37, 3) := by decide +kernel
theorem dX10_init_85 : decode cX10_init 85 = .ok (.aload_n 0, 1) := by decide +kernel
theorem dX10_init_86 : decode cX10_init 86 = .ok (.bipush 13, 2) := by decide +kernel
theorem dX10_init_88 : decode cX10_init 88 = .ok (.newarray .int, 2) := by decide +kernel
theorem dX10_init_90 : decode cX10_init 90 = .ok (.putfield 40, 3) := by decide +kernel
theorem dX10_init_93 : decode cX10_init 93 = .ok (.aload_n 0, 1) := by decide +kernel
theorem dX10_init_94 : decode cX10_init 94 = .ok (.sipush 620, 3) := by decide +kernel
theorem dX10_init_97 : decode cX10_init 97 = .ok (.newarray .int, 2) := by decide +kernel
theorem dX10_init_99 : decode cX10_init 99 = .ok (.putfield 43, 3) := by decide +kernel
theorem dX10_init_102 : decode cX10_init 102 = .ok (.aload_n 0, 1) := by decide +kernel
theorem dX10_init_103 : decode cX10_init 103 = .ok (.sipush 620, 3) := by decide +kernel
theorem dX10_init_106 : decode cX10_init 106 = .ok (.newarray .int, 2) := by decide +kernel
theorem dX10_init_108 : decode cX10_init 108 = .ok (.putfield 46, 3) := by decide +kernel
theorem dX10_init_111 : decode cX10_init 111 = .ok (.aload_n 0, 1) := by decide +kernel
theorem dX10_init_112 : decode cX10_init 112 = .ok (.sipush 600, 3) := by decide +kernel
theorem dX10_init_115 : decode cX10_init 115 = .ok (.newarray .int, 2) := by decide +kernel
theorem dX10_init_117 : decode cX10_init 117 = .ok (.putfield 49, 3) := by decide +kernel
theorem dX10_init_120 : decode cX10_init 120 = .ok (.aload_n 0, 1) := by decide +kernel
theorem dX10_init_121 : decode cX10_init 121 = .ok (.iconst (-1), 1) := by decide +kernel
theorem dX10_init_122 : decode cX10_init 122 = .ok (.putfield 52, 3) := by decide +kernel
theorem dX10_init_125 : decode cX10_init 125 = .ok (.aload_n 0, 1) := by decide +kernel
theorem dX10_init_126 : decode cX10_init 126 = .ok (.bipush 12, 2) := by decide +kernel
theorem dX10_init_128 : decode cX10_init 128 = .ok (.newarray .int, 2) := by decide +kernel
theorem dX10_init_130 : decode cX10_init 130 = .ok (.putfield 56, 3) := by decide +kernel
theorem dX10_init_133 : decode cX10_init 133 = .ok (.aload_n 0, 1) := by decide +kernel
theorem dX10_init_134 : decode cX10_init 134 = .ok (.bipush 12, 2) := by decide +kernel
theorem dX10_init_136 : decode cX10_init 136 = .ok (.newarray .int, 2) := by decide +kernel
theorem dX10_init_138 : decode cX10_init 138 = .ok (.putfield 59, 3) := by decide +kernel
theorem dX10_init_141 : decode cX10_init 141 = .ok (.aload_n 0, 1) := by decide +kernel
theorem dX10_init_142 : decode cX10_init 142 = .ok (.bipush 120, 2) := by decide +kernel
theorem dX10_init_144 : decode cX10_init 144 = .ok (.newarray .int, 2) := by decide +kernel
theorem dX10_init_146 : decode cX10_init 146 = .ok (.putfield 62, 3) := by decide +kernel
theorem dX10_init_149 : decode cX10_init 149 = .ok (.aload_n 0, 1) := by decide +kernel
theorem dX10_init_150 : decode cX10_init 150 = .ok (.sipush 2400, 3) := by decide +kernel
theorem dX10_init_153 : decode cX10_init 153 = .ok (.newarray .int, 2) := by decide +kernel
theorem dX10_init_155 : decode cX10_init 155 = .ok (.putfield 65, 3) := by decide +kernel
theorem dX10_init_158 : decode cX10_init 158 = .ok (.aload_n 0, 1) := by decide +kernel
theorem dX10_init_159 : decode cX10_init 159 = .ok (.bipush 15, 2) := by decide +kernel
theorem dX10_init_161 : decode cX10_init 161 = .ok (.newarray .int, 2) := by decide +kernel
theorem dX10_init_163 : decode cX10_init 163 = .ok (.putfield 68, 3) := by decide +kernel
theorem dX10_init_166 : decode cX10_init 166 = .ok (.aload_n 0, 1) := by decide +kernel
theorem dX10_init_167 : decode cX10_init 167 = .ok (.sipush 150, 3) := by decide +kernel
theorem dX10_init_170 : decode cX10_init 170 = .ok (.newarray .int, 2) := by decide +kernel
theorem dX10_init_172 : decode cX10_init 172 = .ok (.putfield 71, 3) := by decide +kernel
theorem dX10_init_175 : decode cX10_init 175 = .ok (.aload_n 0, 1) := by decide +kernel
theorem dX10_init_176 : decode cX10_init 176 = .ok (.sipush 2500, 3) := by decide +kernel
theorem dX10_init_179 : decode cX10_init 179 = .ok (.newarray .int, 2) := by decide +kernel
theorem dX10_init_181 : decode cX10_init 181 = .ok (.putfield 74, 3) := by decide +kernel
theorem dX10_init_184 : decode cX10_init 184 = .ok (.aload_n 0, 1) := by decide +kernel
theorem dX10_init_185 : decode cX10_init 185 = .ok (.bipush 12, 2) := by decide +kernel
theorem dX10_init_187 : decode cX10_init 187 = .ok (.newarray .int, 2) := by decide +kernel
theorem dX10_init_189 : decode cX10_init 189 = .ok (.putfield 77, 3) := by decide +kernel
theorem dX10_init_192 : decode cX10_init 192 = .ok (.aload_n 0, 1) := by decide +kernel
theorem dX10_init_193 : decode cX10_init 193 = .ok (.bipush 12, 2) := by decide +kernel
theorem dX10_init_195 : decode cX10_init 195 = .ok (.newarray .int, 2) := by decide +kernel
theorem dX10_init_197 : decode cX10_init 197 = .ok (.putfield 80, 3) := by decide +kernel
theorem dX10_init_200 : decode cX10_init 200 = .ok (.iconst 0, 1) := by decide +kernel
theorem dX10_init_201 : decode cX10_init 201 = .ok (.istore_n 1, 1) := by decide +kernel
theorem dX10_init_202 : decode cX10_init 202 = .ok (.iload_n 1, 1) := by decide +kernel
theorem dX10_init_203 : decode cX10_init 203 = .ok (.bipush 80, 2) := by decide +kernel
theorem dX10_init_205 : decode cX10_init 205 = .ok (.if_icmp .ge 16, 3) := by decide +kernel
theorem dX10_init_208 : decode cX10_init 208 = .ok (.aload_n 0, 1) := by decide +kernel
theorem dX10_init_209 : decode cX10_init 209 = .ok (.getfield 16, 3) := by decide +kernel
theorem dX10_init_212 : decode cX10_init 212 = .ok (.iload_n 1, 1) := by decide +kernel
theorem dX10_init_213 : decode cX10_init 213 = .ok (.iconst (-1), 1) := by decide +kernel
theorem dX10_init_214 : decode cX10_init 214 = .ok (.iastore, 1) := by decide +kernel
theorem dX10_init_215 : decode cX10_init 215 = .ok (.iinc 1 1, 3) := by decide +kernel
theorem dX10_init_218 : decode cX10_init 218 = .ok (.goto (-16), 3) := by decide +kernel
theorem dX10_init_221 : decode cX10_init 221 = .ok (.return_, 1) := by decide +kernel
theorem dX10_isIn_0 : decode cX10_isIn 0 = .ok (.iload_n 0, 1) := by decide +kernel
theorem dX10_isIn_1 : decode cX10_isIn 1 = .ok (.iload_n 1, 1) := by decide +kernel
theorem dX10_isIn_2 : decode cX10_isIn 2 = .ok (.if_icmp .lt 12, 3) := by decide +kernel
theorem dX10_isIn_5 : decode cX10_isIn 5 = .ok (.iload_n 0, 1) := by decide +kernel
theorem dX10_isIn_6 : decode cX10_isIn 6 = .ok (.iload_n 2, 1) := by decide +kernel
theorem dX10_isIn_7 : decode cX10_isIn 7 = .ok (.if_icmp .gt 7, 3) := by decide +kernel
theorem dX10_isIn_10 : decode cX10_isIn 10 = .ok (.iconst 1, 1) := by decide +kernel
theorem dX10_isIn_11 : decode cX10_isIn 11 = .ok (.goto 4, 3) := by decide +kernel
theorem dX10_isIn_14 : decode cX10_isIn 14 = .ok (.iconst 0, 1) := by decide +kernel
theorem dX10_isIn_15 : decode cX10_isIn 15 = .ok (.ireturn, 1) := by decide +kernel
set_option maxRecDepth 20000 in
theorem ggX10_isPupil_X10_isIn : GoodIn wsX10_isPupil wsX10_isIn := goodIn_r _ [4] (by decide +kernel) (by decide +kernel)
set_option maxRecDepth 20000 in
theorem gX10_isPupil_X10_isIn : GoodIn wsX10_isPupil (va_wsS RX10 83 yX10_isIn wsX10_isIn) := goodIn_app (goodIn_of _ (by decide +kernel)) ggX10_isPupil_X10_isIn
theorem dX10_isPupil_0 : decode cX10_isPupil 0 = .ok (.iload_n 0, 1) := by decide +kernel
theorem dX10_isPupil_1 : decode cX10_isPupil 1 = .ok (.iconst 0, 1) := by decide +kernel
theorem dX10_isPupil_2 : decode cX10_isPupil 2 = .ok (.bipush 7, 2) := by decide +kernel
theorem dX10_isPupil_4 : decode cX10_isPupil 4 = .ok (.invokestatic 83, 3) := by decide +kernel
theorem dX10_isPupil_7 : decode cX10_isPupil 7 = .ok (.ireturn, 1) := by decide +kernel
set_option maxRecDepth 20000 in
theorem ggX10_isSkill_X10_isIn : GoodIn wsX10_isSkill wsX10_isIn := goodIn_r _ [4] (by decide +kernel) (by decide +kernel)
set_option maxRecDepth 20000 in
theorem gX10_isSkill_X10_isIn : GoodIn wsX10_isSkill (va_wsS RX10 83 yX10_isIn wsX10_isIn) := goodIn_app (goodIn_of _ (by decide +kernel)) ggX10_isSkill_X10_isIn
theorem dX10_isSkill_0 : decode cX10_isSkill 0 = .ok (.iload_n 0, 1) := by decide +kernel
theorem dX10_isSkill_1 : decode cX10_isSkill 1 = .ok (.iconst 0, 1) := by decide +kernel
theorem dX10_isSkill_2 : decode cX10_isSkill 2 = .ok (.iconst 4, 1) := by decide +kernel
theorem dX10_isSkill_3 : decode cX10_isSkill 3 = .ok (.invokestatic 83, 3) := by decide +kernel
theorem dX10_isSkill_6 : decode cX10_isSkill 6 = .ok (.ireturn, 1) := by decide +kernel
set_option maxRecDepth 20000 in
theorem ggX10_isQuestion_X10_isIn : GoodIn wsX10_isQuestion wsX10_isIn := goodIn_r _ [5] (by decide +kernel) (by decide +kernel)
set_option maxRecDepth 20000 in
theorem gX10_isQuestion_X10_isIn : GoodIn wsX10_isQuestion (va_wsS RX10 83 yX10_isIn wsX10_isIn) := goodIn_app (goodIn_of _ (by decide +kernel)) ggX10_isQuestion_X10_isIn
theorem dX10_isQuestion_0 : decode cX10_isQuestion 0 = .ok (.iload_n 1, 1) := by decide +kernel
theorem dX10_isQuestion_1 : decode cX10_isQuestion 1 = .ok (.iconst 0, 1) := by decide +kernel
theorem dX10_isQuestion_2 : decode cX10_isQuestion 2 = .ok (.aload_n 0, 1) := by decide +kernel
theorem dX10_isQuestion_3 : decode cX10_isQuestion 3 = .ok (.getfield 87, 3) := by decide +kernel
theorem dX10_isQuestion_6 : decode cX10_isQuestion 6 = .ok (.iconst 1, 1) := by decide +kernel
theorem dX10_isQuestion_7 : decode cX10_isQuestion 7 = .ok (.isub, 1) := by decide +kernel
theorem dX10_isQuestion_8 : decode cX10_isQuestion 8 = .ok (.invokestatic 83, 3) := by decide +kernel
theorem dX10_isQuestion_11 : decode cX10_isQuestion 11 = .ok (.ireturn, 1) := by decide +kernel
set_option maxRecDepth 20000 in
theorem ggX10_question_X10_isIn : GoodIn wsX10_question wsX10_isIn := goodIn_r _ [7] (by decide +kernel) (by decide +kernel)
set_option maxRecDepth 20000 in
theorem gX10_question_X10_isIn : GoodIn wsX10_question (va_wsS RX10 83 yX10_isIn wsX10_isIn) := goodIn_app (goodIn_of _ (by decide +kernel)) ggX10_question_X10_isIn
theorem dX10_question_0 : decode cX10_question 0 = .ok (.iload_n 1, 1) := by decide +kernel
theorem dX10_question_1 : decode cX10_question 1 = .ok (.iconst 1, 1) := by decide +kernel
theorem dX10_question_2 : decode cX10_question 2 = .ok (.bipush 20, 2) := by decide +kernel
theorem dX10_question_4 : decode cX10_question 4 = .ok (.invokestatic 83, 3) := by decide +kernel
theorem dX10_question_7 : decode cX10_question 7 = .ok (.ifCond .eq 22, 3) := by decide +kernel
theorem dX10_question_10 : decode cX10_question 10 = .ok (.iload_n 2, 1) := by decide +kernel
theorem dX10_question_11 : decode cX10_question 11 = .ok (.iconst 1, 1) := by decide +kernel
theorem dX10_question_12 : decode cX10_question 12 = .ok (.bipush 31, 2) := by decide +kernel
theorem dX10_question_14 : decode cX10_question 14 = .ok (.invokestatic 83, 3) := by decide +kernel
theorem dX10_question_17 : decode cX10_question 17 = .ok (.ifCond .eq 12, 3) := by decide +kernel
theorem dX10_question_20 : decode cX10_question 20 = .ok (.aload_n 0, 1) := by decide +kernel
theorem dX10_question_21 : decode cX10_question 21 = .ok (.getfield 87, 3) := by decide +kernel
theorem dX10_question_24 : decode cX10_question 24 = .ok (.bipush 10, 2) := by decide +kernel
theorem dX10_question_26 : decode cX10_question 26 = .ok (.if_icmp .ne 5, 3) := by decide +kernel
theorem dX10_question_29 : decode cX10_question 29 = .ok (.iconst (-1), 1) := by decide +kernel
theorem dX10_question_30 : decode cX10_question 30 = .ok (.ireturn, 1) := by decide +kernel
theorem dX10_question_31 : decode cX10_question 31 = .ok (.aload_n 0, 1) := by decide +kernel
theorem dX10_question_32 : decode cX10_question 32 = .ok (.getfield 7, 3) := by decide +kernel
theorem dX10_question_35 : decode cX10_question 35 = .ok (.aload_n 0, 1) := by decide +kernel
theorem dX10_question_36 : decode cX10_question 36 = .ok (.getfield 87, 3) := by decide +kernel
theorem dX10_question_39 : decode cX10_question 39 = .ok (.iload_n 1, 1) := by decide +kernel
theorem dX10_question_40 : decode cX10_question 40 = .ok (.iastore, 1) := by decide +kernel
theorem dX10_question_41 : decode cX10_question 41 = .ok (.aload_n 0, 1) := by decide +kernel
theorem dX10_question_42 : decode cX10_question 42 = .ok (.getfield 13, 3) := by decide +kernel
theorem dX10_question_45 : decode cX10_question 45 = .ok (.aload_n 0, 1) := by decide +kernel
theorem dX10_question_46 : decode cX10_question 46 = .ok (.getfield 87, 3) := by decide +kernel
theorem dX10_question_49 : decode cX10_question 49 = .ok (.iload_n 2, 1) := by decide +kernel
theorem dX10_question_50 : decode cX10_question 50 = .ok (.iastore, 1) := by decide +kernel
theorem dX10_question_51 : decode cX10_question 51 = .ok (.aload_n 0, 1) := by decide +kernel
theorem dX10_question_52 : decode cX10_question 52 = .ok (.dup, 1) := by decide +kernel
theorem dX10_question_53 : decode cX10_question 53 = .ok (.getfield 87, 3) := by decide +kernel
theorem dX10_question_56 : decode cX10_question 56 = .ok (.iconst 1, 1) := by decide +kernel
theorem dX10_question_57 : decode cX10_question 57 = .ok (.iadd, 1) := by decide +kernel
theorem dX10_question_58 : decode cX10_question 58 = .ok (.putfield 87, 3) := by decide +kernel
theorem dX10_question_61 : decode cX10_question 61 = .ok (.aload_n 0, 1) := by decide +kernel
theorem dX10_question_62 : decode cX10_question 62 = .ok (.getfield 87, 3) := by decide +kernel
theorem dX10_question_65 : decode cX10_question 65 = .ok (.iconst 1, 1) := by decide +kernel
theorem dX10_question_66 : decode cX10_question 66 = .ok (.isub, 1) := by decide +kernel
theorem dX10_question_67 : decode cX10_question 67 = .ok (.ireturn, 1) := by decide +kernel
set_option maxRecDepth 20000 in
theorem ggX10_mark_X10_isPupil : GoodIn wsX10_mark wsX10_isPupil := goodIn_r _ [6, 7, 8, 5, 9] (by decide +kernel) (by decide +kernel)
set_option maxRecDepth 20000 in
theorem gX10_mark_X10_isPupil : GoodIn wsX10_mark (va_wsS RX10 90 yX10_isPupil wsX10_isPupil) := goodIn_app (goodIn_of _ (by decide +kernel)) ggX10_mark_X10_isPupil
set_option maxRecDepth 20000 in
theorem ggX10_mark_X10_isQuestion : GoodIn wsX10_mark wsX10_isQuestion := goodIn_r _ [13, 14, 7, 8, 5, 9, 15, 16, 17, 18, 19, 20, 21, 22, 23, 24, 25, 26, 27, 28, 29, 30, 31, 32, 33, 34, 35, 36, 37, 38, 39, 40, 41, 42, 43, 44, 45, 46, 47, 48, 49, 50, 51, 52, 53, 54] (by decide +kernel) (by decide +kernel)
set_option maxRecDepth 20000 in
theorem gX10_mark_X10_isQuestion : GoodIn wsX10_mark (wsV RX10 94 RX10 yX10_isQuestion wsX10_isQuestion) := goodIn_app (goodIn_of _ (by decide +kernel)) ggX10_mark_X10_isQuestion
set_option maxRecDepth 20000 in
theorem ggX10_mark_X10_isIn : GoodIn wsX10_mark wsX10_isIn := goodIn_r _ [9] (by decide +kernel) (by decide +kernel)
set_option maxRecDepth 20000 in
theorem gX10_mark_X10_isIn : GoodIn wsX10_mark (va_wsS RX10 83 yX10_isIn wsX10_isIn) := goodIn_app (goodIn_of _ (by decide +kernel)) ggX10_mark_X10_isIn
theorem dX10_mark_0 : decode cX10_mark 0 = .ok (.iload_n 1, 1) := by decide +kernel
theorem dX10_mark_1 : decode cX10_mark 1 = .ok (.invokestatic 90, 3) := by decide +kernel
theorem dX10_mark_4 : decode cX10_mark 4 = .ok (.ifCond .eq 25, 3) := by decide +kernel
theorem dX10_mark_7 : decode cX10_mark 7 = .ok (.aload_n 0, 1) := by decide +kernel
theorem dX10_mark_8 : decode cX10_mark 8 = .ok (.iload_n 2, 1) := by decide +kernel
theorem dX10_mark_9 : decode cX10_mark 9 = .ok (.invokevirtual 94, 3) := by decide +kernel
theorem dX10_mark_12 : decode cX10_mark 12 = .ok (.ifCond .eq 17, 3) := by decide +kernel
theorem dX10_mark_15 : decode cX10_mark 15 = .ok (.iload_n 3, 1) := by decide +kernel
theorem dX10_mark_16 : decode cX10_mark 16 = .ok (.iconst (-1), 1) := by decide +kernel
theorem dX10_mark_17 : decode cX10_mark 17 = .ok (.aload_n 0, 1) := by decide +kernel
theorem dX10_mark_18 : decode cX10_mark 18 = .ok (.getfield 7, 3) := by decide +kernel
theorem dX10_mark_21 : decode cX10_mark 21 = .ok (.iload_n 2, 1) := by decide +kernel
theorem dX10_mark_22 : decode cX10_mark 22 = .ok (.iaload, 1) := by decide +kernel
theorem dX10_mark_23 : decode cX10_mark 23 = .ok (.invokestatic 83, 3) := by decide +kernel
theorem dX10_mark_26 : decode cX10_mark 26 = .ok (.ifCond .ne 5, 3) := by decide +kernel
theorem dX10_mark_29 : decode cX10_mark 29 = .ok (.iconst 0, 1) := by decide +kernel
theorem dX10_mark_30 : decode cX10_mark 30 = .ok (.ireturn, 1) := by decide +kernel
theorem dX10_mark_31 : decode cX10_mark 31 = .ok (.aload_n 0, 1) := by decide +kernel
theorem dX10_mark_32 : decode cX10_mark 32 = .ok (.getfield 16, 3) := by decide +kernel
theorem dX10_mark_35 : decode cX10_mark 35 = .ok (.bipush 10, 2) := by decide +kernel
theorem dX10_mark_37 : decode cX10_mark 37 = .ok (.iload_n 1, 1) := by decide +kernel
theorem dX10_mark_38 : decode cX10_mark 38 = .ok (.imul, 1) := by decide +kernel
theorem dX10_mark_39 : decode cX10_mark 39 = .ok (.iload_n 2, 1) := by decide +kernel
theorem dX10_mark_40 : decode cX10_mark 40 = .ok (.iadd, 1) := by decide +kernel
theorem dX10_mark_41 : decode cX10_mark 41 = .ok (.iload_n 3, 1) := by decide +kernel
theorem dX10_mark_42 : decode cX10_mark 42 = .ok (.iastore, 1) := by decide +kernel
theorem dX10_mark_43 : decode cX10_mark 43 = .ok (.iconst 1, 1) := by decide +kernel
theorem dX10_mark_44 : decode cX10_mark 44 = .ok (.ireturn, 1) := by decide +kernel
set_option maxRecDepth 20000 in
theorem ggX10_of_X10_isQuestion : GoodIn wsX10_of wsX10_isQuestion := goodIn_r _ [8, 9, 10, 11, 7, 12, 13, 14, 15, 16, 17, 18, 19, 20, 21, 22, 23, 24, 25, 26, 27, 28, 29, 30, 31, 32, 33, 34, 35, 36, 37, 38, 39, 40, 41, 42, 43, 44, 45, 46, 47, 48, 49, 50, 51, 52] (by decide +kernel) (by decide +kernel)
set_option maxRecDepth 20000 in
theorem gX10_of_X10_isQuestion : GoodIn wsX10_of (wsV RX10 94 RX10 yX10_isQuestion wsX10_isQuestion) := goodIn_app (goodIn_of _ (by decide +kernel)) ggX10_of_X10_isQuestion
set_option maxRecDepth 20000 in
theorem ggX10_of_X10_isIn : GoodIn wsX10_of wsX10_isIn := goodIn_r _ [12] (by decide +kernel) (by decide +kernel)
set_option maxRecDepth 20000 in
theorem gX10_of_X10_isIn : GoodIn wsX10_of (va_wsS RX10 83 yX10_isIn wsX10_isIn) := goodIn_app (goodIn_of _ (by decide +kernel)) ggX10_of_X10_isIn
theorem dX10_of_0 : decode cX10_of 0 = .ok (.aload_n 0, 1) := by decide +kernel
theorem dX10_of_1 : decode cX10_of 1 = .ok (.iload_n 1, 1) := by decide +kernel
theorem dX10_of_2 : decode cX10_of 2 = .ok (.invokevirtual 94, 3) := by decide +kernel
theorem dX10_of_5 : decode cX10_of 5 = .ok (.ifCond .ne 5, 3) := by decide +kernel
theorem dX10_of_8 : decode cX10_of 8 = .ok (.iconst (-1), 1) := by decide +kernel
theorem dX10_of_9 : decode cX10_of 9 = .ok (.ireturn, 1) := by decide +kernel
theorem dX10_of_10 : decode cX10_of 10 = .ok (.iload_n 2, 1) := by decide +kernel
theorem dX10_of_11 : decode cX10_of 11 = .ok (.ifCond .ne 12, 3) := by decide +kernel
theorem dX10_of_14 : decode cX10_of 14 = .ok (.aload_n 0, 1) := by decide +kernel
theorem dX10_of_15 : decode cX10_of 15 = .ok (.getfield 7, 3) := by decide +kernel
theorem dX10_of_18 : decode cX10_of 18 = .ok (.iload_n 1, 1) := by decide +kernel
theorem dX10_of_19 : decode cX10_of 19 = .ok (.iaload, 1) := by decide +kernel
theorem dX10_of_20 : decode cX10_of 20 = .ok (.goto 46, 3) := by decide +kernel
theorem dX10_of_23 : decode cX10_of 23 = .ok (.iload_n 2, 1) := by decide +kernel
theorem dX10_of_24 : decode cX10_of 24 = .ok (.iconst 1, 1) := by decide +kernel
theorem dX10_of_25 : decode cX10_of 25 = .ok (.if_icmp .ne 12, 3) := by decide +kernel
theorem dX10_of_28 : decode cX10_of 28 = .ok (.aload_n 0, 1) := by decide +kernel
theorem dX10_of_29 : decode cX10_of 29 = .ok (.getfield 13, 3) := by decide +kernel
theorem dX10_of_32 : decode cX10_of 32 = .ok (.iload_n 1, 1) := by decide +kernel
theorem dX10_of_33 : decode cX10_of 33 = .ok (.iaload, 1) := by decide +kernel
theorem dX10_of_34 : decode cX10_of 34 = .ok (.goto 32, 3) := by decide +kernel
theorem dX10_of_37 : decode cX10_of 37 = .ok (.iload_n 2, 1) := by decide +kernel
theorem dX10_of_38 : decode cX10_of 38 = .ok (.bipush 10, 2) := by decide +kernel
theorem dX10_of_40 : decode cX10_of 40 = .ok (.bipush 17, 2) := by decide +kernel
theorem dX10_of_42 : decode cX10_of 42 = .ok (.invokestatic 83, 3) := by decide +kernel
theorem dX10_of_45 : decode cX10_of 45 = .ok (.ifCond .eq 20, 3) := by decide +kernel
theorem dX10_of_48 : decode cX10_of 48 = .ok (.aload_n 0, 1) := by decide +kernel
theorem dX10_of_49 : decode cX10_of 49 = .ok (.getfield 16, 3) := by decide +kernel
theorem dX10_of_52 : decode cX10_of 52 = .ok (.bipush 10, 2) := by decide +kernel
theorem dX10_of_54 : decode cX10_of 54 = .ok (.iload_n 2, 1) := by decide +kernel
theorem dX10_of_55 : decode cX10_of 55 = .ok (.bipush 10, 2) := by decide +kernel
theorem dX10_of_57 : decode cX10_of 57 = .ok (.isub, 1) := by decide +kernel
theorem dX10_of_58 : decode cX10_of 58 = .ok (.imul, 1) := by decide +kernel
theorem dX10_of_59 : decode cX10_of 59 = .ok (.iload_n 1, 1) := by decide +kernel
theorem dX10_of_60 : decode cX10_of 60 = .ok (.iadd, 1) := by decide +kernel
theorem dX10_of_61 : decode cX10_of 61 = .ok (.iaload, 1) := by decide +kernel
theorem dX10_of_62 : decode cX10_of 62 = .ok (.goto 4, 3) := by decide +kernel
theorem dX10_of_65 : decode cX10_of 65 = .ok (.iconst (-1), 1) := by decide +kernel
theorem dX10_of_66 : decode cX10_of 66 = .ok (.ireturn, 1) := by decide +kernel
theorem dX10_markedOf_0 : decode cX10_markedOf 0 = .ok (.iconst 0, 1) := by decide +kernel
theorem dX10_markedOf_1 : decode cX10_markedOf 1 = .ok (.istore_n 3, 1) := by decide +kernel
theorem dX10_markedOf_2 : decode cX10_markedOf 2 = .ok (.iconst 0, 1) := by decide +kernel
theorem dX10_markedOf_3 : decode cX10_markedOf 3 = .ok (.istore 4, 2) := by decide +kernel
theorem dX10_markedOf_5 : decode cX10_markedOf 5 = .ok (.iload 4, 2) := by decide +kernel
theorem dX10_markedOf_7 : decode cX10_markedOf 7 = .ok (.aload_n 0, 1) := by decide +kernel
theorem dX10_markedOf_8 : decode cX10_markedOf 8 = .ok (.getfield 87, 3) := by decide +kernel
theorem dX10_markedOf_11 : decode cX10_markedOf 11 = .ok (.if_icmp .ge 47, 3) := by decide +kernel
theorem dX10_markedOf_14 : decode cX10_markedOf 14 = .ok (.aload_n 0, 1) := by decide +kernel
theorem dX10_markedOf_15 : decode cX10_markedOf 15 = .ok (.getfield 13, 3) := by decide +kernel
theorem dX10_markedOf_18 : decode cX10_markedOf 18 = .ok (.iload 4, 2) := by decide +kernel
theorem dX10_markedOf_20 : decode cX10_markedOf 20 = .ok (.iaload, 1) := by decide +kernel
theorem dX10_markedOf_21 : decode cX10_markedOf 21 = .ok (.iload_n 2, 1) := by decide +kernel
theorem dX10_markedOf_22 : decode cX10_markedOf 22 = .ok (.ishr, 1) := by decide +kernel
theorem dX10_markedOf_23 : decode cX10_markedOf 23 = .ok (.iconst 1, 1) := by decide +kernel
theorem dX10_markedOf_24 : decode cX10_markedOf 24 = .ok (.iand, 1) := by decide +kernel
theorem dX10_markedOf_25 : decode cX10_markedOf 25 = .ok (.iconst 1, 1) := by decide +kernel
theorem dX10_markedOf_26 : decode cX10_markedOf 26 = .ok (.if_icmp .ne 26, 3) := by decide +kernel
theorem dX10_markedOf_29 : decode cX10_markedOf 29 = .ok (.aload_n 0, 1) := by decide +kernel
theorem dX10_markedOf_30 : decode cX10_markedOf 30 = .ok (.getfield 16, 3) := by decide +kernel
theorem dX10_markedOf_33 : decode cX10_markedOf 33 = .ok (.bipush 10, 2) := by decide +kernel
theorem dX10_markedOf_35 : decode cX10_markedOf 35 = .ok (.iload_n 1, 1) := by decide +kernel
theorem dX10_markedOf_36 : decode cX10_markedOf 36 = .ok (.imul, 1) := by decide +kernel
theorem dX10_markedOf_37 : decode cX10_markedOf 37 = .ok (.iload 4, 2) := by decide +kernel
theorem dX10_markedOf_39 : decode cX10_markedOf 39 = .ok (.iadd, 1) := by decide +kernel
theorem dX10_markedOf_40 : decode cX10_markedOf 40 = .ok (.iaload, 1) := by decide +kernel
theorem dX10_markedOf_41 : decode cX10_markedOf 41 = .ok (.iconst (-1), 1) := by decide +kernel
theorem dX10_markedOf_42 : decode cX10_markedOf 42 = .ok (.if_icmp .eq 10, 3) := by decide +kernel
theorem dX10_markedOf_45 : decode cX10_markedOf 45 = .ok (.iload_n 3, 1) := by decide +kernel
theorem dX10_markedOf_46 : decode cX10_markedOf 46 = .ok (.iconst 1, 1) := by decide +kernel
theorem dX10_markedOf_47 : decode cX10_markedOf 47 = .ok (.iload 4, 2) := by decide +kernel
theorem dX10_markedOf_49 : decode cX10_markedOf 49 = .ok (.ishl, 1) := by decide +kernel
theorem dX10_markedOf_50 : decode cX10_markedOf 50 = .ok (.ior, 1) := by decide +kernel
theorem dX10_markedOf_51 : decode cX10_markedOf 51 = .ok (.istore_n 3, 1) := by decide +kernel
theorem dX10_markedOf_52 : decode cX10_markedOf 52 = .ok (.iinc 4 1, 3) := by decide +kernel
theorem dX10_markedOf_55 : decode cX10_markedOf 55 = .ok (.goto (-50), 3) := by decide +kernel
theorem dX10_markedOf_58 : decode cX10_markedOf 58 = .ok (.iload_n 3, 1) := by decide +kernel
theorem dX10_markedOf_59 : decode cX10_markedOf 59 = .ok (.ireturn, 1) := by decide +kernel
theorem dX10_bits_0 : decode cX10_bits 0 = .ok (.iconst 0, 1) := by decide +kernel
theorem dX10_bits_1 : decode cX10_bits 1 = .ok (.istore_n 1, 1) := by decide +kernel
theorem dX10_bits_2 : decode cX10_bits 2 = .ok (.iconst 0, 1) := by decide +kernel
theorem dX10_bits_3 : decode cX10_bits 3 = .ok (.istore_n 2, 1) := by decide +kernel
theorem dX10_bits_4 : decode cX10_bits 4 = .ok (.iload_n 2, 1) := by decide +kernel
theorem dX10_bits_5 : decode cX10_bits 5 = .ok (.bipush 10, 2) := by decide +kernel
theorem dX10_bits_7 : decode cX10_bits 7 = .ok (.if_icmp .ge 17, 3) := by decide +kernel
theorem dX10_bits_10 : decode cX10_bits 10 = .ok (.iload_n 1, 1) := by decide +kernel
theorem dX10_bits_11 : decode cX10_bits 11 = .ok (.iload_n 0, 1) := by decide +kernel
theorem dX10_bits_12 : decode cX10_bits 12 = .ok (.iload_n 2, 1) := by decide +kernel
theorem dX10_bits_13 : decode cX10_bits 13 = .ok (.ishr, 1) := by decide +kernel
theorem dX10_bits_14 : decode cX10_bits 14 = .ok (.iconst 1, 1) := by decide +kernel
theorem dX10_bits_15 : decode cX10_bits 15 = .ok (.iand, 1) := by decide +kernel
theorem dX10_bits_16 : decode cX10_bits 16 = .ok (.iadd, 1) := by decide +kernel
theorem dX10_bits_17 : decode cX10_bits 17 = .ok (.istore_n 1, 1) := by decide +kernel
theorem dX10_bits_18 : decode cX10_bits 18 = .ok (.iinc 2 1, 3) := by decide +kernel
theorem dX10_bits_21 : decode cX10_bits 21 = .ok (.goto (-17), 3) := by decide +kernel
theorem dX10_bits_24 : decode cX10_bits 24 = .ok (.iload_n 1, 1) := by decide +kernel
theorem dX10_bits_25 : decode cX10_bits 25 = .ok (.ireturn, 1) := by decide +kernel
theorem dX10_share_0 : decode cX10_share 0 = .ok (.iconst 0, 1) := by decide +kernel
theorem dX10_share_1 : decode cX10_share 1 = .ok (.istore_n 3, 1) := by decide +kernel
theorem dX10_share_2 : decode cX10_share 2 = .ok (.iconst 0, 1) := by decide +kernel
theorem dX10_share_3 : decode cX10_share 3 = .ok (.istore 4, 2) := by decide +kernel
theorem dX10_share_5 : decode cX10_share 5 = .ok (.iconst 0, 1) := by decide +kernel
theorem dX10_share_6 : decode cX10_share 6 = .ok (.istore 5, 2) := by decide +kernel
theorem dX10_share_8 : decode cX10_share 8 = .ok (.iload 5, 2) := by decide +kernel
theorem dX10_share_10 : decode cX10_share 10 = .ok (.aload_n 0, 1) := by decide +kernel
theorem dX10_share_11 : decode cX10_share 11 = .ok (.getfield 87, 3) := by decide +kernel
theorem dX10_share_14 : decode cX10_share 14 = .ok (.if_icmp .ge 48, 3) := by decide +kernel
theorem dX10_share_17 : decode cX10_share 17 = .ok (.iload_n 2, 1) := by decide +kernel
theorem dX10_share_18 : decode cX10_share 18 = .ok (.iload 5, 2) := by decide +kernel
theorem dX10_share_20 : decode cX10_share 20 = .ok (.ishr, 1) := by decide +kernel
theorem dX10_share_21 : decode cX10_share 21 = .ok (.iconst 1, 1) := by decide +kernel
theorem dX10_share_22 : decode cX10_share 22 = .ok (.iand, 1) := by decide +kernel
theorem dX10_share_23 : decode cX10_share 23 = .ok (.ifCond .ne 6, 3) := by decide +kernel
theorem dX10_share_26 : decode cX10_share 26 = .ok (.goto 30, 3) := by decide +kernel
theorem dX10_share_29 : decode cX10_share 29 = .ok (.iload_n 3, 1) := by decide +kernel
theorem dX10_share_30 : decode cX10_share 30 = .ok (.aload_n 0, 1) := by decide +kernel
theorem dX10_share_31 : decode cX10_share 31 = .ok (.getfield 16, 3) := by decide +kernel
theorem dX10_share_34 : decode cX10_share 34 = .ok (.bipush 10, 2) := by decide +kernel
theorem dX10_share_36 : decode cX10_share 36 = .ok (.iload_n 1, 1) := by decide +kernel
theorem dX10_share_37 : decode cX10_share 37 = .ok (.imul, 1) := by decide +kernel
theorem dX10_share_38 : decode cX10_share 38 = .ok (.iload 5, 2) := by decide +kernel
theorem dX10_share_40 : decode cX10_share 40 = .ok (.iadd, 1) := by decide +kernel
theorem dX10_share_41 : decode cX10_share 41 = .ok (.iaload, 1) := by decide +kernel
theorem dX10_share_42 : decode cX10_share 42 = .ok (.iadd, 1) := by decide +kernel
theorem dX10_share_43 : decode cX10_share 43 = .ok (.istore_n 3, 1) := by decide +kernel
theorem dX10_share_44 : decode cX10_share 44 = .ok (.iload 4, 2) := by decide +kernel
theorem dX10_share_46 : decode cX10_share 46 = .ok (.aload_n 0, 1) := by decide +kernel
theorem dX10_share_47 : decode cX10_share 47 = .ok (.getfield 7, 3) := by decide +kernel
theorem dX10_share_50 : decode cX10_share 50 = .ok (.iload 5, 2) := by decide +kernel
theorem dX10_share_52 : decode cX10_share 52 = .ok (.iaload, 1) := by decide +kernel
theorem dX10_share_53 : decode cX10_share 53 = .ok (.iadd, 1) := by decide +kernel
theorem dX10_share_54 : decode cX10_share 54 = .ok (.istore 4, 2) := by decide +kernel
theorem dX10_share_56 : decode cX10_share 56 = .ok (.iinc 5 1, 3) := by decide +kernel
theorem dX10_share_59 : decode cX10_share 59 = .ok (.goto (-51), 3) := by decide +kernel
theorem dX10_share_62 : decode cX10_share 62 = .ok (.iload 4, 2) := by decide +kernel
theorem dX10_share_64 : decode cX10_share 64 = .ok (.ifCond .ne 7, 3) := by decide +kernel
theorem dX10_share_67 : decode cX10_share 67 = .ok (.iconst 0, 1) := by decide +kernel
theorem dX10_share_68 : decode cX10_share 68 = .ok (.goto 10, 3) := by decide +kernel
theorem dX10_share_71 : decode cX10_share 71 = .ok (.bipush 100, 2) := by decide +kernel
theorem dX10_share_73 : decode cX10_share 73 = .ok (.iload_n 3, 1) := by decide +kernel
theorem dX10_share_74 : decode cX10_share 74 = .ok (.imul, 1) := by decide +kernel
theorem dX10_share_75 : decode cX10_share 75 = .ok (.iload 4, 2) := by decide +kernel
theorem dX10_share_77 : decode cX10_share 77 = .ok (.idiv, 1) := by decide +kernel
theorem dX10_share_78 : decode cX10_share 78 = .ok (.ireturn, 1) := by decide +kernel
theorem dX10_missed_0 : decode cX10_missed 0 = .ok (.iconst 0, 1) := by decide +kernel
theorem dX10_missed_1 : decode cX10_missed 1 = .ok (.istore_n 3, 1) := by decide +kernel
theorem dX10_missed_2 : decode cX10_missed 2 = .ok (.iconst 0, 1) := by decide +kernel
theorem dX10_missed_3 : decode cX10_missed 3 = .ok (.istore 4, 2) := by decide +kernel
theorem dX10_missed_5 : decode cX10_missed 5 = .ok (.iload 4, 2) := by decide +kernel
theorem dX10_missed_7 : decode cX10_missed 7 = .ok (.aload_n 0, 1) := by decide +kernel
theorem dX10_missed_8 : decode cX10_missed 8 = .ok (.getfield 87, 3) := by decide +kernel
theorem dX10_missed_11 : decode cX10_missed 11 = .ok (.if_icmp .ge 42, 3) := by decide +kernel
theorem dX10_missed_14 : decode cX10_missed 14 = .ok (.iload_n 3, 1) := by decide +kernel
theorem dX10_missed_15 : decode cX10_missed 15 = .ok (.iload_n 2, 1) := by decide +kernel
theorem dX10_missed_16 : decode cX10_missed 16 = .ok (.iload 4, 2) := by decide +kernel
theorem dX10_missed_18 : decode cX10_missed 18 = .ok (.ishr, 1) := by decide +kernel
theorem dX10_missed_19 : decode cX10_missed 19 = .ok (.iconst 1, 1) := by decide +kernel
theorem dX10_missed_20 : decode cX10_missed 20 = .ok (.iand, 1) := by decide +kernel
theorem dX10_missed_21 : decode cX10_missed 21 = .ok (.iconst 1, 1) := by decide +kernel
theorem dX10_missed_22 : decode cX10_missed 22 = .ok (.if_icmp .ne 22, 3) := by decide +kernel
theorem dX10_missed_25 : decode cX10_missed 25 = .ok (.aload_n 0, 1) := by decide +kernel
theorem dX10_missed_26 : decode cX10_missed 26 = .ok (.getfield 16, 3) := by decide +kernel
theorem dX10_missed_29 : decode cX10_missed 29 = .ok (.bipush 10, 2) := by decide +kernel
theorem dX10_missed_31 : decode cX10_missed 31 = .ok (.iload_n 1, 1) := by decide +kernel
theorem dX10_missed_32 : decode cX10_missed 32 = .ok (.imul, 1) := by decide +kernel
theorem dX10_missed_33 : decode cX10_missed 33 = .ok (.iload 4, 2) := by decide +kernel
theorem dX10_missed_35 : decode cX10_missed 35 = .ok (.iadd, 1) := by decide +kernel
theorem dX10_missed_36 : decode cX10_missed 36 = .ok (.iaload, 1) := by decide +kernel
theorem dX10_missed_37 : decode cX10_missed 37 = .ok (.ifCond .ne 7, 3) := by decide +kernel
theorem dX10_missed_40 : decode cX10_missed 40 = .ok (.iconst 1, 1) := by decide +kernel
