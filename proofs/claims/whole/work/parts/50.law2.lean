set_option maxRecDepth 20000 in
theorem ggL_law_X9_of : GoodIn wsL_law wsX9_of := goodIn_r _ [206, 15, 160, 207, 164, 165, 166, 14, 167, 147, 208, 181, 182, 183, 55, 789, 790, 791, 792, 793, 794, 795, 796, 797, 798, 799, 840, 841, 842, 843, 844, 845] (by decide +kernel) (by decide +kernel)
set_option maxRecDepth 20000 in
theorem gL_law_X9_of : GoodIn wsL_law (wsV RL 23 RX9 yX9_of wsX9_of) := goodIn_app (goodIn_of _ (by decide +kernel)) ggL_law_X9_of
set_option maxRecDepth 20000 in
theorem ggL_law_X10_of : GoodIn wsL_law wsX10_of := goodIn_r _ [212, 115, 116, 117, 199, 200, 201, 5, 202, 152, 153, 154, 155, 800, 801, 802, 803, 804, 805, 806, 807, 808, 809, 810, 811, 812, 813, 814, 815, 816, 817, 818, 819, 820, 821, 822, 823, 824, 825, 826, 827, 828, 829, 830, 831, 832, 833, 834, 835, 836, 837, 838, 839] (by decide +kernel) (by decide +kernel)
set_option maxRecDepth 20000 in
theorem gL_law_X10_of : GoodIn wsL_law (wsV RL 26 RX10 yX10_of wsX10_of) := goodIn_app (goodIn_of _ (by decide +kernel)) ggL_law_X10_of
set_option maxRecDepth 20000 in
theorem ggL_law_X9_got : GoodIn wsL_law wsX9_got := goodIn_r _ [216, 15, 38, 161, 162, 2, 163, 217, 218, 219, 220, 177, 178, 14, 179, 147, 54, 180, 181, 182, 183, 55, 221, 222, 223, 224, 56, 225, 226, 227, 228, 229, 230, 231, 184, 185, 186, 187, 53, 232, 233, 234, 235, 236, 237, 238, 239, 789, 790, 791, 792, 793, 794, 795, 796, 797, 798, 799, 840, 841, 842, 843, 844, 845] (by decide +kernel) (by decide +kernel)
set_option maxRecDepth 20000 in
theorem gL_law_X9_got : GoodIn wsL_law (wsV RL 27 RX9 yX9_got wsX9_got) := goodIn_app (goodIn_of _ (by decide +kernel)) ggL_law_X9_got
set_option maxRecDepth 20000 in
theorem ggL_law_X10_got : GoodIn wsL_law wsX10_got := goodIn_r _ [243, 196, 197, 5, 198, 153, 154, 155, 244, 245, 246, 247, 248, 249, 250, 152, 116, 117, 251, 252, 253, 254, 255, 256, 257, 115, 258, 259, 260, 261, 262, 263, 264, 265, 266, 267, 268, 269, 118, 800, 801, 802, 803, 804, 805, 806, 807, 808, 809, 810, 811, 812, 813, 814, 815, 816, 817, 818, 819, 820, 821, 822, 823, 824, 825, 826, 827, 828, 829, 830, 831, 832, 833, 834, 835, 836, 837, 838, 839] (by decide +kernel) (by decide +kernel)
set_option maxRecDepth 20000 in
theorem gL_law_X10_got : GoodIn wsL_law (wsV RL 31 RX10 yX10_got wsX10_got) := goodIn_app (goodIn_of _ (by decide +kernel)) ggL_law_X10_got
set_option maxRecDepth 20000 in
theorem ggL_law_X9_feed : GoodIn wsL_law wsX9_feed := goodIn_r _ [273, 19, 274, 275, 276, 277, 18, 278, 279, 65, 789, 790, 791, 792, 793, 794, 795, 796, 797, 798, 799, 846, 847] (by decide +kernel) (by decide +kernel)
set_option maxRecDepth 20000 in
theorem gL_law_X9_feed : GoodIn wsL_law (wsV RL 32 RX9 yX9_feed wsX9_feed) := goodIn_app (goodIn_of _ (by decide +kernel)) ggL_law_X9_feed
set_option maxRecDepth 20000 in
theorem ggL_law_X10_feed : GoodIn wsL_law wsX10_feed := goodIn_r _ [283, 284, 128, 800, 801, 802, 803, 804, 805, 806, 807, 808, 809, 810, 811, 812, 813, 814, 815, 816, 817, 818, 819, 820, 821, 822, 823, 824, 825, 826, 827, 828, 829, 830, 831, 832, 833, 834, 835, 836, 837, 838, 839] (by decide +kernel) (by decide +kernel)
set_option maxRecDepth 20000 in
theorem gL_law_X10_feed : GoodIn wsL_law (wsV RL 36 RX10 yX10_feed wsX10_feed) := goodIn_app (goodIn_of _ (by decide +kernel)) ggL_law_X10_feed
