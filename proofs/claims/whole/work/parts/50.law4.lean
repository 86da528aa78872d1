set_option maxRecDepth 20000 in
theorem ggL_law_X9_phrase : GoodIn wsL_law wsX9_phrase := goodIn_r _ [551, 31, 552, 553, 2, 554, 555, 556, 557, 558, 559, 560, 561, 19, 274, 562, 563, 564, 30, 565, 99, 566, 98, 567, 100, 568, 569, 570, 571, 789, 790, 791, 792, 793, 794, 795, 796, 797, 798, 799, 846, 847, 856, 857, 858] (by decide +kernel) (by decide +kernel)
set_option maxRecDepth 20000 in
theorem gL_law_X9_phrase : GoodIn wsL_law (wsV RL 52 RX9 yX9_phrase wsX9_phrase) := goodIn_app (goodIn_of _ (by decide +kernel)) ggL_law_X9_phrase
set_option maxRecDepth 20000 in
theorem ggL_law_X10_phrase : GoodIn wsL_law wsX10_phrase := goodIn_r _ [575, 284, 132, 133, 128, 153, 154, 5, 155, 576, 577, 578, 800, 801, 802, 803, 804, 805, 806, 807, 808, 809, 810, 811, 812, 813, 814, 815, 816, 817, 818, 819, 820, 821, 822, 823, 824, 825, 826, 827, 828, 829, 830, 831, 832, 833, 834, 835, 836, 837, 838, 839] (by decide +kernel) (by decide +kernel)
set_option maxRecDepth 20000 in
theorem gL_law_X10_phrase : GoodIn wsL_law (wsV RL 56 RX10 yX10_phrase wsX10_phrase) := goodIn_app (goodIn_of _ (by decide +kernel)) ggL_law_X10_phrase
set_option maxRecDepth 20000 in
theorem ggL_law_X9_name : GoodIn wsL_law wsX9_name := goodIn_r _ [582, 32, 217, 218, 2, 219, 552, 553, 554, 555, 556, 557, 558, 559, 560, 561, 19, 274, 562, 563, 564, 30, 565, 99, 566, 98, 567, 100, 568, 569, 570, 571, 789, 790, 791, 792, 793, 794, 795, 796, 797, 798, 799, 846, 847, 856, 857, 858] (by decide +kernel) (by decide +kernel)
set_option maxRecDepth 20000 in
theorem gL_law_X9_name : GoodIn wsL_law (wsV RL 57 RX9 yX9_name wsX9_name) := goodIn_app (goodIn_of _ (by decide +kernel)) ggL_law_X9_name
set_option maxRecDepth 20000 in
theorem ggL_law_X10_name : GoodIn wsL_law wsX10_name := goodIn_r _ [586, 284, 134, 135, 128, 244, 245, 5, 246, 153, 154, 155, 576, 577, 578, 800, 801, 802, 803, 804, 805, 806, 807, 808, 809, 810, 811, 812, 813, 814, 815, 816, 817, 818, 819, 820, 821, 822, 823, 824, 825, 826, 827, 828, 829, 830, 831, 832, 833, 834, 835, 836, 837, 838, 839] (by decide +kernel) (by decide +kernel)
set_option maxRecDepth 20000 in
theorem gL_law_X10_name : GoodIn wsL_law (wsV RL 60 RX10 yX10_name wsX10_name) := goodIn_app (goodIn_of _ (by decide +kernel)) ggL_law_X10_name
set_option maxRecDepth 20000 in
theorem ggL_law_X9_page : GoodIn wsL_law wsX9_page := goodIn_r _ [590, 591, 161, 162, 2, 163, 592, 593, 594, 595, 34, 15, 37, 46, 299, 220, 177, 178, 14, 179, 147, 54, 180, 181, 182, 183, 55, 221, 222, 223, 224, 56, 225, 226, 227, 228, 229, 230, 231, 184, 185, 186, 187, 53, 232, 233, 234, 235, 236, 237, 238, 239, 596, 597, 598, 599, 600, 27, 601, 602, 603, 45, 604, 87, 605, 606, 607, 48, 608, 609, 109, 108, 610, 611, 612, 26, 613, 614, 615, 616, 617, 618, 619, 620, 621, 622, 623, 624, 93, 625, 626, 627, 628, 629, 630, 631, 632, 633, 634, 635, 636, 637, 638, 110, 867, 868, 869, 870, 789, 790, 791, 792, 793, 794, 795, 796, 797, 798, 799, 861, 862, 863, 864, 865, 866, 840, 841, 842, 843, 844, 845, 854, 855] (by decide +kernel) (by decide +kernel)
set_option maxRecDepth 20000 in
theorem gL_law_X9_page : GoodIn wsL_law (wsV RL 61 RX9 yX9_page wsX9_page) := goodIn_app (goodIn_of _ (by decide +kernel)) ggL_law_X9_page
set_option maxRecDepth 20000 in
theorem ggL_law_X10_page : GoodIn wsL_law wsX10_page := goodIn_r _ [642, 643, 196, 197, 5, 198, 153, 154, 155, 644, 645, 646, 647, 461, 120, 119, 130, 131, 247, 248, 249, 250, 152, 116, 117, 648, 649, 650, 651, 266, 267, 268, 269, 118, 254, 255, 256, 257, 115, 652, 653, 654, 655, 121, 122, 127, 656, 657, 658, 659, 251, 252, 253, 258, 259, 260, 261, 262, 263, 264, 265, 660, 661, 662, 800, 801, 802, 803, 804, 805, 806, 807, 808, 809, 810, 811, 812, 813, 814, 815, 816, 817, 818, 819, 820, 821, 822, 823, 824, 825, 826, 827, 828, 829, 830, 831, 832, 833, 834, 835, 836, 837, 838, 839] (by decide +kernel) (by decide +kernel)
set_option maxRecDepth 20000 in
theorem gL_law_X10_page : GoodIn wsL_law (wsV RL 64 RX10 yX10_page wsX10_page) := goodIn_app (goodIn_of _ (by decide +kernel)) ggL_law_X10_page
