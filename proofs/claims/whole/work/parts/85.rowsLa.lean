set_option maxRecDepth 20000 in
theorem ggL_law_X9_edition : GoodIn wsL_law wsX9_edition := goodIn_r _ [423, 30, 424, 425, 426, 29, 427, 58, 203, 215, 789, 790, 791, 792, 793, 794, 795, 833, 834, 835, 836, 837, 838, 839, 842, 843] (by decide +kernel) (by decide +kernel)
set_option maxRecDepth 20000 in
theorem gL_law_X9_edition : GoodIn wsL_law (wsV RL 31 RX9 yX9_edition wsX9_edition) := goodIn_app (goodIn_of _ (by decide +kernel)) ggL_law_X9_edition
set_option maxRecDepth 20000 in
theorem ggL_law_X10_edition : GoodIn wsL_law wsX10_edition := goodIn_r _ [431, 92, 342, 74, 796, 797, 798, 799, 800, 801, 802, 803, 804, 805, 806, 807, 808, 809, 810, 811, 812, 813, 814, 815, 816, 817, 818, 819, 820, 821, 822, 823, 824] (by decide +kernel) (by decide +kernel)
set_option maxRecDepth 20000 in
theorem gL_law_X10_edition : GoodIn wsL_law (wsV RL 35 RX10 yX10_edition wsX10_edition) := goodIn_app (goodIn_of _ (by decide +kernel)) ggL_law_X10_edition
set_option maxRecDepth 20000 in
theorem ggL_law_X9_part : GoodIn wsL_law wsX9_part := goodIn_r _ [435, 26, 436, 437, 438, 25, 439, 440, 43, 44, 46, 789, 790, 791, 792, 793, 794, 795, 828, 829, 830, 831, 832] (by decide +kernel) (by decide +kernel)
set_option maxRecDepth 20000 in
theorem gL_law_X9_part : GoodIn wsL_law (wsV RL 36 RX9 yX9_part wsX9_part) := goodIn_app (goodIn_of _ (by decide +kernel)) ggL_law_X9_part
set_option maxRecDepth 20000 in
theorem ggL_law_X10_part : GoodIn wsL_law wsX10_part := goodIn_r _ [444, 92, 445, 77, 75, 76, 796, 797, 798, 799, 800, 801, 802, 803, 804, 805, 806, 807, 808, 809, 810, 811, 812, 813, 814, 815, 816, 817, 818, 819, 820, 821, 822, 823, 824] (by decide +kernel) (by decide +kernel)
set_option maxRecDepth 20000 in
theorem gL_law_X10_part : GoodIn wsL_law (wsV RL 40 RX10 yX10_part wsX10_part) := goodIn_app (goodIn_of _ (by decide +kernel)) ggL_law_X10_part
set_option maxRecDepth 20000 in
theorem ggL_law_X9_test : GoodIn wsL_law wsX9_test := goodIn_r _ [449, 26, 450, 451, 452, 25, 453, 47, 789, 790, 791, 792, 793, 794, 795, 828, 829, 830, 831, 832] (by decide +kernel) (by decide +kernel)
set_option maxRecDepth 20000 in
theorem gL_law_X9_test : GoodIn wsL_law (wsV RL 41 RX9 yX9_test wsX9_test) := goodIn_app (goodIn_of _ (by decide +kernel)) ggL_law_X9_test
