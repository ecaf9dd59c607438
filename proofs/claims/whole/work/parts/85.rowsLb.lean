set_option maxRecDepth 20000 in
theorem ggL_law_X10_test : GoodIn wsL_law wsX10_test := goodIn_r _ [457, 92, 78, 796, 797, 798, 799, 800, 801, 802, 803, 804, 805, 806, 807, 808, 809, 810, 811, 812, 813, 814, 815, 816, 817, 818, 819, 820, 821, 822, 823, 824] (by decide +kernel) (by decide +kernel)
set_option maxRecDepth 20000 in
theorem gL_law_X10_test : GoodIn wsL_law (wsV RL 45 RX10 yX10_test wsX10_test) := goodIn_app (goodIn_of _ (by decide +kernel)) ggL_law_X10_test
set_option maxRecDepth 20000 in
theorem ggL_law_X9_clearParts : GoodIn wsL_law wsX9_clearParts := goodIn_r _ [461, 26, 462, 463, 464, 25, 465, 46, 47, 48, 49, 50, 51, 789, 790, 791, 792, 793, 794, 795, 828, 829, 830, 831, 832] (by decide +kernel) (by decide +kernel)
set_option maxRecDepth 20000 in
theorem gL_law_X9_clearParts : GoodIn wsL_law (wsV RL 46 RX9 yX9_clearParts wsX9_clearParts) := goodIn_app (goodIn_of _ (by decide +kernel)) ggL_law_X9_clearParts
set_option maxRecDepth 20000 in
theorem ggL_law_X10_clearParts : GoodIn wsL_law wsX10_clearParts := goodIn_r _ [469, 92, 77, 78, 796, 797, 798, 799, 800, 801, 802, 803, 804, 805, 806, 807, 808, 809, 810, 811, 812, 813, 814, 815, 816, 817, 818, 819, 820, 821, 822, 823, 824] (by decide +kernel) (by decide +kernel)
set_option maxRecDepth 20000 in
theorem gL_law_X10_clearParts : GoodIn wsL_law (wsV RL 49 RX10 yX10_clearParts wsX10_clearParts) := goodIn_app (goodIn_of _ (by decide +kernel)) ggL_law_X10_clearParts
set_option maxRecDepth 20000 in
theorem ggL_law_X9_way : GoodIn wsL_law wsX9_way := goodIn_r _ [473, 26, 474, 789, 790, 791, 792, 793, 794, 795, 828, 829, 830, 831, 832] (by decide +kernel) (by decide +kernel)
set_option maxRecDepth 20000 in
theorem gL_law_X9_way : GoodIn wsL_law (wsV RL 50 RX9 yX9_way wsX9_way) := goodIn_app (goodIn_of _ (by decide +kernel)) ggL_law_X9_way
set_option maxRecDepth 20000 in
theorem ggL_law_X10_way : GoodIn wsL_law wsX10_way := goodIn_r _ [478, 92, 79, 796, 797, 798, 799, 800, 801, 802, 803, 804, 805, 806, 807, 808, 809, 810, 811, 812, 813, 814, 815, 816, 817, 818, 819, 820, 821, 822, 823, 824] (by decide +kernel) (by decide +kernel)
set_option maxRecDepth 20000 in
theorem gL_law_X10_way : GoodIn wsL_law (wsV RL 54 RX10 yX10_way wsX10_way) := goodIn_app (goodIn_of _ (by decide +kernel)) ggL_law_X10_way
