set_option maxRecDepth 20000 in
theorem ggL_law_X10_explain : GoodIn wsL_law wsX10_explain := goodIn_r _ [716, 92, 341, 81, 72, 605, 606, 607, 5, 608, 411, 412, 413, 414, 67, 68, 69, 373, 374, 375, 717, 718, 719, 720, 597, 598, 599, 600, 601, 602, 603, 604, 381, 382, 407, 408, 409, 410, 340, 365, 366, 367, 368, 796, 797, 798, 799, 800, 801, 802, 803, 804, 805, 806, 807, 808, 809, 810, 811, 812, 813, 814, 815, 816, 817, 818, 819, 820, 821, 822, 823, 824] (by decide +kernel) (by decide +kernel)
set_option maxRecDepth 20000 in
theorem gL_law_X10_explain : GoodIn wsL_law (wsV RL 88 RX10 yX10_explain wsX10_explain) := goodIn_app (goodIn_of _ (by decide +kernel)) ggL_law_X10_explain
set_option maxRecDepth 20000 in
theorem ggL_law_X9_limit : GoodIn wsL_law wsX9_limit := goodIn_r _ [724, 725, 30, 665, 726, 727, 666, 667, 728, 729, 730, 233, 731, 245, 498, 732, 733, 317, 789, 790, 791, 792, 793, 794, 795, 833, 834, 835, 836, 837, 838, 839, 844, 845, 846, 847, 848, 849, 850, 851, 852, 853, 854, 855, 856, 857, 858, 859] (by decide +kernel) (by decide +kernel)
set_option maxRecDepth 20000 in
theorem gL_law_X9_limit : GoodIn wsL_law (wsV RL 89 RX9 yX9_limit wsX9_limit) := goodIn_app (goodIn_of _ (by decide +kernel)) ggL_law_X9_limit
set_option maxRecDepth 20000 in
theorem ggL_law_X10_limit : GoodIn wsL_law wsX10_limit := goodIn_r _ [737, 92, 738, 341, 80, 73, 391, 621, 398, 605, 606, 607, 5, 608, 72, 411, 412, 413, 414, 67, 68, 69, 373, 374, 375, 597, 598, 599, 600, 407, 408, 409, 410, 340, 365, 366, 367, 368, 623, 624, 625, 626, 622, 588, 396, 397, 405, 406, 77, 75, 76, 601, 602, 603, 604, 381, 382, 796, 797, 798, 799, 800, 801, 802, 803, 804, 805, 806, 807, 808, 809, 810, 811, 812, 813, 814, 815, 816, 817, 818, 819, 820, 821, 822, 823, 824] (by decide +kernel) (by decide +kernel)
set_option maxRecDepth 20000 in
theorem gL_law_X10_limit : GoodIn wsL_law (wsV RL 93 RX10 yX10_limit wsX10_limit) := goodIn_app (goodIn_of _ (by decide +kernel)) ggL_law_X10_limit
set_option maxRecDepth 20000 in
theorem ggL_law_X9_sum : GoodIn wsL_law wsX9_sum := goodIn_r _ [742, 30, 26, 743, 744, 745, 29, 746, 55, 322, 324, 747, 748, 749, 233, 750, 245, 498, 317, 751, 545, 546, 25, 547, 548, 549, 550, 551, 552, 553, 554, 555, 46, 752, 557, 558, 559, 560, 561, 562, 563, 564, 44, 43, 565, 566, 789, 790, 791, 792, 793, 794, 795, 833, 834, 835, 836, 837, 838, 839, 844, 845, 846, 847, 848, 849, 850, 851, 852, 853, 854, 855, 856, 857, 858, 859, 860, 861, 862, 863, 864, 865, 828, 829, 830, 831, 832] (by decide +kernel) (by decide +kernel)
set_option maxRecDepth 20000 in
theorem gL_law_X9_sum : GoodIn wsL_law (wsV RL 94 RX9 yX9_sum wsX9_sum) := goodIn_app (goodIn_of _ (by decide +kernel)) ggL_law_X9_sum
set_option maxRecDepth 20000 in
theorem ggL_law_X10_sum : GoodIn wsL_law wsX10_sum := goodIn_r _ [756, 92, 341, 391, 588, 622, 597, 598, 599, 5, 600, 72, 407, 408, 409, 410, 340, 67, 68, 69, 365, 366, 367, 368, 623, 624, 625, 626, 396, 397, 405, 406, 77, 75, 76, 621, 411, 412, 413, 414, 373, 374, 375, 601, 602, 603, 604, 381, 382, 796, 797, 798, 799, 800, 801, 802, 803, 804, 805, 806, 807, 808, 809, 810, 811, 812, 813, 814, 815, 816, 817, 818, 819, 820, 821, 822, 823, 824] (by decide +kernel) (by decide +kernel)
set_option maxRecDepth 20000 in
theorem gL_law_X10_sum : GoodIn wsL_law (wsV RL 98 RX10 yX10_sum wsX10_sum) := goodIn_app (goodIn_of _ (by decide +kernel)) ggL_law_X10_sum
