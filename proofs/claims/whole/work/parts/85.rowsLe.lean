set_option maxRecDepth 20000 in
theorem ggL_law_X9_open : GoodIn wsL_law wsX9_open := goodIn_r _ [689, 30, 690, 666, 691, 692, 568, 569, 29, 570, 55, 324, 571, 572, 573, 574, 487, 493, 532, 533, 534, 535, 536, 537, 538, 539, 789, 790, 791, 792, 793, 794, 795, 844, 845, 846, 847, 848, 849, 850, 851, 852, 833, 834, 835, 836, 837, 838, 839] (by decide +kernel) (by decide +kernel)
set_option maxRecDepth 20000 in
theorem gL_law_X9_open : GoodIn wsL_law (wsV RL 76 RX9 yX9_open wsX9_open) := goodIn_app (goodIn_of _ (by decide +kernel)) ggL_law_X9_open
set_option maxRecDepth 20000 in
theorem ggL_law_X10_open : GoodIn wsL_law wsX10_open := goodIn_r _ [634, 92, 82, 635, 636, 637, 5, 638, 341, 639, 640, 641, 642, 81, 605, 606, 607, 608, 72, 411, 412, 413, 414, 67, 68, 69, 373, 374, 375, 627, 628, 629, 630, 419, 83, 796, 797, 798, 799, 800, 801, 802, 803, 804, 805, 806, 807, 808, 809, 810, 811, 812, 813, 814, 815, 816, 817, 818, 819, 820, 821, 822, 823, 824] (by decide +kernel) (by decide +kernel)
set_option maxRecDepth 20000 in
theorem gL_law_X10_open : GoodIn wsL_law (wsV RL 79 RX10 yX10_open wsX10_open) := goodIn_app (goodIn_of _ (by decide +kernel)) ggL_law_X10_open
set_option maxRecDepth 20000 in
theorem ggL_law_X9_missing : GoodIn wsL_law wsX9_missing := goodIn_r _ [697, 30, 665, 691, 667, 698, 699, 700, 29, 701, 55, 322, 487, 324, 571, 572, 573, 574, 493, 532, 533, 534, 535, 536, 537, 538, 539, 789, 790, 791, 792, 793, 794, 795, 833, 834, 835, 836, 837, 838, 839, 844, 845, 846, 847, 848, 849, 850, 851, 852] (by decide +kernel) (by decide +kernel)
set_option maxRecDepth 20000 in
theorem gL_law_X9_missing : GoodIn wsL_law (wsV RL 80 RX9 yX9_missing wsX9_missing) := goodIn_app (goodIn_of _ (by decide +kernel)) ggL_law_X9_missing
set_option maxRecDepth 20000 in
theorem ggL_law_X10_missing : GoodIn wsL_law wsX10_missing := goodIn_r _ [705, 92, 82, 635, 636, 637, 5, 638, 341, 639, 640, 641, 642, 81, 605, 606, 607, 608, 72, 411, 412, 413, 414, 67, 68, 69, 373, 374, 375, 627, 628, 629, 630, 419, 83, 796, 797, 798, 799, 800, 801, 802, 803, 804, 805, 806, 807, 808, 809, 810, 811, 812, 813, 814, 815, 816, 817, 818, 819, 820, 821, 822, 823, 824] (by decide +kernel) (by decide +kernel)
set_option maxRecDepth 20000 in
theorem gL_law_X10_missing : GoodIn wsL_law (wsV RL 83 RX10 yX10_missing wsX10_missing) := goodIn_app (goodIn_of _ (by decide +kernel)) ggL_law_X10_missing
set_option maxRecDepth 20000 in
theorem ggL_law_X9_explain : GoodIn wsL_law wsX9_explain := goodIn_r _ [709, 30, 690, 710, 711, 712, 537, 538, 29, 539, 55, 493, 487, 324, 789, 790, 791, 792, 793, 794, 795, 844, 845, 846, 847, 848, 849, 850, 851, 852, 833, 834, 835, 836, 837, 838, 839] (by decide +kernel) (by decide +kernel)
set_option maxRecDepth 20000 in
theorem gL_law_X9_explain : GoodIn wsL_law (wsV RL 84 RX9 yX9_explain wsX9_explain) := goodIn_app (goodIn_of _ (by decide +kernel)) ggL_law_X9_explain
