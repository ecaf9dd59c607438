set_option maxRecDepth 20000 in
theorem ggL_law_X10_cls : GoodIn wsL_law wsX10_cls := goodIn_r _ [660, 92, 627, 628, 629, 5, 630, 419, 83, 796, 797, 798, 799, 800, 801, 802, 803, 804, 805, 806, 807, 808, 809, 810, 811, 812, 813, 814, 815, 816, 817, 818, 819, 820, 821, 822, 823, 824] (by decide +kernel) (by decide +kernel)
set_option maxRecDepth 20000 in
theorem gL_law_X10_cls : GoodIn wsL_law (wsV RL 67 RX10 yX10_cls wsX10_cls) := goodIn_app (goodIn_of _ (by decide +kernel)) ggL_law_X10_cls
set_option maxRecDepth 20000 in
theorem ggL_law_X9_mark : GoodIn wsL_law wsX9_mark := goodIn_r _ [664, 30, 665, 666, 667, 668, 669, 670, 29, 671, 493, 322, 536, 537, 538, 539, 55, 487, 324, 789, 790, 791, 792, 793, 794, 795, 833, 834, 835, 836, 837, 838, 839, 844, 845, 846, 847, 848, 849, 850, 851, 852] (by decide +kernel) (by decide +kernel)
set_option maxRecDepth 20000 in
theorem gL_law_X9_mark : GoodIn wsL_law (wsV RL 68 RX9 yX9_mark wsX9_mark) := goodIn_app (goodIn_of _ (by decide +kernel)) ggL_law_X9_mark
set_option maxRecDepth 20000 in
theorem ggL_law_X10_mark : GoodIn wsL_law wsX10_mark := goodIn_r _ [675, 92, 419, 83, 796, 797, 798, 799, 800, 801, 802, 803, 804, 805, 806, 807, 808, 809, 810, 811, 812, 813, 814, 815, 816, 817, 818, 819, 820, 821, 822, 823, 824] (by decide +kernel) (by decide +kernel)
set_option maxRecDepth 20000 in
theorem gL_law_X10_mark : GoodIn wsL_law (wsV RL 71 RX10 yX10_mark wsX10_mark) := goodIn_app (goodIn_of _ (by decide +kernel)) ggL_law_X10_mark
set_option maxRecDepth 20000 in
theorem ggL_law_X9_moving : GoodIn wsL_law wsX9_moving := goodIn_r _ [679, 680, 653, 654, 2, 655, 30, 656, 533, 534, 29, 535, 536, 537, 538, 539, 55, 493, 487, 324, 789, 790, 791, 792, 793, 794, 795, 833, 834, 835, 836, 837, 838, 839, 844, 845, 846, 847, 848, 849, 850, 851, 852] (by decide +kernel) (by decide +kernel)
set_option maxRecDepth 20000 in
theorem gL_law_X9_moving : GoodIn wsL_law (wsV RL 72 RX9 yX9_moving wsX9_moving) := goodIn_app (goodIn_of _ (by decide +kernel)) ggL_law_X9_moving
set_option maxRecDepth 20000 in
theorem ggL_law_X10_moving : GoodIn wsL_law wsX10_moving := goodIn_r _ [684, 685, 658, 659, 5, 660, 92, 627, 628, 629, 630, 419, 83, 796, 797, 798, 799, 800, 801, 802, 803, 804, 805, 806, 807, 808, 809, 810, 811, 812, 813, 814, 815, 816, 817, 818, 819, 820, 821, 822, 823, 824] (by decide +kernel) (by decide +kernel)
set_option maxRecDepth 20000 in
theorem gL_law_X10_moving : GoodIn wsL_law (wsV RL 75 RX10 yX10_moving wsX10_moving) := goodIn_app (goodIn_of _ (by decide +kernel)) ggL_law_X10_moving
