set_option maxRecDepth 20000 in
theorem ggL_t_wsX60 : GoodIn wsL_law wsX60 := goodIn_r _ [772, 773, 774, 775, 776, 777, 778, 779, 780, 781] (by decide +kernel) (by decide +kernel)
set_option maxRecDepth 20000 in
theorem ggL_t_wsJx4a65c0 : GoodIn wsL_law wsJx4a65c0 := goodIn_r _ [822, 823, 824] (by decide +kernel) (by decide +kernel)
set_option maxRecDepth 20000 in
theorem ggL_t_wsX30 : GoodIn wsL_law wsX30 := goodIn_r _ [825, 826, 827, 828] (by decide +kernel) (by decide +kernel)
set_option maxRecDepth 20000 in
theorem ggL_t_wsX10 : GoodIn wsL_law wsX10 := goodIn_r _ [829, 830, 831, 832, 833] (by decide +kernel) (by decide +kernel)
set_option maxRecDepth 20000 in
theorem ggL_t_wsX50 : GoodIn wsL_law wsX50 := goodIn_r _ [834, 835] (by decide +kernel) (by decide +kernel)
set_option maxRecDepth 20000 in
theorem ggL_t_wsX40 : GoodIn wsL_law wsX40 := goodIn_r _ [836, 837, 838, 839, 840, 841] (by decide +kernel) (by decide +kernel)
set_option maxRecDepth 20000 in
theorem ggL_t_wsX00 : GoodIn wsL_law wsX00 := goodIn_r _ [842, 843, 844, 845, 846] (by decide +kernel) (by decide +kernel)
set_option maxRecDepth 20000 in
theorem ggL_t_wsX70 : GoodIn wsL_law wsX70 := goodIn_r _ [782, 783, 784, 785, 786, 787, 788, 789, 790, 791, 792, 793, 794, 795, 796, 797, 798, 799, 800, 801, 802, 803, 804, 805, 806, 807, 808, 809, 810, 811, 812, 813, 814, 815, 816, 817, 818, 819, 820, 821] (by decide +kernel) (by decide +kernel)
set_option maxRecDepth 20000 in
theorem ggL_t_wsX20 : GoodIn wsL_law wsX20 := goodIn_r _ [847, 848, 849, 850, 851, 852, 853, 854, 855, 856, 857, 858] (by decide +kernel) (by decide +kernel)
