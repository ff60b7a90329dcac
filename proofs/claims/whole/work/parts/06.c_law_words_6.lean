set_option maxRecDepth 20000 in
theorem ggL_law_X7_gain : GoodIn wsL_law wsX7_gain := goodIn_r _ [820, 284, 285, 286, 5, 287, 180, 182, 183, 184, 288, 289, 290, 291, 185, 186, 187, 188, 189, 821, 822, 823, 824, 825, 826, 827, 828, 104, 105, 829, 830, 831, 832, 115, 111, 116, 112, 117, 109, 665, 666, 667, 668, 113, 114, 245, 246, 247, 248, 653, 654, 655, 669, 670, 671, 672, 106, 107, 108, 640, 652, 673, 674, 675, 676, 677, 678, 679, 680, 681, 682, 683, 684, 242, 243, 244, 649, 650, 651, 645, 646, 647, 648, 864, 865, 866, 867, 868, 869, 870, 871, 872, 873, 874, 875, 876, 877, 878, 879, 880, 881, 882, 883, 884, 885, 886, 887, 888, 889, 890, 891, 892, 893, 894, 895, 896, 897, 898, 899, 900, 901, 902, 903, 904] (by decide +kernel) (by decide +kernel)
set_option maxRecDepth 20000 in
theorem gL_law_X7_gain : GoodIn wsL_law (wsV RL 148 RX7 yX7_gain wsX7_gain) := goodIn_app (goodIn_of _ (by decide +kernel)) ggL_law_X7_gain
set_option maxRecDepth 20000 in
theorem ggL_law_L_relative : GoodIn wsL_law wsL_relative := goodIn_ca (goodIn_r _ [835, 201, 836, 837, 838, 2, 839, 840, 841, 260, 261, 262, 263, 210, 211, 21, 160, 161, 162, 20, 163, 50, 151, 152, 153, 264, 265, 266, 267, 804, 805, 806, 807, 303, 304, 305, 306, 54, 272, 273, 274, 275, 268, 269, 270, 271, 52, 215, 216, 217, 218, 808, 809, 810, 811, 17, 16, 812, 813, 814, 15, 815, 44, 45, 816, 579, 580, 581, 53, 582, 583, 584, 585, 502, 228, 229, 586, 587, 588, 589, 55, 590, 591, 550, 551, 552, 498, 499, 500, 501, 592, 593, 594, 595, 56, 596, 597, 598, 599, 600, 601, 537, 602, 603, 520, 521, 522, 523, 604, 605, 606, 607, 529, 530, 608, 609, 610, 611, 710, 855, 856, 857, 858, 859, 860, 861, 862, 863, 907, 908, 909, 910, 911, 912, 913, 914, 915, 905, 906] (by decide +kernel) (by decide +kernel)) (goodIn_sub (fun _ h => List.mem_append_right _ h) (by decide +kernel))
set_option maxRecDepth 20000 in
theorem gL_law_L_relative : GoodIn wsL_law (va_wsS RL 149 yL_relative wsL_relative) := goodIn_app (goodIn_of _ (by decide +kernel)) ggL_law_L_relative
set_option maxRecDepth 20000 in
theorem ggL_law_X7_relative : GoodIn wsL_law wsX7_relative := goodIn_r _ [845, 846, 640, 284, 285, 286, 5, 287, 180, 182, 183, 184, 288, 289, 290, 291, 185, 186, 187, 188, 189, 821, 822, 823, 824, 825, 826, 827, 828, 104, 105, 829, 830, 831, 832, 115, 111, 116, 112, 117, 109, 665, 666, 667, 668, 113, 114, 245, 246, 247, 248, 653, 654, 655, 669, 670, 671, 672, 106, 107, 108, 652, 673, 674, 675, 676, 677, 678, 679, 680, 681, 682, 683, 684, 242, 243, 244, 649, 650, 651, 645, 646, 647, 648, 864, 865, 866, 867, 868, 869, 870, 871, 872, 873, 874, 875, 876, 877, 878, 879, 880, 881, 882, 883, 884, 885, 886, 887, 888, 889, 890, 891, 892, 893, 894, 895, 896, 897, 898, 899, 900, 901, 902, 903, 904] (by decide +kernel) (by decide +kernel)
set_option maxRecDepth 20000 in
theorem gL_law_X7_relative : GoodIn wsL_law (wsV RL 151 RX7 yX7_relative wsX7_relative) := goodIn_app (goodIn_of _ (by decide +kernel)) ggL_law_X7_relative
set_option maxRecDepth 20000 in
theorem ggL_law_X6_now : GoodIn wsL_law wsX6_now := goodIn_r _ [850, 38, 855, 856, 857, 858, 859, 860, 861, 862, 863] (by decide +kernel) (by decide +kernel)
set_option maxRecDepth 20000 in
theorem gL_law_X6_now : GoodIn wsL_law (wsV RL 152 RX6 yX6_now wsX6_now) := goodIn_app (goodIn_of _ (by decide +kernel)) ggL_law_X6_now
set_option maxRecDepth 20000 in
theorem ggL_law_X7_now : GoodIn wsL_law wsX7_now := goodIn_r _ [854, 189, 181, 864, 865, 866, 867, 868, 869, 870, 871, 872, 873, 874, 875, 876, 877, 878, 879, 880, 881, 882, 883, 884, 885, 886, 887, 888, 889, 890, 891, 892, 893, 894, 895, 896, 897, 898, 899, 900, 901, 902, 903, 904] (by decide +kernel) (by decide +kernel)
set_option maxRecDepth 20000 in
theorem gL_law_X7_now : GoodIn wsL_law (wsV RL 155 RX7 yX7_now wsX7_now) := goodIn_app (goodIn_of _ (by decide +kernel)) ggL_law_X7_now
