set_option maxRecDepth 20000 in
theorem ggL_law_X7_ofController : GoodIn wsL_law wsX7_ofController := goodIn_r _ [749, 123, 131, 132, 133, 437, 438, 439, 5, 440, 382, 182, 183, 184, 185, 186, 187, 188, 189, 864, 865, 866, 867, 868, 869, 870, 871, 872, 873, 874, 875, 876, 877, 878, 879, 880, 881, 882, 883, 884, 885, 886, 887, 888, 889, 890, 891, 892, 893, 894, 895, 896, 897, 898, 899, 900, 901, 902, 903, 904] (by decide +kernel) (by decide +kernel)
set_option maxRecDepth 20000 in
theorem gL_law_X7_ofController : GoodIn wsL_law (wsV RL 134 RX7 yX7_ofController wsX7_ofController) := goodIn_app (goodIn_of _ (by decide +kernel)) ggL_law_X7_ofController
set_option maxRecDepth 20000 in
theorem ggL_law_L_trend : GoodIn wsL_law wsL_trend := goodIn_ca (goodIn_r _ [752, 201, 753, 754, 755, 2, 756, 210, 211, 38, 37, 264, 265, 266, 267, 21, 160, 161, 162, 20, 163, 50, 151, 152, 153, 757, 758, 759, 36, 760, 99, 616, 617, 618, 619, 620, 621, 622, 855, 856, 857, 858, 859, 860, 861, 862, 863, 907, 908, 909, 910, 911, 912, 913, 914, 915, 938] (by decide +kernel) (by decide +kernel)) (goodIn_sub (fun _ h => List.mem_append_right _ h) (by decide +kernel))
set_option maxRecDepth 20000 in
theorem gL_law_L_trend : GoodIn wsL_law (va_wsS RL 135 yL_trend wsL_trend) := goodIn_app (goodIn_of _ (by decide +kernel)) ggL_law_L_trend
set_option maxRecDepth 20000 in
theorem ggL_law_X7_trend : GoodIn wsL_law wsX7_trend := goodIn_r _ [764, 181, 118, 288, 289, 290, 5, 291, 180, 182, 183, 184, 185, 186, 187, 188, 189, 864, 865, 866, 867, 868, 869, 870, 871, 872, 873, 874, 875, 876, 877, 878, 879, 880, 881, 882, 883, 884, 885, 886, 887, 888, 889, 890, 891, 892, 893, 894, 895, 896, 897, 898, 899, 900, 901, 902, 903, 904] (by decide +kernel) (by decide +kernel)
set_option maxRecDepth 20000 in
theorem gL_law_X7_trend : GoodIn wsL_law (wsV RL 137 RX7 yX7_trend wsX7_trend) := goodIn_app (goodIn_of _ (by decide +kernel)) ggL_law_X7_trend
set_option maxRecDepth 20000 in
theorem ggL_law_X6_balance : GoodIn wsL_law wsX6_balance := goodIn_r _ [768, 21, 16, 39, 494, 495, 496, 20, 497, 60, 498, 499, 500, 15, 501, 45, 502, 228, 229, 769, 770, 771, 772, 50, 52, 773, 774, 775, 776, 777, 778, 779, 780, 57, 855, 856, 857, 858, 859, 860, 861, 862, 863, 907, 908, 909, 910, 911, 912, 913, 914, 915, 905, 906] (by decide +kernel) (by decide +kernel)
set_option maxRecDepth 20000 in
theorem gL_law_X6_balance : GoodIn wsL_law (wsV RL 138 RX6 yX6_balance wsX6_balance) := goodIn_app (goodIn_of _ (by decide +kernel)) ggL_law_X6_balance
set_option maxRecDepth 20000 in
theorem ggL_law_X7_balance : GoodIn wsL_law wsX7_balance := goodIn_r _ [784, 189, 864, 865, 866, 867, 868, 869, 870, 871, 872, 873, 874, 875, 876, 877, 878, 879, 880, 881, 882, 883, 884, 885, 886, 887, 888, 889, 890, 891, 892, 893, 894, 895, 896, 897, 898, 899, 900, 901, 902, 903, 904] (by decide +kernel) (by decide +kernel)
set_option maxRecDepth 20000 in
theorem gL_law_X7_balance : GoodIn wsL_law (wsV RL 141 RX7 yX7_balance wsX7_balance) := goodIn_app (goodIn_of _ (by decide +kernel)) ggL_law_X7_balance
set_option maxRecDepth 20000 in
theorem ggL_law_X6_alarms : GoodIn wsL_law wsX6_alarms := goodIn_r _ [788, 29, 789, 790, 791, 28, 792, 84, 855, 856, 857, 858, 859, 860, 861, 862, 863, 931, 932, 933] (by decide +kernel) (by decide +kernel)
set_option maxRecDepth 20000 in
theorem gL_law_X6_alarms : GoodIn wsL_law (wsV RL 142 RX6 yX6_alarms wsX6_alarms) := goodIn_app (goodIn_of _ (by decide +kernel)) ggL_law_X6_alarms
set_option maxRecDepth 20000 in
theorem ggL_law_X7_alarms : GoodIn wsL_law wsX7_alarms := goodIn_r _ [796, 189, 660, 864, 865, 866, 867, 868, 869, 870, 871, 872, 873, 874, 875, 876, 877, 878, 879, 880, 881, 882, 883, 884, 885, 886, 887, 888, 889, 890, 891, 892, 893, 894, 895, 896, 897, 898, 899, 900, 901, 902, 903, 904] (by decide +kernel) (by decide +kernel)
set_option maxRecDepth 20000 in
theorem gL_law_X7_alarms : GoodIn wsL_law (wsV RL 145 RX7 yX7_alarms wsX7_alarms) := goodIn_app (goodIn_of _ (by decide +kernel)) ggL_law_X7_alarms
set_option maxRecDepth 20000 in
theorem ggL_law_L_gain : GoodIn wsL_law wsL_gain := goodIn_ca (goodIn_r _ [799, 201, 800, 801, 802, 2, 803, 260, 261, 262, 263, 210, 211, 21, 160, 161, 162, 20, 163, 50, 151, 152, 153, 264, 265, 266, 267, 804, 805, 806, 807, 303, 304, 305, 306, 54, 272, 273, 274, 275, 268, 269, 270, 271, 52, 215, 216, 217, 218, 808, 809, 810, 811, 17, 16, 812, 813, 814, 15, 815, 44, 45, 816, 579, 580, 581, 53, 582, 583, 584, 585, 502, 228, 229, 586, 587, 588, 589, 55, 590, 591, 550, 551, 552, 498, 499, 500, 501, 592, 593, 594, 595, 56, 596, 597, 598, 599, 600, 601, 537, 602, 603, 520, 521, 522, 523, 604, 605, 606, 607, 529, 530, 608, 609, 610, 611, 710, 855, 856, 857, 858, 859, 860, 861, 862, 863, 907, 908, 909, 910, 911, 912, 913, 914, 915, 905, 906] (by decide +kernel) (by decide +kernel)) (goodIn_sub (fun _ h => List.mem_append_right _ h) (by decide +kernel))
set_option maxRecDepth 20000 in
theorem gL_law_L_gain : GoodIn wsL_law (va_wsS RL 146 yL_gain wsL_gain) := goodIn_app (goodIn_of _ (by decide +kernel)) ggL_law_L_gain
