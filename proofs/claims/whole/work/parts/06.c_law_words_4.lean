set_option maxRecDepth 20000 in
theorem ggL_law_X7_tick : GoodIn wsL_law wsX7_tick := goodIn_r _ [627, 181, 182, 183, 5, 184, 185, 186, 187, 188, 189, 628, 629, 630, 631, 382, 180, 105, 118, 632, 633, 634, 635, 342, 119, 120, 121, 636, 637, 638, 639, 132, 111, 122, 127, 640, 133, 123, 131, 124, 641, 642, 135, 129, 128, 125, 643, 126, 644, 441, 442, 443, 444, 645, 646, 647, 648, 112, 649, 650, 651, 652, 653, 654, 655, 656, 657, 658, 659, 130, 134, 136, 660, 137, 138, 661, 662, 663, 664, 110, 104, 245, 246, 247, 248, 665, 666, 667, 668, 113, 114, 669, 670, 671, 672, 109, 106, 107, 108, 673, 674, 675, 676, 677, 678, 679, 680, 681, 682, 683, 684, 242, 243, 244, 864, 865, 866, 867, 868, 869, 870, 871, 872, 873, 874, 875, 876, 877, 878, 879, 880, 881, 882, 883, 884, 885, 886, 887, 888, 889, 890, 891, 892, 893, 894, 895, 896, 897, 898, 899, 900, 901, 902, 903, 904] (by decide +kernel) (by decide +kernel)
set_option maxRecDepth 20000 in
theorem gL_law_X7_tick : GoodIn wsL_law (wsV RL 121 RX7 yX7_tick wsX7_tick) := goodIn_app (goodIn_of _ (by decide +kernel)) ggL_law_X7_tick
set_option maxRecDepth 20000 in
theorem ggL_law_X6_quit : GoodIn wsL_law wsX6_quit := goodIn_r _ [688, 29, 689, 690, 691, 28, 692, 84, 85, 86, 693, 694, 695, 696, 855, 856, 857, 858, 859, 860, 861, 862, 863, 931, 932, 933] (by decide +kernel) (by decide +kernel)
set_option maxRecDepth 20000 in
theorem gL_law_X6_quit : GoodIn wsL_law (wsV RL 122 RX6 yX6_quit wsX6_quit) := goodIn_app (goodIn_of _ (by decide +kernel)) ggL_law_X6_quit
set_option maxRecDepth 20000 in
theorem ggL_law_X7_quit : GoodIn wsL_law wsX7_quit := goodIn_r _ [700, 189, 660, 136, 138, 137, 864, 865, 866, 867, 868, 869, 870, 871, 872, 873, 874, 875, 876, 877, 878, 879, 880, 881, 882, 883, 884, 885, 886, 887, 888, 889, 890, 891, 892, 893, 894, 895, 896, 897, 898, 899, 900, 901, 902, 903, 904] (by decide +kernel) (by decide +kernel)
set_option maxRecDepth 20000 in
theorem gL_law_X7_quit : GoodIn wsL_law (wsV RL 125 RX7 yX7_quit wsX7_quit) := goodIn_app (goodIn_of _ (by decide +kernel)) ggL_law_X7_quit
set_option maxRecDepth 20000 in
theorem ggL_law_L_of : GoodIn wsL_law wsL_of := goodIn_ca (goodIn_ca (goodIn_r _ [703, 201, 143, 704, 705, 706, 2, 707, 149, 150, 16, 264, 265, 266, 267, 210, 211, 21, 160, 161, 162, 20, 163, 50, 151, 152, 153, 708, 550, 551, 15, 552, 44, 502, 228, 229, 709, 499, 500, 501, 45, 710, 520, 521, 522, 523, 855, 856, 857, 858, 859, 860, 861, 862, 863, 907, 908, 909, 910, 911, 912, 913, 914, 915, 905, 906] (by decide +kernel) (by decide +kernel)) (goodIn_sub (fun _ h => List.mem_append_left _ (List.mem_append_left _ (List.mem_append_right _ h))) (by decide +kernel))) (goodIn_sub (fun _ h => List.mem_append_right _ h) (by decide +kernel))
set_option maxRecDepth 20000 in
theorem gL_law_L_of : GoodIn wsL_law (va_wsS RL 126 yL_of wsL_of) := goodIn_app (goodIn_of _ (by decide +kernel)) ggL_law_L_of
set_option maxRecDepth 20000 in
theorem ggL_law_X7_of : GoodIn wsL_law wsX7_of := goodIn_r _ [714, 111, 112, 288, 289, 290, 5, 291, 180, 182, 183, 184, 185, 186, 187, 188, 189, 645, 646, 647, 648, 649, 650, 651, 652, 864, 865, 866, 867, 868, 869, 870, 871, 872, 873, 874, 875, 876, 877, 878, 879, 880, 881, 882, 883, 884, 885, 886, 887, 888, 889, 890, 891, 892, 893, 894, 895, 896, 897, 898, 899, 900, 901, 902, 903, 904] (by decide +kernel) (by decide +kernel)
set_option maxRecDepth 20000 in
theorem gL_law_X7_of : GoodIn wsL_law (wsV RL 128 RX7 yX7_of wsX7_of) := goodIn_app (goodIn_of _ (by decide +kernel)) ggL_law_X7_of
set_option maxRecDepth 20000 in
theorem ggL_law_L_ofUnit : GoodIn wsL_law wsL_ofUnit := goodIn_ca (goodIn_ca (goodIn_r _ [717, 201, 143, 718, 719, 720, 2, 721, 149, 150, 21, 260, 261, 262, 263, 210, 211, 160, 161, 162, 20, 163, 50, 151, 152, 153, 303, 304, 305, 306, 54, 272, 273, 274, 275, 722, 723, 724, 725, 57, 855, 856, 857, 858, 859, 860, 861, 862, 863, 907, 908, 909, 910, 911, 912, 913, 914, 915] (by decide +kernel) (by decide +kernel)) (goodIn_sub (fun _ h => List.mem_append_left _ (List.mem_append_left _ (List.mem_append_right _ h))) (by decide +kernel))) (goodIn_sub (fun _ h => List.mem_append_right _ h) (by decide +kernel))
set_option maxRecDepth 20000 in
theorem gL_law_L_ofUnit : GoodIn wsL_law (va_wsS RL 129 yL_ofUnit wsL_ofUnit) := goodIn_app (goodIn_of _ (by decide +kernel)) ggL_law_L_ofUnit
set_option maxRecDepth 20000 in
theorem ggL_law_X7_ofUnit : GoodIn wsL_law wsX7_ofUnit := goodIn_r _ [729, 105, 109, 284, 285, 286, 5, 287, 180, 182, 183, 184, 185, 186, 187, 188, 189, 864, 865, 866, 867, 868, 869, 870, 871, 872, 873, 874, 875, 876, 877, 878, 879, 880, 881, 882, 883, 884, 885, 886, 887, 888, 889, 890, 891, 892, 893, 894, 895, 896, 897, 898, 899, 900, 901, 902, 903, 904] (by decide +kernel) (by decide +kernel)
set_option maxRecDepth 20000 in
theorem gL_law_X7_ofUnit : GoodIn wsL_law (wsV RL 131 RX7 yX7_ofUnit wsX7_ofUnit) := goodIn_app (goodIn_of _ (by decide +kernel)) ggL_law_X7_ofUnit
set_option maxRecDepth 20000 in
theorem ggL_law_L_ofController : GoodIn wsL_law wsL_ofController := goodIn_ca (goodIn_ca (goodIn_r _ [732, 201, 143, 733, 734, 735, 2, 736, 149, 150, 25, 417, 418, 419, 420, 210, 211, 354, 355, 356, 24, 357, 65, 151, 152, 153, 737, 457, 458, 459, 75, 374, 375, 376, 377, 738, 739, 740, 741, 76, 565, 566, 567, 568, 78, 742, 743, 744, 745, 79, 855, 856, 857, 858, 859, 860, 861, 862, 863, 916, 917, 918, 919, 920, 921, 922, 923, 924, 925, 926, 927, 928, 929, 930] (by decide +kernel) (by decide +kernel)) (goodIn_sub (fun _ h => List.mem_append_left _ (List.mem_append_left _ (List.mem_append_right _ h))) (by decide +kernel))) (goodIn_sub (fun _ h => List.mem_append_right _ h) (by decide +kernel))
set_option maxRecDepth 20000 in
theorem gL_law_L_ofController : GoodIn wsL_law (va_wsS RL 132 yL_ofController wsL_ofController) := goodIn_app (goodIn_of _ (by decide +kernel)) ggL_law_L_ofController
