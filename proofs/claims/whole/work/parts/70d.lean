set_option maxRecDepth 20000 in
theorem ggL_law_X5_joined : GoodIn wsL_law wsX5_joined := goodIn_r _ [664, 24, 16, 665, 666, 667, 23, 668, 111, 446, 288, 289, 15, 290, 291, 292, 293, 294, 44, 45, 669, 670, 671, 672, 69, 615, 616, 617, 673, 674, 675, 676, 864, 865, 866, 867, 868, 869, 870, 901, 902, 903, 904, 905, 906, 907, 908, 909, 910, 911, 912, 913, 894, 895, 896, 897] (by decide +kernel) (by decide +kernel)
set_option maxRecDepth 20000 in
theorem gL_law_X5_joined : GoodIn wsL_law (wsV RL 104 RX5 yX5_joined wsX5_joined) := goodIn_app (goodIn_of _ (by decide +kernel)) ggL_law_X5_joined
set_option maxRecDepth 20000 in
theorem ggL_law_X6_joined : GoodIn wsL_law wsX6_joined := goodIn_r _ [680, 129, 89, 90, 303, 304, 305, 5, 306, 307, 308, 309, 310, 95, 96, 122, 123, 124, 871, 872, 873, 874, 875, 876, 877, 878, 879, 880, 881, 882, 883, 884, 885, 886, 887, 888, 889, 890, 891, 892, 893] (by decide +kernel) (by decide +kernel)
set_option maxRecDepth 20000 in
theorem gL_law_X6_joined : GoodIn wsL_law (wsV RL 107 RX6 yX6_joined wsX6_joined) := goodIn_app (goodIn_of _ (by decide +kernel)) ggL_law_X6_joined
set_option maxRecDepth 20000 in
theorem ggL_law_X5_trials : GoodIn wsL_law wsX5_trials := goodIn_r _ [684, 24, 685, 686, 687, 23, 688, 577, 864, 865, 866, 867, 868, 869, 870, 901, 902, 903, 904, 905, 906, 907, 908, 909, 910, 911, 912, 913] (by decide +kernel) (by decide +kernel)
set_option maxRecDepth 20000 in
theorem gL_law_X5_trials : GoodIn wsL_law (wsV RL 108 RX5 yX5_trials wsX5_trials) := goodIn_app (goodIn_of _ (by decide +kernel)) ggL_law_X5_trials
set_option maxRecDepth 20000 in
theorem ggL_law_X6_trials : GoodIn wsL_law wsX6_trials := goodIn_r _ [692, 631, 871, 872, 873, 874, 875, 876, 877, 878, 879, 880, 881, 882, 883, 884, 885, 886, 887, 888, 889, 890, 891, 892, 893] (by decide +kernel) (by decide +kernel)
set_option maxRecDepth 20000 in
theorem gL_law_X6_trials : GoodIn wsL_law (wsV RL 111 RX6 yX6_trials wsX6_trials) := goodIn_app (goodIn_of _ (by decide +kernel)) ggL_law_X6_trials
set_option maxRecDepth 20000 in
theorem ggL_law_X5_known : GoodIn wsL_law wsX5_known := goodIn_r _ [696, 16, 20, 446, 288, 289, 15, 290, 291, 292, 293, 294, 44, 45, 533, 534, 535, 19, 536, 106, 57, 319, 320, 321, 322, 323, 296, 297, 298, 39, 697, 612, 613, 614, 864, 865, 866, 867, 868, 869, 870, 894, 895, 896, 897, 898, 899, 900] (by decide +kernel) (by decide +kernel)
set_option maxRecDepth 20000 in
theorem gL_law_X5_known : GoodIn wsL_law (wsV RL 112 RX5 yX5_known wsX5_known) := goodIn_app (goodIn_of _ (by decide +kernel)) ggL_law_X5_known
set_option maxRecDepth 20000 in
theorem ggL_law_X6_known : GoodIn wsL_law wsX6_known := goodIn_r _ [701, 303, 304, 305, 5, 306, 307, 308, 309, 310, 95, 96, 122, 123, 124, 545, 546, 547, 548, 121, 84, 311, 312, 313, 314, 134, 135, 136, 137, 702, 703, 704, 705, 871, 872, 873, 874, 875, 876, 877, 878, 879, 880, 881, 882, 883, 884, 885, 886, 887, 888, 889, 890, 891, 892, 893] (by decide +kernel) (by decide +kernel)
set_option maxRecDepth 20000 in
theorem gL_law_X6_known : GoodIn wsL_law (wsV RL 115 RX6 yX6_known wsX6_known) := goodIn_app (goodIn_of _ (by decide +kernel)) ggL_law_X6_known
set_option maxRecDepth 20000 in
theorem ggL_law_X5_sheet : GoodIn wsL_law wsX5_sheet := goodIn_r _ [709, 219, 30, 221, 222, 2, 223, 224, 225, 226, 233, 234, 235, 236, 710, 711, 712, 32, 713, 231, 232, 714, 715, 347, 716, 78, 717, 603, 604, 245, 864, 865, 866, 867, 868, 869, 870, 915, 916, 917, 918] (by decide +kernel) (by decide +kernel)
set_option maxRecDepth 20000 in
theorem gL_law_X5_sheet : GoodIn wsL_law (wsV RL 116 RX5 yX5_sheet wsX5_sheet) := goodIn_app (goodIn_of _ (by decide +kernel)) ggL_law_X5_sheet
set_option maxRecDepth 20000 in
theorem ggL_law_X6_sheet : GoodIn wsL_law wsX6_sheet := goodIn_r _ [721, 262, 91, 92, 93, 263, 264, 5, 265, 266, 122, 123, 124, 267, 268, 269, 270, 271, 272, 273, 274, 275, 871, 872, 873, 874, 875, 876, 877, 878, 879, 880, 881, 882, 883, 884, 885, 886, 887, 888, 889, 890, 891, 892, 893] (by decide +kernel) (by decide +kernel)
set_option maxRecDepth 20000 in
theorem gL_law_X6_sheet : GoodIn wsL_law (wsV RL 119 RX6 yX6_sheet wsX6_sheet) := goodIn_app (goodIn_of _ (by decide +kernel)) ggL_law_X6_sheet
set_option maxRecDepth 20000 in
theorem ggL_law_X5_lose : GoodIn wsL_law wsX5_lose := goodIn_r _ [725, 30, 221, 222, 2, 223, 237, 238, 239, 32, 240, 231, 726, 727, 728, 729, 245, 864, 865, 866, 867, 868, 869, 870, 915, 916, 917, 918] (by decide +kernel) (by decide +kernel)
set_option maxRecDepth 20000 in
theorem gL_law_X5_lose : GoodIn wsL_law (wsV RL 120 RX5 yX5_lose wsX5_lose) := goodIn_app (goodIn_of _ (by decide +kernel)) ggL_law_X5_lose
set_option maxRecDepth 20000 in
theorem ggL_law_X6_lose : GoodIn wsL_law wsX6_lose := goodIn_r _ [733, 91, 263, 264, 5, 265, 266, 122, 123, 124, 871, 872, 873, 874, 875, 876, 877, 878, 879, 880, 881, 882, 883, 884, 885, 886, 887, 888, 889, 890, 891, 892, 893] (by decide +kernel) (by decide +kernel)
set_option maxRecDepth 20000 in
theorem gL_law_X6_lose : GoodIn wsL_law (wsV RL 123 RX6 yX6_lose wsX6_lose) := goodIn_app (goodIn_of _ (by decide +kernel)) ggL_law_X6_lose
set_option maxRecDepth 20000 in
theorem ggL_law_X5_put : GoodIn wsL_law wsX5_put := goodIn_r _ [737, 219, 30, 221, 222, 2, 223, 237, 238, 239, 32, 240, 231, 233, 234, 235, 236, 241, 242, 243, 244, 245, 738, 739, 740, 741, 78, 253, 742, 743, 744, 745, 232, 864, 865, 866, 867, 868, 869, 870, 915, 916, 917, 918] (by decide +kernel) (by decide +kernel)
set_option maxRecDepth 20000 in
theorem gL_law_X5_put : GoodIn wsL_law (wsV RL 124 RX5 yX5_put wsX5_put) := goodIn_app (goodIn_of _ (by decide +kernel)) ggL_law_X5_put
set_option maxRecDepth 20000 in
theorem ggL_law_X6_put : GoodIn wsL_law wsX6_put := goodIn_r _ [749, 93, 92, 263, 264, 5, 265, 266, 122, 123, 124, 267, 268, 269, 270, 271, 750, 751, 752, 753, 91, 272, 273, 274, 275, 871, 872, 873, 874, 875, 876, 877, 878, 879, 880, 881, 882, 883, 884, 885, 886, 887, 888, 889, 890, 891, 892, 893] (by decide +kernel) (by decide +kernel)
set_option maxRecDepth 20000 in
theorem gL_law_X6_put : GoodIn wsL_law (wsV RL 127 RX6 yX6_put wsX6_put) := goodIn_app (goodIn_of _ (by decide +kernel)) ggL_law_X6_put
set_option maxRecDepth 20000 in
theorem ggL_law_X5_cell : GoodIn wsL_law wsX5_cell := goodIn_r _ [757, 219, 176, 30, 221, 222, 2, 223, 224, 225, 226, 227, 228, 229, 32, 230, 231, 232, 758, 759, 760, 761, 237, 238, 239, 240, 241, 242, 243, 244, 245, 249, 250, 251, 252, 78, 253, 864, 865, 866, 867, 868, 869, 870, 915, 916, 917, 918] (by decide +kernel) (by decide +kernel)
set_option maxRecDepth 20000 in
theorem gL_law_X5_cell : GoodIn wsL_law (wsV RL 128 RX5 yX5_cell wsX5_cell) := goodIn_app (goodIn_of _ (by decide +kernel)) ggL_law_X5_cell
set_option maxRecDepth 20000 in
theorem ggL_law_X6_cell : GoodIn wsL_law wsX6_cell := goodIn_r _ [765, 271, 262, 91, 92, 93, 263, 264, 5, 265, 266, 122, 123, 124, 203, 204, 205, 206, 766, 767, 768, 769, 750, 751, 752, 753, 871, 872, 873, 874, 875, 876, 877, 878, 879, 880, 881, 882, 883, 884, 885, 886, 887, 888, 889, 890, 891, 892, 893] (by decide +kernel) (by decide +kernel)
set_option maxRecDepth 20000 in
theorem gL_law_X6_cell : GoodIn wsL_law (wsV RL 131 RX6 yX6_cell wsX6_cell) := goodIn_app (goodIn_of _ (by decide +kernel)) ggL_law_X6_cell
