set_option maxRecDepth 20000 in
theorem ggL_law_X5_joined : GoodIn wsL_law wsX5_joined := goodIn_r _ [651, 24, 16, 652, 653, 654, 23, 655, 107, 442, 284, 285, 15, 286, 287, 288, 289, 290, 44, 45, 656, 657, 658, 659, 66, 65, 660, 661, 662, 663, 664, 854, 855, 856, 857, 858, 859, 860, 891, 892, 893, 894, 895, 896, 897, 898, 899, 900, 901, 902, 903, 884, 885, 886, 887] (by decide +kernel) (by decide +kernel)
set_option maxRecDepth 20000 in
theorem gL_law_X5_joined : GoodIn wsL_law (wsV RL 104 RX5 yX5_joined wsX5_joined) := goodIn_app (goodIn_of _ (by decide +kernel)) ggL_law_X5_joined
set_option maxRecDepth 20000 in
theorem ggL_law_X6_joined : GoodIn wsL_law wsX6_joined := goodIn_r _ [668, 125, 85, 86, 299, 300, 301, 5, 302, 303, 304, 305, 306, 91, 92, 118, 119, 120, 861, 862, 863, 864, 865, 866, 867, 868, 869, 870, 871, 872, 873, 874, 875, 876, 877, 878, 879, 880, 881, 882, 883] (by decide +kernel) (by decide +kernel)
set_option maxRecDepth 20000 in
theorem gL_law_X6_joined : GoodIn wsL_law (wsV RL 107 RX6 yX6_joined wsX6_joined) := goodIn_app (goodIn_of _ (by decide +kernel)) ggL_law_X6_joined
set_option maxRecDepth 20000 in
theorem ggL_law_X5_trials : GoodIn wsL_law wsX5_trials := goodIn_r _ [672, 24, 673, 674, 675, 23, 676, 573, 854, 855, 856, 857, 858, 859, 860, 891, 892, 893, 894, 895, 896, 897, 898, 899, 900, 901, 902, 903] (by decide +kernel) (by decide +kernel)
set_option maxRecDepth 20000 in
theorem gL_law_X5_trials : GoodIn wsL_law (wsV RL 108 RX5 yX5_trials wsX5_trials) := goodIn_app (goodIn_of _ (by decide +kernel)) ggL_law_X5_trials
set_option maxRecDepth 20000 in
theorem ggL_law_X6_trials : GoodIn wsL_law wsX6_trials := goodIn_r _ [680, 618, 861, 862, 863, 864, 865, 866, 867, 868, 869, 870, 871, 872, 873, 874, 875, 876, 877, 878, 879, 880, 881, 882, 883] (by decide +kernel) (by decide +kernel)
set_option maxRecDepth 20000 in
theorem gL_law_X6_trials : GoodIn wsL_law (wsV RL 111 RX6 yX6_trials wsX6_trials) := goodIn_app (goodIn_of _ (by decide +kernel)) ggL_law_X6_trials
set_option maxRecDepth 20000 in
theorem ggL_law_X5_known : GoodIn wsL_law wsX5_known := goodIn_r _ [684, 16, 20, 442, 284, 285, 15, 286, 287, 288, 289, 290, 44, 45, 529, 530, 531, 19, 532, 102, 53, 315, 316, 317, 318, 319, 292, 293, 294, 39, 685, 602, 603, 604, 854, 855, 856, 857, 858, 859, 860, 884, 885, 886, 887, 888, 889, 890] (by decide +kernel) (by decide +kernel)
set_option maxRecDepth 20000 in
theorem gL_law_X5_known : GoodIn wsL_law (wsV RL 112 RX5 yX5_known wsX5_known) := goodIn_app (goodIn_of _ (by decide +kernel)) ggL_law_X5_known
set_option maxRecDepth 20000 in
theorem ggL_law_X6_known : GoodIn wsL_law wsX6_known := goodIn_r _ [689, 299, 300, 301, 5, 302, 303, 304, 305, 306, 91, 92, 118, 119, 120, 541, 542, 543, 544, 117, 80, 307, 308, 309, 310, 130, 131, 132, 133, 690, 691, 692, 693, 861, 862, 863, 864, 865, 866, 867, 868, 869, 870, 871, 872, 873, 874, 875, 876, 877, 878, 879, 880, 881, 882, 883] (by decide +kernel) (by decide +kernel)
set_option maxRecDepth 20000 in
theorem gL_law_X6_known : GoodIn wsL_law (wsV RL 115 RX6 yX6_known wsX6_known) := goodIn_app (goodIn_of _ (by decide +kernel)) ggL_law_X6_known
set_option maxRecDepth 20000 in
theorem ggL_law_X5_sheet : GoodIn wsL_law wsX5_sheet := goodIn_r _ [697, 215, 30, 217, 218, 2, 219, 220, 221, 222, 229, 230, 231, 232, 698, 699, 700, 32, 701, 227, 228, 702, 703, 343, 704, 705, 706, 707, 241, 74, 854, 855, 856, 857, 858, 859, 860, 905, 906, 907, 908] (by decide +kernel) (by decide +kernel)
set_option maxRecDepth 20000 in
theorem gL_law_X5_sheet : GoodIn wsL_law (wsV RL 116 RX5 yX5_sheet wsX5_sheet) := goodIn_app (goodIn_of _ (by decide +kernel)) ggL_law_X5_sheet
set_option maxRecDepth 20000 in
theorem ggL_law_X6_sheet : GoodIn wsL_law wsX6_sheet := goodIn_r _ [711, 258, 87, 88, 89, 259, 260, 5, 261, 262, 118, 119, 120, 263, 264, 265, 266, 267, 268, 269, 270, 271, 861, 862, 863, 864, 865, 866, 867, 868, 869, 870, 871, 872, 873, 874, 875, 876, 877, 878, 879, 880, 881, 882, 883] (by decide +kernel) (by decide +kernel)
set_option maxRecDepth 20000 in
theorem gL_law_X6_sheet : GoodIn wsL_law (wsV RL 119 RX6 yX6_sheet wsX6_sheet) := goodIn_app (goodIn_of _ (by decide +kernel)) ggL_law_X6_sheet
set_option maxRecDepth 20000 in
theorem ggL_law_X5_lose : GoodIn wsL_law wsX5_lose := goodIn_r _ [715, 30, 217, 218, 2, 219, 233, 234, 235, 32, 236, 227, 716, 717, 718, 719, 241, 854, 855, 856, 857, 858, 859, 860, 905, 906, 907, 908] (by decide +kernel) (by decide +kernel)
set_option maxRecDepth 20000 in
theorem gL_law_X5_lose : GoodIn wsL_law (wsV RL 120 RX5 yX5_lose wsX5_lose) := goodIn_app (goodIn_of _ (by decide +kernel)) ggL_law_X5_lose
set_option maxRecDepth 20000 in
theorem ggL_law_X6_lose : GoodIn wsL_law wsX6_lose := goodIn_r _ [723, 87, 259, 260, 5, 261, 262, 118, 119, 120, 861, 862, 863, 864, 865, 866, 867, 868, 869, 870, 871, 872, 873, 874, 875, 876, 877, 878, 879, 880, 881, 882, 883] (by decide +kernel) (by decide +kernel)
set_option maxRecDepth 20000 in
theorem gL_law_X6_lose : GoodIn wsL_law (wsV RL 123 RX6 yX6_lose wsX6_lose) := goodIn_app (goodIn_of _ (by decide +kernel)) ggL_law_X6_lose
set_option maxRecDepth 20000 in
theorem ggL_law_X5_put : GoodIn wsL_law wsX5_put := goodIn_r _ [727, 215, 30, 217, 218, 2, 219, 233, 234, 235, 32, 236, 227, 229, 230, 231, 232, 237, 238, 239, 240, 241, 728, 729, 730, 731, 74, 249, 732, 733, 734, 735, 228, 854, 855, 856, 857, 858, 859, 860, 905, 906, 907, 908] (by decide +kernel) (by decide +kernel)
set_option maxRecDepth 20000 in
theorem gL_law_X5_put : GoodIn wsL_law (wsV RL 124 RX5 yX5_put wsX5_put) := goodIn_app (goodIn_of _ (by decide +kernel)) ggL_law_X5_put
set_option maxRecDepth 20000 in
theorem ggL_law_X6_put : GoodIn wsL_law wsX6_put := goodIn_r _ [739, 89, 88, 259, 260, 5, 261, 262, 118, 119, 120, 263, 264, 265, 266, 267, 740, 741, 742, 743, 87, 268, 269, 270, 271, 861, 862, 863, 864, 865, 866, 867, 868, 869, 870, 871, 872, 873, 874, 875, 876, 877, 878, 879, 880, 881, 882, 883] (by decide +kernel) (by decide +kernel)
set_option maxRecDepth 20000 in
theorem gL_law_X6_put : GoodIn wsL_law (wsV RL 127 RX6 yX6_put wsX6_put) := goodIn_app (goodIn_of _ (by decide +kernel)) ggL_law_X6_put
set_option maxRecDepth 20000 in
theorem ggL_law_X5_cell : GoodIn wsL_law wsX5_cell := goodIn_r _ [747, 215, 172, 30, 217, 218, 2, 219, 220, 221, 222, 223, 224, 225, 32, 226, 227, 228, 748, 749, 750, 751, 233, 234, 235, 236, 237, 238, 239, 240, 241, 245, 246, 247, 248, 74, 249, 854, 855, 856, 857, 858, 859, 860, 905, 906, 907, 908] (by decide +kernel) (by decide +kernel)
set_option maxRecDepth 20000 in
theorem gL_law_X5_cell : GoodIn wsL_law (wsV RL 128 RX5 yX5_cell wsX5_cell) := goodIn_app (goodIn_of _ (by decide +kernel)) ggL_law_X5_cell
set_option maxRecDepth 20000 in
theorem ggL_law_X6_cell : GoodIn wsL_law wsX6_cell := goodIn_r _ [755, 267, 258, 87, 88, 89, 259, 260, 5, 261, 262, 118, 119, 120, 199, 200, 201, 202, 756, 757, 758, 759, 740, 741, 742, 743, 861, 862, 863, 864, 865, 866, 867, 868, 869, 870, 871, 872, 873, 874, 875, 876, 877, 878, 879, 880, 881, 882, 883] (by decide +kernel) (by decide +kernel)
set_option maxRecDepth 20000 in
theorem gL_law_X6_cell : GoodIn wsL_law (wsV RL 131 RX6 yX6_cell wsX6_cell) := goodIn_app (goodIn_of _ (by decide +kernel)) ggL_law_X6_cell
