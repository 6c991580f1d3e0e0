set_option maxRecDepth 20000 in
theorem ggL_law_X5_edge : GoodIn wsL_law wsX5_edge := goodIn_r _ [314, 16, 172, 279, 280, 281, 15, 282, 283, 284, 285, 286, 287, 288, 289, 290, 44, 45, 178, 179, 2, 180, 315, 316, 317, 318, 319, 292, 293, 294, 39, 320, 321, 322, 323, 324, 185, 186, 187, 38, 854, 855, 856, 857, 858, 859, 860, 884, 885, 886, 887] (by decide +kernel) (by decide +kernel)
set_option maxRecDepth 20000 in
theorem gL_law_X5_edge : GoodIn wsL_law (wsV RL 44 RX5 yX5_edge wsX5_edge) := goodIn_app (goodIn_of _ (by decide +kernel)) ggL_law_X5_edge
set_option maxRecDepth 20000 in
theorem ggL_law_X6_edge : GoodIn wsL_law wsX6_edge := goodIn_r _ [328, 262, 192, 299, 300, 301, 5, 302, 303, 304, 305, 306, 91, 92, 118, 119, 120, 307, 308, 309, 310, 130, 131, 132, 133, 199, 200, 201, 202, 329, 330, 331, 332, 79, 861, 862, 863, 864, 865, 866, 867, 868, 869, 870, 871, 872, 873, 874, 875, 876, 877, 878, 879, 880, 881, 882, 883] (by decide +kernel) (by decide +kernel)
set_option maxRecDepth 20000 in
theorem gL_law_X6_edge : GoodIn wsL_law (wsV RL 47 RX6 yX6_edge wsX6_edge) := goodIn_app (goodIn_of _ (by decide +kernel)) ggL_law_X6_edge
set_option maxRecDepth 20000 in
theorem ggL_law_X5_far : GoodIn wsL_law wsX5_far := goodIn_r _ [336, 16, 279, 280, 281, 15, 282, 283, 284, 285, 286, 287, 288, 289, 290, 44, 45, 315, 316, 317, 318, 319, 292, 293, 294, 39, 337, 338, 339, 340, 341, 342, 343, 344, 345, 321, 322, 323, 324, 185, 186, 187, 38, 854, 855, 856, 857, 858, 859, 860, 884, 885, 886, 887] (by decide +kernel) (by decide +kernel)
set_option maxRecDepth 20000 in
theorem gL_law_X5_far : GoodIn wsL_law (wsV RL 48 RX5 yX5_far wsX5_far) := goodIn_app (goodIn_of _ (by decide +kernel)) ggL_law_X5_far
set_option maxRecDepth 20000 in
theorem ggL_law_X6_far : GoodIn wsL_law wsX6_far := goodIn_r _ [349, 262, 299, 300, 301, 5, 302, 303, 304, 305, 306, 91, 92, 118, 119, 120, 307, 308, 309, 310, 130, 131, 132, 133, 350, 351, 352, 353, 329, 330, 331, 332, 79, 354, 355, 356, 861, 862, 863, 864, 865, 866, 867, 868, 869, 870, 871, 872, 873, 874, 875, 876, 877, 878, 879, 880, 881, 882, 883] (by decide +kernel) (by decide +kernel)
set_option maxRecDepth 20000 in
theorem gL_law_X6_far : GoodIn wsL_law (wsV RL 52 RX6 yX6_far wsX6_far) := goodIn_app (goodIn_of _ (by decide +kernel)) ggL_law_X6_far
set_option maxRecDepth 20000 in
theorem ggL_law_X5_kind : GoodIn wsL_law wsX5_kind := goodIn_r _ [360, 16, 173, 174, 175, 15, 176, 177, 109, 110, 111, 44, 45, 361, 362, 363, 364, 365, 366, 367, 368, 324, 185, 186, 187, 38, 369, 370, 371, 372, 854, 855, 856, 857, 858, 859, 860, 884, 885, 886, 887] (by decide +kernel) (by decide +kernel)
set_option maxRecDepth 20000 in
theorem gL_law_X5_kind : GoodIn wsL_law (wsV RL 53 RX5 yX5_kind wsX5_kind) := goodIn_app (goodIn_of _ (by decide +kernel)) ggL_law_X5_kind
set_option maxRecDepth 20000 in
theorem ggL_law_X6_kind : GoodIn wsL_law wsX6_kind := goodIn_r _ [376, 195, 196, 197, 5, 198, 126, 127, 128, 129, 91, 92, 130, 131, 132, 133, 118, 119, 120, 377, 378, 379, 380, 381, 382, 383, 384, 79, 385, 386, 387, 388, 861, 862, 863, 864, 865, 866, 867, 868, 869, 870, 871, 872, 873, 874, 875, 876, 877, 878, 879, 880, 881, 882, 883] (by decide +kernel) (by decide +kernel)
set_option maxRecDepth 20000 in
theorem gL_law_X6_kind : GoodIn wsL_law (wsV RL 57 RX6 yX6_kind wsX6_kind) := goodIn_app (goodIn_of _ (by decide +kernel)) ggL_law_X6_kind
set_option maxRecDepth 20000 in
theorem ggL_law_X5_unlike : GoodIn wsL_law wsX5_unlike := goodIn_r _ [392, 16, 393, 394, 395, 15, 396, 287, 288, 289, 290, 44, 45, 397, 398, 399, 400, 401, 316, 317, 318, 319, 292, 293, 294, 39, 402, 338, 339, 340, 341, 342, 343, 344, 345, 321, 322, 323, 324, 185, 186, 187, 38, 854, 855, 856, 857, 858, 859, 860, 884, 885, 886, 887] (by decide +kernel) (by decide +kernel)
set_option maxRecDepth 20000 in
theorem gL_law_X5_unlike : GoodIn wsL_law (wsV RL 58 RX5 yX5_unlike wsX5_unlike) := goodIn_app (goodIn_of _ (by decide +kernel)) ggL_law_X5_unlike
set_option maxRecDepth 20000 in
theorem ggL_law_X6_unlike : GoodIn wsL_law wsX6_unlike := goodIn_r _ [406, 407, 408, 409, 410, 5, 411, 412, 303, 304, 305, 306, 91, 92, 307, 308, 309, 310, 130, 131, 132, 133, 350, 351, 352, 353, 329, 330, 331, 332, 79, 354, 355, 356, 861, 862, 863, 864, 865, 866, 867, 868, 869, 870, 871, 872, 873, 874, 875, 876, 877, 878, 879, 880, 881, 882, 883] (by decide +kernel) (by decide +kernel)
set_option maxRecDepth 20000 in
theorem gL_law_X6_unlike : GoodIn wsL_law (wsV RL 62 RX6 yX6_unlike wsX6_unlike) := goodIn_app (goodIn_of _ (by decide +kernel)) ggL_law_X6_unlike
set_option maxRecDepth 20000 in
theorem ggL_law_X5_traps : GoodIn wsL_law wsX5_traps := goodIn_r _ [416, 16, 417, 418, 419, 15, 420, 287, 288, 289, 290, 44, 45, 397, 398, 399, 400, 401, 316, 317, 318, 319, 292, 293, 294, 39, 402, 338, 339, 340, 341, 342, 343, 344, 345, 321, 322, 323, 324, 185, 186, 187, 38, 854, 855, 856, 857, 858, 859, 860, 884, 885, 886, 887] (by decide +kernel) (by decide +kernel)
set_option maxRecDepth 20000 in
theorem gL_law_X5_traps : GoodIn wsL_law (wsV RL 63 RX5 yX5_traps wsX5_traps) := goodIn_app (goodIn_of _ (by decide +kernel)) ggL_law_X5_traps
set_option maxRecDepth 20000 in
theorem ggL_law_X6_traps : GoodIn wsL_law wsX6_traps := goodIn_r _ [424, 412, 408, 409, 410, 5, 411, 407, 303, 304, 305, 306, 91, 92, 307, 308, 309, 310, 130, 131, 132, 133, 350, 351, 352, 353, 329, 330, 331, 332, 79, 354, 355, 356, 861, 862, 863, 864, 865, 866, 867, 868, 869, 870, 871, 872, 873, 874, 875, 876, 877, 878, 879, 880, 881, 882, 883] (by decide +kernel) (by decide +kernel)
set_option maxRecDepth 20000 in
theorem gL_law_X6_traps : GoodIn wsL_law (wsV RL 66 RX6 yX6_traps wsX6_traps) := goodIn_app (goodIn_of _ (by decide +kernel)) ggL_law_X6_traps
set_option maxRecDepth 20000 in
theorem ggL_law_X5_alike : GoodIn wsL_law wsX5_alike := goodIn_r _ [428, 16, 24, 173, 174, 175, 15, 176, 177, 109, 110, 111, 44, 45, 103, 104, 105, 23, 106, 107, 429, 430, 431, 432, 369, 370, 371, 372, 324, 185, 186, 187, 38, 433, 152, 153, 154, 854, 855, 856, 857, 858, 859, 860, 884, 885, 886, 887, 891, 892, 893, 894, 895, 896, 897, 898, 899, 900, 901, 902, 903] (by decide +kernel) (by decide +kernel)
set_option maxRecDepth 20000 in
theorem gL_law_X5_alike : GoodIn wsL_law (wsV RL 67 RX5 yX5_alike wsX5_alike) := goodIn_app (goodIn_of _ (by decide +kernel)) ggL_law_X5_alike
set_option maxRecDepth 20000 in
theorem ggL_law_X6_alike : GoodIn wsL_law wsX6_alike := goodIn_r _ [437, 79, 195, 196, 197, 5, 198, 126, 127, 128, 129, 91, 92, 130, 131, 132, 133, 118, 119, 120, 121, 122, 123, 124, 125, 861, 862, 863, 864, 865, 866, 867, 868, 869, 870, 871, 872, 873, 874, 875, 876, 877, 878, 879, 880, 881, 882, 883] (by decide +kernel) (by decide +kernel)
set_option maxRecDepth 20000 in
theorem gL_law_X6_alike : GoodIn wsL_law (wsV RL 71 RX6 yX6_alike wsX6_alike) := goodIn_app (goodIn_of _ (by decide +kernel)) ggL_law_X6_alike
set_option maxRecDepth 20000 in
theorem ggL_law_X5_lay : GoodIn wsL_law wsX5_lay := goodIn_r _ [441, 16, 20, 24, 442, 284, 285, 15, 286, 287, 288, 289, 290, 44, 45, 443, 444, 445, 19, 446, 102, 447, 448, 449, 450, 53, 54, 451, 103, 104, 105, 23, 106, 107, 452, 453, 454, 455, 854, 855, 856, 857, 858, 859, 860, 884, 885, 886, 887, 888, 889, 890, 891, 892, 893, 894, 895, 896, 897, 898, 899, 900, 901, 902, 903] (by decide +kernel) (by decide +kernel)
set_option maxRecDepth 20000 in
theorem gL_law_X5_lay : GoodIn wsL_law (wsV RL 72 RX5 yX5_lay wsX5_lay) := goodIn_app (goodIn_of _ (by decide +kernel)) ggL_law_X5_lay
set_option maxRecDepth 20000 in
theorem ggL_law_X6_lay : GoodIn wsL_law wsX6_lay := goodIn_r _ [459, 262, 117, 80, 81, 299, 300, 301, 5, 302, 303, 304, 305, 306, 91, 92, 118, 119, 120, 121, 122, 123, 124, 125, 861, 862, 863, 864, 865, 866, 867, 868, 869, 870, 871, 872, 873, 874, 875, 876, 877, 878, 879, 880, 881, 882, 883] (by decide +kernel) (by decide +kernel)
set_option maxRecDepth 20000 in
theorem gL_law_X6_lay : GoodIn wsL_law (wsV RL 75 RX6 yX6_lay wsX6_lay) := goodIn_app (goodIn_of _ (by decide +kernel)) ggL_law_X6_lay
