set_option maxRecDepth 20000 in
theorem ggL_law_X5_edge : GoodIn wsL_law wsX5_edge := goodIn_r _ [318, 16, 176, 283, 284, 285, 15, 286, 287, 288, 289, 290, 291, 292, 293, 294, 44, 45, 182, 183, 2, 184, 319, 320, 321, 322, 323, 296, 297, 298, 39, 324, 325, 326, 327, 328, 189, 190, 191, 38, 864, 865, 866, 867, 868, 869, 870, 894, 895, 896, 897] (by decide +kernel) (by decide +kernel)
set_option maxRecDepth 20000 in
theorem gL_law_X5_edge : GoodIn wsL_law (wsV RL 44 RX5 yX5_edge wsX5_edge) := goodIn_app (goodIn_of _ (by decide +kernel)) ggL_law_X5_edge
set_option maxRecDepth 20000 in
theorem ggL_law_X6_edge : GoodIn wsL_law wsX6_edge := goodIn_r _ [332, 266, 196, 303, 304, 305, 5, 306, 307, 308, 309, 310, 95, 96, 122, 123, 124, 311, 312, 313, 314, 134, 135, 136, 137, 203, 204, 205, 206, 333, 334, 335, 336, 83, 871, 872, 873, 874, 875, 876, 877, 878, 879, 880, 881, 882, 883, 884, 885, 886, 887, 888, 889, 890, 891, 892, 893] (by decide +kernel) (by decide +kernel)
set_option maxRecDepth 20000 in
theorem gL_law_X6_edge : GoodIn wsL_law (wsV RL 47 RX6 yX6_edge wsX6_edge) := goodIn_app (goodIn_of _ (by decide +kernel)) ggL_law_X6_edge
set_option maxRecDepth 20000 in
theorem ggL_law_X5_far : GoodIn wsL_law wsX5_far := goodIn_r _ [340, 16, 283, 284, 285, 15, 286, 287, 288, 289, 290, 291, 292, 293, 294, 44, 45, 319, 320, 321, 322, 323, 296, 297, 298, 39, 341, 342, 343, 344, 345, 346, 347, 348, 349, 325, 326, 327, 328, 189, 190, 191, 38, 864, 865, 866, 867, 868, 869, 870, 894, 895, 896, 897] (by decide +kernel) (by decide +kernel)
set_option maxRecDepth 20000 in
theorem gL_law_X5_far : GoodIn wsL_law (wsV RL 48 RX5 yX5_far wsX5_far) := goodIn_app (goodIn_of _ (by decide +kernel)) ggL_law_X5_far
set_option maxRecDepth 20000 in
theorem ggL_law_X6_far : GoodIn wsL_law wsX6_far := goodIn_r _ [353, 266, 303, 304, 305, 5, 306, 307, 308, 309, 310, 95, 96, 122, 123, 124, 311, 312, 313, 314, 134, 135, 136, 137, 354, 355, 356, 357, 333, 334, 335, 336, 83, 358, 359, 360, 871, 872, 873, 874, 875, 876, 877, 878, 879, 880, 881, 882, 883, 884, 885, 886, 887, 888, 889, 890, 891, 892, 893] (by decide +kernel) (by decide +kernel)
set_option maxRecDepth 20000 in
theorem gL_law_X6_far : GoodIn wsL_law (wsV RL 52 RX6 yX6_far wsX6_far) := goodIn_app (goodIn_of _ (by decide +kernel)) ggL_law_X6_far
set_option maxRecDepth 20000 in
theorem ggL_law_X5_kind : GoodIn wsL_law wsX5_kind := goodIn_r _ [364, 16, 177, 178, 179, 15, 180, 181, 113, 114, 115, 44, 45, 365, 366, 367, 368, 369, 370, 371, 372, 328, 189, 190, 191, 38, 373, 374, 375, 376, 864, 865, 866, 867, 868, 869, 870, 894, 895, 896, 897] (by decide +kernel) (by decide +kernel)
set_option maxRecDepth 20000 in
theorem gL_law_X5_kind : GoodIn wsL_law (wsV RL 53 RX5 yX5_kind wsX5_kind) := goodIn_app (goodIn_of _ (by decide +kernel)) ggL_law_X5_kind
set_option maxRecDepth 20000 in
theorem ggL_law_X6_kind : GoodIn wsL_law wsX6_kind := goodIn_r _ [380, 199, 200, 201, 5, 202, 130, 131, 132, 133, 95, 96, 134, 135, 136, 137, 122, 123, 124, 381, 382, 383, 384, 385, 386, 387, 388, 83, 389, 390, 391, 392, 871, 872, 873, 874, 875, 876, 877, 878, 879, 880, 881, 882, 883, 884, 885, 886, 887, 888, 889, 890, 891, 892, 893] (by decide +kernel) (by decide +kernel)
set_option maxRecDepth 20000 in
theorem gL_law_X6_kind : GoodIn wsL_law (wsV RL 57 RX6 yX6_kind wsX6_kind) := goodIn_app (goodIn_of _ (by decide +kernel)) ggL_law_X6_kind
set_option maxRecDepth 20000 in
theorem ggL_law_X5_unlike : GoodIn wsL_law wsX5_unlike := goodIn_r _ [396, 16, 397, 398, 399, 15, 400, 291, 292, 293, 294, 44, 45, 401, 402, 403, 404, 405, 320, 321, 322, 323, 296, 297, 298, 39, 406, 342, 343, 344, 345, 346, 347, 348, 349, 325, 326, 327, 328, 189, 190, 191, 38, 864, 865, 866, 867, 868, 869, 870, 894, 895, 896, 897] (by decide +kernel) (by decide +kernel)
set_option maxRecDepth 20000 in
theorem gL_law_X5_unlike : GoodIn wsL_law (wsV RL 58 RX5 yX5_unlike wsX5_unlike) := goodIn_app (goodIn_of _ (by decide +kernel)) ggL_law_X5_unlike
set_option maxRecDepth 20000 in
theorem ggL_law_X6_unlike : GoodIn wsL_law wsX6_unlike := goodIn_r _ [410, 411, 412, 413, 414, 5, 415, 416, 307, 308, 309, 310, 95, 96, 311, 312, 313, 314, 134, 135, 136, 137, 354, 355, 356, 357, 333, 334, 335, 336, 83, 358, 359, 360, 871, 872, 873, 874, 875, 876, 877, 878, 879, 880, 881, 882, 883, 884, 885, 886, 887, 888, 889, 890, 891, 892, 893] (by decide +kernel) (by decide +kernel)
set_option maxRecDepth 20000 in
theorem gL_law_X6_unlike : GoodIn wsL_law (wsV RL 62 RX6 yX6_unlike wsX6_unlike) := goodIn_app (goodIn_of _ (by decide +kernel)) ggL_law_X6_unlike
set_option maxRecDepth 20000 in
theorem ggL_law_X5_traps : GoodIn wsL_law wsX5_traps := goodIn_r _ [420, 16, 421, 422, 423, 15, 424, 291, 292, 293, 294, 44, 45, 401, 402, 403, 404, 405, 320, 321, 322, 323, 296, 297, 298, 39, 406, 342, 343, 344, 345, 346, 347, 348, 349, 325, 326, 327, 328, 189, 190, 191, 38, 864, 865, 866, 867, 868, 869, 870, 894, 895, 896, 897] (by decide +kernel) (by decide +kernel)
set_option maxRecDepth 20000 in
theorem gL_law_X5_traps : GoodIn wsL_law (wsV RL 63 RX5 yX5_traps wsX5_traps) := goodIn_app (goodIn_of _ (by decide +kernel)) ggL_law_X5_traps
set_option maxRecDepth 20000 in
theorem ggL_law_X6_traps : GoodIn wsL_law wsX6_traps := goodIn_r _ [428, 416, 412, 413, 414, 5, 415, 411, 307, 308, 309, 310, 95, 96, 311, 312, 313, 314, 134, 135, 136, 137, 354, 355, 356, 357, 333, 334, 335, 336, 83, 358, 359, 360, 871, 872, 873, 874, 875, 876, 877, 878, 879, 880, 881, 882, 883, 884, 885, 886, 887, 888, 889, 890, 891, 892, 893] (by decide +kernel) (by decide +kernel)
set_option maxRecDepth 20000 in
theorem gL_law_X6_traps : GoodIn wsL_law (wsV RL 66 RX6 yX6_traps wsX6_traps) := goodIn_app (goodIn_of _ (by decide +kernel)) ggL_law_X6_traps
set_option maxRecDepth 20000 in
theorem ggL_law_X5_alike : GoodIn wsL_law wsX5_alike := goodIn_r _ [432, 16, 24, 177, 178, 179, 15, 180, 181, 113, 114, 115, 44, 45, 107, 108, 109, 23, 110, 111, 433, 434, 435, 436, 373, 374, 375, 376, 328, 189, 190, 191, 38, 437, 156, 157, 158, 864, 865, 866, 867, 868, 869, 870, 894, 895, 896, 897, 901, 902, 903, 904, 905, 906, 907, 908, 909, 910, 911, 912, 913] (by decide +kernel) (by decide +kernel)
set_option maxRecDepth 20000 in
theorem gL_law_X5_alike : GoodIn wsL_law (wsV RL 67 RX5 yX5_alike wsX5_alike) := goodIn_app (goodIn_of _ (by decide +kernel)) ggL_law_X5_alike
set_option maxRecDepth 20000 in
theorem ggL_law_X6_alike : GoodIn wsL_law wsX6_alike := goodIn_r _ [441, 83, 199, 200, 201, 5, 202, 130, 131, 132, 133, 95, 96, 134, 135, 136, 137, 122, 123, 124, 125, 126, 127, 128, 129, 871, 872, 873, 874, 875, 876, 877, 878, 879, 880, 881, 882, 883, 884, 885, 886, 887, 888, 889, 890, 891, 892, 893] (by decide +kernel) (by decide +kernel)
set_option maxRecDepth 20000 in
theorem gL_law_X6_alike : GoodIn wsL_law (wsV RL 71 RX6 yX6_alike wsX6_alike) := goodIn_app (goodIn_of _ (by decide +kernel)) ggL_law_X6_alike
set_option maxRecDepth 20000 in
theorem ggL_law_X5_lay : GoodIn wsL_law wsX5_lay := goodIn_r _ [445, 16, 20, 24, 446, 288, 289, 15, 290, 291, 292, 293, 294, 44, 45, 447, 448, 449, 19, 450, 106, 451, 452, 453, 454, 57, 58, 455, 107, 108, 109, 23, 110, 111, 456, 457, 458, 459, 864, 865, 866, 867, 868, 869, 870, 894, 895, 896, 897, 898, 899, 900, 901, 902, 903, 904, 905, 906, 907, 908, 909, 910, 911, 912, 913] (by decide +kernel) (by decide +kernel)
set_option maxRecDepth 20000 in
theorem gL_law_X5_lay : GoodIn wsL_law (wsV RL 72 RX5 yX5_lay wsX5_lay) := goodIn_app (goodIn_of _ (by decide +kernel)) ggL_law_X5_lay
set_option maxRecDepth 20000 in
theorem ggL_law_X6_lay : GoodIn wsL_law wsX6_lay := goodIn_r _ [463, 266, 121, 84, 85, 303, 304, 305, 5, 306, 307, 308, 309, 310, 95, 96, 122, 123, 124, 125, 126, 127, 128, 129, 871, 872, 873, 874, 875, 876, 877, 878, 879, 880, 881, 882, 883, 884, 885, 886, 887, 888, 889, 890, 891, 892, 893] (by decide +kernel) (by decide +kernel)
set_option maxRecDepth 20000 in
theorem gL_law_X6_lay : GoodIn wsL_law (wsV RL 75 RX6 yX6_lay wsX6_lay) := goodIn_app (goodIn_of _ (by decide +kernel)) ggL_law_X6_lay
