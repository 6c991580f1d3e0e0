set_option maxRecDepth 20000 in
theorem ggL_law_X5_init : GoodIn wsL_law wsX5_init := goodIn_r _ [9, 10, 11, 12, 13, 14, 15, 16, 17, 18, 19, 20, 21, 22, 23, 24, 25, 26, 27, 28, 29, 30, 31, 32, 33, 34, 35, 36, 37, 38, 39, 40, 41, 42, 43, 44, 45, 46, 47, 48, 49, 50, 51, 52, 53, 54, 55, 56, 57, 58, 59, 60, 61, 62, 63, 64, 65, 66, 67, 68, 69, 70, 71, 72, 73, 74, 75, 76, 77, 78, 894, 895, 896, 897, 864, 865, 866, 867, 868, 869, 870, 898, 899, 900, 901, 902, 903, 904, 905, 906, 907, 908, 909, 910, 911, 912, 913, 914, 915, 916, 917, 918] (by decide +kernel) (by decide +kernel)
set_option maxRecDepth 20000 in
theorem gL_law_X5_init : GoodIn wsL_law (wsX5_init) := ggL_law_X5_init
set_option maxRecDepth 20000 in
theorem ggL_law_X6_init : GoodIn wsL_law wsX6_init := goodIn_r _ [81, 82, 11, 12, 37, 83, 84, 85, 86, 87, 66, 88, 89, 90, 91, 92, 93, 94, 95, 96, 871, 872, 873, 874, 875, 876, 877, 878, 879, 880, 881, 882, 883, 884, 885, 886, 887, 888, 889, 890, 891, 892, 893] (by decide +kernel) (by decide +kernel)
set_option maxRecDepth 20000 in
theorem gL_law_X6_init : GoodIn wsL_law (wsX6_init) := ggL_law_X6_init
set_option maxRecDepth 20000 in
theorem ggL_law_X5_picture : GoodIn wsL_law wsX5_picture := goodIn_r _ [100, 16, 20, 24, 101, 41, 42, 15, 43, 44, 45, 38, 46, 47, 48, 49, 50, 51, 52, 53, 39, 102, 103, 104, 19, 105, 106, 107, 108, 109, 23, 110, 111, 112, 113, 114, 115, 864, 865, 866, 867, 868, 869, 870, 894, 895, 896, 897, 898, 899, 900, 901, 902, 903, 904, 905, 906, 907, 908, 909, 910, 911, 912, 913] (by decide +kernel) (by decide +kernel)
set_option maxRecDepth 20000 in
theorem gL_law_X5_picture : GoodIn wsL_law (wsV RL 13 RX5 yX5_picture wsX5_picture) := goodIn_app (goodIn_of _ (by decide +kernel)) ggL_law_X5_picture
set_option maxRecDepth 20000 in
theorem ggL_law_X6_picture : GoodIn wsL_law wsX6_picture := goodIn_r _ [119, 120, 95, 96, 83, 121, 122, 123, 5, 124, 125, 126, 127, 128, 129, 130, 131, 132, 133, 134, 135, 136, 137, 871, 872, 873, 874, 875, 876, 877, 878, 879, 880, 881, 882, 883, 884, 885, 886, 887, 888, 889, 890, 891, 892, 893] (by decide +kernel) (by decide +kernel)
set_option maxRecDepth 20000 in
theorem gL_law_X6_picture : GoodIn wsL_law (wsV RL 17 RX6 yX6_picture wsX6_picture) := goodIn_app (goodIn_of _ (by decide +kernel)) ggL_law_X6_picture
set_option maxRecDepth 20000 in
theorem ggL_law_X5_make : GoodIn wsL_law wsX5_make := goodIn_r _ [141, 28, 16, 24, 142, 143, 144, 27, 145, 146, 112, 113, 114, 15, 115, 44, 45, 147, 148, 149, 150, 151, 152, 153, 154, 155, 156, 157, 158, 38, 107, 108, 109, 23, 110, 111, 864, 865, 866, 867, 868, 869, 870, 914, 894, 895, 896, 897, 901, 902, 903, 904, 905, 906, 907, 908, 909, 910, 911, 912, 913] (by decide +kernel) (by decide +kernel)
set_option maxRecDepth 20000 in
theorem gL_law_X5_make : GoodIn wsL_law (wsV RL 20 RX5 yX5_make wsX5_make) := goodIn_app (goodIn_of _ (by decide +kernel)) ggL_law_X5_make
set_option maxRecDepth 20000 in
theorem ggL_law_X6_make : GoodIn wsL_law wsX6_make := goodIn_r _ [162, 163, 83, 130, 131, 132, 5, 133, 95, 96, 134, 135, 136, 137, 164, 165, 166, 167, 168, 169, 170, 171, 125, 126, 127, 128, 129, 871, 872, 873, 874, 875, 876, 877, 878, 879, 880, 881, 882, 883, 884, 885, 886, 887, 888, 889, 890, 891, 892, 893] (by decide +kernel) (by decide +kernel)
set_option maxRecDepth 20000 in
theorem gL_law_X6_make : GoodIn wsL_law (wsV RL 24 RX6 yX6_make wsX6_make) := goodIn_app (goodIn_of _ (by decide +kernel)) ggL_law_X6_make
set_option maxRecDepth 20000 in
theorem ggL_law_X5_bend : GoodIn wsL_law wsX5_bend := goodIn_r _ [175, 16, 176, 24, 177, 178, 179, 15, 180, 181, 113, 114, 115, 44, 45, 182, 183, 2, 184, 185, 186, 187, 188, 189, 190, 191, 38, 155, 156, 157, 158, 107, 108, 109, 23, 110, 111, 864, 865, 866, 867, 868, 869, 870, 894, 895, 896, 897, 901, 902, 903, 904, 905, 906, 907, 908, 909, 910, 911, 912, 913] (by decide +kernel) (by decide +kernel)
set_option maxRecDepth 20000 in
theorem gL_law_X5_bend : GoodIn wsL_law (wsV RL 25 RX5 yX5_bend wsX5_bend) := goodIn_app (goodIn_of _ (by decide +kernel)) ggL_law_X5_bend
set_option maxRecDepth 20000 in
theorem ggL_law_X6_bend : GoodIn wsL_law wsX6_bend := goodIn_r _ [195, 196, 197, 198, 83, 199, 200, 201, 5, 202, 130, 131, 132, 133, 95, 96, 134, 135, 136, 137, 122, 123, 124, 203, 204, 205, 206, 125, 126, 127, 128, 129, 871, 872, 873, 874, 875, 876, 877, 878, 879, 880, 881, 882, 883, 884, 885, 886, 887, 888, 889, 890, 891, 892, 893] (by decide +kernel) (by decide +kernel)
set_option maxRecDepth 20000 in
theorem gL_law_X6_bend : GoodIn wsL_law (wsV RL 29 RX6 yX6_bend wsX6_bend) := goodIn_app (goodIn_of _ (by decide +kernel)) ggL_law_X6_bend
set_option maxRecDepth 20000 in
theorem ggL_law_X5_height : GoodIn wsL_law wsX5_height := goodIn_r _ [210, 16, 176, 177, 178, 179, 15, 180, 181, 113, 114, 115, 44, 45, 182, 183, 2, 184, 188, 189, 190, 191, 38, 864, 865, 866, 867, 868, 869, 870, 894, 895, 896, 897] (by decide +kernel) (by decide +kernel)
set_option maxRecDepth 20000 in
theorem gL_law_X5_height : GoodIn wsL_law (wsV RL 30 RX5 yX5_height wsX5_height) := goodIn_app (goodIn_of _ (by decide +kernel)) ggL_law_X5_height
set_option maxRecDepth 20000 in
theorem ggL_law_X6_height : GoodIn wsL_law wsX6_height := goodIn_r _ [214, 196, 83, 199, 200, 201, 5, 202, 130, 131, 132, 133, 95, 96, 134, 135, 136, 137, 122, 123, 124, 203, 204, 205, 206, 871, 872, 873, 874, 875, 876, 877, 878, 879, 880, 881, 882, 883, 884, 885, 886, 887, 888, 889, 890, 891, 892, 893] (by decide +kernel) (by decide +kernel)
set_option maxRecDepth 20000 in
theorem gL_law_X6_height : GoodIn wsL_law (wsV RL 34 RX6 yX6_height wsX6_height) := goodIn_app (goodIn_of _ (by decide +kernel)) ggL_law_X6_height
set_option maxRecDepth 20000 in
theorem ggL_law_X5_shape : GoodIn wsL_law wsX5_shape := goodIn_r _ [218, 219, 16, 30, 220, 24, 221, 222, 2, 223, 177, 178, 179, 15, 180, 181, 113, 114, 115, 44, 45, 224, 225, 226, 227, 228, 229, 32, 230, 231, 232, 233, 234, 235, 236, 237, 238, 239, 240, 241, 242, 243, 244, 245, 112, 246, 247, 248, 249, 250, 251, 252, 78, 253, 185, 186, 187, 254, 255, 256, 257, 155, 156, 157, 158, 38, 107, 108, 109, 23, 110, 111, 864, 865, 866, 867, 868, 869, 870, 894, 895, 896, 897, 915, 916, 917, 918, 901, 902, 903, 904, 905, 906, 907, 908, 909, 910, 911, 912, 913] (by decide +kernel) (by decide +kernel)
set_option maxRecDepth 20000 in
theorem gL_law_X5_shape : GoodIn wsL_law (wsV RL 35 RX5 yX5_shape wsX5_shape) := goodIn_app (goodIn_of _ (by decide +kernel)) ggL_law_X5_shape
set_option maxRecDepth 20000 in
theorem ggL_law_X6_shape : GoodIn wsL_law wsX6_shape := goodIn_r _ [261, 262, 91, 92, 120, 93, 197, 198, 83, 263, 264, 5, 265, 266, 122, 123, 124, 199, 200, 201, 202, 130, 131, 132, 133, 95, 96, 134, 135, 136, 137, 267, 268, 269, 270, 271, 272, 273, 274, 275, 276, 277, 278, 125, 126, 127, 128, 129, 871, 872, 873, 874, 875, 876, 877, 878, 879, 880, 881, 882, 883, 884, 885, 886, 887, 888, 889, 890, 891, 892, 893] (by decide +kernel) (by decide +kernel)
set_option maxRecDepth 20000 in
theorem gL_law_X6_shape : GoodIn wsL_law (wsV RL 39 RX6 yX6_shape wsX6_shape) := goodIn_app (goodIn_of _ (by decide +kernel)) ggL_law_X6_shape
set_option maxRecDepth 20000 in
theorem ggL_law_X5_sideOf : GoodIn wsL_law wsX5_sideOf := goodIn_r _ [282, 16, 283, 284, 285, 15, 286, 287, 288, 289, 290, 291, 292, 293, 294, 44, 45, 295, 296, 297, 298, 39, 864, 865, 866, 867, 868, 869, 870, 894, 895, 896, 897] (by decide +kernel) (by decide +kernel)
set_option maxRecDepth 20000 in
theorem gL_law_X5_sideOf : GoodIn wsL_law (wsV RL 40 RX5 yX5_sideOf wsX5_sideOf) := goodIn_app (goodIn_of _ (by decide +kernel)) ggL_law_X5_sideOf
set_option maxRecDepth 20000 in
theorem ggL_law_X6_sideOf : GoodIn wsL_law wsX6_sideOf := goodIn_r _ [302, 266, 303, 304, 305, 5, 306, 307, 308, 309, 310, 95, 96, 122, 123, 124, 311, 312, 313, 314, 134, 135, 136, 137, 871, 872, 873, 874, 875, 876, 877, 878, 879, 880, 881, 882, 883, 884, 885, 886, 887, 888, 889, 890, 891, 892, 893] (by decide +kernel) (by decide +kernel)
set_option maxRecDepth 20000 in
theorem gL_law_X6_sideOf : GoodIn wsL_law (wsV RL 43 RX6 yX6_sideOf wsX6_sideOf) := goodIn_app (goodIn_of _ (by decide +kernel)) ggL_law_X6_sideOf
