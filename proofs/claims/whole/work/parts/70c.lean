set_option maxRecDepth 20000 in
theorem ggL_law_X5_heap : GoodIn wsL_law wsX5_heap := goodIn_r _ [467, 20, 16, 28, 24, 102, 103, 104, 19, 105, 106, 468, 292, 293, 15, 294, 44, 45, 451, 452, 453, 454, 57, 58, 455, 448, 449, 450, 142, 143, 144, 27, 145, 146, 456, 457, 458, 459, 147, 148, 149, 150, 151, 152, 153, 154, 469, 470, 471, 472, 473, 474, 475, 476, 477, 478, 479, 480, 107, 108, 109, 23, 110, 111, 864, 865, 866, 867, 868, 869, 870, 898, 899, 900, 894, 895, 896, 897, 914, 901, 902, 903, 904, 905, 906, 907, 908, 909, 910, 911, 912, 913] (by decide +kernel) (by decide +kernel)
set_option maxRecDepth 20000 in
theorem gL_law_X5_heap : GoodIn wsL_law (wsV RL 76 RX5 yX5_heap wsX5_heap) := goodIn_app (goodIn_of _ (by decide +kernel)) ggL_law_X5_heap
set_option maxRecDepth 20000 in
theorem ggL_law_X6_heap : GoodIn wsL_law wsX6_heap := goodIn_r _ [484, 163, 121, 84, 85, 307, 308, 309, 5, 310, 95, 96, 164, 165, 166, 167, 168, 169, 170, 171, 125, 126, 127, 128, 129, 871, 872, 873, 874, 875, 876, 877, 878, 879, 880, 881, 882, 883, 884, 885, 886, 887, 888, 889, 890, 891, 892, 893] (by decide +kernel) (by decide +kernel)
set_option maxRecDepth 20000 in
theorem gL_law_X6_heap : GoodIn wsL_law (wsV RL 79 RX6 yX6_heap wsX6_heap) := goodIn_app (goodIn_of _ (by decide +kernel)) ggL_law_X6_heap
set_option maxRecDepth 20000 in
theorem ggL_law_X5_take : GoodIn wsL_law wsX5_take := goodIn_r _ [488, 20, 24, 489, 474, 475, 19, 476, 106, 490, 491, 492, 493, 57, 473, 494, 495, 496, 497, 58, 107, 108, 109, 23, 110, 111, 864, 865, 866, 867, 868, 869, 870, 898, 899, 900, 901, 902, 903, 904, 905, 906, 907, 908, 909, 910, 911, 912, 913] (by decide +kernel) (by decide +kernel)
set_option maxRecDepth 20000 in
theorem gL_law_X5_take : GoodIn wsL_law (wsV RL 80 RX5 yX5_take wsX5_take) := goodIn_app (goodIn_of _ (by decide +kernel)) ggL_law_X5_take
set_option maxRecDepth 20000 in
theorem ggL_law_X6_take : GoodIn wsL_law wsX6_take := goodIn_r _ [501, 84, 121, 85, 502, 503, 504, 5, 505, 122, 123, 124, 125, 126, 127, 128, 129, 871, 872, 873, 874, 875, 876, 877, 878, 879, 880, 881, 882, 883, 884, 885, 886, 887, 888, 889, 890, 891, 892, 893] (by decide +kernel) (by decide +kernel)
set_option maxRecDepth 20000 in
theorem gL_law_X6_take : GoodIn wsL_law (wsV RL 83 RX6 yX6_take wsX6_take) := goodIn_app (goodIn_of _ (by decide +kernel)) ggL_law_X6_take
set_option maxRecDepth 20000 in
theorem ggL_law_X5_heaped : GoodIn wsL_law wsX5_heaped := goodIn_r _ [509, 20, 489, 474, 475, 19, 476, 106, 490, 491, 492, 493, 57, 473, 510, 511, 512, 513, 58, 864, 865, 866, 867, 868, 869, 870, 898, 899, 900] (by decide +kernel) (by decide +kernel)
set_option maxRecDepth 20000 in
theorem gL_law_X5_heaped : GoodIn wsL_law (wsV RL 84 RX5 yX5_heaped wsX5_heaped) := goodIn_app (goodIn_of _ (by decide +kernel)) ggL_law_X5_heaped
set_option maxRecDepth 20000 in
theorem ggL_law_X6_heaped : GoodIn wsL_law wsX6_heaped := goodIn_r _ [517, 84, 85, 502, 503, 504, 5, 505, 121, 122, 123, 124, 871, 872, 873, 874, 875, 876, 877, 878, 879, 880, 881, 882, 883, 884, 885, 886, 887, 888, 889, 890, 891, 892, 893] (by decide +kernel) (by decide +kernel)
set_option maxRecDepth 20000 in
theorem gL_law_X6_heaped : GoodIn wsL_law (wsV RL 87 RX6 yX6_heaped wsX6_heaped) := goodIn_app (goodIn_of _ (by decide +kernel)) ggL_law_X6_heaped
set_option maxRecDepth 20000 in
theorem ggL_law_X5_missing : GoodIn wsL_law wsX5_missing := goodIn_r _ [521, 522, 523, 2, 524, 525, 526, 527, 528, 16, 468, 292, 293, 15, 294, 44, 45, 529, 530, 531, 532, 20, 533, 534, 535, 19, 536, 106, 57, 864, 865, 866, 867, 868, 869, 870, 894, 895, 896, 897, 898, 899, 900] (by decide +kernel) (by decide +kernel)
set_option maxRecDepth 20000 in
theorem gL_law_X5_missing : GoodIn wsL_law (wsV RL 88 RX5 yX5_missing wsX5_missing) := goodIn_app (goodIn_of _ (by decide +kernel)) ggL_law_X5_missing
set_option maxRecDepth 20000 in
theorem ggL_law_X6_missing : GoodIn wsL_law wsX6_missing := goodIn_r _ [540, 122, 123, 5, 124, 307, 308, 309, 310, 95, 96, 541, 542, 543, 544, 545, 546, 547, 548, 121, 84, 871, 872, 873, 874, 875, 876, 877, 878, 879, 880, 881, 882, 883, 884, 885, 886, 887, 888, 889, 890, 891, 892, 893] (by decide +kernel) (by decide +kernel)
set_option maxRecDepth 20000 in
theorem gL_law_X6_missing : GoodIn wsL_law (wsV RL 91 RX6 yX6_missing wsX6_missing) := goodIn_app (goodIn_of _ (by decide +kernel)) ggL_law_X6_missing
set_option maxRecDepth 20000 in
theorem ggL_law_X5_missed : GoodIn wsL_law wsX5_missed := goodIn_r _ [552, 522, 523, 2, 524, 553, 554, 555, 556, 16, 468, 292, 293, 15, 294, 44, 45, 529, 530, 531, 532, 20, 533, 534, 535, 19, 536, 106, 57, 864, 865, 866, 867, 868, 869, 870, 894, 895, 896, 897, 898, 899, 900] (by decide +kernel) (by decide +kernel)
set_option maxRecDepth 20000 in
theorem gL_law_X5_missed : GoodIn wsL_law (wsV RL 92 RX5 yX5_missed wsX5_missed) := goodIn_app (goodIn_of _ (by decide +kernel)) ggL_law_X5_missed
set_option maxRecDepth 20000 in
theorem ggL_law_X6_missed : GoodIn wsL_law wsX6_missed := goodIn_r _ [560, 122, 123, 5, 124, 561, 538, 539, 540, 307, 308, 309, 310, 95, 96, 541, 542, 543, 544, 545, 546, 547, 548, 121, 84, 871, 872, 873, 874, 875, 876, 877, 878, 879, 880, 881, 882, 883, 884, 885, 886, 887, 888, 889, 890, 891, 892, 893] (by decide +kernel) (by decide +kernel)
set_option maxRecDepth 20000 in
theorem gL_law_X6_missed : GoodIn wsL_law (wsV RL 95 RX6 yX6_missed wsX6_missed) := goodIn_app (goodIn_of _ (by decide +kernel)) ggL_law_X6_missed
set_option maxRecDepth 20000 in
theorem ggL_law_X5_ways : GoodIn wsL_law wsX5_ways := goodIn_r _ [565, 24, 566, 567, 568, 23, 569, 570, 571, 572, 573, 574, 575, 67, 71, 576, 577, 578, 457, 458, 19, 459, 106, 579, 580, 581, 582, 70, 63, 64, 583, 491, 492, 493, 57, 473, 474, 475, 476, 584, 320, 321, 15, 322, 323, 296, 297, 298, 39, 585, 586, 587, 588, 589, 325, 326, 327, 328, 189, 190, 191, 38, 590, 591, 592, 593, 594, 511, 512, 513, 58, 595, 596, 597, 598, 599, 600, 601, 602, 603, 347, 604, 605, 68, 606, 292, 293, 294, 44, 45, 607, 608, 609, 610, 65, 611, 612, 613, 614, 615, 616, 617, 618, 619, 620, 621, 864, 865, 866, 867, 868, 869, 870, 901, 902, 903, 904, 905, 906, 907, 908, 909, 910, 911, 912, 913, 898, 899, 900, 894, 895, 896, 897] (by decide +kernel) (by decide +kernel)
set_option maxRecDepth 20000 in
theorem gL_law_X5_ways : GoodIn wsL_law (wsV RL 96 RX5 yX5_ways wsX5_ways) := goodIn_app (goodIn_of _ (by decide +kernel)) ggL_law_X5_ways
set_option maxRecDepth 20000 in
theorem ggL_law_X6_ways : GoodIn wsL_law wsX6_ways := goodIn_r _ [625, 626, 627, 628, 629, 5, 630, 631, 88, 86, 87, 121, 632, 633, 634, 635, 636, 95, 96, 637, 638, 639, 640, 84, 641, 642, 643, 644, 85, 311, 312, 313, 314, 134, 135, 136, 137, 645, 646, 647, 648, 354, 355, 356, 357, 333, 334, 335, 336, 83, 358, 359, 360, 307, 308, 309, 310, 871, 872, 873, 874, 875, 876, 877, 878, 879, 880, 881, 882, 883, 884, 885, 886, 887, 888, 889, 890, 891, 892, 893] (by decide +kernel) (by decide +kernel)
set_option maxRecDepth 20000 in
theorem gL_law_X6_ways : GoodIn wsL_law (wsV RL 99 RX6 yX6_ways wsX6_ways) := goodIn_app (goodIn_of _ (by decide +kernel)) ggL_law_X6_ways
set_option maxRecDepth 20000 in
theorem ggL_law_X5_join : GoodIn wsL_law wsX5_join := goodIn_r _ [652, 24, 653, 654, 655, 23, 656, 570, 571, 111, 70, 69, 68, 572, 573, 574, 575, 67, 71, 576, 577, 578, 457, 458, 19, 459, 106, 579, 580, 581, 582, 63, 64, 583, 491, 492, 493, 57, 473, 474, 475, 476, 584, 320, 321, 15, 322, 323, 296, 297, 298, 39, 585, 586, 587, 588, 589, 325, 326, 327, 328, 189, 190, 191, 38, 590, 591, 592, 593, 594, 511, 512, 513, 58, 595, 596, 597, 598, 599, 600, 601, 602, 603, 347, 604, 605, 606, 292, 293, 294, 44, 45, 607, 608, 609, 610, 65, 611, 612, 613, 614, 615, 616, 617, 618, 619, 620, 621, 864, 865, 866, 867, 868, 869, 870, 901, 902, 903, 904, 905, 906, 907, 908, 909, 910, 911, 912, 913, 898, 899, 900, 894, 895, 896, 897] (by decide +kernel) (by decide +kernel)
set_option maxRecDepth 20000 in
theorem gL_law_X5_join : GoodIn wsL_law (wsV RL 100 RX5 yX5_join wsX5_join) := goodIn_app (goodIn_of _ (by decide +kernel)) ggL_law_X5_join
set_option maxRecDepth 20000 in
theorem ggL_law_X6_join : GoodIn wsL_law wsX6_join := goodIn_r _ [660, 626, 129, 89, 86, 90, 87, 627, 628, 629, 5, 630, 631, 88, 121, 632, 633, 634, 635, 636, 95, 96, 637, 638, 639, 640, 84, 641, 642, 643, 644, 85, 311, 312, 313, 314, 134, 135, 136, 137, 645, 646, 647, 648, 354, 355, 356, 357, 333, 334, 335, 336, 83, 358, 359, 360, 307, 308, 309, 310, 871, 872, 873, 874, 875, 876, 877, 878, 879, 880, 881, 882, 883, 884, 885, 886, 887, 888, 889, 890, 891, 892, 893] (by decide +kernel) (by decide +kernel)
set_option maxRecDepth 20000 in
theorem gL_law_X6_join : GoodIn wsL_law (wsV RL 103 RX6 yX6_join wsX6_join) := goodIn_app (goodIn_of _ (by decide +kernel)) ggL_law_X6_join
