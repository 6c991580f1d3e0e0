set_option maxRecDepth 20000 in
theorem ggL_law_X5_heap : GoodIn wsL_law wsX5_heap := goodIn_r _ [463, 20, 16, 28, 24, 98, 99, 100, 19, 101, 102, 464, 288, 289, 15, 290, 44, 45, 447, 448, 449, 450, 53, 54, 451, 444, 445, 446, 138, 139, 140, 27, 141, 142, 452, 453, 454, 455, 143, 144, 145, 146, 147, 148, 149, 150, 465, 466, 467, 468, 469, 470, 471, 472, 473, 474, 475, 476, 103, 104, 105, 23, 106, 107, 854, 855, 856, 857, 858, 859, 860, 888, 889, 890, 884, 885, 886, 887, 904, 891, 892, 893, 894, 895, 896, 897, 898, 899, 900, 901, 902, 903] (by decide +kernel) (by decide +kernel)
set_option maxRecDepth 20000 in
theorem gL_law_X5_heap : GoodIn wsL_law (wsV RL 76 RX5 yX5_heap wsX5_heap) := goodIn_app (goodIn_of _ (by decide +kernel)) ggL_law_X5_heap
set_option maxRecDepth 20000 in
theorem ggL_law_X6_heap : GoodIn wsL_law wsX6_heap := goodIn_r _ [480, 159, 117, 80, 81, 303, 304, 305, 5, 306, 91, 92, 160, 161, 162, 163, 164, 165, 166, 167, 121, 122, 123, 124, 125, 861, 862, 863, 864, 865, 866, 867, 868, 869, 870, 871, 872, 873, 874, 875, 876, 877, 878, 879, 880, 881, 882, 883] (by decide +kernel) (by decide +kernel)
set_option maxRecDepth 20000 in
theorem gL_law_X6_heap : GoodIn wsL_law (wsV RL 79 RX6 yX6_heap wsX6_heap) := goodIn_app (goodIn_of _ (by decide +kernel)) ggL_law_X6_heap
set_option maxRecDepth 20000 in
theorem ggL_law_X5_take : GoodIn wsL_law wsX5_take := goodIn_r _ [484, 20, 24, 485, 470, 471, 19, 472, 102, 486, 487, 488, 489, 53, 469, 490, 491, 492, 493, 54, 103, 104, 105, 23, 106, 107, 854, 855, 856, 857, 858, 859, 860, 888, 889, 890, 891, 892, 893, 894, 895, 896, 897, 898, 899, 900, 901, 902, 903] (by decide +kernel) (by decide +kernel)
set_option maxRecDepth 20000 in
theorem gL_law_X5_take : GoodIn wsL_law (wsV RL 80 RX5 yX5_take wsX5_take) := goodIn_app (goodIn_of _ (by decide +kernel)) ggL_law_X5_take
set_option maxRecDepth 20000 in
theorem ggL_law_X6_take : GoodIn wsL_law wsX6_take := goodIn_r _ [497, 80, 117, 81, 498, 499, 500, 5, 501, 118, 119, 120, 121, 122, 123, 124, 125, 861, 862, 863, 864, 865, 866, 867, 868, 869, 870, 871, 872, 873, 874, 875, 876, 877, 878, 879, 880, 881, 882, 883] (by decide +kernel) (by decide +kernel)
set_option maxRecDepth 20000 in
theorem gL_law_X6_take : GoodIn wsL_law (wsV RL 83 RX6 yX6_take wsX6_take) := goodIn_app (goodIn_of _ (by decide +kernel)) ggL_law_X6_take
set_option maxRecDepth 20000 in
theorem ggL_law_X5_heaped : GoodIn wsL_law wsX5_heaped := goodIn_r _ [505, 20, 485, 470, 471, 19, 472, 102, 486, 487, 488, 489, 53, 469, 506, 507, 508, 509, 54, 854, 855, 856, 857, 858, 859, 860, 888, 889, 890] (by decide +kernel) (by decide +kernel)
set_option maxRecDepth 20000 in
theorem gL_law_X5_heaped : GoodIn wsL_law (wsV RL 84 RX5 yX5_heaped wsX5_heaped) := goodIn_app (goodIn_of _ (by decide +kernel)) ggL_law_X5_heaped
set_option maxRecDepth 20000 in
theorem ggL_law_X6_heaped : GoodIn wsL_law wsX6_heaped := goodIn_r _ [513, 80, 81, 498, 499, 500, 5, 501, 117, 118, 119, 120, 861, 862, 863, 864, 865, 866, 867, 868, 869, 870, 871, 872, 873, 874, 875, 876, 877, 878, 879, 880, 881, 882, 883] (by decide +kernel) (by decide +kernel)
set_option maxRecDepth 20000 in
theorem gL_law_X6_heaped : GoodIn wsL_law (wsV RL 87 RX6 yX6_heaped wsX6_heaped) := goodIn_app (goodIn_of _ (by decide +kernel)) ggL_law_X6_heaped
set_option maxRecDepth 20000 in
theorem ggL_law_X5_missing : GoodIn wsL_law wsX5_missing := goodIn_r _ [517, 518, 519, 2, 520, 521, 522, 523, 524, 16, 464, 288, 289, 15, 290, 44, 45, 525, 526, 527, 528, 20, 529, 530, 531, 19, 532, 102, 53, 854, 855, 856, 857, 858, 859, 860, 884, 885, 886, 887, 888, 889, 890] (by decide +kernel) (by decide +kernel)
set_option maxRecDepth 20000 in
theorem gL_law_X5_missing : GoodIn wsL_law (wsV RL 88 RX5 yX5_missing wsX5_missing) := goodIn_app (goodIn_of _ (by decide +kernel)) ggL_law_X5_missing
set_option maxRecDepth 20000 in
theorem ggL_law_X6_missing : GoodIn wsL_law wsX6_missing := goodIn_r _ [536, 118, 119, 5, 120, 303, 304, 305, 306, 91, 92, 537, 538, 539, 540, 541, 542, 543, 544, 117, 80, 861, 862, 863, 864, 865, 866, 867, 868, 869, 870, 871, 872, 873, 874, 875, 876, 877, 878, 879, 880, 881, 882, 883] (by decide +kernel) (by decide +kernel)
set_option maxRecDepth 20000 in
theorem gL_law_X6_missing : GoodIn wsL_law (wsV RL 91 RX6 yX6_missing wsX6_missing) := goodIn_app (goodIn_of _ (by decide +kernel)) ggL_law_X6_missing
set_option maxRecDepth 20000 in
theorem ggL_law_X5_missed : GoodIn wsL_law wsX5_missed := goodIn_r _ [548, 518, 519, 2, 520, 549, 550, 551, 552, 16, 464, 288, 289, 15, 290, 44, 45, 525, 526, 527, 528, 20, 529, 530, 531, 19, 532, 102, 53, 854, 855, 856, 857, 858, 859, 860, 884, 885, 886, 887, 888, 889, 890] (by decide +kernel) (by decide +kernel)
set_option maxRecDepth 20000 in
theorem gL_law_X5_missed : GoodIn wsL_law (wsV RL 92 RX5 yX5_missed wsX5_missed) := goodIn_app (goodIn_of _ (by decide +kernel)) ggL_law_X5_missed
set_option maxRecDepth 20000 in
theorem ggL_law_X6_missed : GoodIn wsL_law wsX6_missed := goodIn_r _ [556, 118, 119, 5, 120, 557, 534, 535, 536, 303, 304, 305, 306, 91, 92, 537, 538, 539, 540, 541, 542, 543, 544, 117, 80, 861, 862, 863, 864, 865, 866, 867, 868, 869, 870, 871, 872, 873, 874, 875, 876, 877, 878, 879, 880, 881, 882, 883] (by decide +kernel) (by decide +kernel)
set_option maxRecDepth 20000 in
theorem gL_law_X6_missed : GoodIn wsL_law (wsV RL 95 RX6 yX6_missed wsX6_missed) := goodIn_app (goodIn_of _ (by decide +kernel)) ggL_law_X6_missed
set_option maxRecDepth 20000 in
theorem ggL_law_X5_ways : GoodIn wsL_law wsX5_ways := goodIn_r _ [561, 24, 562, 563, 564, 23, 565, 566, 567, 568, 569, 570, 571, 67, 63, 572, 573, 574, 453, 454, 19, 455, 102, 575, 576, 577, 578, 66, 59, 60, 579, 487, 488, 489, 53, 469, 470, 471, 472, 580, 316, 317, 15, 318, 319, 292, 293, 294, 39, 581, 582, 583, 584, 585, 321, 322, 323, 324, 185, 186, 187, 38, 586, 587, 588, 589, 590, 507, 508, 509, 54, 591, 592, 593, 594, 595, 64, 596, 288, 289, 290, 44, 45, 597, 598, 599, 600, 61, 601, 602, 603, 604, 605, 606, 607, 608, 854, 855, 856, 857, 858, 859, 860, 891, 892, 893, 894, 895, 896, 897, 898, 899, 900, 901, 902, 903, 888, 889, 890, 884, 885, 886, 887] (by decide +kernel) (by decide +kernel)
set_option maxRecDepth 20000 in
theorem gL_law_X5_ways : GoodIn wsL_law (wsV RL 96 RX5 yX5_ways wsX5_ways) := goodIn_app (goodIn_of _ (by decide +kernel)) ggL_law_X5_ways
set_option maxRecDepth 20000 in
theorem ggL_law_X6_ways : GoodIn wsL_law wsX6_ways := goodIn_r _ [612, 613, 614, 615, 616, 5, 617, 618, 84, 82, 83, 117, 619, 620, 621, 622, 623, 91, 92, 624, 625, 626, 627, 80, 628, 629, 630, 631, 81, 307, 308, 309, 310, 130, 131, 132, 133, 632, 633, 634, 635, 350, 351, 352, 353, 329, 330, 331, 332, 79, 354, 355, 356, 303, 304, 305, 306, 861, 862, 863, 864, 865, 866, 867, 868, 869, 870, 871, 872, 873, 874, 875, 876, 877, 878, 879, 880, 881, 882, 883] (by decide +kernel) (by decide +kernel)
set_option maxRecDepth 20000 in
theorem gL_law_X6_ways : GoodIn wsL_law (wsV RL 99 RX6 yX6_ways wsX6_ways) := goodIn_app (goodIn_of _ (by decide +kernel)) ggL_law_X6_ways
set_option maxRecDepth 20000 in
theorem ggL_law_X5_join : GoodIn wsL_law wsX5_join := goodIn_r _ [639, 24, 640, 641, 642, 23, 643, 566, 567, 107, 66, 65, 64, 568, 569, 570, 571, 67, 63, 572, 573, 574, 453, 454, 19, 455, 102, 575, 576, 577, 578, 59, 60, 579, 487, 488, 489, 53, 469, 470, 471, 472, 580, 316, 317, 15, 318, 319, 292, 293, 294, 39, 581, 582, 583, 584, 585, 321, 322, 323, 324, 185, 186, 187, 38, 586, 587, 588, 589, 590, 507, 508, 509, 54, 591, 592, 593, 594, 595, 596, 288, 289, 290, 44, 45, 597, 598, 599, 600, 61, 601, 602, 603, 604, 605, 606, 607, 608, 854, 855, 856, 857, 858, 859, 860, 891, 892, 893, 894, 895, 896, 897, 898, 899, 900, 901, 902, 903, 888, 889, 890, 884, 885, 886, 887] (by decide +kernel) (by decide +kernel)
set_option maxRecDepth 20000 in
theorem gL_law_X5_join : GoodIn wsL_law (wsV RL 100 RX5 yX5_join wsX5_join) := goodIn_app (goodIn_of _ (by decide +kernel)) ggL_law_X5_join
set_option maxRecDepth 20000 in
theorem ggL_law_X6_join : GoodIn wsL_law wsX6_join := goodIn_r _ [647, 613, 125, 85, 82, 86, 83, 614, 615, 616, 5, 617, 618, 84, 117, 619, 620, 621, 622, 623, 91, 92, 624, 625, 626, 627, 80, 628, 629, 630, 631, 81, 307, 308, 309, 310, 130, 131, 132, 133, 632, 633, 634, 635, 350, 351, 352, 353, 329, 330, 331, 332, 79, 354, 355, 356, 303, 304, 305, 306, 861, 862, 863, 864, 865, 866, 867, 868, 869, 870, 871, 872, 873, 874, 875, 876, 877, 878, 879, 880, 881, 882, 883] (by decide +kernel) (by decide +kernel)
set_option maxRecDepth 20000 in
theorem gL_law_X6_join : GoodIn wsL_law (wsV RL 103 RX6 yX6_join wsX6_join) := goodIn_app (goodIn_of _ (by decide +kernel)) ggL_law_X6_join
