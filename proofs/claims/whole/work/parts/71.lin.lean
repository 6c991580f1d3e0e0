set_option maxRecDepth 40000 in
theorem jL1 : ∀ w ∈ wsL_law_r1, w ∈ lw_tbl := fun w h => (goodIn_r wsL_law_r1 [58, 59, 49, 671, 672, 55, 1023, 60, 61, 62, 63, 64, 65, 66, 67, 50, 187, 94, 95, 51, 188, 110, 111, 52] (by decide +kernel) (by decide +kernel) w h).1
set_option maxRecDepth 40000 in
theorem jL2 : ∀ w ∈ wsL_law_r2, w ∈ lw_tbl := fun w h => (goodIn_r wsL_law_r2 [189, 157, 158, 53, 190, 167, 191, 169, 54, 68, 69, 70, 71, 93, 80, 81, 72, 73, 74, 75, 82, 83, 76, 78] (by decide +kernel) (by decide +kernel) w h).1
set_option maxRecDepth 40000 in
theorem jL3 : ∀ w ∈ wsL_law_r3, w ∈ lw_tbl := fun w h => (goodIn_r wsL_law_r3 [0, 79, 97, 98, 99, 100, 101, 112, 113, 114, 115, 118, 119, 120, 156, 121, 122, 123, 116, 117, 160, 161, 162, 171] (by decide +kernel) (by decide +kernel) w h).1
set_option maxRecDepth 40000 in
theorem jL4 : ∀ w ∈ wsL_law_r4, w ∈ lw_tbl := fun w h => (goodIn_r wsL_law_r4 [172, 173, 174, 673, 674, 675, 676, 680, 685, 686, 689, 690, 691, 693, 694, 695, 696, 697, 698, 678, 679, 209, 210, 211] (by decide +kernel) (by decide +kernel) w h).1
set_option maxRecDepth 40000 in
theorem jL5 : ∀ w ∈ wsL_law_r5, w ∈ lw_tbl := fun w h => (goodIn_r wsL_law_r5 [212, 213, 214, 215, 216, 217, 102, 218, 219, 220, 221, 124, 222, 223, 224, 225, 747, 748, 749, 750, 751, 684, 752, 753] (by decide +kernel) (by decide +kernel) w h).1
set_option maxRecDepth 40000 in
theorem jL6 : ∀ w ∈ wsL_law_r6, w ∈ lw_tbl := fun w h => (goodIn_r wsL_law_r6 [754, 755, 757, 20, 758, 692, 759, 761, 21, 762, 763, 765, 22, 766, 226, 227, 228, 229, 230, 231, 232, 233, 163, 234] (by decide +kernel) (by decide +kernel) w h).1
set_option maxRecDepth 40000 in
theorem jL7 : ∀ w ∈ wsL_law_r7, w ∈ lw_tbl := fun w h => (goodIn_r wsL_law_r7 [235, 236, 237, 238, 239, 240, 241, 242, 243, 244, 245, 767, 768, 769, 770, 681, 771, 773, 23, 774, 775, 776, 777, 778] (by decide +kernel) (by decide +kernel) w h).1
set_option maxRecDepth 40000 in
theorem jL8 : ∀ w ∈ wsL_law_r8, w ∈ lw_tbl := fun w h => (goodIn_r wsL_law_r8 [246, 247, 248, 249, 261, 250, 251, 252, 253, 254, 255, 256, 257, 258, 259, 260, 262, 263, 264, 265, 779, 780, 781, 782] (by decide +kernel) (by decide +kernel) w h).1
set_option maxRecDepth 40000 in
theorem jL9 : ∀ w ∈ wsL_law_r9, w ∈ lw_tbl := fun w h => (goodIn_r wsL_law_r9 [787, 788, 789, 783, 785, 24, 786, 790, 791, 792, 793, 266, 267, 268, 269, 794, 795, 796, 797, 270, 271, 272, 273, 193] (by decide +kernel) (by decide +kernel) w h).1
set_option maxRecDepth 40000 in
theorem jL10 : ∀ w ∈ wsL_law_r10, w ∈ lw_tbl := fun w h => (goodIn_r wsL_law_r10 [292, 274, 275, 276, 277, 278, 279, 280, 281, 282, 283, 175, 176, 284, 286, 1, 287, 288, 289, 290, 291, 293, 294, 295] (by decide +kernel) (by decide +kernel) w h).1
set_option maxRecDepth 40000 in
theorem jL11 : ∀ w ∈ wsL_law_r11, w ∈ lw_tbl := fun w h => (goodIn_r wsL_law_r11 [296, 177, 297, 298, 299, 300, 301, 302, 303, 304, 305, 307, 2, 308, 991, 992, 993, 994, 959, 952, 953, 954, 810, 955] (by decide +kernel) (by decide +kernel) w h).1
set_option maxRecDepth 40000 in
theorem jL12 : ∀ w ∈ wsL_law_r12, w ∈ lw_tbl := fun w h => (goodIn_r wsL_law_r12 [957, 43, 958, 677, 960, 962, 44, 963, 988, 989, 990, 309, 310, 311, 312, 313, 314, 315, 316, 317, 318, 319, 320, 321] (by decide +kernel) (by decide +kernel) w h).1
set_option maxRecDepth 40000 in
theorem jL13 : ∀ w ∈ wsL_law_r13, w ∈ lw_tbl := fun w h => (goodIn_r wsL_law_r13 [322, 323, 324, 325, 326, 327, 328, 798, 799, 800, 801, 802, 804, 25, 805, 806, 808, 26, 809, 811, 813, 27, 814, 329] (by decide +kernel) (by decide +kernel) w h).1
set_option maxRecDepth 40000 in
theorem jL14 : ∀ w ∈ wsL_law_r14, w ∈ lw_tbl := fun w h => (goodIn_r wsL_law_r14 [330, 331, 332, 333, 334, 335, 336, 337, 338, 339, 340, 341, 342, 815, 816, 817, 818, 819, 821, 28, 822, 343, 344, 345] (by decide +kernel) (by decide +kernel) w h).1
set_option maxRecDepth 40000 in
theorem jL15 : ∀ w ∈ wsL_law_r15, w ∈ lw_tbl := fun w h => (goodIn_r wsL_law_r15 [346, 347, 348, 349, 350, 352, 353, 56, 354, 351, 823, 824, 825, 826, 827, 829, 29, 830, 831, 832, 833, 355, 356, 357] (by decide +kernel) (by decide +kernel) w h).1
set_option maxRecDepth 40000 in
theorem jL16 : ∀ w ∈ wsL_law_r16, w ∈ lw_tbl := fun w h => (goodIn_r wsL_law_r16 [358, 359, 360, 361, 362, 363, 365, 3, 366, 367, 369, 4, 370, 834, 835, 836, 837, 838, 840, 30, 841, 842, 844, 31] (by decide +kernel) (by decide +kernel) w h).1
set_option maxRecDepth 40000 in
theorem jL17 : ∀ w ∈ wsL_law_r17, w ∈ lw_tbl := fun w h => (goodIn_r wsL_law_r17 [845, 846, 848, 32, 849, 371, 372, 373, 374, 375, 376, 377, 378, 379, 381, 5, 382, 383, 384, 850, 851, 852, 853, 682] (by decide +kernel) (by decide +kernel) w h).1
set_option maxRecDepth 40000 in
theorem jL18 : ∀ w ∈ wsL_law_r18, w ∈ lw_tbl := fun w h => (goodIn_r wsL_law_r18 [854, 856, 33, 857, 683, 385, 386, 387, 388, 389, 390, 391, 392, 858, 859, 860, 861, 393, 394, 395, 396, 397, 398, 399] (by decide +kernel) (by decide +kernel) w h).1
set_option maxRecDepth 40000 in
theorem jL19 : ∀ w ∈ wsL_law_r19, w ∈ lw_tbl := fun w h => (goodIn_r wsL_law_r19 [400, 401, 862, 863, 864, 865, 402, 403, 404, 405, 406, 407, 408, 409, 410, 411, 412, 413, 414, 415, 416, 417, 418, 419] (by decide +kernel) (by decide +kernel) w h).1
set_option maxRecDepth 40000 in
theorem jL20 : ∀ w ∈ wsL_law_r20, w ∈ lw_tbl := fun w h => (goodIn_r wsL_law_r20 [866, 867, 868, 869, 420, 421, 422, 423, 424, 425, 426, 427, 428, 429, 430, 431, 432, 433, 434, 435, 436, 870, 871, 872] (by decide +kernel) (by decide +kernel) w h).1
set_option maxRecDepth 40000 in
theorem jL21 : ∀ w ∈ wsL_law_r21, w ∈ lw_tbl := fun w h => (goodIn_r wsL_law_r21 [873, 437, 438, 439, 440, 441, 442, 443, 444, 445, 446, 447, 448, 449, 874, 875, 876, 877, 878, 880, 34, 881, 450, 451] (by decide +kernel) (by decide +kernel) w h).1
set_option maxRecDepth 40000 in
theorem jL22 : ∀ w ∈ wsL_law_r22, w ∈ lw_tbl := fun w h => (goodIn_r wsL_law_r22 [452, 453, 454, 455, 456, 457, 882, 883, 884, 885, 458, 459, 460, 461, 462, 463, 464, 465, 467, 6, 468, 469, 471, 7] (by decide +kernel) (by decide +kernel) w h).1
set_option maxRecDepth 40000 in
theorem jL23 : ∀ w ∈ wsL_law_r23, w ∈ lw_tbl := fun w h => (goodIn_r wsL_law_r23 [472, 473, 474, 475, 476, 886, 887, 888, 889, 890, 892, 35, 893, 894, 896, 36, 897, 477, 478, 479, 480, 481, 483, 8] (by decide +kernel) (by decide +kernel) w h).1
set_option maxRecDepth 40000 in
theorem jL24 : ∀ w ∈ wsL_law_r24, w ∈ lw_tbl := fun w h => (goodIn_r wsL_law_r24 [484, 898, 899, 900, 901, 902, 485, 486, 487, 488, 489, 490, 491, 492, 126, 127, 493, 495, 9, 496, 125, 128, 497, 498] (by decide +kernel) (by decide +kernel) w h).1
set_option maxRecDepth 40000 in
theorem jL25 : ∀ w ∈ wsL_law_r25, w ∈ lw_tbl := fun w h => (goodIn_r wsL_law_r25 [500, 10, 501, 502, 503, 504, 506, 11, 507, 508, 509, 511, 12, 512, 513, 514, 516, 13, 517, 527, 518, 519, 521, 14] (by decide +kernel) (by decide +kernel) w h).1
set_option maxRecDepth 40000 in
theorem jL26 : ∀ w ∈ wsL_law_r26, w ∈ lw_tbl := fun w h => (goodIn_r wsL_law_r26 [522, 523, 524, 525, 526, 528, 530, 15, 531, 903, 904, 905, 906, 688, 907, 909, 37, 910, 687, 911, 912, 914, 38, 915] (by decide +kernel) (by decide +kernel) w h).1
set_option maxRecDepth 40000 in
theorem jL27 : ∀ w ∈ wsL_law_r27, w ∈ lw_tbl := fun w h => (goodIn_r wsL_law_r27 [916, 918, 39, 919, 920, 922, 40, 923, 924, 926, 41, 927, 532, 533, 534, 535, 536, 537, 538, 539, 928, 929, 930, 931] (by decide +kernel) (by decide +kernel) w h).1
set_option maxRecDepth 40000 in
theorem jL28 : ∀ w ∈ wsL_law_r28, w ∈ lw_tbl := fun w h => (goodIn_r wsL_law_r28 [540, 541, 542, 543, 544, 545, 546, 547, 548, 549, 550, 551, 552, 553, 554, 555, 556, 932, 933, 934, 935, 557, 558, 559] (by decide +kernel) (by decide +kernel) w h).1
set_option maxRecDepth 40000 in
theorem jL29 : ∀ w ∈ wsL_law_r29, w ∈ lw_tbl := fun w h => (goodIn_r wsL_law_r29 [560, 561, 562, 563, 564, 936, 937, 938, 939, 565, 566, 567, 568, 569, 940, 941, 942, 943, 944, 946, 42, 947, 570, 571] (by decide +kernel) (by decide +kernel) w h).1
set_option maxRecDepth 40000 in
theorem jL30 : ∀ w ∈ wsL_law_r30, w ∈ lw_tbl := fun w h => (goodIn_r wsL_law_r30 [572, 573, 574, 575, 576, 577, 578, 579, 580, 581, 582, 583, 948, 949, 950, 951, 584, 585, 586, 587, 588, 589, 590, 591] (by decide +kernel) (by decide +kernel) w h).1
set_option maxRecDepth 40000 in
theorem jL31 : ∀ w ∈ wsL_law_r31, w ∈ lw_tbl := fun w h => (goodIn_r wsL_law_r31 [964, 965, 966, 967, 592, 593, 594, 595, 596, 597, 598, 599, 600, 602, 16, 603, 968, 969, 970, 971, 972, 974, 45, 975] (by decide +kernel) (by decide +kernel) w h).1
set_option maxRecDepth 40000 in
theorem jL32 : ∀ w ∈ wsL_law_r32, w ∈ lw_tbl := fun w h => (goodIn_r wsL_law_r32 [604, 605, 606, 607, 608, 610, 17, 611, 976, 977, 978, 979, 980, 982, 46, 983, 612, 613, 614, 615, 616, 617, 618, 619] (by decide +kernel) (by decide +kernel) w h).1
set_option maxRecDepth 40000 in
theorem jL33 : ∀ w ∈ wsL_law_r33, w ∈ lw_tbl := fun w h => (goodIn_r wsL_law_r33 [620, 621, 622, 623, 624, 626, 625, 57, 984, 985, 986, 987, 627, 628, 629, 630, 631, 633, 18, 634, 192, 635, 637, 19] (by decide +kernel) (by decide +kernel) w h).1
set_option maxRecDepth 40000 in
theorem jL34 : ∀ w ∈ wsL_law_r34, w ∈ lw_tbl := fun w h => (goodIn_r wsL_law_r34 [638, 639, 640, 641, 642, 995, 996, 997, 998, 999, 1001, 47, 1002, 699, 643, 644, 645, 646, 1003, 1004, 1005, 1006, 647, 648] (by decide +kernel) (by decide +kernel) w h).1
set_option maxRecDepth 40000 in
theorem jL35 : ∀ w ∈ wsL_law_r35, w ∈ lw_tbl := fun w h => (goodIn_r wsL_law_r35 [649, 650, 1007, 1008, 1009, 1010, 651, 652, 653, 654, 1011, 1012, 1013, 1014, 655, 656, 657, 658, 1015, 1016, 1017, 1018, 659, 660] (by decide +kernel) (by decide +kernel) w h).1
set_option maxRecDepth 40000 in
theorem jL36 : ∀ w ∈ wsL_law_r36, w ∈ lw_tbl := fun w h => (goodIn_r wsL_law_r36 [661, 662, 663, 664, 665, 666, 667, 668, 669, 670, 1019, 1020, 1021, 1022] (by decide +kernel) (by decide +kernel) w h).1
set_option maxRecDepth 40000 in
theorem jX5 : ∀ w ∈ wsX50, w ∈ lw_tbl := fun w h => (goodIn_r wsX50 [194, 196, 198, 200, 202, 204, 206] (by decide +kernel) (by decide +kernel) w h).1
set_option maxRecDepth 40000 in
theorem jX6 : ∀ w ∈ wsX60, w ∈ lw_tbl := fun w h => (goodIn_r wsX60 [700, 702, 704, 706, 708, 710, 712, 714, 716, 718, 720, 722, 724, 726, 728, 730, 732, 734, 736, 738, 740, 742, 744] (by decide +kernel) (by decide +kernel) w h).1
set_option maxRecDepth 40000 in
theorem jX1 : ∀ w ∈ wsX10, w ∈ lw_tbl := fun w h => (goodIn_r wsX10 [84, 86, 88, 90] (by decide +kernel) (by decide +kernel) w h).1
set_option maxRecDepth 40000 in
theorem jX3 : ∀ w ∈ wsX30, w ∈ lw_tbl := fun w h => (goodIn_r wsX30 [129, 131, 133, 135, 137, 139, 141, 143, 145, 147, 149, 151, 153] (by decide +kernel) (by decide +kernel) w h).1
set_option maxRecDepth 40000 in
theorem jX2 : ∀ w ∈ wsX20, w ∈ lw_tbl := fun w h => (goodIn_r wsX20 [103, 105, 107] (by decide +kernel) (by decide +kernel) w h).1
set_option maxRecDepth 40000 in
theorem jX0 : ∀ w ∈ wsX00, w ∈ lw_tbl := fun w h => (goodIn_r wsX00 [164] (by decide +kernel) (by decide +kernel) w h).1
set_option maxRecDepth 40000 in
theorem jX4 : ∀ w ∈ wsX40, w ∈ lw_tbl := fun w h => (goodIn_r wsX40 [178, 180, 182, 184] (by decide +kernel) (by decide +kernel) w h).1
theorem wsL_law_in : ∀ w ∈ wsL_law, w ∈ lw_tbl := (List.forall_mem_append.mpr ⟨(List.forall_mem_append.mpr ⟨(List.forall_mem_append.mpr ⟨(List.forall_mem_append.mpr ⟨(List.forall_mem_append.mpr ⟨(List.forall_mem_append.mpr ⟨(List.forall_mem_append.mpr ⟨(List.forall_mem_append.mpr ⟨(List.forall_mem_append.mpr ⟨jL1, (List.forall_mem_append.mpr ⟨jL2, (List.forall_mem_append.mpr ⟨jL3, (List.forall_mem_append.mpr ⟨jL4, (List.forall_mem_append.mpr ⟨jL5, (List.forall_mem_append.mpr ⟨jL6, (List.forall_mem_append.mpr ⟨jL7, (List.forall_mem_append.mpr ⟨jL8, (List.forall_mem_append.mpr ⟨jL9, (List.forall_mem_append.mpr ⟨jL10, (List.forall_mem_append.mpr ⟨jL11, (List.forall_mem_append.mpr ⟨jL12, (List.forall_mem_append.mpr ⟨jL13, (List.forall_mem_append.mpr ⟨jL14, (List.forall_mem_append.mpr ⟨jL15, (List.forall_mem_append.mpr ⟨jL16, (List.forall_mem_append.mpr ⟨jL17, (List.forall_mem_append.mpr ⟨jL18, (List.forall_mem_append.mpr ⟨jL19, (List.forall_mem_append.mpr ⟨jL20, (List.forall_mem_append.mpr ⟨jL21, (List.forall_mem_append.mpr ⟨jL22, (List.forall_mem_append.mpr ⟨jL23, (List.forall_mem_append.mpr ⟨jL24, (List.forall_mem_append.mpr ⟨jL25, (List.forall_mem_append.mpr ⟨jL26, (List.forall_mem_append.mpr ⟨jL27, (List.forall_mem_append.mpr ⟨jL28, (List.forall_mem_append.mpr ⟨jL29, (List.forall_mem_append.mpr ⟨jL30, (List.forall_mem_append.mpr ⟨jL31, (List.forall_mem_append.mpr ⟨jL32, (List.forall_mem_append.mpr ⟨jL33, (List.forall_mem_append.mpr ⟨jL34, (List.forall_mem_append.mpr ⟨jL35, jL36⟩)⟩)⟩)⟩)⟩)⟩)⟩)⟩)⟩)⟩)⟩)⟩)⟩)⟩)⟩)⟩)⟩)⟩)⟩)⟩)⟩)⟩)⟩)⟩)⟩)⟩)⟩)⟩)⟩)⟩)⟩)⟩)⟩)⟩)⟩), jX5⟩), jX6⟩), jX1⟩), jX2⟩), jX3⟩), jX0⟩), jX4⟩), fun _ h => absurd h List.not_mem_nil⟩)
theorem inlX0 : ∀ w ∈ wsX00, w ∈ wsL_law := fun _ h => List.mem_append_left _ (List.mem_append_left _ (List.mem_append_right _ h))
theorem inlX1 : ∀ w ∈ wsX10, w ∈ wsL_law := fun _ h => List.mem_append_left _ (List.mem_append_left _ (List.mem_append_left _ (List.mem_append_left _ (List.mem_append_left _ (List.mem_append_right _ h)))))
theorem inlX2 : ∀ w ∈ wsX20, w ∈ wsL_law := fun _ h => List.mem_append_left _ (List.mem_append_left _ (List.mem_append_left _ (List.mem_append_left _ (List.mem_append_right _ h))))
theorem inlX3 : ∀ w ∈ wsX30, w ∈ wsL_law := fun _ h => List.mem_append_left _ (List.mem_append_left _ (List.mem_append_left _ (List.mem_append_right _ h)))
theorem inlX4 : ∀ w ∈ wsX40, w ∈ wsL_law := fun _ h => List.mem_append_left _ (List.mem_append_right _ h)
theorem inlX5 : ∀ w ∈ wsX50, w ∈ wsL_law := fun _ h => List.mem_append_left _ (List.mem_append_left _ (List.mem_append_left _ (List.mem_append_left _ (List.mem_append_left _ (List.mem_append_left _ (List.mem_append_left _ (List.mem_append_right _ h)))))))
theorem inlX6 : ∀ w ∈ wsX60, w ∈ wsL_law := fun _ h => List.mem_append_left _ (List.mem_append_left _ (List.mem_append_left _ (List.mem_append_left _ (List.mem_append_left _ (List.mem_append_left _ (List.mem_append_right _ h))))))
