set_option maxRecDepth 40000 in
theorem jL1 : ∀ w ∈ wsL_law_r1, w ∈ lw_tbl := fun w h => (goodIn_r wsL_law_r1 [59, 60, 50, 682, 683, 56, 1034, 61, 62, 63, 64, 65, 66, 67, 68, 51, 192, 99, 100, 52, 193, 115, 116, 53] (by decide +kernel) (by decide +kernel) w h).1
set_option maxRecDepth 40000 in
theorem jL2 : ∀ w ∈ wsL_law_r2, w ∈ lw_tbl := fun w h => (goodIn_r wsL_law_r2 [194, 162, 163, 54, 195, 172, 196, 174, 55, 69, 70, 71, 72, 98, 85, 86, 73, 74, 75, 76, 87, 88, 77, 79] (by decide +kernel) (by decide +kernel) w h).1
set_option maxRecDepth 40000 in
theorem jL3 : ∀ w ∈ wsL_law_r3, w ∈ lw_tbl := fun w h => (goodIn_r wsL_law_r3 [0, 80, 81, 83, 1, 84, 102, 103, 104, 105, 106, 117, 118, 119, 120, 123, 124, 125, 161, 126, 127, 128, 121, 122] (by decide +kernel) (by decide +kernel) w h).1
set_option maxRecDepth 40000 in
theorem jL4 : ∀ w ∈ wsL_law_r4, w ∈ lw_tbl := fun w h => (goodIn_r wsL_law_r4 [165, 166, 167, 176, 177, 178, 179, 684, 685, 686, 687, 691, 696, 697, 700, 701, 702, 704, 705, 706, 707, 708, 709, 689] (by decide +kernel) (by decide +kernel) w h).1
set_option maxRecDepth 40000 in
theorem jL5 : ∀ w ∈ wsL_law_r5, w ∈ lw_tbl := fun w h => (goodIn_r wsL_law_r5 [690, 214, 215, 216, 217, 218, 219, 220, 221, 222, 107, 223, 224, 225, 226, 129, 227, 228, 229, 230, 758, 759, 760, 761] (by decide +kernel) (by decide +kernel) w h).1
set_option maxRecDepth 40000 in
theorem jL6 : ∀ w ∈ wsL_law_r6, w ∈ lw_tbl := fun w h => (goodIn_r wsL_law_r6 [762, 695, 763, 764, 765, 766, 768, 21, 769, 703, 770, 772, 22, 773, 774, 776, 23, 777, 231, 232, 233, 234, 235, 236] (by decide +kernel) (by decide +kernel) w h).1
set_option maxRecDepth 40000 in
theorem jL7 : ∀ w ∈ wsL_law_r7, w ∈ lw_tbl := fun w h => (goodIn_r wsL_law_r7 [237, 238, 168, 239, 240, 241, 242, 243, 244, 245, 246, 247, 248, 249, 250, 778, 779, 780, 781, 692, 782, 784, 24, 785] (by decide +kernel) (by decide +kernel) w h).1
set_option maxRecDepth 40000 in
theorem jL8 : ∀ w ∈ wsL_law_r8, w ∈ lw_tbl := fun w h => (goodIn_r wsL_law_r8 [786, 787, 788, 789, 251, 252, 253, 254, 266, 255, 256, 257, 258, 259, 260, 261, 262, 263, 264, 265, 267, 268, 269, 270] (by decide +kernel) (by decide +kernel) w h).1
set_option maxRecDepth 40000 in
theorem jL9 : ∀ w ∈ wsL_law_r9, w ∈ lw_tbl := fun w h => (goodIn_r wsL_law_r9 [790, 791, 792, 793, 798, 799, 800, 794, 796, 25, 797, 801, 802, 803, 804, 271, 272, 273, 274, 805, 806, 807, 808, 275] (by decide +kernel) (by decide +kernel) w h).1
set_option maxRecDepth 40000 in
theorem jL10 : ∀ w ∈ wsL_law_r10, w ∈ lw_tbl := fun w h => (goodIn_r wsL_law_r10 [276, 277, 278, 198, 297, 279, 280, 281, 282, 283, 284, 285, 286, 287, 288, 180, 181, 289, 291, 2, 292, 293, 294, 295] (by decide +kernel) (by decide +kernel) w h).1
set_option maxRecDepth 40000 in
theorem jL11 : ∀ w ∈ wsL_law_r11, w ∈ lw_tbl := fun w h => (goodIn_r wsL_law_r11 [296, 298, 299, 300, 301, 182, 302, 303, 304, 305, 306, 307, 308, 309, 310, 312, 3, 313, 1002, 1003, 1004, 1005, 970, 963] (by decide +kernel) (by decide +kernel) w h).1
set_option maxRecDepth 40000 in
theorem jL12 : ∀ w ∈ wsL_law_r12, w ∈ lw_tbl := fun w h => (goodIn_r wsL_law_r12 [964, 965, 821, 966, 968, 44, 969, 688, 971, 973, 45, 974, 999, 1000, 1001, 314, 315, 316, 317, 318, 319, 320, 321, 322] (by decide +kernel) (by decide +kernel) w h).1
set_option maxRecDepth 40000 in
theorem jL13 : ∀ w ∈ wsL_law_r13, w ∈ lw_tbl := fun w h => (goodIn_r wsL_law_r13 [323, 324, 325, 326, 327, 328, 329, 330, 331, 332, 333, 809, 810, 811, 812, 813, 815, 26, 816, 817, 819, 27, 820, 822] (by decide +kernel) (by decide +kernel) w h).1
set_option maxRecDepth 40000 in
theorem jL14 : ∀ w ∈ wsL_law_r14, w ∈ lw_tbl := fun w h => (goodIn_r wsL_law_r14 [824, 28, 825, 334, 335, 336, 337, 338, 339, 340, 341, 342, 343, 344, 345, 346, 347, 826, 827, 828, 829, 830, 832, 29] (by decide +kernel) (by decide +kernel) w h).1
set_option maxRecDepth 40000 in
theorem jL15 : ∀ w ∈ wsL_law_r15, w ∈ lw_tbl := fun w h => (goodIn_r wsL_law_r15 [833, 348, 349, 350, 351, 352, 353, 354, 355, 357, 358, 57, 359, 356, 834, 835, 836, 837, 838, 840, 30, 841, 842, 843] (by decide +kernel) (by decide +kernel) w h).1
set_option maxRecDepth 40000 in
theorem jL16 : ∀ w ∈ wsL_law_r16, w ∈ lw_tbl := fun w h => (goodIn_r wsL_law_r16 [844, 360, 361, 362, 363, 364, 365, 366, 367, 368, 370, 4, 371, 372, 374, 5, 375, 845, 846, 847, 848, 849, 851, 31] (by decide +kernel) (by decide +kernel) w h).1
set_option maxRecDepth 40000 in
theorem jL17 : ∀ w ∈ wsL_law_r17, w ∈ lw_tbl := fun w h => (goodIn_r wsL_law_r17 [852, 853, 855, 32, 856, 857, 859, 33, 860, 376, 377, 378, 379, 380, 381, 382, 383, 384, 386, 6, 387, 388, 389, 861] (by decide +kernel) (by decide +kernel) w h).1
set_option maxRecDepth 40000 in
theorem jL18 : ∀ w ∈ wsL_law_r18, w ∈ lw_tbl := fun w h => (goodIn_r wsL_law_r18 [862, 863, 864, 693, 865, 867, 34, 868, 694, 390, 391, 392, 393, 394, 395, 396, 397, 869, 870, 871, 872, 398, 399, 400] (by decide +kernel) (by decide +kernel) w h).1
set_option maxRecDepth 40000 in
theorem jL19 : ∀ w ∈ wsL_law_r19, w ∈ lw_tbl := fun w h => (goodIn_r wsL_law_r19 [401, 402, 403, 404, 405, 406, 873, 874, 875, 876, 407, 408, 409, 410, 411, 412, 413, 414, 415, 416, 417, 418, 419, 420] (by decide +kernel) (by decide +kernel) w h).1
set_option maxRecDepth 40000 in
theorem jL20 : ∀ w ∈ wsL_law_r20, w ∈ lw_tbl := fun w h => (goodIn_r wsL_law_r20 [421, 422, 423, 424, 877, 878, 879, 880, 425, 426, 427, 428, 429, 430, 431, 432, 433, 434, 435, 436, 437, 438, 439, 440] (by decide +kernel) (by decide +kernel) w h).1
set_option maxRecDepth 40000 in
theorem jL21 : ∀ w ∈ wsL_law_r21, w ∈ lw_tbl := fun w h => (goodIn_r wsL_law_r21 [441, 881, 882, 883, 884, 442, 443, 444, 445, 446, 447, 448, 449, 450, 451, 452, 453, 454, 885, 886, 887, 888, 889, 891] (by decide +kernel) (by decide +kernel) w h).1
set_option maxRecDepth 40000 in
theorem jL22 : ∀ w ∈ wsL_law_r22, w ∈ lw_tbl := fun w h => (goodIn_r wsL_law_r22 [35, 892, 455, 456, 457, 458, 459, 460, 461, 462, 893, 894, 895, 896, 463, 464, 465, 466, 467, 468, 469, 470, 472, 7] (by decide +kernel) (by decide +kernel) w h).1
set_option maxRecDepth 40000 in
theorem jL23 : ∀ w ∈ wsL_law_r23, w ∈ lw_tbl := fun w h => (goodIn_r wsL_law_r23 [473, 474, 476, 8, 477, 478, 479, 480, 481, 897, 898, 899, 900, 901, 903, 36, 904, 905, 907, 37, 908, 482, 483, 484] (by decide +kernel) (by decide +kernel) w h).1
set_option maxRecDepth 40000 in
theorem jL24 : ∀ w ∈ wsL_law_r24, w ∈ lw_tbl := fun w h => (goodIn_r wsL_law_r24 [485, 486, 488, 9, 489, 909, 910, 911, 912, 913, 490, 491, 492, 493, 494, 495, 496, 497, 131, 132, 498, 500, 10, 501] (by decide +kernel) (by decide +kernel) w h).1
set_option maxRecDepth 40000 in
theorem jL25 : ∀ w ∈ wsL_law_r25, w ∈ lw_tbl := fun w h => (goodIn_r wsL_law_r25 [130, 133, 502, 503, 505, 11, 506, 507, 508, 509, 511, 12, 512, 513, 514, 516, 13, 517, 518, 519, 520, 521, 522, 524] (by decide +kernel) (by decide +kernel) w h).1
set_option maxRecDepth 40000 in
theorem jL26 : ∀ w ∈ wsL_law_r26, w ∈ lw_tbl := fun w h => (goodIn_r wsL_law_r26 [14, 525, 538, 539, 540, 541, 526, 527, 529, 15, 530, 531, 532, 533, 534, 535, 536, 537, 542, 544, 16, 545, 914, 915] (by decide +kernel) (by decide +kernel) w h).1
set_option maxRecDepth 40000 in
theorem jL27 : ∀ w ∈ wsL_law_r27, w ∈ lw_tbl := fun w h => (goodIn_r wsL_law_r27 [916, 917, 699, 918, 920, 38, 921, 698, 922, 923, 925, 39, 926, 927, 929, 40, 930, 931, 933, 41, 934, 935, 937, 42] (by decide +kernel) (by decide +kernel) w h).1
set_option maxRecDepth 40000 in
theorem jL28 : ∀ w ∈ wsL_law_r28, w ∈ lw_tbl := fun w h => (goodIn_r wsL_law_r28 [938, 546, 547, 548, 549, 550, 551, 552, 553, 939, 940, 941, 942, 554, 555, 556, 557, 558, 559, 560, 561, 562, 563, 564] (by decide +kernel) (by decide +kernel) w h).1
set_option maxRecDepth 40000 in
theorem jL29 : ∀ w ∈ wsL_law_r29, w ∈ lw_tbl := fun w h => (goodIn_r wsL_law_r29 [565, 566, 567, 568, 569, 943, 944, 945, 946, 570, 571, 572, 573, 574, 575, 576, 577, 947, 948, 949, 950, 578, 579, 580] (by decide +kernel) (by decide +kernel) w h).1
set_option maxRecDepth 40000 in
theorem jL30 : ∀ w ∈ wsL_law_r30, w ∈ lw_tbl := fun w h => (goodIn_r wsL_law_r30 [581, 582, 951, 952, 953, 954, 955, 957, 43, 958, 583, 584, 585, 586, 587, 588, 589, 590, 591, 592, 593, 594, 959, 960] (by decide +kernel) (by decide +kernel) w h).1
set_option maxRecDepth 40000 in
theorem jL31 : ∀ w ∈ wsL_law_r31, w ∈ lw_tbl := fun w h => (goodIn_r wsL_law_r31 [961, 962, 595, 596, 597, 598, 599, 600, 601, 602, 975, 976, 977, 978, 603, 604, 605, 606, 607, 608, 609, 610, 611, 613] (by decide +kernel) (by decide +kernel) w h).1
set_option maxRecDepth 40000 in
theorem jL32 : ∀ w ∈ wsL_law_r32, w ∈ lw_tbl := fun w h => (goodIn_r wsL_law_r32 [17, 614, 979, 980, 981, 982, 983, 985, 46, 986, 615, 616, 617, 618, 619, 621, 18, 622, 987, 988, 989, 990, 991, 993] (by decide +kernel) (by decide +kernel) w h).1
set_option maxRecDepth 40000 in
theorem jL33 : ∀ w ∈ wsL_law_r33, w ∈ lw_tbl := fun w h => (goodIn_r wsL_law_r33 [47, 994, 623, 624, 625, 626, 627, 628, 629, 630, 631, 632, 633, 634, 635, 637, 636, 58, 995, 996, 997, 998, 638, 639] (by decide +kernel) (by decide +kernel) w h).1
set_option maxRecDepth 40000 in
theorem jL34 : ∀ w ∈ wsL_law_r34, w ∈ lw_tbl := fun w h => (goodIn_r wsL_law_r34 [640, 641, 642, 644, 19, 645, 197, 646, 648, 20, 649, 650, 651, 652, 653, 1006, 1007, 1008, 1009, 1010, 1012, 48, 1013, 710] (by decide +kernel) (by decide +kernel) w h).1
set_option maxRecDepth 40000 in
theorem jL35 : ∀ w ∈ wsL_law_r35, w ∈ lw_tbl := fun w h => (goodIn_r wsL_law_r35 [654, 655, 656, 657, 1014, 1015, 1016, 1017, 658, 659, 660, 661, 1018, 1019, 1020, 1021, 662, 663, 664, 665, 1022, 1023, 1024, 1025] (by decide +kernel) (by decide +kernel) w h).1
set_option maxRecDepth 40000 in
theorem jL36 : ∀ w ∈ wsL_law_r36, w ∈ lw_tbl := fun w h => (goodIn_r wsL_law_r36 [666, 667, 668, 669, 1026, 1027, 1028, 1029, 670, 671, 672, 673, 674, 675, 676, 677, 678, 679, 680, 681, 1030, 1031, 1032, 1033] (by decide +kernel) (by decide +kernel) w h).1
set_option maxRecDepth 40000 in
theorem jX5 : ∀ w ∈ wsX50, w ∈ lw_tbl := fun w h => (goodIn_r wsX50 [199, 201, 203, 205, 207, 209, 211] (by decide +kernel) (by decide +kernel) w h).1
set_option maxRecDepth 40000 in
theorem jX6 : ∀ w ∈ wsX60, w ∈ lw_tbl := fun w h => (goodIn_r wsX60 [711, 713, 715, 717, 719, 721, 723, 725, 727, 729, 731, 733, 735, 737, 739, 741, 743, 745, 747, 749, 751, 753, 755] (by decide +kernel) (by decide +kernel) w h).1
set_option maxRecDepth 40000 in
theorem jX1 : ∀ w ∈ wsX10, w ∈ lw_tbl := fun w h => (goodIn_r wsX10 [89, 91, 93, 95] (by decide +kernel) (by decide +kernel) w h).1
set_option maxRecDepth 40000 in
theorem jX3 : ∀ w ∈ wsX30, w ∈ lw_tbl := fun w h => (goodIn_r wsX30 [134, 136, 138, 140, 142, 144, 146, 148, 150, 152, 154, 156, 158] (by decide +kernel) (by decide +kernel) w h).1
set_option maxRecDepth 40000 in
theorem jX2 : ∀ w ∈ wsX20, w ∈ lw_tbl := fun w h => (goodIn_r wsX20 [108, 110, 112] (by decide +kernel) (by decide +kernel) w h).1
set_option maxRecDepth 40000 in
theorem jX0 : ∀ w ∈ wsX00, w ∈ lw_tbl := fun w h => (goodIn_r wsX00 [169] (by decide +kernel) (by decide +kernel) w h).1
set_option maxRecDepth 40000 in
theorem jX4 : ∀ w ∈ wsX40, w ∈ lw_tbl := fun w h => (goodIn_r wsX40 [183, 185, 187, 189] (by decide +kernel) (by decide +kernel) w h).1
theorem wsL_law_in : ∀ w ∈ wsL_law, w ∈ lw_tbl := (List.forall_mem_append.mpr ⟨(List.forall_mem_append.mpr ⟨(List.forall_mem_append.mpr ⟨(List.forall_mem_append.mpr ⟨(List.forall_mem_append.mpr ⟨(List.forall_mem_append.mpr ⟨(List.forall_mem_append.mpr ⟨(List.forall_mem_append.mpr ⟨(List.forall_mem_append.mpr ⟨jL1, (List.forall_mem_append.mpr ⟨jL2, (List.forall_mem_append.mpr ⟨jL3, (List.forall_mem_append.mpr ⟨jL4, (List.forall_mem_append.mpr ⟨jL5, (List.forall_mem_append.mpr ⟨jL6, (List.forall_mem_append.mpr ⟨jL7, (List.forall_mem_append.mpr ⟨jL8, (List.forall_mem_append.mpr ⟨jL9, (List.forall_mem_append.mpr ⟨jL10, (List.forall_mem_append.mpr ⟨jL11, (List.forall_mem_append.mpr ⟨jL12, (List.forall_mem_append.mpr ⟨jL13, (List.forall_mem_append.mpr ⟨jL14, (List.forall_mem_append.mpr ⟨jL15, (List.forall_mem_append.mpr ⟨jL16, (List.forall_mem_append.mpr ⟨jL17, (List.forall_mem_append.mpr ⟨jL18, (List.forall_mem_append.mpr ⟨jL19, (List.forall_mem_append.mpr ⟨jL20, (List.forall_mem_append.mpr ⟨jL21, (List.forall_mem_append.mpr ⟨jL22, (List.forall_mem_append.mpr ⟨jL23, (List.forall_mem_append.mpr ⟨jL24, (List.forall_mem_append.mpr ⟨jL25, (List.forall_mem_append.mpr ⟨jL26, (List.forall_mem_append.mpr ⟨jL27, (List.forall_mem_append.mpr ⟨jL28, (List.forall_mem_append.mpr ⟨jL29, (List.forall_mem_append.mpr ⟨jL30, (List.forall_mem_append.mpr ⟨jL31, (List.forall_mem_append.mpr ⟨jL32, (List.forall_mem_append.mpr ⟨jL33, (List.forall_mem_append.mpr ⟨jL34, (List.forall_mem_append.mpr ⟨jL35, jL36⟩)⟩)⟩)⟩)⟩)⟩)⟩)⟩)⟩)⟩)⟩)⟩)⟩)⟩)⟩)⟩)⟩)⟩)⟩)⟩)⟩)⟩)⟩)⟩)⟩)⟩)⟩)⟩)⟩)⟩)⟩)⟩)⟩)⟩)⟩), jX5⟩), jX6⟩), jX1⟩), jX2⟩), jX3⟩), jX0⟩), jX4⟩), fun _ h => absurd h List.not_mem_nil⟩)
theorem inlX0 : ∀ w ∈ wsX00, w ∈ wsL_law := fun _ h => List.mem_append_left _ (List.mem_append_left _ (List.mem_append_right _ h))
theorem inlX1 : ∀ w ∈ wsX10, w ∈ wsL_law := fun _ h => List.mem_append_left _ (List.mem_append_left _ (List.mem_append_left _ (List.mem_append_left _ (List.mem_append_left _ (List.mem_append_right _ h)))))
theorem inlX2 : ∀ w ∈ wsX20, w ∈ wsL_law := fun _ h => List.mem_append_left _ (List.mem_append_left _ (List.mem_append_left _ (List.mem_append_left _ (List.mem_append_right _ h))))
theorem inlX3 : ∀ w ∈ wsX30, w ∈ wsL_law := fun _ h => List.mem_append_left _ (List.mem_append_left _ (List.mem_append_left _ (List.mem_append_right _ h)))
theorem inlX4 : ∀ w ∈ wsX40, w ∈ wsL_law := fun _ h => List.mem_append_left _ (List.mem_append_right _ h)
theorem inlX5 : ∀ w ∈ wsX50, w ∈ wsL_law := fun _ h => List.mem_append_left _ (List.mem_append_left _ (List.mem_append_left _ (List.mem_append_left _ (List.mem_append_left _ (List.mem_append_left _ (List.mem_append_left _ (List.mem_append_right _ h)))))))
theorem inlX6 : ∀ w ∈ wsX60, w ∈ wsL_law := fun _ h => List.mem_append_left _ (List.mem_append_left _ (List.mem_append_left _ (List.mem_append_left _ (List.mem_append_left _ (List.mem_append_left _ (List.mem_append_right _ h))))))
