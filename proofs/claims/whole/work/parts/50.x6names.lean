theorem dX6_init_0 : decode cX6_init 0 = .ok (.aload_n 0, 1) := by decide +kernel
theorem dX6_init_1 : decode cX6_init 1 = .ok (.invokespecial 1, 3) := by decide +kernel
theorem dX6_init_4 : decode cX6_init 4 = .ok (.aload_n 0, 1) := by decide +kernel
theorem dX6_init_5 : decode cX6_init 5 = .ok (.sipush 200, 3) := by decide +kernel
theorem dX6_init_8 : decode cX6_init 8 = .ok (.newarray .int, 2) := by decide +kernel
theorem dX6_init_10 : decode cX6_init 10 = .ok (.putfield 7, 3) := by decide +kernel
theorem dX6_init_13 : decode cX6_init 13 = .ok (.aload_n 0, 1) := by decide +kernel
theorem dX6_init_14 : decode cX6_init 14 = .ok (.bipush 25, 2) := by decide +kernel
theorem dX6_init_16 : decode cX6_init 16 = .ok (.newarray .int, 2) := by decide +kernel
theorem dX6_init_18 : decode cX6_init 18 = .ok (.putfield 13, 3) := by decide +kernel
theorem dX6_init_21 : decode cX6_init 21 = .ok (.aload_n 0, 1) := by decide +kernel
theorem dX6_init_22 : decode cX6_init 22 = .ok (.bipush 25, 2) := by decide +kernel
theorem dX6_init_24 : decode cX6_init 24 = .ok (.newarray .int, 2) := by decide +kernel
theorem dX6_init_26 : decode cX6_init 26 = .ok (.putfield 16, 3) := by decide +kernel
theorem dX6_init_29 : decode cX6_init 29 = .ok (.aload_n 0, 1) := by decide +kernel
theorem dX6_init_30 : decode cX6_init 30 = .ok (.bipush 26, 2) := by decide +kernel
theorem dX6_init_32 : decode cX6_init 32 = .ok (.newarray .int, 2) := by decide +kernel
theorem dX6_init_34 : decode cX6_init 34 = .ok (.putfield 19, 3) := by decide +kernel
theorem dX6_init_37 : decode cX6_init 37 = .ok (.aload_n 0, 1) := by decide +kernel
theorem dX6_init_38 : decode cX6_init 38 = .ok (.bipush 26, 2) := by decide +kernel
theorem dX6_init_40 : decode cX6_init 40 = .ok (.newarray .int, 2) := by decide +kernel
theorem dX6_init_42 : decode cX6_init 42 = .ok (.putfield 22, 3) := by decide +kernel
theorem dX6_init_45 : decode cX6_init 45 = .ok (.aload_n 0, 1) := by decide +kernel
theorem dX6_init_46 : decode cX6_init 46 = .ok (.bipush 25, 2) := by decide +kernel
theorem dX6_init_48 : decode cX6_init 48 = .ok (.newarray .boolean, 2) := by decide +kernel
theorem dX6_init_50 : decode cX6_init 50 = .ok (.putfield 25, 3) := by decide +kernel
theorem dX6_init_53 : decode cX6_init 53 = .ok (.aload_n 0, 1) := by decide +kernel
theorem dX6_init_54 : decode cX6_init 54 = .ok (.bipush 25, 2) := by decide +kernel
theorem dX6_init_56 : decode cX6_init 56 = .ok (.newarray .int, 2) := by decide +kernel
theorem dX6_init_58 : decode cX6_init 58 = .ok (.putfield 29, 3) := by decide +kernel
theorem dX6_init_61 : decode cX6_init 61 = .ok (.aload_n 0, 1) := by decide +kernel
theorem dX6_init_62 : decode cX6_init 62 = .ok (.bipush 25, 2) := by decide +kernel
theorem dX6_init_64 : decode cX6_init 64 = .ok (.newarray .int, 2) := by decide +kernel
theorem dX6_init_66 : decode cX6_init 66 = .ok (.putfield 32, 3) := by decide +kernel
theorem dX6_init_69 : decode cX6_init 69 = .ok (.aload_n 0, 1) := by decide +kernel
theorem dX6_init_70 : decode cX6_init 70 = .ok (.iconst 4, 1) := by decide +kernel
theorem dX6_init_71 : decode cX6_init 71 = .ok (.newarray .int, 2) := by decide +kernel
theorem dX6_init_73 : decode cX6_init 73 = .ok (.putfield 35, 3) := by decide +kernel
theorem dX6_init_76 : decode cX6_init 76 = .ok (.aload_n 0, 1) := by decide +kernel
theorem dX6_init_77 : decode cX6_init 77 = .ok (.iconst 4, 1) := by decide +kernel
theorem dX6_init_78 : decode cX6_init 78 = .ok (.newarray .int, 2) := by decide +kernel
theorem dX6_init_80 : decode cX6_init 80 = .ok (.putfield 38, 3) := by decide +kernel
theorem dX6_init_83 : decode cX6_init 83 = .ok (.aload_n 0, 1) := by decide +kernel
theorem dX6_init_84 : decode cX6_init 84 = .ok (.sipush 200, 3) := by decide +kernel
theorem dX6_init_87 : decode cX6_init 87 = .ok (.newarray .int, 2) := by decide +kernel
theorem dX6_init_89 : decode cX6_init 89 = .ok (.putfield 41, 3) := by decide +kernel
theorem dX6_init_92 : decode cX6_init 92 = .ok (.aload_n 0, 1) := by decide +kernel
theorem dX6_init_93 : decode cX6_init 93 = .ok (.bipush 50, 2) := by decide +kernel
theorem dX6_init_95 : decode cX6_init 95 = .ok (.newarray .int, 2) := by decide +kernel
theorem dX6_init_97 : decode cX6_init 97 = .ok (.putfield 44, 3) := by decide +kernel
theorem dX6_init_100 : decode cX6_init 100 = .ok (.aload_n 0, 1) := by decide +kernel
theorem dX6_init_101 : decode cX6_init 101 = .ok (.iconst 1, 1) := by decide +kernel
theorem dX6_init_102 : decode cX6_init 102 = .ok (.putfield 47, 3) := by decide +kernel
theorem dX6_init_105 : decode cX6_init 105 = .ok (.aload_n 0, 1) := by decide +kernel
theorem dX6_init_106 : decode cX6_init 106 = .ok (.iconst 1, 1) := by decide +kernel
theorem dX6_init_107 : decode cX6_init 107 = .ok (.putfield 51, 3) := by decide +kernel
theorem dX6_init_110 : decode cX6_init 110 = .ok (.iconst 0, 1) := by decide +kernel
theorem dX6_init_111 : decode cX6_init 111 = .ok (.istore_n 1, 1) := by decide +kernel
theorem dX6_init_112 : decode cX6_init 112 = .ok (.iload_n 1, 1) := by decide +kernel
theorem dX6_init_113 : decode cX6_init 113 = .ok (.iconst 4, 1) := by decide +kernel
theorem dX6_init_114 : decode cX6_init 114 = .ok (.if_icmp .ge 16, 3) := by decide +kernel
theorem dX6_init_117 : decode cX6_init 117 = .ok (.aload_n 0, 1) := by decide +kernel
theorem dX6_init_118 : decode cX6_init 118 = .ok (.getfield 35, 3) := by decide +kernel
theorem dX6_init_121 : decode cX6_init 121 = .ok (.iload_n 1, 1) := by decide +kernel
theorem dX6_init_122 : decode cX6_init 122 = .ok (.iconst (-1), 1) := by decide +kernel
theorem dX6_init_123 : decode cX6_init 123 = .ok (.iastore, 1) := by decide +kernel
theorem dX6_init_124 : decode cX6_init 124 = .ok (.iinc 1 1, 3) := by decide +kernel
theorem dX6_init_127 : decode cX6_init 127 = .ok (.goto (-15), 3) := by decide +kernel
theorem dX6_init_130 : decode cX6_init 130 = .ok (.return_, 1) := by decide +kernel
theorem dX6_in_0 : decode cX6_in 0 = .ok (.lload_n 0, 1) := by decide +kernel
theorem dX6_in_1 : decode cX6_in 1 = .ok (.lload_n 2, 1) := by decide +kernel
theorem dX6_in_2 : decode cX6_in 2 = .ok (.lcmp, 1) := by decide +kernel
theorem dX6_in_3 : decode cX6_in 3 = .ok (.ifCond .lt 14, 3) := by decide +kernel
theorem dX6_in_6 : decode cX6_in 6 = .ok (.lload_n 0, 1) := by decide +kernel
theorem dX6_in_7 : decode cX6_in 7 = .ok (.lload 4, 2) := by decide +kernel
theorem dX6_in_9 : decode cX6_in 9 = .ok (.lcmp, 1) := by decide +kernel
theorem dX6_in_10 : decode cX6_in 10 = .ok (.ifCond .gt 7, 3) := by decide +kernel
theorem dX6_in_13 : decode cX6_in 13 = .ok (.iconst 1, 1) := by decide +kernel
theorem dX6_in_14 : decode cX6_in 14 = .ok (.goto 4, 3) := by decide +kernel
theorem dX6_in_17 : decode cX6_in 17 = .ok (.iconst 0, 1) := by decide +kernel
theorem dX6_in_18 : decode cX6_in 18 = .ok (.ireturn, 1) := by decide +kernel
theorem dX6_lost_0 : decode cX6_lost 0 = .ok (.ldc2_w 54, 3) := by decide +kernel
theorem dX6_lost_3 : decode cX6_lost 3 = .ok (.lreturn, 1) := by decide +kernel
theorem dX6_refused_0 : decode cX6_refused 0 = .ok (.aload_n 0, 1) := by decide +kernel
theorem dX6_refused_1 : decode cX6_refused 1 = .ok (.iconst 0, 1) := by decide +kernel
theorem dX6_refused_2 : decode cX6_refused 2 = .ok (.putfield 56, 3) := by decide +kernel
theorem dX6_refused_5 : decode cX6_refused 5 = .ok (.iload_n 1, 1) := by decide +kernel
theorem dX6_refused_6 : decode cX6_refused 6 = .ok (.ireturn, 1) := by decide +kernel
theorem dX6_failed_0 : decode cX6_failed 0 = .ok (.aload_n 0, 1) := by decide +kernel
theorem dX6_failed_1 : decode cX6_failed 1 = .ok (.iload_n 1, 1) := by decide +kernel
theorem dX6_failed_2 : decode cX6_failed 2 = .ok (.putfield 56, 3) := by decide +kernel
theorem dX6_failed_5 : decode cX6_failed 5 = .ok (.bipush (-10), 2) := by decide +kernel
theorem dX6_failed_7 : decode cX6_failed 7 = .ok (.iload_n 1, 1) := by decide +kernel
theorem dX6_failed_8 : decode cX6_failed 8 = .ok (.isub, 1) := by decide +kernel
theorem dX6_failed_9 : decode cX6_failed 9 = .ok (.ireturn, 1) := by decide +kernel
set_option maxRecDepth 20000 in
theorem ggX6_failedLong_X6_lost : GoodIn wsX6_failedLong wsX6_lost := goodIn_r _ [5, 6] (by decide +kernel) (by decide +kernel)
set_option maxRecDepth 20000 in
theorem gX6_failedLong_X6_lost : GoodIn wsX6_failedLong (va_wsS RX6 59 yX6_lost wsX6_lost) := goodIn_app (goodIn_of _ (by decide +kernel)) ggX6_failedLong_X6_lost
theorem dX6_failedLong_0 : decode cX6_failedLong 0 = .ok (.aload_n 0, 1) := by decide +kernel
theorem dX6_failedLong_1 : decode cX6_failedLong 1 = .ok (.iload_n 1, 1) := by decide +kernel
theorem dX6_failedLong_2 : decode cX6_failedLong 2 = .ok (.putfield 56, 3) := by decide +kernel
theorem dX6_failedLong_5 : decode cX6_failedLong 5 = .ok (.invokestatic 59, 3) := by decide +kernel
theorem dX6_failedLong_8 : decode cX6_failedLong 8 = .ok (.lreturn, 1) := by decide +kernel
theorem dX6_sizeOf_0 : decode cX6_sizeOf 0 = .ok (.iload_n 0, 1) := by decide +kernel
theorem dX6_sizeOf_1 : decode cX6_sizeOf 1 = .ok (.ifCond .ge 8, 3) := by decide +kernel
theorem dX6_sizeOf_4 : decode cX6_sizeOf 4 = .ok (.iload_n 0, 1) := by decide +kernel
theorem dX6_sizeOf_5 : decode cX6_sizeOf 5 = .ok (.ineg, 1) := by decide +kernel
theorem dX6_sizeOf_6 : decode cX6_sizeOf 6 = .ok (.goto 4, 3) := by decide +kernel
theorem dX6_sizeOf_9 : decode cX6_sizeOf 9 = .ok (.iload_n 0, 1) := by decide +kernel
theorem dX6_sizeOf_10 : decode cX6_sizeOf 10 = .ok (.ireturn, 1) := by decide +kernel
theorem dX6_across_0 : decode cX6_across 0 = .ok (.aload_n 0, 1) := by decide +kernel
theorem dX6_across_1 : decode cX6_across 1 = .ok (.getfield 47, 3) := by decide +kernel
theorem dX6_across_4 : decode cX6_across 4 = .ok (.iconst 1, 1) := by decide +kernel
theorem dX6_across_5 : decode cX6_across 5 = .ok (.isub, 1) := by decide +kernel
theorem dX6_across_6 : decode cX6_across 6 = .ok (.aload_n 0, 1) := by decide +kernel
theorem dX6_across_7 : decode cX6_across 7 = .ok (.getfield 51, 3) := by decide +kernel
theorem dX6_across_10 : decode cX6_across 10 = .ok (.imul, 1) := by decide +kernel
theorem dX6_across_11 : decode cX6_across 11 = .ok (.ireturn, 1) := by decide +kernel
set_option maxRecDepth 20000 in
theorem ggX6_sides_X6_across : GoodIn wsX6_sides wsX6_across := goodIn_r _ [7, 1, 2, 8, 9, 10, 11, 12, 13, 14, 15, 16, 17, 18, 19, 20, 21, 22, 23, 24, 25, 26, 27, 28, 29, 30] (by decide +kernel) (by decide +kernel)
set_option maxRecDepth 20000 in
theorem gX6_sides_X6_across : GoodIn wsX6_sides (wsV RX6 63 RX6 yX6_across wsX6_across) := goodIn_app (goodIn_of _ (by decide +kernel)) ggX6_sides_X6_across
theorem dX6_sides_0 : decode cX6_sides 0 = .ok (.aload_n 0, 1) := by decide +kernel
theorem dX6_sides_1 : decode cX6_sides 1 = .ok (.invokevirtual 63, 3) := by decide +kernel
theorem dX6_sides_4 : decode cX6_sides 4 = .ok (.aload_n 0, 1) := by decide +kernel
theorem dX6_sides_5 : decode cX6_sides 5 = .ok (.getfield 47, 3) := by decide +kernel
theorem dX6_sides_8 : decode cX6_sides 8 = .ok (.aload_n 0, 1) := by decide +kernel
theorem dX6_sides_9 : decode cX6_sides 9 = .ok (.getfield 51, 3) := by decide +kernel
theorem dX6_sides_12 : decode cX6_sides 12 = .ok (.iconst 1, 1) := by decide +kernel
theorem dX6_sides_13 : decode cX6_sides 13 = .ok (.isub, 1) := by decide +kernel
theorem dX6_sides_14 : decode cX6_sides 14 = .ok (.imul, 1) := by decide +kernel
theorem dX6_sides_15 : decode cX6_sides 15 = .ok (.iadd, 1) := by decide +kernel
theorem dX6_sides_16 : decode cX6_sides 16 = .ok (.ireturn, 1) := by decide +kernel
theorem dX6_pieces_0 : decode cX6_pieces 0 = .ok (.aload_n 0, 1) := by decide +kernel
theorem dX6_pieces_1 : decode cX6_pieces 1 = .ok (.getfield 47, 3) := by decide +kernel
theorem dX6_pieces_4 : decode cX6_pieces 4 = .ok (.aload_n 0, 1) := by decide +kernel
theorem dX6_pieces_5 : decode cX6_pieces 5 = .ok (.getfield 51, 3) := by decide +kernel
theorem dX6_pieces_8 : decode cX6_pieces 8 = .ok (.imul, 1) := by decide +kernel
theorem dX6_pieces_9 : decode cX6_pieces 9 = .ok (.ireturn, 1) := by decide +kernel
set_option maxRecDepth 20000 in
theorem ggX6_noSide_X6_sides : GoodIn wsX6_noSide wsX6_sides := goodIn_r _ [5, 6, 7, 8, 9, 10, 4, 11, 15, 16, 17, 18, 19, 20, 21, 22, 23, 24, 25, 26, 27, 28, 29, 30, 31, 32, 33, 34, 35, 36, 37] (by decide +kernel) (by decide +kernel)
set_option maxRecDepth 20000 in
theorem gX6_noSide_X6_sides : GoodIn wsX6_noSide (wsV RX6 67 RX6 yX6_sides wsX6_sides) := goodIn_app (goodIn_of _ (by decide +kernel)) ggX6_noSide_X6_sides
set_option maxRecDepth 20000 in
theorem ggX6_noSide_X6_in : GoodIn wsX6_noSide wsX6_in := goodIn_r _ [14] (by decide +kernel) (by decide +kernel)
set_option maxRecDepth 20000 in
theorem gX6_noSide_X6_in : GoodIn wsX6_noSide (va_wsS RX6 70 yX6_in wsX6_in) := goodIn_app (goodIn_of _ (by decide +kernel)) ggX6_noSide_X6_in
theorem dX6_noSide_0 : decode cX6_noSide 0 = .ok (.iload_n 1, 1) := by decide +kernel
theorem dX6_noSide_1 : decode cX6_noSide 1 = .ok (.i2l, 1) := by decide +kernel
theorem dX6_noSide_2 : decode cX6_noSide 2 = .ok (.lconst 0, 1) := by decide +kernel
theorem dX6_noSide_3 : decode cX6_noSide 3 = .ok (.aload_n 0, 1) := by decide +kernel
theorem dX6_noSide_4 : decode cX6_noSide 4 = .ok (.invokevirtual 67, 3) := by decide +kernel
theorem dX6_noSide_7 : decode cX6_noSide 7 = .ok (.i2l, 1) := by decide +kernel
theorem dX6_noSide_8 : decode cX6_noSide 8 = .ok (.lconst 1, 1) := by decide +kernel
theorem dX6_noSide_9 : decode cX6_noSide 9 = .ok (.lsub, 1) := by decide +kernel
theorem dX6_noSide_10 : decode cX6_noSide 10 = .ok (.invokestatic 70, 3) := by decide +kernel
theorem dX6_noSide_13 : decode cX6_noSide 13 = .ok (.ifCond .ne 7, 3) := by decide +kernel
theorem dX6_noSide_16 : decode cX6_noSide 16 = .ok (.iconst 1, 1) := by decide +kernel
theorem dX6_noSide_17 : decode cX6_noSide 17 = .ok (.goto 4, 3) := by decide +kernel
theorem dX6_noSide_20 : decode cX6_noSide 20 = .ok (.iconst 0, 1) := by decide +kernel
theorem dX6_noSide_21 : decode cX6_noSide 21 = .ok (.ireturn, 1) := by decide +kernel
set_option maxRecDepth 20000 in
theorem ggX6_noPiece_X6_pieces : GoodIn wsX6_noPiece wsX6_pieces := goodIn_r _ [5, 6, 7, 11, 12, 13, 14, 15, 16, 17, 18, 19, 20, 21, 22, 23, 24, 25, 26, 27, 28, 29, 30, 31, 32, 33] (by decide +kernel) (by decide +kernel)
set_option maxRecDepth 20000 in
theorem gX6_noPiece_X6_pieces : GoodIn wsX6_noPiece (wsV RX6 74 RX6 yX6_pieces wsX6_pieces) := goodIn_app (goodIn_of _ (by decide +kernel)) ggX6_noPiece_X6_pieces
set_option maxRecDepth 20000 in
theorem ggX6_noPiece_X6_in : GoodIn wsX6_noPiece wsX6_in := goodIn_r _ [10] (by decide +kernel) (by decide +kernel)
set_option maxRecDepth 20000 in
theorem gX6_noPiece_X6_in : GoodIn wsX6_noPiece (va_wsS RX6 70 yX6_in wsX6_in) := goodIn_app (goodIn_of _ (by decide +kernel)) ggX6_noPiece_X6_in
theorem dX6_noPiece_0 : decode cX6_noPiece 0 = .ok (.iload_n 1, 1) := by decide +kernel
theorem dX6_noPiece_1 : decode cX6_noPiece 1 = .ok (.i2l, 1) := by decide +kernel
theorem dX6_noPiece_2 : decode cX6_noPiece 2 = .ok (.lconst 0, 1) := by decide +kernel
theorem dX6_noPiece_3 : decode cX6_noPiece 3 = .ok (.aload_n 0, 1) := by decide +kernel
theorem dX6_noPiece_4 : decode cX6_noPiece 4 = .ok (.invokevirtual 74, 3) := by decide +kernel
theorem dX6_noPiece_7 : decode cX6_noPiece 7 = .ok (.i2l, 1) := by decide +kernel
theorem dX6_noPiece_8 : decode cX6_noPiece 8 = .ok (.lconst 1, 1) := by decide +kernel
theorem dX6_noPiece_9 : decode cX6_noPiece 9 = .ok (.lsub, 1) := by decide +kernel
theorem dX6_noPiece_10 : decode cX6_noPiece 10 = .ok (.invokestatic 70, 3) := by decide +kernel
theorem dX6_noPiece_13 : decode cX6_noPiece 13 = .ok (.ifCond .ne 7, 3) := by decide +kernel
theorem dX6_noPiece_16 : decode cX6_noPiece 16 = .ok (.iconst 1, 1) := by decide +kernel
theorem dX6_noPiece_17 : decode cX6_noPiece 17 = .ok (.goto 4, 3) := by decide +kernel
theorem dX6_noPiece_20 : decode cX6_noPiece 20 = .ok (.iconst 0, 1) := by decide +kernel
theorem dX6_noPiece_21 : decode cX6_noPiece 21 = .ok (.ireturn, 1) := by decide +kernel
theorem dX6_changed_0 : decode cX6_changed 0 = .ok (.aload_n 0, 1) := by decide +kernel
theorem dX6_changed_1 : decode cX6_changed 1 = .ok (.iconst 0, 1) := by decide +kernel
theorem dX6_changed_2 : decode cX6_changed 2 = .ok (.putfield 77, 3) := by decide +kernel
theorem dX6_changed_5 : decode cX6_changed 5 = .ok (.return_, 1) := by decide +kernel
set_option maxRecDepth 20000 in
theorem ggX6_picture_X6_in : GoodIn wsX6_picture wsX6_in := goodIn_r _ [9] (by decide +kernel) (by decide +kernel)
set_option maxRecDepth 20000 in
theorem gX6_picture_X6_in : GoodIn wsX6_picture (va_wsS RX6 70 yX6_in wsX6_in) := goodIn_app (goodIn_of _ (by decide +kernel)) ggX6_picture_X6_in
set_option maxRecDepth 20000 in
theorem ggX6_picture_X6_changed : GoodIn wsX6_picture wsX6_changed := goodIn_r _ [13, 14, 23, 24, 25, 26, 27, 28, 29, 30, 31, 32, 33, 34, 35, 36, 37, 38, 39, 40, 41, 42, 43, 44, 45] (by decide +kernel) (by decide +kernel)
set_option maxRecDepth 20000 in
theorem gX6_picture_X6_changed : GoodIn wsX6_picture (wsV RX6 86 RX6 yX6_changed wsX6_changed) := goodIn_app (goodIn_of _ (by decide +kernel)) ggX6_picture_X6_changed
set_option maxRecDepth 20000 in
theorem ggX6_picture_X6_sides : GoodIn wsX6_picture wsX6_sides := goodIn_r _ [18, 2, 3, 19, 20, 21, 8, 22, 23, 24, 25, 26, 27, 28, 29, 30, 31, 32, 33, 34, 35, 36, 37, 38, 39, 40, 41, 42, 43, 44, 45] (by decide +kernel) (by decide +kernel)
set_option maxRecDepth 20000 in
theorem gX6_picture_X6_sides : GoodIn wsX6_picture (wsV RX6 67 RX6 yX6_sides wsX6_sides) := goodIn_app (goodIn_of _ (by decide +kernel)) ggX6_picture_X6_sides
theorem dX6_picture_0 : decode cX6_picture 0 = .ok (.iload_n 1, 1) := by decide +kernel
theorem dX6_picture_1 : decode cX6_picture 1 = .ok (.i2l, 1) := by decide +kernel
theorem dX6_picture_2 : decode cX6_picture 2 = .ok (.lconst 1, 1) := by decide +kernel
theorem dX6_picture_3 : decode cX6_picture 3 = .ok (.ldc2_w 81, 3) := by decide +kernel
theorem dX6_picture_6 : decode cX6_picture 6 = .ok (.invokestatic 70, 3) := by decide +kernel
theorem dX6_picture_9 : decode cX6_picture 9 = .ok (.ifCond .eq 15, 3) := by decide +kernel
theorem dX6_picture_12 : decode cX6_picture 12 = .ok (.iload_n 2, 1) := by decide +kernel
theorem dX6_picture_13 : decode cX6_picture 13 = .ok (.i2l, 1) := by decide +kernel
theorem dX6_picture_14 : decode cX6_picture 14 = .ok (.lconst 1, 1) := by decide +kernel
theorem dX6_picture_15 : decode cX6_picture 15 = .ok (.ldc2_w 81, 3) := by decide +kernel
theorem dX6_picture_18 : decode cX6_picture 18 = .ok (.invokestatic 70, 3) := by decide +kernel
theorem dX6_picture_21 : decode cX6_picture 21 = .ok (.ifCond .ne 6, 3) := by decide +kernel
theorem dX6_picture_24 : decode cX6_picture 24 = .ok (.bipush (-2), 2) := by decide +kernel
theorem dX6_picture_26 : decode cX6_picture 26 = .ok (.ireturn, 1) := by decide +kernel
theorem dX6_picture_27 : decode cX6_picture 27 = .ok (.aload_n 0, 1) := by decide +kernel
theorem dX6_picture_28 : decode cX6_picture 28 = .ok (.iload_n 1, 1) := by decide +kernel
theorem dX6_picture_29 : decode cX6_picture 29 = .ok (.putfield 47, 3) := by decide +kernel
theorem dX6_picture_32 : decode cX6_picture 32 = .ok (.aload_n 0, 1) := by decide +kernel
theorem dX6_picture_33 : decode cX6_picture 33 = .ok (.iload_n 2, 1) := by decide +kernel
theorem dX6_picture_34 : decode cX6_picture 34 = .ok (.putfield 51, 3) := by decide +kernel
theorem dX6_picture_37 : decode cX6_picture 37 = .ok (.iconst 0, 1) := by decide +kernel
theorem dX6_picture_38 : decode cX6_picture 38 = .ok (.istore_n 3, 1) := by decide +kernel
theorem dX6_picture_39 : decode cX6_picture 39 = .ok (.iload_n 3, 1) := by decide +kernel
theorem dX6_picture_40 : decode cX6_picture 40 = .ok (.sipush 200, 3) := by decide +kernel
theorem dX6_picture_43 : decode cX6_picture 43 = .ok (.if_icmp .ge 16, 3) := by decide +kernel
theorem dX6_picture_46 : decode cX6_picture 46 = .ok (.aload_n 0, 1) := by decide +kernel
theorem dX6_picture_47 : decode cX6_picture 47 = .ok (.getfield 7, 3) := by decide +kernel
theorem dX6_picture_50 : decode cX6_picture 50 = .ok (.iload_n 3, 1) := by decide +kernel
theorem dX6_picture_51 : decode cX6_picture 51 = .ok (.iconst 0, 1) := by decide +kernel
theorem dX6_picture_52 : decode cX6_picture 52 = .ok (.iastore, 1) := by decide +kernel
theorem dX6_picture_53 : decode cX6_picture 53 = .ok (.iinc 3 1, 3) := by decide +kernel
theorem dX6_picture_56 : decode cX6_picture 56 = .ok (.goto (-17), 3) := by decide +kernel
theorem dX6_picture_59 : decode cX6_picture 59 = .ok (.aload_n 0, 1) := by decide +kernel
theorem dX6_picture_60 : decode cX6_picture 60 = .ok (.iconst 0, 1) := by decide +kernel
theorem dX6_picture_61 : decode cX6_picture 61 = .ok (.putfield 83, 3) := by decide +kernel
theorem dX6_picture_64 : decode cX6_picture 64 = .ok (.aload_n 0, 1) := by decide +kernel
theorem dX6_picture_65 : decode cX6_picture 65 = .ok (.invokevirtual 86, 3) := by decide +kernel
theorem dX6_picture_68 : decode cX6_picture 68 = .ok (.aload_n 0, 1) := by decide +kernel
theorem dX6_picture_69 : decode cX6_picture 69 = .ok (.invokevirtual 67, 3) := by decide +kernel
theorem dX6_picture_72 : decode cX6_picture 72 = .ok (.ireturn, 1) := by decide +kernel
theorem dX6_numberBelow_0 : decode cX6_numberBelow 0 = .ok (.aload_n 0, 1) := by decide +kernel
theorem dX6_numberBelow_1 : decode cX6_numberBelow 1 = .ok (.aload_n 0, 1) := by decide +kernel
theorem dX6_numberBelow_2 : decode cX6_numberBelow 2 = .ok (.getfield 89, 3) := by decide +kernel
theorem dX6_numberBelow_5 : decode cX6_numberBelow 5 = .ok (.ldc2_w 93, 3) := by decide +kernel
theorem dX6_numberBelow_8 : decode cX6_numberBelow 8 = .ok (.lmul, 1) := by decide +kernel
theorem dX6_numberBelow_9 : decode cX6_numberBelow 9 = .ok (.ldc2_w 95, 3) := by decide +kernel
theorem dX6_numberBelow_12 : decode cX6_numberBelow 12 = .ok (.ladd, 1) := by decide +kernel
theorem dX6_numberBelow_13 : decode cX6_numberBelow 13 = .ok (.putfield 89, 3) := by decide +kernel
theorem dX6_numberBelow_16 : decode cX6_numberBelow 16 = .ok (.aload_n 0, 1) := by decide +kernel
theorem dX6_numberBelow_17 : decode cX6_numberBelow 17 = .ok (.getfield 89, 3) := by decide +kernel
theorem dX6_numberBelow_20 : decode cX6_numberBelow 20 = .ok (.ldc2_w 97, 3) := by decide +kernel
theorem dX6_numberBelow_23 : decode cX6_numberBelow 23 = .ok (.land, 1) := by decide +kernel
theorem dX6_numberBelow_24 : decode cX6_numberBelow 24 = .ok (.ldc2_w 99, 3) := by decide +kernel
theorem dX6_numberBelow_27 : decode cX6_numberBelow 27 = .ok (.ldiv, 1) := by decide +kernel
theorem dX6_numberBelow_28 : decode cX6_numberBelow 28 = .ok (.iload_n 1, 1) := by decide +kernel
theorem dX6_numberBelow_29 : decode cX6_numberBelow 29 = .ok (.i2l, 1) := by decide +kernel
theorem dX6_numberBelow_30 : decode cX6_numberBelow 30 = .ok (.lrem, 1) := by decide +kernel
theorem dX6_numberBelow_31 : decode cX6_numberBelow 31 = .ok (.l2i, 1) := by decide +kernel
theorem dX6_numberBelow_32 : decode cX6_numberBelow 32 = .ok (.ireturn, 1) := by decide +kernel
set_option maxRecDepth 20000 in
theorem ggX6_make_X6_sides : GoodIn wsX6_make wsX6_sides := goodIn_r _ [7, 8, 9, 10, 11, 12, 6, 13, 27, 28, 29, 30, 31, 32, 33, 34, 35, 36, 37, 38, 39, 40, 41, 42, 43, 44, 45, 46, 47, 48, 49] (by decide +kernel) (by decide +kernel)
set_option maxRecDepth 20000 in
theorem gX6_make_X6_sides : GoodIn wsX6_make (wsV RX6 67 RX6 yX6_sides wsX6_sides) := goodIn_app (goodIn_of _ (by decide +kernel)) ggX6_make_X6_sides
set_option maxRecDepth 20000 in
theorem ggX6_make_X6_numberBelow : GoodIn wsX6_make wsX6_numberBelow := goodIn_r _ [17, 1, 18, 19, 20, 21, 27, 28, 29, 30, 31, 32, 33, 34, 35, 36, 37, 38, 39, 40, 41, 42, 43, 44, 45, 46, 47, 48, 49] (by decide +kernel) (by decide +kernel)
set_option maxRecDepth 20000 in
theorem gX6_make_X6_numberBelow : GoodIn wsX6_make (wsV RX6 101 RX6 yX6_numberBelow wsX6_numberBelow) := goodIn_app (goodIn_of _ (by decide +kernel)) ggX6_make_X6_numberBelow
set_option maxRecDepth 20000 in
theorem ggX6_make_X6_changed : GoodIn wsX6_make wsX6_changed := goodIn_r _ [25, 26, 27, 28, 29, 30, 31, 32, 33, 34, 35, 36, 37, 38, 39, 40, 41, 42, 43, 44, 45, 46, 47, 48, 49] (by decide +kernel) (by decide +kernel)
set_option maxRecDepth 20000 in
theorem gX6_make_X6_changed : GoodIn wsX6_make (wsV RX6 86 RX6 yX6_changed wsX6_changed) := goodIn_app (goodIn_of _ (by decide +kernel)) ggX6_make_X6_changed
theorem dX6_make_0 : decode cX6_make 0 = .ok (.aload_n 0, 1) := by decide +kernel
theorem dX6_make_1 : decode cX6_make 1 = .ok (.lload_n 1, 1) := by decide +kernel
theorem dX6_make_2 : decode cX6_make 2 = .ok (.putfield 89, 3) := by decide +kernel
theorem dX6_make_5 : decode cX6_make 5 = .ok (.iconst 0, 1) := by decide +kernel
theorem dX6_make_6 : decode cX6_make 6 = .ok (.istore_n 3, 1) := by decide +kernel
theorem dX6_make_7 : decode cX6_make 7 = .ok (.iload_n 3, 1) := by decide +kernel
theorem dX6_make_8 : decode cX6_make 8 = .ok (.iconst 5, 1) := by decide +kernel
theorem dX6_make_9 : decode cX6_make 9 = .ok (.aload_n 0, 1) := by decide +kernel
theorem dX6_make_10 : decode cX6_make 10 = .ok (.invokevirtual 67, 3) := by decide +kernel
theorem dX6_make_13 : decode cX6_make 13 = .ok (.imul, 1) := by decide +kernel
theorem dX6_make_14 : decode cX6_make 14 = .ok (.if_icmp .ge 24, 3) := by decide +kernel
theorem dX6_make_17 : decode cX6_make 17 = .ok (.aload_n 0, 1) := by decide +kernel
theorem dX6_make_18 : decode cX6_make 18 = .ok (.getfield 7, 3) := by decide +kernel
theorem dX6_make_21 : decode cX6_make 21 = .ok (.iload_n 3, 1) := by decide +kernel
theorem dX6_make_22 : decode cX6_make 22 = .ok (.aload_n 0, 1) := by decide +kernel
theorem dX6_make_23 : decode cX6_make 23 = .ok (.bipush 19, 2) := by decide +kernel
theorem dX6_make_25 : decode cX6_make 25 = .ok (.invokevirtual 101, 3) := by decide +kernel
theorem dX6_make_28 : decode cX6_make 28 = .ok (.bipush 9, 2) := by decide +kernel
theorem dX6_make_30 : decode cX6_make 30 = .ok (.isub, 1) := by decide +kernel
theorem dX6_make_31 : decode cX6_make 31 = .ok (.iastore, 1) := by decide +kernel
theorem dX6_make_32 : decode cX6_make 32 = .ok (.iinc 3 1, 3) := by decide +kernel
theorem dX6_make_35 : decode cX6_make 35 = .ok (.goto (-28), 3) := by decide +kernel
theorem dX6_make_38 : decode cX6_make 38 = .ok (.aload_n 0, 1) := by decide +kernel
theorem dX6_make_39 : decode cX6_make 39 = .ok (.invokevirtual 86, 3) := by decide +kernel
theorem dX6_make_42 : decode cX6_make 42 = .ok (.iconst 1, 1) := by decide +kernel
theorem dX6_make_43 : decode cX6_make 43 = .ok (.ireturn, 1) := by decide +kernel
set_option maxRecDepth 20000 in
theorem ggX6_bend_X6_noSide : GoodIn wsX6_bend wsX6_noSide := goodIn_r _ [9, 10, 11, 12, 8, 13, 14, 15, 16, 17, 18, 19, 20, 21, 22, 32, 33, 34, 35, 36, 37, 38, 39, 40, 41, 42, 43, 44, 45, 46, 47, 48, 49, 50, 51, 52, 53, 54] (by decide +kernel) (by decide +kernel)
set_option maxRecDepth 20000 in
theorem gX6_bend_X6_noSide : GoodIn wsX6_bend (wsV RX6 105 RX6 yX6_noSide wsX6_noSide) := goodIn_app (goodIn_of _ (by decide +kernel)) ggX6_bend_X6_noSide
set_option maxRecDepth 20000 in
theorem ggX6_bend_X6_in : GoodIn wsX6_bend wsX6_in := goodIn_r _ [22] (by decide +kernel) (by decide +kernel)
set_option maxRecDepth 20000 in
theorem gX6_bend_X6_in : GoodIn wsX6_bend (va_wsS RX6 70 yX6_in wsX6_in) := goodIn_app (goodIn_of _ (by decide +kernel)) ggX6_bend_X6_in
set_option maxRecDepth 20000 in
theorem ggX6_bend_X6_lost : GoodIn wsX6_bend wsX6_lost := goodIn_r _ [25, 26] (by decide +kernel) (by decide +kernel)
set_option maxRecDepth 20000 in
theorem gX6_bend_X6_lost : GoodIn wsX6_bend (va_wsS RX6 59 yX6_lost wsX6_lost) := goodIn_app (goodIn_of _ (by decide +kernel)) ggX6_bend_X6_lost
set_option maxRecDepth 20000 in
theorem ggX6_bend_X6_changed : GoodIn wsX6_bend wsX6_changed := goodIn_r _ [30, 31, 32, 33, 34, 35, 36, 37, 38, 39, 40, 41, 42, 43, 44, 45, 46, 47, 48, 49, 50, 51, 52, 53, 54] (by decide +kernel) (by decide +kernel)
set_option maxRecDepth 20000 in
theorem gX6_bend_X6_changed : GoodIn wsX6_bend (wsV RX6 86 RX6 yX6_changed wsX6_changed) := goodIn_app (goodIn_of _ (by decide +kernel)) ggX6_bend_X6_changed
theorem dX6_bend_0 : decode cX6_bend 0 = .ok (.aload_n 0, 1) := by decide +kernel
theorem dX6_bend_1 : decode cX6_bend 1 = .ok (.iload_n 1, 1) := by decide +kernel
theorem dX6_bend_2 : decode cX6_bend 2 = .ok (.invokevirtual 105, 3) := by decide +kernel
theorem dX6_bend_5 : decode cX6_bend 5 = .ok (.ifCond .ne 29, 3) := by decide +kernel
theorem dX6_bend_8 : decode cX6_bend 8 = .ok (.iload_n 2, 1) := by decide +kernel
theorem dX6_bend_9 : decode cX6_bend 9 = .ok (.i2l, 1) := by decide +kernel
theorem dX6_bend_10 : decode cX6_bend 10 = .ok (.lconst 0, 1) := by decide +kernel
theorem dX6_bend_11 : decode cX6_bend 11 = .ok (.ldc2_w 109, 3) := by decide +kernel
theorem dX6_bend_14 : decode cX6_bend 14 = .ok (.invokestatic 70, 3) := by decide +kernel
theorem dX6_bend_17 : decode cX6_bend 17 = .ok (.ifCond .eq 17, 3) := by decide +kernel
theorem dX6_bend_20 : decode cX6_bend 20 = .ok (.iload_n 3, 1) := by decide +kernel
theorem dX6_bend_21 : decode cX6_bend 21 = .ok (.i2l, 1) := by decide +kernel
theorem dX6_bend_22 : decode cX6_bend 22 = .ok (.ldc2_w 111, 3) := by decide +kernel
theorem dX6_bend_25 : decode cX6_bend 25 = .ok (.ldc2_w 113, 3) := by decide +kernel
theorem dX6_bend_28 : decode cX6_bend 28 = .ok (.invokestatic 70, 3) := by decide +kernel
theorem dX6_bend_31 : decode cX6_bend 31 = .ok (.ifCond .ne 7, 3) := by decide +kernel
theorem dX6_bend_34 : decode cX6_bend 34 = .ok (.invokestatic 59, 3) := by decide +kernel
theorem dX6_bend_37 : decode cX6_bend 37 = .ok (.lreturn, 1) := by decide +kernel
theorem dX6_bend_38 : decode cX6_bend 38 = .ok (.aload_n 0, 1) := by decide +kernel
theorem dX6_bend_39 : decode cX6_bend 39 = .ok (.getfield 7, 3) := by decide +kernel
theorem dX6_bend_42 : decode cX6_bend 42 = .ok (.iconst 5, 1) := by decide +kernel
theorem dX6_bend_43 : decode cX6_bend 43 = .ok (.iload_n 1, 1) := by decide +kernel
theorem dX6_bend_44 : decode cX6_bend 44 = .ok (.imul, 1) := by decide +kernel
theorem dX6_bend_45 : decode cX6_bend 45 = .ok (.iload_n 2, 1) := by decide +kernel
theorem dX6_bend_46 : decode cX6_bend 46 = .ok (.iadd, 1) := by decide +kernel
theorem dX6_bend_47 : decode cX6_bend 47 = .ok (.iaload, 1) := by decide +kernel
theorem dX6_bend_48 : decode cX6_bend 48 = .ok (.i2l, 1) := by decide +kernel
theorem dX6_bend_49 : decode cX6_bend 49 = .ok (.lstore 4, 2) := by decide +kernel
theorem dX6_bend_51 : decode cX6_bend 51 = .ok (.aload_n 0, 1) := by decide +kernel
theorem dX6_bend_52 : decode cX6_bend 52 = .ok (.getfield 7, 3) := by decide +kernel
theorem dX6_bend_55 : decode cX6_bend 55 = .ok (.iconst 5, 1) := by decide +kernel
theorem dX6_bend_56 : decode cX6_bend 56 = .ok (.iload_n 1, 1) := by decide +kernel
theorem dX6_bend_57 : decode cX6_bend 57 = .ok (.imul, 1) := by decide +kernel
theorem dX6_bend_58 : decode cX6_bend 58 = .ok (.iload_n 2, 1) := by decide +kernel
theorem dX6_bend_59 : decode cX6_bend 59 = .ok (.iadd, 1) := by decide +kernel
theorem dX6_bend_60 : decode cX6_bend 60 = .ok (.iload_n 3, 1) := by decide +kernel
theorem dX6_bend_61 : decode cX6_bend 61 = .ok (.iastore, 1) := by decide +kernel
theorem dX6_bend_62 : decode cX6_bend 62 = .ok (.aload_n 0, 1) := by decide +kernel
theorem dX6_bend_63 : decode cX6_bend 63 = .ok (.invokevirtual 86, 3) := by decide +kernel
theorem dX6_bend_66 : decode cX6_bend 66 = .ok (.lload 4, 2) := by decide +kernel
theorem dX6_bend_68 : decode cX6_bend 68 = .ok (.lreturn, 1) := by decide +kernel
set_option maxRecDepth 20000 in
theorem ggX6_height_X6_noSide : GoodIn wsX6_height wsX6_noSide := goodIn_r _ [7, 8, 9, 10, 6, 11, 12, 13, 14, 15, 16, 17, 18, 19, 20, 25, 26, 27, 28, 29, 30, 31, 32, 33, 34, 35, 36, 37, 38, 39, 40, 41, 42, 43, 44, 45, 46, 47] (by decide +kernel) (by decide +kernel)
set_option maxRecDepth 20000 in
theorem gX6_height_X6_noSide : GoodIn wsX6_height (wsV RX6 105 RX6 yX6_noSide wsX6_noSide) := goodIn_app (goodIn_of _ (by decide +kernel)) ggX6_height_X6_noSide
set_option maxRecDepth 20000 in
theorem ggX6_height_X6_in : GoodIn wsX6_height wsX6_in := goodIn_r _ [20] (by decide +kernel) (by decide +kernel)
set_option maxRecDepth 20000 in
theorem gX6_height_X6_in : GoodIn wsX6_height (va_wsS RX6 70 yX6_in wsX6_in) := goodIn_app (goodIn_of _ (by decide +kernel)) ggX6_height_X6_in
set_option maxRecDepth 20000 in
theorem ggX6_height_X6_lost : GoodIn wsX6_height wsX6_lost := goodIn_r _ [23, 24] (by decide +kernel) (by decide +kernel)
set_option maxRecDepth 20000 in
theorem gX6_height_X6_lost : GoodIn wsX6_height (va_wsS RX6 59 yX6_lost wsX6_lost) := goodIn_app (goodIn_of _ (by decide +kernel)) ggX6_height_X6_lost
theorem dX6_height_0 : decode cX6_height 0 = .ok (.aload_n 0, 1) := by decide +kernel
theorem dX6_height_1 : decode cX6_height 1 = .ok (.iload_n 1, 1) := by decide +kernel
theorem dX6_height_2 : decode cX6_height 2 = .ok (.invokevirtual 105, 3) := by decide +kernel
theorem dX6_height_5 : decode cX6_height 5 = .ok (.ifCond .ne 15, 3) := by decide +kernel
theorem dX6_height_8 : decode cX6_height 8 = .ok (.iload_n 2, 1) := by decide +kernel
theorem dX6_height_9 : decode cX6_height 9 = .ok (.i2l, 1) := by decide +kernel
theorem dX6_height_10 : decode cX6_height 10 = .ok (.lconst 0, 1) := by decide +kernel
theorem dX6_height_11 : decode cX6_height 11 = .ok (.ldc2_w 109, 3) := by decide +kernel
theorem dX6_height_14 : decode cX6_height 14 = .ok (.invokestatic 70, 3) := by decide +kernel
theorem dX6_height_17 : decode cX6_height 17 = .ok (.ifCond .ne 9, 3) := by decide +kernel
theorem dX6_height_20 : decode cX6_height 20 = .ok (.invokestatic 59, 3) := by decide +kernel
theorem dX6_height_23 : decode cX6_height 23 = .ok (.goto 14, 3) := by decide +kernel
theorem dX6_height_26 : decode cX6_height 26 = .ok (.aload_n 0, 1) := by decide +kernel
theorem dX6_height_27 : decode cX6_height 27 = .ok (.getfield 7, 3) := by decide +kernel
theorem dX6_height_30 : decode cX6_height 30 = .ok (.iconst 5, 1) := by decide +kernel
theorem dX6_height_31 : decode cX6_height 31 = .ok (.iload_n 1, 1) := by decide +kernel
theorem dX6_height_32 : decode cX6_height 32 = .ok (.imul, 1) := by decide +kernel
theorem dX6_height_33 : decode cX6_height 33 = .ok (.iload_n 2, 1) := by decide +kernel
theorem dX6_height_34 : decode cX6_height 34 = .ok (.iadd, 1) := by decide +kernel
theorem dX6_height_35 : decode cX6_height 35 = .ok (.iaload, 1) := by decide +kernel
theorem dX6_height_36 : decode cX6_height 36 = .ok (.i2l, 1) := by decide +kernel
theorem dX6_height_37 : decode cX6_height 37 = .ok (.lreturn, 1) := by decide +kernel
set_option maxRecDepth 20000 in
theorem ggX6_sideAt_X6_across : GoodIn wsX6_sideAt wsX6_across := goodIn_r _ [7, 1, 2, 8, 9, 10, 11, 12, 13, 14, 15, 16, 17, 18, 19, 20, 21, 22, 23, 24, 25, 26, 27, 28, 29, 30] (by decide +kernel) (by decide +kernel)
set_option maxRecDepth 20000 in
theorem gX6_sideAt_X6_across : GoodIn wsX6_sideAt (wsV RX6 63 RX6 yX6_across wsX6_across) := goodIn_app (goodIn_of _ (by decide +kernel)) ggX6_sideAt_X6_across
theorem dX6_sideAt_0 : decode cX6_sideAt 0 = .ok (.iload_n 1, 1) := by decide +kernel
theorem dX6_sideAt_1 : decode cX6_sideAt 1 = .ok (.aload_n 0, 1) := by decide +kernel
theorem dX6_sideAt_2 : decode cX6_sideAt 2 = .ok (.getfield 47, 3) := by decide +kernel
theorem dX6_sideAt_5 : decode cX6_sideAt 5 = .ok (.irem, 1) := by decide +kernel
theorem dX6_sideAt_6 : decode cX6_sideAt 6 = .ok (.istore_n 3, 1) := by decide +kernel
theorem dX6_sideAt_7 : decode cX6_sideAt 7 = .ok (.iload_n 1, 1) := by decide +kernel
theorem dX6_sideAt_8 : decode cX6_sideAt 8 = .ok (.aload_n 0, 1) := by decide +kernel
theorem dX6_sideAt_9 : decode cX6_sideAt 9 = .ok (.getfield 47, 3) := by decide +kernel
theorem dX6_sideAt_12 : decode cX6_sideAt 12 = .ok (.idiv, 1) := by decide +kernel
theorem dX6_sideAt_13 : decode cX6_sideAt 13 = .ok (.istore 4, 2) := by decide +kernel
theorem dX6_sideAt_15 : decode cX6_sideAt 15 = .ok (.iload_n 2, 1) := by decide +kernel
theorem dX6_sideAt_16 : decode cX6_sideAt 16 = .ok (.iconst 1, 1) := by decide +kernel
theorem dX6_sideAt_17 : decode cX6_sideAt 17 = .ok (.if_icmp .eq 8, 3) := by decide +kernel
theorem dX6_sideAt_20 : decode cX6_sideAt 20 = .ok (.iload_n 2, 1) := by decide +kernel
theorem dX6_sideAt_21 : decode cX6_sideAt 21 = .ok (.iconst 3, 1) := by decide +kernel
theorem dX6_sideAt_22 : decode cX6_sideAt 22 = .ok (.if_icmp .ne 51, 3) := by decide +kernel
theorem dX6_sideAt_25 : decode cX6_sideAt 25 = .ok (.iload_n 2, 1) := by decide +kernel
theorem dX6_sideAt_26 : decode cX6_sideAt 26 = .ok (.iconst 1, 1) := by decide +kernel
theorem dX6_sideAt_27 : decode cX6_sideAt 27 = .ok (.if_icmp .ne 7, 3) := by decide +kernel
theorem dX6_sideAt_30 : decode cX6_sideAt 30 = .ok (.iload_n 3, 1) := by decide +kernel
theorem dX6_sideAt_31 : decode cX6_sideAt 31 = .ok (.goto 6, 3) := by decide +kernel
theorem dX6_sideAt_34 : decode cX6_sideAt 34 = .ok (.iload_n 3, 1) := by decide +kernel
theorem dX6_sideAt_35 : decode cX6_sideAt 35 = .ok (.iconst 1, 1) := by decide +kernel
theorem dX6_sideAt_36 : decode cX6_sideAt 36 = .ok (.isub, 1) := by decide +kernel
theorem dX6_sideAt_37 : decode cX6_sideAt 37 = .ok (.istore 5, 2) := by decide +kernel
theorem dX6_sideAt_39 : decode cX6_sideAt 39 = .ok (.iload 5, 2) := by decide +kernel
theorem dX6_sideAt_41 : decode cX6_sideAt 41 = .ok (.ifCond .lt 14, 3) := by decide +kernel
theorem dX6_sideAt_44 : decode cX6_sideAt 44 = .ok (.iload 5, 2) := by decide +kernel
theorem dX6_sideAt_46 : decode cX6_sideAt 46 = .ok (.aload_n 0, 1) := by decide +kernel
theorem dX6_sideAt_47 : decode cX6_sideAt 47 = .ok (.getfield 47, 3) := by decide +kernel
theorem dX6_sideAt_50 : decode cX6_sideAt 50 = .ok (.iconst 1, 1) := by decide +kernel
theorem dX6_sideAt_51 : decode cX6_sideAt 51 = .ok (.isub, 1) := by decide +kernel
theorem dX6_sideAt_52 : decode cX6_sideAt 52 = .ok (.if_icmp .ne 8, 3) := by decide +kernel
theorem dX6_sideAt_55 : decode cX6_sideAt 55 = .ok (.bipush (-9), 2) := by decide +kernel
theorem dX6_sideAt_57 : decode cX6_sideAt 57 = .ok (.goto 15, 3) := by decide +kernel
theorem dX6_sideAt_60 : decode cX6_sideAt 60 = .ok (.iload 4, 2) := by decide +kernel
theorem dX6_sideAt_62 : decode cX6_sideAt 62 = .ok (.aload_n 0, 1) := by decide +kernel
theorem dX6_sideAt_63 : decode cX6_sideAt 63 = .ok (.getfield 47, 3) := by decide +kernel
theorem dX6_sideAt_66 : decode cX6_sideAt 66 = .ok (.iconst 1, 1) := by decide +kernel
theorem dX6_sideAt_67 : decode cX6_sideAt 67 = .ok (.isub, 1) := by decide +kernel
theorem dX6_sideAt_68 : decode cX6_sideAt 68 = .ok (.imul, 1) := by decide +kernel
theorem dX6_sideAt_69 : decode cX6_sideAt 69 = .ok (.iload 5, 2) := by decide +kernel
theorem dX6_sideAt_71 : decode cX6_sideAt 71 = .ok (.iadd, 1) := by decide +kernel
theorem dX6_sideAt_72 : decode cX6_sideAt 72 = .ok (.ireturn, 1) := by decide +kernel
theorem dX6_sideAt_73 : decode cX6_sideAt 73 = .ok (.iload_n 2, 1) := by decide +kernel
theorem dX6_sideAt_74 : decode cX6_sideAt 74 = .ok (.iconst 2, 1) := by decide +kernel
theorem dX6_sideAt_75 : decode cX6_sideAt 75 = .ok (.if_icmp .ne 8, 3) := by decide +kernel
theorem dX6_sideAt_78 : decode cX6_sideAt 78 = .ok (.iload 4, 2) := by decide +kernel
theorem dX6_sideAt_80 : decode cX6_sideAt 80 = .ok (.goto 7, 3) := by decide +kernel
theorem dX6_sideAt_83 : decode cX6_sideAt 83 = .ok (.iload 4, 2) := by decide +kernel
theorem dX6_sideAt_85 : decode cX6_sideAt 85 = .ok (.iconst 1, 1) := by decide +kernel
theorem dX6_sideAt_86 : decode cX6_sideAt 86 = .ok (.isub, 1) := by decide +kernel
theorem dX6_sideAt_87 : decode cX6_sideAt 87 = .ok (.istore 5, 2) := by decide +kernel
theorem dX6_sideAt_89 : decode cX6_sideAt 89 = .ok (.iload 5, 2) := by decide +kernel
theorem dX6_sideAt_91 : decode cX6_sideAt 91 = .ok (.ifCond .lt 14, 3) := by decide +kernel
theorem dX6_sideAt_94 : decode cX6_sideAt 94 = .ok (.iload 5, 2) := by decide +kernel
theorem dX6_sideAt_96 : decode cX6_sideAt 96 = .ok (.aload_n 0, 1) := by decide +kernel
theorem dX6_sideAt_97 : decode cX6_sideAt 97 = .ok (.getfield 51, 3) := by decide +kernel
theorem dX6_sideAt_100 : decode cX6_sideAt 100 = .ok (.iconst 1, 1) := by decide +kernel
theorem dX6_sideAt_101 : decode cX6_sideAt 101 = .ok (.isub, 1) := by decide +kernel
theorem dX6_sideAt_102 : decode cX6_sideAt 102 = .ok (.if_icmp .ne 8, 3) := by decide +kernel
theorem dX6_sideAt_105 : decode cX6_sideAt 105 = .ok (.bipush (-9), 2) := by decide +kernel
theorem dX6_sideAt_107 : decode cX6_sideAt 107 = .ok (.goto 17, 3) := by decide +kernel
theorem dX6_sideAt_110 : decode cX6_sideAt 110 = .ok (.aload_n 0, 1) := by decide +kernel
theorem dX6_sideAt_111 : decode cX6_sideAt 111 = .ok (.invokevirtual 63, 3) := by decide +kernel
theorem dX6_sideAt_114 : decode cX6_sideAt 114 = .ok (.iload 5, 2) := by decide +kernel
theorem dX6_sideAt_116 : decode cX6_sideAt 116 = .ok (.aload_n 0, 1) := by decide +kernel
theorem dX6_sideAt_117 : decode cX6_sideAt 117 = .ok (.getfield 47, 3) := by decide +kernel
theorem dX6_sideAt_120 : decode cX6_sideAt 120 = .ok (.imul, 1) := by decide +kernel
theorem dX6_sideAt_121 : decode cX6_sideAt 121 = .ok (.iadd, 1) := by decide +kernel
theorem dX6_sideAt_122 : decode cX6_sideAt 122 = .ok (.iload_n 3, 1) := by decide +kernel
theorem dX6_sideAt_123 : decode cX6_sideAt 123 = .ok (.iadd, 1) := by decide +kernel
theorem dX6_sideAt_124 : decode cX6_sideAt 124 = .ok (.ireturn, 1) := by decide +kernel
set_option maxRecDepth 20000 in
theorem ggX6_sideOf_X6_noPiece : GoodIn wsX6_sideOf wsX6_noPiece := goodIn_r _ [6, 7, 8, 9, 5, 10, 11, 12, 13, 14, 15, 24, 25, 26, 27, 28, 29, 30, 31, 32, 33, 34, 35, 36, 37, 38, 39, 40, 41, 42, 43, 44, 45, 46] (by decide +kernel) (by decide +kernel)
set_option maxRecDepth 20000 in
theorem gX6_sideOf_X6_noPiece : GoodIn wsX6_sideOf (wsV RX6 115 RX6 yX6_noPiece wsX6_noPiece) := goodIn_app (goodIn_of _ (by decide +kernel)) ggX6_sideOf_X6_noPiece
set_option maxRecDepth 20000 in
theorem ggX6_sideOf_X6_in : GoodIn wsX6_sideOf wsX6_in := goodIn_r _ [15] (by decide +kernel) (by decide +kernel)
set_option maxRecDepth 20000 in
theorem gX6_sideOf_X6_in : GoodIn wsX6_sideOf (va_wsS RX6 70 yX6_in wsX6_in) := goodIn_app (goodIn_of _ (by decide +kernel)) ggX6_sideOf_X6_in
set_option maxRecDepth 20000 in
theorem ggX6_sideOf_X6_sideAt : GoodIn wsX6_sideOf wsX6_sideAt := goodIn_r _ [19, 11, 12, 20, 21, 22, 5, 23, 24, 25, 26, 27, 28, 29, 30, 31, 32, 33, 34, 35, 36, 37, 38, 39, 40, 41, 42, 43, 44, 45, 46] (by decide +kernel) (by decide +kernel)
set_option maxRecDepth 20000 in
theorem gX6_sideOf_X6_sideAt : GoodIn wsX6_sideOf (wsV RX6 120 RX6 yX6_sideAt wsX6_sideAt) := goodIn_app (goodIn_of _ (by decide +kernel)) ggX6_sideOf_X6_sideAt
theorem dX6_sideOf_0 : decode cX6_sideOf 0 = .ok (.aload_n 0, 1) := by decide +kernel
theorem dX6_sideOf_1 : decode cX6_sideOf 1 = .ok (.iload_n 1, 1) := by decide +kernel
theorem dX6_sideOf_2 : decode cX6_sideOf 2 = .ok (.invokevirtual 115, 3) := by decide +kernel
theorem dX6_sideOf_5 : decode cX6_sideOf 5 = .ok (.ifCond .ne 15, 3) := by decide +kernel
theorem dX6_sideOf_8 : decode cX6_sideOf 8 = .ok (.iload_n 2, 1) := by decide +kernel
theorem dX6_sideOf_9 : decode cX6_sideOf 9 = .ok (.i2l, 1) := by decide +kernel
theorem dX6_sideOf_10 : decode cX6_sideOf 10 = .ok (.lconst 0, 1) := by decide +kernel
theorem dX6_sideOf_11 : decode cX6_sideOf 11 = .ok (.ldc2_w 118, 3) := by decide +kernel
theorem dX6_sideOf_14 : decode cX6_sideOf 14 = .ok (.invokestatic 70, 3) := by decide +kernel
theorem dX6_sideOf_17 : decode cX6_sideOf 17 = .ok (.ifCond .ne 7, 3) := by decide +kernel
theorem dX6_sideOf_20 : decode cX6_sideOf 20 = .ok (.iconst (-1), 1) := by decide +kernel
theorem dX6_sideOf_21 : decode cX6_sideOf 21 = .ok (.goto 9, 3) := by decide +kernel
theorem dX6_sideOf_24 : decode cX6_sideOf 24 = .ok (.aload_n 0, 1) := by decide +kernel
theorem dX6_sideOf_25 : decode cX6_sideOf 25 = .ok (.iload_n 1, 1) := by decide +kernel
theorem dX6_sideOf_26 : decode cX6_sideOf 26 = .ok (.iload_n 2, 1) := by decide +kernel
theorem dX6_sideOf_27 : decode cX6_sideOf 27 = .ok (.invokevirtual 120, 3) := by decide +kernel
theorem dX6_sideOf_30 : decode cX6_sideOf 30 = .ok (.ireturn, 1) := by decide +kernel
set_option maxRecDepth 20000 in
theorem ggX6_heightAt_X6_sideAt : GoodIn wsX6_heightAt wsX6_sideAt := goodIn_r _ [6, 7, 8, 9, 10, 11, 5, 12, 13, 14, 15, 16, 17, 18, 19, 20, 21, 22, 23, 24, 25, 26, 27, 28, 29, 30, 31, 32, 33, 34, 35] (by decide +kernel) (by decide +kernel)
set_option maxRecDepth 20000 in
theorem gX6_heightAt_X6_sideAt : GoodIn wsX6_heightAt (wsV RX6 120 RX6 yX6_sideAt wsX6_sideAt) := goodIn_app (goodIn_of _ (by decide +kernel)) ggX6_heightAt_X6_sideAt
theorem dX6_heightAt_0 : decode cX6_heightAt 0 = .ok (.iconst 5, 1) := by decide +kernel
theorem dX6_heightAt_1 : decode cX6_heightAt 1 = .ok (.aload_n 0, 1) := by decide +kernel
theorem dX6_heightAt_2 : decode cX6_heightAt 2 = .ok (.iload_n 1, 1) := by decide +kernel
theorem dX6_heightAt_3 : decode cX6_heightAt 3 = .ok (.iload_n 2, 1) := by decide +kernel
theorem dX6_heightAt_4 : decode cX6_heightAt 4 = .ok (.invokevirtual 120, 3) := by decide +kernel
theorem dX6_heightAt_7 : decode cX6_heightAt 7 = .ok (.imul, 1) := by decide +kernel
theorem dX6_heightAt_8 : decode cX6_heightAt 8 = .ok (.istore 4, 2) := by decide +kernel
theorem dX6_heightAt_10 : decode cX6_heightAt 10 = .ok (.iload_n 2, 1) := by decide +kernel
theorem dX6_heightAt_11 : decode cX6_heightAt 11 = .ok (.iconst 1, 1) := by decide +kernel
theorem dX6_heightAt_12 : decode cX6_heightAt 12 = .ok (.if_icmp .eq 8, 3) := by decide +kernel
theorem dX6_heightAt_15 : decode cX6_heightAt 15 = .ok (.iload_n 2, 1) := by decide +kernel
theorem dX6_heightAt_16 : decode cX6_heightAt 16 = .ok (.iconst 2, 1) := by decide +kernel
theorem dX6_heightAt_17 : decode cX6_heightAt 17 = .ok (.if_icmp .ne 15, 3) := by decide +kernel
theorem dX6_heightAt_20 : decode cX6_heightAt 20 = .ok (.aload_n 0, 1) := by decide +kernel
theorem dX6_heightAt_21 : decode cX6_heightAt 21 = .ok (.getfield 7, 3) := by decide +kernel
theorem dX6_heightAt_24 : decode cX6_heightAt 24 = .ok (.iload 4, 2) := by decide +kernel
theorem dX6_heightAt_26 : decode cX6_heightAt 26 = .ok (.iload_n 3, 1) := by decide +kernel
theorem dX6_heightAt_27 : decode cX6_heightAt 27 = .ok (.iadd, 1) := by decide +kernel
theorem dX6_heightAt_28 : decode cX6_heightAt 28 = .ok (.iaload, 1) := by decide +kernel
theorem dX6_heightAt_29 : decode cX6_heightAt 29 = .ok (.goto 15, 3) := by decide +kernel
theorem dX6_heightAt_32 : decode cX6_heightAt 32 = .ok (.aload_n 0, 1) := by decide +kernel
theorem dX6_heightAt_33 : decode cX6_heightAt 33 = .ok (.getfield 7, 3) := by decide +kernel
theorem dX6_heightAt_36 : decode cX6_heightAt 36 = .ok (.iload 4, 2) := by decide +kernel
theorem dX6_heightAt_38 : decode cX6_heightAt 38 = .ok (.iconst 4, 1) := by decide +kernel
theorem dX6_heightAt_39 : decode cX6_heightAt 39 = .ok (.iadd, 1) := by decide +kernel
theorem dX6_heightAt_40 : decode cX6_heightAt 40 = .ok (.iload_n 3, 1) := by decide +kernel
theorem dX6_heightAt_41 : decode cX6_heightAt 41 = .ok (.isub, 1) := by decide +kernel
theorem dX6_heightAt_42 : decode cX6_heightAt 42 = .ok (.iaload, 1) := by decide +kernel
theorem dX6_heightAt_43 : decode cX6_heightAt 43 = .ok (.ineg, 1) := by decide +kernel
theorem dX6_heightAt_44 : decode cX6_heightAt 44 = .ok (.ireturn, 1) := by decide +kernel
set_option maxRecDepth 20000 in
theorem ggX6_edge_X6_noPiece : GoodIn wsX6_edge wsX6_noPiece := goodIn_r _ [7, 8, 9, 10, 6, 11, 12, 13, 14, 15, 16, 34, 35, 36, 37, 38, 39, 40, 41, 42, 43, 44, 45, 46, 47, 48, 49, 50, 51, 52, 53, 54, 55, 56] (by decide +kernel) (by decide +kernel)
set_option maxRecDepth 20000 in
theorem gX6_edge_X6_noPiece : GoodIn wsX6_edge (wsV RX6 115 RX6 yX6_noPiece wsX6_noPiece) := goodIn_app (goodIn_of _ (by decide +kernel)) ggX6_edge_X6_noPiece
set_option maxRecDepth 20000 in
theorem ggX6_edge_X6_in : GoodIn wsX6_edge wsX6_in := goodIn_r _ [16] (by decide +kernel) (by decide +kernel)
set_option maxRecDepth 20000 in
theorem gX6_edge_X6_in : GoodIn wsX6_edge (va_wsS RX6 70 yX6_in wsX6_in) := goodIn_app (goodIn_of _ (by decide +kernel)) ggX6_edge_X6_in
set_option maxRecDepth 20000 in
theorem ggX6_edge_X6_sideAt : GoodIn wsX6_edge wsX6_sideAt := goodIn_r _ [20, 12, 13, 21, 22, 23, 6, 24, 34, 35, 36, 37, 38, 39, 40, 41, 42, 43, 44, 45, 46, 47, 48, 49, 50, 51, 52, 53, 54, 55, 56] (by decide +kernel) (by decide +kernel)
set_option maxRecDepth 20000 in
theorem gX6_edge_X6_sideAt : GoodIn wsX6_edge (wsV RX6 120 RX6 yX6_sideAt wsX6_sideAt) := goodIn_app (goodIn_of _ (by decide +kernel)) ggX6_edge_X6_sideAt
set_option maxRecDepth 20000 in
theorem ggX6_edge_X6_lost : GoodIn wsX6_edge wsX6_lost := goodIn_r _ [27, 28] (by decide +kernel) (by decide +kernel)
set_option maxRecDepth 20000 in
theorem gX6_edge_X6_lost : GoodIn wsX6_edge (va_wsS RX6 59 yX6_lost wsX6_lost) := goodIn_app (goodIn_of _ (by decide +kernel)) ggX6_edge_X6_lost
set_option maxRecDepth 20000 in
theorem ggX6_edge_X6_heightAt : GoodIn wsX6_edge wsX6_heightAt := goodIn_r _ [32, 33, 17, 18, 19, 6, 20, 12, 13, 21, 22, 23, 24, 34, 35, 36, 37, 38, 39, 40, 41, 42, 43, 44, 45, 46, 47, 48, 49, 50, 51, 52, 53, 54, 55, 56] (by decide +kernel) (by decide +kernel)
set_option maxRecDepth 20000 in
theorem gX6_edge_X6_heightAt : GoodIn wsX6_edge (wsV RX6 124 RX6 yX6_heightAt wsX6_heightAt) := goodIn_app (goodIn_of _ (by decide +kernel)) ggX6_edge_X6_heightAt
theorem dX6_edge_0 : decode cX6_edge 0 = .ok (.aload_n 0, 1) := by decide +kernel
theorem dX6_edge_1 : decode cX6_edge 1 = .ok (.iload_n 1, 1) := by decide +kernel
theorem dX6_edge_2 : decode cX6_edge 2 = .ok (.invokevirtual 115, 3) := by decide +kernel
theorem dX6_edge_5 : decode cX6_edge 5 = .ok (.ifCond .ne 36, 3) := by decide +kernel
theorem dX6_edge_8 : decode cX6_edge 8 = .ok (.iload_n 2, 1) := by decide +kernel
theorem dX6_edge_9 : decode cX6_edge 9 = .ok (.i2l, 1) := by decide +kernel
theorem dX6_edge_10 : decode cX6_edge 10 = .ok (.lconst 0, 1) := by decide +kernel
theorem dX6_edge_11 : decode cX6_edge 11 = .ok (.ldc2_w 118, 3) := by decide +kernel
theorem dX6_edge_14 : decode cX6_edge 14 = .ok (.invokestatic 70, 3) := by decide +kernel
theorem dX6_edge_17 : decode cX6_edge 17 = .ok (.ifCond .eq 24, 3) := by decide +kernel
theorem dX6_edge_20 : decode cX6_edge 20 = .ok (.iload_n 3, 1) := by decide +kernel
theorem dX6_edge_21 : decode cX6_edge 21 = .ok (.i2l, 1) := by decide +kernel
theorem dX6_edge_22 : decode cX6_edge 22 = .ok (.lconst 0, 1) := by decide +kernel
theorem dX6_edge_23 : decode cX6_edge 23 = .ok (.ldc2_w 109, 3) := by decide +kernel
theorem dX6_edge_26 : decode cX6_edge 26 = .ok (.invokestatic 70, 3) := by decide +kernel
theorem dX6_edge_29 : decode cX6_edge 29 = .ok (.ifCond .eq 12, 3) := by decide +kernel
theorem dX6_edge_32 : decode cX6_edge 32 = .ok (.aload_n 0, 1) := by decide +kernel
theorem dX6_edge_33 : decode cX6_edge 33 = .ok (.iload_n 1, 1) := by decide +kernel
theorem dX6_edge_34 : decode cX6_edge 34 = .ok (.iload_n 2, 1) := by decide +kernel
theorem dX6_edge_35 : decode cX6_edge 35 = .ok (.invokevirtual 120, 3) := by decide +kernel
theorem dX6_edge_38 : decode cX6_edge 38 = .ok (.ifCond .ge 7, 3) := by decide +kernel
theorem dX6_edge_41 : decode cX6_edge 41 = .ok (.invokestatic 59, 3) := by decide +kernel
theorem dX6_edge_44 : decode cX6_edge 44 = .ok (.lreturn, 1) := by decide +kernel
theorem dX6_edge_45 : decode cX6_edge 45 = .ok (.aload_n 0, 1) := by decide +kernel
theorem dX6_edge_46 : decode cX6_edge 46 = .ok (.iload_n 1, 1) := by decide +kernel
theorem dX6_edge_47 : decode cX6_edge 47 = .ok (.iload_n 2, 1) := by decide +kernel
theorem dX6_edge_48 : decode cX6_edge 48 = .ok (.iload_n 3, 1) := by decide +kernel
theorem dX6_edge_49 : decode cX6_edge 49 = .ok (.invokevirtual 124, 3) := by decide +kernel
theorem dX6_edge_52 : decode cX6_edge 52 = .ok (.i2l, 1) := by decide +kernel
theorem dX6_edge_53 : decode cX6_edge 53 = .ok (.lreturn, 1) := by decide +kernel
set_option maxRecDepth 20000 in
theorem ggX6_farOf_X6_heightAt : GoodIn wsX6_farOf wsX6_heightAt := goodIn_r _ [5, 6, 7, 8, 9, 4, 10, 11, 12, 13, 14, 15, 16, 20, 21, 22, 23, 24, 25, 26, 27, 28, 29, 30, 31, 32, 33, 34, 35, 36, 37, 38, 39, 40, 41, 42] (by decide +kernel) (by decide +kernel)
set_option maxRecDepth 20000 in
theorem gX6_farOf_X6_heightAt : GoodIn wsX6_farOf (wsV RX6 124 RX6 yX6_heightAt wsX6_heightAt) := goodIn_app (goodIn_of _ (by decide +kernel)) ggX6_farOf_X6_heightAt
set_option maxRecDepth 20000 in
theorem ggX6_farOf_X6_sizeOf : GoodIn wsX6_farOf wsX6_sizeOf := goodIn_r _ [19] (by decide +kernel) (by decide +kernel)
set_option maxRecDepth 20000 in
theorem gX6_farOf_X6_sizeOf : GoodIn wsX6_farOf (va_wsS RX6 128 yX6_sizeOf wsX6_sizeOf) := goodIn_app (goodIn_of _ (by decide +kernel)) ggX6_farOf_X6_sizeOf
theorem dX6_farOf_0 : decode cX6_farOf 0 = .ok (.iconst 0, 1) := by decide +kernel
theorem dX6_farOf_1 : decode cX6_farOf 1 = .ok (.istore 5, 2) := by decide +kernel
theorem dX6_farOf_3 : decode cX6_farOf 3 = .ok (.iconst 0, 1) := by decide +kernel
theorem dX6_farOf_4 : decode cX6_farOf 4 = .ok (.istore 6, 2) := by decide +kernel
theorem dX6_farOf_6 : decode cX6_farOf 6 = .ok (.iload 6, 2) := by decide +kernel
theorem dX6_farOf_8 : decode cX6_farOf 8 = .ok (.iconst 5, 1) := by decide +kernel
theorem dX6_farOf_9 : decode cX6_farOf 9 = .ok (.if_icmp .ge 37, 3) := by decide +kernel
theorem dX6_farOf_12 : decode cX6_farOf 12 = .ok (.iload 5, 2) := by decide +kernel
theorem dX6_farOf_14 : decode cX6_farOf 14 = .ok (.aload_n 0, 1) := by decide +kernel
theorem dX6_farOf_15 : decode cX6_farOf 15 = .ok (.iload_n 1, 1) := by decide +kernel
theorem dX6_farOf_16 : decode cX6_farOf 16 = .ok (.iload_n 2, 1) := by decide +kernel
theorem dX6_farOf_17 : decode cX6_farOf 17 = .ok (.iload 6, 2) := by decide +kernel
theorem dX6_farOf_19 : decode cX6_farOf 19 = .ok (.invokevirtual 124, 3) := by decide +kernel
theorem dX6_farOf_22 : decode cX6_farOf 22 = .ok (.aload_n 0, 1) := by decide +kernel
theorem dX6_farOf_23 : decode cX6_farOf 23 = .ok (.iload_n 3, 1) := by decide +kernel
theorem dX6_farOf_24 : decode cX6_farOf 24 = .ok (.iload 4, 2) := by decide +kernel
theorem dX6_farOf_26 : decode cX6_farOf 26 = .ok (.iconst 4, 1) := by decide +kernel
theorem dX6_farOf_27 : decode cX6_farOf 27 = .ok (.iload 6, 2) := by decide +kernel
theorem dX6_farOf_29 : decode cX6_farOf 29 = .ok (.isub, 1) := by decide +kernel
theorem dX6_farOf_30 : decode cX6_farOf 30 = .ok (.invokevirtual 124, 3) := by decide +kernel
theorem dX6_farOf_33 : decode cX6_farOf 33 = .ok (.iadd, 1) := by decide +kernel
theorem dX6_farOf_34 : decode cX6_farOf 34 = .ok (.invokestatic 128, 3) := by decide +kernel
theorem dX6_farOf_37 : decode cX6_farOf 37 = .ok (.iadd, 1) := by decide +kernel
theorem dX6_farOf_38 : decode cX6_farOf 38 = .ok (.istore 5, 2) := by decide +kernel
theorem dX6_farOf_40 : decode cX6_farOf 40 = .ok (.iinc 6 1, 3) := by decide +kernel
theorem dX6_farOf_43 : decode cX6_farOf 43 = .ok (.goto (-37), 3) := by decide +kernel
theorem dX6_farOf_46 : decode cX6_farOf 46 = .ok (.iload 5, 2) := by decide +kernel
theorem dX6_farOf_48 : decode cX6_farOf 48 = .ok (.ireturn, 1) := by decide +kernel
set_option maxRecDepth 20000 in
theorem ggX6_far_X6_noPiece : GoodIn wsX6_far wsX6_noPiece := goodIn_r _ [6, 7, 8, 9, 5, 10, 11, 12, 13, 14, 15, 36, 37, 38, 39, 40, 41, 42, 43, 44, 45, 46, 47, 48, 49, 50, 51, 52, 53, 54, 55, 56, 57, 58] (by decide +kernel) (by decide +kernel)
set_option maxRecDepth 20000 in
theorem gX6_far_X6_noPiece : GoodIn wsX6_far (wsV RX6 115 RX6 yX6_noPiece wsX6_noPiece) := goodIn_app (goodIn_of _ (by decide +kernel)) ggX6_far_X6_noPiece
set_option maxRecDepth 20000 in
theorem ggX6_far_X6_in : GoodIn wsX6_far wsX6_in := goodIn_r _ [15] (by decide +kernel) (by decide +kernel)
set_option maxRecDepth 20000 in
theorem gX6_far_X6_in : GoodIn wsX6_far (va_wsS RX6 70 yX6_in wsX6_in) := goodIn_app (goodIn_of _ (by decide +kernel)) ggX6_far_X6_in
set_option maxRecDepth 20000 in
theorem ggX6_far_X6_sideAt : GoodIn wsX6_far wsX6_sideAt := goodIn_r _ [19, 11, 12, 20, 21, 22, 5, 23, 36, 37, 38, 39, 40, 41, 42, 43, 44, 45, 46, 47, 48, 49, 50, 51, 52, 53, 54, 55, 56, 57, 58] (by decide +kernel) (by decide +kernel)
set_option maxRecDepth 20000 in
theorem gX6_far_X6_sideAt : GoodIn wsX6_far (wsV RX6 120 RX6 yX6_sideAt wsX6_sideAt) := goodIn_app (goodIn_of _ (by decide +kernel)) ggX6_far_X6_sideAt
set_option maxRecDepth 20000 in
theorem ggX6_far_X6_farOf : GoodIn wsX6_far wsX6_farOf := goodIn_r _ [27, 28, 29, 30, 5, 31, 32, 16, 17, 18, 19, 11, 12, 20, 21, 22, 23, 33, 34, 35, 36, 37, 38, 39, 40, 41, 42, 43, 44, 45, 46, 47, 48, 49, 50, 51, 52, 53, 54, 55, 56, 57, 58] (by decide +kernel) (by decide +kernel)
set_option maxRecDepth 20000 in
theorem gX6_far_X6_farOf : GoodIn wsX6_far (wsV RX6 131 RX6 yX6_farOf wsX6_farOf) := goodIn_app (goodIn_of _ (by decide +kernel)) ggX6_far_X6_farOf
theorem dX6_far_0 : decode cX6_far 0 = .ok (.aload_n 0, 1) := by decide +kernel
theorem dX6_far_1 : decode cX6_far 1 = .ok (.iload_n 1, 1) := by decide +kernel
theorem dX6_far_2 : decode cX6_far 2 = .ok (.invokevirtual 115, 3) := by decide +kernel
theorem dX6_far_5 : decode cX6_far 5 = .ok (.ifCond .ne 36, 3) := by decide +kernel
theorem dX6_far_8 : decode cX6_far 8 = .ok (.iload_n 2, 1) := by decide +kernel
theorem dX6_far_9 : decode cX6_far 9 = .ok (.i2l, 1) := by decide +kernel
theorem dX6_far_10 : decode cX6_far 10 = .ok (.lconst 0, 1) := by decide +kernel
theorem dX6_far_11 : decode cX6_far 11 = .ok (.ldc2_w 118, 3) := by decide +kernel
theorem dX6_far_14 : decode cX6_far 14 = .ok (.invokestatic 70, 3) := by decide +kernel
theorem dX6_far_17 : decode cX6_far 17 = .ok (.ifCond .eq 24, 3) := by decide +kernel
theorem dX6_far_20 : decode cX6_far 20 = .ok (.aload_n 0, 1) := by decide +kernel
theorem dX6_far_21 : decode cX6_far 21 = .ok (.iload_n 3, 1) := by decide +kernel
theorem dX6_far_22 : decode cX6_far 22 = .ok (.invokevirtual 115, 3) := by decide +kernel
theorem dX6_far_25 : decode cX6_far 25 = .ok (.ifCond .ne 16, 3) := by decide +kernel
theorem dX6_far_28 : decode cX6_far 28 = .ok (.iload 4, 2) := by decide +kernel
theorem dX6_far_30 : decode cX6_far 30 = .ok (.i2l, 1) := by decide +kernel
theorem dX6_far_31 : decode cX6_far 31 = .ok (.lconst 0, 1) := by decide +kernel
theorem dX6_far_32 : decode cX6_far 32 = .ok (.ldc2_w 118, 3) := by decide +kernel
theorem dX6_far_35 : decode cX6_far 35 = .ok (.invokestatic 70, 3) := by decide +kernel
theorem dX6_far_38 : decode cX6_far 38 = .ok (.ifCond .ne 5, 3) := by decide +kernel
theorem dX6_far_41 : decode cX6_far 41 = .ok (.iconst (-1), 1) := by decide +kernel
theorem dX6_far_42 : decode cX6_far 42 = .ok (.ireturn, 1) := by decide +kernel
theorem dX6_far_43 : decode cX6_far 43 = .ok (.aload_n 0, 1) := by decide +kernel
theorem dX6_far_44 : decode cX6_far 44 = .ok (.iload_n 1, 1) := by decide +kernel
theorem dX6_far_45 : decode cX6_far 45 = .ok (.iload_n 2, 1) := by decide +kernel
theorem dX6_far_46 : decode cX6_far 46 = .ok (.invokevirtual 120, 3) := by decide +kernel
theorem dX6_far_49 : decode cX6_far 49 = .ok (.ifCond .lt 13, 3) := by decide +kernel
theorem dX6_far_52 : decode cX6_far 52 = .ok (.aload_n 0, 1) := by decide +kernel
theorem dX6_far_53 : decode cX6_far 53 = .ok (.iload_n 3, 1) := by decide +kernel
theorem dX6_far_54 : decode cX6_far 54 = .ok (.iload 4, 2) := by decide +kernel
theorem dX6_far_56 : decode cX6_far 56 = .ok (.invokevirtual 120, 3) := by decide +kernel
theorem dX6_far_59 : decode cX6_far 59 = .ok (.ifCond .ge 8, 3) := by decide +kernel
theorem dX6_far_62 : decode cX6_far 62 = .ok (.bipush (-3), 2) := by decide +kernel
theorem dX6_far_64 : decode cX6_far 64 = .ok (.goto 12, 3) := by decide +kernel
theorem dX6_far_67 : decode cX6_far 67 = .ok (.aload_n 0, 1) := by decide +kernel
theorem dX6_far_68 : decode cX6_far 68 = .ok (.iload_n 1, 1) := by decide +kernel
theorem dX6_far_69 : decode cX6_far 69 = .ok (.iload_n 2, 1) := by decide +kernel
theorem dX6_far_70 : decode cX6_far 70 = .ok (.iload_n 3, 1) := by decide +kernel
theorem dX6_far_71 : decode cX6_far 71 = .ok (.iload 4, 2) := by decide +kernel
theorem dX6_far_73 : decode cX6_far 73 = .ok (.invokevirtual 131, 3) := by decide +kernel
theorem dX6_far_76 : decode cX6_far 76 = .ok (.ireturn, 1) := by decide +kernel
theorem dX6_isBulge_0 : decode cX6_isBulge 0 = .ok (.iconst 0, 1) := by decide +kernel
theorem dX6_isBulge_1 : decode cX6_isBulge 1 = .ok (.istore_n 2, 1) := by decide +kernel
theorem dX6_isBulge_2 : decode cX6_isBulge 2 = .ok (.iconst 0, 1) := by decide +kernel
theorem dX6_isBulge_3 : decode cX6_isBulge 3 = .ok (.istore_n 3, 1) := by decide +kernel
theorem dX6_isBulge_4 : decode cX6_isBulge 4 = .ok (.iconst 0, 1) := by decide +kernel
theorem dX6_isBulge_5 : decode cX6_isBulge 5 = .ok (.istore 4, 2) := by decide +kernel
theorem dX6_isBulge_7 : decode cX6_isBulge 7 = .ok (.iload 4, 2) := by decide +kernel
theorem dX6_isBulge_9 : decode cX6_isBulge 9 = .ok (.iconst 5, 1) := by decide +kernel
theorem dX6_isBulge_10 : decode cX6_isBulge 10 = .ok (.if_icmp .ge 53, 3) := by decide +kernel
theorem dX6_isBulge_13 : decode cX6_isBulge 13 = .ok (.iload_n 2, 1) := by decide +kernel
theorem dX6_isBulge_14 : decode cX6_isBulge 14 = .ok (.aload_n 0, 1) := by decide +kernel
theorem dX6_isBulge_15 : decode cX6_isBulge 15 = .ok (.getfield 7, 3) := by decide +kernel
theorem dX6_isBulge_18 : decode cX6_isBulge 18 = .ok (.iconst 5, 1) := by decide +kernel
theorem dX6_isBulge_19 : decode cX6_isBulge 19 = .ok (.iload_n 1, 1) := by decide +kernel
theorem dX6_isBulge_20 : decode cX6_isBulge 20 = .ok (.imul, 1) := by decide +kernel
theorem dX6_isBulge_21 : decode cX6_isBulge 21 = .ok (.iload 4, 2) := by decide +kernel
theorem dX6_isBulge_23 : decode cX6_isBulge 23 = .ok (.iadd, 1) := by decide +kernel
theorem dX6_isBulge_24 : decode cX6_isBulge 24 = .ok (.iaload, 1) := by decide +kernel
theorem dX6_isBulge_25 : decode cX6_isBulge 25 = .ok (.ifCond .le 7, 3) := by decide +kernel
theorem dX6_isBulge_28 : decode cX6_isBulge 28 = .ok (.iconst 1, 1) := by decide +kernel
theorem dX6_isBulge_29 : decode cX6_isBulge 29 = .ok (.goto 4, 3) := by decide +kernel
theorem dX6_isBulge_32 : decode cX6_isBulge 32 = .ok (.iconst 0, 1) := by decide +kernel
theorem dX6_isBulge_33 : decode cX6_isBulge 33 = .ok (.iadd, 1) := by decide +kernel
theorem dX6_isBulge_34 : decode cX6_isBulge 34 = .ok (.istore_n 2, 1) := by decide +kernel
theorem dX6_isBulge_35 : decode cX6_isBulge 35 = .ok (.iload_n 3, 1) := by decide +kernel
theorem dX6_isBulge_36 : decode cX6_isBulge 36 = .ok (.aload_n 0, 1) := by decide +kernel
theorem dX6_isBulge_37 : decode cX6_isBulge 37 = .ok (.getfield 7, 3) := by decide +kernel
theorem dX6_isBulge_40 : decode cX6_isBulge 40 = .ok (.iconst 5, 1) := by decide +kernel
theorem dX6_isBulge_41 : decode cX6_isBulge 41 = .ok (.iload_n 1, 1) := by decide +kernel
theorem dX6_isBulge_42 : decode cX6_isBulge 42 = .ok (.imul, 1) := by decide +kernel
theorem dX6_isBulge_43 : decode cX6_isBulge 43 = .ok (.iload 4, 2) := by decide +kernel
theorem dX6_isBulge_45 : decode cX6_isBulge 45 = .ok (.iadd, 1) := by decide +kernel
theorem dX6_isBulge_46 : decode cX6_isBulge 46 = .ok (.iaload, 1) := by decide +kernel
theorem dX6_isBulge_47 : decode cX6_isBulge 47 = .ok (.ifCond .ge 7, 3) := by decide +kernel
theorem dX6_isBulge_50 : decode cX6_isBulge 50 = .ok (.iconst 1, 1) := by decide +kernel
theorem dX6_isBulge_51 : decode cX6_isBulge 51 = .ok (.goto 4, 3) := by decide +kernel
theorem dX6_isBulge_54 : decode cX6_isBulge 54 = .ok (.iconst 0, 1) := by decide +kernel
theorem dX6_isBulge_55 : decode cX6_isBulge 55 = .ok (.iadd, 1) := by decide +kernel
theorem dX6_isBulge_56 : decode cX6_isBulge 56 = .ok (.istore_n 3, 1) := by decide +kernel
theorem dX6_isBulge_57 : decode cX6_isBulge 57 = .ok (.iinc 4 1, 3) := by decide +kernel
theorem dX6_isBulge_60 : decode cX6_isBulge 60 = .ok (.goto (-53), 3) := by decide +kernel
theorem dX6_isBulge_63 : decode cX6_isBulge 63 = .ok (.iload_n 2, 1) := by decide +kernel
theorem dX6_isBulge_64 : decode cX6_isBulge 64 = .ok (.iconst 5, 1) := by decide +kernel
theorem dX6_isBulge_65 : decode cX6_isBulge 65 = .ok (.if_icmp .eq 8, 3) := by decide +kernel
theorem dX6_isBulge_68 : decode cX6_isBulge 68 = .ok (.iload_n 3, 1) := by decide +kernel
theorem dX6_isBulge_69 : decode cX6_isBulge 69 = .ok (.iconst 5, 1) := by decide +kernel
theorem dX6_isBulge_70 : decode cX6_isBulge 70 = .ok (.if_icmp .ne 7, 3) := by decide +kernel
theorem dX6_isBulge_73 : decode cX6_isBulge 73 = .ok (.iconst 1, 1) := by decide +kernel
theorem dX6_isBulge_74 : decode cX6_isBulge 74 = .ok (.goto 4, 3) := by decide +kernel
theorem dX6_isBulge_77 : decode cX6_isBulge 77 = .ok (.iconst 0, 1) := by decide +kernel
theorem dX6_isBulge_78 : decode cX6_isBulge 78 = .ok (.ireturn, 1) := by decide +kernel
theorem dX6_isLike_0 : decode cX6_isLike 0 = .ok (.iconst 1, 1) := by decide +kernel
theorem dX6_isLike_1 : decode cX6_isLike 1 = .ok (.istore_n 3, 1) := by decide +kernel
theorem dX6_isLike_2 : decode cX6_isLike 2 = .ok (.iconst 1, 1) := by decide +kernel
theorem dX6_isLike_3 : decode cX6_isLike 3 = .ok (.istore 4, 2) := by decide +kernel
theorem dX6_isLike_5 : decode cX6_isLike 5 = .ok (.iconst 0, 1) := by decide +kernel
theorem dX6_isLike_6 : decode cX6_isLike 6 = .ok (.istore 5, 2) := by decide +kernel
theorem dX6_isLike_8 : decode cX6_isLike 8 = .ok (.iload 5, 2) := by decide +kernel
theorem dX6_isLike_10 : decode cX6_isLike 10 = .ok (.iconst 5, 1) := by decide +kernel
theorem dX6_isLike_11 : decode cX6_isLike 11 = .ok (.if_icmp .ge 84, 3) := by decide +kernel
theorem dX6_isLike_14 : decode cX6_isLike 14 = .ok (.iload_n 3, 1) := by decide +kernel
theorem dX6_isLike_15 : decode cX6_isLike 15 = .ok (.ifCond .eq 32, 3) := by decide +kernel
theorem dX6_isLike_18 : decode cX6_isLike 18 = .ok (.aload_n 0, 1) := by decide +kernel
theorem dX6_isLike_19 : decode cX6_isLike 19 = .ok (.getfield 7, 3) := by decide +kernel
theorem dX6_isLike_22 : decode cX6_isLike 22 = .ok (.iconst 5, 1) := by decide +kernel
theorem dX6_isLike_23 : decode cX6_isLike 23 = .ok (.iload_n 1, 1) := by decide +kernel
theorem dX6_isLike_24 : decode cX6_isLike 24 = .ok (.imul, 1) := by decide +kernel
theorem dX6_isLike_25 : decode cX6_isLike 25 = .ok (.iload 5, 2) := by decide +kernel
theorem dX6_isLike_27 : decode cX6_isLike 27 = .ok (.iadd, 1) := by decide +kernel
theorem dX6_isLike_28 : decode cX6_isLike 28 = .ok (.iaload, 1) := by decide +kernel
theorem dX6_isLike_29 : decode cX6_isLike 29 = .ok (.aload_n 0, 1) := by decide +kernel
theorem dX6_isLike_30 : decode cX6_isLike 30 = .ok (.getfield 7, 3) := by decide +kernel
theorem dX6_isLike_33 : decode cX6_isLike 33 = .ok (.iconst 5, 1) := by decide +kernel
theorem dX6_isLike_34 : decode cX6_isLike 34 = .ok (.iload_n 2, 1) := by decide +kernel
theorem dX6_isLike_35 : decode cX6_isLike 35 = .ok (.imul, 1) := by decide +kernel
theorem dX6_isLike_36 : decode cX6_isLike 36 = .ok (.iload 5, 2) := by decide +kernel
theorem dX6_isLike_38 : decode cX6_isLike 38 = .ok (.iadd, 1) := by decide +kernel
theorem dX6_isLike_39 : decode cX6_isLike 39 = .ok (.iaload, 1) := by decide +kernel
theorem dX6_isLike_40 : decode cX6_isLike 40 = .ok (.if_icmp .ne 7, 3) := by decide +kernel
theorem dX6_isLike_43 : decode cX6_isLike 43 = .ok (.iconst 1, 1) := by decide +kernel
theorem dX6_isLike_44 : decode cX6_isLike 44 = .ok (.goto 4, 3) := by decide +kernel
theorem dX6_isLike_47 : decode cX6_isLike 47 = .ok (.iconst 0, 1) := by decide +kernel
theorem dX6_isLike_48 : decode cX6_isLike 48 = .ok (.istore_n 3, 1) := by decide +kernel
theorem dX6_isLike_49 : decode cX6_isLike 49 = .ok (.iload 4, 2) := by decide +kernel
theorem dX6_isLike_51 : decode cX6_isLike 51 = .ok (.ifCond .eq 35, 3) := by decide +kernel
theorem dX6_isLike_54 : decode cX6_isLike 54 = .ok (.aload_n 0, 1) := by decide +kernel
theorem dX6_isLike_55 : decode cX6_isLike 55 = .ok (.getfield 7, 3) := by decide +kernel
theorem dX6_isLike_58 : decode cX6_isLike 58 = .ok (.iconst 5, 1) := by decide +kernel
theorem dX6_isLike_59 : decode cX6_isLike 59 = .ok (.iload_n 1, 1) := by decide +kernel
theorem dX6_isLike_60 : decode cX6_isLike 60 = .ok (.imul, 1) := by decide +kernel
theorem dX6_isLike_61 : decode cX6_isLike 61 = .ok (.iload 5, 2) := by decide +kernel
theorem dX6_isLike_63 : decode cX6_isLike 63 = .ok (.iadd, 1) := by decide +kernel
theorem dX6_isLike_64 : decode cX6_isLike 64 = .ok (.iaload, 1) := by decide +kernel
theorem dX6_isLike_65 : decode cX6_isLike 65 = .ok (.aload_n 0, 1) := by decide +kernel
theorem dX6_isLike_66 : decode cX6_isLike 66 = .ok (.getfield 7, 3) := by decide +kernel
theorem dX6_isLike_69 : decode cX6_isLike 69 = .ok (.iconst 5, 1) := by decide +kernel
theorem dX6_isLike_70 : decode cX6_isLike 70 = .ok (.iload_n 2, 1) := by decide +kernel
theorem dX6_isLike_71 : decode cX6_isLike 71 = .ok (.imul, 1) := by decide +kernel
theorem dX6_isLike_72 : decode cX6_isLike 72 = .ok (.iconst 4, 1) := by decide +kernel
theorem dX6_isLike_73 : decode cX6_isLike 73 = .ok (.iadd, 1) := by decide +kernel
theorem dX6_isLike_74 : decode cX6_isLike 74 = .ok (.iload 5, 2) := by decide +kernel
theorem dX6_isLike_76 : decode cX6_isLike 76 = .ok (.isub, 1) := by decide +kernel
theorem dX6_isLike_77 : decode cX6_isLike 77 = .ok (.iaload, 1) := by decide +kernel
theorem dX6_isLike_78 : decode cX6_isLike 78 = .ok (.ineg, 1) := by decide +kernel
theorem dX6_isLike_79 : decode cX6_isLike 79 = .ok (.if_icmp .ne 7, 3) := by decide +kernel
theorem dX6_isLike_82 : decode cX6_isLike 82 = .ok (.iconst 1, 1) := by decide +kernel
theorem dX6_isLike_83 : decode cX6_isLike 83 = .ok (.goto 4, 3) := by decide +kernel
theorem dX6_isLike_86 : decode cX6_isLike 86 = .ok (.iconst 0, 1) := by decide +kernel
theorem dX6_isLike_87 : decode cX6_isLike 87 = .ok (.istore 4, 2) := by decide +kernel
theorem dX6_isLike_89 : decode cX6_isLike 89 = .ok (.iinc 5 1, 3) := by decide +kernel
theorem dX6_isLike_92 : decode cX6_isLike 92 = .ok (.goto (-84), 3) := by decide +kernel
theorem dX6_isLike_95 : decode cX6_isLike 95 = .ok (.iload_n 3, 1) := by decide +kernel
theorem dX6_isLike_96 : decode cX6_isLike 96 = .ok (.ifCond .ne 8, 3) := by decide +kernel
theorem dX6_isLike_99 : decode cX6_isLike 99 = .ok (.iload 4, 2) := by decide +kernel
theorem dX6_isLike_101 : decode cX6_isLike 101 = .ok (.ifCond .eq 7, 3) := by decide +kernel
theorem dX6_isLike_104 : decode cX6_isLike 104 = .ok (.iconst 1, 1) := by decide +kernel
theorem dX6_isLike_105 : decode cX6_isLike 105 = .ok (.goto 4, 3) := by decide +kernel
theorem dX6_isLike_108 : decode cX6_isLike 108 = .ok (.iconst 0, 1) := by decide +kernel
theorem dX6_isLike_109 : decode cX6_isLike 109 = .ok (.ireturn, 1) := by decide +kernel
set_option maxRecDepth 20000 in
theorem ggX6_kindOf_X6_isBulge : GoodIn wsX6_kindOf wsX6_isBulge := goodIn_r _ [5, 6, 21, 22, 23, 24, 25, 26, 27, 28, 29, 30, 31, 32, 33, 34, 35, 36, 37, 38, 39, 40, 41, 42, 43] (by decide +kernel) (by decide +kernel)
set_option maxRecDepth 20000 in
theorem gX6_kindOf_X6_isBulge : GoodIn wsX6_kindOf (wsV RX6 135 RX6 yX6_isBulge wsX6_isBulge) := goodIn_app (goodIn_of _ (by decide +kernel)) ggX6_kindOf_X6_isBulge
set_option maxRecDepth 20000 in
theorem ggX6_kindOf_X6_sides : GoodIn wsX6_kindOf wsX6_sides := goodIn_r _ [10, 11, 12, 13, 14, 15, 4, 16, 21, 22, 23, 24, 25, 26, 27, 28, 29, 30, 31, 32, 33, 34, 35, 36, 37, 38, 39, 40, 41, 42, 43] (by decide +kernel) (by decide +kernel)
set_option maxRecDepth 20000 in
theorem gX6_kindOf_X6_sides : GoodIn wsX6_kindOf (wsV RX6 67 RX6 yX6_sides wsX6_sides) := goodIn_app (goodIn_of _ (by decide +kernel)) ggX6_kindOf_X6_sides
set_option maxRecDepth 20000 in
theorem ggX6_kindOf_X6_isLike : GoodIn wsX6_kindOf wsX6_isLike := goodIn_r _ [20, 6, 21, 22, 23, 24, 25, 26, 27, 28, 29, 30, 31, 32, 33, 34, 35, 36, 37, 38, 39, 40, 41, 42, 43] (by decide +kernel) (by decide +kernel)
set_option maxRecDepth 20000 in
theorem gX6_kindOf_X6_isLike : GoodIn wsX6_kindOf (wsV RX6 138 RX6 yX6_isLike wsX6_isLike) := goodIn_app (goodIn_of _ (by decide +kernel)) ggX6_kindOf_X6_isLike
theorem dX6_kindOf_0 : decode cX6_kindOf 0 = .ok (.aload_n 0, 1) := by decide +kernel
theorem dX6_kindOf_1 : decode cX6_kindOf 1 = .ok (.iload_n 1, 1) := by decide +kernel
theorem dX6_kindOf_2 : decode cX6_kindOf 2 = .ok (.invokevirtual 135, 3) := by decide +kernel
theorem dX6_kindOf_5 : decode cX6_kindOf 5 = .ok (.ifCond .ne 5, 3) := by decide +kernel
theorem dX6_kindOf_8 : decode cX6_kindOf 8 = .ok (.iconst 0, 1) := by decide +kernel
theorem dX6_kindOf_9 : decode cX6_kindOf 9 = .ok (.ireturn, 1) := by decide +kernel
theorem dX6_kindOf_10 : decode cX6_kindOf 10 = .ok (.iconst 0, 1) := by decide +kernel
theorem dX6_kindOf_11 : decode cX6_kindOf 11 = .ok (.istore_n 2, 1) := by decide +kernel
theorem dX6_kindOf_12 : decode cX6_kindOf 12 = .ok (.iload_n 2, 1) := by decide +kernel
theorem dX6_kindOf_13 : decode cX6_kindOf 13 = .ok (.aload_n 0, 1) := by decide +kernel
theorem dX6_kindOf_14 : decode cX6_kindOf 14 = .ok (.invokevirtual 67, 3) := by decide +kernel
theorem dX6_kindOf_17 : decode cX6_kindOf 17 = .ok (.if_icmp .ge 25, 3) := by decide +kernel
theorem dX6_kindOf_20 : decode cX6_kindOf 20 = .ok (.iload_n 2, 1) := by decide +kernel
theorem dX6_kindOf_21 : decode cX6_kindOf 21 = .ok (.iload_n 1, 1) := by decide +kernel
theorem dX6_kindOf_22 : decode cX6_kindOf 22 = .ok (.if_icmp .eq 14, 3) := by decide +kernel
theorem dX6_kindOf_25 : decode cX6_kindOf 25 = .ok (.aload_n 0, 1) := by decide +kernel
theorem dX6_kindOf_26 : decode cX6_kindOf 26 = .ok (.iload_n 1, 1) := by decide +kernel
theorem dX6_kindOf_27 : decode cX6_kindOf 27 = .ok (.iload_n 2, 1) := by decide +kernel
theorem dX6_kindOf_28 : decode cX6_kindOf 28 = .ok (.invokevirtual 138, 3) := by decide +kernel
theorem dX6_kindOf_31 : decode cX6_kindOf 31 = .ok (.ifCond .eq 5, 3) := by decide +kernel
theorem dX6_kindOf_34 : decode cX6_kindOf 34 = .ok (.iconst 2, 1) := by decide +kernel
theorem dX6_kindOf_35 : decode cX6_kindOf 35 = .ok (.ireturn, 1) := by decide +kernel
theorem dX6_kindOf_36 : decode cX6_kindOf 36 = .ok (.iinc 2 1, 3) := by decide +kernel
theorem dX6_kindOf_39 : decode cX6_kindOf 39 = .ok (.goto (-27), 3) := by decide +kernel
theorem dX6_kindOf_42 : decode cX6_kindOf 42 = .ok (.iconst 1, 1) := by decide +kernel
theorem dX6_kindOf_43 : decode cX6_kindOf 43 = .ok (.ireturn, 1) := by decide +kernel
set_option maxRecDepth 20000 in
theorem ggX6_kind_X6_noSide : GoodIn wsX6_kind wsX6_noSide := goodIn_r _ [5, 6, 7, 8, 4, 9, 10, 11, 12, 13, 14, 15, 16, 17, 18, 32, 33, 34, 35, 36, 37, 38, 39, 40, 41, 42, 43, 44, 45, 46, 47, 48, 49, 50, 51, 52, 53, 54] (by decide +kernel) (by decide +kernel)
set_option maxRecDepth 20000 in
theorem gX6_kind_X6_noSide : GoodIn wsX6_kind (wsV RX6 105 RX6 yX6_noSide wsX6_noSide) := goodIn_app (goodIn_of _ (by decide +kernel)) ggX6_kind_X6_noSide
set_option maxRecDepth 20000 in
theorem ggX6_kind_X6_kindOf : GoodIn wsX6_kind wsX6_kindOf := goodIn_r _ [22, 23, 24, 25, 4, 26, 27, 6, 7, 8, 9, 10, 11, 12, 13, 14, 15, 28, 29, 30, 31, 32, 33, 34, 35, 36, 37, 38, 39, 40, 41, 42, 43, 44, 45, 46, 47, 48, 49, 50, 51, 52, 53, 54] (by decide +kernel) (by decide +kernel)
set_option maxRecDepth 20000 in
theorem gX6_kind_X6_kindOf : GoodIn wsX6_kind (wsV RX6 142 RX6 yX6_kindOf wsX6_kindOf) := goodIn_app (goodIn_of _ (by decide +kernel)) ggX6_kind_X6_kindOf
theorem dX6_kind_0 : decode cX6_kind 0 = .ok (.aload_n 0, 1) := by decide +kernel
theorem dX6_kind_1 : decode cX6_kind 1 = .ok (.iload_n 1, 1) := by decide +kernel
theorem dX6_kind_2 : decode cX6_kind 2 = .ok (.invokevirtual 105, 3) := by decide +kernel
theorem dX6_kind_5 : decode cX6_kind 5 = .ok (.ifCond .eq 7, 3) := by decide +kernel
theorem dX6_kind_8 : decode cX6_kind 8 = .ok (.iconst (-1), 1) := by decide +kernel
theorem dX6_kind_9 : decode cX6_kind 9 = .ok (.goto 8, 3) := by decide +kernel
theorem dX6_kind_12 : decode cX6_kind 12 = .ok (.aload_n 0, 1) := by decide +kernel
theorem dX6_kind_13 : decode cX6_kind 13 = .ok (.iload_n 1, 1) := by decide +kernel
theorem dX6_kind_14 : decode cX6_kind 14 = .ok (.invokevirtual 142, 3) := by decide +kernel
theorem dX6_kind_17 : decode cX6_kind 17 = .ok (.ireturn, 1) := by decide +kernel
set_option maxRecDepth 20000 in
theorem ggX6_goThrough_X6_pieces : GoodIn wsX6_goThrough wsX6_pieces := goodIn_r _ [7, 8, 9, 30, 31, 32, 33, 34, 35, 36, 37, 38, 39, 40, 41, 42, 43, 44, 45, 46, 47, 48, 49, 50, 51, 52] (by decide +kernel) (by decide +kernel)
set_option maxRecDepth 20000 in
theorem gX6_goThrough_X6_pieces : GoodIn wsX6_goThrough (wsV RX6 74 RX6 yX6_pieces wsX6_pieces) := goodIn_app (goodIn_of _ (by decide +kernel)) ggX6_goThrough_X6_pieces
set_option maxRecDepth 20000 in
theorem ggX6_goThrough_X6_sideAt : GoodIn wsX6_goThrough wsX6_sideAt := goodIn_r _ [13, 8, 9, 14, 15, 16, 6, 17, 30, 31, 32, 33, 34, 35, 36, 37, 38, 39, 40, 41, 42, 43, 44, 45, 46, 47, 48, 49, 50, 51, 52] (by decide +kernel) (by decide +kernel)
set_option maxRecDepth 20000 in
theorem gX6_goThrough_X6_sideAt : GoodIn wsX6_goThrough (wsV RX6 120 RX6 yX6_sideAt wsX6_sideAt) := goodIn_app (goodIn_of _ (by decide +kernel)) ggX6_goThrough_X6_sideAt
set_option maxRecDepth 20000 in
theorem ggX6_goThrough_X6_farOf : GoodIn wsX6_goThrough wsX6_farOf := goodIn_r _ [21, 22, 23, 24, 6, 25, 26, 10, 11, 12, 13, 8, 9, 14, 15, 16, 17, 27, 28, 29, 30, 31, 32, 33, 34, 35, 36, 37, 38, 39, 40, 41, 42, 43, 44, 45, 46, 47, 48, 49, 50, 51, 52] (by decide +kernel) (by decide +kernel)
set_option maxRecDepth 20000 in
theorem gX6_goThrough_X6_farOf : GoodIn wsX6_goThrough (wsV RX6 131 RX6 yX6_farOf wsX6_farOf) := goodIn_app (goodIn_of _ (by decide +kernel)) ggX6_goThrough_X6_farOf
theorem dX6_goThrough_0 : decode cX6_goThrough 0 = .ok (.aload_n 0, 1) := by decide +kernel
theorem dX6_goThrough_1 : decode cX6_goThrough 1 = .ok (.iconst (-1), 1) := by decide +kernel
theorem dX6_goThrough_2 : decode cX6_goThrough 2 = .ok (.putfield 145, 3) := by decide +kernel
theorem dX6_goThrough_5 : decode cX6_goThrough 5 = .ok (.aload_n 0, 1) := by decide +kernel
theorem dX6_goThrough_6 : decode cX6_goThrough 6 = .ok (.iconst 0, 1) := by decide +kernel
theorem dX6_goThrough_7 : decode cX6_goThrough 7 = .ok (.putfield 148, 3) := by decide +kernel
theorem dX6_goThrough_10 : decode cX6_goThrough 10 = .ok (.iconst 0, 1) := by decide +kernel
theorem dX6_goThrough_11 : decode cX6_goThrough 11 = .ok (.istore_n 2, 1) := by decide +kernel
theorem dX6_goThrough_12 : decode cX6_goThrough 12 = .ok (.iload_n 2, 1) := by decide +kernel
theorem dX6_goThrough_13 : decode cX6_goThrough 13 = .ok (.iconst 4, 1) := by decide +kernel
theorem dX6_goThrough_14 : decode cX6_goThrough 14 = .ok (.aload_n 0, 1) := by decide +kernel
theorem dX6_goThrough_15 : decode cX6_goThrough 15 = .ok (.invokevirtual 74, 3) := by decide +kernel
theorem dX6_goThrough_18 : decode cX6_goThrough 18 = .ok (.imul, 1) := by decide +kernel
theorem dX6_goThrough_19 : decode cX6_goThrough 19 = .ok (.if_icmp .ge 139, 3) := by decide +kernel
theorem dX6_goThrough_22 : decode cX6_goThrough 22 = .ok (.iconst 0, 1) := by decide +kernel
theorem dX6_goThrough_23 : decode cX6_goThrough 23 = .ok (.istore_n 3, 1) := by decide +kernel
theorem dX6_goThrough_24 : decode cX6_goThrough 24 = .ok (.iload_n 3, 1) := by decide +kernel
theorem dX6_goThrough_25 : decode cX6_goThrough 25 = .ok (.iload_n 2, 1) := by decide +kernel
theorem dX6_goThrough_26 : decode cX6_goThrough 26 = .ok (.if_icmp .ge 126, 3) := by decide +kernel
theorem dX6_goThrough_29 : decode cX6_goThrough 29 = .ok (.aload_n 0, 1) := by decide +kernel
theorem dX6_goThrough_30 : decode cX6_goThrough 30 = .ok (.iload_n 2, 1) := by decide +kernel
theorem dX6_goThrough_31 : decode cX6_goThrough 31 = .ok (.iconst 4, 1) := by decide +kernel
theorem dX6_goThrough_32 : decode cX6_goThrough 32 = .ok (.idiv, 1) := by decide +kernel
theorem dX6_goThrough_33 : decode cX6_goThrough 33 = .ok (.iload_n 2, 1) := by decide +kernel
theorem dX6_goThrough_34 : decode cX6_goThrough 34 = .ok (.iconst 4, 1) := by decide +kernel
theorem dX6_goThrough_35 : decode cX6_goThrough 35 = .ok (.irem, 1) := by decide +kernel
theorem dX6_goThrough_36 : decode cX6_goThrough 36 = .ok (.invokevirtual 120, 3) := by decide +kernel
theorem dX6_goThrough_39 : decode cX6_goThrough 39 = .ok (.istore 4, 2) := by decide +kernel
theorem dX6_goThrough_41 : decode cX6_goThrough 41 = .ok (.aload_n 0, 1) := by decide +kernel
theorem dX6_goThrough_42 : decode cX6_goThrough 42 = .ok (.iload_n 3, 1) := by decide +kernel
theorem dX6_goThrough_43 : decode cX6_goThrough 43 = .ok (.iconst 4, 1) := by decide +kernel
theorem dX6_goThrough_44 : decode cX6_goThrough 44 = .ok (.idiv, 1) := by decide +kernel
theorem dX6_goThrough_45 : decode cX6_goThrough 45 = .ok (.iload_n 3, 1) := by decide +kernel
theorem dX6_goThrough_46 : decode cX6_goThrough 46 = .ok (.iconst 4, 1) := by decide +kernel
theorem dX6_goThrough_47 : decode cX6_goThrough 47 = .ok (.irem, 1) := by decide +kernel
theorem dX6_goThrough_48 : decode cX6_goThrough 48 = .ok (.invokevirtual 120, 3) := by decide +kernel
theorem dX6_goThrough_51 : decode cX6_goThrough 51 = .ok (.istore 5, 2) := by decide +kernel
theorem dX6_goThrough_53 : decode cX6_goThrough 53 = .ok (.iload_n 2, 1) := by decide +kernel
theorem dX6_goThrough_54 : decode cX6_goThrough 54 = .ok (.iconst 4, 1) := by decide +kernel
theorem dX6_goThrough_55 : decode cX6_goThrough 55 = .ok (.idiv, 1) := by decide +kernel
theorem dX6_goThrough_56 : decode cX6_goThrough 56 = .ok (.iload_n 3, 1) := by decide +kernel
theorem dX6_goThrough_57 : decode cX6_goThrough 57 = .ok (.iconst 4, 1) := by decide +kernel
theorem dX6_goThrough_58 : decode cX6_goThrough 58 = .ok (.idiv, 1) := by decide +kernel
theorem dX6_goThrough_59 : decode cX6_goThrough 59 = .ok (.if_icmp .eq 87, 3) := by decide +kernel
theorem dX6_goThrough_62 : decode cX6_goThrough 62 = .ok (.iload 4, 2) := by decide +kernel
theorem dX6_goThrough_64 : decode cX6_goThrough 64 = .ok (.ifCond .lt 82, 3) := by decide +kernel
theorem dX6_goThrough_67 : decode cX6_goThrough 67 = .ok (.iload 5, 2) := by decide +kernel
theorem dX6_goThrough_69 : decode cX6_goThrough 69 = .ok (.ifCond .lt 77, 3) := by decide +kernel
theorem dX6_goThrough_72 : decode cX6_goThrough 72 = .ok (.iload 4, 2) := by decide +kernel
theorem dX6_goThrough_74 : decode cX6_goThrough 74 = .ok (.iload 5, 2) := by decide +kernel
theorem dX6_goThrough_76 : decode cX6_goThrough 76 = .ok (.if_icmp .eq 70, 3) := by decide +kernel
theorem dX6_goThrough_79 : decode cX6_goThrough 79 = .ok (.aload_n 0, 1) := by decide +kernel
theorem dX6_goThrough_80 : decode cX6_goThrough 80 = .ok (.iload_n 2, 1) := by decide +kernel
theorem dX6_goThrough_81 : decode cX6_goThrough 81 = .ok (.iconst 4, 1) := by decide +kernel
theorem dX6_goThrough_82 : decode cX6_goThrough 82 = .ok (.idiv, 1) := by decide +kernel
theorem dX6_goThrough_83 : decode cX6_goThrough 83 = .ok (.iload_n 2, 1) := by decide +kernel
theorem dX6_goThrough_84 : decode cX6_goThrough 84 = .ok (.iconst 4, 1) := by decide +kernel
theorem dX6_goThrough_85 : decode cX6_goThrough 85 = .ok (.irem, 1) := by decide +kernel
theorem dX6_goThrough_86 : decode cX6_goThrough 86 = .ok (.iload_n 3, 1) := by decide +kernel
theorem dX6_goThrough_87 : decode cX6_goThrough 87 = .ok (.iconst 4, 1) := by decide +kernel
theorem dX6_goThrough_88 : decode cX6_goThrough 88 = .ok (.idiv, 1) := by decide +kernel
theorem dX6_goThrough_89 : decode cX6_goThrough 89 = .ok (.iload_n 3, 1) := by decide +kernel
theorem dX6_goThrough_90 : decode cX6_goThrough 90 = .ok (.iconst 4, 1) := by decide +kernel
theorem dX6_goThrough_91 : decode cX6_goThrough 91 = .ok (.irem, 1) := by decide +kernel
theorem dX6_goThrough_92 : decode cX6_goThrough 92 = .ok (.invokevirtual 131, 3) := by decide +kernel
theorem dX6_goThrough_95 : decode cX6_goThrough 95 = .ok (.istore 6, 2) := by decide +kernel
theorem dX6_goThrough_97 : decode cX6_goThrough 97 = .ok (.aload_n 0, 1) := by decide +kernel
theorem dX6_goThrough_98 : decode cX6_goThrough 98 = .ok (.aload_n 0, 1) := by decide +kernel
theorem dX6_goThrough_99 : decode cX6_goThrough 99 = .ok (.getfield 145, 3) := by decide +kernel
theorem dX6_goThrough_102 : decode cX6_goThrough 102 = .ok (.ifCond .lt 12, 3) := by decide +kernel
theorem dX6_goThrough_105 : decode cX6_goThrough 105 = .ok (.iload 6, 2) := by decide +kernel
theorem dX6_goThrough_107 : decode cX6_goThrough 107 = .ok (.aload_n 0, 1) := by decide +kernel
theorem dX6_goThrough_108 : decode cX6_goThrough 108 = .ok (.getfield 145, 3) := by decide +kernel
theorem dX6_goThrough_111 : decode cX6_goThrough 111 = .ok (.if_icmp .ge 8, 3) := by decide +kernel
theorem dX6_goThrough_114 : decode cX6_goThrough 114 = .ok (.iload 6, 2) := by decide +kernel
theorem dX6_goThrough_116 : decode cX6_goThrough 116 = .ok (.goto 7, 3) := by decide +kernel
theorem dX6_goThrough_119 : decode cX6_goThrough 119 = .ok (.aload_n 0, 1) := by decide +kernel
theorem dX6_goThrough_120 : decode cX6_goThrough 120 = .ok (.getfield 145, 3) := by decide +kernel
theorem dX6_goThrough_123 : decode cX6_goThrough 123 = .ok (.putfield 145, 3) := by decide +kernel
theorem dX6_goThrough_126 : decode cX6_goThrough 126 = .ok (.aload_n 0, 1) := by decide +kernel
theorem dX6_goThrough_127 : decode cX6_goThrough 127 = .ok (.dup, 1) := by decide +kernel
theorem dX6_goThrough_128 : decode cX6_goThrough 128 = .ok (.getfield 148, 3) := by decide +kernel
theorem dX6_goThrough_131 : decode cX6_goThrough 131 = .ok (.iload 6, 2) := by decide +kernel
theorem dX6_goThrough_133 : decode cX6_goThrough 133 = .ok (.iload_n 1, 1) := by decide +kernel
theorem dX6_goThrough_134 : decode cX6_goThrough 134 = .ok (.if_icmp .gt 7, 3) := by decide +kernel
theorem dX6_goThrough_137 : decode cX6_goThrough 137 = .ok (.iconst 1, 1) := by decide +kernel
theorem dX6_goThrough_138 : decode cX6_goThrough 138 = .ok (.goto 4, 3) := by decide +kernel
theorem dX6_goThrough_141 : decode cX6_goThrough 141 = .ok (.iconst 0, 1) := by decide +kernel
theorem dX6_goThrough_142 : decode cX6_goThrough 142 = .ok (.iadd, 1) := by decide +kernel
theorem dX6_goThrough_143 : decode cX6_goThrough 143 = .ok (.putfield 148, 3) := by decide +kernel
theorem dX6_goThrough_146 : decode cX6_goThrough 146 = .ok (.iinc 3 1, 3) := by decide +kernel
theorem dX6_goThrough_149 : decode cX6_goThrough 149 = .ok (.goto (-125), 3) := by decide +kernel
theorem dX6_goThrough_152 : decode cX6_goThrough 152 = .ok (.iinc 2 1, 3) := by decide +kernel
theorem dX6_goThrough_155 : decode cX6_goThrough 155 = .ok (.goto (-143), 3) := by decide +kernel
theorem dX6_goThrough_158 : decode cX6_goThrough 158 = .ok (.return_, 1) := by decide +kernel
set_option maxRecDepth 20000 in
theorem ggX6_unlike_X6_goThrough : GoodIn wsX6_unlike wsX6_goThrough := goodIn_r _ [6, 1, 7, 8, 9, 10, 5, 11, 12, 13, 14, 15, 16, 17, 18, 19, 20, 21, 22, 23, 24, 25, 26, 27, 28, 29, 30, 31, 32, 33, 34, 35, 36, 37, 38, 39, 40, 41, 42, 43, 44, 45, 46, 47, 48, 49, 50, 51, 52, 53, 54, 55, 56] (by decide +kernel) (by decide +kernel)
set_option maxRecDepth 20000 in
theorem gX6_unlike_X6_goThrough : GoodIn wsX6_unlike (wsV RX6 151 RX6 yX6_goThrough wsX6_goThrough) := goodIn_app (goodIn_of _ (by decide +kernel)) ggX6_unlike_X6_goThrough
theorem dX6_unlike_0 : decode cX6_unlike 0 = .ok (.aload_n 0, 1) := by decide +kernel
theorem dX6_unlike_1 : decode cX6_unlike 1 = .ok (.iconst 0, 1) := by decide +kernel
theorem dX6_unlike_2 : decode cX6_unlike 2 = .ok (.invokevirtual 151, 3) := by decide +kernel
theorem dX6_unlike_5 : decode cX6_unlike 5 = .ok (.aload_n 0, 1) := by decide +kernel
theorem dX6_unlike_6 : decode cX6_unlike 6 = .ok (.getfield 145, 3) := by decide +kernel
theorem dX6_unlike_9 : decode cX6_unlike 9 = .ok (.ifCond .ge 8, 3) := by decide +kernel
theorem dX6_unlike_12 : decode cX6_unlike 12 = .ok (.bipush (-3), 2) := by decide +kernel
theorem dX6_unlike_14 : decode cX6_unlike 14 = .ok (.goto 7, 3) := by decide +kernel
theorem dX6_unlike_17 : decode cX6_unlike 17 = .ok (.aload_n 0, 1) := by decide +kernel
theorem dX6_unlike_18 : decode cX6_unlike 18 = .ok (.getfield 145, 3) := by decide +kernel
theorem dX6_unlike_21 : decode cX6_unlike 21 = .ok (.ireturn, 1) := by decide +kernel
set_option maxRecDepth 20000 in
theorem ggX6_traps_X6_goThrough : GoodIn wsX6_traps wsX6_goThrough := goodIn_r _ [6, 7, 1, 8, 9, 10, 5, 11, 12, 13, 14, 15, 16, 17, 18, 19, 20, 21, 22, 23, 24, 25, 26, 27, 28, 29, 30, 31, 32, 33, 34, 35, 36, 37, 38, 39, 40, 41, 42, 43, 44, 45, 46, 47, 48, 49, 50, 51, 52, 53, 54, 55, 56] (by decide +kernel) (by decide +kernel)
set_option maxRecDepth 20000 in
theorem gX6_traps_X6_goThrough : GoodIn wsX6_traps (wsV RX6 151 RX6 yX6_goThrough wsX6_goThrough) := goodIn_app (goodIn_of _ (by decide +kernel)) ggX6_traps_X6_goThrough
theorem dX6_traps_0 : decode cX6_traps 0 = .ok (.iload_n 1, 1) := by decide +kernel
theorem dX6_traps_1 : decode cX6_traps 1 = .ok (.ifCond .ge 6, 3) := by decide +kernel
theorem dX6_traps_4 : decode cX6_traps 4 = .ok (.bipush (-2), 2) := by decide +kernel
theorem dX6_traps_6 : decode cX6_traps 6 = .ok (.ireturn, 1) := by decide +kernel
theorem dX6_traps_7 : decode cX6_traps 7 = .ok (.aload_n 0, 1) := by decide +kernel
theorem dX6_traps_8 : decode cX6_traps 8 = .ok (.iload_n 1, 1) := by decide +kernel
theorem dX6_traps_9 : decode cX6_traps 9 = .ok (.invokevirtual 151, 3) := by decide +kernel
theorem dX6_traps_12 : decode cX6_traps 12 = .ok (.aload_n 0, 1) := by decide +kernel
theorem dX6_traps_13 : decode cX6_traps 13 = .ok (.getfield 148, 3) := by decide +kernel
theorem dX6_traps_16 : decode cX6_traps 16 = .ok (.ireturn, 1) := by decide +kernel
set_option maxRecDepth 20000 in
theorem ggX6_alike_X6_noSide : GoodIn wsX6_alike wsX6_noSide := goodIn_r _ [6, 7, 8, 9, 5, 10, 11, 12, 13, 14, 15, 16, 17, 18, 19, 25, 26, 27, 28, 29, 30, 31, 32, 33, 34, 35, 36, 37, 38, 39, 40, 41, 42, 43, 44, 45, 46, 47] (by decide +kernel) (by decide +kernel)
set_option maxRecDepth 20000 in
theorem gX6_alike_X6_noSide : GoodIn wsX6_alike (wsV RX6 105 RX6 yX6_noSide wsX6_noSide) := goodIn_app (goodIn_of _ (by decide +kernel)) ggX6_alike_X6_noSide
set_option maxRecDepth 20000 in
theorem ggX6_alike_X6_in : GoodIn wsX6_alike wsX6_in := goodIn_r _ [19] (by decide +kernel) (by decide +kernel)
set_option maxRecDepth 20000 in
theorem gX6_alike_X6_in : GoodIn wsX6_alike (va_wsS RX6 70 yX6_in wsX6_in) := goodIn_app (goodIn_of _ (by decide +kernel)) ggX6_alike_X6_in
set_option maxRecDepth 20000 in
theorem ggX6_alike_X6_changed : GoodIn wsX6_alike wsX6_changed := goodIn_r _ [23, 24, 25, 26, 27, 28, 29, 30, 31, 32, 33, 34, 35, 36, 37, 38, 39, 40, 41, 42, 43, 44, 45, 46, 47] (by decide +kernel) (by decide +kernel)
set_option maxRecDepth 20000 in
theorem gX6_alike_X6_changed : GoodIn wsX6_alike (wsV RX6 86 RX6 yX6_changed wsX6_changed) := goodIn_app (goodIn_of _ (by decide +kernel)) ggX6_alike_X6_changed
theorem dX6_alike_0 : decode cX6_alike 0 = .ok (.aload_n 0, 1) := by decide +kernel
theorem dX6_alike_1 : decode cX6_alike 1 = .ok (.iload_n 1, 1) := by decide +kernel
theorem dX6_alike_2 : decode cX6_alike 2 = .ok (.invokevirtual 105, 3) := by decide +kernel
theorem dX6_alike_5 : decode cX6_alike 5 = .ok (.ifCond .ne 11, 3) := by decide +kernel
theorem dX6_alike_8 : decode cX6_alike 8 = .ok (.aload_n 0, 1) := by decide +kernel
theorem dX6_alike_9 : decode cX6_alike 9 = .ok (.iload_n 2, 1) := by decide +kernel
theorem dX6_alike_10 : decode cX6_alike 10 = .ok (.invokevirtual 105, 3) := by decide +kernel
theorem dX6_alike_13 : decode cX6_alike 13 = .ok (.ifCond .eq 5, 3) := by decide +kernel
theorem dX6_alike_16 : decode cX6_alike 16 = .ok (.iconst (-1), 1) := by decide +kernel
theorem dX6_alike_17 : decode cX6_alike 17 = .ok (.ireturn, 1) := by decide +kernel
theorem dX6_alike_18 : decode cX6_alike 18 = .ok (.iload_n 3, 1) := by decide +kernel
theorem dX6_alike_19 : decode cX6_alike 19 = .ok (.i2l, 1) := by decide +kernel
theorem dX6_alike_20 : decode cX6_alike 20 = .ok (.lconst 0, 1) := by decide +kernel
theorem dX6_alike_21 : decode cX6_alike 21 = .ok (.lconst 1, 1) := by decide +kernel
theorem dX6_alike_22 : decode cX6_alike 22 = .ok (.invokestatic 70, 3) := by decide +kernel
theorem dX6_alike_25 : decode cX6_alike 25 = .ok (.ifCond .ne 6, 3) := by decide +kernel
theorem dX6_alike_28 : decode cX6_alike 28 = .ok (.bipush (-2), 2) := by decide +kernel
theorem dX6_alike_30 : decode cX6_alike 30 = .ok (.ireturn, 1) := by decide +kernel
theorem dX6_alike_31 : decode cX6_alike 31 = .ok (.iload_n 1, 1) := by decide +kernel
theorem dX6_alike_32 : decode cX6_alike 32 = .ok (.iload_n 2, 1) := by decide +kernel
theorem dX6_alike_33 : decode cX6_alike 33 = .ok (.if_icmp .ne 6, 3) := by decide +kernel
theorem dX6_alike_36 : decode cX6_alike 36 = .ok (.bipush (-3), 2) := by decide +kernel
theorem dX6_alike_38 : decode cX6_alike 38 = .ok (.ireturn, 1) := by decide +kernel
theorem dX6_alike_39 : decode cX6_alike 39 = .ok (.iconst 0, 1) := by decide +kernel
theorem dX6_alike_40 : decode cX6_alike 40 = .ok (.istore 4, 2) := by decide +kernel
theorem dX6_alike_42 : decode cX6_alike 42 = .ok (.iconst 0, 1) := by decide +kernel
theorem dX6_alike_43 : decode cX6_alike 43 = .ok (.istore 5, 2) := by decide +kernel
theorem dX6_alike_45 : decode cX6_alike 45 = .ok (.iload 5, 2) := by decide +kernel
theorem dX6_alike_47 : decode cX6_alike 47 = .ok (.iconst 5, 1) := by decide +kernel
theorem dX6_alike_48 : decode cX6_alike 48 = .ok (.if_icmp .ge 82, 3) := by decide +kernel
theorem dX6_alike_51 : decode cX6_alike 51 = .ok (.iload_n 3, 1) := by decide +kernel
theorem dX6_alike_52 : decode cX6_alike 52 = .ok (.ifCond .ne 17, 3) := by decide +kernel
theorem dX6_alike_55 : decode cX6_alike 55 = .ok (.aload_n 0, 1) := by decide +kernel
theorem dX6_alike_56 : decode cX6_alike 56 = .ok (.getfield 7, 3) := by decide +kernel
theorem dX6_alike_59 : decode cX6_alike 59 = .ok (.iconst 5, 1) := by decide +kernel
theorem dX6_alike_60 : decode cX6_alike 60 = .ok (.iload_n 2, 1) := by decide +kernel
theorem dX6_alike_61 : decode cX6_alike 61 = .ok (.imul, 1) := by decide +kernel
theorem dX6_alike_62 : decode cX6_alike 62 = .ok (.iload 5, 2) := by decide +kernel
theorem dX6_alike_64 : decode cX6_alike 64 = .ok (.iadd, 1) := by decide +kernel
theorem dX6_alike_65 : decode cX6_alike 65 = .ok (.iaload, 1) := by decide +kernel
theorem dX6_alike_66 : decode cX6_alike 66 = .ok (.goto 17, 3) := by decide +kernel
theorem dX6_alike_69 : decode cX6_alike 69 = .ok (.aload_n 0, 1) := by decide +kernel
theorem dX6_alike_70 : decode cX6_alike 70 = .ok (.getfield 7, 3) := by decide +kernel
theorem dX6_alike_73 : decode cX6_alike 73 = .ok (.iconst 5, 1) := by decide +kernel
theorem dX6_alike_74 : decode cX6_alike 74 = .ok (.iload_n 2, 1) := by decide +kernel
theorem dX6_alike_75 : decode cX6_alike 75 = .ok (.imul, 1) := by decide +kernel
theorem dX6_alike_76 : decode cX6_alike 76 = .ok (.iconst 4, 1) := by decide +kernel
theorem dX6_alike_77 : decode cX6_alike 77 = .ok (.iadd, 1) := by decide +kernel
theorem dX6_alike_78 : decode cX6_alike 78 = .ok (.iload 5, 2) := by decide +kernel
theorem dX6_alike_80 : decode cX6_alike 80 = .ok (.isub, 1) := by decide +kernel
theorem dX6_alike_81 : decode cX6_alike 81 = .ok (.iaload, 1) := by decide +kernel
theorem dX6_alike_82 : decode cX6_alike 82 = .ok (.ineg, 1) := by decide +kernel
theorem dX6_alike_83 : decode cX6_alike 83 = .ok (.istore 6, 2) := by decide +kernel
theorem dX6_alike_85 : decode cX6_alike 85 = .ok (.iload 4, 2) := by decide +kernel
theorem dX6_alike_87 : decode cX6_alike 87 = .ok (.aload_n 0, 1) := by decide +kernel
theorem dX6_alike_88 : decode cX6_alike 88 = .ok (.getfield 7, 3) := by decide +kernel
theorem dX6_alike_91 : decode cX6_alike 91 = .ok (.iconst 5, 1) := by decide +kernel
theorem dX6_alike_92 : decode cX6_alike 92 = .ok (.iload_n 1, 1) := by decide +kernel
theorem dX6_alike_93 : decode cX6_alike 93 = .ok (.imul, 1) := by decide +kernel
theorem dX6_alike_94 : decode cX6_alike 94 = .ok (.iload 5, 2) := by decide +kernel
theorem dX6_alike_96 : decode cX6_alike 96 = .ok (.iadd, 1) := by decide +kernel
theorem dX6_alike_97 : decode cX6_alike 97 = .ok (.iaload, 1) := by decide +kernel
theorem dX6_alike_98 : decode cX6_alike 98 = .ok (.iload 6, 2) := by decide +kernel
theorem dX6_alike_100 : decode cX6_alike 100 = .ok (.if_icmp .eq 7, 3) := by decide +kernel
theorem dX6_alike_103 : decode cX6_alike 103 = .ok (.iconst 1, 1) := by decide +kernel
theorem dX6_alike_104 : decode cX6_alike 104 = .ok (.goto 4, 3) := by decide +kernel
theorem dX6_alike_107 : decode cX6_alike 107 = .ok (.iconst 0, 1) := by decide +kernel
theorem dX6_alike_108 : decode cX6_alike 108 = .ok (.iadd, 1) := by decide +kernel
theorem dX6_alike_109 : decode cX6_alike 109 = .ok (.istore 4, 2) := by decide +kernel
theorem dX6_alike_111 : decode cX6_alike 111 = .ok (.aload_n 0, 1) := by decide +kernel
theorem dX6_alike_112 : decode cX6_alike 112 = .ok (.getfield 7, 3) := by decide +kernel
theorem dX6_alike_115 : decode cX6_alike 115 = .ok (.iconst 5, 1) := by decide +kernel
theorem dX6_alike_116 : decode cX6_alike 116 = .ok (.iload_n 1, 1) := by decide +kernel
theorem dX6_alike_117 : decode cX6_alike 117 = .ok (.imul, 1) := by decide +kernel
theorem dX6_alike_118 : decode cX6_alike 118 = .ok (.iload 5, 2) := by decide +kernel
theorem dX6_alike_120 : decode cX6_alike 120 = .ok (.iadd, 1) := by decide +kernel
theorem dX6_alike_121 : decode cX6_alike 121 = .ok (.iload 6, 2) := by decide +kernel
theorem dX6_alike_123 : decode cX6_alike 123 = .ok (.iastore, 1) := by decide +kernel
theorem dX6_alike_124 : decode cX6_alike 124 = .ok (.iinc 5 1, 3) := by decide +kernel
theorem dX6_alike_127 : decode cX6_alike 127 = .ok (.goto (-82), 3) := by decide +kernel
theorem dX6_alike_130 : decode cX6_alike 130 = .ok (.aload_n 0, 1) := by decide +kernel
theorem dX6_alike_131 : decode cX6_alike 131 = .ok (.invokevirtual 86, 3) := by decide +kernel
theorem dX6_alike_134 : decode cX6_alike 134 = .ok (.iload 4, 2) := by decide +kernel
theorem dX6_alike_136 : decode cX6_alike 136 = .ok (.ireturn, 1) := by decide +kernel
set_option maxRecDepth 20000 in
theorem ggX6_lay_X6_noPiece : GoodIn wsX6_lay wsX6_noPiece := goodIn_r _ [9, 10, 11, 12, 8, 13, 14, 15, 16, 17, 18, 24, 25, 26, 27, 28, 29, 30, 31, 32, 33, 34, 35, 36, 37, 38, 39, 40, 41, 42, 43, 44, 45, 46] (by decide +kernel) (by decide +kernel)
set_option maxRecDepth 20000 in
theorem gX6_lay_X6_noPiece : GoodIn wsX6_lay (wsV RX6 115 RX6 yX6_noPiece wsX6_noPiece) := goodIn_app (goodIn_of _ (by decide +kernel)) ggX6_lay_X6_noPiece
set_option maxRecDepth 20000 in
theorem ggX6_lay_X6_in : GoodIn wsX6_lay wsX6_in := goodIn_r _ [18] (by decide +kernel) (by decide +kernel)
set_option maxRecDepth 20000 in
theorem gX6_lay_X6_in : GoodIn wsX6_lay (va_wsS RX6 70 yX6_in wsX6_in) := goodIn_app (goodIn_of _ (by decide +kernel)) ggX6_lay_X6_in
set_option maxRecDepth 20000 in
theorem ggX6_lay_X6_changed : GoodIn wsX6_lay wsX6_changed := goodIn_r _ [22, 23, 24, 25, 26, 27, 28, 29, 30, 31, 32, 33, 34, 35, 36, 37, 38, 39, 40, 41, 42, 43, 44, 45, 46] (by decide +kernel) (by decide +kernel)
set_option maxRecDepth 20000 in
theorem gX6_lay_X6_changed : GoodIn wsX6_lay (wsV RX6 86 RX6 yX6_changed wsX6_changed) := goodIn_app (goodIn_of _ (by decide +kernel)) ggX6_lay_X6_changed
theorem dX6_lay_0 : decode cX6_lay 0 = .ok (.aload_n 0, 1) := by decide +kernel
theorem dX6_lay_1 : decode cX6_lay 1 = .ok (.iload_n 1, 1) := by decide +kernel
theorem dX6_lay_2 : decode cX6_lay 2 = .ok (.invokevirtual 115, 3) := by decide +kernel
theorem dX6_lay_5 : decode cX6_lay 5 = .ok (.ifCond .eq 5, 3) := by decide +kernel
theorem dX6_lay_8 : decode cX6_lay 8 = .ok (.iconst (-1), 1) := by decide +kernel
theorem dX6_lay_9 : decode cX6_lay 9 = .ok (.ireturn, 1) := by decide +kernel
theorem dX6_lay_10 : decode cX6_lay 10 = .ok (.iload_n 2, 1) := by decide +kernel
theorem dX6_lay_11 : decode cX6_lay 11 = .ok (.i2l, 1) := by decide +kernel
theorem dX6_lay_12 : decode cX6_lay 12 = .ok (.lconst 0, 1) := by decide +kernel
theorem dX6_lay_13 : decode cX6_lay 13 = .ok (.ldc2_w 118, 3) := by decide +kernel
theorem dX6_lay_16 : decode cX6_lay 16 = .ok (.invokestatic 70, 3) := by decide +kernel
theorem dX6_lay_19 : decode cX6_lay 19 = .ok (.ifCond .ne 6, 3) := by decide +kernel
theorem dX6_lay_22 : decode cX6_lay 22 = .ok (.bipush (-2), 2) := by decide +kernel
theorem dX6_lay_24 : decode cX6_lay 24 = .ok (.ireturn, 1) := by decide +kernel
theorem dX6_lay_25 : decode cX6_lay 25 = .ok (.aload_n 0, 1) := by decide +kernel
theorem dX6_lay_26 : decode cX6_lay 26 = .ok (.getfield 83, 3) := by decide +kernel
theorem dX6_lay_29 : decode cX6_lay 29 = .ok (.bipush 25, 2) := by decide +kernel
theorem dX6_lay_31 : decode cX6_lay 31 = .ok (.if_icmp .ne 6, 3) := by decide +kernel
theorem dX6_lay_34 : decode cX6_lay 34 = .ok (.bipush (-4), 2) := by decide +kernel
theorem dX6_lay_36 : decode cX6_lay 36 = .ok (.ireturn, 1) := by decide +kernel
theorem dX6_lay_37 : decode cX6_lay 37 = .ok (.aload_n 0, 1) := by decide +kernel
theorem dX6_lay_38 : decode cX6_lay 38 = .ok (.getfield 13, 3) := by decide +kernel
theorem dX6_lay_41 : decode cX6_lay 41 = .ok (.aload_n 0, 1) := by decide +kernel
theorem dX6_lay_42 : decode cX6_lay 42 = .ok (.getfield 83, 3) := by decide +kernel
theorem dX6_lay_45 : decode cX6_lay 45 = .ok (.iload_n 1, 1) := by decide +kernel
theorem dX6_lay_46 : decode cX6_lay 46 = .ok (.iastore, 1) := by decide +kernel
theorem dX6_lay_47 : decode cX6_lay 47 = .ok (.aload_n 0, 1) := by decide +kernel
theorem dX6_lay_48 : decode cX6_lay 48 = .ok (.getfield 16, 3) := by decide +kernel
theorem dX6_lay_51 : decode cX6_lay 51 = .ok (.aload_n 0, 1) := by decide +kernel
theorem dX6_lay_52 : decode cX6_lay 52 = .ok (.getfield 83, 3) := by decide +kernel
theorem dX6_lay_55 : decode cX6_lay 55 = .ok (.iload_n 2, 1) := by decide +kernel
theorem dX6_lay_56 : decode cX6_lay 56 = .ok (.iastore, 1) := by decide +kernel
theorem dX6_lay_57 : decode cX6_lay 57 = .ok (.aload_n 0, 1) := by decide +kernel
theorem dX6_lay_58 : decode cX6_lay 58 = .ok (.dup, 1) := by decide +kernel
theorem dX6_lay_59 : decode cX6_lay 59 = .ok (.getfield 83, 3) := by decide +kernel
theorem dX6_lay_62 : decode cX6_lay 62 = .ok (.iconst 1, 1) := by decide +kernel
theorem dX6_lay_63 : decode cX6_lay 63 = .ok (.iadd, 1) := by decide +kernel
theorem dX6_lay_64 : decode cX6_lay 64 = .ok (.putfield 83, 3) := by decide +kernel
theorem dX6_lay_67 : decode cX6_lay 67 = .ok (.aload_n 0, 1) := by decide +kernel
theorem dX6_lay_68 : decode cX6_lay 68 = .ok (.invokevirtual 86, 3) := by decide +kernel
theorem dX6_lay_71 : decode cX6_lay 71 = .ok (.aload_n 0, 1) := by decide +kernel
theorem dX6_lay_72 : decode cX6_lay 72 = .ok (.getfield 83, 3) := by decide +kernel
theorem dX6_lay_75 : decode cX6_lay 75 = .ok (.ireturn, 1) := by decide +kernel
set_option maxRecDepth 20000 in
theorem ggX6_heap_X6_pieces : GoodIn wsX6_heap wsX6_pieces := goodIn_r _ [9, 10, 11, 25, 26, 27, 28, 29, 30, 31, 32, 33, 34, 35, 36, 37, 38, 39, 40, 41, 42, 43, 44, 45, 46, 47] (by decide +kernel) (by decide +kernel)
set_option maxRecDepth 20000 in
theorem gX6_heap_X6_pieces : GoodIn wsX6_heap (wsV RX6 74 RX6 yX6_pieces wsX6_pieces) := goodIn_app (goodIn_of _ (by decide +kernel)) ggX6_heap_X6_pieces
set_option maxRecDepth 20000 in
theorem ggX6_heap_X6_numberBelow : GoodIn wsX6_heap wsX6_numberBelow := goodIn_r _ [15, 1, 16, 17, 18, 19, 25, 26, 27, 28, 29, 30, 31, 32, 33, 34, 35, 36, 37, 38, 39, 40, 41, 42, 43, 44, 45, 46, 47] (by decide +kernel) (by decide +kernel)
set_option maxRecDepth 20000 in
theorem gX6_heap_X6_numberBelow : GoodIn wsX6_heap (wsV RX6 101 RX6 yX6_numberBelow wsX6_numberBelow) := goodIn_app (goodIn_of _ (by decide +kernel)) ggX6_heap_X6_numberBelow
set_option maxRecDepth 20000 in
theorem ggX6_heap_X6_changed : GoodIn wsX6_heap wsX6_changed := goodIn_r _ [23, 24, 25, 26, 27, 28, 29, 30, 31, 32, 33, 34, 35, 36, 37, 38, 39, 40, 41, 42, 43, 44, 45, 46, 47] (by decide +kernel) (by decide +kernel)
set_option maxRecDepth 20000 in
theorem gX6_heap_X6_changed : GoodIn wsX6_heap (wsV RX6 86 RX6 yX6_changed wsX6_changed) := goodIn_app (goodIn_of _ (by decide +kernel)) ggX6_heap_X6_changed
theorem dX6_heap_0 : decode cX6_heap 0 = .ok (.aload_n 0, 1) := by decide +kernel
theorem dX6_heap_1 : decode cX6_heap 1 = .ok (.lload_n 1, 1) := by decide +kernel
theorem dX6_heap_2 : decode cX6_heap 2 = .ok (.putfield 89, 3) := by decide +kernel
theorem dX6_heap_5 : decode cX6_heap 5 = .ok (.aload_n 0, 1) := by decide +kernel
theorem dX6_heap_6 : decode cX6_heap 6 = .ok (.aload_n 0, 1) := by decide +kernel
theorem dX6_heap_7 : decode cX6_heap 7 = .ok (.invokevirtual 74, 3) := by decide +kernel
theorem dX6_heap_10 : decode cX6_heap 10 = .ok (.putfield 83, 3) := by decide +kernel
theorem dX6_heap_13 : decode cX6_heap 13 = .ok (.iconst 0, 1) := by decide +kernel
theorem dX6_heap_14 : decode cX6_heap 14 = .ok (.istore_n 3, 1) := by decide +kernel
theorem dX6_heap_15 : decode cX6_heap 15 = .ok (.iload_n 3, 1) := by decide +kernel
theorem dX6_heap_16 : decode cX6_heap 16 = .ok (.aload_n 0, 1) := by decide +kernel
theorem dX6_heap_17 : decode cX6_heap 17 = .ok (.getfield 83, 3) := by decide +kernel
theorem dX6_heap_20 : decode cX6_heap 20 = .ok (.if_icmp .ge 16, 3) := by decide +kernel
theorem dX6_heap_23 : decode cX6_heap 23 = .ok (.aload_n 0, 1) := by decide +kernel
theorem dX6_heap_24 : decode cX6_heap 24 = .ok (.getfield 13, 3) := by decide +kernel
theorem dX6_heap_27 : decode cX6_heap 27 = .ok (.iload_n 3, 1) := by decide +kernel
theorem dX6_heap_28 : decode cX6_heap 28 = .ok (.iload_n 3, 1) := by decide +kernel
theorem dX6_heap_29 : decode cX6_heap 29 = .ok (.iastore, 1) := by decide +kernel
theorem dX6_heap_30 : decode cX6_heap 30 = .ok (.iinc 3 1, 3) := by decide +kernel
theorem dX6_heap_33 : decode cX6_heap 33 = .ok (.goto (-18), 3) := by decide +kernel
theorem dX6_heap_36 : decode cX6_heap 36 = .ok (.aload_n 0, 1) := by decide +kernel
theorem dX6_heap_37 : decode cX6_heap 37 = .ok (.getfield 83, 3) := by decide +kernel
theorem dX6_heap_40 : decode cX6_heap 40 = .ok (.iconst 1, 1) := by decide +kernel
theorem dX6_heap_41 : decode cX6_heap 41 = .ok (.isub, 1) := by decide +kernel
theorem dX6_heap_42 : decode cX6_heap 42 = .ok (.istore_n 3, 1) := by decide +kernel
theorem dX6_heap_43 : decode cX6_heap 43 = .ok (.iload_n 3, 1) := by decide +kernel
theorem dX6_heap_44 : decode cX6_heap 44 = .ok (.ifCond .le 48, 3) := by decide +kernel
theorem dX6_heap_47 : decode cX6_heap 47 = .ok (.aload_n 0, 1) := by decide +kernel
theorem dX6_heap_48 : decode cX6_heap 48 = .ok (.iload_n 3, 1) := by decide +kernel
theorem dX6_heap_49 : decode cX6_heap 49 = .ok (.iconst 1, 1) := by decide +kernel
theorem dX6_heap_50 : decode cX6_heap 50 = .ok (.iadd, 1) := by decide +kernel
theorem dX6_heap_51 : decode cX6_heap 51 = .ok (.invokevirtual 101, 3) := by decide +kernel
theorem dX6_heap_54 : decode cX6_heap 54 = .ok (.istore 4, 2) := by decide +kernel
theorem dX6_heap_56 : decode cX6_heap 56 = .ok (.aload_n 0, 1) := by decide +kernel
theorem dX6_heap_57 : decode cX6_heap 57 = .ok (.getfield 13, 3) := by decide +kernel
theorem dX6_heap_60 : decode cX6_heap 60 = .ok (.iload_n 3, 1) := by decide +kernel
theorem dX6_heap_61 : decode cX6_heap 61 = .ok (.iaload, 1) := by decide +kernel
theorem dX6_heap_62 : decode cX6_heap 62 = .ok (.istore 5, 2) := by decide +kernel
theorem dX6_heap_64 : decode cX6_heap 64 = .ok (.aload_n 0, 1) := by decide +kernel
theorem dX6_heap_65 : decode cX6_heap 65 = .ok (.getfield 13, 3) := by decide +kernel
theorem dX6_heap_68 : decode cX6_heap 68 = .ok (.iload_n 3, 1) := by decide +kernel
theorem dX6_heap_69 : decode cX6_heap 69 = .ok (.aload_n 0, 1) := by decide +kernel
theorem dX6_heap_70 : decode cX6_heap 70 = .ok (.getfield 13, 3) := by decide +kernel
theorem dX6_heap_73 : decode cX6_heap 73 = .ok (.iload 4, 2) := by decide +kernel
theorem dX6_heap_75 : decode cX6_heap 75 = .ok (.iaload, 1) := by decide +kernel
theorem dX6_heap_76 : decode cX6_heap 76 = .ok (.iastore, 1) := by decide +kernel
theorem dX6_heap_77 : decode cX6_heap 77 = .ok (.aload_n 0, 1) := by decide +kernel
theorem dX6_heap_78 : decode cX6_heap 78 = .ok (.getfield 13, 3) := by decide +kernel
theorem dX6_heap_81 : decode cX6_heap 81 = .ok (.iload 4, 2) := by decide +kernel
theorem dX6_heap_83 : decode cX6_heap 83 = .ok (.iload 5, 2) := by decide +kernel
theorem dX6_heap_85 : decode cX6_heap 85 = .ok (.iastore, 1) := by decide +kernel
theorem dX6_heap_86 : decode cX6_heap 86 = .ok (.iinc 3 (-1), 3) := by decide +kernel
theorem dX6_heap_89 : decode cX6_heap 89 = .ok (.goto (-46), 3) := by decide +kernel
theorem dX6_heap_92 : decode cX6_heap 92 = .ok (.iconst 0, 1) := by decide +kernel
theorem dX6_heap_93 : decode cX6_heap 93 = .ok (.istore_n 3, 1) := by decide +kernel
theorem dX6_heap_94 : decode cX6_heap 94 = .ok (.iload_n 3, 1) := by decide +kernel
theorem dX6_heap_95 : decode cX6_heap 95 = .ok (.aload_n 0, 1) := by decide +kernel
theorem dX6_heap_96 : decode cX6_heap 96 = .ok (.getfield 83, 3) := by decide +kernel
theorem dX6_heap_99 : decode cX6_heap 99 = .ok (.if_icmp .ge 20, 3) := by decide +kernel
theorem dX6_heap_102 : decode cX6_heap 102 = .ok (.aload_n 0, 1) := by decide +kernel
theorem dX6_heap_103 : decode cX6_heap 103 = .ok (.getfield 16, 3) := by decide +kernel
theorem dX6_heap_106 : decode cX6_heap 106 = .ok (.iload_n 3, 1) := by decide +kernel
theorem dX6_heap_107 : decode cX6_heap 107 = .ok (.aload_n 0, 1) := by decide +kernel
theorem dX6_heap_108 : decode cX6_heap 108 = .ok (.iconst 4, 1) := by decide +kernel
theorem dX6_heap_109 : decode cX6_heap 109 = .ok (.invokevirtual 101, 3) := by decide +kernel
theorem dX6_heap_112 : decode cX6_heap 112 = .ok (.iastore, 1) := by decide +kernel
theorem dX6_heap_113 : decode cX6_heap 113 = .ok (.iinc 3 1, 3) := by decide +kernel
theorem dX6_heap_116 : decode cX6_heap 116 = .ok (.goto (-22), 3) := by decide +kernel
theorem dX6_heap_119 : decode cX6_heap 119 = .ok (.aload_n 0, 1) := by decide +kernel
theorem dX6_heap_120 : decode cX6_heap 120 = .ok (.invokevirtual 86, 3) := by decide +kernel
theorem dX6_heap_123 : decode cX6_heap 123 = .ok (.aload_n 0, 1) := by decide +kernel
theorem dX6_heap_124 : decode cX6_heap 124 = .ok (.getfield 83, 3) := by decide +kernel
theorem dX6_heap_127 : decode cX6_heap 127 = .ok (.ireturn, 1) := by decide +kernel
set_option maxRecDepth 20000 in
theorem ggX6_noPlace_X6_in : GoodIn wsX6_noPlace wsX6_in := goodIn_r _ [5] (by decide +kernel) (by decide +kernel)
set_option maxRecDepth 20000 in
theorem gX6_noPlace_X6_in : GoodIn wsX6_noPlace (va_wsS RX6 70 yX6_in wsX6_in) := goodIn_app (goodIn_of _ (by decide +kernel)) ggX6_noPlace_X6_in
theorem dX6_noPlace_0 : decode cX6_noPlace 0 = .ok (.iload_n 1, 1) := by decide +kernel
theorem dX6_noPlace_1 : decode cX6_noPlace 1 = .ok (.i2l, 1) := by decide +kernel
theorem dX6_noPlace_2 : decode cX6_noPlace 2 = .ok (.lconst 0, 1) := by decide +kernel
theorem dX6_noPlace_3 : decode cX6_noPlace 3 = .ok (.aload_n 0, 1) := by decide +kernel
theorem dX6_noPlace_4 : decode cX6_noPlace 4 = .ok (.getfield 83, 3) := by decide +kernel
theorem dX6_noPlace_7 : decode cX6_noPlace 7 = .ok (.i2l, 1) := by decide +kernel
theorem dX6_noPlace_8 : decode cX6_noPlace 8 = .ok (.lconst 1, 1) := by decide +kernel
theorem dX6_noPlace_9 : decode cX6_noPlace 9 = .ok (.lsub, 1) := by decide +kernel
theorem dX6_noPlace_10 : decode cX6_noPlace 10 = .ok (.invokestatic 70, 3) := by decide +kernel
theorem dX6_noPlace_13 : decode cX6_noPlace 13 = .ok (.ifCond .ne 7, 3) := by decide +kernel
theorem dX6_noPlace_16 : decode cX6_noPlace 16 = .ok (.iconst 1, 1) := by decide +kernel
theorem dX6_noPlace_17 : decode cX6_noPlace 17 = .ok (.goto 4, 3) := by decide +kernel
theorem dX6_noPlace_20 : decode cX6_noPlace 20 = .ok (.iconst 0, 1) := by decide +kernel
theorem dX6_noPlace_21 : decode cX6_noPlace 21 = .ok (.ireturn, 1) := by decide +kernel
set_option maxRecDepth 20000 in
theorem ggX6_take_X6_noPlace : GoodIn wsX6_take wsX6_noPlace := goodIn_r _ [8, 2, 9, 10, 7, 11, 17, 18, 19, 20, 21, 22, 23, 24, 25, 26, 27, 28, 29, 30, 31, 32, 33, 34, 35, 36, 37, 38, 39] (by decide +kernel) (by decide +kernel)
set_option maxRecDepth 20000 in
theorem gX6_take_X6_noPlace : GoodIn wsX6_take (wsV RX6 155 RX6 yX6_noPlace wsX6_noPlace) := goodIn_app (goodIn_of _ (by decide +kernel)) ggX6_take_X6_noPlace
set_option maxRecDepth 20000 in
theorem ggX6_take_X6_changed : GoodIn wsX6_take wsX6_changed := goodIn_r _ [15, 16, 17, 18, 19, 20, 21, 22, 23, 24, 25, 26, 27, 28, 29, 30, 31, 32, 33, 34, 35, 36, 37, 38, 39] (by decide +kernel) (by decide +kernel)
set_option maxRecDepth 20000 in
theorem gX6_take_X6_changed : GoodIn wsX6_take (wsV RX6 86 RX6 yX6_changed wsX6_changed) := goodIn_app (goodIn_of _ (by decide +kernel)) ggX6_take_X6_changed
theorem dX6_take_0 : decode cX6_take 0 = .ok (.aload_n 0, 1) := by decide +kernel
theorem dX6_take_1 : decode cX6_take 1 = .ok (.iload_n 1, 1) := by decide +kernel
theorem dX6_take_2 : decode cX6_take 2 = .ok (.invokevirtual 155, 3) := by decide +kernel
theorem dX6_take_5 : decode cX6_take 5 = .ok (.ifCond .eq 5, 3) := by decide +kernel
theorem dX6_take_8 : decode cX6_take 8 = .ok (.iconst (-1), 1) := by decide +kernel
theorem dX6_take_9 : decode cX6_take 9 = .ok (.ireturn, 1) := by decide +kernel
theorem dX6_take_10 : decode cX6_take 10 = .ok (.aload_n 0, 1) := by decide +kernel
theorem dX6_take_11 : decode cX6_take 11 = .ok (.getfield 13, 3) := by decide +kernel
theorem dX6_take_14 : decode cX6_take 14 = .ok (.iload_n 1, 1) := by decide +kernel
theorem dX6_take_15 : decode cX6_take 15 = .ok (.iaload, 1) := by decide +kernel
theorem dX6_take_16 : decode cX6_take 16 = .ok (.istore_n 2, 1) := by decide +kernel
theorem dX6_take_17 : decode cX6_take 17 = .ok (.aload_n 0, 1) := by decide +kernel
theorem dX6_take_18 : decode cX6_take 18 = .ok (.dup, 1) := by decide +kernel
theorem dX6_take_19 : decode cX6_take 19 = .ok (.getfield 83, 3) := by decide +kernel
theorem dX6_take_22 : decode cX6_take 22 = .ok (.iconst 1, 1) := by decide +kernel
theorem dX6_take_23 : decode cX6_take 23 = .ok (.isub, 1) := by decide +kernel
theorem dX6_take_24 : decode cX6_take 24 = .ok (.putfield 83, 3) := by decide +kernel
theorem dX6_take_27 : decode cX6_take 27 = .ok (.iload_n 1, 1) := by decide +kernel
theorem dX6_take_28 : decode cX6_take 28 = .ok (.istore_n 3, 1) := by decide +kernel
theorem dX6_take_29 : decode cX6_take 29 = .ok (.iload_n 3, 1) := by decide +kernel
theorem dX6_take_30 : decode cX6_take 30 = .ok (.aload_n 0, 1) := by decide +kernel
theorem dX6_take_31 : decode cX6_take 31 = .ok (.getfield 83, 3) := by decide +kernel
theorem dX6_take_34 : decode cX6_take 34 = .ok (.if_icmp .ge 37, 3) := by decide +kernel
theorem dX6_take_37 : decode cX6_take 37 = .ok (.aload_n 0, 1) := by decide +kernel
theorem dX6_take_38 : decode cX6_take 38 = .ok (.getfield 13, 3) := by decide +kernel
theorem dX6_take_41 : decode cX6_take 41 = .ok (.iload_n 3, 1) := by decide +kernel
theorem dX6_take_42 : decode cX6_take 42 = .ok (.aload_n 0, 1) := by decide +kernel
theorem dX6_take_43 : decode cX6_take 43 = .ok (.getfield 13, 3) := by decide +kernel
theorem dX6_take_46 : decode cX6_take 46 = .ok (.iload_n 3, 1) := by decide +kernel
theorem dX6_take_47 : decode cX6_take 47 = .ok (.iconst 1, 1) := by decide +kernel
theorem dX6_take_48 : decode cX6_take 48 = .ok (.iadd, 1) := by decide +kernel
theorem dX6_take_49 : decode cX6_take 49 = .ok (.iaload, 1) := by decide +kernel
theorem dX6_take_50 : decode cX6_take 50 = .ok (.iastore, 1) := by decide +kernel
theorem dX6_take_51 : decode cX6_take 51 = .ok (.aload_n 0, 1) := by decide +kernel
theorem dX6_take_52 : decode cX6_take 52 = .ok (.getfield 16, 3) := by decide +kernel
theorem dX6_take_55 : decode cX6_take 55 = .ok (.iload_n 3, 1) := by decide +kernel
theorem dX6_take_56 : decode cX6_take 56 = .ok (.aload_n 0, 1) := by decide +kernel
theorem dX6_take_57 : decode cX6_take 57 = .ok (.getfield 16, 3) := by decide +kernel
theorem dX6_take_60 : decode cX6_take 60 = .ok (.iload_n 3, 1) := by decide +kernel
theorem dX6_take_61 : decode cX6_take 61 = .ok (.iconst 1, 1) := by decide +kernel
theorem dX6_take_62 : decode cX6_take 62 = .ok (.iadd, 1) := by decide +kernel
theorem dX6_take_63 : decode cX6_take 63 = .ok (.iaload, 1) := by decide +kernel
theorem dX6_take_64 : decode cX6_take 64 = .ok (.iastore, 1) := by decide +kernel
theorem dX6_take_65 : decode cX6_take 65 = .ok (.iinc 3 1, 3) := by decide +kernel
theorem dX6_take_68 : decode cX6_take 68 = .ok (.goto (-39), 3) := by decide +kernel
theorem dX6_take_71 : decode cX6_take 71 = .ok (.aload_n 0, 1) := by decide +kernel
theorem dX6_take_72 : decode cX6_take 72 = .ok (.invokevirtual 86, 3) := by decide +kernel
theorem dX6_take_75 : decode cX6_take 75 = .ok (.iload_n 2, 1) := by decide +kernel
theorem dX6_take_76 : decode cX6_take 76 = .ok (.ireturn, 1) := by decide +kernel
set_option maxRecDepth 20000 in
theorem ggX6_heaped_X6_noPlace : GoodIn wsX6_heaped wsX6_noPlace := goodIn_r _ [7, 8, 9, 10, 6, 11, 12, 13, 14, 15, 16, 17, 18, 19, 20, 21, 22, 23, 24, 25, 26, 27, 28, 29, 30, 31, 32, 33, 34] (by decide +kernel) (by decide +kernel)
set_option maxRecDepth 20000 in
theorem gX6_heaped_X6_noPlace : GoodIn wsX6_heaped (wsV RX6 155 RX6 yX6_noPlace wsX6_noPlace) := goodIn_app (goodIn_of _ (by decide +kernel)) ggX6_heaped_X6_noPlace
theorem dX6_heaped_0 : decode cX6_heaped 0 = .ok (.aload_n 0, 1) := by decide +kernel
theorem dX6_heaped_1 : decode cX6_heaped 1 = .ok (.iload_n 1, 1) := by decide +kernel
theorem dX6_heaped_2 : decode cX6_heaped 2 = .ok (.invokevirtual 155, 3) := by decide +kernel
theorem dX6_heaped_5 : decode cX6_heaped 5 = .ok (.ifCond .eq 5, 3) := by decide +kernel
theorem dX6_heaped_8 : decode cX6_heaped 8 = .ok (.iconst (-1), 1) := by decide +kernel
theorem dX6_heaped_9 : decode cX6_heaped 9 = .ok (.ireturn, 1) := by decide +kernel
theorem dX6_heaped_10 : decode cX6_heaped 10 = .ok (.iload_n 2, 1) := by decide +kernel
theorem dX6_heaped_11 : decode cX6_heaped 11 = .ok (.ifCond .ne 12, 3) := by decide +kernel
theorem dX6_heaped_14 : decode cX6_heaped 14 = .ok (.aload_n 0, 1) := by decide +kernel
theorem dX6_heaped_15 : decode cX6_heaped 15 = .ok (.getfield 13, 3) := by decide +kernel
theorem dX6_heaped_18 : decode cX6_heaped 18 = .ok (.iload_n 1, 1) := by decide +kernel
theorem dX6_heaped_19 : decode cX6_heaped 19 = .ok (.iaload, 1) := by decide +kernel
theorem dX6_heaped_20 : decode cX6_heaped 20 = .ok (.goto 19, 3) := by decide +kernel
theorem dX6_heaped_23 : decode cX6_heaped 23 = .ok (.iload_n 2, 1) := by decide +kernel
theorem dX6_heaped_24 : decode cX6_heaped 24 = .ok (.iconst 1, 1) := by decide +kernel
theorem dX6_heaped_25 : decode cX6_heaped 25 = .ok (.if_icmp .ne 12, 3) := by decide +kernel
theorem dX6_heaped_28 : decode cX6_heaped 28 = .ok (.aload_n 0, 1) := by decide +kernel
theorem dX6_heaped_29 : decode cX6_heaped 29 = .ok (.getfield 16, 3) := by decide +kernel
theorem dX6_heaped_32 : decode cX6_heaped 32 = .ok (.iload_n 1, 1) := by decide +kernel
theorem dX6_heaped_33 : decode cX6_heaped 33 = .ok (.iaload, 1) := by decide +kernel
theorem dX6_heaped_34 : decode cX6_heaped 34 = .ok (.goto 5, 3) := by decide +kernel
theorem dX6_heaped_37 : decode cX6_heaped 37 = .ok (.bipush (-2), 2) := by decide +kernel
theorem dX6_heaped_39 : decode cX6_heaped 39 = .ok (.ireturn, 1) := by decide +kernel
theorem dX6_timesIn_0 : decode cX6_timesIn 0 = .ok (.iconst 0, 1) := by decide +kernel
theorem dX6_timesIn_1 : decode cX6_timesIn 1 = .ok (.istore_n 2, 1) := by decide +kernel
theorem dX6_timesIn_2 : decode cX6_timesIn 2 = .ok (.iconst 0, 1) := by decide +kernel
theorem dX6_timesIn_3 : decode cX6_timesIn 3 = .ok (.istore_n 3, 1) := by decide +kernel
theorem dX6_timesIn_4 : decode cX6_timesIn 4 = .ok (.iload_n 3, 1) := by decide +kernel
theorem dX6_timesIn_5 : decode cX6_timesIn 5 = .ok (.aload_n 0, 1) := by decide +kernel
theorem dX6_timesIn_6 : decode cX6_timesIn 6 = .ok (.getfield 83, 3) := by decide +kernel
theorem dX6_timesIn_9 : decode cX6_timesIn 9 = .ok (.if_icmp .ge 27, 3) := by decide +kernel
theorem dX6_timesIn_12 : decode cX6_timesIn 12 = .ok (.iload_n 2, 1) := by decide +kernel
theorem dX6_timesIn_13 : decode cX6_timesIn 13 = .ok (.aload_n 0, 1) := by decide +kernel
theorem dX6_timesIn_14 : decode cX6_timesIn 14 = .ok (.getfield 13, 3) := by decide +kernel
theorem dX6_timesIn_17 : decode cX6_timesIn 17 = .ok (.iload_n 3, 1) := by decide +kernel
theorem dX6_timesIn_18 : decode cX6_timesIn 18 = .ok (.iaload, 1) := by decide +kernel
theorem dX6_timesIn_19 : decode cX6_timesIn 19 = .ok (.iload_n 1, 1) := by decide +kernel
theorem dX6_timesIn_20 : decode cX6_timesIn 20 = .ok (.if_icmp .ne 7, 3) := by decide +kernel
theorem dX6_timesIn_23 : decode cX6_timesIn 23 = .ok (.iconst 1, 1) := by decide +kernel
theorem dX6_timesIn_24 : decode cX6_timesIn 24 = .ok (.goto 4, 3) := by decide +kernel
theorem dX6_timesIn_27 : decode cX6_timesIn 27 = .ok (.iconst 0, 1) := by decide +kernel
theorem dX6_timesIn_28 : decode cX6_timesIn 28 = .ok (.iadd, 1) := by decide +kernel
theorem dX6_timesIn_29 : decode cX6_timesIn 29 = .ok (.istore_n 2, 1) := by decide +kernel
theorem dX6_timesIn_30 : decode cX6_timesIn 30 = .ok (.iinc 3 1, 3) := by decide +kernel
theorem dX6_timesIn_33 : decode cX6_timesIn 33 = .ok (.goto (-29), 3) := by decide +kernel
theorem dX6_timesIn_36 : decode cX6_timesIn 36 = .ok (.iload_n 2, 1) := by decide +kernel
theorem dX6_timesIn_37 : decode cX6_timesIn 37 = .ok (.ireturn, 1) := by decide +kernel
set_option maxRecDepth 20000 in
theorem ggX6_isMissing_X6_timesIn : GoodIn wsX6_isMissing wsX6_timesIn := goodIn_r _ [5, 6, 7, 8, 9, 10, 11, 12, 13, 14, 15, 16, 17, 18, 19, 20, 21, 22, 23, 24, 25, 26, 27, 28, 29, 30] (by decide +kernel) (by decide +kernel)
set_option maxRecDepth 20000 in
theorem gX6_isMissing_X6_timesIn : GoodIn wsX6_isMissing (wsV RX6 158 RX6 yX6_timesIn wsX6_timesIn) := goodIn_app (goodIn_of _ (by decide +kernel)) ggX6_isMissing_X6_timesIn
theorem dX6_isMissing_0 : decode cX6_isMissing 0 = .ok (.iload_n 1, 1) := by decide +kernel
theorem dX6_isMissing_1 : decode cX6_isMissing 1 = .ok (.ifCond .ne 19, 3) := by decide +kernel
theorem dX6_isMissing_4 : decode cX6_isMissing 4 = .ok (.aload_n 0, 1) := by decide +kernel
theorem dX6_isMissing_5 : decode cX6_isMissing 5 = .ok (.iload_n 2, 1) := by decide +kernel
theorem dX6_isMissing_6 : decode cX6_isMissing 6 = .ok (.invokevirtual 158, 3) := by decide +kernel
theorem dX6_isMissing_9 : decode cX6_isMissing 9 = .ok (.ifCond .ne 7, 3) := by decide +kernel
theorem dX6_isMissing_12 : decode cX6_isMissing 12 = .ok (.iconst 1, 1) := by decide +kernel
theorem dX6_isMissing_13 : decode cX6_isMissing 13 = .ok (.goto 21, 3) := by decide +kernel
theorem dX6_isMissing_16 : decode cX6_isMissing 16 = .ok (.iconst 0, 1) := by decide +kernel
theorem dX6_isMissing_17 : decode cX6_isMissing 17 = .ok (.goto 17, 3) := by decide +kernel
theorem dX6_isMissing_20 : decode cX6_isMissing 20 = .ok (.aload_n 0, 1) := by decide +kernel
theorem dX6_isMissing_21 : decode cX6_isMissing 21 = .ok (.iload_n 2, 1) := by decide +kernel
theorem dX6_isMissing_22 : decode cX6_isMissing 22 = .ok (.invokevirtual 158, 3) := by decide +kernel
theorem dX6_isMissing_25 : decode cX6_isMissing 25 = .ok (.iconst 1, 1) := by decide +kernel
theorem dX6_isMissing_26 : decode cX6_isMissing 26 = .ok (.if_icmp .le 7, 3) := by decide +kernel
theorem dX6_isMissing_29 : decode cX6_isMissing 29 = .ok (.iconst 1, 1) := by decide +kernel
theorem dX6_isMissing_30 : decode cX6_isMissing 30 = .ok (.goto 4, 3) := by decide +kernel
theorem dX6_isMissing_33 : decode cX6_isMissing 33 = .ok (.iconst 0, 1) := by decide +kernel
theorem dX6_isMissing_34 : decode cX6_isMissing 34 = .ok (.ireturn, 1) := by decide +kernel
set_option maxRecDepth 20000 in
theorem ggX6_missing_X6_in : GoodIn wsX6_missing wsX6_in := goodIn_r _ [4] (by decide +kernel) (by decide +kernel)
set_option maxRecDepth 20000 in
theorem gX6_missing_X6_in : GoodIn wsX6_missing (va_wsS RX6 70 yX6_in wsX6_in) := goodIn_app (goodIn_of _ (by decide +kernel)) ggX6_missing_X6_in
set_option maxRecDepth 20000 in
theorem ggX6_missing_X6_pieces : GoodIn wsX6_missing wsX6_pieces := goodIn_r _ [8, 9, 10, 21, 22, 23, 24, 25, 26, 27, 28, 29, 30, 31, 32, 33, 34, 35, 36, 37, 38, 39, 40, 41, 42, 43] (by decide +kernel) (by decide +kernel)
set_option maxRecDepth 20000 in
theorem gX6_missing_X6_pieces : GoodIn wsX6_missing (wsV RX6 74 RX6 yX6_pieces wsX6_pieces) := goodIn_app (goodIn_of _ (by decide +kernel)) ggX6_missing_X6_pieces
set_option maxRecDepth 20000 in
theorem ggX6_missing_X6_isMissing : GoodIn wsX6_missing wsX6_isMissing := goodIn_r _ [14, 15, 16, 17, 3, 18, 19, 20, 21, 22, 23, 24, 25, 26, 27, 28, 29, 30, 31, 32, 33, 34, 35, 36, 37, 38, 39, 40, 41, 42, 43] (by decide +kernel) (by decide +kernel)
set_option maxRecDepth 20000 in
theorem gX6_missing_X6_isMissing : GoodIn wsX6_missing (wsV RX6 161 RX6 yX6_isMissing wsX6_isMissing) := goodIn_app (goodIn_of _ (by decide +kernel)) ggX6_missing_X6_isMissing
theorem dX6_missing_0 : decode cX6_missing 0 = .ok (.iload_n 1, 1) := by decide +kernel
theorem dX6_missing_1 : decode cX6_missing 1 = .ok (.i2l, 1) := by decide +kernel
theorem dX6_missing_2 : decode cX6_missing 2 = .ok (.lconst 0, 1) := by decide +kernel
theorem dX6_missing_3 : decode cX6_missing 3 = .ok (.lconst 1, 1) := by decide +kernel
theorem dX6_missing_4 : decode cX6_missing 4 = .ok (.invokestatic 70, 3) := by decide +kernel
theorem dX6_missing_7 : decode cX6_missing 7 = .ok (.ifCond .ne 6, 3) := by decide +kernel
theorem dX6_missing_10 : decode cX6_missing 10 = .ok (.bipush (-2), 2) := by decide +kernel
theorem dX6_missing_12 : decode cX6_missing 12 = .ok (.ireturn, 1) := by decide +kernel
theorem dX6_missing_13 : decode cX6_missing 13 = .ok (.iconst 0, 1) := by decide +kernel
theorem dX6_missing_14 : decode cX6_missing 14 = .ok (.istore_n 2, 1) := by decide +kernel
theorem dX6_missing_15 : decode cX6_missing 15 = .ok (.iconst 0, 1) := by decide +kernel
theorem dX6_missing_16 : decode cX6_missing 16 = .ok (.istore_n 3, 1) := by decide +kernel
theorem dX6_missing_17 : decode cX6_missing 17 = .ok (.iload_n 3, 1) := by decide +kernel
theorem dX6_missing_18 : decode cX6_missing 18 = .ok (.aload_n 0, 1) := by decide +kernel
theorem dX6_missing_19 : decode cX6_missing 19 = .ok (.invokevirtual 74, 3) := by decide +kernel
theorem dX6_missing_22 : decode cX6_missing 22 = .ok (.if_icmp .ge 26, 3) := by decide +kernel
theorem dX6_missing_25 : decode cX6_missing 25 = .ok (.iload_n 2, 1) := by decide +kernel
theorem dX6_missing_26 : decode cX6_missing 26 = .ok (.aload_n 0, 1) := by decide +kernel
theorem dX6_missing_27 : decode cX6_missing 27 = .ok (.iload_n 1, 1) := by decide +kernel
theorem dX6_missing_28 : decode cX6_missing 28 = .ok (.iload_n 3, 1) := by decide +kernel
theorem dX6_missing_29 : decode cX6_missing 29 = .ok (.invokevirtual 161, 3) := by decide +kernel
theorem dX6_missing_32 : decode cX6_missing 32 = .ok (.ifCond .eq 7, 3) := by decide +kernel
theorem dX6_missing_35 : decode cX6_missing 35 = .ok (.iconst 1, 1) := by decide +kernel
theorem dX6_missing_36 : decode cX6_missing 36 = .ok (.goto 4, 3) := by decide +kernel
theorem dX6_missing_39 : decode cX6_missing 39 = .ok (.iconst 0, 1) := by decide +kernel
theorem dX6_missing_40 : decode cX6_missing 40 = .ok (.iadd, 1) := by decide +kernel
theorem dX6_missing_41 : decode cX6_missing 41 = .ok (.istore_n 2, 1) := by decide +kernel
theorem dX6_missing_42 : decode cX6_missing 42 = .ok (.iinc 3 1, 3) := by decide +kernel
theorem dX6_missing_45 : decode cX6_missing 45 = .ok (.goto (-28), 3) := by decide +kernel
theorem dX6_missing_48 : decode cX6_missing 48 = .ok (.iload_n 2, 1) := by decide +kernel
theorem dX6_missing_49 : decode cX6_missing 49 = .ok (.ireturn, 1) := by decide +kernel
set_option maxRecDepth 20000 in
theorem ggX6_missed_X6_in : GoodIn wsX6_missed wsX6_in := goodIn_r _ [4] (by decide +kernel) (by decide +kernel)
set_option maxRecDepth 20000 in
theorem gX6_missed_X6_in : GoodIn wsX6_missed (va_wsS RX6 70 yX6_in wsX6_in) := goodIn_app (goodIn_of _ (by decide +kernel)) ggX6_missed_X6_in
set_option maxRecDepth 20000 in
theorem ggX6_missed_X6_missing : GoodIn wsX6_missed wsX6_missing := goodIn_r _ [8, 1, 2, 3, 4, 9, 10, 11, 12, 13, 14, 15, 16, 17, 18, 19, 20, 21, 22, 23, 24, 25, 26, 27, 28, 29, 30, 31, 32, 33, 34, 35, 36, 37, 38, 39, 40, 41, 42, 43, 44, 45, 46, 47] (by decide +kernel) (by decide +kernel)
set_option maxRecDepth 20000 in
theorem gX6_missed_X6_missing : GoodIn wsX6_missed (wsV RX6 164 RX6 yX6_missing wsX6_missing) := goodIn_app (goodIn_of _ (by decide +kernel)) ggX6_missed_X6_missing
set_option maxRecDepth 20000 in
theorem ggX6_missed_X6_isMissing : GoodIn wsX6_missed wsX6_isMissing := goodIn_r _ [18, 19, 20, 21, 3, 22, 23, 24, 25, 26, 27, 28, 29, 30, 31, 32, 33, 34, 35, 36, 37, 38, 39, 40, 41, 42, 43, 44, 45, 46, 47] (by decide +kernel) (by decide +kernel)
set_option maxRecDepth 20000 in
theorem gX6_missed_X6_isMissing : GoodIn wsX6_missed (wsV RX6 161 RX6 yX6_isMissing wsX6_isMissing) := goodIn_app (goodIn_of _ (by decide +kernel)) ggX6_missed_X6_isMissing
theorem dX6_missed_0 : decode cX6_missed 0 = .ok (.iload_n 2, 1) := by decide +kernel
theorem dX6_missed_1 : decode cX6_missed 1 = .ok (.ifCond .lt 22, 3) := by decide +kernel
theorem dX6_missed_4 : decode cX6_missed 4 = .ok (.iload_n 1, 1) := by decide +kernel
theorem dX6_missed_5 : decode cX6_missed 5 = .ok (.i2l, 1) := by decide +kernel
theorem dX6_missed_6 : decode cX6_missed 6 = .ok (.lconst 0, 1) := by decide +kernel
theorem dX6_missed_7 : decode cX6_missed 7 = .ok (.lconst 1, 1) := by decide +kernel
theorem dX6_missed_8 : decode cX6_missed 8 = .ok (.invokestatic 70, 3) := by decide +kernel
theorem dX6_missed_11 : decode cX6_missed 11 = .ok (.ifCond .eq 14, 3) := by decide +kernel
theorem dX6_missed_14 : decode cX6_missed 14 = .ok (.iload_n 2, 1) := by decide +kernel
theorem dX6_missed_15 : decode cX6_missed 15 = .ok (.aload_n 0, 1) := by decide +kernel
theorem dX6_missed_16 : decode cX6_missed 16 = .ok (.iload_n 1, 1) := by decide +kernel
theorem dX6_missed_17 : decode cX6_missed 17 = .ok (.invokevirtual 164, 3) := by decide +kernel
theorem dX6_missed_20 : decode cX6_missed 20 = .ok (.if_icmp .lt 5, 3) := by decide +kernel
theorem dX6_missed_23 : decode cX6_missed 23 = .ok (.iconst (-1), 1) := by decide +kernel
theorem dX6_missed_24 : decode cX6_missed 24 = .ok (.ireturn, 1) := by decide +kernel
theorem dX6_missed_25 : decode cX6_missed 25 = .ok (.iload_n 1, 1) := by decide +kernel
theorem dX6_missed_26 : decode cX6_missed 26 = .ok (.i2l, 1) := by decide +kernel
theorem dX6_missed_27 : decode cX6_missed 27 = .ok (.lconst 0, 1) := by decide +kernel
theorem dX6_missed_28 : decode cX6_missed 28 = .ok (.lconst 1, 1) := by decide +kernel
theorem dX6_missed_29 : decode cX6_missed 29 = .ok (.invokestatic 70, 3) := by decide +kernel
theorem dX6_missed_32 : decode cX6_missed 32 = .ok (.ifCond .ne 6, 3) := by decide +kernel
theorem dX6_missed_35 : decode cX6_missed 35 = .ok (.bipush (-2), 2) := by decide +kernel
theorem dX6_missed_37 : decode cX6_missed 37 = .ok (.ireturn, 1) := by decide +kernel
theorem dX6_missed_38 : decode cX6_missed 38 = .ok (.iconst (-1), 1) := by decide +kernel
theorem dX6_missed_39 : decode cX6_missed 39 = .ok (.istore_n 3, 1) := by decide +kernel
theorem dX6_missed_40 : decode cX6_missed 40 = .ok (.iconst (-1), 1) := by decide +kernel
theorem dX6_missed_41 : decode cX6_missed 41 = .ok (.istore 4, 2) := by decide +kernel
theorem dX6_missed_43 : decode cX6_missed 43 = .ok (.iload_n 3, 1) := by decide +kernel
theorem dX6_missed_44 : decode cX6_missed 44 = .ok (.iload_n 2, 1) := by decide +kernel
theorem dX6_missed_45 : decode cX6_missed 45 = .ok (.if_icmp .ge 27, 3) := by decide +kernel
theorem dX6_missed_48 : decode cX6_missed 48 = .ok (.iinc 4 1, 3) := by decide +kernel
theorem dX6_missed_51 : decode cX6_missed 51 = .ok (.iload_n 3, 1) := by decide +kernel
theorem dX6_missed_52 : decode cX6_missed 52 = .ok (.aload_n 0, 1) := by decide +kernel
theorem dX6_missed_53 : decode cX6_missed 53 = .ok (.iload_n 1, 1) := by decide +kernel
theorem dX6_missed_54 : decode cX6_missed 54 = .ok (.iload 4, 2) := by decide +kernel
theorem dX6_missed_56 : decode cX6_missed 56 = .ok (.invokevirtual 161, 3) := by decide +kernel
theorem dX6_missed_59 : decode cX6_missed 59 = .ok (.ifCond .eq 7, 3) := by decide +kernel
theorem dX6_missed_62 : decode cX6_missed 62 = .ok (.iconst 1, 1) := by decide +kernel
theorem dX6_missed_63 : decode cX6_missed 63 = .ok (.goto 4, 3) := by decide +kernel
theorem dX6_missed_66 : decode cX6_missed 66 = .ok (.iconst 0, 1) := by decide +kernel
theorem dX6_missed_67 : decode cX6_missed 67 = .ok (.iadd, 1) := by decide +kernel
theorem dX6_missed_68 : decode cX6_missed 68 = .ok (.istore_n 3, 1) := by decide +kernel
theorem dX6_missed_69 : decode cX6_missed 69 = .ok (.goto (-26), 3) := by decide +kernel
theorem dX6_missed_72 : decode cX6_missed 72 = .ok (.iload 4, 2) := by decide +kernel
theorem dX6_missed_74 : decode cX6_missed 74 = .ok (.ireturn, 1) := by decide +kernel
theorem dX6_edgeOn_0 : decode cX6_edgeOn 0 = .ok (.iload_n 2, 1) := by decide +kernel
theorem dX6_edgeOn_1 : decode cX6_edgeOn 1 = .ok (.bipush 8, 2) := by decide +kernel
theorem dX6_edgeOn_3 : decode cX6_edgeOn 3 = .ok (.iadd, 1) := by decide +kernel
theorem dX6_edgeOn_4 : decode cX6_edgeOn 4 = .ok (.aload_n 0, 1) := by decide +kernel
theorem dX6_edgeOn_5 : decode cX6_edgeOn 5 = .ok (.getfield 16, 3) := by decide +kernel
theorem dX6_edgeOn_8 : decode cX6_edgeOn 8 = .ok (.aload_n 0, 1) := by decide +kernel
theorem dX6_edgeOn_9 : decode cX6_edgeOn 9 = .ok (.getfield 19, 3) := by decide +kernel
theorem dX6_edgeOn_12 : decode cX6_edgeOn 12 = .ok (.iload_n 1, 1) := by decide +kernel
theorem dX6_edgeOn_13 : decode cX6_edgeOn 13 = .ok (.iaload, 1) := by decide +kernel
theorem dX6_edgeOn_14 : decode cX6_edgeOn 14 = .ok (.iaload, 1) := by decide +kernel
theorem dX6_edgeOn_15 : decode cX6_edgeOn 15 = .ok (.isub, 1) := by decide +kernel
theorem dX6_edgeOn_16 : decode cX6_edgeOn 16 = .ok (.aload_n 0, 1) := by decide +kernel
theorem dX6_edgeOn_17 : decode cX6_edgeOn 17 = .ok (.getfield 22, 3) := by decide +kernel
theorem dX6_edgeOn_20 : decode cX6_edgeOn 20 = .ok (.iload_n 1, 1) := by decide +kernel
theorem dX6_edgeOn_21 : decode cX6_edgeOn 21 = .ok (.iaload, 1) := by decide +kernel
theorem dX6_edgeOn_22 : decode cX6_edgeOn 22 = .ok (.isub, 1) := by decide +kernel
theorem dX6_edgeOn_23 : decode cX6_edgeOn 23 = .ok (.iconst 4, 1) := by decide +kernel
theorem dX6_edgeOn_24 : decode cX6_edgeOn 24 = .ok (.irem, 1) := by decide +kernel
theorem dX6_edgeOn_25 : decode cX6_edgeOn 25 = .ok (.ireturn, 1) := by decide +kernel
set_option maxRecDepth 20000 in
theorem ggX6_isFlat_X6_edgeOn : GoodIn wsX6_isFlat wsX6_edgeOn := goodIn_r _ [7, 8, 2, 9, 20, 21, 22, 23, 24, 25, 26, 27, 28, 29, 30, 31, 32, 33, 34, 35, 36, 37, 38, 39, 40, 41, 42] (by decide +kernel) (by decide +kernel)
set_option maxRecDepth 20000 in
theorem gX6_isFlat_X6_edgeOn : GoodIn wsX6_isFlat (wsV RX6 167 RX6 yX6_edgeOn wsX6_edgeOn) := goodIn_app (goodIn_of _ (by decide +kernel)) ggX6_isFlat_X6_edgeOn
set_option maxRecDepth 20000 in
theorem ggX6_isFlat_X6_sideAt : GoodIn wsX6_isFlat wsX6_sideAt := goodIn_r _ [13, 14, 15, 16, 17, 18, 6, 19, 20, 21, 22, 23, 24, 25, 26, 27, 28, 29, 30, 31, 32, 33, 34, 35, 36, 37, 38, 39, 40, 41, 42] (by decide +kernel) (by decide +kernel)
set_option maxRecDepth 20000 in
theorem gX6_isFlat_X6_sideAt : GoodIn wsX6_isFlat (wsV RX6 120 RX6 yX6_sideAt wsX6_sideAt) := goodIn_app (goodIn_of _ (by decide +kernel)) ggX6_isFlat_X6_sideAt
theorem dX6_isFlat_0 : decode cX6_isFlat 0 = .ok (.aload_n 0, 1) := by decide +kernel
theorem dX6_isFlat_1 : decode cX6_isFlat 1 = .ok (.aload_n 0, 1) := by decide +kernel
theorem dX6_isFlat_2 : decode cX6_isFlat 2 = .ok (.getfield 13, 3) := by decide +kernel
theorem dX6_isFlat_5 : decode cX6_isFlat 5 = .ok (.aload_n 0, 1) := by decide +kernel
theorem dX6_isFlat_6 : decode cX6_isFlat 6 = .ok (.getfield 19, 3) := by decide +kernel
theorem dX6_isFlat_9 : decode cX6_isFlat 9 = .ok (.iload_n 1, 1) := by decide +kernel
theorem dX6_isFlat_10 : decode cX6_isFlat 10 = .ok (.iaload, 1) := by decide +kernel
theorem dX6_isFlat_11 : decode cX6_isFlat 11 = .ok (.iaload, 1) := by decide +kernel
theorem dX6_isFlat_12 : decode cX6_isFlat 12 = .ok (.aload_n 0, 1) := by decide +kernel
theorem dX6_isFlat_13 : decode cX6_isFlat 13 = .ok (.iload_n 1, 1) := by decide +kernel
theorem dX6_isFlat_14 : decode cX6_isFlat 14 = .ok (.iload_n 2, 1) := by decide +kernel
theorem dX6_isFlat_15 : decode cX6_isFlat 15 = .ok (.invokevirtual 167, 3) := by decide +kernel
theorem dX6_isFlat_18 : decode cX6_isFlat 18 = .ok (.invokevirtual 120, 3) := by decide +kernel
theorem dX6_isFlat_21 : decode cX6_isFlat 21 = .ok (.ifCond .ge 7, 3) := by decide +kernel
theorem dX6_isFlat_24 : decode cX6_isFlat 24 = .ok (.iconst 1, 1) := by decide +kernel
theorem dX6_isFlat_25 : decode cX6_isFlat 25 = .ok (.goto 4, 3) := by decide +kernel
theorem dX6_isFlat_28 : decode cX6_isFlat 28 = .ok (.iconst 0, 1) := by decide +kernel
theorem dX6_isFlat_29 : decode cX6_isFlat 29 = .ok (.ireturn, 1) := by decide +kernel
set_option maxRecDepth 20000 in
theorem ggX6_meets_X6_isFlat : GoodIn wsX6_meets wsX6_isFlat := goodIn_r _ [7, 1, 2, 8, 9, 10, 6, 11, 12, 13, 14, 15, 16, 17, 18, 19, 20, 21, 22, 23, 36, 37, 38, 39, 40, 41, 42, 43, 44, 45, 46, 47, 48, 49, 50, 51, 52, 53, 54, 55, 56, 57, 58] (by decide +kernel) (by decide +kernel)
set_option maxRecDepth 20000 in
theorem gX6_meets_X6_isFlat : GoodIn wsX6_meets (wsV RX6 170 RX6 yX6_isFlat wsX6_isFlat) := goodIn_app (goodIn_of _ (by decide +kernel)) ggX6_meets_X6_isFlat
set_option maxRecDepth 20000 in
theorem ggX6_meets_X6_edgeOn : GoodIn wsX6_meets wsX6_edgeOn := goodIn_r _ [11, 12, 2, 13, 36, 37, 38, 39, 40, 41, 42, 43, 44, 45, 46, 47, 48, 49, 50, 51, 52, 53, 54, 55, 56, 57, 58] (by decide +kernel) (by decide +kernel)
set_option maxRecDepth 20000 in
theorem gX6_meets_X6_edgeOn : GoodIn wsX6_meets (wsV RX6 167 RX6 yX6_edgeOn wsX6_edgeOn) := goodIn_app (goodIn_of _ (by decide +kernel)) ggX6_meets_X6_edgeOn
set_option maxRecDepth 20000 in
theorem ggX6_meets_X6_farOf : GoodIn wsX6_meets wsX6_farOf := goodIn_r _ [27, 28, 29, 30, 6, 31, 32, 14, 15, 16, 17, 18, 19, 20, 21, 22, 23, 33, 34, 35, 36, 37, 38, 39, 40, 41, 42, 43, 44, 45, 46, 47, 48, 49, 50, 51, 52, 53, 54, 55, 56, 57, 58] (by decide +kernel) (by decide +kernel)
set_option maxRecDepth 20000 in
theorem gX6_meets_X6_farOf : GoodIn wsX6_meets (wsV RX6 131 RX6 yX6_farOf wsX6_farOf) := goodIn_app (goodIn_of _ (by decide +kernel)) ggX6_meets_X6_farOf
theorem dX6_meets_0 : decode cX6_meets 0 = .ok (.aload_n 0, 1) := by decide +kernel
theorem dX6_meets_1 : decode cX6_meets 1 = .ok (.iload_n 1, 1) := by decide +kernel
theorem dX6_meets_2 : decode cX6_meets 2 = .ok (.iload_n 2, 1) := by decide +kernel
theorem dX6_meets_3 : decode cX6_meets 3 = .ok (.invokevirtual 170, 3) := by decide +kernel
theorem dX6_meets_6 : decode cX6_meets 6 = .ok (.ifCond .ne 59, 3) := by decide +kernel
theorem dX6_meets_9 : decode cX6_meets 9 = .ok (.aload_n 0, 1) := by decide +kernel
theorem dX6_meets_10 : decode cX6_meets 10 = .ok (.iload_n 3, 1) := by decide +kernel
theorem dX6_meets_11 : decode cX6_meets 11 = .ok (.iload 4, 2) := by decide +kernel
theorem dX6_meets_13 : decode cX6_meets 13 = .ok (.invokevirtual 170, 3) := by decide +kernel
theorem dX6_meets_16 : decode cX6_meets 16 = .ok (.ifCond .ne 49, 3) := by decide +kernel
theorem dX6_meets_19 : decode cX6_meets 19 = .ok (.aload_n 0, 1) := by decide +kernel
theorem dX6_meets_20 : decode cX6_meets 20 = .ok (.aload_n 0, 1) := by decide +kernel
theorem dX6_meets_21 : decode cX6_meets 21 = .ok (.getfield 13, 3) := by decide +kernel
theorem dX6_meets_24 : decode cX6_meets 24 = .ok (.aload_n 0, 1) := by decide +kernel
theorem dX6_meets_25 : decode cX6_meets 25 = .ok (.getfield 19, 3) := by decide +kernel
theorem dX6_meets_28 : decode cX6_meets 28 = .ok (.iload_n 1, 1) := by decide +kernel
theorem dX6_meets_29 : decode cX6_meets 29 = .ok (.iaload, 1) := by decide +kernel
theorem dX6_meets_30 : decode cX6_meets 30 = .ok (.iaload, 1) := by decide +kernel
theorem dX6_meets_31 : decode cX6_meets 31 = .ok (.aload_n 0, 1) := by decide +kernel
theorem dX6_meets_32 : decode cX6_meets 32 = .ok (.iload_n 1, 1) := by decide +kernel
theorem dX6_meets_33 : decode cX6_meets 33 = .ok (.iload_n 2, 1) := by decide +kernel
theorem dX6_meets_34 : decode cX6_meets 34 = .ok (.invokevirtual 167, 3) := by decide +kernel
theorem dX6_meets_37 : decode cX6_meets 37 = .ok (.aload_n 0, 1) := by decide +kernel
theorem dX6_meets_38 : decode cX6_meets 38 = .ok (.getfield 13, 3) := by decide +kernel
theorem dX6_meets_41 : decode cX6_meets 41 = .ok (.aload_n 0, 1) := by decide +kernel
theorem dX6_meets_42 : decode cX6_meets 42 = .ok (.getfield 19, 3) := by decide +kernel
theorem dX6_meets_45 : decode cX6_meets 45 = .ok (.iload_n 3, 1) := by decide +kernel
theorem dX6_meets_46 : decode cX6_meets 46 = .ok (.iaload, 1) := by decide +kernel
theorem dX6_meets_47 : decode cX6_meets 47 = .ok (.iaload, 1) := by decide +kernel
theorem dX6_meets_48 : decode cX6_meets 48 = .ok (.aload_n 0, 1) := by decide +kernel
theorem dX6_meets_49 : decode cX6_meets 49 = .ok (.iload_n 3, 1) := by decide +kernel
theorem dX6_meets_50 : decode cX6_meets 50 = .ok (.iload 4, 2) := by decide +kernel
theorem dX6_meets_52 : decode cX6_meets 52 = .ok (.invokevirtual 167, 3) := by decide +kernel
theorem dX6_meets_55 : decode cX6_meets 55 = .ok (.invokevirtual 131, 3) := by decide +kernel
theorem dX6_meets_58 : decode cX6_meets 58 = .ok (.ifCond .ne 7, 3) := by decide +kernel
theorem dX6_meets_61 : decode cX6_meets 61 = .ok (.iconst 1, 1) := by decide +kernel
theorem dX6_meets_62 : decode cX6_meets 62 = .ok (.goto 4, 3) := by decide +kernel
theorem dX6_meets_65 : decode cX6_meets 65 = .ok (.iconst 0, 1) := by decide +kernel
theorem dX6_meets_66 : decode cX6_meets 66 = .ok (.ireturn, 1) := by decide +kernel
set_option maxRecDepth 20000 in
theorem ggX6_fits_X6_isFlat : GoodIn wsX6_fits wsX6_isFlat := goodIn_r _ [7, 8, 9, 10, 11, 12, 6, 13, 14, 15, 16, 17, 18, 19, 1, 2, 20, 21, 22, 23, 40, 41, 42, 43, 44, 45, 46, 47, 48, 49, 50, 51, 52, 53, 54, 55, 56, 57, 58, 59, 60, 61, 62] (by decide +kernel) (by decide +kernel)
set_option maxRecDepth 20000 in
theorem gX6_fits_X6_isFlat : GoodIn wsX6_fits (wsV RX6 170 RX6 yX6_isFlat wsX6_isFlat) := goodIn_app (goodIn_of _ (by decide +kernel)) ggX6_fits_X6_isFlat
set_option maxRecDepth 20000 in
theorem ggX6_fits_X6_meets : GoodIn wsX6_fits wsX6_meets := goodIn_r _ [27, 8, 9, 3, 4, 5, 6, 7, 10, 11, 12, 13, 14, 15, 16, 17, 18, 19, 1, 2, 20, 21, 22, 23, 28, 29, 30, 31, 32, 33, 34, 35, 36, 37, 38, 39, 40, 41, 42, 43, 44, 45, 46, 47, 48, 49, 50, 51, 52, 53, 54, 55, 56, 57, 58, 59, 60, 61, 62] (by decide +kernel) (by decide +kernel)
set_option maxRecDepth 20000 in
theorem gX6_fits_X6_meets : GoodIn wsX6_fits (wsV RX6 173 RX6 yX6_meets wsX6_meets) := goodIn_app (goodIn_of _ (by decide +kernel)) ggX6_fits_X6_meets
theorem dX6_fits_0 : decode cX6_fits 0 = .ok (.iload_n 1, 1) := by decide +kernel
theorem dX6_fits_1 : decode cX6_fits 1 = .ok (.aload_n 0, 1) := by decide +kernel
theorem dX6_fits_2 : decode cX6_fits 2 = .ok (.getfield 47, 3) := by decide +kernel
theorem dX6_fits_5 : decode cX6_fits 5 = .ok (.irem, 1) := by decide +kernel
theorem dX6_fits_6 : decode cX6_fits 6 = .ok (.istore_n 2, 1) := by decide +kernel
theorem dX6_fits_7 : decode cX6_fits 7 = .ok (.iload_n 1, 1) := by decide +kernel
theorem dX6_fits_8 : decode cX6_fits 8 = .ok (.aload_n 0, 1) := by decide +kernel
theorem dX6_fits_9 : decode cX6_fits 9 = .ok (.getfield 47, 3) := by decide +kernel
theorem dX6_fits_12 : decode cX6_fits 12 = .ok (.idiv, 1) := by decide +kernel
theorem dX6_fits_13 : decode cX6_fits 13 = .ok (.istore_n 3, 1) := by decide +kernel
theorem dX6_fits_14 : decode cX6_fits 14 = .ok (.aload_n 0, 1) := by decide +kernel
theorem dX6_fits_15 : decode cX6_fits 15 = .ok (.iload_n 1, 1) := by decide +kernel
theorem dX6_fits_16 : decode cX6_fits 16 = .ok (.iconst 0, 1) := by decide +kernel
theorem dX6_fits_17 : decode cX6_fits 17 = .ok (.invokevirtual 170, 3) := by decide +kernel
theorem dX6_fits_20 : decode cX6_fits 20 = .ok (.iload_n 3, 1) := by decide +kernel
theorem dX6_fits_21 : decode cX6_fits 21 = .ok (.ifCond .ne 7, 3) := by decide +kernel
theorem dX6_fits_24 : decode cX6_fits 24 = .ok (.iconst 1, 1) := by decide +kernel
theorem dX6_fits_25 : decode cX6_fits 25 = .ok (.goto 4, 3) := by decide +kernel
theorem dX6_fits_28 : decode cX6_fits 28 = .ok (.iconst 0, 1) := by decide +kernel
theorem dX6_fits_29 : decode cX6_fits 29 = .ok (.if_icmp .ne 73, 3) := by decide +kernel
theorem dX6_fits_32 : decode cX6_fits 32 = .ok (.aload_n 0, 1) := by decide +kernel
theorem dX6_fits_33 : decode cX6_fits 33 = .ok (.iload_n 1, 1) := by decide +kernel
theorem dX6_fits_34 : decode cX6_fits 34 = .ok (.iconst 1, 1) := by decide +kernel
theorem dX6_fits_35 : decode cX6_fits 35 = .ok (.invokevirtual 170, 3) := by decide +kernel
theorem dX6_fits_38 : decode cX6_fits 38 = .ok (.iload_n 2, 1) := by decide +kernel
theorem dX6_fits_39 : decode cX6_fits 39 = .ok (.aload_n 0, 1) := by decide +kernel
theorem dX6_fits_40 : decode cX6_fits 40 = .ok (.getfield 47, 3) := by decide +kernel
theorem dX6_fits_43 : decode cX6_fits 43 = .ok (.iconst 1, 1) := by decide +kernel
theorem dX6_fits_44 : decode cX6_fits 44 = .ok (.isub, 1) := by decide +kernel
theorem dX6_fits_45 : decode cX6_fits 45 = .ok (.if_icmp .ne 7, 3) := by decide +kernel
theorem dX6_fits_48 : decode cX6_fits 48 = .ok (.iconst 1, 1) := by decide +kernel
theorem dX6_fits_49 : decode cX6_fits 49 = .ok (.goto 4, 3) := by decide +kernel
theorem dX6_fits_52 : decode cX6_fits 52 = .ok (.iconst 0, 1) := by decide +kernel
theorem dX6_fits_53 : decode cX6_fits 53 = .ok (.if_icmp .ne 49, 3) := by decide +kernel
theorem dX6_fits_56 : decode cX6_fits 56 = .ok (.aload_n 0, 1) := by decide +kernel
theorem dX6_fits_57 : decode cX6_fits 57 = .ok (.iload_n 1, 1) := by decide +kernel
theorem dX6_fits_58 : decode cX6_fits 58 = .ok (.iconst 2, 1) := by decide +kernel
theorem dX6_fits_59 : decode cX6_fits 59 = .ok (.invokevirtual 170, 3) := by decide +kernel
theorem dX6_fits_62 : decode cX6_fits 62 = .ok (.iload_n 3, 1) := by decide +kernel
theorem dX6_fits_63 : decode cX6_fits 63 = .ok (.aload_n 0, 1) := by decide +kernel
theorem dX6_fits_64 : decode cX6_fits 64 = .ok (.getfield 51, 3) := by decide +kernel
theorem dX6_fits_67 : decode cX6_fits 67 = .ok (.iconst 1, 1) := by decide +kernel
theorem dX6_fits_68 : decode cX6_fits 68 = .ok (.isub, 1) := by decide +kernel
theorem dX6_fits_69 : decode cX6_fits 69 = .ok (.if_icmp .ne 7, 3) := by decide +kernel
theorem dX6_fits_72 : decode cX6_fits 72 = .ok (.iconst 1, 1) := by decide +kernel
theorem dX6_fits_73 : decode cX6_fits 73 = .ok (.goto 4, 3) := by decide +kernel
theorem dX6_fits_76 : decode cX6_fits 76 = .ok (.iconst 0, 1) := by decide +kernel
theorem dX6_fits_77 : decode cX6_fits 77 = .ok (.if_icmp .ne 25, 3) := by decide +kernel
theorem dX6_fits_80 : decode cX6_fits 80 = .ok (.aload_n 0, 1) := by decide +kernel
theorem dX6_fits_81 : decode cX6_fits 81 = .ok (.iload_n 1, 1) := by decide +kernel
theorem dX6_fits_82 : decode cX6_fits 82 = .ok (.iconst 3, 1) := by decide +kernel
theorem dX6_fits_83 : decode cX6_fits 83 = .ok (.invokevirtual 170, 3) := by decide +kernel
theorem dX6_fits_86 : decode cX6_fits 86 = .ok (.iload_n 2, 1) := by decide +kernel
theorem dX6_fits_87 : decode cX6_fits 87 = .ok (.ifCond .ne 7, 3) := by decide +kernel
theorem dX6_fits_90 : decode cX6_fits 90 = .ok (.iconst 1, 1) := by decide +kernel
theorem dX6_fits_91 : decode cX6_fits 91 = .ok (.goto 4, 3) := by decide +kernel
theorem dX6_fits_94 : decode cX6_fits 94 = .ok (.iconst 0, 1) := by decide +kernel
theorem dX6_fits_95 : decode cX6_fits 95 = .ok (.if_icmp .ne 7, 3) := by decide +kernel
theorem dX6_fits_98 : decode cX6_fits 98 = .ok (.iconst 1, 1) := by decide +kernel
theorem dX6_fits_99 : decode cX6_fits 99 = .ok (.goto 4, 3) := by decide +kernel
theorem dX6_fits_102 : decode cX6_fits 102 = .ok (.iconst 0, 1) := by decide +kernel
theorem dX6_fits_103 : decode cX6_fits 103 = .ok (.istore 4, 2) := by decide +kernel
theorem dX6_fits_105 : decode cX6_fits 105 = .ok (.iload 4, 2) := by decide +kernel
theorem dX6_fits_107 : decode cX6_fits 107 = .ok (.ifCond .eq 27, 3) := by decide +kernel
theorem dX6_fits_110 : decode cX6_fits 110 = .ok (.iload_n 3, 1) := by decide +kernel
theorem dX6_fits_111 : decode cX6_fits 111 = .ok (.ifCond .eq 19, 3) := by decide +kernel
theorem dX6_fits_114 : decode cX6_fits 114 = .ok (.aload_n 0, 1) := by decide +kernel
theorem dX6_fits_115 : decode cX6_fits 115 = .ok (.iload_n 1, 1) := by decide +kernel
theorem dX6_fits_116 : decode cX6_fits 116 = .ok (.iconst 0, 1) := by decide +kernel
theorem dX6_fits_117 : decode cX6_fits 117 = .ok (.iload_n 1, 1) := by decide +kernel
theorem dX6_fits_118 : decode cX6_fits 118 = .ok (.aload_n 0, 1) := by decide +kernel
theorem dX6_fits_119 : decode cX6_fits 119 = .ok (.getfield 47, 3) := by decide +kernel
theorem dX6_fits_122 : decode cX6_fits 122 = .ok (.isub, 1) := by decide +kernel
theorem dX6_fits_123 : decode cX6_fits 123 = .ok (.iconst 2, 1) := by decide +kernel
theorem dX6_fits_124 : decode cX6_fits 124 = .ok (.invokevirtual 173, 3) := by decide +kernel
theorem dX6_fits_127 : decode cX6_fits 127 = .ok (.ifCond .eq 7, 3) := by decide +kernel
theorem dX6_fits_130 : decode cX6_fits 130 = .ok (.iconst 1, 1) := by decide +kernel
theorem dX6_fits_131 : decode cX6_fits 131 = .ok (.goto 4, 3) := by decide +kernel
theorem dX6_fits_134 : decode cX6_fits 134 = .ok (.iconst 0, 1) := by decide +kernel
theorem dX6_fits_135 : decode cX6_fits 135 = .ok (.istore 4, 2) := by decide +kernel
theorem dX6_fits_137 : decode cX6_fits 137 = .ok (.iload 4, 2) := by decide +kernel
theorem dX6_fits_139 : decode cX6_fits 139 = .ok (.ifCond .eq 24, 3) := by decide +kernel
theorem dX6_fits_142 : decode cX6_fits 142 = .ok (.iload_n 2, 1) := by decide +kernel
theorem dX6_fits_143 : decode cX6_fits 143 = .ok (.ifCond .eq 16, 3) := by decide +kernel
theorem dX6_fits_146 : decode cX6_fits 146 = .ok (.aload_n 0, 1) := by decide +kernel
theorem dX6_fits_147 : decode cX6_fits 147 = .ok (.iload_n 1, 1) := by decide +kernel
theorem dX6_fits_148 : decode cX6_fits 148 = .ok (.iconst 3, 1) := by decide +kernel
theorem dX6_fits_149 : decode cX6_fits 149 = .ok (.iload_n 1, 1) := by decide +kernel
theorem dX6_fits_150 : decode cX6_fits 150 = .ok (.iconst 1, 1) := by decide +kernel
theorem dX6_fits_151 : decode cX6_fits 151 = .ok (.isub, 1) := by decide +kernel
theorem dX6_fits_152 : decode cX6_fits 152 = .ok (.iconst 1, 1) := by decide +kernel
theorem dX6_fits_153 : decode cX6_fits 153 = .ok (.invokevirtual 173, 3) := by decide +kernel
theorem dX6_fits_156 : decode cX6_fits 156 = .ok (.ifCond .eq 7, 3) := by decide +kernel
theorem dX6_fits_159 : decode cX6_fits 159 = .ok (.iconst 1, 1) := by decide +kernel
theorem dX6_fits_160 : decode cX6_fits 160 = .ok (.goto 4, 3) := by decide +kernel
theorem dX6_fits_163 : decode cX6_fits 163 = .ok (.iconst 0, 1) := by decide +kernel
theorem dX6_fits_164 : decode cX6_fits 164 = .ok (.ireturn, 1) := by decide +kernel
set_option maxRecDepth 20000 in
theorem ggX6_search_X6_fits : GoodIn wsX6_search wsX6_fits := goodIn_r _ [12, 13, 14, 15, 16, 17, 11, 18, 19, 4, 20, 21, 22, 23, 24, 5, 25, 26, 27, 28, 29, 30, 31, 32, 33, 34, 35, 36, 37, 38, 39, 40, 41, 42, 43, 44, 45, 46, 47, 48, 53, 54, 55, 56, 57, 58, 59, 60, 61, 62, 63, 64, 65, 66, 67, 68, 69, 70, 71, 72, 73, 74, 75] (by decide +kernel) (by decide +kernel)
set_option maxRecDepth 20000 in
theorem gX6_search_X6_fits : GoodIn wsX6_search (wsV RX6 184 RX6 yX6_fits wsX6_fits) := goodIn_app (goodIn_of _ (by decide +kernel)) ggX6_search_X6_fits
set_option maxRecDepth 20000 in
theorem ggX6_search_X6_pieces : GoodIn wsX6_search wsX6_pieces := goodIn_r _ [52, 13, 14, 53, 54, 55, 56, 57, 58, 59, 60, 61, 62, 63, 64, 65, 66, 67, 68, 69, 70, 71, 72, 73, 74, 75] (by decide +kernel) (by decide +kernel)
set_option maxRecDepth 20000 in
theorem gX6_search_X6_pieces : GoodIn wsX6_search (wsV RX6 74 RX6 yX6_pieces wsX6_pieces) := goodIn_app (goodIn_of _ (by decide +kernel)) ggX6_search_X6_pieces
theorem dX6_search_0 : decode cX6_search 0 = .ok (.aload_n 0, 1) := by decide +kernel
theorem dX6_search_1 : decode cX6_search 1 = .ok (.iconst 0, 1) := by decide +kernel
theorem dX6_search_2 : decode cX6_search 2 = .ok (.putfield 177, 3) := by decide +kernel
theorem dX6_search_5 : decode cX6_search 5 = .ok (.aload_n 0, 1) := by decide +kernel
theorem dX6_search_6 : decode cX6_search 6 = .ok (.iconst 0, 1) := by decide +kernel
theorem dX6_search_7 : decode cX6_search 7 = .ok (.putfield 180, 3) := by decide +kernel
theorem dX6_search_10 : decode cX6_search 10 = .ok (.iconst 0, 1) := by decide +kernel
theorem dX6_search_11 : decode cX6_search 11 = .ok (.istore_n 2, 1) := by decide +kernel
theorem dX6_search_12 : decode cX6_search 12 = .ok (.iload_n 2, 1) := by decide +kernel
theorem dX6_search_13 : decode cX6_search 13 = .ok (.bipush 25, 2) := by decide +kernel
theorem dX6_search_15 : decode cX6_search 15 = .ok (.if_icmp .ge 16, 3) := by decide +kernel
theorem dX6_search_18 : decode cX6_search 18 = .ok (.aload_n 0, 1) := by decide +kernel
theorem dX6_search_19 : decode cX6_search 19 = .ok (.getfield 25, 3) := by decide +kernel
theorem dX6_search_22 : decode cX6_search 22 = .ok (.iload_n 2, 1) := by decide +kernel
theorem dX6_search_23 : decode cX6_search 23 = .ok (.iconst 0, 1) := by decide +kernel
theorem dX6_search_24 : decode cX6_search 24 = .ok (.bastore, 1) := by decide +kernel
theorem dX6_search_25 : decode cX6_search 25 = .ok (.iinc 2 1, 3) := by decide +kernel
theorem dX6_search_28 : decode cX6_search 28 = .ok (.goto (-16), 3) := by decide +kernel
theorem dX6_search_31 : decode cX6_search 31 = .ok (.iconst 0, 1) := by decide +kernel
theorem dX6_search_32 : decode cX6_search 32 = .ok (.istore_n 2, 1) := by decide +kernel
theorem dX6_search_33 : decode cX6_search 33 = .ok (.aload_n 0, 1) := by decide +kernel
theorem dX6_search_34 : decode cX6_search 34 = .ok (.getfield 19, 3) := by decide +kernel
theorem dX6_search_37 : decode cX6_search 37 = .ok (.iconst 0, 1) := by decide +kernel
theorem dX6_search_38 : decode cX6_search 38 = .ok (.iconst 0, 1) := by decide +kernel
theorem dX6_search_39 : decode cX6_search 39 = .ok (.iastore, 1) := by decide +kernel
theorem dX6_search_40 : decode cX6_search 40 = .ok (.aload_n 0, 1) := by decide +kernel
theorem dX6_search_41 : decode cX6_search 41 = .ok (.getfield 22, 3) := by decide +kernel
theorem dX6_search_44 : decode cX6_search 44 = .ok (.iconst 0, 1) := by decide +kernel
theorem dX6_search_45 : decode cX6_search 45 = .ok (.iconst (-1), 1) := by decide +kernel
theorem dX6_search_46 : decode cX6_search 46 = .ok (.iastore, 1) := by decide +kernel
theorem dX6_search_47 : decode cX6_search 47 = .ok (.iload_n 2, 1) := by decide +kernel
theorem dX6_search_48 : decode cX6_search 48 = .ok (.ifCond .lt 206, 3) := by decide +kernel
theorem dX6_search_51 : decode cX6_search 51 = .ok (.aload_n 0, 1) := by decide +kernel
theorem dX6_search_52 : decode cX6_search 52 = .ok (.getfield 22, 3) := by decide +kernel
theorem dX6_search_55 : decode cX6_search 55 = .ok (.iload_n 2, 1) := by decide +kernel
theorem dX6_search_56 : decode cX6_search 56 = .ok (.dup2, 1) := by decide +kernel
theorem dX6_search_57 : decode cX6_search 57 = .ok (.iaload, 1) := by decide +kernel
theorem dX6_search_58 : decode cX6_search 58 = .ok (.iconst 1, 1) := by decide +kernel
theorem dX6_search_59 : decode cX6_search 59 = .ok (.iadd, 1) := by decide +kernel
theorem dX6_search_60 : decode cX6_search 60 = .ok (.iastore, 1) := by decide +kernel
theorem dX6_search_61 : decode cX6_search 61 = .ok (.aload_n 0, 1) := by decide +kernel
theorem dX6_search_62 : decode cX6_search 62 = .ok (.getfield 22, 3) := by decide +kernel
theorem dX6_search_65 : decode cX6_search 65 = .ok (.iload_n 2, 1) := by decide +kernel
theorem dX6_search_66 : decode cX6_search 66 = .ok (.iaload, 1) := by decide +kernel
theorem dX6_search_67 : decode cX6_search 67 = .ok (.iconst 4, 1) := by decide +kernel
theorem dX6_search_68 : decode cX6_search 68 = .ok (.if_icmp .ne 20, 3) := by decide +kernel
theorem dX6_search_71 : decode cX6_search 71 = .ok (.aload_n 0, 1) := by decide +kernel
theorem dX6_search_72 : decode cX6_search 72 = .ok (.getfield 22, 3) := by decide +kernel
theorem dX6_search_75 : decode cX6_search 75 = .ok (.iload_n 2, 1) := by decide +kernel
theorem dX6_search_76 : decode cX6_search 76 = .ok (.iconst 0, 1) := by decide +kernel
theorem dX6_search_77 : decode cX6_search 77 = .ok (.iastore, 1) := by decide +kernel
theorem dX6_search_78 : decode cX6_search 78 = .ok (.aload_n 0, 1) := by decide +kernel
theorem dX6_search_79 : decode cX6_search 79 = .ok (.getfield 19, 3) := by decide +kernel
theorem dX6_search_82 : decode cX6_search 82 = .ok (.iload_n 2, 1) := by decide +kernel
theorem dX6_search_83 : decode cX6_search 83 = .ok (.dup2, 1) := by decide +kernel
theorem dX6_search_84 : decode cX6_search 84 = .ok (.iaload, 1) := by decide +kernel
theorem dX6_search_85 : decode cX6_search 85 = .ok (.iconst 1, 1) := by decide +kernel
theorem dX6_search_86 : decode cX6_search 86 = .ok (.iadd, 1) := by decide +kernel
theorem dX6_search_87 : decode cX6_search 87 = .ok (.iastore, 1) := by decide +kernel
theorem dX6_search_88 : decode cX6_search 88 = .ok (.aload_n 0, 1) := by decide +kernel
theorem dX6_search_89 : decode cX6_search 89 = .ok (.getfield 19, 3) := by decide +kernel
theorem dX6_search_92 : decode cX6_search 92 = .ok (.iload_n 2, 1) := by decide +kernel
theorem dX6_search_93 : decode cX6_search 93 = .ok (.iaload, 1) := by decide +kernel
theorem dX6_search_94 : decode cX6_search 94 = .ok (.aload_n 0, 1) := by decide +kernel
theorem dX6_search_95 : decode cX6_search 95 = .ok (.getfield 83, 3) := by decide +kernel
theorem dX6_search_98 : decode cX6_search 98 = .ok (.if_icmp .ge 30, 3) := by decide +kernel
theorem dX6_search_101 : decode cX6_search 101 = .ok (.aload_n 0, 1) := by decide +kernel
theorem dX6_search_102 : decode cX6_search 102 = .ok (.getfield 25, 3) := by decide +kernel
theorem dX6_search_105 : decode cX6_search 105 = .ok (.aload_n 0, 1) := by decide +kernel
theorem dX6_search_106 : decode cX6_search 106 = .ok (.getfield 19, 3) := by decide +kernel
theorem dX6_search_109 : decode cX6_search 109 = .ok (.iload_n 2, 1) := by decide +kernel
theorem dX6_search_110 : decode cX6_search 110 = .ok (.iaload, 1) := by decide +kernel
theorem dX6_search_111 : decode cX6_search 111 = .ok (.baload, 1) := by decide +kernel
theorem dX6_search_112 : decode cX6_search 112 = .ok (.ifCond .eq 16, 3) := by decide +kernel
theorem dX6_search_115 : decode cX6_search 115 = .ok (.aload_n 0, 1) := by decide +kernel
theorem dX6_search_116 : decode cX6_search 116 = .ok (.getfield 19, 3) := by decide +kernel
theorem dX6_search_119 : decode cX6_search 119 = .ok (.iload_n 2, 1) := by decide +kernel
theorem dX6_search_120 : decode cX6_search 120 = .ok (.dup2, 1) := by decide +kernel
theorem dX6_search_121 : decode cX6_search 121 = .ok (.iaload, 1) := by decide +kernel
theorem dX6_search_122 : decode cX6_search 122 = .ok (.iconst 1, 1) := by decide +kernel
theorem dX6_search_123 : decode cX6_search 123 = .ok (.iadd, 1) := by decide +kernel
theorem dX6_search_124 : decode cX6_search 124 = .ok (.iastore, 1) := by decide +kernel
theorem dX6_search_125 : decode cX6_search 125 = .ok (.goto (-37), 3) := by decide +kernel
theorem dX6_search_128 : decode cX6_search 128 = .ok (.aload_n 0, 1) := by decide +kernel
theorem dX6_search_129 : decode cX6_search 129 = .ok (.getfield 19, 3) := by decide +kernel
theorem dX6_search_132 : decode cX6_search 132 = .ok (.iload_n 2, 1) := by decide +kernel
theorem dX6_search_133 : decode cX6_search 133 = .ok (.iaload, 1) := by decide +kernel
theorem dX6_search_134 : decode cX6_search 134 = .ok (.aload_n 0, 1) := by decide +kernel
theorem dX6_search_135 : decode cX6_search 135 = .ok (.getfield 83, 3) := by decide +kernel
theorem dX6_search_138 : decode cX6_search 138 = .ok (.if_icmp .lt 25, 3) := by decide +kernel
theorem dX6_search_141 : decode cX6_search 141 = .ok (.iinc 2 (-1), 3) := by decide +kernel
theorem dX6_search_144 : decode cX6_search 144 = .ok (.iload_n 2, 1) := by decide +kernel
theorem dX6_search_145 : decode cX6_search 145 = .ok (.ifCond .lt (-98), 3) := by decide +kernel
theorem dX6_search_148 : decode cX6_search 148 = .ok (.aload_n 0, 1) := by decide +kernel
theorem dX6_search_149 : decode cX6_search 149 = .ok (.getfield 25, 3) := by decide +kernel
theorem dX6_search_152 : decode cX6_search 152 = .ok (.aload_n 0, 1) := by decide +kernel
theorem dX6_search_153 : decode cX6_search 153 = .ok (.getfield 19, 3) := by decide +kernel
theorem dX6_search_156 : decode cX6_search 156 = .ok (.iload_n 2, 1) := by decide +kernel
theorem dX6_search_157 : decode cX6_search 157 = .ok (.iaload, 1) := by decide +kernel
theorem dX6_search_158 : decode cX6_search 158 = .ok (.iconst 0, 1) := by decide +kernel
theorem dX6_search_159 : decode cX6_search 159 = .ok (.bastore, 1) := by decide +kernel
theorem dX6_search_160 : decode cX6_search 160 = .ok (.goto (-113), 3) := by decide +kernel
theorem dX6_search_163 : decode cX6_search 163 = .ok (.aload_n 0, 1) := by decide +kernel
theorem dX6_search_164 : decode cX6_search 164 = .ok (.getfield 177, 3) := by decide +kernel
theorem dX6_search_167 : decode cX6_search 167 = .ok (.ldc 183, 2) := by decide +kernel
theorem dX6_search_169 : decode cX6_search 169 = .ok (.if_icmp .ne 5, 3) := by decide +kernel
theorem dX6_search_172 : decode cX6_search 172 = .ok (.iconst 0, 1) := by decide +kernel
theorem dX6_search_173 : decode cX6_search 173 = .ok (.ireturn, 1) := by decide +kernel
theorem dX6_search_174 : decode cX6_search 174 = .ok (.aload_n 0, 1) := by decide +kernel
theorem dX6_search_175 : decode cX6_search 175 = .ok (.dup, 1) := by decide +kernel
theorem dX6_search_176 : decode cX6_search 176 = .ok (.getfield 177, 3) := by decide +kernel
theorem dX6_search_179 : decode cX6_search 179 = .ok (.iconst 1, 1) := by decide +kernel
theorem dX6_search_180 : decode cX6_search 180 = .ok (.iadd, 1) := by decide +kernel
theorem dX6_search_181 : decode cX6_search 181 = .ok (.putfield 177, 3) := by decide +kernel
theorem dX6_search_184 : decode cX6_search 184 = .ok (.aload_n 0, 1) := by decide +kernel
theorem dX6_search_185 : decode cX6_search 185 = .ok (.iload_n 2, 1) := by decide +kernel
theorem dX6_search_186 : decode cX6_search 186 = .ok (.invokevirtual 184, 3) := by decide +kernel
theorem dX6_search_189 : decode cX6_search 189 = .ok (.ifCond .eq (-142), 3) := by decide +kernel
theorem dX6_search_192 : decode cX6_search 192 = .ok (.iload_n 2, 1) := by decide +kernel
theorem dX6_search_193 : decode cX6_search 193 = .ok (.aload_n 0, 1) := by decide +kernel
theorem dX6_search_194 : decode cX6_search 194 = .ok (.invokevirtual 74, 3) := by decide +kernel
theorem dX6_search_197 : decode cX6_search 197 = .ok (.iconst 1, 1) := by decide +kernel
theorem dX6_search_198 : decode cX6_search 198 = .ok (.isub, 1) := by decide +kernel
theorem dX6_search_199 : decode cX6_search 199 = .ok (.if_icmp .ne 23, 3) := by decide +kernel
theorem dX6_search_202 : decode cX6_search 202 = .ok (.aload_n 0, 1) := by decide +kernel
theorem dX6_search_203 : decode cX6_search 203 = .ok (.dup, 1) := by decide +kernel
theorem dX6_search_204 : decode cX6_search 204 = .ok (.getfield 180, 3) := by decide +kernel
theorem dX6_search_207 : decode cX6_search 207 = .ok (.iconst 1, 1) := by decide +kernel
theorem dX6_search_208 : decode cX6_search 208 = .ok (.iadd, 1) := by decide +kernel
theorem dX6_search_209 : decode cX6_search 209 = .ok (.putfield 180, 3) := by decide +kernel
theorem dX6_search_212 : decode cX6_search 212 = .ok (.aload_n 0, 1) := by decide +kernel
theorem dX6_search_213 : decode cX6_search 213 = .ok (.getfield 180, 3) := by decide +kernel
theorem dX6_search_216 : decode cX6_search 216 = .ok (.iload_n 1, 1) := by decide +kernel
theorem dX6_search_217 : decode cX6_search 217 = .ok (.if_icmp .ne (-170), 3) := by decide +kernel
theorem dX6_search_220 : decode cX6_search 220 = .ok (.iconst 1, 1) := by decide +kernel
theorem dX6_search_221 : decode cX6_search 221 = .ok (.ireturn, 1) := by decide +kernel
theorem dX6_search_222 : decode cX6_search 222 = .ok (.aload_n 0, 1) := by decide +kernel
theorem dX6_search_223 : decode cX6_search 223 = .ok (.getfield 25, 3) := by decide +kernel
theorem dX6_search_226 : decode cX6_search 226 = .ok (.aload_n 0, 1) := by decide +kernel
theorem dX6_search_227 : decode cX6_search 227 = .ok (.getfield 19, 3) := by decide +kernel
theorem dX6_search_230 : decode cX6_search 230 = .ok (.iload_n 2, 1) := by decide +kernel
theorem dX6_search_231 : decode cX6_search 231 = .ok (.iaload, 1) := by decide +kernel
theorem dX6_search_232 : decode cX6_search 232 = .ok (.iconst 1, 1) := by decide +kernel
theorem dX6_search_233 : decode cX6_search 233 = .ok (.bastore, 1) := by decide +kernel
theorem dX6_search_234 : decode cX6_search 234 = .ok (.iinc 2 1, 3) := by decide +kernel
theorem dX6_search_237 : decode cX6_search 237 = .ok (.aload_n 0, 1) := by decide +kernel
theorem dX6_search_238 : decode cX6_search 238 = .ok (.getfield 19, 3) := by decide +kernel
theorem dX6_search_241 : decode cX6_search 241 = .ok (.iload_n 2, 1) := by decide +kernel
theorem dX6_search_242 : decode cX6_search 242 = .ok (.iconst 0, 1) := by decide +kernel
theorem dX6_search_243 : decode cX6_search 243 = .ok (.iastore, 1) := by decide +kernel
theorem dX6_search_244 : decode cX6_search 244 = .ok (.aload_n 0, 1) := by decide +kernel
theorem dX6_search_245 : decode cX6_search 245 = .ok (.getfield 22, 3) := by decide +kernel
theorem dX6_search_248 : decode cX6_search 248 = .ok (.iload_n 2, 1) := by decide +kernel
theorem dX6_search_249 : decode cX6_search 249 = .ok (.iconst (-1), 1) := by decide +kernel
theorem dX6_search_250 : decode cX6_search 250 = .ok (.iastore, 1) := by decide +kernel
theorem dX6_search_251 : decode cX6_search 251 = .ok (.goto (-204), 3) := by decide +kernel
theorem dX6_search_254 : decode cX6_search 254 = .ok (.iconst 1, 1) := by decide +kernel
theorem dX6_search_255 : decode cX6_search 255 = .ok (.ireturn, 1) := by decide +kernel
set_option maxRecDepth 20000 in
theorem ggX6_ways_X6_search : GoodIn wsX6_ways wsX6_search := goodIn_r _ [6, 7, 1, 8, 9, 10, 11, 12, 13, 14, 15, 5, 16, 17, 18, 19, 20, 21, 22, 23, 24, 25, 26, 27, 28, 29, 30, 31, 32, 33, 34, 35, 36, 37, 38, 39, 40, 41, 42, 43, 44, 45, 46, 47, 48, 49, 50, 51, 52, 53, 54, 55, 56, 57, 58, 59, 60, 61, 62, 63, 64, 65, 66, 67, 68, 69, 70, 71, 72, 73, 74, 75, 76, 77, 78, 79] (by decide +kernel) (by decide +kernel)
set_option maxRecDepth 20000 in
theorem gX6_ways_X6_search : GoodIn wsX6_ways (wsV RX6 187 RX6 yX6_search wsX6_search) := goodIn_app (goodIn_of _ (by decide +kernel)) ggX6_ways_X6_search
theorem dX6_ways_0 : decode cX6_ways 0 = .ok (.aload_n 0, 1) := by decide +kernel
theorem dX6_ways_1 : decode cX6_ways 1 = .ok (.iconst (-1), 1) := by decide +kernel
theorem dX6_ways_2 : decode cX6_ways 2 = .ok (.invokevirtual 187, 3) := by decide +kernel
theorem dX6_ways_5 : decode cX6_ways 5 = .ok (.ifCond .eq 10, 3) := by decide +kernel
theorem dX6_ways_8 : decode cX6_ways 8 = .ok (.aload_n 0, 1) := by decide +kernel
theorem dX6_ways_9 : decode cX6_ways 9 = .ok (.getfield 180, 3) := by decide +kernel
theorem dX6_ways_12 : decode cX6_ways 12 = .ok (.goto 5, 3) := by decide +kernel
theorem dX6_ways_15 : decode cX6_ways 15 = .ok (.bipush (-6), 2) := by decide +kernel
theorem dX6_ways_17 : decode cX6_ways 17 = .ok (.ireturn, 1) := by decide +kernel
set_option maxRecDepth 20000 in
theorem ggX6_join_X6_search : GoodIn wsX6_join wsX6_search := goodIn_r _ [11, 12, 1, 13, 4, 6, 14, 15, 16, 17, 18, 10, 19, 20, 21, 22, 23, 24, 25, 26, 27, 28, 29, 30, 31, 32, 33, 34, 35, 36, 37, 38, 39, 40, 41, 42, 43, 44, 45, 46, 47, 48, 49, 50, 51, 52, 53, 54, 55, 56, 57, 58, 59, 60, 61, 62, 63, 64, 65, 66, 67, 68, 69, 70, 71, 72, 73, 74, 75, 76, 77, 78, 79, 80, 81, 82] (by decide +kernel) (by decide +kernel)
set_option maxRecDepth 20000 in
theorem gX6_join_X6_search : GoodIn wsX6_join (wsV RX6 187 RX6 yX6_search wsX6_search) := goodIn_app (goodIn_of _ (by decide +kernel)) ggX6_join_X6_search
set_option maxRecDepth 20000 in
theorem ggX6_join_X6_pieces : GoodIn wsX6_join wsX6_pieces := goodIn_r _ [59, 20, 21, 60, 61, 62, 63, 64, 65, 66, 67, 68, 69, 70, 71, 72, 73, 74, 75, 76, 77, 78, 79, 80, 81, 82] (by decide +kernel) (by decide +kernel)
set_option maxRecDepth 20000 in
theorem gX6_join_X6_pieces : GoodIn wsX6_join (wsV RX6 74 RX6 yX6_pieces wsX6_pieces) := goodIn_app (goodIn_of _ (by decide +kernel)) ggX6_join_X6_pieces
theorem dX6_join_0 : decode cX6_join 0 = .ok (.aload_n 0, 1) := by decide +kernel
theorem dX6_join_1 : decode cX6_join 1 = .ok (.iconst 1, 1) := by decide +kernel
theorem dX6_join_2 : decode cX6_join 2 = .ok (.invokevirtual 187, 3) := by decide +kernel
theorem dX6_join_5 : decode cX6_join 5 = .ok (.ifCond .ne 6, 3) := by decide +kernel
theorem dX6_join_8 : decode cX6_join 8 = .ok (.bipush (-6), 2) := by decide +kernel
theorem dX6_join_10 : decode cX6_join 10 = .ok (.ireturn, 1) := by decide +kernel
theorem dX6_join_11 : decode cX6_join 11 = .ok (.aload_n 0, 1) := by decide +kernel
theorem dX6_join_12 : decode cX6_join 12 = .ok (.aload_n 0, 1) := by decide +kernel
theorem dX6_join_13 : decode cX6_join 13 = .ok (.getfield 180, 3) := by decide +kernel
theorem dX6_join_16 : decode cX6_join 16 = .ok (.iconst 1, 1) := by decide +kernel
theorem dX6_join_17 : decode cX6_join 17 = .ok (.if_icmp .ne 7, 3) := by decide +kernel
theorem dX6_join_20 : decode cX6_join 20 = .ok (.iconst 1, 1) := by decide +kernel
theorem dX6_join_21 : decode cX6_join 21 = .ok (.goto 4, 3) := by decide +kernel
theorem dX6_join_24 : decode cX6_join 24 = .ok (.iconst 0, 1) := by decide +kernel
theorem dX6_join_25 : decode cX6_join 25 = .ok (.putfield 77, 3) := by decide +kernel
theorem dX6_join_28 : decode cX6_join 28 = .ok (.iconst 0, 1) := by decide +kernel
theorem dX6_join_29 : decode cX6_join 29 = .ok (.istore_n 1, 1) := by decide +kernel
theorem dX6_join_30 : decode cX6_join 30 = .ok (.iload_n 1, 1) := by decide +kernel
theorem dX6_join_31 : decode cX6_join 31 = .ok (.aload_n 0, 1) := by decide +kernel
theorem dX6_join_32 : decode cX6_join 32 = .ok (.invokevirtual 74, 3) := by decide +kernel
theorem dX6_join_35 : decode cX6_join 35 = .ok (.if_icmp .ge 40, 3) := by decide +kernel
theorem dX6_join_38 : decode cX6_join 38 = .ok (.aload_n 0, 1) := by decide +kernel
theorem dX6_join_39 : decode cX6_join 39 = .ok (.getfield 77, 3) := by decide +kernel
theorem dX6_join_42 : decode cX6_join 42 = .ok (.ifCond .eq 33, 3) := by decide +kernel
theorem dX6_join_45 : decode cX6_join 45 = .ok (.aload_n 0, 1) := by decide +kernel
theorem dX6_join_46 : decode cX6_join 46 = .ok (.getfield 29, 3) := by decide +kernel
theorem dX6_join_49 : decode cX6_join 49 = .ok (.iload_n 1, 1) := by decide +kernel
theorem dX6_join_50 : decode cX6_join 50 = .ok (.aload_n 0, 1) := by decide +kernel
theorem dX6_join_51 : decode cX6_join 51 = .ok (.getfield 19, 3) := by decide +kernel
theorem dX6_join_54 : decode cX6_join 54 = .ok (.iload_n 1, 1) := by decide +kernel
theorem dX6_join_55 : decode cX6_join 55 = .ok (.iaload, 1) := by decide +kernel
theorem dX6_join_56 : decode cX6_join 56 = .ok (.iastore, 1) := by decide +kernel
theorem dX6_join_57 : decode cX6_join 57 = .ok (.aload_n 0, 1) := by decide +kernel
theorem dX6_join_58 : decode cX6_join 58 = .ok (.getfield 32, 3) := by decide +kernel
theorem dX6_join_61 : decode cX6_join 61 = .ok (.iload_n 1, 1) := by decide +kernel
theorem dX6_join_62 : decode cX6_join 62 = .ok (.aload_n 0, 1) := by decide +kernel
theorem dX6_join_63 : decode cX6_join 63 = .ok (.getfield 22, 3) := by decide +kernel
theorem dX6_join_66 : decode cX6_join 66 = .ok (.iload_n 1, 1) := by decide +kernel
theorem dX6_join_67 : decode cX6_join 67 = .ok (.iaload, 1) := by decide +kernel
theorem dX6_join_68 : decode cX6_join 68 = .ok (.iastore, 1) := by decide +kernel
theorem dX6_join_69 : decode cX6_join 69 = .ok (.iinc 1 1, 3) := by decide +kernel
theorem dX6_join_72 : decode cX6_join 72 = .ok (.goto (-42), 3) := by decide +kernel
theorem dX6_join_75 : decode cX6_join 75 = .ok (.aload_n 0, 1) := by decide +kernel
theorem dX6_join_76 : decode cX6_join 76 = .ok (.getfield 180, 3) := by decide +kernel
theorem dX6_join_79 : decode cX6_join 79 = .ok (.ireturn, 1) := by decide +kernel
set_option maxRecDepth 20000 in
theorem ggX6_joined_X6_noPiece : GoodIn wsX6_joined wsX6_noPiece := goodIn_r _ [8, 9, 10, 11, 7, 12, 13, 14, 15, 16, 17, 18, 19, 20, 21, 22, 23, 24, 25, 26, 27, 28, 29, 30, 31, 32, 33, 34, 35, 36, 37, 38, 39, 40] (by decide +kernel) (by decide +kernel)
set_option maxRecDepth 20000 in
theorem gX6_joined_X6_noPiece : GoodIn wsX6_joined (wsV RX6 115 RX6 yX6_noPiece wsX6_noPiece) := goodIn_app (goodIn_of _ (by decide +kernel)) ggX6_joined_X6_noPiece
theorem dX6_joined_0 : decode cX6_joined 0 = .ok (.aload_n 0, 1) := by decide +kernel
theorem dX6_joined_1 : decode cX6_joined 1 = .ok (.getfield 77, 3) := by decide +kernel
theorem dX6_joined_4 : decode cX6_joined 4 = .ok (.ifCond .ne 6, 3) := by decide +kernel
theorem dX6_joined_7 : decode cX6_joined 7 = .ok (.bipush (-3), 2) := by decide +kernel
theorem dX6_joined_9 : decode cX6_joined 9 = .ok (.ireturn, 1) := by decide +kernel
theorem dX6_joined_10 : decode cX6_joined 10 = .ok (.aload_n 0, 1) := by decide +kernel
theorem dX6_joined_11 : decode cX6_joined 11 = .ok (.iload_n 1, 1) := by decide +kernel
theorem dX6_joined_12 : decode cX6_joined 12 = .ok (.invokevirtual 115, 3) := by decide +kernel
theorem dX6_joined_15 : decode cX6_joined 15 = .ok (.ifCond .eq 5, 3) := by decide +kernel
theorem dX6_joined_18 : decode cX6_joined 18 = .ok (.iconst (-1), 1) := by decide +kernel
theorem dX6_joined_19 : decode cX6_joined 19 = .ok (.ireturn, 1) := by decide +kernel
theorem dX6_joined_20 : decode cX6_joined 20 = .ok (.iload_n 2, 1) := by decide +kernel
theorem dX6_joined_21 : decode cX6_joined 21 = .ok (.ifCond .ne 12, 3) := by decide +kernel
theorem dX6_joined_24 : decode cX6_joined 24 = .ok (.aload_n 0, 1) := by decide +kernel
theorem dX6_joined_25 : decode cX6_joined 25 = .ok (.getfield 29, 3) := by decide +kernel
theorem dX6_joined_28 : decode cX6_joined 28 = .ok (.iload_n 1, 1) := by decide +kernel
theorem dX6_joined_29 : decode cX6_joined 29 = .ok (.iaload, 1) := by decide +kernel
theorem dX6_joined_30 : decode cX6_joined 30 = .ok (.goto 19, 3) := by decide +kernel
theorem dX6_joined_33 : decode cX6_joined 33 = .ok (.iload_n 2, 1) := by decide +kernel
theorem dX6_joined_34 : decode cX6_joined 34 = .ok (.iconst 1, 1) := by decide +kernel
theorem dX6_joined_35 : decode cX6_joined 35 = .ok (.if_icmp .ne 12, 3) := by decide +kernel
theorem dX6_joined_38 : decode cX6_joined 38 = .ok (.aload_n 0, 1) := by decide +kernel
theorem dX6_joined_39 : decode cX6_joined 39 = .ok (.getfield 32, 3) := by decide +kernel
theorem dX6_joined_42 : decode cX6_joined 42 = .ok (.iload_n 1, 1) := by decide +kernel
theorem dX6_joined_43 : decode cX6_joined 43 = .ok (.iaload, 1) := by decide +kernel
theorem dX6_joined_44 : decode cX6_joined 44 = .ok (.goto 5, 3) := by decide +kernel
theorem dX6_joined_47 : decode cX6_joined 47 = .ok (.bipush (-2), 2) := by decide +kernel
theorem dX6_joined_49 : decode cX6_joined 49 = .ok (.ireturn, 1) := by decide +kernel
theorem dX6_trials_0 : decode cX6_trials 0 = .ok (.aload_n 0, 1) := by decide +kernel
theorem dX6_trials_1 : decode cX6_trials 1 = .ok (.getfield 177, 3) := by decide +kernel
theorem dX6_trials_4 : decode cX6_trials 4 = .ok (.ireturn, 1) := by decide +kernel
theorem dX6_neighbour_0 : decode cX6_neighbour 0 = .ok (.iload_n 2, 1) := by decide +kernel
theorem dX6_neighbour_1 : decode cX6_neighbour 1 = .ok (.ifCond .ne 12, 3) := by decide +kernel
theorem dX6_neighbour_4 : decode cX6_neighbour 4 = .ok (.iload_n 1, 1) := by decide +kernel
theorem dX6_neighbour_5 : decode cX6_neighbour 5 = .ok (.aload_n 0, 1) := by decide +kernel
theorem dX6_neighbour_6 : decode cX6_neighbour 6 = .ok (.getfield 47, 3) := by decide +kernel
theorem dX6_neighbour_9 : decode cX6_neighbour 9 = .ok (.isub, 1) := by decide +kernel
theorem dX6_neighbour_10 : decode cX6_neighbour 10 = .ok (.goto 31, 3) := by decide +kernel
theorem dX6_neighbour_13 : decode cX6_neighbour 13 = .ok (.iload_n 2, 1) := by decide +kernel
theorem dX6_neighbour_14 : decode cX6_neighbour 14 = .ok (.iconst 1, 1) := by decide +kernel
theorem dX6_neighbour_15 : decode cX6_neighbour 15 = .ok (.if_icmp .ne 9, 3) := by decide +kernel
theorem dX6_neighbour_18 : decode cX6_neighbour 18 = .ok (.iload_n 1, 1) := by decide +kernel
theorem dX6_neighbour_19 : decode cX6_neighbour 19 = .ok (.iconst 1, 1) := by decide +kernel
theorem dX6_neighbour_20 : decode cX6_neighbour 20 = .ok (.iadd, 1) := by decide +kernel
theorem dX6_neighbour_21 : decode cX6_neighbour 21 = .ok (.goto 20, 3) := by decide +kernel
theorem dX6_neighbour_24 : decode cX6_neighbour 24 = .ok (.iload_n 2, 1) := by decide +kernel
theorem dX6_neighbour_25 : decode cX6_neighbour 25 = .ok (.iconst 2, 1) := by decide +kernel
theorem dX6_neighbour_26 : decode cX6_neighbour 26 = .ok (.if_icmp .ne 12, 3) := by decide +kernel
theorem dX6_neighbour_29 : decode cX6_neighbour 29 = .ok (.iload_n 1, 1) := by decide +kernel
theorem dX6_neighbour_30 : decode cX6_neighbour 30 = .ok (.aload_n 0, 1) := by decide +kernel
theorem dX6_neighbour_31 : decode cX6_neighbour 31 = .ok (.getfield 47, 3) := by decide +kernel
theorem dX6_neighbour_34 : decode cX6_neighbour 34 = .ok (.iadd, 1) := by decide +kernel
theorem dX6_neighbour_35 : decode cX6_neighbour 35 = .ok (.goto 6, 3) := by decide +kernel
theorem dX6_neighbour_38 : decode cX6_neighbour 38 = .ok (.iload_n 1, 1) := by decide +kernel
theorem dX6_neighbour_39 : decode cX6_neighbour 39 = .ok (.iconst 1, 1) := by decide +kernel
theorem dX6_neighbour_40 : decode cX6_neighbour 40 = .ok (.isub, 1) := by decide +kernel
theorem dX6_neighbour_41 : decode cX6_neighbour 41 = .ok (.ireturn, 1) := by decide +kernel
set_option maxRecDepth 20000 in
theorem ggX6_known_X6_noPiece : GoodIn wsX6_known wsX6_noPiece := goodIn_r _ [5, 6, 7, 8, 4, 9, 10, 11, 12, 13, 14, 33, 34, 35, 36, 37, 38, 39, 40, 41, 42, 43, 44, 45, 46, 47, 48, 49, 50, 51, 52, 53, 54, 55] (by decide +kernel) (by decide +kernel)
set_option maxRecDepth 20000 in
theorem gX6_known_X6_noPiece : GoodIn wsX6_known (wsV RX6 115 RX6 yX6_noPiece wsX6_noPiece) := goodIn_app (goodIn_of _ (by decide +kernel)) ggX6_known_X6_noPiece
set_option maxRecDepth 20000 in
theorem ggX6_known_X6_timesIn : GoodIn wsX6_known wsX6_timesIn := goodIn_r _ [18, 19, 20, 33, 34, 35, 36, 37, 38, 39, 40, 41, 42, 43, 44, 45, 46, 47, 48, 49, 50, 51, 52, 53, 54, 55] (by decide +kernel) (by decide +kernel)
set_option maxRecDepth 20000 in
theorem gX6_known_X6_timesIn : GoodIn wsX6_known (wsV RX6 158 RX6 yX6_timesIn wsX6_timesIn) := goodIn_app (goodIn_of _ (by decide +kernel)) ggX6_known_X6_timesIn
set_option maxRecDepth 20000 in
theorem ggX6_known_X6_sideAt : GoodIn wsX6_known wsX6_sideAt := goodIn_r _ [24, 10, 11, 25, 26, 27, 4, 28, 33, 34, 35, 36, 37, 38, 39, 40, 41, 42, 43, 44, 45, 46, 47, 48, 49, 50, 51, 52, 53, 54, 55] (by decide +kernel) (by decide +kernel)
set_option maxRecDepth 20000 in
theorem gX6_known_X6_sideAt : GoodIn wsX6_known (wsV RX6 120 RX6 yX6_sideAt wsX6_sideAt) := goodIn_app (goodIn_of _ (by decide +kernel)) ggX6_known_X6_sideAt
set_option maxRecDepth 20000 in
theorem ggX6_known_X6_neighbour : GoodIn wsX6_known wsX6_neighbour := goodIn_r _ [32, 10, 33, 34, 35, 36, 37, 38, 39, 40, 41, 42, 43, 44, 45, 46, 47, 48, 49, 50, 51, 52, 53, 54, 55] (by decide +kernel) (by decide +kernel)
set_option maxRecDepth 20000 in
theorem gX6_known_X6_neighbour : GoodIn wsX6_known (wsV RX6 190 RX6 yX6_neighbour wsX6_neighbour) := goodIn_app (goodIn_of _ (by decide +kernel)) ggX6_known_X6_neighbour
theorem dX6_known_0 : decode cX6_known 0 = .ok (.aload_n 0, 1) := by decide +kernel
theorem dX6_known_1 : decode cX6_known 1 = .ok (.iload_n 1, 1) := by decide +kernel
theorem dX6_known_2 : decode cX6_known 2 = .ok (.invokevirtual 115, 3) := by decide +kernel
theorem dX6_known_5 : decode cX6_known 5 = .ok (.ifCond .eq 5, 3) := by decide +kernel
theorem dX6_known_8 : decode cX6_known 8 = .ok (.iconst (-1), 1) := by decide +kernel
theorem dX6_known_9 : decode cX6_known 9 = .ok (.ireturn, 1) := by decide +kernel
theorem dX6_known_10 : decode cX6_known 10 = .ok (.aload_n 0, 1) := by decide +kernel
theorem dX6_known_11 : decode cX6_known 11 = .ok (.iload_n 1, 1) := by decide +kernel
theorem dX6_known_12 : decode cX6_known 12 = .ok (.invokevirtual 158, 3) := by decide +kernel
theorem dX6_known_15 : decode cX6_known 15 = .ok (.ifCond .le 6, 3) := by decide +kernel
theorem dX6_known_18 : decode cX6_known 18 = .ok (.bipush (-3), 2) := by decide +kernel
theorem dX6_known_20 : decode cX6_known 20 = .ok (.ireturn, 1) := by decide +kernel
theorem dX6_known_21 : decode cX6_known 21 = .ok (.iconst 0, 1) := by decide +kernel
theorem dX6_known_22 : decode cX6_known 22 = .ok (.istore_n 2, 1) := by decide +kernel
theorem dX6_known_23 : decode cX6_known 23 = .ok (.iconst 0, 1) := by decide +kernel
theorem dX6_known_24 : decode cX6_known 24 = .ok (.istore_n 3, 1) := by decide +kernel
theorem dX6_known_25 : decode cX6_known 25 = .ok (.iload_n 3, 1) := by decide +kernel
theorem dX6_known_26 : decode cX6_known 26 = .ok (.iconst 4, 1) := by decide +kernel
theorem dX6_known_27 : decode cX6_known 27 = .ok (.if_icmp .ge 39, 3) := by decide +kernel
theorem dX6_known_30 : decode cX6_known 30 = .ok (.iload_n 2, 1) := by decide +kernel
theorem dX6_known_31 : decode cX6_known 31 = .ok (.aload_n 0, 1) := by decide +kernel
theorem dX6_known_32 : decode cX6_known 32 = .ok (.iload_n 1, 1) := by decide +kernel
theorem dX6_known_33 : decode cX6_known 33 = .ok (.iload_n 3, 1) := by decide +kernel
theorem dX6_known_34 : decode cX6_known 34 = .ok (.invokevirtual 120, 3) := by decide +kernel
theorem dX6_known_37 : decode cX6_known 37 = .ok (.ifCond .lt 20, 3) := by decide +kernel
theorem dX6_known_40 : decode cX6_known 40 = .ok (.aload_n 0, 1) := by decide +kernel
theorem dX6_known_41 : decode cX6_known 41 = .ok (.aload_n 0, 1) := by decide +kernel
theorem dX6_known_42 : decode cX6_known 42 = .ok (.iload_n 1, 1) := by decide +kernel
theorem dX6_known_43 : decode cX6_known 43 = .ok (.iload_n 3, 1) := by decide +kernel
theorem dX6_known_44 : decode cX6_known 44 = .ok (.invokevirtual 190, 3) := by decide +kernel
theorem dX6_known_47 : decode cX6_known 47 = .ok (.invokevirtual 158, 3) := by decide +kernel
theorem dX6_known_50 : decode cX6_known 50 = .ok (.ifCond .le 7, 3) := by decide +kernel
theorem dX6_known_53 : decode cX6_known 53 = .ok (.iconst 5, 1) := by decide +kernel
theorem dX6_known_54 : decode cX6_known 54 = .ok (.goto 4, 3) := by decide +kernel
theorem dX6_known_57 : decode cX6_known 57 = .ok (.iconst 0, 1) := by decide +kernel
theorem dX6_known_58 : decode cX6_known 58 = .ok (.iadd, 1) := by decide +kernel
theorem dX6_known_59 : decode cX6_known 59 = .ok (.istore_n 2, 1) := by decide +kernel
theorem dX6_known_60 : decode cX6_known 60 = .ok (.iinc 3 1, 3) := by decide +kernel
theorem dX6_known_63 : decode cX6_known 63 = .ok (.goto (-38), 3) := by decide +kernel
theorem dX6_known_66 : decode cX6_known 66 = .ok (.iload_n 2, 1) := by decide +kernel
theorem dX6_known_67 : decode cX6_known 67 = .ok (.ireturn, 1) := by decide +kernel
set_option maxRecDepth 20000 in
theorem ggX6_noSheet_X6_in : GoodIn wsX6_noSheet wsX6_in := goodIn_r _ [5] (by decide +kernel) (by decide +kernel)
set_option maxRecDepth 20000 in
theorem gX6_noSheet_X6_in : GoodIn wsX6_noSheet (va_wsS RX6 70 yX6_in wsX6_in) := goodIn_app (goodIn_of _ (by decide +kernel)) ggX6_noSheet_X6_in
theorem dX6_noSheet_0 : decode cX6_noSheet 0 = .ok (.iload_n 0, 1) := by decide +kernel
theorem dX6_noSheet_1 : decode cX6_noSheet 1 = .ok (.i2l, 1) := by decide +kernel
theorem dX6_noSheet_2 : decode cX6_noSheet 2 = .ok (.lconst 0, 1) := by decide +kernel
theorem dX6_noSheet_3 : decode cX6_noSheet 3 = .ok (.ldc2_w 118, 3) := by decide +kernel
theorem dX6_noSheet_6 : decode cX6_noSheet 6 = .ok (.invokestatic 70, 3) := by decide +kernel
theorem dX6_noSheet_9 : decode cX6_noSheet 9 = .ok (.ifCond .ne 7, 3) := by decide +kernel
theorem dX6_noSheet_12 : decode cX6_noSheet 12 = .ok (.iconst 1, 1) := by decide +kernel
theorem dX6_noSheet_13 : decode cX6_noSheet 13 = .ok (.goto 4, 3) := by decide +kernel
theorem dX6_noSheet_16 : decode cX6_noSheet 16 = .ok (.iconst 0, 1) := by decide +kernel
theorem dX6_noSheet_17 : decode cX6_noSheet 17 = .ok (.ireturn, 1) := by decide +kernel
set_option maxRecDepth 20000 in
theorem ggX6_sheet_X6_noSheet : GoodIn wsX6_sheet wsX6_noSheet := goodIn_r _ [8, 9, 10, 11, 7, 12] (by decide +kernel) (by decide +kernel)
set_option maxRecDepth 20000 in
theorem gX6_sheet_X6_noSheet : GoodIn wsX6_sheet (va_wsS RX6 193 yX6_noSheet wsX6_noSheet) := goodIn_app (goodIn_of _ (by decide +kernel)) ggX6_sheet_X6_noSheet
set_option maxRecDepth 20000 in
theorem ggX6_sheet_X6_refused : GoodIn wsX6_sheet wsX6_refused := goodIn_r _ [16, 17, 22, 23, 24, 25, 26, 27, 28, 29, 30, 31, 32, 33, 34, 35, 36, 37, 38, 39, 40, 41, 42, 43, 44] (by decide +kernel) (by decide +kernel)
set_option maxRecDepth 20000 in
theorem gX6_sheet_X6_refused : GoodIn wsX6_sheet (wsV RX6 196 RX6 yX6_refused wsX6_refused) := goodIn_app (goodIn_of _ (by decide +kernel)) ggX6_sheet_X6_refused
set_option maxRecDepth 20000 in
theorem ggX6_sheet_X6_in : GoodIn wsX6_sheet wsX6_in := goodIn_r _ [12] (by decide +kernel) (by decide +kernel)
set_option maxRecDepth 20000 in
theorem gX6_sheet_X6_in : GoodIn wsX6_sheet (va_wsS RX6 70 yX6_in wsX6_in) := goodIn_app (goodIn_of _ (by decide +kernel)) ggX6_sheet_X6_in
set_option maxRecDepth 20000 in
theorem ggX6_sheet_X6_failed : GoodIn wsX6_sheet wsX6_failed := goodIn_r _ [21, 17, 22, 23, 24, 25, 26, 27, 28, 29, 30, 31, 32, 33, 34, 35, 36, 37, 38, 39, 40, 41, 42, 43, 44] (by decide +kernel) (by decide +kernel)
set_option maxRecDepth 20000 in
theorem gX6_sheet_X6_failed : GoodIn wsX6_sheet (wsV RX6 201 RX6 yX6_failed wsX6_failed) := goodIn_app (goodIn_of _ (by decide +kernel)) ggX6_sheet_X6_failed
theorem dX6_sheet_0 : decode cX6_sheet 0 = .ok (.iload_n 1, 1) := by decide +kernel
theorem dX6_sheet_1 : decode cX6_sheet 1 = .ok (.invokestatic 193, 3) := by decide +kernel
theorem dX6_sheet_4 : decode cX6_sheet 4 = .ok (.ifCond .eq 9, 3) := by decide +kernel
theorem dX6_sheet_7 : decode cX6_sheet 7 = .ok (.aload_n 0, 1) := by decide +kernel
theorem dX6_sheet_8 : decode cX6_sheet 8 = .ok (.iconst (-1), 1) := by decide +kernel
theorem dX6_sheet_9 : decode cX6_sheet 9 = .ok (.invokevirtual 196, 3) := by decide +kernel
theorem dX6_sheet_12 : decode cX6_sheet 12 = .ok (.ireturn, 1) := by decide +kernel
theorem dX6_sheet_13 : decode cX6_sheet 13 = .ok (.iload_n 2, 1) := by decide +kernel
theorem dX6_sheet_14 : decode cX6_sheet 14 = .ok (.i2l, 1) := by decide +kernel
theorem dX6_sheet_15 : decode cX6_sheet 15 = .ok (.lconst 0, 1) := by decide +kernel
theorem dX6_sheet_16 : decode cX6_sheet 16 = .ok (.ldc2_w 199, 3) := by decide +kernel
theorem dX6_sheet_19 : decode cX6_sheet 19 = .ok (.invokestatic 70, 3) := by decide +kernel
theorem dX6_sheet_22 : decode cX6_sheet 22 = .ok (.ifCond .eq 9, 3) := by decide +kernel
theorem dX6_sheet_25 : decode cX6_sheet 25 = .ok (.iload_n 3, 1) := by decide +kernel
theorem dX6_sheet_26 : decode cX6_sheet 26 = .ok (.bipush 50, 2) := by decide +kernel
theorem dX6_sheet_28 : decode cX6_sheet 28 = .ok (.if_icmp .le 10, 3) := by decide +kernel
theorem dX6_sheet_31 : decode cX6_sheet 31 = .ok (.aload_n 0, 1) := by decide +kernel
theorem dX6_sheet_32 : decode cX6_sheet 32 = .ok (.bipush (-2), 2) := by decide +kernel
theorem dX6_sheet_34 : decode cX6_sheet 34 = .ok (.invokevirtual 196, 3) := by decide +kernel
theorem dX6_sheet_37 : decode cX6_sheet 37 = .ok (.ireturn, 1) := by decide +kernel
theorem dX6_sheet_38 : decode cX6_sheet 38 = .ok (.iload_n 3, 1) := by decide +kernel
theorem dX6_sheet_39 : decode cX6_sheet 39 = .ok (.ifCond .ge 9, 3) := by decide +kernel
theorem dX6_sheet_42 : decode cX6_sheet 42 = .ok (.aload_n 0, 1) := by decide +kernel
theorem dX6_sheet_43 : decode cX6_sheet 43 = .ok (.iconst 4, 1) := by decide +kernel
theorem dX6_sheet_44 : decode cX6_sheet 44 = .ok (.invokevirtual 201, 3) := by decide +kernel
theorem dX6_sheet_47 : decode cX6_sheet 47 = .ok (.ireturn, 1) := by decide +kernel
theorem dX6_sheet_48 : decode cX6_sheet 48 = .ok (.aload_n 0, 1) := by decide +kernel
theorem dX6_sheet_49 : decode cX6_sheet 49 = .ok (.getfield 35, 3) := by decide +kernel
theorem dX6_sheet_52 : decode cX6_sheet 52 = .ok (.iload_n 1, 1) := by decide +kernel
theorem dX6_sheet_53 : decode cX6_sheet 53 = .ok (.iload_n 3, 1) := by decide +kernel
theorem dX6_sheet_54 : decode cX6_sheet 54 = .ok (.iastore, 1) := by decide +kernel
theorem dX6_sheet_55 : decode cX6_sheet 55 = .ok (.aload_n 0, 1) := by decide +kernel
theorem dX6_sheet_56 : decode cX6_sheet 56 = .ok (.getfield 38, 3) := by decide +kernel
theorem dX6_sheet_59 : decode cX6_sheet 59 = .ok (.iload_n 1, 1) := by decide +kernel
theorem dX6_sheet_60 : decode cX6_sheet 60 = .ok (.iload_n 2, 1) := by decide +kernel
theorem dX6_sheet_61 : decode cX6_sheet 61 = .ok (.iastore, 1) := by decide +kernel
theorem dX6_sheet_62 : decode cX6_sheet 62 = .ok (.iconst 0, 1) := by decide +kernel
theorem dX6_sheet_63 : decode cX6_sheet 63 = .ok (.istore 4, 2) := by decide +kernel
theorem dX6_sheet_65 : decode cX6_sheet 65 = .ok (.iload 4, 2) := by decide +kernel
theorem dX6_sheet_67 : decode cX6_sheet 67 = .ok (.iload_n 3, 1) := by decide +kernel
theorem dX6_sheet_68 : decode cX6_sheet 68 = .ok (.if_icmp .ge 22, 3) := by decide +kernel
theorem dX6_sheet_71 : decode cX6_sheet 71 = .ok (.aload_n 0, 1) := by decide +kernel
theorem dX6_sheet_72 : decode cX6_sheet 72 = .ok (.getfield 41, 3) := by decide +kernel
theorem dX6_sheet_75 : decode cX6_sheet 75 = .ok (.bipush 50, 2) := by decide +kernel
theorem dX6_sheet_77 : decode cX6_sheet 77 = .ok (.iload_n 1, 1) := by decide +kernel
theorem dX6_sheet_78 : decode cX6_sheet 78 = .ok (.imul, 1) := by decide +kernel
theorem dX6_sheet_79 : decode cX6_sheet 79 = .ok (.iload 4, 2) := by decide +kernel
theorem dX6_sheet_81 : decode cX6_sheet 81 = .ok (.iadd, 1) := by decide +kernel
theorem dX6_sheet_82 : decode cX6_sheet 82 = .ok (.iconst 0, 1) := by decide +kernel
theorem dX6_sheet_83 : decode cX6_sheet 83 = .ok (.iastore, 1) := by decide +kernel
theorem dX6_sheet_84 : decode cX6_sheet 84 = .ok (.iinc 4 1, 3) := by decide +kernel
theorem dX6_sheet_87 : decode cX6_sheet 87 = .ok (.goto (-22), 3) := by decide +kernel
theorem dX6_sheet_90 : decode cX6_sheet 90 = .ok (.aload_n 0, 1) := by decide +kernel
theorem dX6_sheet_91 : decode cX6_sheet 91 = .ok (.iconst 1, 1) := by decide +kernel
theorem dX6_sheet_92 : decode cX6_sheet 92 = .ok (.invokevirtual 196, 3) := by decide +kernel
theorem dX6_sheet_95 : decode cX6_sheet 95 = .ok (.ireturn, 1) := by decide +kernel
set_option maxRecDepth 20000 in
theorem ggX6_lose_X6_noSheet : GoodIn wsX6_lose wsX6_noSheet := goodIn_r _ [5, 6, 7, 8, 4, 9] (by decide +kernel) (by decide +kernel)
set_option maxRecDepth 20000 in
theorem gX6_lose_X6_noSheet : GoodIn wsX6_lose (va_wsS RX6 193 yX6_noSheet wsX6_noSheet) := goodIn_app (goodIn_of _ (by decide +kernel)) ggX6_lose_X6_noSheet
theorem dX6_lose_0 : decode cX6_lose 0 = .ok (.iload_n 1, 1) := by decide +kernel
theorem dX6_lose_1 : decode cX6_lose 1 = .ok (.invokestatic 193, 3) := by decide +kernel
theorem dX6_lose_4 : decode cX6_lose 4 = .ok (.ifCond .eq 5, 3) := by decide +kernel
theorem dX6_lose_7 : decode cX6_lose 7 = .ok (.iconst (-1), 1) := by decide +kernel
theorem dX6_lose_8 : decode cX6_lose 8 = .ok (.ireturn, 1) := by decide +kernel
theorem dX6_lose_9 : decode cX6_lose 9 = .ok (.aload_n 0, 1) := by decide +kernel
theorem dX6_lose_10 : decode cX6_lose 10 = .ok (.getfield 35, 3) := by decide +kernel
theorem dX6_lose_13 : decode cX6_lose 13 = .ok (.iload_n 1, 1) := by decide +kernel
theorem dX6_lose_14 : decode cX6_lose 14 = .ok (.iaload, 1) := by decide +kernel
theorem dX6_lose_15 : decode cX6_lose 15 = .ok (.ifCond .ge 7, 3) := by decide +kernel
theorem dX6_lose_18 : decode cX6_lose 18 = .ok (.iconst 0, 1) := by decide +kernel
theorem dX6_lose_19 : decode cX6_lose 19 = .ok (.goto 4, 3) := by decide +kernel
theorem dX6_lose_22 : decode cX6_lose 22 = .ok (.iconst 1, 1) := by decide +kernel
theorem dX6_lose_23 : decode cX6_lose 23 = .ok (.istore_n 2, 1) := by decide +kernel
theorem dX6_lose_24 : decode cX6_lose 24 = .ok (.aload_n 0, 1) := by decide +kernel
theorem dX6_lose_25 : decode cX6_lose 25 = .ok (.getfield 35, 3) := by decide +kernel
theorem dX6_lose_28 : decode cX6_lose 28 = .ok (.iload_n 1, 1) := by decide +kernel
theorem dX6_lose_29 : decode cX6_lose 29 = .ok (.iconst (-1), 1) := by decide +kernel
theorem dX6_lose_30 : decode cX6_lose 30 = .ok (.iastore, 1) := by decide +kernel
theorem dX6_lose_31 : decode cX6_lose 31 = .ok (.iload_n 2, 1) := by decide +kernel
theorem dX6_lose_32 : decode cX6_lose 32 = .ok (.ireturn, 1) := by decide +kernel
set_option maxRecDepth 20000 in
theorem ggX6_noCell_X6_in : GoodIn wsX6_noCell wsX6_in := goodIn_r _ [5] (by decide +kernel) (by decide +kernel)
set_option maxRecDepth 20000 in
theorem gX6_noCell_X6_in : GoodIn wsX6_noCell (va_wsS RX6 70 yX6_in wsX6_in) := goodIn_app (goodIn_of _ (by decide +kernel)) ggX6_noCell_X6_in
theorem dX6_noCell_0 : decode cX6_noCell 0 = .ok (.aload_n 0, 1) := by decide +kernel
theorem dX6_noCell_1 : decode cX6_noCell 1 = .ok (.getfield 35, 3) := by decide +kernel
theorem dX6_noCell_4 : decode cX6_noCell 4 = .ok (.iload_n 1, 1) := by decide +kernel
theorem dX6_noCell_5 : decode cX6_noCell 5 = .ok (.iaload, 1) := by decide +kernel
theorem dX6_noCell_6 : decode cX6_noCell 6 = .ok (.ifCond .ge 7, 3) := by decide +kernel
theorem dX6_noCell_9 : decode cX6_noCell 9 = .ok (.iconst 1, 1) := by decide +kernel
theorem dX6_noCell_10 : decode cX6_noCell 10 = .ok (.goto 26, 3) := by decide +kernel
theorem dX6_noCell_13 : decode cX6_noCell 13 = .ok (.iload_n 2, 1) := by decide +kernel
theorem dX6_noCell_14 : decode cX6_noCell 14 = .ok (.i2l, 1) := by decide +kernel
theorem dX6_noCell_15 : decode cX6_noCell 15 = .ok (.lconst 0, 1) := by decide +kernel
theorem dX6_noCell_16 : decode cX6_noCell 16 = .ok (.aload_n 0, 1) := by decide +kernel
theorem dX6_noCell_17 : decode cX6_noCell 17 = .ok (.getfield 35, 3) := by decide +kernel
theorem dX6_noCell_20 : decode cX6_noCell 20 = .ok (.iload_n 1, 1) := by decide +kernel
theorem dX6_noCell_21 : decode cX6_noCell 21 = .ok (.iaload, 1) := by decide +kernel
theorem dX6_noCell_22 : decode cX6_noCell 22 = .ok (.i2l, 1) := by decide +kernel
theorem dX6_noCell_23 : decode cX6_noCell 23 = .ok (.lconst 1, 1) := by decide +kernel
theorem dX6_noCell_24 : decode cX6_noCell 24 = .ok (.lsub, 1) := by decide +kernel
theorem dX6_noCell_25 : decode cX6_noCell 25 = .ok (.invokestatic 70, 3) := by decide +kernel
theorem dX6_noCell_28 : decode cX6_noCell 28 = .ok (.ifCond .eq 7, 3) := by decide +kernel
theorem dX6_noCell_31 : decode cX6_noCell 31 = .ok (.iconst 0, 1) := by decide +kernel
theorem dX6_noCell_32 : decode cX6_noCell 32 = .ok (.goto 4, 3) := by decide +kernel
theorem dX6_noCell_35 : decode cX6_noCell 35 = .ok (.iconst 3, 1) := by decide +kernel
theorem dX6_noCell_36 : decode cX6_noCell 36 = .ok (.ireturn, 1) := by decide +kernel
set_option maxRecDepth 20000 in
theorem ggX6_put_X6_noSheet : GoodIn wsX6_put wsX6_noSheet := goodIn_r _ [6, 7, 8, 9, 5, 10] (by decide +kernel) (by decide +kernel)
set_option maxRecDepth 20000 in
theorem gX6_put_X6_noSheet : GoodIn wsX6_put (va_wsS RX6 193 yX6_noSheet wsX6_noSheet) := goodIn_app (goodIn_of _ (by decide +kernel)) ggX6_put_X6_noSheet
set_option maxRecDepth 20000 in
theorem ggX6_put_X6_refused : GoodIn wsX6_put wsX6_refused := goodIn_r _ [14, 15, 25, 26, 27, 28, 29, 30, 31, 32, 33, 34, 35, 36, 37, 38, 39, 40, 41, 42, 43, 44, 45, 46, 47] (by decide +kernel) (by decide +kernel)
set_option maxRecDepth 20000 in
theorem gX6_put_X6_refused : GoodIn wsX6_put (wsV RX6 196 RX6 yX6_refused wsX6_refused) := goodIn_app (goodIn_of _ (by decide +kernel)) ggX6_put_X6_refused
set_option maxRecDepth 20000 in
theorem ggX6_put_X6_noCell : GoodIn wsX6_put wsX6_noCell := goodIn_r _ [19, 20, 8, 9, 5, 10, 25, 26, 27, 28, 29, 30, 31, 32, 33, 34, 35, 36, 37, 38, 39, 40, 41, 42, 43, 44, 45, 46, 47] (by decide +kernel) (by decide +kernel)
set_option maxRecDepth 20000 in
theorem gX6_put_X6_noCell : GoodIn wsX6_put (wsV RX6 204 RX6 yX6_noCell wsX6_noCell) := goodIn_app (goodIn_of _ (by decide +kernel)) ggX6_put_X6_noCell
set_option maxRecDepth 20000 in
theorem ggX6_put_X6_failed : GoodIn wsX6_put wsX6_failed := goodIn_r _ [24, 15, 25, 26, 27, 28, 29, 30, 31, 32, 33, 34, 35, 36, 37, 38, 39, 40, 41, 42, 43, 44, 45, 46, 47] (by decide +kernel) (by decide +kernel)
set_option maxRecDepth 20000 in
theorem gX6_put_X6_failed : GoodIn wsX6_put (wsV RX6 201 RX6 yX6_failed wsX6_failed) := goodIn_app (goodIn_of _ (by decide +kernel)) ggX6_put_X6_failed
theorem dX6_put_0 : decode cX6_put 0 = .ok (.iload_n 1, 1) := by decide +kernel
theorem dX6_put_1 : decode cX6_put 1 = .ok (.invokestatic 193, 3) := by decide +kernel
theorem dX6_put_4 : decode cX6_put 4 = .ok (.ifCond .eq 9, 3) := by decide +kernel
theorem dX6_put_7 : decode cX6_put 7 = .ok (.aload_n 0, 1) := by decide +kernel
theorem dX6_put_8 : decode cX6_put 8 = .ok (.iconst (-1), 1) := by decide +kernel
theorem dX6_put_9 : decode cX6_put 9 = .ok (.invokevirtual 196, 3) := by decide +kernel
theorem dX6_put_12 : decode cX6_put 12 = .ok (.ireturn, 1) := by decide +kernel
theorem dX6_put_13 : decode cX6_put 13 = .ok (.aload_n 0, 1) := by decide +kernel
theorem dX6_put_14 : decode cX6_put 14 = .ok (.iload_n 1, 1) := by decide +kernel
theorem dX6_put_15 : decode cX6_put 15 = .ok (.iload_n 2, 1) := by decide +kernel
theorem dX6_put_16 : decode cX6_put 16 = .ok (.invokevirtual 204, 3) := by decide +kernel
theorem dX6_put_19 : decode cX6_put 19 = .ok (.ifCond .le 14, 3) := by decide +kernel
theorem dX6_put_22 : decode cX6_put 22 = .ok (.aload_n 0, 1) := by decide +kernel
theorem dX6_put_23 : decode cX6_put 23 = .ok (.aload_n 0, 1) := by decide +kernel
theorem dX6_put_24 : decode cX6_put 24 = .ok (.iload_n 1, 1) := by decide +kernel
theorem dX6_put_25 : decode cX6_put 25 = .ok (.iload_n 2, 1) := by decide +kernel
theorem dX6_put_26 : decode cX6_put 26 = .ok (.invokevirtual 204, 3) := by decide +kernel
theorem dX6_put_29 : decode cX6_put 29 = .ok (.invokevirtual 201, 3) := by decide +kernel
theorem dX6_put_32 : decode cX6_put 32 = .ok (.ireturn, 1) := by decide +kernel
theorem dX6_put_33 : decode cX6_put 33 = .ok (.aload_n 0, 1) := by decide +kernel
theorem dX6_put_34 : decode cX6_put 34 = .ok (.getfield 41, 3) := by decide +kernel
theorem dX6_put_37 : decode cX6_put 37 = .ok (.bipush 50, 2) := by decide +kernel
theorem dX6_put_39 : decode cX6_put 39 = .ok (.iload_n 1, 1) := by decide +kernel
theorem dX6_put_40 : decode cX6_put 40 = .ok (.imul, 1) := by decide +kernel
theorem dX6_put_41 : decode cX6_put 41 = .ok (.iload_n 2, 1) := by decide +kernel
theorem dX6_put_42 : decode cX6_put 42 = .ok (.iadd, 1) := by decide +kernel
theorem dX6_put_43 : decode cX6_put 43 = .ok (.aload_n 0, 1) := by decide +kernel
theorem dX6_put_44 : decode cX6_put 44 = .ok (.getfield 38, 3) := by decide +kernel
theorem dX6_put_47 : decode cX6_put 47 = .ok (.iload_n 1, 1) := by decide +kernel
theorem dX6_put_48 : decode cX6_put 48 = .ok (.iaload, 1) := by decide +kernel
theorem dX6_put_49 : decode cX6_put 49 = .ok (.ifCond .ne 8, 3) := by decide +kernel
theorem dX6_put_52 : decode cX6_put 52 = .ok (.iload_n 3, 1) := by decide +kernel
theorem dX6_put_53 : decode cX6_put 53 = .ok (.i2b, 1) := by decide +kernel
theorem dX6_put_54 : decode cX6_put 54 = .ok (.goto 19, 3) := by decide +kernel
theorem dX6_put_57 : decode cX6_put 57 = .ok (.aload_n 0, 1) := by decide +kernel
theorem dX6_put_58 : decode cX6_put 58 = .ok (.getfield 38, 3) := by decide +kernel
theorem dX6_put_61 : decode cX6_put 61 = .ok (.iload_n 1, 1) := by decide +kernel
theorem dX6_put_62 : decode cX6_put 62 = .ok (.iaload, 1) := by decide +kernel
theorem dX6_put_63 : decode cX6_put 63 = .ok (.iconst 1, 1) := by decide +kernel
theorem dX6_put_64 : decode cX6_put 64 = .ok (.if_icmp .ne 8, 3) := by decide +kernel
theorem dX6_put_67 : decode cX6_put 67 = .ok (.iload_n 3, 1) := by decide +kernel
theorem dX6_put_68 : decode cX6_put 68 = .ok (.i2s, 1) := by decide +kernel
theorem dX6_put_69 : decode cX6_put 69 = .ok (.goto 4, 3) := by decide +kernel
theorem dX6_put_72 : decode cX6_put 72 = .ok (.iload_n 3, 1) := by decide +kernel
theorem dX6_put_73 : decode cX6_put 73 = .ok (.iastore, 1) := by decide +kernel
theorem dX6_put_74 : decode cX6_put 74 = .ok (.aload_n 0, 1) := by decide +kernel
theorem dX6_put_75 : decode cX6_put 75 = .ok (.iconst 1, 1) := by decide +kernel
theorem dX6_put_76 : decode cX6_put 76 = .ok (.invokevirtual 196, 3) := by decide +kernel
theorem dX6_put_79 : decode cX6_put 79 = .ok (.ireturn, 1) := by decide +kernel
set_option maxRecDepth 20000 in
theorem ggX6_cell_X6_noSheet : GoodIn wsX6_cell wsX6_noSheet := goodIn_r _ [9, 10, 11, 12, 8, 13] (by decide +kernel) (by decide +kernel)
set_option maxRecDepth 20000 in
theorem gX6_cell_X6_noSheet : GoodIn wsX6_cell (va_wsS RX6 193 yX6_noSheet wsX6_noSheet) := goodIn_app (goodIn_of _ (by decide +kernel)) ggX6_cell_X6_noSheet
set_option maxRecDepth 20000 in
theorem ggX6_cell_X6_in : GoodIn wsX6_cell wsX6_in := goodIn_r _ [13] (by decide +kernel) (by decide +kernel)
set_option maxRecDepth 20000 in
theorem gX6_cell_X6_in : GoodIn wsX6_cell (va_wsS RX6 70 yX6_in wsX6_in) := goodIn_app (goodIn_of _ (by decide +kernel)) ggX6_cell_X6_in
set_option maxRecDepth 20000 in
theorem ggX6_cell_X6_lost : GoodIn wsX6_cell wsX6_lost := goodIn_r _ [16, 17] (by decide +kernel) (by decide +kernel)
set_option maxRecDepth 20000 in
theorem gX6_cell_X6_lost : GoodIn wsX6_cell (va_wsS RX6 59 yX6_lost wsX6_lost) := goodIn_app (goodIn_of _ (by decide +kernel)) ggX6_cell_X6_lost
set_option maxRecDepth 20000 in
theorem ggX6_cell_X6_failedLong : GoodIn wsX6_cell wsX6_failedLong := goodIn_r _ [21, 1, 14, 15, 8, 16, 17, 26, 27, 28, 29, 30, 31, 32, 33, 34, 35, 36, 37, 38, 39, 40, 41, 42, 43, 44, 45, 46, 47, 48] (by decide +kernel) (by decide +kernel)
set_option maxRecDepth 20000 in
theorem gX6_cell_X6_failedLong : GoodIn wsX6_cell (wsV RX6 207 RX6 yX6_failedLong wsX6_failedLong) := goodIn_app (goodIn_of _ (by decide +kernel)) ggX6_cell_X6_failedLong
set_option maxRecDepth 20000 in
theorem ggX6_cell_X6_noCell : GoodIn wsX6_cell wsX6_noCell := goodIn_r _ [25, 3, 11, 12, 8, 13, 26, 27, 28, 29, 30, 31, 32, 33, 34, 35, 36, 37, 38, 39, 40, 41, 42, 43, 44, 45, 46, 47, 48] (by decide +kernel) (by decide +kernel)
set_option maxRecDepth 20000 in
theorem gX6_cell_X6_noCell : GoodIn wsX6_cell (wsV RX6 204 RX6 yX6_noCell wsX6_noCell) := goodIn_app (goodIn_of _ (by decide +kernel)) ggX6_cell_X6_noCell
theorem dX6_cell_0 : decode cX6_cell 0 = .ok (.aload_n 0, 1) := by decide +kernel
theorem dX6_cell_1 : decode cX6_cell 1 = .ok (.iconst 0, 1) := by decide +kernel
theorem dX6_cell_2 : decode cX6_cell 2 = .ok (.putfield 56, 3) := by decide +kernel
theorem dX6_cell_5 : decode cX6_cell 5 = .ok (.iload_n 1, 1) := by decide +kernel
theorem dX6_cell_6 : decode cX6_cell 6 = .ok (.invokestatic 193, 3) := by decide +kernel
theorem dX6_cell_9 : decode cX6_cell 9 = .ok (.ifCond .ne 15, 3) := by decide +kernel
theorem dX6_cell_12 : decode cX6_cell 12 = .ok (.iload_n 3, 1) := by decide +kernel
theorem dX6_cell_13 : decode cX6_cell 13 = .ok (.i2l, 1) := by decide +kernel
theorem dX6_cell_14 : decode cX6_cell 14 = .ok (.lconst 0, 1) := by decide +kernel
theorem dX6_cell_15 : decode cX6_cell 15 = .ok (.ldc2_w 199, 3) := by decide +kernel
theorem dX6_cell_18 : decode cX6_cell 18 = .ok (.invokestatic 70, 3) := by decide +kernel
theorem dX6_cell_21 : decode cX6_cell 21 = .ok (.ifCond .ne 7, 3) := by decide +kernel
theorem dX6_cell_24 : decode cX6_cell 24 = .ok (.invokestatic 59, 3) := by decide +kernel
theorem dX6_cell_27 : decode cX6_cell 27 = .ok (.lreturn, 1) := by decide +kernel
theorem dX6_cell_28 : decode cX6_cell 28 = .ok (.aload_n 0, 1) := by decide +kernel
theorem dX6_cell_29 : decode cX6_cell 29 = .ok (.getfield 35, 3) := by decide +kernel
theorem dX6_cell_32 : decode cX6_cell 32 = .ok (.iload_n 1, 1) := by decide +kernel
theorem dX6_cell_33 : decode cX6_cell 33 = .ok (.iaload, 1) := by decide +kernel
theorem dX6_cell_34 : decode cX6_cell 34 = .ok (.ifCond .lt 19, 3) := by decide +kernel
theorem dX6_cell_37 : decode cX6_cell 37 = .ok (.aload_n 0, 1) := by decide +kernel
theorem dX6_cell_38 : decode cX6_cell 38 = .ok (.getfield 38, 3) := by decide +kernel
theorem dX6_cell_41 : decode cX6_cell 41 = .ok (.iload_n 1, 1) := by decide +kernel
theorem dX6_cell_42 : decode cX6_cell 42 = .ok (.iaload, 1) := by decide +kernel
theorem dX6_cell_43 : decode cX6_cell 43 = .ok (.iload_n 3, 1) := by decide +kernel
theorem dX6_cell_44 : decode cX6_cell 44 = .ok (.if_icmp .eq 9, 3) := by decide +kernel
theorem dX6_cell_47 : decode cX6_cell 47 = .ok (.aload_n 0, 1) := by decide +kernel
theorem dX6_cell_48 : decode cX6_cell 48 = .ok (.iconst 2, 1) := by decide +kernel
theorem dX6_cell_49 : decode cX6_cell 49 = .ok (.invokevirtual 207, 3) := by decide +kernel
theorem dX6_cell_52 : decode cX6_cell 52 = .ok (.lreturn, 1) := by decide +kernel
theorem dX6_cell_53 : decode cX6_cell 53 = .ok (.aload_n 0, 1) := by decide +kernel
theorem dX6_cell_54 : decode cX6_cell 54 = .ok (.iload_n 1, 1) := by decide +kernel
theorem dX6_cell_55 : decode cX6_cell 55 = .ok (.iload_n 2, 1) := by decide +kernel
theorem dX6_cell_56 : decode cX6_cell 56 = .ok (.invokevirtual 204, 3) := by decide +kernel
theorem dX6_cell_59 : decode cX6_cell 59 = .ok (.ifCond .le 16, 3) := by decide +kernel
theorem dX6_cell_62 : decode cX6_cell 62 = .ok (.aload_n 0, 1) := by decide +kernel
theorem dX6_cell_63 : decode cX6_cell 63 = .ok (.aload_n 0, 1) := by decide +kernel
theorem dX6_cell_64 : decode cX6_cell 64 = .ok (.iload_n 1, 1) := by decide +kernel
theorem dX6_cell_65 : decode cX6_cell 65 = .ok (.iload_n 2, 1) := by decide +kernel
theorem dX6_cell_66 : decode cX6_cell 66 = .ok (.invokevirtual 204, 3) := by decide +kernel
theorem dX6_cell_69 : decode cX6_cell 69 = .ok (.invokevirtual 207, 3) := by decide +kernel
theorem dX6_cell_72 : decode cX6_cell 72 = .ok (.goto 15, 3) := by decide +kernel
theorem dX6_cell_75 : decode cX6_cell 75 = .ok (.aload_n 0, 1) := by decide +kernel
theorem dX6_cell_76 : decode cX6_cell 76 = .ok (.getfield 41, 3) := by decide +kernel
theorem dX6_cell_79 : decode cX6_cell 79 = .ok (.bipush 50, 2) := by decide +kernel
theorem dX6_cell_81 : decode cX6_cell 81 = .ok (.iload_n 1, 1) := by decide +kernel
theorem dX6_cell_82 : decode cX6_cell 82 = .ok (.imul, 1) := by decide +kernel
theorem dX6_cell_83 : decode cX6_cell 83 = .ok (.iload_n 2, 1) := by decide +kernel
theorem dX6_cell_84 : decode cX6_cell 84 = .ok (.iadd, 1) := by decide +kernel
theorem dX6_cell_85 : decode cX6_cell 85 = .ok (.iaload, 1) := by decide +kernel
theorem dX6_cell_86 : decode cX6_cell 86 = .ok (.i2l, 1) := by decide +kernel
theorem dX6_cell_87 : decode cX6_cell 87 = .ok (.lreturn, 1) := by decide +kernel
theorem dX6_isBeyond_0 : decode cX6_isBeyond 0 = .ok (.iload_n 0, 1) := by decide +kernel
theorem dX6_isBeyond_1 : decode cX6_isBeyond 1 = .ok (.ifCond .lt 19, 3) := by decide +kernel
theorem dX6_isBeyond_4 : decode cX6_isBeyond 4 = .ok (.lload_n 1, 1) := by decide +kernel
theorem dX6_isBeyond_5 : decode cX6_isBeyond 5 = .ok (.lconst 0, 1) := by decide +kernel
theorem dX6_isBeyond_6 : decode cX6_isBeyond 6 = .ok (.lcmp, 1) := by decide +kernel
theorem dX6_isBeyond_7 : decode cX6_isBeyond 7 = .ok (.ifCond .lt 13, 3) := by decide +kernel
theorem dX6_isBeyond_10 : decode cX6_isBeyond 10 = .ok (.iload_n 0, 1) := by decide +kernel
theorem dX6_isBeyond_11 : decode cX6_isBeyond 11 = .ok (.i2l, 1) := by decide +kernel
theorem dX6_isBeyond_12 : decode cX6_isBeyond 12 = .ok (.lload_n 1, 1) := by decide +kernel
theorem dX6_isBeyond_13 : decode cX6_isBeyond 13 = .ok (.ladd, 1) := by decide +kernel
theorem dX6_isBeyond_14 : decode cX6_isBeyond 14 = .ok (.iload_n 3, 1) := by decide +kernel
theorem dX6_isBeyond_15 : decode cX6_isBeyond 15 = .ok (.i2l, 1) := by decide +kernel
theorem dX6_isBeyond_16 : decode cX6_isBeyond 16 = .ok (.lcmp, 1) := by decide +kernel
theorem dX6_isBeyond_17 : decode cX6_isBeyond 17 = .ok (.ifCond .le 7, 3) := by decide +kernel
theorem dX6_isBeyond_20 : decode cX6_isBeyond 20 = .ok (.iconst 1, 1) := by decide +kernel
theorem dX6_isBeyond_21 : decode cX6_isBeyond 21 = .ok (.goto 4, 3) := by decide +kernel
theorem dX6_isBeyond_24 : decode cX6_isBeyond 24 = .ok (.iconst 0, 1) := by decide +kernel
theorem dX6_isBeyond_25 : decode cX6_isBeyond 25 = .ok (.ireturn, 1) := by decide +kernel
set_option maxRecDepth 20000 in
theorem ggX6_copy_X6_noSheet : GoodIn wsX6_copy wsX6_noSheet := goodIn_r _ [8, 9, 10, 11, 7, 12] (by decide +kernel) (by decide +kernel)
set_option maxRecDepth 20000 in
theorem gX6_copy_X6_noSheet : GoodIn wsX6_copy (va_wsS RX6 193 yX6_noSheet wsX6_noSheet) := goodIn_app (goodIn_of _ (by decide +kernel)) ggX6_copy_X6_noSheet
set_option maxRecDepth 20000 in
theorem ggX6_copy_X6_refused : GoodIn wsX6_copy wsX6_refused := goodIn_r _ [16, 17, 25, 26, 27, 28, 29, 30, 31, 32, 33, 34, 35, 36, 37, 38, 39, 40, 41, 42, 43, 44, 45, 46, 47] (by decide +kernel) (by decide +kernel)
set_option maxRecDepth 20000 in
theorem gX6_copy_X6_refused : GoodIn wsX6_copy (wsV RX6 196 RX6 yX6_refused wsX6_refused) := goodIn_app (goodIn_of _ (by decide +kernel)) ggX6_copy_X6_refused
set_option maxRecDepth 20000 in
theorem ggX6_copy_X6_failed : GoodIn wsX6_copy wsX6_failed := goodIn_r _ [21, 17, 25, 26, 27, 28, 29, 30, 31, 32, 33, 34, 35, 36, 37, 38, 39, 40, 41, 42, 43, 44, 45, 46, 47] (by decide +kernel) (by decide +kernel)
set_option maxRecDepth 20000 in
theorem gX6_copy_X6_failed : GoodIn wsX6_copy (wsV RX6 201 RX6 yX6_failed wsX6_failed) := goodIn_app (goodIn_of _ (by decide +kernel)) ggX6_copy_X6_failed
set_option maxRecDepth 20000 in
theorem ggX6_copy_X6_isBeyond : GoodIn wsX6_copy wsX6_isBeyond := goodIn_r _ [24] (by decide +kernel) (by decide +kernel)
set_option maxRecDepth 20000 in
theorem gX6_copy_X6_isBeyond : GoodIn wsX6_copy (va_wsS RX6 211 yX6_isBeyond wsX6_isBeyond) := goodIn_app (goodIn_of _ (by decide +kernel)) ggX6_copy_X6_isBeyond
theorem dX6_copy_0 : decode cX6_copy 0 = .ok (.iload_n 1, 1) := by decide +kernel
theorem dX6_copy_1 : decode cX6_copy 1 = .ok (.invokestatic 193, 3) := by decide +kernel
theorem dX6_copy_4 : decode cX6_copy 4 = .ok (.ifCond .ne 10, 3) := by decide +kernel
theorem dX6_copy_7 : decode cX6_copy 7 = .ok (.iload_n 3, 1) := by decide +kernel
theorem dX6_copy_8 : decode cX6_copy 8 = .ok (.invokestatic 193, 3) := by decide +kernel
theorem dX6_copy_11 : decode cX6_copy 11 = .ok (.ifCond .eq 9, 3) := by decide +kernel
theorem dX6_copy_14 : decode cX6_copy 14 = .ok (.aload_n 0, 1) := by decide +kernel
theorem dX6_copy_15 : decode cX6_copy 15 = .ok (.iconst (-1), 1) := by decide +kernel
theorem dX6_copy_16 : decode cX6_copy 16 = .ok (.invokevirtual 196, 3) := by decide +kernel
theorem dX6_copy_19 : decode cX6_copy 19 = .ok (.ireturn, 1) := by decide +kernel
theorem dX6_copy_20 : decode cX6_copy 20 = .ok (.aload_n 0, 1) := by decide +kernel
theorem dX6_copy_21 : decode cX6_copy 21 = .ok (.getfield 35, 3) := by decide +kernel
theorem dX6_copy_24 : decode cX6_copy 24 = .ok (.iload_n 1, 1) := by decide +kernel
theorem dX6_copy_25 : decode cX6_copy 25 = .ok (.iaload, 1) := by decide +kernel
theorem dX6_copy_26 : decode cX6_copy 26 = .ok (.ifCond .lt 12, 3) := by decide +kernel
theorem dX6_copy_29 : decode cX6_copy 29 = .ok (.aload_n 0, 1) := by decide +kernel
theorem dX6_copy_30 : decode cX6_copy 30 = .ok (.getfield 35, 3) := by decide +kernel
theorem dX6_copy_33 : decode cX6_copy 33 = .ok (.iload_n 3, 1) := by decide +kernel
theorem dX6_copy_34 : decode cX6_copy 34 = .ok (.iaload, 1) := by decide +kernel
theorem dX6_copy_35 : decode cX6_copy 35 = .ok (.ifCond .ge 9, 3) := by decide +kernel
theorem dX6_copy_38 : decode cX6_copy 38 = .ok (.aload_n 0, 1) := by decide +kernel
theorem dX6_copy_39 : decode cX6_copy 39 = .ok (.iconst 1, 1) := by decide +kernel
theorem dX6_copy_40 : decode cX6_copy 40 = .ok (.invokevirtual 201, 3) := by decide +kernel
theorem dX6_copy_43 : decode cX6_copy 43 = .ok (.ireturn, 1) := by decide +kernel
theorem dX6_copy_44 : decode cX6_copy 44 = .ok (.aload_n 0, 1) := by decide +kernel
theorem dX6_copy_45 : decode cX6_copy 45 = .ok (.getfield 38, 3) := by decide +kernel
theorem dX6_copy_48 : decode cX6_copy 48 = .ok (.iload_n 1, 1) := by decide +kernel
theorem dX6_copy_49 : decode cX6_copy 49 = .ok (.iaload, 1) := by decide +kernel
theorem dX6_copy_50 : decode cX6_copy 50 = .ok (.aload_n 0, 1) := by decide +kernel
theorem dX6_copy_51 : decode cX6_copy 51 = .ok (.getfield 38, 3) := by decide +kernel
theorem dX6_copy_54 : decode cX6_copy 54 = .ok (.iload_n 3, 1) := by decide +kernel
theorem dX6_copy_55 : decode cX6_copy 55 = .ok (.iaload, 1) := by decide +kernel
theorem dX6_copy_56 : decode cX6_copy 56 = .ok (.if_icmp .eq 9, 3) := by decide +kernel
theorem dX6_copy_59 : decode cX6_copy 59 = .ok (.aload_n 0, 1) := by decide +kernel
theorem dX6_copy_60 : decode cX6_copy 60 = .ok (.iconst 2, 1) := by decide +kernel
theorem dX6_copy_61 : decode cX6_copy 61 = .ok (.invokevirtual 201, 3) := by decide +kernel
theorem dX6_copy_64 : decode cX6_copy 64 = .ok (.ireturn, 1) := by decide +kernel
theorem dX6_copy_65 : decode cX6_copy 65 = .ok (.iload_n 2, 1) := by decide +kernel
theorem dX6_copy_66 : decode cX6_copy 66 = .ok (.iload 5, 2) := by decide +kernel
theorem dX6_copy_68 : decode cX6_copy 68 = .ok (.i2l, 1) := by decide +kernel
theorem dX6_copy_69 : decode cX6_copy 69 = .ok (.aload_n 0, 1) := by decide +kernel
theorem dX6_copy_70 : decode cX6_copy 70 = .ok (.getfield 35, 3) := by decide +kernel
theorem dX6_copy_73 : decode cX6_copy 73 = .ok (.iload_n 1, 1) := by decide +kernel
theorem dX6_copy_74 : decode cX6_copy 74 = .ok (.iaload, 1) := by decide +kernel
theorem dX6_copy_75 : decode cX6_copy 75 = .ok (.invokestatic 211, 3) := by decide +kernel
theorem dX6_copy_78 : decode cX6_copy 78 = .ok (.ifCond .ne 20, 3) := by decide +kernel
theorem dX6_copy_81 : decode cX6_copy 81 = .ok (.iload 4, 2) := by decide +kernel
theorem dX6_copy_83 : decode cX6_copy 83 = .ok (.iload 5, 2) := by decide +kernel
theorem dX6_copy_85 : decode cX6_copy 85 = .ok (.i2l, 1) := by decide +kernel
theorem dX6_copy_86 : decode cX6_copy 86 = .ok (.aload_n 0, 1) := by decide +kernel
theorem dX6_copy_87 : decode cX6_copy 87 = .ok (.getfield 35, 3) := by decide +kernel
theorem dX6_copy_90 : decode cX6_copy 90 = .ok (.iload_n 3, 1) := by decide +kernel
theorem dX6_copy_91 : decode cX6_copy 91 = .ok (.iaload, 1) := by decide +kernel
theorem dX6_copy_92 : decode cX6_copy 92 = .ok (.invokestatic 211, 3) := by decide +kernel
theorem dX6_copy_95 : decode cX6_copy 95 = .ok (.ifCond .eq 9, 3) := by decide +kernel
theorem dX6_copy_98 : decode cX6_copy 98 = .ok (.aload_n 0, 1) := by decide +kernel
theorem dX6_copy_99 : decode cX6_copy 99 = .ok (.iconst 3, 1) := by decide +kernel
theorem dX6_copy_100 : decode cX6_copy 100 = .ok (.invokevirtual 201, 3) := by decide +kernel
theorem dX6_copy_103 : decode cX6_copy 103 = .ok (.ireturn, 1) := by decide +kernel
theorem dX6_copy_104 : decode cX6_copy 104 = .ok (.iconst 0, 1) := by decide +kernel
theorem dX6_copy_105 : decode cX6_copy 105 = .ok (.istore 6, 2) := by decide +kernel
theorem dX6_copy_107 : decode cX6_copy 107 = .ok (.iload 6, 2) := by decide +kernel
theorem dX6_copy_109 : decode cX6_copy 109 = .ok (.iload 5, 2) := by decide +kernel
theorem dX6_copy_111 : decode cX6_copy 111 = .ok (.if_icmp .ge 30, 3) := by decide +kernel
theorem dX6_copy_114 : decode cX6_copy 114 = .ok (.aload_n 0, 1) := by decide +kernel
theorem dX6_copy_115 : decode cX6_copy 115 = .ok (.getfield 44, 3) := by decide +kernel
theorem dX6_copy_118 : decode cX6_copy 118 = .ok (.iload 6, 2) := by decide +kernel
theorem dX6_copy_120 : decode cX6_copy 120 = .ok (.aload_n 0, 1) := by decide +kernel
theorem dX6_copy_121 : decode cX6_copy 121 = .ok (.getfield 41, 3) := by decide +kernel
theorem dX6_copy_124 : decode cX6_copy 124 = .ok (.bipush 50, 2) := by decide +kernel
theorem dX6_copy_126 : decode cX6_copy 126 = .ok (.iload_n 1, 1) := by decide +kernel
theorem dX6_copy_127 : decode cX6_copy 127 = .ok (.imul, 1) := by decide +kernel
theorem dX6_copy_128 : decode cX6_copy 128 = .ok (.iload_n 2, 1) := by decide +kernel
theorem dX6_copy_129 : decode cX6_copy 129 = .ok (.iadd, 1) := by decide +kernel
theorem dX6_copy_130 : decode cX6_copy 130 = .ok (.iload 6, 2) := by decide +kernel
theorem dX6_copy_132 : decode cX6_copy 132 = .ok (.iadd, 1) := by decide +kernel
theorem dX6_copy_133 : decode cX6_copy 133 = .ok (.iaload, 1) := by decide +kernel
theorem dX6_copy_134 : decode cX6_copy 134 = .ok (.iastore, 1) := by decide +kernel
theorem dX6_copy_135 : decode cX6_copy 135 = .ok (.iinc 6 1, 3) := by decide +kernel
theorem dX6_copy_138 : decode cX6_copy 138 = .ok (.goto (-31), 3) := by decide +kernel
theorem dX6_copy_141 : decode cX6_copy 141 = .ok (.iconst 0, 1) := by decide +kernel
theorem dX6_copy_142 : decode cX6_copy 142 = .ok (.istore 6, 2) := by decide +kernel
theorem dX6_copy_144 : decode cX6_copy 144 = .ok (.iload 6, 2) := by decide +kernel
theorem dX6_copy_146 : decode cX6_copy 146 = .ok (.iload 5, 2) := by decide +kernel
theorem dX6_copy_148 : decode cX6_copy 148 = .ok (.if_icmp .ge 31, 3) := by decide +kernel
theorem dX6_copy_151 : decode cX6_copy 151 = .ok (.aload_n 0, 1) := by decide +kernel
theorem dX6_copy_152 : decode cX6_copy 152 = .ok (.getfield 41, 3) := by decide +kernel
theorem dX6_copy_155 : decode cX6_copy 155 = .ok (.bipush 50, 2) := by decide +kernel
theorem dX6_copy_157 : decode cX6_copy 157 = .ok (.iload_n 3, 1) := by decide +kernel
theorem dX6_copy_158 : decode cX6_copy 158 = .ok (.imul, 1) := by decide +kernel
theorem dX6_copy_159 : decode cX6_copy 159 = .ok (.iload 4, 2) := by decide +kernel
theorem dX6_copy_161 : decode cX6_copy 161 = .ok (.iadd, 1) := by decide +kernel
theorem dX6_copy_162 : decode cX6_copy 162 = .ok (.iload 6, 2) := by decide +kernel
theorem dX6_copy_164 : decode cX6_copy 164 = .ok (.iadd, 1) := by decide +kernel
theorem dX6_copy_165 : decode cX6_copy 165 = .ok (.aload_n 0, 1) := by decide +kernel
theorem dX6_copy_166 : decode cX6_copy 166 = .ok (.getfield 44, 3) := by decide +kernel
theorem dX6_copy_169 : decode cX6_copy 169 = .ok (.iload 6, 2) := by decide +kernel
theorem dX6_copy_171 : decode cX6_copy 171 = .ok (.iaload, 1) := by decide +kernel
theorem dX6_copy_172 : decode cX6_copy 172 = .ok (.iastore, 1) := by decide +kernel
theorem dX6_copy_173 : decode cX6_copy 173 = .ok (.iinc 6 1, 3) := by decide +kernel
theorem dX6_copy_176 : decode cX6_copy 176 = .ok (.goto (-32), 3) := by decide +kernel
theorem dX6_copy_179 : decode cX6_copy 179 = .ok (.aload_n 0, 1) := by decide +kernel
theorem dX6_copy_180 : decode cX6_copy 180 = .ok (.iload 5, 2) := by decide +kernel
theorem dX6_copy_182 : decode cX6_copy 182 = .ok (.invokevirtual 196, 3) := by decide +kernel
theorem dX6_copy_185 : decode cX6_copy 185 = .ok (.ireturn, 1) := by decide +kernel
set_option maxRecDepth 20000 in
theorem ggX6_shape_X6_noSheet : GoodIn wsX6_shape wsX6_noSheet := goodIn_r _ [12, 13, 14, 15, 11, 16] (by decide +kernel) (by decide +kernel)
set_option maxRecDepth 20000 in
theorem gX6_shape_X6_noSheet : GoodIn wsX6_shape (va_wsS RX6 193 yX6_noSheet wsX6_noSheet) := goodIn_app (goodIn_of _ (by decide +kernel)) ggX6_shape_X6_noSheet
set_option maxRecDepth 20000 in
theorem ggX6_shape_X6_noSide : GoodIn wsX6_shape wsX6_noSide := goodIn_r _ [20, 21, 22, 23, 11, 24, 25, 26, 27, 28, 29, 30, 14, 15, 16, 48, 49, 50, 51, 52, 53, 54, 55, 56, 57, 58, 59, 60, 61, 62, 63, 64, 65, 66, 67, 68, 69, 70] (by decide +kernel) (by decide +kernel)
set_option maxRecDepth 20000 in
theorem gX6_shape_X6_noSide : GoodIn wsX6_shape (wsV RX6 105 RX6 yX6_noSide wsX6_noSide) := goodIn_app (goodIn_of _ (by decide +kernel)) ggX6_shape_X6_noSide
set_option maxRecDepth 20000 in
theorem ggX6_shape_X6_refused : GoodIn wsX6_shape wsX6_refused := goodIn_r _ [34, 35, 48, 49, 50, 51, 52, 53, 54, 55, 56, 57, 58, 59, 60, 61, 62, 63, 64, 65, 66, 67, 68, 69, 70] (by decide +kernel) (by decide +kernel)
set_option maxRecDepth 20000 in
theorem gX6_shape_X6_refused : GoodIn wsX6_shape (wsV RX6 196 RX6 yX6_refused wsX6_refused) := goodIn_app (goodIn_of _ (by decide +kernel)) ggX6_shape_X6_refused
set_option maxRecDepth 20000 in
theorem ggX6_shape_X6_in : GoodIn wsX6_shape wsX6_in := goodIn_r _ [16] (by decide +kernel) (by decide +kernel)
set_option maxRecDepth 20000 in
theorem gX6_shape_X6_in : GoodIn wsX6_shape (va_wsS RX6 70 yX6_in wsX6_in) := goodIn_app (goodIn_of _ (by decide +kernel)) ggX6_shape_X6_in
set_option maxRecDepth 20000 in
theorem ggX6_shape_X6_failed : GoodIn wsX6_shape wsX6_failed := goodIn_r _ [39, 35, 48, 49, 50, 51, 52, 53, 54, 55, 56, 57, 58, 59, 60, 61, 62, 63, 64, 65, 66, 67, 68, 69, 70] (by decide +kernel) (by decide +kernel)
set_option maxRecDepth 20000 in
theorem gX6_shape_X6_failed : GoodIn wsX6_shape (wsV RX6 201 RX6 yX6_failed wsX6_failed) := goodIn_app (goodIn_of _ (by decide +kernel)) ggX6_shape_X6_failed
set_option maxRecDepth 20000 in
theorem ggX6_shape_X6_isBeyond : GoodIn wsX6_shape wsX6_isBeyond := goodIn_r _ [42] (by decide +kernel) (by decide +kernel)
set_option maxRecDepth 20000 in
theorem gX6_shape_X6_isBeyond : GoodIn wsX6_shape (va_wsS RX6 211 yX6_isBeyond wsX6_isBeyond) := goodIn_app (goodIn_of _ (by decide +kernel)) ggX6_shape_X6_isBeyond
set_option maxRecDepth 20000 in
theorem ggX6_shape_X6_sides : GoodIn wsX6_shape wsX6_sides := goodIn_r _ [24, 25, 26, 27, 28, 29, 11, 30, 48, 49, 50, 51, 52, 53, 54, 55, 56, 57, 58, 59, 60, 61, 62, 63, 64, 65, 66, 67, 68, 69, 70] (by decide +kernel) (by decide +kernel)
set_option maxRecDepth 20000 in
theorem gX6_shape_X6_sides : GoodIn wsX6_shape (wsV RX6 67 RX6 yX6_sides wsX6_sides) := goodIn_app (goodIn_of _ (by decide +kernel)) ggX6_shape_X6_sides
set_option maxRecDepth 20000 in
theorem ggX6_shape_X6_changed : GoodIn wsX6_shape wsX6_changed := goodIn_r _ [46, 47, 48, 49, 50, 51, 52, 53, 54, 55, 56, 57, 58, 59, 60, 61, 62, 63, 64, 65, 66, 67, 68, 69, 70] (by decide +kernel) (by decide +kernel)
set_option maxRecDepth 20000 in
theorem gX6_shape_X6_changed : GoodIn wsX6_shape (wsV RX6 86 RX6 yX6_changed wsX6_changed) := goodIn_app (goodIn_of _ (by decide +kernel)) ggX6_shape_X6_changed
theorem dX6_shape_0 : decode cX6_shape 0 = .ok (.iload_n 1, 1) := by decide +kernel
theorem dX6_shape_1 : decode cX6_shape 1 = .ok (.invokestatic 193, 3) := by decide +kernel
theorem dX6_shape_4 : decode cX6_shape 4 = .ok (.ifCond .ne 12, 3) := by decide +kernel
theorem dX6_shape_7 : decode cX6_shape 7 = .ok (.aload_n 0, 1) := by decide +kernel
theorem dX6_shape_8 : decode cX6_shape 8 = .ok (.iload 5, 2) := by decide +kernel
theorem dX6_shape_10 : decode cX6_shape 10 = .ok (.invokevirtual 105, 3) := by decide +kernel
theorem dX6_shape_13 : decode cX6_shape 13 = .ok (.ifCond .eq 9, 3) := by decide +kernel
theorem dX6_shape_16 : decode cX6_shape 16 = .ok (.aload_n 0, 1) := by decide +kernel
theorem dX6_shape_17 : decode cX6_shape 17 = .ok (.iconst (-1), 1) := by decide +kernel
theorem dX6_shape_18 : decode cX6_shape 18 = .ok (.invokevirtual 196, 3) := by decide +kernel
theorem dX6_shape_21 : decode cX6_shape 21 = .ok (.ireturn, 1) := by decide +kernel
theorem dX6_shape_22 : decode cX6_shape 22 = .ok (.iload_n 2, 1) := by decide +kernel
theorem dX6_shape_23 : decode cX6_shape 23 = .ok (.i2l, 1) := by decide +kernel
theorem dX6_shape_24 : decode cX6_shape 24 = .ok (.lconst 0, 1) := by decide +kernel
theorem dX6_shape_25 : decode cX6_shape 25 = .ok (.ldc2_w 199, 3) := by decide +kernel
theorem dX6_shape_28 : decode cX6_shape 28 = .ok (.invokestatic 70, 3) := by decide +kernel
theorem dX6_shape_31 : decode cX6_shape 31 = .ok (.ifCond .ne 10, 3) := by decide +kernel
theorem dX6_shape_34 : decode cX6_shape 34 = .ok (.aload_n 0, 1) := by decide +kernel
theorem dX6_shape_35 : decode cX6_shape 35 = .ok (.bipush (-2), 2) := by decide +kernel
theorem dX6_shape_37 : decode cX6_shape 37 = .ok (.invokevirtual 196, 3) := by decide +kernel
theorem dX6_shape_40 : decode cX6_shape 40 = .ok (.ireturn, 1) := by decide +kernel
theorem dX6_shape_41 : decode cX6_shape 41 = .ok (.aload_n 0, 1) := by decide +kernel
theorem dX6_shape_42 : decode cX6_shape 42 = .ok (.getfield 35, 3) := by decide +kernel
theorem dX6_shape_45 : decode cX6_shape 45 = .ok (.iload_n 1, 1) := by decide +kernel
theorem dX6_shape_46 : decode cX6_shape 46 = .ok (.iaload, 1) := by decide +kernel
theorem dX6_shape_47 : decode cX6_shape 47 = .ok (.ifCond .lt 19, 3) := by decide +kernel
theorem dX6_shape_50 : decode cX6_shape 50 = .ok (.aload_n 0, 1) := by decide +kernel
theorem dX6_shape_51 : decode cX6_shape 51 = .ok (.getfield 38, 3) := by decide +kernel
theorem dX6_shape_54 : decode cX6_shape 54 = .ok (.iload_n 1, 1) := by decide +kernel
theorem dX6_shape_55 : decode cX6_shape 55 = .ok (.iaload, 1) := by decide +kernel
theorem dX6_shape_56 : decode cX6_shape 56 = .ok (.iload_n 2, 1) := by decide +kernel
theorem dX6_shape_57 : decode cX6_shape 57 = .ok (.if_icmp .eq 9, 3) := by decide +kernel
theorem dX6_shape_60 : decode cX6_shape 60 = .ok (.aload_n 0, 1) := by decide +kernel
theorem dX6_shape_61 : decode cX6_shape 61 = .ok (.iconst 2, 1) := by decide +kernel
theorem dX6_shape_62 : decode cX6_shape 62 = .ok (.invokevirtual 201, 3) := by decide +kernel
theorem dX6_shape_65 : decode cX6_shape 65 = .ok (.ireturn, 1) := by decide +kernel
theorem dX6_shape_66 : decode cX6_shape 66 = .ok (.aload_n 0, 1) := by decide +kernel
theorem dX6_shape_67 : decode cX6_shape 67 = .ok (.getfield 35, 3) := by decide +kernel
theorem dX6_shape_70 : decode cX6_shape 70 = .ok (.iload_n 1, 1) := by decide +kernel
theorem dX6_shape_71 : decode cX6_shape 71 = .ok (.iaload, 1) := by decide +kernel
theorem dX6_shape_72 : decode cX6_shape 72 = .ok (.ifCond .ge 9, 3) := by decide +kernel
theorem dX6_shape_75 : decode cX6_shape 75 = .ok (.aload_n 0, 1) := by decide +kernel
theorem dX6_shape_76 : decode cX6_shape 76 = .ok (.iconst 1, 1) := by decide +kernel
theorem dX6_shape_77 : decode cX6_shape 77 = .ok (.invokevirtual 201, 3) := by decide +kernel
theorem dX6_shape_80 : decode cX6_shape 80 = .ok (.ireturn, 1) := by decide +kernel
theorem dX6_shape_81 : decode cX6_shape 81 = .ok (.iload 4, 2) := by decide +kernel
theorem dX6_shape_83 : decode cX6_shape 83 = .ok (.ifCond .ge 9, 3) := by decide +kernel
theorem dX6_shape_86 : decode cX6_shape 86 = .ok (.aload_n 0, 1) := by decide +kernel
theorem dX6_shape_87 : decode cX6_shape 87 = .ok (.iconst 4, 1) := by decide +kernel
theorem dX6_shape_88 : decode cX6_shape 88 = .ok (.invokevirtual 201, 3) := by decide +kernel
theorem dX6_shape_91 : decode cX6_shape 91 = .ok (.ireturn, 1) := by decide +kernel
theorem dX6_shape_92 : decode cX6_shape 92 = .ok (.iload_n 3, 1) := by decide +kernel
theorem dX6_shape_93 : decode cX6_shape 93 = .ok (.ldc2_w 81, 3) := by decide +kernel
theorem dX6_shape_96 : decode cX6_shape 96 = .ok (.iload 4, 2) := by decide +kernel
theorem dX6_shape_98 : decode cX6_shape 98 = .ok (.i2l, 1) := by decide +kernel
theorem dX6_shape_99 : decode cX6_shape 99 = .ok (.lmul, 1) := by decide +kernel
theorem dX6_shape_100 : decode cX6_shape 100 = .ok (.aload_n 0, 1) := by decide +kernel
theorem dX6_shape_101 : decode cX6_shape 101 = .ok (.getfield 35, 3) := by decide +kernel
theorem dX6_shape_104 : decode cX6_shape 104 = .ok (.iload_n 1, 1) := by decide +kernel
theorem dX6_shape_105 : decode cX6_shape 105 = .ok (.iaload, 1) := by decide +kernel
theorem dX6_shape_106 : decode cX6_shape 106 = .ok (.invokestatic 211, 3) := by decide +kernel
theorem dX6_shape_109 : decode cX6_shape 109 = .ok (.ifCond .ne 18, 3) := by decide +kernel
theorem dX6_shape_112 : decode cX6_shape 112 = .ok (.iload 5, 2) := by decide +kernel
theorem dX6_shape_114 : decode cX6_shape 114 = .ok (.iload 4, 2) := by decide +kernel
theorem dX6_shape_116 : decode cX6_shape 116 = .ok (.i2l, 1) := by decide +kernel
theorem dX6_shape_117 : decode cX6_shape 117 = .ok (.aload_n 0, 1) := by decide +kernel
theorem dX6_shape_118 : decode cX6_shape 118 = .ok (.invokevirtual 67, 3) := by decide +kernel
theorem dX6_shape_121 : decode cX6_shape 121 = .ok (.invokestatic 211, 3) := by decide +kernel
theorem dX6_shape_124 : decode cX6_shape 124 = .ok (.ifCond .eq 9, 3) := by decide +kernel
theorem dX6_shape_127 : decode cX6_shape 127 = .ok (.aload_n 0, 1) := by decide +kernel
theorem dX6_shape_128 : decode cX6_shape 128 = .ok (.iconst 3, 1) := by decide +kernel
theorem dX6_shape_129 : decode cX6_shape 129 = .ok (.invokevirtual 201, 3) := by decide +kernel
theorem dX6_shape_132 : decode cX6_shape 132 = .ok (.ireturn, 1) := by decide +kernel
theorem dX6_shape_133 : decode cX6_shape 133 = .ok (.iconst 0, 1) := by decide +kernel
theorem dX6_shape_134 : decode cX6_shape 134 = .ok (.istore 6, 2) := by decide +kernel
theorem dX6_shape_136 : decode cX6_shape 136 = .ok (.iload 6, 2) := by decide +kernel
theorem dX6_shape_138 : decode cX6_shape 138 = .ok (.iconst 5, 1) := by decide +kernel
theorem dX6_shape_139 : decode cX6_shape 139 = .ok (.iload 4, 2) := by decide +kernel
theorem dX6_shape_141 : decode cX6_shape 141 = .ok (.imul, 1) := by decide +kernel
theorem dX6_shape_142 : decode cX6_shape 142 = .ok (.if_icmp .ge 43, 3) := by decide +kernel
theorem dX6_shape_145 : decode cX6_shape 145 = .ok (.aload_n 0, 1) := by decide +kernel
theorem dX6_shape_146 : decode cX6_shape 146 = .ok (.getfield 41, 3) := by decide +kernel
theorem dX6_shape_149 : decode cX6_shape 149 = .ok (.bipush 50, 2) := by decide +kernel
theorem dX6_shape_151 : decode cX6_shape 151 = .ok (.iload_n 1, 1) := by decide +kernel
theorem dX6_shape_152 : decode cX6_shape 152 = .ok (.imul, 1) := by decide +kernel
theorem dX6_shape_153 : decode cX6_shape 153 = .ok (.iload_n 3, 1) := by decide +kernel
theorem dX6_shape_154 : decode cX6_shape 154 = .ok (.iadd, 1) := by decide +kernel
theorem dX6_shape_155 : decode cX6_shape 155 = .ok (.iload 6, 2) := by decide +kernel
theorem dX6_shape_157 : decode cX6_shape 157 = .ok (.iadd, 1) := by decide +kernel
theorem dX6_shape_158 : decode cX6_shape 158 = .ok (.iaload, 1) := by decide +kernel
theorem dX6_shape_159 : decode cX6_shape 159 = .ok (.i2l, 1) := by decide +kernel
theorem dX6_shape_160 : decode cX6_shape 160 = .ok (.ldc2_w 111, 3) := by decide +kernel
theorem dX6_shape_163 : decode cX6_shape 163 = .ok (.ldc2_w 113, 3) := by decide +kernel
theorem dX6_shape_166 : decode cX6_shape 166 = .ok (.invokestatic 70, 3) := by decide +kernel
theorem dX6_shape_169 : decode cX6_shape 169 = .ok (.ifCond .ne 10, 3) := by decide +kernel
theorem dX6_shape_172 : decode cX6_shape 172 = .ok (.aload_n 0, 1) := by decide +kernel
theorem dX6_shape_173 : decode cX6_shape 173 = .ok (.bipush (-2), 2) := by decide +kernel
theorem dX6_shape_175 : decode cX6_shape 175 = .ok (.invokevirtual 196, 3) := by decide +kernel
theorem dX6_shape_178 : decode cX6_shape 178 = .ok (.ireturn, 1) := by decide +kernel
theorem dX6_shape_179 : decode cX6_shape 179 = .ok (.iinc 6 1, 3) := by decide +kernel
theorem dX6_shape_182 : decode cX6_shape 182 = .ok (.goto (-46), 3) := by decide +kernel
theorem dX6_shape_185 : decode cX6_shape 185 = .ok (.iconst 0, 1) := by decide +kernel
theorem dX6_shape_186 : decode cX6_shape 186 = .ok (.istore 6, 2) := by decide +kernel
theorem dX6_shape_188 : decode cX6_shape 188 = .ok (.iload 6, 2) := by decide +kernel
theorem dX6_shape_190 : decode cX6_shape 190 = .ok (.iconst 5, 1) := by decide +kernel
theorem dX6_shape_191 : decode cX6_shape 191 = .ok (.iload 4, 2) := by decide +kernel
theorem dX6_shape_193 : decode cX6_shape 193 = .ok (.imul, 1) := by decide +kernel
theorem dX6_shape_194 : decode cX6_shape 194 = .ok (.if_icmp .ge 35, 3) := by decide +kernel
theorem dX6_shape_197 : decode cX6_shape 197 = .ok (.aload_n 0, 1) := by decide +kernel
theorem dX6_shape_198 : decode cX6_shape 198 = .ok (.getfield 7, 3) := by decide +kernel
theorem dX6_shape_201 : decode cX6_shape 201 = .ok (.iconst 5, 1) := by decide +kernel
theorem dX6_shape_202 : decode cX6_shape 202 = .ok (.iload 5, 2) := by decide +kernel
theorem dX6_shape_204 : decode cX6_shape 204 = .ok (.imul, 1) := by decide +kernel
theorem dX6_shape_205 : decode cX6_shape 205 = .ok (.iload 6, 2) := by decide +kernel
theorem dX6_shape_207 : decode cX6_shape 207 = .ok (.iadd, 1) := by decide +kernel
theorem dX6_shape_208 : decode cX6_shape 208 = .ok (.aload_n 0, 1) := by decide +kernel
theorem dX6_shape_209 : decode cX6_shape 209 = .ok (.getfield 41, 3) := by decide +kernel
theorem dX6_shape_212 : decode cX6_shape 212 = .ok (.bipush 50, 2) := by decide +kernel
theorem dX6_shape_214 : decode cX6_shape 214 = .ok (.iload_n 1, 1) := by decide +kernel
theorem dX6_shape_215 : decode cX6_shape 215 = .ok (.imul, 1) := by decide +kernel
theorem dX6_shape_216 : decode cX6_shape 216 = .ok (.iload_n 3, 1) := by decide +kernel
theorem dX6_shape_217 : decode cX6_shape 217 = .ok (.iadd, 1) := by decide +kernel
theorem dX6_shape_218 : decode cX6_shape 218 = .ok (.iload 6, 2) := by decide +kernel
theorem dX6_shape_220 : decode cX6_shape 220 = .ok (.iadd, 1) := by decide +kernel
theorem dX6_shape_221 : decode cX6_shape 221 = .ok (.iaload, 1) := by decide +kernel
theorem dX6_shape_222 : decode cX6_shape 222 = .ok (.iastore, 1) := by decide +kernel
theorem dX6_shape_223 : decode cX6_shape 223 = .ok (.iinc 6 1, 3) := by decide +kernel
theorem dX6_shape_226 : decode cX6_shape 226 = .ok (.goto (-38), 3) := by decide +kernel
theorem dX6_shape_229 : decode cX6_shape 229 = .ok (.aload_n 0, 1) := by decide +kernel
theorem dX6_shape_230 : decode cX6_shape 230 = .ok (.invokevirtual 86, 3) := by decide +kernel
theorem dX6_shape_233 : decode cX6_shape 233 = .ok (.aload_n 0, 1) := by decide +kernel
theorem dX6_shape_234 : decode cX6_shape 234 = .ok (.iload 4, 2) := by decide +kernel
theorem dX6_shape_236 : decode cX6_shape 236 = .ok (.invokevirtual 196, 3) := by decide +kernel
theorem dX6_shape_239 : decode cX6_shape 239 = .ok (.ireturn, 1) := by decide +kernel
theorem dX6_traced_0 : decode cX6_traced 0 = .ok (.aload_n 0, 1) := by decide +kernel
theorem dX6_traced_1 : decode cX6_traced 1 = .ok (.bipush 31, 2) := by decide +kernel
theorem dX6_traced_3 : decode cX6_traced 3 = .ok (.aload_n 0, 1) := by decide +kernel
theorem dX6_traced_4 : decode cX6_traced 4 = .ok (.getfield 215, 3) := by decide +kernel
theorem dX6_traced_7 : decode cX6_traced 7 = .ok (.imul, 1) := by decide +kernel
theorem dX6_traced_8 : decode cX6_traced 8 = .ok (.iload_n 1, 1) := by decide +kernel
theorem dX6_traced_9 : decode cX6_traced 9 = .ok (.iadd, 1) := by decide +kernel
theorem dX6_traced_10 : decode cX6_traced 10 = .ok (.putfield 215, 3) := by decide +kernel
theorem dX6_traced_13 : decode cX6_traced 13 = .ok (.return_, 1) := by decide +kernel
set_option maxRecDepth 20000 in
theorem ggX6_tell_X6_noSide : GoodIn wsX6_tell wsX6_noSide := goodIn_r _ [6, 7, 8, 9, 5, 10, 11, 12, 13, 14, 15, 16, 17, 18, 19, 37, 38, 39, 40, 41, 42, 43, 44, 45, 46, 47, 48, 49, 50, 51, 52, 53, 54, 55, 56, 57, 58, 59] (by decide +kernel) (by decide +kernel)
set_option maxRecDepth 20000 in
theorem gX6_tell_X6_noSide : GoodIn wsX6_tell (wsV RX6 105 RX6 yX6_noSide wsX6_noSide) := goodIn_app (goodIn_of _ (by decide +kernel)) ggX6_tell_X6_noSide
set_option maxRecDepth 20000 in
theorem ggX6_tell_X6_kindOf : GoodIn wsX6_tell wsX6_kindOf := goodIn_r _ [23, 24, 25, 26, 5, 27, 1, 7, 8, 9, 10, 11, 12, 13, 14, 15, 16, 28, 29, 30, 31, 37, 38, 39, 40, 41, 42, 43, 44, 45, 46, 47, 48, 49, 50, 51, 52, 53, 54, 55, 56, 57, 58, 59] (by decide +kernel) (by decide +kernel)
set_option maxRecDepth 20000 in
theorem gX6_tell_X6_kindOf : GoodIn wsX6_tell (wsV RX6 142 RX6 yX6_kindOf wsX6_kindOf) := goodIn_app (goodIn_of _ (by decide +kernel)) ggX6_tell_X6_kindOf
set_option maxRecDepth 20000 in
theorem ggX6_tell_X6_traced : GoodIn wsX6_tell wsX6_traced := goodIn_r _ [35, 36, 37, 38, 39, 40, 41, 42, 43, 44, 45, 46, 47, 48, 49, 50, 51, 52, 53, 54, 55, 56, 57, 58, 59] (by decide +kernel) (by decide +kernel)
set_option maxRecDepth 20000 in
theorem gX6_tell_X6_traced : GoodIn wsX6_tell (wsV RX6 218 RX6 yX6_traced wsX6_traced) := goodIn_app (goodIn_of _ (by decide +kernel)) ggX6_tell_X6_traced
theorem dX6_tell_0 : decode cX6_tell 0 = .ok (.aload_n 0, 1) := by decide +kernel
theorem dX6_tell_1 : decode cX6_tell 1 = .ok (.iload_n 1, 1) := by decide +kernel
theorem dX6_tell_2 : decode cX6_tell 2 = .ok (.invokevirtual 105, 3) := by decide +kernel
theorem dX6_tell_5 : decode cX6_tell 5 = .ok (.ifCond .eq 5, 3) := by decide +kernel
theorem dX6_tell_8 : decode cX6_tell 8 = .ok (.iconst (-1), 1) := by decide +kernel
theorem dX6_tell_9 : decode cX6_tell 9 = .ok (.ireturn, 1) := by decide +kernel
theorem dX6_tell_10 : decode cX6_tell 10 = .ok (.aload_n 0, 1) := by decide +kernel
theorem dX6_tell_11 : decode cX6_tell 11 = .ok (.iload_n 1, 1) := by decide +kernel
theorem dX6_tell_12 : decode cX6_tell 12 = .ok (.invokevirtual 142, 3) := by decide +kernel
theorem dX6_tell_15 : decode cX6_tell 15 = .ok (.istore_n 2, 1) := by decide +kernel
theorem dX6_tell_16 : decode cX6_tell 16 = .ok (.iload_n 2, 1) := by decide +kernel
theorem dX6_tell_17 : decode cX6_tell 17 = .ok (.ifCond .le 10, 3) := by decide +kernel
theorem dX6_tell_20 : decode cX6_tell 20 = .ok (.aload_n 0, 1) := by decide +kernel
theorem dX6_tell_21 : decode cX6_tell 21 = .ok (.iload_n 2, 1) := by decide +kernel
theorem dX6_tell_22 : decode cX6_tell 22 = .ok (.iconst 1, 1) := by decide +kernel
theorem dX6_tell_23 : decode cX6_tell 23 = .ok (.iadd, 1) := by decide +kernel
theorem dX6_tell_24 : decode cX6_tell 24 = .ok (.invokevirtual 218, 3) := by decide +kernel
theorem dX6_tell_27 : decode cX6_tell 27 = .ok (.aload_n 0, 1) := by decide +kernel
theorem dX6_tell_28 : decode cX6_tell 28 = .ok (.iconst 1, 1) := by decide +kernel
theorem dX6_tell_29 : decode cX6_tell 29 = .ok (.invokevirtual 218, 3) := by decide +kernel
theorem dX6_tell_32 : decode cX6_tell 32 = .ok (.iconst 0, 1) := by decide +kernel
theorem dX6_tell_33 : decode cX6_tell 33 = .ok (.istore_n 3, 1) := by decide +kernel
theorem dX6_tell_34 : decode cX6_tell 34 = .ok (.iconst 0, 1) := by decide +kernel
theorem dX6_tell_35 : decode cX6_tell 35 = .ok (.istore 4, 2) := by decide +kernel
theorem dX6_tell_37 : decode cX6_tell 37 = .ok (.iload 4, 2) := by decide +kernel
theorem dX6_tell_39 : decode cX6_tell 39 = .ok (.iconst 5, 1) := by decide +kernel
theorem dX6_tell_40 : decode cX6_tell 40 = .ok (.if_icmp .ge 23, 3) := by decide +kernel
theorem dX6_tell_43 : decode cX6_tell 43 = .ok (.iload_n 3, 1) := by decide +kernel
theorem dX6_tell_44 : decode cX6_tell 44 = .ok (.aload_n 0, 1) := by decide +kernel
theorem dX6_tell_45 : decode cX6_tell 45 = .ok (.getfield 7, 3) := by decide +kernel
theorem dX6_tell_48 : decode cX6_tell 48 = .ok (.iconst 5, 1) := by decide +kernel
theorem dX6_tell_49 : decode cX6_tell 49 = .ok (.iload_n 1, 1) := by decide +kernel
theorem dX6_tell_50 : decode cX6_tell 50 = .ok (.imul, 1) := by decide +kernel
theorem dX6_tell_51 : decode cX6_tell 51 = .ok (.iload 4, 2) := by decide +kernel
theorem dX6_tell_53 : decode cX6_tell 53 = .ok (.iadd, 1) := by decide +kernel
theorem dX6_tell_54 : decode cX6_tell 54 = .ok (.iaload, 1) := by decide +kernel
theorem dX6_tell_55 : decode cX6_tell 55 = .ok (.iadd, 1) := by decide +kernel
theorem dX6_tell_56 : decode cX6_tell 56 = .ok (.istore_n 3, 1) := by decide +kernel
theorem dX6_tell_57 : decode cX6_tell 57 = .ok (.iinc 4 1, 3) := by decide +kernel
theorem dX6_tell_60 : decode cX6_tell 60 = .ok (.goto (-23), 3) := by decide +kernel
theorem dX6_tell_63 : decode cX6_tell 63 = .ok (.iload_n 2, 1) := by decide +kernel
theorem dX6_tell_64 : decode cX6_tell 64 = .ok (.ifCond .ne 7, 3) := by decide +kernel
theorem dX6_tell_67 : decode cX6_tell 67 = .ok (.iload_n 3, 1) := by decide +kernel
theorem dX6_tell_68 : decode cX6_tell 68 = .ok (.goto 17, 3) := by decide +kernel
theorem dX6_tell_71 : decode cX6_tell 71 = .ok (.iload_n 2, 1) := by decide +kernel
theorem dX6_tell_72 : decode cX6_tell 72 = .ok (.iconst 1, 1) := by decide +kernel
theorem dX6_tell_73 : decode cX6_tell 73 = .ok (.if_icmp .ne 10, 3) := by decide +kernel
theorem dX6_tell_76 : decode cX6_tell 76 = .ok (.iload_n 3, 1) := by decide +kernel
theorem dX6_tell_77 : decode cX6_tell 77 = .ok (.bipush 100, 2) := by decide +kernel
theorem dX6_tell_79 : decode cX6_tell 79 = .ok (.iadd, 1) := by decide +kernel
theorem dX6_tell_80 : decode cX6_tell 80 = .ok (.goto 5, 3) := by decide +kernel
theorem dX6_tell_83 : decode cX6_tell 83 = .ok (.iload_n 3, 1) := by decide +kernel
theorem dX6_tell_84 : decode cX6_tell 84 = .ok (.ineg, 1) := by decide +kernel
theorem dX6_tell_85 : decode cX6_tell 85 = .ok (.ireturn, 1) := by decide +kernel
set_option maxRecDepth 20000 in
theorem ggX6_mark_X6_noSide : GoodIn wsX6_mark wsX6_noSide := goodIn_r _ [5, 6, 7, 8, 4, 9, 10, 11, 12, 13, 14, 15, 16, 17, 18, 37, 38, 39, 40, 41, 42, 43, 44, 45, 46, 47, 48, 49, 50, 51, 52, 53, 54, 55, 56, 57, 58, 59] (by decide +kernel) (by decide +kernel)
set_option maxRecDepth 20000 in
theorem gX6_mark_X6_noSide : GoodIn wsX6_mark (wsV RX6 105 RX6 yX6_noSide wsX6_noSide) := goodIn_app (goodIn_of _ (by decide +kernel)) ggX6_mark_X6_noSide
set_option maxRecDepth 20000 in
theorem ggX6_mark_X6_kindOf : GoodIn wsX6_mark wsX6_kindOf := goodIn_r _ [22, 23, 24, 25, 4, 26, 27, 6, 7, 8, 9, 10, 11, 12, 13, 14, 15, 28, 29, 30, 31, 37, 38, 39, 40, 41, 42, 43, 44, 45, 46, 47, 48, 49, 50, 51, 52, 53, 54, 55, 56, 57, 58, 59] (by decide +kernel) (by decide +kernel)
set_option maxRecDepth 20000 in
theorem gX6_mark_X6_kindOf : GoodIn wsX6_mark (wsV RX6 142 RX6 yX6_kindOf wsX6_kindOf) := goodIn_app (goodIn_of _ (by decide +kernel)) ggX6_mark_X6_kindOf
set_option maxRecDepth 20000 in
theorem ggX6_mark_X6_traced : GoodIn wsX6_mark wsX6_traced := goodIn_r _ [35, 36, 37, 38, 39, 40, 41, 42, 43, 44, 45, 46, 47, 48, 49, 50, 51, 52, 53, 54, 55, 56, 57, 58, 59] (by decide +kernel) (by decide +kernel)
set_option maxRecDepth 20000 in
theorem gX6_mark_X6_traced : GoodIn wsX6_mark (wsV RX6 218 RX6 yX6_traced wsX6_traced) := goodIn_app (goodIn_of _ (by decide +kernel)) ggX6_mark_X6_traced
theorem dX6_mark_0 : decode cX6_mark 0 = .ok (.aload_n 0, 1) := by decide +kernel
theorem dX6_mark_1 : decode cX6_mark 1 = .ok (.iload_n 1, 1) := by decide +kernel
theorem dX6_mark_2 : decode cX6_mark 2 = .ok (.invokevirtual 105, 3) := by decide +kernel
theorem dX6_mark_5 : decode cX6_mark 5 = .ok (.ifCond .eq 5, 3) := by decide +kernel
theorem dX6_mark_8 : decode cX6_mark 8 = .ok (.iconst (-1), 1) := by decide +kernel
theorem dX6_mark_9 : decode cX6_mark 9 = .ok (.ireturn, 1) := by decide +kernel
theorem dX6_mark_10 : decode cX6_mark 10 = .ok (.aload_n 0, 1) := by decide +kernel
theorem dX6_mark_11 : decode cX6_mark 11 = .ok (.iload_n 1, 1) := by decide +kernel
theorem dX6_mark_12 : decode cX6_mark 12 = .ok (.invokevirtual 142, 3) := by decide +kernel
theorem dX6_mark_15 : decode cX6_mark 15 = .ok (.iconst 2, 1) := by decide +kernel
theorem dX6_mark_16 : decode cX6_mark 16 = .ok (.if_icmp .ne 7, 3) := by decide +kernel
theorem dX6_mark_19 : decode cX6_mark 19 = .ok (.iconst 1, 1) := by decide +kernel
theorem dX6_mark_20 : decode cX6_mark 20 = .ok (.goto 4, 3) := by decide +kernel
theorem dX6_mark_23 : decode cX6_mark 23 = .ok (.iconst 0, 1) := by decide +kernel
theorem dX6_mark_24 : decode cX6_mark 24 = .ok (.istore_n 2, 1) := by decide +kernel
theorem dX6_mark_25 : decode cX6_mark 25 = .ok (.aload_n 0, 1) := by decide +kernel
theorem dX6_mark_26 : decode cX6_mark 26 = .ok (.iload_n 2, 1) := by decide +kernel
theorem dX6_mark_27 : decode cX6_mark 27 = .ok (.ifCond .eq 7, 3) := by decide +kernel
theorem dX6_mark_30 : decode cX6_mark 30 = .ok (.iconst 5, 1) := by decide +kernel
theorem dX6_mark_31 : decode cX6_mark 31 = .ok (.goto 4, 3) := by decide +kernel
theorem dX6_mark_34 : decode cX6_mark 34 = .ok (.iconst 4, 1) := by decide +kernel
theorem dX6_mark_35 : decode cX6_mark 35 = .ok (.invokevirtual 218, 3) := by decide +kernel
theorem dX6_mark_38 : decode cX6_mark 38 = .ok (.iload_n 2, 1) := by decide +kernel
theorem dX6_mark_39 : decode cX6_mark 39 = .ok (.ifCond .eq 8, 3) := by decide +kernel
theorem dX6_mark_42 : decode cX6_mark 42 = .ok (.bipush 99, 2) := by decide +kernel
theorem dX6_mark_44 : decode cX6_mark 44 = .ok (.goto 4, 3) := by decide +kernel
theorem dX6_mark_47 : decode cX6_mark 47 = .ok (.iload_n 1, 1) := by decide +kernel
theorem dX6_mark_48 : decode cX6_mark 48 = .ok (.ireturn, 1) := by decide +kernel
set_option maxRecDepth 20000 in
theorem ggX6_as_X6_noSide : GoodIn wsX6_as wsX6_noSide := goodIn_r _ [6, 7, 8, 9, 5, 10, 11, 12, 13, 14, 15, 16, 17, 18, 19, 42, 43, 44, 45, 46, 47, 48, 49, 50, 51, 52, 53, 54, 55, 56, 57, 58, 59, 60, 61, 62, 63, 64] (by decide +kernel) (by decide +kernel)
set_option maxRecDepth 20000 in
theorem gX6_as_X6_noSide : GoodIn wsX6_as (wsV RX6 105 RX6 yX6_noSide wsX6_noSide) := goodIn_app (goodIn_of _ (by decide +kernel)) ggX6_as_X6_noSide
set_option maxRecDepth 20000 in
theorem ggX6_as_X6_refused : GoodIn wsX6_as wsX6_refused := goodIn_r _ [23, 24, 42, 43, 44, 45, 46, 47, 48, 49, 50, 51, 52, 53, 54, 55, 56, 57, 58, 59, 60, 61, 62, 63, 64] (by decide +kernel) (by decide +kernel)
set_option maxRecDepth 20000 in
theorem gX6_as_X6_refused : GoodIn wsX6_as (wsV RX6 196 RX6 yX6_refused wsX6_refused) := goodIn_app (goodIn_of _ (by decide +kernel)) ggX6_as_X6_refused
set_option maxRecDepth 20000 in
theorem ggX6_as_X6_in : GoodIn wsX6_as wsX6_in := goodIn_r _ [19] (by decide +kernel) (by decide +kernel)
set_option maxRecDepth 20000 in
theorem gX6_as_X6_in : GoodIn wsX6_as (va_wsS RX6 70 yX6_in wsX6_in) := goodIn_app (goodIn_of _ (by decide +kernel)) ggX6_as_X6_in
set_option maxRecDepth 20000 in
theorem ggX6_as_X6_kindOf : GoodIn wsX6_as wsX6_kindOf := goodIn_r _ [28, 29, 30, 31, 5, 32, 33, 7, 8, 9, 10, 11, 12, 13, 14, 15, 16, 34, 35, 36, 37, 42, 43, 44, 45, 46, 47, 48, 49, 50, 51, 52, 53, 54, 55, 56, 57, 58, 59, 60, 61, 62, 63, 64] (by decide +kernel) (by decide +kernel)
set_option maxRecDepth 20000 in
theorem gX6_as_X6_kindOf : GoodIn wsX6_as (wsV RX6 142 RX6 yX6_kindOf wsX6_kindOf) := goodIn_app (goodIn_of _ (by decide +kernel)) ggX6_as_X6_kindOf
set_option maxRecDepth 20000 in
theorem ggX6_as_X6_failed : GoodIn wsX6_as wsX6_failed := goodIn_r _ [41, 24, 42, 43, 44, 45, 46, 47, 48, 49, 50, 51, 52, 53, 54, 55, 56, 57, 58, 59, 60, 61, 62, 63, 64] (by decide +kernel) (by decide +kernel)
set_option maxRecDepth 20000 in
theorem gX6_as_X6_failed : GoodIn wsX6_as (wsV RX6 201 RX6 yX6_failed wsX6_failed) := goodIn_app (goodIn_of _ (by decide +kernel)) ggX6_as_X6_failed
theorem dX6_as_0 : decode cX6_as 0 = .ok (.aload_n 0, 1) := by decide +kernel
theorem dX6_as_1 : decode cX6_as 1 = .ok (.iload_n 1, 1) := by decide +kernel
theorem dX6_as_2 : decode cX6_as 2 = .ok (.invokevirtual 105, 3) := by decide +kernel
theorem dX6_as_5 : decode cX6_as 5 = .ok (.ifCond .eq 9, 3) := by decide +kernel
theorem dX6_as_8 : decode cX6_as 8 = .ok (.aload_n 0, 1) := by decide +kernel
theorem dX6_as_9 : decode cX6_as 9 = .ok (.iconst (-1), 1) := by decide +kernel
theorem dX6_as_10 : decode cX6_as 10 = .ok (.invokevirtual 196, 3) := by decide +kernel
theorem dX6_as_13 : decode cX6_as 13 = .ok (.ireturn, 1) := by decide +kernel
theorem dX6_as_14 : decode cX6_as 14 = .ok (.iload_n 2, 1) := by decide +kernel
theorem dX6_as_15 : decode cX6_as 15 = .ok (.i2l, 1) := by decide +kernel
theorem dX6_as_16 : decode cX6_as 16 = .ok (.lconst 0, 1) := by decide +kernel
theorem dX6_as_17 : decode cX6_as 17 = .ok (.ldc2_w 199, 3) := by decide +kernel
theorem dX6_as_20 : decode cX6_as 20 = .ok (.invokestatic 70, 3) := by decide +kernel
theorem dX6_as_23 : decode cX6_as 23 = .ok (.ifCond .ne 10, 3) := by decide +kernel
theorem dX6_as_26 : decode cX6_as 26 = .ok (.aload_n 0, 1) := by decide +kernel
theorem dX6_as_27 : decode cX6_as 27 = .ok (.bipush (-2), 2) := by decide +kernel
theorem dX6_as_29 : decode cX6_as 29 = .ok (.invokevirtual 196, 3) := by decide +kernel
theorem dX6_as_32 : decode cX6_as 32 = .ok (.ireturn, 1) := by decide +kernel
theorem dX6_as_33 : decode cX6_as 33 = .ok (.aload_n 0, 1) := by decide +kernel
theorem dX6_as_34 : decode cX6_as 34 = .ok (.iload_n 1, 1) := by decide +kernel
theorem dX6_as_35 : decode cX6_as 35 = .ok (.invokevirtual 142, 3) := by decide +kernel
theorem dX6_as_38 : decode cX6_as 38 = .ok (.iload_n 2, 1) := by decide +kernel
theorem dX6_as_39 : decode cX6_as 39 = .ok (.if_icmp .lt 11, 3) := by decide +kernel
theorem dX6_as_42 : decode cX6_as 42 = .ok (.aload_n 0, 1) := by decide +kernel
theorem dX6_as_43 : decode cX6_as 43 = .ok (.iconst 1, 1) := by decide +kernel
theorem dX6_as_44 : decode cX6_as 44 = .ok (.invokevirtual 196, 3) := by decide +kernel
theorem dX6_as_47 : decode cX6_as 47 = .ok (.goto 8, 3) := by decide +kernel
theorem dX6_as_50 : decode cX6_as 50 = .ok (.aload_n 0, 1) := by decide +kernel
theorem dX6_as_51 : decode cX6_as 51 = .ok (.iconst 2, 1) := by decide +kernel
theorem dX6_as_52 : decode cX6_as 52 = .ok (.invokevirtual 201, 3) := by decide +kernel
theorem dX6_as_55 : decode cX6_as 55 = .ok (.ireturn, 1) := by decide +kernel
theorem dX6_trace_0 : decode cX6_trace 0 = .ok (.aload_n 0, 1) := by decide +kernel
theorem dX6_trace_1 : decode cX6_trace 1 = .ok (.getfield 215, 3) := by decide +kernel
theorem dX6_trace_4 : decode cX6_trace 4 = .ok (.ireturn, 1) := by decide +kernel
theorem dX6_fault_0 : decode cX6_fault 0 = .ok (.aload_n 0, 1) := by decide +kernel
theorem dX6_fault_1 : decode cX6_fault 1 = .ok (.getfield 56, 3) := by decide +kernel
theorem dX6_fault_4 : decode cX6_fault 4 = .ok (.ireturn, 1) := by decide +kernel
set_option maxRecDepth 20000 in
theorem ggX6_told_X6_pieces : GoodIn wsX6_told wsX6_pieces := goodIn_r _ [8, 1, 2, 17, 18, 19, 20, 21, 22, 23, 24, 25, 26, 27, 28, 29, 30, 31, 32, 33, 34, 35, 36, 37, 38, 39] (by decide +kernel) (by decide +kernel)
set_option maxRecDepth 20000 in
theorem gX6_told_X6_pieces : GoodIn wsX6_told (wsV RX6 74 RX6 yX6_pieces wsX6_pieces) := goodIn_app (goodIn_of _ (by decide +kernel)) ggX6_told_X6_pieces
set_option maxRecDepth 20000 in
theorem ggX6_told_X6_sides : GoodIn wsX6_told wsX6_sides := goodIn_r _ [12, 1, 2, 13, 14, 15, 7, 16, 17, 18, 19, 20, 21, 22, 23, 24, 25, 26, 27, 28, 29, 30, 31, 32, 33, 34, 35, 36, 37, 38, 39] (by decide +kernel) (by decide +kernel)
set_option maxRecDepth 20000 in
theorem gX6_told_X6_sides : GoodIn wsX6_told (wsV RX6 67 RX6 yX6_sides wsX6_sides) := goodIn_app (goodIn_of _ (by decide +kernel)) ggX6_told_X6_sides
theorem dX6_told_0 : decode cX6_told 0 = .ok (.iload_n 1, 1) := by decide +kernel
theorem dX6_told_1 : decode cX6_told 1 = .ok (.tableswitch 60 0 4 #[35, 40, 45, 50, 55], 35) := by decide +kernel
theorem dX6_told_36 : decode cX6_told 36 = .ok (.aload_n 0, 1) := by decide +kernel
theorem dX6_told_37 : decode cX6_told 37 = .ok (.getfield 47, 3) := by decide +kernel
theorem dX6_told_40 : decode cX6_told 40 = .ok (.ireturn, 1) := by decide +kernel
theorem dX6_told_41 : decode cX6_told 41 = .ok (.aload_n 0, 1) := by decide +kernel
theorem dX6_told_42 : decode cX6_told 42 = .ok (.getfield 51, 3) := by decide +kernel
theorem dX6_told_45 : decode cX6_told 45 = .ok (.ireturn, 1) := by decide +kernel
theorem dX6_told_46 : decode cX6_told 46 = .ok (.aload_n 0, 1) := by decide +kernel
theorem dX6_told_47 : decode cX6_told 47 = .ok (.invokevirtual 74, 3) := by decide +kernel
theorem dX6_told_50 : decode cX6_told 50 = .ok (.ireturn, 1) := by decide +kernel
theorem dX6_told_51 : decode cX6_told 51 = .ok (.aload_n 0, 1) := by decide +kernel
theorem dX6_told_52 : decode cX6_told 52 = .ok (.invokevirtual 67, 3) := by decide +kernel
theorem dX6_told_55 : decode cX6_told 55 = .ok (.ireturn, 1) := by decide +kernel
theorem dX6_told_56 : decode cX6_told 56 = .ok (.aload_n 0, 1) := by decide +kernel
theorem dX6_told_57 : decode cX6_told 57 = .ok (.getfield 83, 3) := by decide +kernel
theorem dX6_told_60 : decode cX6_told 60 = .ok (.ireturn, 1) := by decide +kernel
theorem dX6_told_61 : decode cX6_told 61 = .ok (.bipush (-2), 2) := by decide +kernel
theorem dX6_told_63 : decode cX6_told 63 = .ok (.ireturn, 1) := by decide +kernel
