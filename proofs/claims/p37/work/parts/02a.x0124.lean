theorem dX0_init_0 : decode cX0_init 0 = .ok (.aload_n 0, 1) := by decide +kernel
theorem dX0_init_1 : decode cX0_init 1 = .ok (.invokespecial 1, 3) := by decide +kernel
theorem dX0_init_4 : decode cX0_init 4 = .ok (.return_, 1) := by decide +kernel
theorem dX0_begin_0 : decode cX0_begin 0 = .ok (.aload_n 0, 1) := by decide +kernel
theorem dX0_begin_1 : decode cX0_begin 1 = .ok (.lload_n 1, 1) := by decide +kernel
theorem dX0_begin_2 : decode cX0_begin 2 = .ok (.putfield 7, 3) := by decide +kernel
theorem dX0_begin_5 : decode cX0_begin 5 = .ok (.return_, 1) := by decide +kernel
theorem dX0_below_0 : decode cX0_below 0 = .ok (.aload_n 0, 1) := by decide +kernel
theorem dX0_below_1 : decode cX0_below 1 = .ok (.aload_n 0, 1) := by decide +kernel
theorem dX0_below_2 : decode cX0_below 2 = .ok (.getfield 7, 3) := by decide +kernel
theorem dX0_below_5 : decode cX0_below 5 = .ok (.ldc2_w 13, 3) := by decide +kernel
theorem dX0_below_8 : decode cX0_below 8 = .ok (.lmul, 1) := by decide +kernel
theorem dX0_below_9 : decode cX0_below 9 = .ok (.ldc2_w 15, 3) := by decide +kernel
theorem dX0_below_12 : decode cX0_below 12 = .ok (.ladd, 1) := by decide +kernel
theorem dX0_below_13 : decode cX0_below 13 = .ok (.putfield 7, 3) := by decide +kernel
theorem dX0_below_16 : decode cX0_below 16 = .ok (.iload_n 1, 1) := by decide +kernel
theorem dX0_below_17 : decode cX0_below 17 = .ok (.iconst 1, 1) := by decide +kernel
theorem dX0_below_18 : decode cX0_below 18 = .ok (.if_icmp .ge 7, 3) := by decide +kernel
theorem dX0_below_21 : decode cX0_below 21 = .ok (.iconst 0, 1) := by decide +kernel
theorem dX0_below_22 : decode cX0_below 22 = .ok (.goto 19, 3) := by decide +kernel
theorem dX0_below_25 : decode cX0_below 25 = .ok (.aload_n 0, 1) := by decide +kernel
theorem dX0_below_26 : decode cX0_below 26 = .ok (.getfield 7, 3) := by decide +kernel
theorem dX0_below_29 : decode cX0_below 29 = .ok (.ldc2_w 17, 3) := by decide +kernel
theorem dX0_below_32 : decode cX0_below 32 = .ok (.land, 1) := by decide +kernel
theorem dX0_below_33 : decode cX0_below 33 = .ok (.ldc2_w 19, 3) := by decide +kernel
theorem dX0_below_36 : decode cX0_below 36 = .ok (.ldiv, 1) := by decide +kernel
theorem dX0_below_37 : decode cX0_below 37 = .ok (.iload_n 1, 1) := by decide +kernel
theorem dX0_below_38 : decode cX0_below 38 = .ok (.i2l, 1) := by decide +kernel
theorem dX0_below_39 : decode cX0_below 39 = .ok (.lrem, 1) := by decide +kernel
theorem dX0_below_40 : decode cX0_below 40 = .ok (.l2i, 1) := by decide +kernel
theorem dX0_below_41 : decode cX0_below 41 = .ok (.ireturn, 1) := by decide +kernel
set_option maxRecDepth 20000 in
theorem ggX1_init_X1_cutAnew : GoodIn wsX1_init wsX1_cutAnew := goodIn_r _ [11, 12, 13, 5, 14, 15, 16, 10, 17, 18, 19, 20, 21, 6, 22, 23, 24, 25] (by decide +kernel) (by decide +kernel)
set_option maxRecDepth 20000 in
theorem gX1_init_X1_cutAnew : GoodIn wsX1_init (wsV RX1 18 RX1 yX1_cutAnew wsX1_cutAnew) := goodIn_app (goodIn_of _ (by decide +kernel)) ggX1_init_X1_cutAnew
theorem dX1_init_0 : decode cX1_init 0 = .ok (.aload_n 0, 1) := by decide +kernel
theorem dX1_init_1 : decode cX1_init 1 = .ok (.invokespecial 3, 3) := by decide +kernel
theorem dX1_init_4 : decode cX1_init 4 = .ok (.aload_n 0, 1) := by decide +kernel
theorem dX1_init_5 : decode cX1_init 5 = .ok (.sipush 200, 3) := by decide +kernel
theorem dX1_init_8 : decode cX1_init 8 = .ok (.newarray .int, 2) := by decide +kernel
theorem dX1_init_10 : decode cX1_init 10 = .ok (.putfield 9, 3) := by decide +kernel
theorem dX1_init_13 : decode cX1_init 13 = .ok (.aload_n 0, 1) := by decide +kernel
theorem dX1_init_14 : decode cX1_init 14 = .ok (.bipush 100, 2) := by decide +kernel
theorem dX1_init_16 : decode cX1_init 16 = .ok (.newarray .int, 2) := by decide +kernel
theorem dX1_init_18 : decode cX1_init 18 = .ok (.putfield 15, 3) := by decide +kernel
theorem dX1_init_21 : decode cX1_init 21 = .ok (.aload_n 0, 1) := by decide +kernel
theorem dX1_init_22 : decode cX1_init 22 = .ok (.iconst 1, 1) := by decide +kernel
theorem dX1_init_23 : decode cX1_init 23 = .ok (.iconst 1, 1) := by decide +kernel
theorem dX1_init_24 : decode cX1_init 24 = .ok (.invokevirtual 18, 3) := by decide +kernel
theorem dX1_init_27 : decode cX1_init 27 = .ok (.return_, 1) := by decide +kernel
set_option maxRecDepth 20000 in
theorem ggX1_cutAnew_X1_layEdges : GoodIn wsX1_cutAnew wsX1_layEdges := goodIn_r _ [8, 1, 2, 9, 10, 11, 7, 12, 13, 14, 15, 16, 17] (by decide +kernel) (by decide +kernel)
set_option maxRecDepth 20000 in
theorem gX1_cutAnew_X1_layEdges : GoodIn wsX1_cutAnew (wsV RX1 29 RX1 yX1_layEdges wsX1_layEdges) := goodIn_app (goodIn_of _ (by decide +kernel)) ggX1_cutAnew_X1_layEdges
theorem dX1_cutAnew_0 : decode cX1_cutAnew 0 = .ok (.aload_n 0, 1) := by decide +kernel
theorem dX1_cutAnew_1 : decode cX1_cutAnew 1 = .ok (.iload_n 1, 1) := by decide +kernel
theorem dX1_cutAnew_2 : decode cX1_cutAnew 2 = .ok (.putfield 22, 3) := by decide +kernel
theorem dX1_cutAnew_5 : decode cX1_cutAnew 5 = .ok (.aload_n 0, 1) := by decide +kernel
theorem dX1_cutAnew_6 : decode cX1_cutAnew 6 = .ok (.iload_n 2, 1) := by decide +kernel
theorem dX1_cutAnew_7 : decode cX1_cutAnew 7 = .ok (.putfield 26, 3) := by decide +kernel
theorem dX1_cutAnew_10 : decode cX1_cutAnew 10 = .ok (.iconst 0, 1) := by decide +kernel
theorem dX1_cutAnew_11 : decode cX1_cutAnew 11 = .ok (.istore_n 3, 1) := by decide +kernel
theorem dX1_cutAnew_12 : decode cX1_cutAnew 12 = .ok (.iload_n 3, 1) := by decide +kernel
theorem dX1_cutAnew_13 : decode cX1_cutAnew 13 = .ok (.aload_n 0, 1) := by decide +kernel
theorem dX1_cutAnew_14 : decode cX1_cutAnew 14 = .ok (.getfield 9, 3) := by decide +kernel
theorem dX1_cutAnew_17 : decode cX1_cutAnew 17 = .ok (.arraylength, 1) := by decide +kernel
theorem dX1_cutAnew_18 : decode cX1_cutAnew 18 = .ok (.if_icmp .ge 16, 3) := by decide +kernel
theorem dX1_cutAnew_21 : decode cX1_cutAnew 21 = .ok (.aload_n 0, 1) := by decide +kernel
theorem dX1_cutAnew_22 : decode cX1_cutAnew 22 = .ok (.getfield 9, 3) := by decide +kernel
theorem dX1_cutAnew_25 : decode cX1_cutAnew 25 = .ok (.iload_n 3, 1) := by decide +kernel
theorem dX1_cutAnew_26 : decode cX1_cutAnew 26 = .ok (.iconst 0, 1) := by decide +kernel
theorem dX1_cutAnew_27 : decode cX1_cutAnew 27 = .ok (.iastore, 1) := by decide +kernel
theorem dX1_cutAnew_28 : decode cX1_cutAnew 28 = .ok (.iinc 3 1, 3) := by decide +kernel
theorem dX1_cutAnew_31 : decode cX1_cutAnew 31 = .ok (.goto (-19), 3) := by decide +kernel
theorem dX1_cutAnew_34 : decode cX1_cutAnew 34 = .ok (.iconst 0, 1) := by decide +kernel
theorem dX1_cutAnew_35 : decode cX1_cutAnew 35 = .ok (.istore_n 3, 1) := by decide +kernel
theorem dX1_cutAnew_36 : decode cX1_cutAnew 36 = .ok (.iload_n 3, 1) := by decide +kernel
theorem dX1_cutAnew_37 : decode cX1_cutAnew 37 = .ok (.aload_n 0, 1) := by decide +kernel
theorem dX1_cutAnew_38 : decode cX1_cutAnew 38 = .ok (.getfield 26, 3) := by decide +kernel
theorem dX1_cutAnew_41 : decode cX1_cutAnew 41 = .ok (.if_icmp .ge 34, 3) := by decide +kernel
theorem dX1_cutAnew_44 : decode cX1_cutAnew 44 = .ok (.iconst 0, 1) := by decide +kernel
theorem dX1_cutAnew_45 : decode cX1_cutAnew 45 = .ok (.istore 4, 2) := by decide +kernel
theorem dX1_cutAnew_47 : decode cX1_cutAnew 47 = .ok (.iload 4, 2) := by decide +kernel
theorem dX1_cutAnew_49 : decode cX1_cutAnew 49 = .ok (.aload_n 0, 1) := by decide +kernel
theorem dX1_cutAnew_50 : decode cX1_cutAnew 50 = .ok (.getfield 22, 3) := by decide +kernel
theorem dX1_cutAnew_53 : decode cX1_cutAnew 53 = .ok (.if_icmp .ge 16, 3) := by decide +kernel
theorem dX1_cutAnew_56 : decode cX1_cutAnew 56 = .ok (.aload_n 0, 1) := by decide +kernel
theorem dX1_cutAnew_57 : decode cX1_cutAnew 57 = .ok (.iload 4, 2) := by decide +kernel
theorem dX1_cutAnew_59 : decode cX1_cutAnew 59 = .ok (.iload_n 3, 1) := by decide +kernel
theorem dX1_cutAnew_60 : decode cX1_cutAnew 60 = .ok (.invokevirtual 29, 3) := by decide +kernel
theorem dX1_cutAnew_63 : decode cX1_cutAnew 63 = .ok (.iinc 4 1, 3) := by decide +kernel
theorem dX1_cutAnew_66 : decode cX1_cutAnew 66 = .ok (.goto (-19), 3) := by decide +kernel
theorem dX1_cutAnew_69 : decode cX1_cutAnew 69 = .ok (.iinc 3 1, 3) := by decide +kernel
theorem dX1_cutAnew_72 : decode cX1_cutAnew 72 = .ok (.goto (-36), 3) := by decide +kernel
theorem dX1_cutAnew_75 : decode cX1_cutAnew 75 = .ok (.return_, 1) := by decide +kernel
set_option maxRecDepth 20000 in
theorem ggX1_layEdges_X1_setSide : GoodIn wsX1_layEdges wsX1_setSide := goodIn_r _ [7, 8, 9, 10, 11, 12] (by decide +kernel) (by decide +kernel)
set_option maxRecDepth 20000 in
theorem gX1_layEdges_X1_setSide : GoodIn wsX1_layEdges (wsV RX1 32 RX1 yX1_setSide wsX1_setSide) := goodIn_app (goodIn_of _ (by decide +kernel)) ggX1_layEdges_X1_setSide
theorem dX1_layEdges_0 : decode cX1_layEdges 0 = .ok (.aload_n 0, 1) := by decide +kernel
theorem dX1_layEdges_1 : decode cX1_layEdges 1 = .ok (.getfield 22, 3) := by decide +kernel
theorem dX1_layEdges_4 : decode cX1_layEdges 4 = .ok (.iload_n 2, 1) := by decide +kernel
theorem dX1_layEdges_5 : decode cX1_layEdges 5 = .ok (.imul, 1) := by decide +kernel
theorem dX1_layEdges_6 : decode cX1_layEdges 6 = .ok (.iload_n 1, 1) := by decide +kernel
theorem dX1_layEdges_7 : decode cX1_layEdges 7 = .ok (.iadd, 1) := by decide +kernel
theorem dX1_layEdges_8 : decode cX1_layEdges 8 = .ok (.istore_n 3, 1) := by decide +kernel
theorem dX1_layEdges_9 : decode cX1_layEdges 9 = .ok (.aload_n 0, 1) := by decide +kernel
theorem dX1_layEdges_10 : decode cX1_layEdges 10 = .ok (.getfield 22, 3) := by decide +kernel
theorem dX1_layEdges_13 : decode cX1_layEdges 13 = .ok (.iconst 1, 1) := by decide +kernel
theorem dX1_layEdges_14 : decode cX1_layEdges 14 = .ok (.isub, 1) := by decide +kernel
theorem dX1_layEdges_15 : decode cX1_layEdges 15 = .ok (.iload_n 2, 1) := by decide +kernel
theorem dX1_layEdges_16 : decode cX1_layEdges 16 = .ok (.imul, 1) := by decide +kernel
theorem dX1_layEdges_17 : decode cX1_layEdges 17 = .ok (.iload_n 1, 1) := by decide +kernel
theorem dX1_layEdges_18 : decode cX1_layEdges 18 = .ok (.iadd, 1) := by decide +kernel
theorem dX1_layEdges_19 : decode cX1_layEdges 19 = .ok (.istore 4, 2) := by decide +kernel
theorem dX1_layEdges_21 : decode cX1_layEdges 21 = .ok (.aload_n 0, 1) := by decide +kernel
theorem dX1_layEdges_22 : decode cX1_layEdges 22 = .ok (.getfield 22, 3) := by decide +kernel
theorem dX1_layEdges_25 : decode cX1_layEdges 25 = .ok (.iconst 1, 1) := by decide +kernel
theorem dX1_layEdges_26 : decode cX1_layEdges 26 = .ok (.isub, 1) := by decide +kernel
theorem dX1_layEdges_27 : decode cX1_layEdges 27 = .ok (.aload_n 0, 1) := by decide +kernel
theorem dX1_layEdges_28 : decode cX1_layEdges 28 = .ok (.getfield 26, 3) := by decide +kernel
theorem dX1_layEdges_31 : decode cX1_layEdges 31 = .ok (.imul, 1) := by decide +kernel
theorem dX1_layEdges_32 : decode cX1_layEdges 32 = .ok (.aload_n 0, 1) := by decide +kernel
theorem dX1_layEdges_33 : decode cX1_layEdges 33 = .ok (.getfield 22, 3) := by decide +kernel
theorem dX1_layEdges_36 : decode cX1_layEdges 36 = .ok (.iload_n 2, 1) := by decide +kernel
theorem dX1_layEdges_37 : decode cX1_layEdges 37 = .ok (.imul, 1) := by decide +kernel
theorem dX1_layEdges_38 : decode cX1_layEdges 38 = .ok (.iadd, 1) := by decide +kernel
theorem dX1_layEdges_39 : decode cX1_layEdges 39 = .ok (.iload_n 1, 1) := by decide +kernel
theorem dX1_layEdges_40 : decode cX1_layEdges 40 = .ok (.iadd, 1) := by decide +kernel
theorem dX1_layEdges_41 : decode cX1_layEdges 41 = .ok (.istore 5, 2) := by decide +kernel
theorem dX1_layEdges_43 : decode cX1_layEdges 43 = .ok (.aload_n 0, 1) := by decide +kernel
theorem dX1_layEdges_44 : decode cX1_layEdges 44 = .ok (.iload_n 3, 1) := by decide +kernel
theorem dX1_layEdges_45 : decode cX1_layEdges 45 = .ok (.iconst 0, 1) := by decide +kernel
theorem dX1_layEdges_46 : decode cX1_layEdges 46 = .ok (.iload_n 2, 1) := by decide +kernel
theorem dX1_layEdges_47 : decode cX1_layEdges 47 = .ok (.ifCond .ne 8, 3) := by decide +kernel
theorem dX1_layEdges_50 : decode cX1_layEdges 50 = .ok (.bipush (-9), 2) := by decide +kernel
theorem dX1_layEdges_52 : decode cX1_layEdges 52 = .ok (.goto 10, 3) := by decide +kernel
theorem dX1_layEdges_55 : decode cX1_layEdges 55 = .ok (.iload 5, 2) := by decide +kernel
theorem dX1_layEdges_57 : decode cX1_layEdges 57 = .ok (.aload_n 0, 1) := by decide +kernel
theorem dX1_layEdges_58 : decode cX1_layEdges 58 = .ok (.getfield 22, 3) := by decide +kernel
theorem dX1_layEdges_61 : decode cX1_layEdges 61 = .ok (.isub, 1) := by decide +kernel
theorem dX1_layEdges_62 : decode cX1_layEdges 62 = .ok (.invokevirtual 32, 3) := by decide +kernel
theorem dX1_layEdges_65 : decode cX1_layEdges 65 = .ok (.aload_n 0, 1) := by decide +kernel
theorem dX1_layEdges_66 : decode cX1_layEdges 66 = .ok (.iload_n 3, 1) := by decide +kernel
theorem dX1_layEdges_67 : decode cX1_layEdges 67 = .ok (.iconst 1, 1) := by decide +kernel
theorem dX1_layEdges_68 : decode cX1_layEdges 68 = .ok (.iload_n 1, 1) := by decide +kernel
theorem dX1_layEdges_69 : decode cX1_layEdges 69 = .ok (.aload_n 0, 1) := by decide +kernel
theorem dX1_layEdges_70 : decode cX1_layEdges 70 = .ok (.getfield 22, 3) := by decide +kernel
theorem dX1_layEdges_73 : decode cX1_layEdges 73 = .ok (.iconst 1, 1) := by decide +kernel
theorem dX1_layEdges_74 : decode cX1_layEdges 74 = .ok (.isub, 1) := by decide +kernel
theorem dX1_layEdges_75 : decode cX1_layEdges 75 = .ok (.if_icmp .ne 8, 3) := by decide +kernel
theorem dX1_layEdges_78 : decode cX1_layEdges 78 = .ok (.bipush (-9), 2) := by decide +kernel
theorem dX1_layEdges_80 : decode cX1_layEdges 80 = .ok (.goto 5, 3) := by decide +kernel
theorem dX1_layEdges_83 : decode cX1_layEdges 83 = .ok (.iload 4, 2) := by decide +kernel
theorem dX1_layEdges_85 : decode cX1_layEdges 85 = .ok (.invokevirtual 32, 3) := by decide +kernel
theorem dX1_layEdges_88 : decode cX1_layEdges 88 = .ok (.aload_n 0, 1) := by decide +kernel
theorem dX1_layEdges_89 : decode cX1_layEdges 89 = .ok (.iload_n 3, 1) := by decide +kernel
theorem dX1_layEdges_90 : decode cX1_layEdges 90 = .ok (.iconst 2, 1) := by decide +kernel
theorem dX1_layEdges_91 : decode cX1_layEdges 91 = .ok (.iload_n 2, 1) := by decide +kernel
theorem dX1_layEdges_92 : decode cX1_layEdges 92 = .ok (.aload_n 0, 1) := by decide +kernel
theorem dX1_layEdges_93 : decode cX1_layEdges 93 = .ok (.getfield 26, 3) := by decide +kernel
theorem dX1_layEdges_96 : decode cX1_layEdges 96 = .ok (.iconst 1, 1) := by decide +kernel
theorem dX1_layEdges_97 : decode cX1_layEdges 97 = .ok (.isub, 1) := by decide +kernel
theorem dX1_layEdges_98 : decode cX1_layEdges 98 = .ok (.if_icmp .ne 8, 3) := by decide +kernel
theorem dX1_layEdges_101 : decode cX1_layEdges 101 = .ok (.bipush (-9), 2) := by decide +kernel
theorem dX1_layEdges_103 : decode cX1_layEdges 103 = .ok (.goto 5, 3) := by decide +kernel
theorem dX1_layEdges_106 : decode cX1_layEdges 106 = .ok (.iload 5, 2) := by decide +kernel
theorem dX1_layEdges_108 : decode cX1_layEdges 108 = .ok (.invokevirtual 32, 3) := by decide +kernel
theorem dX1_layEdges_111 : decode cX1_layEdges 111 = .ok (.aload_n 0, 1) := by decide +kernel
theorem dX1_layEdges_112 : decode cX1_layEdges 112 = .ok (.iload_n 3, 1) := by decide +kernel
theorem dX1_layEdges_113 : decode cX1_layEdges 113 = .ok (.iconst 3, 1) := by decide +kernel
theorem dX1_layEdges_114 : decode cX1_layEdges 114 = .ok (.iload_n 1, 1) := by decide +kernel
theorem dX1_layEdges_115 : decode cX1_layEdges 115 = .ok (.ifCond .ne 8, 3) := by decide +kernel
theorem dX1_layEdges_118 : decode cX1_layEdges 118 = .ok (.bipush (-9), 2) := by decide +kernel
theorem dX1_layEdges_120 : decode cX1_layEdges 120 = .ok (.goto 7, 3) := by decide +kernel
theorem dX1_layEdges_123 : decode cX1_layEdges 123 = .ok (.iload 4, 2) := by decide +kernel
theorem dX1_layEdges_125 : decode cX1_layEdges 125 = .ok (.iconst 1, 1) := by decide +kernel
theorem dX1_layEdges_126 : decode cX1_layEdges 126 = .ok (.isub, 1) := by decide +kernel
theorem dX1_layEdges_127 : decode cX1_layEdges 127 = .ok (.invokevirtual 32, 3) := by decide +kernel
theorem dX1_layEdges_130 : decode cX1_layEdges 130 = .ok (.return_, 1) := by decide +kernel
theorem dX1_setSide_0 : decode cX1_setSide 0 = .ok (.iload_n 1, 1) := by decide +kernel
theorem dX1_setSide_1 : decode cX1_setSide 1 = .ok (.iconst 4, 1) := by decide +kernel
theorem dX1_setSide_2 : decode cX1_setSide 2 = .ok (.imul, 1) := by decide +kernel
theorem dX1_setSide_3 : decode cX1_setSide 3 = .ok (.iload_n 2, 1) := by decide +kernel
theorem dX1_setSide_4 : decode cX1_setSide 4 = .ok (.iadd, 1) := by decide +kernel
theorem dX1_setSide_5 : decode cX1_setSide 5 = .ok (.istore 4, 2) := by decide +kernel
theorem dX1_setSide_7 : decode cX1_setSide 7 = .ok (.iload 4, 2) := by decide +kernel
theorem dX1_setSide_9 : decode cX1_setSide 9 = .ok (.ifCond .lt 21, 3) := by decide +kernel
theorem dX1_setSide_12 : decode cX1_setSide 12 = .ok (.iload 4, 2) := by decide +kernel
theorem dX1_setSide_14 : decode cX1_setSide 14 = .ok (.aload_n 0, 1) := by decide +kernel
theorem dX1_setSide_15 : decode cX1_setSide 15 = .ok (.getfield 15, 3) := by decide +kernel
theorem dX1_setSide_18 : decode cX1_setSide 18 = .ok (.arraylength, 1) := by decide +kernel
theorem dX1_setSide_19 : decode cX1_setSide 19 = .ok (.if_icmp .ge 11, 3) := by decide +kernel
theorem dX1_setSide_22 : decode cX1_setSide 22 = .ok (.aload_n 0, 1) := by decide +kernel
theorem dX1_setSide_23 : decode cX1_setSide 23 = .ok (.getfield 15, 3) := by decide +kernel
theorem dX1_setSide_26 : decode cX1_setSide 26 = .ok (.iload 4, 2) := by decide +kernel
theorem dX1_setSide_28 : decode cX1_setSide 28 = .ok (.iload_n 3, 1) := by decide +kernel
theorem dX1_setSide_29 : decode cX1_setSide 29 = .ok (.iastore, 1) := by decide +kernel
theorem dX1_setSide_30 : decode cX1_setSide 30 = .ok (.return_, 1) := by decide +kernel
theorem dX1_pieces_0 : decode cX1_pieces 0 = .ok (.aload_n 0, 1) := by decide +kernel
theorem dX1_pieces_1 : decode cX1_pieces 1 = .ok (.getfield 22, 3) := by decide +kernel
theorem dX1_pieces_4 : decode cX1_pieces 4 = .ok (.aload_n 0, 1) := by decide +kernel
theorem dX1_pieces_5 : decode cX1_pieces 5 = .ok (.getfield 26, 3) := by decide +kernel
theorem dX1_pieces_8 : decode cX1_pieces 8 = .ok (.imul, 1) := by decide +kernel
theorem dX1_pieces_9 : decode cX1_pieces 9 = .ok (.ireturn, 1) := by decide +kernel
theorem dX1_sides_0 : decode cX1_sides 0 = .ok (.aload_n 0, 1) := by decide +kernel
theorem dX1_sides_1 : decode cX1_sides 1 = .ok (.getfield 22, 3) := by decide +kernel
theorem dX1_sides_4 : decode cX1_sides 4 = .ok (.iconst 1, 1) := by decide +kernel
theorem dX1_sides_5 : decode cX1_sides 5 = .ok (.isub, 1) := by decide +kernel
theorem dX1_sides_6 : decode cX1_sides 6 = .ok (.aload_n 0, 1) := by decide +kernel
theorem dX1_sides_7 : decode cX1_sides 7 = .ok (.getfield 26, 3) := by decide +kernel
theorem dX1_sides_10 : decode cX1_sides 10 = .ok (.imul, 1) := by decide +kernel
theorem dX1_sides_11 : decode cX1_sides 11 = .ok (.aload_n 0, 1) := by decide +kernel
theorem dX1_sides_12 : decode cX1_sides 12 = .ok (.getfield 22, 3) := by decide +kernel
theorem dX1_sides_15 : decode cX1_sides 15 = .ok (.aload_n 0, 1) := by decide +kernel
theorem dX1_sides_16 : decode cX1_sides 16 = .ok (.getfield 26, 3) := by decide +kernel
theorem dX1_sides_19 : decode cX1_sides 19 = .ok (.iconst 1, 1) := by decide +kernel
theorem dX1_sides_20 : decode cX1_sides 20 = .ok (.isub, 1) := by decide +kernel
theorem dX1_sides_21 : decode cX1_sides 21 = .ok (.imul, 1) := by decide +kernel
theorem dX1_sides_22 : decode cX1_sides 22 = .ok (.iadd, 1) := by decide +kernel
theorem dX1_sides_23 : decode cX1_sides 23 = .ok (.ireturn, 1) := by decide +kernel
set_option maxRecDepth 20000 in
theorem ggX1_hasSide_X1_sides : GoodIn wsX1_hasSide wsX1_sides := goodIn_r _ [5, 6, 7, 8, 9, 10, 11] (by decide +kernel) (by decide +kernel)
set_option maxRecDepth 20000 in
theorem gX1_hasSide_X1_sides : GoodIn wsX1_hasSide (wsV RX1 36 RX1 yX1_sides wsX1_sides) := goodIn_app (goodIn_of _ (by decide +kernel)) ggX1_hasSide_X1_sides
theorem dX1_hasSide_0 : decode cX1_hasSide 0 = .ok (.iload_n 1, 1) := by decide +kernel
theorem dX1_hasSide_1 : decode cX1_hasSide 1 = .ok (.ifCond .lt 15, 3) := by decide +kernel
theorem dX1_hasSide_4 : decode cX1_hasSide 4 = .ok (.iload_n 1, 1) := by decide +kernel
theorem dX1_hasSide_5 : decode cX1_hasSide 5 = .ok (.aload_n 0, 1) := by decide +kernel
theorem dX1_hasSide_6 : decode cX1_hasSide 6 = .ok (.invokevirtual 36, 3) := by decide +kernel
theorem dX1_hasSide_9 : decode cX1_hasSide 9 = .ok (.if_icmp .ge 7, 3) := by decide +kernel
theorem dX1_hasSide_12 : decode cX1_hasSide 12 = .ok (.iconst 1, 1) := by decide +kernel
theorem dX1_hasSide_13 : decode cX1_hasSide 13 = .ok (.goto 4, 3) := by decide +kernel
theorem dX1_hasSide_16 : decode cX1_hasSide 16 = .ok (.iconst 0, 1) := by decide +kernel
theorem dX1_hasSide_17 : decode cX1_hasSide 17 = .ok (.ireturn, 1) := by decide +kernel
set_option maxRecDepth 20000 in
theorem ggX1_hasPiece_X1_pieces : GoodIn wsX1_hasPiece wsX1_pieces := goodIn_r _ [5, 6, 7, 8, 9, 10, 11] (by decide +kernel) (by decide +kernel)
set_option maxRecDepth 20000 in
theorem gX1_hasPiece_X1_pieces : GoodIn wsX1_hasPiece (wsV RX1 40 RX1 yX1_pieces wsX1_pieces) := goodIn_app (goodIn_of _ (by decide +kernel)) ggX1_hasPiece_X1_pieces
theorem dX1_hasPiece_0 : decode cX1_hasPiece 0 = .ok (.iload_n 1, 1) := by decide +kernel
theorem dX1_hasPiece_1 : decode cX1_hasPiece 1 = .ok (.ifCond .lt 15, 3) := by decide +kernel
theorem dX1_hasPiece_4 : decode cX1_hasPiece 4 = .ok (.iload_n 1, 1) := by decide +kernel
theorem dX1_hasPiece_5 : decode cX1_hasPiece 5 = .ok (.aload_n 0, 1) := by decide +kernel
theorem dX1_hasPiece_6 : decode cX1_hasPiece 6 = .ok (.invokevirtual 40, 3) := by decide +kernel
theorem dX1_hasPiece_9 : decode cX1_hasPiece 9 = .ok (.if_icmp .ge 7, 3) := by decide +kernel
theorem dX1_hasPiece_12 : decode cX1_hasPiece 12 = .ok (.iconst 1, 1) := by decide +kernel
theorem dX1_hasPiece_13 : decode cX1_hasPiece 13 = .ok (.goto 4, 3) := by decide +kernel
theorem dX1_hasPiece_16 : decode cX1_hasPiece 16 = .ok (.iconst 0, 1) := by decide +kernel
theorem dX1_hasPiece_17 : decode cX1_hasPiece 17 = .ok (.ireturn, 1) := by decide +kernel
set_option maxRecDepth 20000 in
theorem ggX1_hasEdge_X1_hasPiece : GoodIn wsX1_hasEdge wsX1_hasPiece := goodIn_r _ [5, 6, 7, 8, 4, 9, 10, 11, 12, 13, 14, 15] (by decide +kernel) (by decide +kernel)
set_option maxRecDepth 20000 in
theorem gX1_hasEdge_X1_hasPiece : GoodIn wsX1_hasEdge (wsV RX1 43 RX1 yX1_hasPiece wsX1_hasPiece) := goodIn_app (goodIn_of _ (by decide +kernel)) ggX1_hasEdge_X1_hasPiece
theorem dX1_hasEdge_0 : decode cX1_hasEdge 0 = .ok (.aload_n 0, 1) := by decide +kernel
theorem dX1_hasEdge_1 : decode cX1_hasEdge 1 = .ok (.iload_n 1, 1) := by decide +kernel
theorem dX1_hasEdge_2 : decode cX1_hasEdge 2 = .ok (.invokevirtual 43, 3) := by decide +kernel
theorem dX1_hasEdge_5 : decode cX1_hasEdge 5 = .ok (.ifCond .eq 16, 3) := by decide +kernel
theorem dX1_hasEdge_8 : decode cX1_hasEdge 8 = .ok (.iload_n 2, 1) := by decide +kernel
theorem dX1_hasEdge_9 : decode cX1_hasEdge 9 = .ok (.ifCond .lt 12, 3) := by decide +kernel
theorem dX1_hasEdge_12 : decode cX1_hasEdge 12 = .ok (.iload_n 2, 1) := by decide +kernel
theorem dX1_hasEdge_13 : decode cX1_hasEdge 13 = .ok (.iconst 4, 1) := by decide +kernel
theorem dX1_hasEdge_14 : decode cX1_hasEdge 14 = .ok (.if_icmp .ge 7, 3) := by decide +kernel
theorem dX1_hasEdge_17 : decode cX1_hasEdge 17 = .ok (.iconst 1, 1) := by decide +kernel
theorem dX1_hasEdge_18 : decode cX1_hasEdge 18 = .ok (.goto 4, 3) := by decide +kernel
theorem dX1_hasEdge_21 : decode cX1_hasEdge 21 = .ok (.iconst 0, 1) := by decide +kernel
theorem dX1_hasEdge_22 : decode cX1_hasEdge 22 = .ok (.ireturn, 1) := by decide +kernel
theorem dX1_sideAt_0 : decode cX1_sideAt 0 = .ok (.iload_n 1, 1) := by decide +kernel
theorem dX1_sideAt_1 : decode cX1_sideAt 1 = .ok (.iconst 4, 1) := by decide +kernel
theorem dX1_sideAt_2 : decode cX1_sideAt 2 = .ok (.imul, 1) := by decide +kernel
theorem dX1_sideAt_3 : decode cX1_sideAt 3 = .ok (.iload_n 2, 1) := by decide +kernel
theorem dX1_sideAt_4 : decode cX1_sideAt 4 = .ok (.iadd, 1) := by decide +kernel
theorem dX1_sideAt_5 : decode cX1_sideAt 5 = .ok (.istore_n 3, 1) := by decide +kernel
theorem dX1_sideAt_6 : decode cX1_sideAt 6 = .ok (.iload_n 3, 1) := by decide +kernel
theorem dX1_sideAt_7 : decode cX1_sideAt 7 = .ok (.ifCond .lt 21, 3) := by decide +kernel
theorem dX1_sideAt_10 : decode cX1_sideAt 10 = .ok (.iload_n 3, 1) := by decide +kernel
theorem dX1_sideAt_11 : decode cX1_sideAt 11 = .ok (.aload_n 0, 1) := by decide +kernel
theorem dX1_sideAt_12 : decode cX1_sideAt 12 = .ok (.getfield 15, 3) := by decide +kernel
theorem dX1_sideAt_15 : decode cX1_sideAt 15 = .ok (.arraylength, 1) := by decide +kernel
theorem dX1_sideAt_16 : decode cX1_sideAt 16 = .ok (.if_icmp .ge 12, 3) := by decide +kernel
theorem dX1_sideAt_19 : decode cX1_sideAt 19 = .ok (.aload_n 0, 1) := by decide +kernel
theorem dX1_sideAt_20 : decode cX1_sideAt 20 = .ok (.getfield 15, 3) := by decide +kernel
theorem dX1_sideAt_23 : decode cX1_sideAt 23 = .ok (.iload_n 3, 1) := by decide +kernel
theorem dX1_sideAt_24 : decode cX1_sideAt 24 = .ok (.iaload, 1) := by decide +kernel
theorem dX1_sideAt_25 : decode cX1_sideAt 25 = .ok (.goto 5, 3) := by decide +kernel
theorem dX1_sideAt_28 : decode cX1_sideAt 28 = .ok (.bipush (-9), 2) := by decide +kernel
theorem dX1_sideAt_30 : decode cX1_sideAt 30 = .ok (.ireturn, 1) := by decide +kernel
set_option maxRecDepth 20000 in
theorem ggX1_isFlat_X1_sideAt : GoodIn wsX1_isFlat wsX1_sideAt := goodIn_r _ [5, 6, 7, 8, 9, 10] (by decide +kernel) (by decide +kernel)
set_option maxRecDepth 20000 in
theorem gX1_isFlat_X1_sideAt : GoodIn wsX1_isFlat (wsV RX1 47 RX1 yX1_sideAt wsX1_sideAt) := goodIn_app (goodIn_of _ (by decide +kernel)) ggX1_isFlat_X1_sideAt
theorem dX1_isFlat_0 : decode cX1_isFlat 0 = .ok (.aload_n 0, 1) := by decide +kernel
theorem dX1_isFlat_1 : decode cX1_isFlat 1 = .ok (.iload_n 1, 1) := by decide +kernel
theorem dX1_isFlat_2 : decode cX1_isFlat 2 = .ok (.iload_n 2, 1) := by decide +kernel
theorem dX1_isFlat_3 : decode cX1_isFlat 3 = .ok (.invokevirtual 47, 3) := by decide +kernel
theorem dX1_isFlat_6 : decode cX1_isFlat 6 = .ok (.bipush (-9), 2) := by decide +kernel
theorem dX1_isFlat_8 : decode cX1_isFlat 8 = .ok (.if_icmp .ne 7, 3) := by decide +kernel
theorem dX1_isFlat_11 : decode cX1_isFlat 11 = .ok (.iconst 1, 1) := by decide +kernel
theorem dX1_isFlat_12 : decode cX1_isFlat 12 = .ok (.goto 4, 3) := by decide +kernel
theorem dX1_isFlat_15 : decode cX1_isFlat 15 = .ok (.iconst 0, 1) := by decide +kernel
theorem dX1_isFlat_16 : decode cX1_isFlat 16 = .ok (.ireturn, 1) := by decide +kernel
theorem dX1_nextTo_0 : decode cX1_nextTo 0 = .ok (.iload_n 2, 1) := by decide +kernel
theorem dX1_nextTo_1 : decode cX1_nextTo 1 = .ok (.tableswitch 45 0 2 #[27, 34, 38], 27) := by decide +kernel
theorem dX1_nextTo_28 : decode cX1_nextTo 28 = .ok (.iload_n 1, 1) := by decide +kernel
theorem dX1_nextTo_29 : decode cX1_nextTo 29 = .ok (.aload_n 0, 1) := by decide +kernel
theorem dX1_nextTo_30 : decode cX1_nextTo 30 = .ok (.getfield 22, 3) := by decide +kernel
theorem dX1_nextTo_33 : decode cX1_nextTo 33 = .ok (.isub, 1) := by decide +kernel
theorem dX1_nextTo_34 : decode cX1_nextTo 34 = .ok (.ireturn, 1) := by decide +kernel
theorem dX1_nextTo_35 : decode cX1_nextTo 35 = .ok (.iload_n 1, 1) := by decide +kernel
theorem dX1_nextTo_36 : decode cX1_nextTo 36 = .ok (.iconst 1, 1) := by decide +kernel
theorem dX1_nextTo_37 : decode cX1_nextTo 37 = .ok (.iadd, 1) := by decide +kernel
theorem dX1_nextTo_38 : decode cX1_nextTo 38 = .ok (.ireturn, 1) := by decide +kernel
theorem dX1_nextTo_39 : decode cX1_nextTo 39 = .ok (.iload_n 1, 1) := by decide +kernel
theorem dX1_nextTo_40 : decode cX1_nextTo 40 = .ok (.aload_n 0, 1) := by decide +kernel
theorem dX1_nextTo_41 : decode cX1_nextTo 41 = .ok (.getfield 22, 3) := by decide +kernel
theorem dX1_nextTo_44 : decode cX1_nextTo 44 = .ok (.iadd, 1) := by decide +kernel
theorem dX1_nextTo_45 : decode cX1_nextTo 45 = .ok (.ireturn, 1) := by decide +kernel
theorem dX1_nextTo_46 : decode cX1_nextTo 46 = .ok (.iload_n 1, 1) := by decide +kernel
theorem dX1_nextTo_47 : decode cX1_nextTo 47 = .ok (.iconst 1, 1) := by decide +kernel
theorem dX1_nextTo_48 : decode cX1_nextTo 48 = .ok (.isub, 1) := by decide +kernel
theorem dX1_nextTo_49 : decode cX1_nextTo 49 = .ok (.ireturn, 1) := by decide +kernel
theorem dX1_setHeight_0 : decode cX1_setHeight 0 = .ok (.iload_n 1, 1) := by decide +kernel
theorem dX1_setHeight_1 : decode cX1_setHeight 1 = .ok (.iconst 5, 1) := by decide +kernel
theorem dX1_setHeight_2 : decode cX1_setHeight 2 = .ok (.imul, 1) := by decide +kernel
theorem dX1_setHeight_3 : decode cX1_setHeight 3 = .ok (.iload_n 2, 1) := by decide +kernel
theorem dX1_setHeight_4 : decode cX1_setHeight 4 = .ok (.iadd, 1) := by decide +kernel
theorem dX1_setHeight_5 : decode cX1_setHeight 5 = .ok (.istore 4, 2) := by decide +kernel
theorem dX1_setHeight_7 : decode cX1_setHeight 7 = .ok (.iload 4, 2) := by decide +kernel
theorem dX1_setHeight_9 : decode cX1_setHeight 9 = .ok (.ifCond .lt 21, 3) := by decide +kernel
theorem dX1_setHeight_12 : decode cX1_setHeight 12 = .ok (.iload 4, 2) := by decide +kernel
theorem dX1_setHeight_14 : decode cX1_setHeight 14 = .ok (.aload_n 0, 1) := by decide +kernel
theorem dX1_setHeight_15 : decode cX1_setHeight 15 = .ok (.getfield 9, 3) := by decide +kernel
theorem dX1_setHeight_18 : decode cX1_setHeight 18 = .ok (.arraylength, 1) := by decide +kernel
theorem dX1_setHeight_19 : decode cX1_setHeight 19 = .ok (.if_icmp .ge 11, 3) := by decide +kernel
theorem dX1_setHeight_22 : decode cX1_setHeight 22 = .ok (.aload_n 0, 1) := by decide +kernel
theorem dX1_setHeight_23 : decode cX1_setHeight 23 = .ok (.getfield 9, 3) := by decide +kernel
theorem dX1_setHeight_26 : decode cX1_setHeight 26 = .ok (.iload 4, 2) := by decide +kernel
theorem dX1_setHeight_28 : decode cX1_setHeight 28 = .ok (.iload_n 3, 1) := by decide +kernel
theorem dX1_setHeight_29 : decode cX1_setHeight 29 = .ok (.iastore, 1) := by decide +kernel
theorem dX1_setHeight_30 : decode cX1_setHeight 30 = .ok (.return_, 1) := by decide +kernel
theorem dX1_heightAt_0 : decode cX1_heightAt 0 = .ok (.iload_n 1, 1) := by decide +kernel
theorem dX1_heightAt_1 : decode cX1_heightAt 1 = .ok (.iconst 5, 1) := by decide +kernel
theorem dX1_heightAt_2 : decode cX1_heightAt 2 = .ok (.imul, 1) := by decide +kernel
theorem dX1_heightAt_3 : decode cX1_heightAt 3 = .ok (.iload_n 3, 1) := by decide +kernel
theorem dX1_heightAt_4 : decode cX1_heightAt 4 = .ok (.ifCond .ne 7, 3) := by decide +kernel
theorem dX1_heightAt_7 : decode cX1_heightAt 7 = .ok (.iload_n 2, 1) := by decide +kernel
theorem dX1_heightAt_8 : decode cX1_heightAt 8 = .ok (.goto 6, 3) := by decide +kernel
theorem dX1_heightAt_11 : decode cX1_heightAt 11 = .ok (.iconst 4, 1) := by decide +kernel
theorem dX1_heightAt_12 : decode cX1_heightAt 12 = .ok (.iload_n 2, 1) := by decide +kernel
theorem dX1_heightAt_13 : decode cX1_heightAt 13 = .ok (.isub, 1) := by decide +kernel
theorem dX1_heightAt_14 : decode cX1_heightAt 14 = .ok (.iadd, 1) := by decide +kernel
theorem dX1_heightAt_15 : decode cX1_heightAt 15 = .ok (.istore 4, 2) := by decide +kernel
theorem dX1_heightAt_17 : decode cX1_heightAt 17 = .ok (.iload 4, 2) := by decide +kernel
theorem dX1_heightAt_19 : decode cX1_heightAt 19 = .ok (.ifCond .lt 13, 3) := by decide +kernel
theorem dX1_heightAt_22 : decode cX1_heightAt 22 = .ok (.iload 4, 2) := by decide +kernel
theorem dX1_heightAt_24 : decode cX1_heightAt 24 = .ok (.aload_n 0, 1) := by decide +kernel
theorem dX1_heightAt_25 : decode cX1_heightAt 25 = .ok (.getfield 9, 3) := by decide +kernel
theorem dX1_heightAt_28 : decode cX1_heightAt 28 = .ok (.arraylength, 1) := by decide +kernel
theorem dX1_heightAt_29 : decode cX1_heightAt 29 = .ok (.if_icmp .lt 5, 3) := by decide +kernel
theorem dX1_heightAt_32 : decode cX1_heightAt 32 = .ok (.iconst 0, 1) := by decide +kernel
theorem dX1_heightAt_33 : decode cX1_heightAt 33 = .ok (.ireturn, 1) := by decide +kernel
theorem dX1_heightAt_34 : decode cX1_heightAt 34 = .ok (.iload_n 3, 1) := by decide +kernel
theorem dX1_heightAt_35 : decode cX1_heightAt 35 = .ok (.ifCond .ne 13, 3) := by decide +kernel
theorem dX1_heightAt_38 : decode cX1_heightAt 38 = .ok (.aload_n 0, 1) := by decide +kernel
theorem dX1_heightAt_39 : decode cX1_heightAt 39 = .ok (.getfield 9, 3) := by decide +kernel
theorem dX1_heightAt_42 : decode cX1_heightAt 42 = .ok (.iload 4, 2) := by decide +kernel
theorem dX1_heightAt_44 : decode cX1_heightAt 44 = .ok (.iaload, 1) := by decide +kernel
theorem dX1_heightAt_45 : decode cX1_heightAt 45 = .ok (.goto 11, 3) := by decide +kernel
theorem dX1_heightAt_48 : decode cX1_heightAt 48 = .ok (.aload_n 0, 1) := by decide +kernel
theorem dX1_heightAt_49 : decode cX1_heightAt 49 = .ok (.getfield 9, 3) := by decide +kernel
theorem dX1_heightAt_52 : decode cX1_heightAt 52 = .ok (.iload 4, 2) := by decide +kernel
theorem dX1_heightAt_54 : decode cX1_heightAt 54 = .ok (.iaload, 1) := by decide +kernel
theorem dX1_heightAt_55 : decode cX1_heightAt 55 = .ok (.ineg, 1) := by decide +kernel
theorem dX1_heightAt_56 : decode cX1_heightAt 56 = .ok (.ireturn, 1) := by decide +kernel
set_option maxRecDepth 20000 in
theorem ggX1_edgeHeight_X1_sideAt : GoodIn wsX1_edgeHeight wsX1_sideAt := goodIn_r _ [5, 6, 12, 13, 14, 15] (by decide +kernel) (by decide +kernel)
set_option maxRecDepth 20000 in
theorem gX1_edgeHeight_X1_sideAt : GoodIn wsX1_edgeHeight (wsV RX1 47 RX1 yX1_sideAt wsX1_sideAt) := goodIn_app (goodIn_of _ (by decide +kernel)) ggX1_edgeHeight_X1_sideAt
set_option maxRecDepth 20000 in
theorem ggX1_edgeHeight_X1_heightAt : GoodIn wsX1_edgeHeight wsX1_heightAt := goodIn_r _ [10, 11, 12, 13, 14, 15] (by decide +kernel) (by decide +kernel)
set_option maxRecDepth 20000 in
theorem gX1_edgeHeight_X1_heightAt : GoodIn wsX1_edgeHeight (wsV RX1 51 RX1 yX1_heightAt wsX1_heightAt) := goodIn_app (goodIn_of _ (by decide +kernel)) ggX1_edgeHeight_X1_heightAt
theorem dX1_edgeHeight_0 : decode cX1_edgeHeight 0 = .ok (.iload_n 2, 1) := by decide +kernel
theorem dX1_edgeHeight_1 : decode cX1_edgeHeight 1 = .ok (.iconst 1, 1) := by decide +kernel
theorem dX1_edgeHeight_2 : decode cX1_edgeHeight 2 = .ok (.if_icmp .eq 8, 3) := by decide +kernel
theorem dX1_edgeHeight_5 : decode cX1_edgeHeight 5 = .ok (.iload_n 2, 1) := by decide +kernel
theorem dX1_edgeHeight_6 : decode cX1_edgeHeight 6 = .ok (.iconst 2, 1) := by decide +kernel
theorem dX1_edgeHeight_7 : decode cX1_edgeHeight 7 = .ok (.if_icmp .ne 7, 3) := by decide +kernel
theorem dX1_edgeHeight_10 : decode cX1_edgeHeight 10 = .ok (.iconst 0, 1) := by decide +kernel
theorem dX1_edgeHeight_11 : decode cX1_edgeHeight 11 = .ok (.goto 4, 3) := by decide +kernel
theorem dX1_edgeHeight_14 : decode cX1_edgeHeight 14 = .ok (.iconst 1, 1) := by decide +kernel
theorem dX1_edgeHeight_15 : decode cX1_edgeHeight 15 = .ok (.istore 4, 2) := by decide +kernel
theorem dX1_edgeHeight_17 : decode cX1_edgeHeight 17 = .ok (.aload_n 0, 1) := by decide +kernel
theorem dX1_edgeHeight_18 : decode cX1_edgeHeight 18 = .ok (.aload_n 0, 1) := by decide +kernel
theorem dX1_edgeHeight_19 : decode cX1_edgeHeight 19 = .ok (.iload_n 1, 1) := by decide +kernel
theorem dX1_edgeHeight_20 : decode cX1_edgeHeight 20 = .ok (.iload_n 2, 1) := by decide +kernel
theorem dX1_edgeHeight_21 : decode cX1_edgeHeight 21 = .ok (.invokevirtual 47, 3) := by decide +kernel
theorem dX1_edgeHeight_24 : decode cX1_edgeHeight 24 = .ok (.iload_n 3, 1) := by decide +kernel
theorem dX1_edgeHeight_25 : decode cX1_edgeHeight 25 = .ok (.iload 4, 2) := by decide +kernel
theorem dX1_edgeHeight_27 : decode cX1_edgeHeight 27 = .ok (.invokevirtual 51, 3) := by decide +kernel
theorem dX1_edgeHeight_30 : decode cX1_edgeHeight 30 = .ok (.ireturn, 1) := by decide +kernel
set_option maxRecDepth 20000 in
theorem ggX1_farness_X1_edgeHeight : GoodIn wsX1_farness wsX1_edgeHeight := goodIn_r _ [9, 10, 11, 12, 8, 13, 14, 15, 16, 17, 18, 19, 20, 21, 22, 23] (by decide +kernel) (by decide +kernel)
set_option maxRecDepth 20000 in
theorem gX1_farness_X1_edgeHeight : GoodIn wsX1_farness (wsV RX1 55 RX1 yX1_edgeHeight wsX1_edgeHeight) := goodIn_app (goodIn_of _ (by decide +kernel)) ggX1_farness_X1_edgeHeight
theorem dX1_farness_0 : decode cX1_farness 0 = .ok (.iconst 0, 1) := by decide +kernel
theorem dX1_farness_1 : decode cX1_farness 1 = .ok (.istore 5, 2) := by decide +kernel
theorem dX1_farness_3 : decode cX1_farness 3 = .ok (.iconst 0, 1) := by decide +kernel
theorem dX1_farness_4 : decode cX1_farness 4 = .ok (.istore 6, 2) := by decide +kernel
theorem dX1_farness_6 : decode cX1_farness 6 = .ok (.iload 6, 2) := by decide +kernel
theorem dX1_farness_8 : decode cX1_farness 8 = .ok (.iconst 5, 1) := by decide +kernel
theorem dX1_farness_9 : decode cX1_farness 9 = .ok (.if_icmp .ge 37, 3) := by decide +kernel
theorem dX1_farness_12 : decode cX1_farness 12 = .ok (.iload 5, 2) := by decide +kernel
theorem dX1_farness_14 : decode cX1_farness 14 = .ok (.aload_n 0, 1) := by decide +kernel
theorem dX1_farness_15 : decode cX1_farness 15 = .ok (.iload_n 1, 1) := by decide +kernel
theorem dX1_farness_16 : decode cX1_farness 16 = .ok (.iload_n 2, 1) := by decide +kernel
theorem dX1_farness_17 : decode cX1_farness 17 = .ok (.iload 6, 2) := by decide +kernel
theorem dX1_farness_19 : decode cX1_farness 19 = .ok (.invokevirtual 55, 3) := by decide +kernel
theorem dX1_farness_22 : decode cX1_farness 22 = .ok (.aload_n 0, 1) := by decide +kernel
theorem dX1_farness_23 : decode cX1_farness 23 = .ok (.iload_n 3, 1) := by decide +kernel
theorem dX1_farness_24 : decode cX1_farness 24 = .ok (.iload 4, 2) := by decide +kernel
theorem dX1_farness_26 : decode cX1_farness 26 = .ok (.iconst 4, 1) := by decide +kernel
theorem dX1_farness_27 : decode cX1_farness 27 = .ok (.iload 6, 2) := by decide +kernel
theorem dX1_farness_29 : decode cX1_farness 29 = .ok (.isub, 1) := by decide +kernel
theorem dX1_farness_30 : decode cX1_farness 30 = .ok (.invokevirtual 55, 3) := by decide +kernel
theorem dX1_farness_33 : decode cX1_farness 33 = .ok (.iadd, 1) := by decide +kernel
theorem dX1_farness_34 : decode cX1_farness 34 = .ok (.invokestatic 58, 3) := by decide +kernel
theorem dX1_farness_37 : decode cX1_farness 37 = .ok (.iadd, 1) := by decide +kernel
theorem dX1_farness_38 : decode cX1_farness 38 = .ok (.istore 5, 2) := by decide +kernel
theorem dX1_farness_40 : decode cX1_farness 40 = .ok (.iinc 6 1, 3) := by decide +kernel
theorem dX1_farness_43 : decode cX1_farness 43 = .ok (.goto (-37), 3) := by decide +kernel
theorem dX1_farness_46 : decode cX1_farness 46 = .ok (.iload 5, 2) := by decide +kernel
theorem dX1_farness_48 : decode cX1_farness 48 = .ok (.ireturn, 1) := by decide +kernel
theorem dX2_init_0 : decode cX2_init 0 = .ok (.aload_n 0, 1) := by decide +kernel
theorem dX2_init_1 : decode cX2_init 1 = .ok (.invokespecial 3, 3) := by decide +kernel
theorem dX2_init_4 : decode cX2_init 4 = .ok (.aload_n 0, 1) := by decide +kernel
theorem dX2_init_5 : decode cX2_init 5 = .ok (.bipush 25, 2) := by decide +kernel
theorem dX2_init_7 : decode cX2_init 7 = .ok (.newarray .int, 2) := by decide +kernel
theorem dX2_init_9 : decode cX2_init 9 = .ok (.putfield 9, 3) := by decide +kernel
theorem dX2_init_12 : decode cX2_init 12 = .ok (.aload_n 0, 1) := by decide +kernel
theorem dX2_init_13 : decode cX2_init 13 = .ok (.bipush 25, 2) := by decide +kernel
theorem dX2_init_15 : decode cX2_init 15 = .ok (.newarray .int, 2) := by decide +kernel
theorem dX2_init_17 : decode cX2_init 17 = .ok (.putfield 15, 3) := by decide +kernel
theorem dX2_init_20 : decode cX2_init 20 = .ok (.return_, 1) := by decide +kernel
theorem dX2_size_0 : decode cX2_size 0 = .ok (.aload_n 0, 1) := by decide +kernel
theorem dX2_size_1 : decode cX2_size 1 = .ok (.getfield 18, 3) := by decide +kernel
theorem dX2_size_4 : decode cX2_size 4 = .ok (.ireturn, 1) := by decide +kernel
theorem dX2_isFull_0 : decode cX2_isFull 0 = .ok (.aload_n 0, 1) := by decide +kernel
theorem dX2_isFull_1 : decode cX2_isFull 1 = .ok (.getfield 18, 3) := by decide +kernel
theorem dX2_isFull_4 : decode cX2_isFull 4 = .ok (.bipush 25, 2) := by decide +kernel
theorem dX2_isFull_6 : decode cX2_isFull 6 = .ok (.if_icmp .lt 7, 3) := by decide +kernel
theorem dX2_isFull_9 : decode cX2_isFull 9 = .ok (.iconst 1, 1) := by decide +kernel
theorem dX2_isFull_10 : decode cX2_isFull 10 = .ok (.goto 4, 3) := by decide +kernel
theorem dX2_isFull_13 : decode cX2_isFull 13 = .ok (.iconst 0, 1) := by decide +kernel
theorem dX2_isFull_14 : decode cX2_isFull 14 = .ok (.ireturn, 1) := by decide +kernel
theorem dX2_hasPlace_0 : decode cX2_hasPlace 0 = .ok (.iload_n 1, 1) := by decide +kernel
theorem dX2_hasPlace_1 : decode cX2_hasPlace 1 = .ok (.ifCond .lt 15, 3) := by decide +kernel
theorem dX2_hasPlace_4 : decode cX2_hasPlace 4 = .ok (.iload_n 1, 1) := by decide +kernel
theorem dX2_hasPlace_5 : decode cX2_hasPlace 5 = .ok (.aload_n 0, 1) := by decide +kernel
theorem dX2_hasPlace_6 : decode cX2_hasPlace 6 = .ok (.getfield 18, 3) := by decide +kernel
theorem dX2_hasPlace_9 : decode cX2_hasPlace 9 = .ok (.if_icmp .ge 7, 3) := by decide +kernel
theorem dX2_hasPlace_12 : decode cX2_hasPlace 12 = .ok (.iconst 1, 1) := by decide +kernel
theorem dX2_hasPlace_13 : decode cX2_hasPlace 13 = .ok (.goto 4, 3) := by decide +kernel
theorem dX2_hasPlace_16 : decode cX2_hasPlace 16 = .ok (.iconst 0, 1) := by decide +kernel
theorem dX2_hasPlace_17 : decode cX2_hasPlace 17 = .ok (.ireturn, 1) := by decide +kernel
set_option maxRecDepth 20000 in
theorem ggX2_pieceAt_X2_hasPlace : GoodIn wsX2_pieceAt wsX2_hasPlace := goodIn_r _ [6, 7, 8, 9, 10] (by decide +kernel) (by decide +kernel)
set_option maxRecDepth 20000 in
theorem gX2_pieceAt_X2_hasPlace : GoodIn wsX2_pieceAt (wsV RX2 22 RX2 yX2_hasPlace wsX2_hasPlace) := goodIn_app (goodIn_of _ (by decide +kernel)) ggX2_pieceAt_X2_hasPlace
theorem dX2_pieceAt_0 : decode cX2_pieceAt 0 = .ok (.aload_n 0, 1) := by decide +kernel
theorem dX2_pieceAt_1 : decode cX2_pieceAt 1 = .ok (.iload_n 1, 1) := by decide +kernel
theorem dX2_pieceAt_2 : decode cX2_pieceAt 2 = .ok (.invokevirtual 22, 3) := by decide +kernel
theorem dX2_pieceAt_5 : decode cX2_pieceAt 5 = .ok (.ifCond .eq 12, 3) := by decide +kernel
theorem dX2_pieceAt_8 : decode cX2_pieceAt 8 = .ok (.aload_n 0, 1) := by decide +kernel
theorem dX2_pieceAt_9 : decode cX2_pieceAt 9 = .ok (.getfield 9, 3) := by decide +kernel
theorem dX2_pieceAt_12 : decode cX2_pieceAt 12 = .ok (.iload_n 1, 1) := by decide +kernel
theorem dX2_pieceAt_13 : decode cX2_pieceAt 13 = .ok (.iaload, 1) := by decide +kernel
theorem dX2_pieceAt_14 : decode cX2_pieceAt 14 = .ok (.goto 5, 3) := by decide +kernel
theorem dX2_pieceAt_17 : decode cX2_pieceAt 17 = .ok (.bipush (-9), 2) := by decide +kernel
theorem dX2_pieceAt_19 : decode cX2_pieceAt 19 = .ok (.ireturn, 1) := by decide +kernel
set_option maxRecDepth 20000 in
theorem ggX2_turnAt_X2_hasPlace : GoodIn wsX2_turnAt wsX2_hasPlace := goodIn_r _ [6, 7, 8, 9, 10] (by decide +kernel) (by decide +kernel)
set_option maxRecDepth 20000 in
theorem gX2_turnAt_X2_hasPlace : GoodIn wsX2_turnAt (wsV RX2 22 RX2 yX2_hasPlace wsX2_hasPlace) := goodIn_app (goodIn_of _ (by decide +kernel)) ggX2_turnAt_X2_hasPlace
theorem dX2_turnAt_0 : decode cX2_turnAt 0 = .ok (.aload_n 0, 1) := by decide +kernel
theorem dX2_turnAt_1 : decode cX2_turnAt 1 = .ok (.iload_n 1, 1) := by decide +kernel
theorem dX2_turnAt_2 : decode cX2_turnAt 2 = .ok (.invokevirtual 22, 3) := by decide +kernel
theorem dX2_turnAt_5 : decode cX2_turnAt 5 = .ok (.ifCond .eq 12, 3) := by decide +kernel
theorem dX2_turnAt_8 : decode cX2_turnAt 8 = .ok (.aload_n 0, 1) := by decide +kernel
theorem dX2_turnAt_9 : decode cX2_turnAt 9 = .ok (.getfield 15, 3) := by decide +kernel
theorem dX2_turnAt_12 : decode cX2_turnAt 12 = .ok (.iload_n 1, 1) := by decide +kernel
theorem dX2_turnAt_13 : decode cX2_turnAt 13 = .ok (.iaload, 1) := by decide +kernel
theorem dX2_turnAt_14 : decode cX2_turnAt 14 = .ok (.goto 4, 3) := by decide +kernel
theorem dX2_turnAt_17 : decode cX2_turnAt 17 = .ok (.iconst 0, 1) := by decide +kernel
theorem dX2_turnAt_18 : decode cX2_turnAt 18 = .ok (.ireturn, 1) := by decide +kernel
theorem dX2_clearAll_0 : decode cX2_clearAll 0 = .ok (.aload_n 0, 1) := by decide +kernel
theorem dX2_clearAll_1 : decode cX2_clearAll 1 = .ok (.iconst 0, 1) := by decide +kernel
theorem dX2_clearAll_2 : decode cX2_clearAll 2 = .ok (.putfield 18, 3) := by decide +kernel
theorem dX2_clearAll_5 : decode cX2_clearAll 5 = .ok (.return_, 1) := by decide +kernel
set_option maxRecDepth 20000 in
theorem ggX2_append_X2_isFull : GoodIn wsX2_append wsX2_isFull := goodIn_r _ [8, 2, 9, 10, 11] (by decide +kernel) (by decide +kernel)
set_option maxRecDepth 20000 in
theorem gX2_append_X2_isFull : GoodIn wsX2_append (wsV RX2 26 RX2 yX2_isFull wsX2_isFull) := goodIn_app (goodIn_of _ (by decide +kernel)) ggX2_append_X2_isFull
theorem dX2_append_0 : decode cX2_append 0 = .ok (.aload_n 0, 1) := by decide +kernel
theorem dX2_append_1 : decode cX2_append 1 = .ok (.invokevirtual 26, 3) := by decide +kernel
theorem dX2_append_4 : decode cX2_append 4 = .ok (.ifCond .ne 33, 3) := by decide +kernel
theorem dX2_append_7 : decode cX2_append 7 = .ok (.aload_n 0, 1) := by decide +kernel
theorem dX2_append_8 : decode cX2_append 8 = .ok (.getfield 9, 3) := by decide +kernel
theorem dX2_append_11 : decode cX2_append 11 = .ok (.aload_n 0, 1) := by decide +kernel
theorem dX2_append_12 : decode cX2_append 12 = .ok (.getfield 18, 3) := by decide +kernel
theorem dX2_append_15 : decode cX2_append 15 = .ok (.iload_n 1, 1) := by decide +kernel
theorem dX2_append_16 : decode cX2_append 16 = .ok (.iastore, 1) := by decide +kernel
theorem dX2_append_17 : decode cX2_append 17 = .ok (.aload_n 0, 1) := by decide +kernel
theorem dX2_append_18 : decode cX2_append 18 = .ok (.getfield 15, 3) := by decide +kernel
theorem dX2_append_21 : decode cX2_append 21 = .ok (.aload_n 0, 1) := by decide +kernel
theorem dX2_append_22 : decode cX2_append 22 = .ok (.getfield 18, 3) := by decide +kernel
theorem dX2_append_25 : decode cX2_append 25 = .ok (.iload_n 2, 1) := by decide +kernel
theorem dX2_append_26 : decode cX2_append 26 = .ok (.iastore, 1) := by decide +kernel
theorem dX2_append_27 : decode cX2_append 27 = .ok (.aload_n 0, 1) := by decide +kernel
theorem dX2_append_28 : decode cX2_append 28 = .ok (.dup, 1) := by decide +kernel
theorem dX2_append_29 : decode cX2_append 29 = .ok (.getfield 18, 3) := by decide +kernel
theorem dX2_append_32 : decode cX2_append 32 = .ok (.iconst 1, 1) := by decide +kernel
theorem dX2_append_33 : decode cX2_append 33 = .ok (.iadd, 1) := by decide +kernel
theorem dX2_append_34 : decode cX2_append 34 = .ok (.putfield 18, 3) := by decide +kernel
theorem dX2_append_37 : decode cX2_append 37 = .ok (.return_, 1) := by decide +kernel
set_option maxRecDepth 20000 in
theorem ggX2_setTurn_X2_hasPlace : GoodIn wsX2_setTurn wsX2_hasPlace := goodIn_r _ [6, 7, 8, 9, 10] (by decide +kernel) (by decide +kernel)
set_option maxRecDepth 20000 in
theorem gX2_setTurn_X2_hasPlace : GoodIn wsX2_setTurn (wsV RX2 22 RX2 yX2_hasPlace wsX2_hasPlace) := goodIn_app (goodIn_of _ (by decide +kernel)) ggX2_setTurn_X2_hasPlace
theorem dX2_setTurn_0 : decode cX2_setTurn 0 = .ok (.aload_n 0, 1) := by decide +kernel
theorem dX2_setTurn_1 : decode cX2_setTurn 1 = .ok (.iload_n 1, 1) := by decide +kernel
theorem dX2_setTurn_2 : decode cX2_setTurn 2 = .ok (.invokevirtual 22, 3) := by decide +kernel
theorem dX2_setTurn_5 : decode cX2_setTurn 5 = .ok (.ifCond .eq 10, 3) := by decide +kernel
theorem dX2_setTurn_8 : decode cX2_setTurn 8 = .ok (.aload_n 0, 1) := by decide +kernel
theorem dX2_setTurn_9 : decode cX2_setTurn 9 = .ok (.getfield 15, 3) := by decide +kernel
theorem dX2_setTurn_12 : decode cX2_setTurn 12 = .ok (.iload_n 1, 1) := by decide +kernel
theorem dX2_setTurn_13 : decode cX2_setTurn 13 = .ok (.iload_n 2, 1) := by decide +kernel
theorem dX2_setTurn_14 : decode cX2_setTurn 14 = .ok (.iastore, 1) := by decide +kernel
theorem dX2_setTurn_15 : decode cX2_setTurn 15 = .ok (.return_, 1) := by decide +kernel
set_option maxRecDepth 20000 in
theorem ggX2_swapPieces_X2_hasPlace : GoodIn wsX2_swapPieces wsX2_hasPlace := goodIn_r _ [6, 7, 8, 9, 10] (by decide +kernel) (by decide +kernel)
set_option maxRecDepth 20000 in
theorem gX2_swapPieces_X2_hasPlace : GoodIn wsX2_swapPieces (wsV RX2 22 RX2 yX2_hasPlace wsX2_hasPlace) := goodIn_app (goodIn_of _ (by decide +kernel)) ggX2_swapPieces_X2_hasPlace
theorem dX2_swapPieces_0 : decode cX2_swapPieces 0 = .ok (.aload_n 0, 1) := by decide +kernel
theorem dX2_swapPieces_1 : decode cX2_swapPieces 1 = .ok (.iload_n 1, 1) := by decide +kernel
theorem dX2_swapPieces_2 : decode cX2_swapPieces 2 = .ok (.invokevirtual 22, 3) := by decide +kernel
theorem dX2_swapPieces_5 : decode cX2_swapPieces 5 = .ok (.ifCond .eq 37, 3) := by decide +kernel
theorem dX2_swapPieces_8 : decode cX2_swapPieces 8 = .ok (.aload_n 0, 1) := by decide +kernel
theorem dX2_swapPieces_9 : decode cX2_swapPieces 9 = .ok (.iload_n 2, 1) := by decide +kernel
theorem dX2_swapPieces_10 : decode cX2_swapPieces 10 = .ok (.invokevirtual 22, 3) := by decide +kernel
theorem dX2_swapPieces_13 : decode cX2_swapPieces 13 = .ok (.ifCond .eq 29, 3) := by decide +kernel
theorem dX2_swapPieces_16 : decode cX2_swapPieces 16 = .ok (.aload_n 0, 1) := by decide +kernel
theorem dX2_swapPieces_17 : decode cX2_swapPieces 17 = .ok (.getfield 9, 3) := by decide +kernel
theorem dX2_swapPieces_20 : decode cX2_swapPieces 20 = .ok (.iload_n 1, 1) := by decide +kernel
theorem dX2_swapPieces_21 : decode cX2_swapPieces 21 = .ok (.iaload, 1) := by decide +kernel
theorem dX2_swapPieces_22 : decode cX2_swapPieces 22 = .ok (.istore_n 3, 1) := by decide +kernel
theorem dX2_swapPieces_23 : decode cX2_swapPieces 23 = .ok (.aload_n 0, 1) := by decide +kernel
theorem dX2_swapPieces_24 : decode cX2_swapPieces 24 = .ok (.getfield 9, 3) := by decide +kernel
theorem dX2_swapPieces_27 : decode cX2_swapPieces 27 = .ok (.iload_n 1, 1) := by decide +kernel
theorem dX2_swapPieces_28 : decode cX2_swapPieces 28 = .ok (.aload_n 0, 1) := by decide +kernel
theorem dX2_swapPieces_29 : decode cX2_swapPieces 29 = .ok (.getfield 9, 3) := by decide +kernel
theorem dX2_swapPieces_32 : decode cX2_swapPieces 32 = .ok (.iload_n 2, 1) := by decide +kernel
theorem dX2_swapPieces_33 : decode cX2_swapPieces 33 = .ok (.iaload, 1) := by decide +kernel
theorem dX2_swapPieces_34 : decode cX2_swapPieces 34 = .ok (.iastore, 1) := by decide +kernel
theorem dX2_swapPieces_35 : decode cX2_swapPieces 35 = .ok (.aload_n 0, 1) := by decide +kernel
theorem dX2_swapPieces_36 : decode cX2_swapPieces 36 = .ok (.getfield 9, 3) := by decide +kernel
theorem dX2_swapPieces_39 : decode cX2_swapPieces 39 = .ok (.iload_n 2, 1) := by decide +kernel
theorem dX2_swapPieces_40 : decode cX2_swapPieces 40 = .ok (.iload_n 3, 1) := by decide +kernel
theorem dX2_swapPieces_41 : decode cX2_swapPieces 41 = .ok (.iastore, 1) := by decide +kernel
theorem dX2_swapPieces_42 : decode cX2_swapPieces 42 = .ok (.return_, 1) := by decide +kernel
set_option maxRecDepth 20000 in
theorem ggX2_removeAt_X2_hasPlace : GoodIn wsX2_removeAt wsX2_hasPlace := goodIn_r _ [8, 1, 9, 10, 11] (by decide +kernel) (by decide +kernel)
set_option maxRecDepth 20000 in
theorem gX2_removeAt_X2_hasPlace : GoodIn wsX2_removeAt (wsV RX2 22 RX2 yX2_hasPlace wsX2_hasPlace) := goodIn_app (goodIn_of _ (by decide +kernel)) ggX2_removeAt_X2_hasPlace
theorem dX2_removeAt_0 : decode cX2_removeAt 0 = .ok (.aload_n 0, 1) := by decide +kernel
theorem dX2_removeAt_1 : decode cX2_removeAt 1 = .ok (.iload_n 1, 1) := by decide +kernel
theorem dX2_removeAt_2 : decode cX2_removeAt 2 = .ok (.invokevirtual 22, 3) := by decide +kernel
theorem dX2_removeAt_5 : decode cX2_removeAt 5 = .ok (.ifCond .eq 59, 3) := by decide +kernel
theorem dX2_removeAt_8 : decode cX2_removeAt 8 = .ok (.iload_n 1, 1) := by decide +kernel
theorem dX2_removeAt_9 : decode cX2_removeAt 9 = .ok (.iconst 1, 1) := by decide +kernel
theorem dX2_removeAt_10 : decode cX2_removeAt 10 = .ok (.iadd, 1) := by decide +kernel
theorem dX2_removeAt_11 : decode cX2_removeAt 11 = .ok (.istore_n 2, 1) := by decide +kernel
theorem dX2_removeAt_12 : decode cX2_removeAt 12 = .ok (.iload_n 2, 1) := by decide +kernel
theorem dX2_removeAt_13 : decode cX2_removeAt 13 = .ok (.aload_n 0, 1) := by decide +kernel
theorem dX2_removeAt_14 : decode cX2_removeAt 14 = .ok (.getfield 18, 3) := by decide +kernel
theorem dX2_removeAt_17 : decode cX2_removeAt 17 = .ok (.if_icmp .ge 37, 3) := by decide +kernel
theorem dX2_removeAt_20 : decode cX2_removeAt 20 = .ok (.aload_n 0, 1) := by decide +kernel
theorem dX2_removeAt_21 : decode cX2_removeAt 21 = .ok (.getfield 9, 3) := by decide +kernel
theorem dX2_removeAt_24 : decode cX2_removeAt 24 = .ok (.iload_n 2, 1) := by decide +kernel
theorem dX2_removeAt_25 : decode cX2_removeAt 25 = .ok (.iconst 1, 1) := by decide +kernel
theorem dX2_removeAt_26 : decode cX2_removeAt 26 = .ok (.isub, 1) := by decide +kernel
theorem dX2_removeAt_27 : decode cX2_removeAt 27 = .ok (.aload_n 0, 1) := by decide +kernel
theorem dX2_removeAt_28 : decode cX2_removeAt 28 = .ok (.getfield 9, 3) := by decide +kernel
theorem dX2_removeAt_31 : decode cX2_removeAt 31 = .ok (.iload_n 2, 1) := by decide +kernel
theorem dX2_removeAt_32 : decode cX2_removeAt 32 = .ok (.iaload, 1) := by decide +kernel
theorem dX2_removeAt_33 : decode cX2_removeAt 33 = .ok (.iastore, 1) := by decide +kernel
theorem dX2_removeAt_34 : decode cX2_removeAt 34 = .ok (.aload_n 0, 1) := by decide +kernel
theorem dX2_removeAt_35 : decode cX2_removeAt 35 = .ok (.getfield 15, 3) := by decide +kernel
theorem dX2_removeAt_38 : decode cX2_removeAt 38 = .ok (.iload_n 2, 1) := by decide +kernel
theorem dX2_removeAt_39 : decode cX2_removeAt 39 = .ok (.iconst 1, 1) := by decide +kernel
theorem dX2_removeAt_40 : decode cX2_removeAt 40 = .ok (.isub, 1) := by decide +kernel
theorem dX2_removeAt_41 : decode cX2_removeAt 41 = .ok (.aload_n 0, 1) := by decide +kernel
theorem dX2_removeAt_42 : decode cX2_removeAt 42 = .ok (.getfield 15, 3) := by decide +kernel
theorem dX2_removeAt_45 : decode cX2_removeAt 45 = .ok (.iload_n 2, 1) := by decide +kernel
theorem dX2_removeAt_46 : decode cX2_removeAt 46 = .ok (.iaload, 1) := by decide +kernel
theorem dX2_removeAt_47 : decode cX2_removeAt 47 = .ok (.iastore, 1) := by decide +kernel
theorem dX2_removeAt_48 : decode cX2_removeAt 48 = .ok (.iinc 2 1, 3) := by decide +kernel
theorem dX2_removeAt_51 : decode cX2_removeAt 51 = .ok (.goto (-39), 3) := by decide +kernel
theorem dX2_removeAt_54 : decode cX2_removeAt 54 = .ok (.aload_n 0, 1) := by decide +kernel
theorem dX2_removeAt_55 : decode cX2_removeAt 55 = .ok (.dup, 1) := by decide +kernel
theorem dX2_removeAt_56 : decode cX2_removeAt 56 = .ok (.getfield 18, 3) := by decide +kernel
theorem dX2_removeAt_59 : decode cX2_removeAt 59 = .ok (.iconst 1, 1) := by decide +kernel
theorem dX2_removeAt_60 : decode cX2_removeAt 60 = .ok (.isub, 1) := by decide +kernel
theorem dX2_removeAt_61 : decode cX2_removeAt 61 = .ok (.putfield 18, 3) := by decide +kernel
theorem dX2_removeAt_64 : decode cX2_removeAt 64 = .ok (.return_, 1) := by decide +kernel
theorem dX2_timesOf_0 : decode cX2_timesOf 0 = .ok (.iconst 0, 1) := by decide +kernel
theorem dX2_timesOf_1 : decode cX2_timesOf 1 = .ok (.istore_n 2, 1) := by decide +kernel
theorem dX2_timesOf_2 : decode cX2_timesOf 2 = .ok (.iconst 0, 1) := by decide +kernel
theorem dX2_timesOf_3 : decode cX2_timesOf 3 = .ok (.istore_n 3, 1) := by decide +kernel
theorem dX2_timesOf_4 : decode cX2_timesOf 4 = .ok (.iload_n 3, 1) := by decide +kernel
theorem dX2_timesOf_5 : decode cX2_timesOf 5 = .ok (.aload_n 0, 1) := by decide +kernel
theorem dX2_timesOf_6 : decode cX2_timesOf 6 = .ok (.getfield 18, 3) := by decide +kernel
theorem dX2_timesOf_9 : decode cX2_timesOf 9 = .ok (.if_icmp .ge 22, 3) := by decide +kernel
theorem dX2_timesOf_12 : decode cX2_timesOf 12 = .ok (.aload_n 0, 1) := by decide +kernel
theorem dX2_timesOf_13 : decode cX2_timesOf 13 = .ok (.getfield 9, 3) := by decide +kernel
theorem dX2_timesOf_16 : decode cX2_timesOf 16 = .ok (.iload_n 3, 1) := by decide +kernel
theorem dX2_timesOf_17 : decode cX2_timesOf 17 = .ok (.iaload, 1) := by decide +kernel
theorem dX2_timesOf_18 : decode cX2_timesOf 18 = .ok (.iload_n 1, 1) := by decide +kernel
theorem dX2_timesOf_19 : decode cX2_timesOf 19 = .ok (.if_icmp .ne 6, 3) := by decide +kernel
theorem dX2_timesOf_22 : decode cX2_timesOf 22 = .ok (.iinc 2 1, 3) := by decide +kernel
theorem dX2_timesOf_25 : decode cX2_timesOf 25 = .ok (.iinc 3 1, 3) := by decide +kernel
theorem dX2_timesOf_28 : decode cX2_timesOf 28 = .ok (.goto (-24), 3) := by decide +kernel
theorem dX2_timesOf_31 : decode cX2_timesOf 31 = .ok (.iload_n 2, 1) := by decide +kernel
theorem dX2_timesOf_32 : decode cX2_timesOf 32 = .ok (.ireturn, 1) := by decide +kernel
theorem dX4_init_0 : decode cX4_init 0 = .ok (.aload_n 0, 1) := by decide +kernel
theorem dX4_init_1 : decode cX4_init 1 = .ok (.invokespecial 3, 3) := by decide +kernel
theorem dX4_init_4 : decode cX4_init 4 = .ok (.aload_n 0, 1) := by decide +kernel
theorem dX4_init_5 : decode cX4_init 5 = .ok (.bipush 50, 2) := by decide +kernel
theorem dX4_init_7 : decode cX4_init 7 = .ok (.newarray .int, 2) := by decide +kernel
theorem dX4_init_9 : decode cX4_init 9 = .ok (.putfield 9, 3) := by decide +kernel
theorem dX4_init_12 : decode cX4_init 12 = .ok (.return_, 1) := by decide +kernel
