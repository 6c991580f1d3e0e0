set_option maxRecDepth 20000 in
theorem ggX5_init_X1_init : GoodIn wsX5_init wsX1_init := goodIn_r _ [26, 27, 2, 3, 28, 29, 30, 31, 32, 33, 6, 34, 35, 36, 37, 38, 39, 40, 41, 42, 43, 44, 70, 71, 72, 73] (by decide +kernel) (by decide +kernel)
set_option maxRecDepth 20000 in
theorem gX5_init_X1_init : GoodIn wsX5_init (wsX1_init) := ggX5_init_X1_init
set_option maxRecDepth 20000 in
theorem ggX5_init_X2_init : GoodIn wsX5_init wsX2_init := goodIn_r _ [46, 47, 2, 3, 28, 48, 49, 81, 82, 83] (by decide +kernel) (by decide +kernel)
set_option maxRecDepth 20000 in
theorem gX5_init_X2_init_n20 : GoodIn wsX5_init (wsX2_init) := ggX5_init_X2_init
set_option maxRecDepth 20000 in
theorem ggX5_init_X3_init : GoodIn wsX5_init wsX3_init := goodIn_r _ [52, 53, 2, 3, 28, 54, 55, 56, 57, 58, 59, 60, 61, 62, 84, 85, 86, 87, 88, 89, 90, 91, 92, 93, 94, 95, 96] (by decide +kernel) (by decide +kernel)
set_option maxRecDepth 20000 in
theorem gX5_init_X3_init : GoodIn wsX5_init (wsX3_init) := ggX5_init_X3_init
set_option maxRecDepth 20000 in
theorem ggX5_init_X0_init : GoodIn wsX5_init wsX0_init := goodIn_r _ [64, 65, 2, 3] (by decide +kernel) (by decide +kernel)
set_option maxRecDepth 20000 in
theorem gX5_init_X0_init_n36 : GoodIn wsX5_init (wsX0_init) := ggX5_init_X0_init
set_option maxRecDepth 20000 in
theorem ggX5_init_X4_init : GoodIn wsX5_init wsX4_init := goodIn_r _ [67, 68, 2, 3, 28, 69, 98, 99, 100, 101] (by decide +kernel) (by decide +kernel)
set_option maxRecDepth 20000 in
theorem gX5_init_X4_init_n47 : GoodIn wsX5_init (wsX4_init) := ggX5_init_X4_init
theorem dX5_init_0 : decode cX5_init 0 = .ok (.aload_n 0, 1) := by decide +kernel
theorem dX5_init_1 : decode cX5_init 1 = .ok (.invokespecial 3, 3) := by decide +kernel
theorem dX5_init_4 : decode cX5_init 4 = .ok (.aload_n 0, 1) := by decide +kernel
theorem dX5_init_5 : decode cX5_init 5 = .ok (.new 9, 3) := by decide +kernel
theorem dX5_init_8 : decode cX5_init 8 = .ok (.dup, 1) := by decide +kernel
theorem dX5_init_9 : decode cX5_init 9 = .ok (.invokespecial 11, 3) := by decide +kernel
theorem dX5_init_12 : decode cX5_init 12 = .ok (.putfield 12, 3) := by decide +kernel
theorem dX5_init_15 : decode cX5_init 15 = .ok (.aload_n 0, 1) := by decide +kernel
theorem dX5_init_16 : decode cX5_init 16 = .ok (.new 18, 3) := by decide +kernel
theorem dX5_init_19 : decode cX5_init 19 = .ok (.dup, 1) := by decide +kernel
theorem dX5_init_20 : decode cX5_init 20 = .ok (.invokespecial 20, 3) := by decide +kernel
theorem dX5_init_23 : decode cX5_init 23 = .ok (.putfield 21, 3) := by decide +kernel
theorem dX5_init_26 : decode cX5_init 26 = .ok (.aload_n 0, 1) := by decide +kernel
theorem dX5_init_27 : decode cX5_init 27 = .ok (.new 25, 3) := by decide +kernel
theorem dX5_init_30 : decode cX5_init 30 = .ok (.dup, 1) := by decide +kernel
theorem dX5_init_31 : decode cX5_init 31 = .ok (.aload_n 0, 1) := by decide +kernel
theorem dX5_init_32 : decode cX5_init 32 = .ok (.getfield 12, 3) := by decide +kernel
theorem dX5_init_35 : decode cX5_init 35 = .ok (.aload_n 0, 1) := by decide +kernel
theorem dX5_init_36 : decode cX5_init 36 = .ok (.getfield 21, 3) := by decide +kernel
theorem dX5_init_39 : decode cX5_init 39 = .ok (.invokespecial 27, 3) := by decide +kernel
theorem dX5_init_42 : decode cX5_init 42 = .ok (.putfield 30, 3) := by decide +kernel
theorem dX5_init_45 : decode cX5_init 45 = .ok (.aload_n 0, 1) := by decide +kernel
theorem dX5_init_46 : decode cX5_init 46 = .ok (.new 34, 3) := by decide +kernel
theorem dX5_init_49 : decode cX5_init 49 = .ok (.dup, 1) := by decide +kernel
theorem dX5_init_50 : decode cX5_init 50 = .ok (.invokespecial 36, 3) := by decide +kernel
theorem dX5_init_53 : decode cX5_init 53 = .ok (.putfield 37, 3) := by decide +kernel
theorem dX5_init_56 : decode cX5_init 56 = .ok (.aload_n 0, 1) := by decide +kernel
theorem dX5_init_57 : decode cX5_init 57 = .ok (.iconst 4, 1) := by decide +kernel
theorem dX5_init_58 : decode cX5_init 58 = .ok (.anewarray 41, 3) := by decide +kernel
theorem dX5_init_61 : decode cX5_init 61 = .ok (.putfield 43, 3) := by decide +kernel
theorem dX5_init_64 : decode cX5_init 64 = .ok (.iconst 0, 1) := by decide +kernel
theorem dX5_init_65 : decode cX5_init 65 = .ok (.istore_n 1, 1) := by decide +kernel
theorem dX5_init_66 : decode cX5_init 66 = .ok (.iload_n 1, 1) := by decide +kernel
theorem dX5_init_67 : decode cX5_init 67 = .ok (.aload_n 0, 1) := by decide +kernel
theorem dX5_init_68 : decode cX5_init 68 = .ok (.getfield 43, 3) := by decide +kernel
theorem dX5_init_71 : decode cX5_init 71 = .ok (.arraylength, 1) := by decide +kernel
theorem dX5_init_72 : decode cX5_init 72 = .ok (.if_icmp .ge 22, 3) := by decide +kernel
theorem dX5_init_75 : decode cX5_init 75 = .ok (.aload_n 0, 1) := by decide +kernel
theorem dX5_init_76 : decode cX5_init 76 = .ok (.getfield 43, 3) := by decide +kernel
theorem dX5_init_79 : decode cX5_init 79 = .ok (.iload_n 1, 1) := by decide +kernel
theorem dX5_init_80 : decode cX5_init 80 = .ok (.new 41, 3) := by decide +kernel
theorem dX5_init_83 : decode cX5_init 83 = .ok (.dup, 1) := by decide +kernel
theorem dX5_init_84 : decode cX5_init 84 = .ok (.invokespecial 47, 3) := by decide +kernel
theorem dX5_init_87 : decode cX5_init 87 = .ok (.aastore, 1) := by decide +kernel
theorem dX5_init_88 : decode cX5_init 88 = .ok (.iinc 1 1, 3) := by decide +kernel
theorem dX5_init_91 : decode cX5_init 91 = .ok (.goto (-25), 3) := by decide +kernel
theorem dX5_init_94 : decode cX5_init 94 = .ok (.return_, 1) := by decide +kernel
set_option maxRecDepth 20000 in
theorem ggX5_picture_X1_cutAnew : GoodIn wsX5_picture wsX1_cutAnew := goodIn_r _ [8, 9, 10, 11, 12, 13, 14, 7, 15, 16, 17, 18, 19, 20, 44, 45, 46, 47] (by decide +kernel) (by decide +kernel)
set_option maxRecDepth 20000 in
theorem gX5_picture_X1_cutAnew : GoodIn wsX5_picture (wsV RX5 48 RX1 yX1_cutAnew wsX1_cutAnew) := goodIn_app (goodIn_of _ (by decide +kernel)) ggX5_picture_X1_cutAnew
set_option maxRecDepth 20000 in
theorem ggX5_picture_X2_clearAll : GoodIn wsX5_picture wsX2_clearAll := goodIn_r _ [25, 26, 48, 49, 50] (by decide +kernel) (by decide +kernel)
set_option maxRecDepth 20000 in
theorem gX5_picture_X2_clearAll : GoodIn wsX5_picture (wsV RX5 52 RX2 yX2_clearAll wsX2_clearAll) := goodIn_app (goodIn_of _ (by decide +kernel)) ggX5_picture_X2_clearAll
set_option maxRecDepth 20000 in
theorem ggX5_picture_X3_forgetJoined : GoodIn wsX5_picture wsX3_forgetJoined := goodIn_r _ [31, 32, 51, 52, 53, 54, 55, 56, 57, 58, 59, 60, 61, 62, 63] (by decide +kernel) (by decide +kernel)
set_option maxRecDepth 20000 in
theorem gX5_picture_X3_forgetJoined : GoodIn wsX5_picture (wsV RX5 55 RX3 yX3_forgetJoined wsX3_forgetJoined) := goodIn_app (goodIn_of _ (by decide +kernel)) ggX5_picture_X3_forgetJoined
set_option maxRecDepth 20000 in
theorem ggX5_picture_X1_sides : GoodIn wsX5_picture wsX1_sides := goodIn_r _ [36, 9, 10, 44, 45, 46, 47] (by decide +kernel) (by decide +kernel)
set_option maxRecDepth 20000 in
theorem gX5_picture_X1_sides : GoodIn wsX5_picture (wsV RX5 58 RX1 yX1_sides wsX1_sides) := goodIn_app (goodIn_of _ (by decide +kernel)) ggX5_picture_X1_sides
theorem dX5_picture_0 : decode cX5_picture 0 = .ok (.iload_n 1, 1) := by decide +kernel
theorem dX5_picture_1 : decode cX5_picture 1 = .ok (.iconst 1, 1) := by decide +kernel
theorem dX5_picture_2 : decode cX5_picture 2 = .ok (.if_icmp .lt 18, 3) := by decide +kernel
theorem dX5_picture_5 : decode cX5_picture 5 = .ok (.iload_n 1, 1) := by decide +kernel
theorem dX5_picture_6 : decode cX5_picture 6 = .ok (.iconst 5, 1) := by decide +kernel
theorem dX5_picture_7 : decode cX5_picture 7 = .ok (.if_icmp .gt 13, 3) := by decide +kernel
theorem dX5_picture_10 : decode cX5_picture 10 = .ok (.iload_n 2, 1) := by decide +kernel
theorem dX5_picture_11 : decode cX5_picture 11 = .ok (.iconst 1, 1) := by decide +kernel
theorem dX5_picture_12 : decode cX5_picture 12 = .ok (.if_icmp .lt 8, 3) := by decide +kernel
theorem dX5_picture_15 : decode cX5_picture 15 = .ok (.iload_n 2, 1) := by decide +kernel
theorem dX5_picture_16 : decode cX5_picture 16 = .ok (.iconst 5, 1) := by decide +kernel
theorem dX5_picture_17 : decode cX5_picture 17 = .ok (.if_icmp .le 6, 3) := by decide +kernel
theorem dX5_picture_20 : decode cX5_picture 20 = .ok (.bipush (-2), 2) := by decide +kernel
theorem dX5_picture_22 : decode cX5_picture 22 = .ok (.ireturn, 1) := by decide +kernel
theorem dX5_picture_23 : decode cX5_picture 23 = .ok (.aload_n 0, 1) := by decide +kernel
theorem dX5_picture_24 : decode cX5_picture 24 = .ok (.getfield 12, 3) := by decide +kernel
theorem dX5_picture_27 : decode cX5_picture 27 = .ok (.iload_n 1, 1) := by decide +kernel
theorem dX5_picture_28 : decode cX5_picture 28 = .ok (.iload_n 2, 1) := by decide +kernel
theorem dX5_picture_29 : decode cX5_picture 29 = .ok (.invokevirtual 48, 3) := by decide +kernel
theorem dX5_picture_32 : decode cX5_picture 32 = .ok (.aload_n 0, 1) := by decide +kernel
theorem dX5_picture_33 : decode cX5_picture 33 = .ok (.getfield 21, 3) := by decide +kernel
theorem dX5_picture_36 : decode cX5_picture 36 = .ok (.invokevirtual 52, 3) := by decide +kernel
theorem dX5_picture_39 : decode cX5_picture 39 = .ok (.aload_n 0, 1) := by decide +kernel
theorem dX5_picture_40 : decode cX5_picture 40 = .ok (.getfield 30, 3) := by decide +kernel
theorem dX5_picture_43 : decode cX5_picture 43 = .ok (.invokevirtual 55, 3) := by decide +kernel
theorem dX5_picture_46 : decode cX5_picture 46 = .ok (.aload_n 0, 1) := by decide +kernel
theorem dX5_picture_47 : decode cX5_picture 47 = .ok (.getfield 12, 3) := by decide +kernel
theorem dX5_picture_50 : decode cX5_picture 50 = .ok (.invokevirtual 58, 3) := by decide +kernel
theorem dX5_picture_53 : decode cX5_picture 53 = .ok (.ireturn, 1) := by decide +kernel
set_option maxRecDepth 20000 in
theorem ggX5_make_X0_begin : GoodIn wsX5_make wsX0_begin := goodIn_r _ [8, 9, 43] (by decide +kernel) (by decide +kernel)
set_option maxRecDepth 20000 in
theorem gX5_make_X0_begin : GoodIn wsX5_make (wsV RX5 62 RX0 yX0_begin wsX0_begin) := goodIn_app (goodIn_of _ (by decide +kernel)) ggX5_make_X0_begin
set_option maxRecDepth 20000 in
theorem ggX5_make_X1_sides : GoodIn wsX5_make wsX1_sides := goodIn_r _ [14, 15, 16, 44, 45, 46, 47] (by decide +kernel) (by decide +kernel)
set_option maxRecDepth 20000 in
theorem gX5_make_X1_sides : GoodIn wsX5_make (wsV RX5 58 RX1 yX1_sides wsX1_sides) := goodIn_app (goodIn_of _ (by decide +kernel)) ggX5_make_X1_sides
set_option maxRecDepth 20000 in
theorem ggX5_make_X0_below : GoodIn wsX5_make wsX0_below := goodIn_r _ [20, 9, 21, 22, 23, 24, 43] (by decide +kernel) (by decide +kernel)
set_option maxRecDepth 20000 in
theorem gX5_make_X0_below : GoodIn wsX5_make (wsV RX5 66 RX0 yX0_below wsX0_below) := goodIn_app (goodIn_of _ (by decide +kernel)) ggX5_make_X0_below
set_option maxRecDepth 20000 in
theorem ggX5_make_X1_setHeight : GoodIn wsX5_make wsX1_setHeight := goodIn_r _ [28, 29, 44, 45, 46, 47] (by decide +kernel) (by decide +kernel)
set_option maxRecDepth 20000 in
theorem gX5_make_X1_setHeight : GoodIn wsX5_make (wsV RX5 70 RX1 yX1_setHeight wsX1_setHeight) := goodIn_app (goodIn_of _ (by decide +kernel)) ggX5_make_X1_setHeight
set_option maxRecDepth 20000 in
theorem ggX5_make_X3_forgetJoined : GoodIn wsX5_make wsX3_forgetJoined := goodIn_r _ [34, 35, 48, 49, 50, 51, 52, 53, 54, 55, 56, 57, 58, 59, 60] (by decide +kernel) (by decide +kernel)
set_option maxRecDepth 20000 in
theorem gX5_make_X3_forgetJoined : GoodIn wsX5_make (wsV RX5 55 RX3 yX3_forgetJoined wsX3_forgetJoined) := goodIn_app (goodIn_of _ (by decide +kernel)) ggX5_make_X3_forgetJoined
theorem dX5_make_0 : decode cX5_make 0 = .ok (.aload_n 0, 1) := by decide +kernel
theorem dX5_make_1 : decode cX5_make 1 = .ok (.getfield 37, 3) := by decide +kernel
theorem dX5_make_4 : decode cX5_make 4 = .ok (.lload_n 1, 1) := by decide +kernel
theorem dX5_make_5 : decode cX5_make 5 = .ok (.invokevirtual 62, 3) := by decide +kernel
theorem dX5_make_8 : decode cX5_make 8 = .ok (.iconst 0, 1) := by decide +kernel
theorem dX5_make_9 : decode cX5_make 9 = .ok (.istore_n 3, 1) := by decide +kernel
theorem dX5_make_10 : decode cX5_make 10 = .ok (.iload_n 3, 1) := by decide +kernel
theorem dX5_make_11 : decode cX5_make 11 = .ok (.aload_n 0, 1) := by decide +kernel
theorem dX5_make_12 : decode cX5_make 12 = .ok (.getfield 12, 3) := by decide +kernel
theorem dX5_make_15 : decode cX5_make 15 = .ok (.invokevirtual 58, 3) := by decide +kernel
theorem dX5_make_18 : decode cX5_make 18 = .ok (.if_icmp .ge 46, 3) := by decide +kernel
theorem dX5_make_21 : decode cX5_make 21 = .ok (.iconst 0, 1) := by decide +kernel
theorem dX5_make_22 : decode cX5_make 22 = .ok (.istore 4, 2) := by decide +kernel
theorem dX5_make_24 : decode cX5_make 24 = .ok (.iload 4, 2) := by decide +kernel
theorem dX5_make_26 : decode cX5_make 26 = .ok (.iconst 5, 1) := by decide +kernel
theorem dX5_make_27 : decode cX5_make 27 = .ok (.if_icmp .ge 31, 3) := by decide +kernel
theorem dX5_make_30 : decode cX5_make 30 = .ok (.aload_n 0, 1) := by decide +kernel
theorem dX5_make_31 : decode cX5_make 31 = .ok (.getfield 12, 3) := by decide +kernel
theorem dX5_make_34 : decode cX5_make 34 = .ok (.iload_n 3, 1) := by decide +kernel
theorem dX5_make_35 : decode cX5_make 35 = .ok (.iload 4, 2) := by decide +kernel
theorem dX5_make_37 : decode cX5_make 37 = .ok (.aload_n 0, 1) := by decide +kernel
theorem dX5_make_38 : decode cX5_make 38 = .ok (.getfield 37, 3) := by decide +kernel
theorem dX5_make_41 : decode cX5_make 41 = .ok (.bipush 19, 2) := by decide +kernel
theorem dX5_make_43 : decode cX5_make 43 = .ok (.invokevirtual 66, 3) := by decide +kernel
theorem dX5_make_46 : decode cX5_make 46 = .ok (.bipush 9, 2) := by decide +kernel
theorem dX5_make_48 : decode cX5_make 48 = .ok (.isub, 1) := by decide +kernel
theorem dX5_make_49 : decode cX5_make 49 = .ok (.invokevirtual 70, 3) := by decide +kernel
theorem dX5_make_52 : decode cX5_make 52 = .ok (.iinc 4 1, 3) := by decide +kernel
theorem dX5_make_55 : decode cX5_make 55 = .ok (.goto (-31), 3) := by decide +kernel
theorem dX5_make_58 : decode cX5_make 58 = .ok (.iinc 3 1, 3) := by decide +kernel
theorem dX5_make_61 : decode cX5_make 61 = .ok (.goto (-51), 3) := by decide +kernel
theorem dX5_make_64 : decode cX5_make 64 = .ok (.aload_n 0, 1) := by decide +kernel
theorem dX5_make_65 : decode cX5_make 65 = .ok (.getfield 30, 3) := by decide +kernel
theorem dX5_make_68 : decode cX5_make 68 = .ok (.invokevirtual 55, 3) := by decide +kernel
theorem dX5_make_71 : decode cX5_make 71 = .ok (.iconst 1, 1) := by decide +kernel
theorem dX5_make_72 : decode cX5_make 72 = .ok (.ireturn, 1) := by decide +kernel
set_option maxRecDepth 20000 in
theorem ggX5_bend_X1_hasSide : GoodIn wsX5_bend wsX1_hasSide := goodIn_r _ [8, 9, 10, 11, 7, 12, 13, 14, 44, 45, 46, 47] (by decide +kernel) (by decide +kernel)
set_option maxRecDepth 20000 in
theorem gX5_bend_X1_hasSide : GoodIn wsX5_bend (wsV RX5 74 RX1 yX1_hasSide wsX1_hasSide) := goodIn_app (goodIn_of _ (by decide +kernel)) ggX5_bend_X1_hasSide
set_option maxRecDepth 20000 in
theorem ggX5_bend_X5_isHeightPlace : GoodIn wsX5_bend wsX5_isHeightPlace := goodIn_r _ [18] (by decide +kernel) (by decide +kernel)
set_option maxRecDepth 20000 in
theorem gX5_bend_X5_isHeightPlace : GoodIn wsX5_bend (va_wsS RX5 78 yX5_isHeightPlace wsX5_isHeightPlace) := goodIn_app (goodIn_of _ (by decide +kernel)) ggX5_bend_X5_isHeightPlace
set_option maxRecDepth 20000 in
theorem ggX5_bend_X5_isHeight : GoodIn wsX5_bend wsX5_isHeight := goodIn_r _ [21] (by decide +kernel) (by decide +kernel)
set_option maxRecDepth 20000 in
theorem gX5_bend_X5_isHeight : GoodIn wsX5_bend (va_wsS RX5 81 yX5_isHeight wsX5_isHeight) := goodIn_app (goodIn_of _ (by decide +kernel)) ggX5_bend_X5_isHeight
set_option maxRecDepth 20000 in
theorem ggX5_bend_X1_heightAt : GoodIn wsX5_bend wsX1_heightAt := goodIn_r _ [25, 26, 44, 45, 46, 47] (by decide +kernel) (by decide +kernel)
set_option maxRecDepth 20000 in
theorem gX5_bend_X1_heightAt : GoodIn wsX5_bend (wsV RX5 86 RX1 yX1_heightAt wsX1_heightAt) := goodIn_app (goodIn_of _ (by decide +kernel)) ggX5_bend_X1_heightAt
set_option maxRecDepth 20000 in
theorem ggX5_bend_X1_setHeight : GoodIn wsX5_bend wsX1_setHeight := goodIn_r _ [30, 26, 44, 45, 46, 47] (by decide +kernel) (by decide +kernel)
set_option maxRecDepth 20000 in
theorem gX5_bend_X1_setHeight : GoodIn wsX5_bend (wsV RX5 70 RX1 yX1_setHeight wsX1_setHeight) := goodIn_app (goodIn_of _ (by decide +kernel)) ggX5_bend_X1_setHeight
set_option maxRecDepth 20000 in
theorem ggX5_bend_X3_forgetJoined : GoodIn wsX5_bend wsX3_forgetJoined := goodIn_r _ [35, 36, 48, 49, 50, 51, 52, 53, 54, 55, 56, 57, 58, 59, 60] (by decide +kernel) (by decide +kernel)
set_option maxRecDepth 20000 in
theorem gX5_bend_X3_forgetJoined : GoodIn wsX5_bend (wsV RX5 55 RX3 yX3_forgetJoined wsX3_forgetJoined) := goodIn_app (goodIn_of _ (by decide +kernel)) ggX5_bend_X3_forgetJoined
theorem dX5_bend_0 : decode cX5_bend 0 = .ok (.aload_n 0, 1) := by decide +kernel
theorem dX5_bend_1 : decode cX5_bend 1 = .ok (.getfield 12, 3) := by decide +kernel
theorem dX5_bend_4 : decode cX5_bend 4 = .ok (.iload_n 1, 1) := by decide +kernel
theorem dX5_bend_5 : decode cX5_bend 5 = .ok (.invokevirtual 74, 3) := by decide +kernel
theorem dX5_bend_8 : decode cX5_bend 8 = .ok (.ifCond .eq 17, 3) := by decide +kernel
theorem dX5_bend_11 : decode cX5_bend 11 = .ok (.iload_n 2, 1) := by decide +kernel
theorem dX5_bend_12 : decode cX5_bend 12 = .ok (.invokestatic 78, 3) := by decide +kernel
theorem dX5_bend_15 : decode cX5_bend 15 = .ok (.ifCond .eq 10, 3) := by decide +kernel
theorem dX5_bend_18 : decode cX5_bend 18 = .ok (.iload_n 3, 1) := by decide +kernel
theorem dX5_bend_19 : decode cX5_bend 19 = .ok (.invokestatic 81, 3) := by decide +kernel
theorem dX5_bend_22 : decode cX5_bend 22 = .ok (.ifCond .ne 7, 3) := by decide +kernel
theorem dX5_bend_25 : decode cX5_bend 25 = .ok (.ldc2_w 84, 3) := by decide +kernel
theorem dX5_bend_28 : decode cX5_bend 28 = .ok (.lreturn, 1) := by decide +kernel
theorem dX5_bend_29 : decode cX5_bend 29 = .ok (.aload_n 0, 1) := by decide +kernel
theorem dX5_bend_30 : decode cX5_bend 30 = .ok (.getfield 12, 3) := by decide +kernel
theorem dX5_bend_33 : decode cX5_bend 33 = .ok (.iload_n 1, 1) := by decide +kernel
theorem dX5_bend_34 : decode cX5_bend 34 = .ok (.iload_n 2, 1) := by decide +kernel
theorem dX5_bend_35 : decode cX5_bend 35 = .ok (.iconst 0, 1) := by decide +kernel
theorem dX5_bend_36 : decode cX5_bend 36 = .ok (.invokevirtual 86, 3) := by decide +kernel
theorem dX5_bend_39 : decode cX5_bend 39 = .ok (.istore 4, 2) := by decide +kernel
theorem dX5_bend_41 : decode cX5_bend 41 = .ok (.aload_n 0, 1) := by decide +kernel
theorem dX5_bend_42 : decode cX5_bend 42 = .ok (.getfield 12, 3) := by decide +kernel
theorem dX5_bend_45 : decode cX5_bend 45 = .ok (.iload_n 1, 1) := by decide +kernel
theorem dX5_bend_46 : decode cX5_bend 46 = .ok (.iload_n 2, 1) := by decide +kernel
theorem dX5_bend_47 : decode cX5_bend 47 = .ok (.iload_n 3, 1) := by decide +kernel
theorem dX5_bend_48 : decode cX5_bend 48 = .ok (.invokevirtual 70, 3) := by decide +kernel
theorem dX5_bend_51 : decode cX5_bend 51 = .ok (.aload_n 0, 1) := by decide +kernel
theorem dX5_bend_52 : decode cX5_bend 52 = .ok (.getfield 30, 3) := by decide +kernel
theorem dX5_bend_55 : decode cX5_bend 55 = .ok (.invokevirtual 55, 3) := by decide +kernel
theorem dX5_bend_58 : decode cX5_bend 58 = .ok (.iload 4, 2) := by decide +kernel
theorem dX5_bend_60 : decode cX5_bend 60 = .ok (.i2l, 1) := by decide +kernel
theorem dX5_bend_61 : decode cX5_bend 61 = .ok (.lreturn, 1) := by decide +kernel
set_option maxRecDepth 20000 in
theorem ggX5_sideOf_X1_hasEdge : GoodIn wsX5_sideOf wsX1_hasEdge := goodIn_r _ [6, 7, 8, 9, 5, 10, 11, 12, 13, 14, 15, 16, 29, 30, 31, 32] (by decide +kernel) (by decide +kernel)
set_option maxRecDepth 20000 in
theorem gX5_sideOf_X1_hasEdge : GoodIn wsX5_sideOf (wsV RX5 124 RX1 yX1_hasEdge wsX1_hasEdge) := goodIn_app (goodIn_of _ (by decide +kernel)) ggX5_sideOf_X1_hasEdge
set_option maxRecDepth 20000 in
theorem ggX5_sideOf_X1_sideAt : GoodIn wsX5_sideOf wsX1_sideAt := goodIn_r _ [20, 21, 29, 30, 31, 32] (by decide +kernel) (by decide +kernel)
set_option maxRecDepth 20000 in
theorem gX5_sideOf_X1_sideAt : GoodIn wsX5_sideOf (wsV RX5 128 RX1 yX1_sideAt wsX1_sideAt) := goodIn_app (goodIn_of _ (by decide +kernel)) ggX5_sideOf_X1_sideAt
theorem dX5_sideOf_0 : decode cX5_sideOf 0 = .ok (.aload_n 0, 1) := by decide +kernel
theorem dX5_sideOf_1 : decode cX5_sideOf 1 = .ok (.getfield 12, 3) := by decide +kernel
theorem dX5_sideOf_4 : decode cX5_sideOf 4 = .ok (.iload_n 1, 1) := by decide +kernel
theorem dX5_sideOf_5 : decode cX5_sideOf 5 = .ok (.iload_n 2, 1) := by decide +kernel
theorem dX5_sideOf_6 : decode cX5_sideOf 6 = .ok (.invokevirtual 124, 3) := by decide +kernel
theorem dX5_sideOf_9 : decode cX5_sideOf 9 = .ok (.ifCond .ne 5, 3) := by decide +kernel
theorem dX5_sideOf_12 : decode cX5_sideOf 12 = .ok (.iconst (-1), 1) := by decide +kernel
theorem dX5_sideOf_13 : decode cX5_sideOf 13 = .ok (.ireturn, 1) := by decide +kernel
theorem dX5_sideOf_14 : decode cX5_sideOf 14 = .ok (.aload_n 0, 1) := by decide +kernel
theorem dX5_sideOf_15 : decode cX5_sideOf 15 = .ok (.getfield 12, 3) := by decide +kernel
theorem dX5_sideOf_18 : decode cX5_sideOf 18 = .ok (.iload_n 1, 1) := by decide +kernel
theorem dX5_sideOf_19 : decode cX5_sideOf 19 = .ok (.iload_n 2, 1) := by decide +kernel
theorem dX5_sideOf_20 : decode cX5_sideOf 20 = .ok (.invokevirtual 128, 3) := by decide +kernel
theorem dX5_sideOf_23 : decode cX5_sideOf 23 = .ok (.ireturn, 1) := by decide +kernel
set_option maxRecDepth 20000 in
theorem ggX5_far_X1_hasEdge : GoodIn wsX5_far wsX1_hasEdge := goodIn_r _ [6, 7, 8, 9, 5, 10, 11, 12, 13, 14, 15, 16, 50, 51, 52, 53] (by decide +kernel) (by decide +kernel)
set_option maxRecDepth 20000 in
theorem gX5_far_X1_hasEdge : GoodIn wsX5_far (wsV RX5 124 RX1 yX1_hasEdge wsX1_hasEdge) := goodIn_app (goodIn_of _ (by decide +kernel)) ggX5_far_X1_hasEdge
set_option maxRecDepth 20000 in
theorem ggX5_far_X1_isFlat : GoodIn wsX5_far wsX1_isFlat := goodIn_r _ [20, 21, 22, 23, 5, 24, 25, 50, 51, 52, 53] (by decide +kernel) (by decide +kernel)
set_option maxRecDepth 20000 in
theorem gX5_far_X1_isFlat : GoodIn wsX5_far (wsV RX5 132 RX1 yX1_isFlat wsX1_isFlat) := goodIn_app (goodIn_of _ (by decide +kernel)) ggX5_far_X1_isFlat
set_option maxRecDepth 20000 in
theorem ggX5_far_X1_farness : GoodIn wsX5_far wsX1_farness := goodIn_r _ [29, 30, 31, 32, 33, 34, 35, 36, 5, 37, 21, 22, 23, 24, 25, 38, 39, 40, 41, 42, 50, 51, 52, 53] (by decide +kernel) (by decide +kernel)
set_option maxRecDepth 20000 in
theorem gX5_far_X1_farness : GoodIn wsX5_far (wsV RX5 138 RX1 yX1_farness wsX1_farness) := goodIn_app (goodIn_of _ (by decide +kernel)) ggX5_far_X1_farness
theorem dX5_far_0 : decode cX5_far 0 = .ok (.aload_n 0, 1) := by decide +kernel
theorem dX5_far_1 : decode cX5_far 1 = .ok (.getfield 12, 3) := by decide +kernel
theorem dX5_far_4 : decode cX5_far 4 = .ok (.iload_n 1, 1) := by decide +kernel
theorem dX5_far_5 : decode cX5_far 5 = .ok (.iload_n 2, 1) := by decide +kernel
theorem dX5_far_6 : decode cX5_far 6 = .ok (.invokevirtual 124, 3) := by decide +kernel
theorem dX5_far_9 : decode cX5_far 9 = .ok (.ifCond .eq 16, 3) := by decide +kernel
theorem dX5_far_12 : decode cX5_far 12 = .ok (.aload_n 0, 1) := by decide +kernel
theorem dX5_far_13 : decode cX5_far 13 = .ok (.getfield 12, 3) := by decide +kernel
theorem dX5_far_16 : decode cX5_far 16 = .ok (.iload_n 3, 1) := by decide +kernel
theorem dX5_far_17 : decode cX5_far 17 = .ok (.iload 4, 2) := by decide +kernel
theorem dX5_far_19 : decode cX5_far 19 = .ok (.invokevirtual 124, 3) := by decide +kernel
theorem dX5_far_22 : decode cX5_far 22 = .ok (.ifCond .ne 5, 3) := by decide +kernel
theorem dX5_far_25 : decode cX5_far 25 = .ok (.iconst (-1), 1) := by decide +kernel
theorem dX5_far_26 : decode cX5_far 26 = .ok (.ireturn, 1) := by decide +kernel
theorem dX5_far_27 : decode cX5_far 27 = .ok (.aload_n 0, 1) := by decide +kernel
theorem dX5_far_28 : decode cX5_far 28 = .ok (.getfield 12, 3) := by decide +kernel
theorem dX5_far_31 : decode cX5_far 31 = .ok (.iload_n 1, 1) := by decide +kernel
theorem dX5_far_32 : decode cX5_far 32 = .ok (.iload_n 2, 1) := by decide +kernel
theorem dX5_far_33 : decode cX5_far 33 = .ok (.invokevirtual 132, 3) := by decide +kernel
theorem dX5_far_36 : decode cX5_far 36 = .ok (.ifCond .ne 16, 3) := by decide +kernel
theorem dX5_far_39 : decode cX5_far 39 = .ok (.aload_n 0, 1) := by decide +kernel
theorem dX5_far_40 : decode cX5_far 40 = .ok (.getfield 12, 3) := by decide +kernel
theorem dX5_far_43 : decode cX5_far 43 = .ok (.iload_n 3, 1) := by decide +kernel
theorem dX5_far_44 : decode cX5_far 44 = .ok (.iload 4, 2) := by decide +kernel
theorem dX5_far_46 : decode cX5_far 46 = .ok (.invokevirtual 132, 3) := by decide +kernel
theorem dX5_far_49 : decode cX5_far 49 = .ok (.ifCond .eq 6, 3) := by decide +kernel
theorem dX5_far_52 : decode cX5_far 52 = .ok (.bipush (-3), 2) := by decide +kernel
theorem dX5_far_54 : decode cX5_far 54 = .ok (.ireturn, 1) := by decide +kernel
theorem dX5_far_55 : decode cX5_far 55 = .ok (.aload_n 0, 1) := by decide +kernel
theorem dX5_far_56 : decode cX5_far 56 = .ok (.getfield 12, 3) := by decide +kernel
theorem dX5_far_59 : decode cX5_far 59 = .ok (.iload_n 1, 1) := by decide +kernel
theorem dX5_far_60 : decode cX5_far 60 = .ok (.iload_n 2, 1) := by decide +kernel
theorem dX5_far_61 : decode cX5_far 61 = .ok (.iload_n 3, 1) := by decide +kernel
theorem dX5_far_62 : decode cX5_far 62 = .ok (.iload 4, 2) := by decide +kernel
theorem dX5_far_64 : decode cX5_far 64 = .ok (.invokevirtual 138, 3) := by decide +kernel
theorem dX5_far_67 : decode cX5_far 67 = .ok (.ireturn, 1) := by decide +kernel
set_option maxRecDepth 20000 in
theorem ggX5_lay_X1_hasPiece : GoodIn wsX5_lay wsX1_hasPiece := goodIn_r _ [8, 9, 10, 11, 7, 12, 13, 14, 45, 46, 47, 48] (by decide +kernel) (by decide +kernel)
set_option maxRecDepth 20000 in
theorem gX5_lay_X1_hasPiece : GoodIn wsX5_lay (wsV RX5 154 RX1 yX1_hasPiece wsX1_hasPiece) := goodIn_app (goodIn_of _ (by decide +kernel)) ggX5_lay_X1_hasPiece
set_option maxRecDepth 20000 in
theorem ggX5_lay_X2_isFull : GoodIn wsX5_lay wsX2_isFull := goodIn_r _ [19, 20, 49, 50, 51] (by decide +kernel) (by decide +kernel)
set_option maxRecDepth 20000 in
theorem gX5_lay_X2_isFull : GoodIn wsX5_lay (wsV RX5 157 RX2 yX2_isFull wsX2_isFull) := goodIn_app (goodIn_of _ (by decide +kernel)) ggX5_lay_X2_isFull
set_option maxRecDepth 20000 in
theorem ggX5_lay_X2_append : GoodIn wsX5_lay wsX2_append := goodIn_r _ [24, 25, 20, 26, 27, 16, 17, 18, 19, 49, 50, 51] (by decide +kernel) (by decide +kernel)
set_option maxRecDepth 20000 in
theorem gX5_lay_X2_append : GoodIn wsX5_lay (wsV RX5 160 RX2 yX2_append wsX2_append) := goodIn_app (goodIn_of _ (by decide +kernel)) ggX5_lay_X2_append
set_option maxRecDepth 20000 in
theorem ggX5_lay_X3_forgetJoined : GoodIn wsX5_lay wsX3_forgetJoined := goodIn_r _ [32, 33, 52, 53, 54, 55, 56, 57, 58, 59, 60, 61, 62, 63, 64] (by decide +kernel) (by decide +kernel)
set_option maxRecDepth 20000 in
theorem gX5_lay_X3_forgetJoined : GoodIn wsX5_lay (wsV RX5 55 RX3 yX3_forgetJoined wsX3_forgetJoined) := goodIn_app (goodIn_of _ (by decide +kernel)) ggX5_lay_X3_forgetJoined
set_option maxRecDepth 20000 in
theorem ggX5_lay_X2_size : GoodIn wsX5_lay wsX2_size := goodIn_r _ [37, 20, 49, 50, 51] (by decide +kernel) (by decide +kernel)
set_option maxRecDepth 20000 in
theorem gX5_lay_X2_size : GoodIn wsX5_lay (wsV RX5 163 RX2 yX2_size wsX2_size) := goodIn_app (goodIn_of _ (by decide +kernel)) ggX5_lay_X2_size
theorem dX5_lay_0 : decode cX5_lay 0 = .ok (.aload_n 0, 1) := by decide +kernel
theorem dX5_lay_1 : decode cX5_lay 1 = .ok (.getfield 12, 3) := by decide +kernel
theorem dX5_lay_4 : decode cX5_lay 4 = .ok (.iload_n 1, 1) := by decide +kernel
theorem dX5_lay_5 : decode cX5_lay 5 = .ok (.invokevirtual 154, 3) := by decide +kernel
theorem dX5_lay_8 : decode cX5_lay 8 = .ok (.ifCond .ne 5, 3) := by decide +kernel
theorem dX5_lay_11 : decode cX5_lay 11 = .ok (.iconst (-1), 1) := by decide +kernel
theorem dX5_lay_12 : decode cX5_lay 12 = .ok (.ireturn, 1) := by decide +kernel
theorem dX5_lay_13 : decode cX5_lay 13 = .ok (.iload_n 2, 1) := by decide +kernel
theorem dX5_lay_14 : decode cX5_lay 14 = .ok (.ifCond .lt 8, 3) := by decide +kernel
theorem dX5_lay_17 : decode cX5_lay 17 = .ok (.iload_n 2, 1) := by decide +kernel
theorem dX5_lay_18 : decode cX5_lay 18 = .ok (.iconst 4, 1) := by decide +kernel
theorem dX5_lay_19 : decode cX5_lay 19 = .ok (.if_icmp .lt 6, 3) := by decide +kernel
theorem dX5_lay_22 : decode cX5_lay 22 = .ok (.bipush (-2), 2) := by decide +kernel
theorem dX5_lay_24 : decode cX5_lay 24 = .ok (.ireturn, 1) := by decide +kernel
theorem dX5_lay_25 : decode cX5_lay 25 = .ok (.aload_n 0, 1) := by decide +kernel
theorem dX5_lay_26 : decode cX5_lay 26 = .ok (.getfield 21, 3) := by decide +kernel
theorem dX5_lay_29 : decode cX5_lay 29 = .ok (.invokevirtual 157, 3) := by decide +kernel
theorem dX5_lay_32 : decode cX5_lay 32 = .ok (.ifCond .eq 6, 3) := by decide +kernel
theorem dX5_lay_35 : decode cX5_lay 35 = .ok (.bipush (-4), 2) := by decide +kernel
theorem dX5_lay_37 : decode cX5_lay 37 = .ok (.ireturn, 1) := by decide +kernel
theorem dX5_lay_38 : decode cX5_lay 38 = .ok (.aload_n 0, 1) := by decide +kernel
theorem dX5_lay_39 : decode cX5_lay 39 = .ok (.getfield 21, 3) := by decide +kernel
theorem dX5_lay_42 : decode cX5_lay 42 = .ok (.iload_n 1, 1) := by decide +kernel
theorem dX5_lay_43 : decode cX5_lay 43 = .ok (.iload_n 2, 1) := by decide +kernel
theorem dX5_lay_44 : decode cX5_lay 44 = .ok (.invokevirtual 160, 3) := by decide +kernel
theorem dX5_lay_47 : decode cX5_lay 47 = .ok (.aload_n 0, 1) := by decide +kernel
theorem dX5_lay_48 : decode cX5_lay 48 = .ok (.getfield 30, 3) := by decide +kernel
theorem dX5_lay_51 : decode cX5_lay 51 = .ok (.invokevirtual 55, 3) := by decide +kernel
theorem dX5_lay_54 : decode cX5_lay 54 = .ok (.aload_n 0, 1) := by decide +kernel
theorem dX5_lay_55 : decode cX5_lay 55 = .ok (.getfield 21, 3) := by decide +kernel
theorem dX5_lay_58 : decode cX5_lay 58 = .ok (.invokevirtual 163, 3) := by decide +kernel
theorem dX5_lay_61 : decode cX5_lay 61 = .ok (.ireturn, 1) := by decide +kernel
set_option maxRecDepth 20000 in
theorem ggX5_heap_X2_clearAll : GoodIn wsX5_heap wsX2_clearAll := goodIn_r _ [9, 10, 71, 72, 73] (by decide +kernel) (by decide +kernel)
set_option maxRecDepth 20000 in
theorem gX5_heap_X2_clearAll : GoodIn wsX5_heap (wsV RX5 52 RX2 yX2_clearAll wsX2_clearAll) := goodIn_app (goodIn_of _ (by decide +kernel)) ggX5_heap_X2_clearAll
set_option maxRecDepth 20000 in
theorem ggX5_heap_X1_pieces : GoodIn wsX5_heap wsX1_pieces := goodIn_r _ [15, 16, 17, 74, 75, 76, 77] (by decide +kernel) (by decide +kernel)
set_option maxRecDepth 20000 in
theorem gX5_heap_X1_pieces : GoodIn wsX5_heap (wsV RX5 166 RX1 yX1_pieces wsX1_pieces) := goodIn_app (goodIn_of _ (by decide +kernel)) ggX5_heap_X1_pieces
set_option maxRecDepth 20000 in
theorem ggX5_heap_X2_append : GoodIn wsX5_heap wsX2_append := goodIn_r _ [21, 22, 10, 23, 24, 25, 26, 8, 27, 71, 72, 73] (by decide +kernel) (by decide +kernel)
set_option maxRecDepth 20000 in
theorem gX5_heap_X2_append : GoodIn wsX5_heap (wsV RX5 160 RX2 yX2_append wsX2_append) := goodIn_app (goodIn_of _ (by decide +kernel)) ggX5_heap_X2_append
set_option maxRecDepth 20000 in
theorem ggX5_heap_X0_begin : GoodIn wsX5_heap wsX0_begin := goodIn_r _ [32, 33, 78] (by decide +kernel) (by decide +kernel)
set_option maxRecDepth 20000 in
theorem gX5_heap_X0_begin : GoodIn wsX5_heap (wsV RX5 62 RX0 yX0_begin wsX0_begin) := goodIn_app (goodIn_of _ (by decide +kernel)) ggX5_heap_X0_begin
set_option maxRecDepth 20000 in
theorem ggX5_heap_X2_size : GoodIn wsX5_heap wsX2_size := goodIn_r _ [37, 10, 71, 72, 73] (by decide +kernel) (by decide +kernel)
set_option maxRecDepth 20000 in
theorem gX5_heap_X2_size : GoodIn wsX5_heap (wsV RX5 163 RX2 yX2_size wsX2_size) := goodIn_app (goodIn_of _ (by decide +kernel)) ggX5_heap_X2_size
set_option maxRecDepth 20000 in
theorem ggX5_heap_X0_below : GoodIn wsX5_heap wsX0_below := goodIn_r _ [41, 33, 42, 43, 44, 45, 78] (by decide +kernel) (by decide +kernel)
set_option maxRecDepth 20000 in
theorem gX5_heap_X0_below : GoodIn wsX5_heap (wsV RX5 66 RX0 yX0_below wsX0_below) := goodIn_app (goodIn_of _ (by decide +kernel)) ggX5_heap_X0_below
set_option maxRecDepth 20000 in
theorem ggX5_heap_X2_swapPieces : GoodIn wsX5_heap wsX2_swapPieces := goodIn_r _ [49, 22, 50, 51, 52, 8, 53, 10, 71, 72, 73] (by decide +kernel) (by decide +kernel)
set_option maxRecDepth 20000 in
theorem gX5_heap_X2_swapPieces : GoodIn wsX5_heap (wsV RX5 169 RX2 yX2_swapPieces wsX2_swapPieces) := goodIn_app (goodIn_of _ (by decide +kernel)) ggX5_heap_X2_swapPieces
set_option maxRecDepth 20000 in
theorem ggX5_heap_X2_setTurn : GoodIn wsX5_heap wsX2_setTurn := goodIn_r _ [57, 23, 50, 51, 52, 8, 53, 10, 71, 72, 73] (by decide +kernel) (by decide +kernel)
set_option maxRecDepth 20000 in
theorem gX5_heap_X2_setTurn : GoodIn wsX5_heap (wsV RX5 172 RX2 yX2_setTurn wsX2_setTurn) := goodIn_app (goodIn_of _ (by decide +kernel)) ggX5_heap_X2_setTurn
set_option maxRecDepth 20000 in
theorem ggX5_heap_X3_forgetJoined : GoodIn wsX5_heap wsX3_forgetJoined := goodIn_r _ [62, 63, 79, 80, 81, 82, 83, 84, 85, 86, 87, 88, 89, 90, 91] (by decide +kernel) (by decide +kernel)
set_option maxRecDepth 20000 in
theorem gX5_heap_X3_forgetJoined : GoodIn wsX5_heap (wsV RX5 55 RX3 yX3_forgetJoined wsX3_forgetJoined) := goodIn_app (goodIn_of _ (by decide +kernel)) ggX5_heap_X3_forgetJoined
theorem dX5_heap_0 : decode cX5_heap 0 = .ok (.aload_n 0, 1) := by decide +kernel
theorem dX5_heap_1 : decode cX5_heap 1 = .ok (.getfield 21, 3) := by decide +kernel
theorem dX5_heap_4 : decode cX5_heap 4 = .ok (.invokevirtual 52, 3) := by decide +kernel
theorem dX5_heap_7 : decode cX5_heap 7 = .ok (.iconst 0, 1) := by decide +kernel
theorem dX5_heap_8 : decode cX5_heap 8 = .ok (.istore_n 3, 1) := by decide +kernel
theorem dX5_heap_9 : decode cX5_heap 9 = .ok (.iload_n 3, 1) := by decide +kernel
theorem dX5_heap_10 : decode cX5_heap 10 = .ok (.aload_n 0, 1) := by decide +kernel
theorem dX5_heap_11 : decode cX5_heap 11 = .ok (.getfield 12, 3) := by decide +kernel
theorem dX5_heap_14 : decode cX5_heap 14 = .ok (.invokevirtual 166, 3) := by decide +kernel
theorem dX5_heap_17 : decode cX5_heap 17 = .ok (.if_icmp .ge 18, 3) := by decide +kernel
theorem dX5_heap_20 : decode cX5_heap 20 = .ok (.aload_n 0, 1) := by decide +kernel
theorem dX5_heap_21 : decode cX5_heap 21 = .ok (.getfield 21, 3) := by decide +kernel
theorem dX5_heap_24 : decode cX5_heap 24 = .ok (.iload_n 3, 1) := by decide +kernel
theorem dX5_heap_25 : decode cX5_heap 25 = .ok (.iconst 0, 1) := by decide +kernel
theorem dX5_heap_26 : decode cX5_heap 26 = .ok (.invokevirtual 160, 3) := by decide +kernel
theorem dX5_heap_29 : decode cX5_heap 29 = .ok (.iinc 3 1, 3) := by decide +kernel
theorem dX5_heap_32 : decode cX5_heap 32 = .ok (.goto (-23), 3) := by decide +kernel
theorem dX5_heap_35 : decode cX5_heap 35 = .ok (.aload_n 0, 1) := by decide +kernel
theorem dX5_heap_36 : decode cX5_heap 36 = .ok (.getfield 37, 3) := by decide +kernel
theorem dX5_heap_39 : decode cX5_heap 39 = .ok (.lload_n 1, 1) := by decide +kernel
theorem dX5_heap_40 : decode cX5_heap 40 = .ok (.invokevirtual 62, 3) := by decide +kernel
theorem dX5_heap_43 : decode cX5_heap 43 = .ok (.aload_n 0, 1) := by decide +kernel
theorem dX5_heap_44 : decode cX5_heap 44 = .ok (.getfield 21, 3) := by decide +kernel
theorem dX5_heap_47 : decode cX5_heap 47 = .ok (.invokevirtual 163, 3) := by decide +kernel
theorem dX5_heap_50 : decode cX5_heap 50 = .ok (.iconst 1, 1) := by decide +kernel
theorem dX5_heap_51 : decode cX5_heap 51 = .ok (.isub, 1) := by decide +kernel
theorem dX5_heap_52 : decode cX5_heap 52 = .ok (.istore_n 3, 1) := by decide +kernel
theorem dX5_heap_53 : decode cX5_heap 53 = .ok (.iload_n 3, 1) := by decide +kernel
theorem dX5_heap_54 : decode cX5_heap 54 = .ok (.iconst 1, 1) := by decide +kernel
theorem dX5_heap_55 : decode cX5_heap 55 = .ok (.if_icmp .lt 27, 3) := by decide +kernel
theorem dX5_heap_58 : decode cX5_heap 58 = .ok (.aload_n 0, 1) := by decide +kernel
theorem dX5_heap_59 : decode cX5_heap 59 = .ok (.getfield 21, 3) := by decide +kernel
theorem dX5_heap_62 : decode cX5_heap 62 = .ok (.iload_n 3, 1) := by decide +kernel
theorem dX5_heap_63 : decode cX5_heap 63 = .ok (.aload_n 0, 1) := by decide +kernel
theorem dX5_heap_64 : decode cX5_heap 64 = .ok (.getfield 37, 3) := by decide +kernel
theorem dX5_heap_67 : decode cX5_heap 67 = .ok (.iload_n 3, 1) := by decide +kernel
theorem dX5_heap_68 : decode cX5_heap 68 = .ok (.iconst 1, 1) := by decide +kernel
theorem dX5_heap_69 : decode cX5_heap 69 = .ok (.iadd, 1) := by decide +kernel
theorem dX5_heap_70 : decode cX5_heap 70 = .ok (.invokevirtual 66, 3) := by decide +kernel
theorem dX5_heap_73 : decode cX5_heap 73 = .ok (.invokevirtual 169, 3) := by decide +kernel
theorem dX5_heap_76 : decode cX5_heap 76 = .ok (.iinc 3 (-1), 3) := by decide +kernel
theorem dX5_heap_79 : decode cX5_heap 79 = .ok (.goto (-26), 3) := by decide +kernel
theorem dX5_heap_82 : decode cX5_heap 82 = .ok (.iconst 0, 1) := by decide +kernel
theorem dX5_heap_83 : decode cX5_heap 83 = .ok (.istore_n 3, 1) := by decide +kernel
theorem dX5_heap_84 : decode cX5_heap 84 = .ok (.iload_n 3, 1) := by decide +kernel
theorem dX5_heap_85 : decode cX5_heap 85 = .ok (.aload_n 0, 1) := by decide +kernel
theorem dX5_heap_86 : decode cX5_heap 86 = .ok (.getfield 21, 3) := by decide +kernel
theorem dX5_heap_89 : decode cX5_heap 89 = .ok (.invokevirtual 163, 3) := by decide +kernel
theorem dX5_heap_92 : decode cX5_heap 92 = .ok (.if_icmp .ge 25, 3) := by decide +kernel
theorem dX5_heap_95 : decode cX5_heap 95 = .ok (.aload_n 0, 1) := by decide +kernel
theorem dX5_heap_96 : decode cX5_heap 96 = .ok (.getfield 21, 3) := by decide +kernel
theorem dX5_heap_99 : decode cX5_heap 99 = .ok (.iload_n 3, 1) := by decide +kernel
theorem dX5_heap_100 : decode cX5_heap 100 = .ok (.aload_n 0, 1) := by decide +kernel
theorem dX5_heap_101 : decode cX5_heap 101 = .ok (.getfield 37, 3) := by decide +kernel
theorem dX5_heap_104 : decode cX5_heap 104 = .ok (.iconst 4, 1) := by decide +kernel
theorem dX5_heap_105 : decode cX5_heap 105 = .ok (.invokevirtual 66, 3) := by decide +kernel
theorem dX5_heap_108 : decode cX5_heap 108 = .ok (.invokevirtual 172, 3) := by decide +kernel
theorem dX5_heap_111 : decode cX5_heap 111 = .ok (.iinc 3 1, 3) := by decide +kernel
theorem dX5_heap_114 : decode cX5_heap 114 = .ok (.goto (-30), 3) := by decide +kernel
theorem dX5_heap_117 : decode cX5_heap 117 = .ok (.aload_n 0, 1) := by decide +kernel
theorem dX5_heap_118 : decode cX5_heap 118 = .ok (.getfield 30, 3) := by decide +kernel
theorem dX5_heap_121 : decode cX5_heap 121 = .ok (.invokevirtual 55, 3) := by decide +kernel
theorem dX5_heap_124 : decode cX5_heap 124 = .ok (.aload_n 0, 1) := by decide +kernel
theorem dX5_heap_125 : decode cX5_heap 125 = .ok (.getfield 21, 3) := by decide +kernel
theorem dX5_heap_128 : decode cX5_heap 128 = .ok (.invokevirtual 163, 3) := by decide +kernel
theorem dX5_heap_131 : decode cX5_heap 131 = .ok (.ireturn, 1) := by decide +kernel
set_option maxRecDepth 20000 in
theorem ggX5_take_X2_hasPlace : GoodIn wsX5_take wsX2_hasPlace := goodIn_r _ [7, 8, 33, 34, 35] (by decide +kernel) (by decide +kernel)
set_option maxRecDepth 20000 in
theorem gX5_take_X2_hasPlace : GoodIn wsX5_take (wsV RX5 175 RX2 yX2_hasPlace wsX2_hasPlace) := goodIn_app (goodIn_of _ (by decide +kernel)) ggX5_take_X2_hasPlace
set_option maxRecDepth 20000 in
theorem ggX5_take_X2_pieceAt : GoodIn wsX5_take wsX2_pieceAt := goodIn_r _ [12, 13, 14, 4, 5, 6, 7, 8, 33, 34, 35] (by decide +kernel) (by decide +kernel)
set_option maxRecDepth 20000 in
theorem gX5_take_X2_pieceAt : GoodIn wsX5_take (wsV RX5 178 RX2 yX2_pieceAt wsX2_pieceAt) := goodIn_app (goodIn_of _ (by decide +kernel)) ggX5_take_X2_pieceAt
set_option maxRecDepth 20000 in
theorem ggX5_take_X2_removeAt : GoodIn wsX5_take wsX2_removeAt := goodIn_r _ [18, 8, 13, 19, 14, 4, 5, 6, 7, 33, 34, 35] (by decide +kernel) (by decide +kernel)
set_option maxRecDepth 20000 in
theorem gX5_take_X2_removeAt : GoodIn wsX5_take (wsV RX5 181 RX2 yX2_removeAt wsX2_removeAt) := goodIn_app (goodIn_of _ (by decide +kernel)) ggX5_take_X2_removeAt
set_option maxRecDepth 20000 in
theorem ggX5_take_X3_forgetJoined : GoodIn wsX5_take wsX3_forgetJoined := goodIn_r _ [24, 25, 36, 37, 38, 39, 40, 41, 42, 43, 44, 45, 46, 47, 48] (by decide +kernel) (by decide +kernel)
set_option maxRecDepth 20000 in
theorem gX5_take_X3_forgetJoined : GoodIn wsX5_take (wsV RX5 55 RX3 yX3_forgetJoined wsX3_forgetJoined) := goodIn_app (goodIn_of _ (by decide +kernel)) ggX5_take_X3_forgetJoined
theorem dX5_take_0 : decode cX5_take 0 = .ok (.aload_n 0, 1) := by decide +kernel
theorem dX5_take_1 : decode cX5_take 1 = .ok (.getfield 21, 3) := by decide +kernel
theorem dX5_take_4 : decode cX5_take 4 = .ok (.iload_n 1, 1) := by decide +kernel
theorem dX5_take_5 : decode cX5_take 5 = .ok (.invokevirtual 175, 3) := by decide +kernel
theorem dX5_take_8 : decode cX5_take 8 = .ok (.ifCond .ne 5, 3) := by decide +kernel
theorem dX5_take_11 : decode cX5_take 11 = .ok (.iconst (-1), 1) := by decide +kernel
theorem dX5_take_12 : decode cX5_take 12 = .ok (.ireturn, 1) := by decide +kernel
theorem dX5_take_13 : decode cX5_take 13 = .ok (.aload_n 0, 1) := by decide +kernel
theorem dX5_take_14 : decode cX5_take 14 = .ok (.getfield 21, 3) := by decide +kernel
theorem dX5_take_17 : decode cX5_take 17 = .ok (.iload_n 1, 1) := by decide +kernel
theorem dX5_take_18 : decode cX5_take 18 = .ok (.invokevirtual 178, 3) := by decide +kernel
theorem dX5_take_21 : decode cX5_take 21 = .ok (.istore_n 2, 1) := by decide +kernel
theorem dX5_take_22 : decode cX5_take 22 = .ok (.aload_n 0, 1) := by decide +kernel
theorem dX5_take_23 : decode cX5_take 23 = .ok (.getfield 21, 3) := by decide +kernel
theorem dX5_take_26 : decode cX5_take 26 = .ok (.iload_n 1, 1) := by decide +kernel
theorem dX5_take_27 : decode cX5_take 27 = .ok (.invokevirtual 181, 3) := by decide +kernel
theorem dX5_take_30 : decode cX5_take 30 = .ok (.aload_n 0, 1) := by decide +kernel
theorem dX5_take_31 : decode cX5_take 31 = .ok (.getfield 30, 3) := by decide +kernel
theorem dX5_take_34 : decode cX5_take 34 = .ok (.invokevirtual 55, 3) := by decide +kernel
theorem dX5_take_37 : decode cX5_take 37 = .ok (.iload_n 2, 1) := by decide +kernel
theorem dX5_take_38 : decode cX5_take 38 = .ok (.ireturn, 1) := by decide +kernel
set_option maxRecDepth 20000 in
theorem ggX5_heaped_X2_hasPlace : GoodIn wsX5_heaped wsX2_hasPlace := goodIn_r _ [6, 7, 26, 27, 28] (by decide +kernel) (by decide +kernel)
set_option maxRecDepth 20000 in
theorem gX5_heaped_X2_hasPlace : GoodIn wsX5_heaped (wsV RX5 175 RX2 yX2_hasPlace wsX2_hasPlace) := goodIn_app (goodIn_of _ (by decide +kernel)) ggX5_heaped_X2_hasPlace
set_option maxRecDepth 20000 in
theorem ggX5_heaped_X2_pieceAt : GoodIn wsX5_heaped wsX2_pieceAt := goodIn_r _ [11, 12, 13, 3, 4, 5, 6, 7, 26, 27, 28] (by decide +kernel) (by decide +kernel)
set_option maxRecDepth 20000 in
theorem gX5_heaped_X2_pieceAt : GoodIn wsX5_heaped (wsV RX5 178 RX2 yX2_pieceAt wsX2_pieceAt) := goodIn_app (goodIn_of _ (by decide +kernel)) ggX5_heaped_X2_pieceAt
set_option maxRecDepth 20000 in
theorem ggX5_heaped_X2_turnAt : GoodIn wsX5_heaped wsX2_turnAt := goodIn_r _ [17, 18, 13, 3, 4, 5, 6, 7, 26, 27, 28] (by decide +kernel) (by decide +kernel)
set_option maxRecDepth 20000 in
theorem gX5_heaped_X2_turnAt : GoodIn wsX5_heaped (wsV RX5 185 RX2 yX2_turnAt wsX2_turnAt) := goodIn_app (goodIn_of _ (by decide +kernel)) ggX5_heaped_X2_turnAt
theorem dX5_heaped_0 : decode cX5_heaped 0 = .ok (.aload_n 0, 1) := by decide +kernel
theorem dX5_heaped_1 : decode cX5_heaped 1 = .ok (.getfield 21, 3) := by decide +kernel
theorem dX5_heaped_4 : decode cX5_heaped 4 = .ok (.iload_n 1, 1) := by decide +kernel
theorem dX5_heaped_5 : decode cX5_heaped 5 = .ok (.invokevirtual 175, 3) := by decide +kernel
theorem dX5_heaped_8 : decode cX5_heaped 8 = .ok (.ifCond .ne 5, 3) := by decide +kernel
theorem dX5_heaped_11 : decode cX5_heaped 11 = .ok (.iconst (-1), 1) := by decide +kernel
theorem dX5_heaped_12 : decode cX5_heaped 12 = .ok (.ireturn, 1) := by decide +kernel
theorem dX5_heaped_13 : decode cX5_heaped 13 = .ok (.iload_n 2, 1) := by decide +kernel
theorem dX5_heaped_14 : decode cX5_heaped 14 = .ok (.lookupswitch 44 #[(0, 26), (1, 35)], 26) := by decide +kernel
theorem dX5_heaped_40 : decode cX5_heaped 40 = .ok (.aload_n 0, 1) := by decide +kernel
theorem dX5_heaped_41 : decode cX5_heaped 41 = .ok (.getfield 21, 3) := by decide +kernel
theorem dX5_heaped_44 : decode cX5_heaped 44 = .ok (.iload_n 1, 1) := by decide +kernel
theorem dX5_heaped_45 : decode cX5_heaped 45 = .ok (.invokevirtual 178, 3) := by decide +kernel
theorem dX5_heaped_48 : decode cX5_heaped 48 = .ok (.ireturn, 1) := by decide +kernel
theorem dX5_heaped_49 : decode cX5_heaped 49 = .ok (.aload_n 0, 1) := by decide +kernel
theorem dX5_heaped_50 : decode cX5_heaped 50 = .ok (.getfield 21, 3) := by decide +kernel
theorem dX5_heaped_53 : decode cX5_heaped 53 = .ok (.iload_n 1, 1) := by decide +kernel
theorem dX5_heaped_54 : decode cX5_heaped 54 = .ok (.invokevirtual 185, 3) := by decide +kernel
theorem dX5_heaped_57 : decode cX5_heaped 57 = .ok (.ireturn, 1) := by decide +kernel
theorem dX5_heaped_58 : decode cX5_heaped 58 = .ok (.bipush (-2), 2) := by decide +kernel
theorem dX5_heaped_60 : decode cX5_heaped 60 = .ok (.ireturn, 1) := by decide +kernel
set_option maxRecDepth 20000 in
theorem ggX5_missing_X5_isMissingWhat : GoodIn wsX5_missing wsX5_isMissingWhat := goodIn_r _ [4] (by decide +kernel) (by decide +kernel)
set_option maxRecDepth 20000 in
theorem gX5_missing_X5_isMissingWhat : GoodIn wsX5_missing (va_wsS RX5 188 yX5_isMissingWhat wsX5_isMissingWhat) := goodIn_app (goodIn_of _ (by decide +kernel)) ggX5_missing_X5_isMissingWhat
set_option maxRecDepth 20000 in
theorem ggX5_missing_X5_countMissing : GoodIn wsX5_missing wsX5_countMissing := goodIn_r _ [8, 9, 10, 11, 12, 13, 14, 15, 16, 17, 18, 19, 3, 20, 21, 22, 23, 24, 25, 26, 27, 28, 29, 30, 31, 32, 33, 34, 35, 36, 37, 38, 39, 40, 41, 42] (by decide +kernel) (by decide +kernel)
set_option maxRecDepth 20000 in
theorem gX5_missing_X5_countMissing : GoodIn wsX5_missing (wsV RX5 191 RX5 yX5_countMissing wsX5_countMissing) := goodIn_app (goodIn_of _ (by decide +kernel)) ggX5_missing_X5_countMissing
theorem dX5_missing_0 : decode cX5_missing 0 = .ok (.iload_n 1, 1) := by decide +kernel
theorem dX5_missing_1 : decode cX5_missing 1 = .ok (.invokestatic 188, 3) := by decide +kernel
theorem dX5_missing_4 : decode cX5_missing 4 = .ok (.ifCond .ne 6, 3) := by decide +kernel
theorem dX5_missing_7 : decode cX5_missing 7 = .ok (.bipush (-2), 2) := by decide +kernel
theorem dX5_missing_9 : decode cX5_missing 9 = .ok (.ireturn, 1) := by decide +kernel
theorem dX5_missing_10 : decode cX5_missing 10 = .ok (.aload_n 0, 1) := by decide +kernel
theorem dX5_missing_11 : decode cX5_missing 11 = .ok (.iload_n 1, 1) := by decide +kernel
theorem dX5_missing_12 : decode cX5_missing 12 = .ok (.invokevirtual 191, 3) := by decide +kernel
theorem dX5_missing_15 : decode cX5_missing 15 = .ok (.ireturn, 1) := by decide +kernel
set_option maxRecDepth 20000 in
theorem ggX5_missed_X5_isMissingWhat : GoodIn wsX5_missed wsX5_isMissingWhat := goodIn_r _ [4] (by decide +kernel) (by decide +kernel)
set_option maxRecDepth 20000 in
theorem gX5_missed_X5_isMissingWhat : GoodIn wsX5_missed (va_wsS RX5 188 yX5_isMissingWhat wsX5_isMissingWhat) := goodIn_app (goodIn_of _ (by decide +kernel)) ggX5_missed_X5_isMissingWhat
set_option maxRecDepth 20000 in
theorem ggX5_missed_X5_missingPiece : GoodIn wsX5_missed wsX5_missingPiece := goodIn_r _ [8, 9, 10, 11, 12, 13, 14, 15, 16, 17, 18, 19, 3, 20, 21, 22, 23, 24, 25, 26, 27, 28, 29, 30, 31, 32, 33, 34, 35, 36, 37, 38, 39, 40, 41, 42] (by decide +kernel) (by decide +kernel)
set_option maxRecDepth 20000 in
theorem gX5_missed_X5_missingPiece : GoodIn wsX5_missed (wsV RX5 194 RX5 yX5_missingPiece wsX5_missingPiece) := goodIn_app (goodIn_of _ (by decide +kernel)) ggX5_missed_X5_missingPiece
theorem dX5_missed_0 : decode cX5_missed 0 = .ok (.iload_n 2, 1) := by decide +kernel
theorem dX5_missed_1 : decode cX5_missed 1 = .ok (.ifCond .ge 5, 3) := by decide +kernel
theorem dX5_missed_4 : decode cX5_missed 4 = .ok (.iconst (-1), 1) := by decide +kernel
theorem dX5_missed_5 : decode cX5_missed 5 = .ok (.ireturn, 1) := by decide +kernel
theorem dX5_missed_6 : decode cX5_missed 6 = .ok (.iload_n 1, 1) := by decide +kernel
theorem dX5_missed_7 : decode cX5_missed 7 = .ok (.invokestatic 188, 3) := by decide +kernel
theorem dX5_missed_10 : decode cX5_missed 10 = .ok (.ifCond .ne 6, 3) := by decide +kernel
theorem dX5_missed_13 : decode cX5_missed 13 = .ok (.bipush (-2), 2) := by decide +kernel
theorem dX5_missed_15 : decode cX5_missed 15 = .ok (.ireturn, 1) := by decide +kernel
theorem dX5_missed_16 : decode cX5_missed 16 = .ok (.aload_n 0, 1) := by decide +kernel
theorem dX5_missed_17 : decode cX5_missed 17 = .ok (.iload_n 1, 1) := by decide +kernel
theorem dX5_missed_18 : decode cX5_missed 18 = .ok (.iload_n 2, 1) := by decide +kernel
theorem dX5_missed_19 : decode cX5_missed 19 = .ok (.invokevirtual 194, 3) := by decide +kernel
theorem dX5_missed_22 : decode cX5_missed 22 = .ok (.ireturn, 1) := by decide +kernel
set_option maxRecDepth 20000 in
theorem ggX5_ways_X3_countWays : GoodIn wsX5_ways wsX3_countWays := goodIn_r _ [6, 7, 8, 9, 10, 11, 5, 12, 13, 14, 15, 16, 17, 18, 19, 20, 21, 22, 23, 24, 25, 26, 27, 28, 29, 30, 31, 32, 33, 34, 35, 36, 37, 38, 39, 40, 41, 42, 43, 44, 45, 46, 47, 48, 49, 50, 51, 52, 53, 54, 55, 56, 57, 58, 59, 60, 61, 62, 63, 64, 65, 66, 67, 68, 69, 70, 71, 72, 73, 74, 75, 76, 77, 78, 79, 80, 81, 82, 83, 84, 85, 86, 87, 88, 89, 90, 91, 92, 93, 94, 95, 96, 97, 98, 99, 100, 101, 102, 103, 104, 105, 113, 114, 115, 116, 117, 118, 119, 120, 121, 122, 123, 124, 125, 126, 127, 128, 129, 130, 131, 132] (by decide +kernel) (by decide +kernel)
set_option maxRecDepth 20000 in
theorem gX5_ways_X3_countWays : GoodIn wsX5_ways (wsV RX5 197 RX3 yX3_countWays wsX3_countWays) := goodIn_app (goodIn_of _ (by decide +kernel)) ggX5_ways_X3_countWays
theorem dX5_ways_0 : decode cX5_ways 0 = .ok (.aload_n 0, 1) := by decide +kernel
theorem dX5_ways_1 : decode cX5_ways 1 = .ok (.getfield 30, 3) := by decide +kernel
theorem dX5_ways_4 : decode cX5_ways 4 = .ok (.invokevirtual 197, 3) := by decide +kernel
theorem dX5_ways_7 : decode cX5_ways 7 = .ok (.ireturn, 1) := by decide +kernel
set_option maxRecDepth 20000 in
theorem ggX5_join_X3_findFirst : GoodIn wsX5_join wsX3_findFirst := goodIn_r _ [6, 7, 8, 9, 10, 11, 12, 13, 14, 15, 5, 16, 17, 18, 19, 20, 21, 22, 23, 24, 25, 26, 27, 28, 29, 30, 31, 32, 33, 34, 35, 36, 37, 38, 39, 40, 41, 42, 43, 44, 45, 46, 47, 48, 49, 50, 51, 52, 53, 54, 55, 56, 57, 58, 59, 60, 61, 62, 63, 64, 65, 66, 67, 68, 69, 70, 71, 72, 73, 74, 75, 76, 77, 78, 79, 80, 81, 82, 83, 84, 85, 86, 87, 88, 89, 90, 91, 92, 93, 94, 95, 96, 97, 98, 99, 100, 101, 102, 103, 104, 105, 106, 107, 115, 116, 117, 118, 119, 120, 121, 122, 123, 124, 125, 126, 127, 128, 129, 130, 131, 132, 133, 134] (by decide +kernel) (by decide +kernel)
set_option maxRecDepth 20000 in
theorem gX5_join_X3_findFirst : GoodIn wsX5_join (wsV RX5 200 RX3 yX3_findFirst wsX3_findFirst) := goodIn_app (goodIn_of _ (by decide +kernel)) ggX5_join_X3_findFirst
theorem dX5_join_0 : decode cX5_join 0 = .ok (.aload_n 0, 1) := by decide +kernel
theorem dX5_join_1 : decode cX5_join 1 = .ok (.getfield 30, 3) := by decide +kernel
theorem dX5_join_4 : decode cX5_join 4 = .ok (.invokevirtual 200, 3) := by decide +kernel
theorem dX5_join_7 : decode cX5_join 7 = .ok (.ireturn, 1) := by decide +kernel
set_option maxRecDepth 20000 in
theorem ggX5_joined_X3_hasJoined : GoodIn wsX5_joined wsX3_hasJoined := goodIn_r _ [7, 8, 39, 40, 41, 42, 43, 44, 45, 46, 47, 48, 49, 50, 51] (by decide +kernel) (by decide +kernel)
set_option maxRecDepth 20000 in
theorem gX5_joined_X3_hasJoined : GoodIn wsX5_joined (wsV RX5 203 RX3 yX3_hasJoined wsX3_hasJoined) := goodIn_app (goodIn_of _ (by decide +kernel)) ggX5_joined_X3_hasJoined
set_option maxRecDepth 20000 in
theorem ggX5_joined_X1_hasPiece : GoodIn wsX5_joined wsX1_hasPiece := goodIn_r _ [13, 14, 15, 16, 12, 17, 18, 19, 52, 53, 54, 55] (by decide +kernel) (by decide +kernel)
set_option maxRecDepth 20000 in
theorem gX5_joined_X1_hasPiece : GoodIn wsX5_joined (wsV RX5 154 RX1 yX1_hasPiece wsX1_hasPiece) := goodIn_app (goodIn_of _ (by decide +kernel)) ggX5_joined_X1_hasPiece
set_option maxRecDepth 20000 in
theorem ggX5_joined_X3_joinedFrom : GoodIn wsX5_joined wsX3_joinedFrom := goodIn_r _ [23, 24, 25, 26, 6, 27, 39, 40, 41, 42, 43, 44, 45, 46, 47, 48, 49, 50, 51] (by decide +kernel) (by decide +kernel)
set_option maxRecDepth 20000 in
theorem gX5_joined_X3_joinedFrom : GoodIn wsX5_joined (wsV RX5 206 RX3 yX3_joinedFrom wsX3_joinedFrom) := goodIn_app (goodIn_of _ (by decide +kernel)) ggX5_joined_X3_joinedFrom
set_option maxRecDepth 20000 in
theorem ggX5_joined_X3_joinedTurn : GoodIn wsX5_joined wsX3_joinedTurn := goodIn_r _ [31, 24, 25, 26, 6, 27, 39, 40, 41, 42, 43, 44, 45, 46, 47, 48, 49, 50, 51] (by decide +kernel) (by decide +kernel)
set_option maxRecDepth 20000 in
theorem gX5_joined_X3_joinedTurn : GoodIn wsX5_joined (wsV RX5 209 RX3 yX3_joinedTurn wsX3_joinedTurn) := goodIn_app (goodIn_of _ (by decide +kernel)) ggX5_joined_X3_joinedTurn
theorem dX5_joined_0 : decode cX5_joined 0 = .ok (.aload_n 0, 1) := by decide +kernel
theorem dX5_joined_1 : decode cX5_joined 1 = .ok (.getfield 30, 3) := by decide +kernel
theorem dX5_joined_4 : decode cX5_joined 4 = .ok (.invokevirtual 203, 3) := by decide +kernel
theorem dX5_joined_7 : decode cX5_joined 7 = .ok (.ifCond .ne 6, 3) := by decide +kernel
theorem dX5_joined_10 : decode cX5_joined 10 = .ok (.bipush (-3), 2) := by decide +kernel
theorem dX5_joined_12 : decode cX5_joined 12 = .ok (.ireturn, 1) := by decide +kernel
theorem dX5_joined_13 : decode cX5_joined 13 = .ok (.aload_n 0, 1) := by decide +kernel
theorem dX5_joined_14 : decode cX5_joined 14 = .ok (.getfield 12, 3) := by decide +kernel
theorem dX5_joined_17 : decode cX5_joined 17 = .ok (.iload_n 1, 1) := by decide +kernel
theorem dX5_joined_18 : decode cX5_joined 18 = .ok (.invokevirtual 154, 3) := by decide +kernel
theorem dX5_joined_21 : decode cX5_joined 21 = .ok (.ifCond .ne 5, 3) := by decide +kernel
theorem dX5_joined_24 : decode cX5_joined 24 = .ok (.iconst (-1), 1) := by decide +kernel
theorem dX5_joined_25 : decode cX5_joined 25 = .ok (.ireturn, 1) := by decide +kernel
theorem dX5_joined_26 : decode cX5_joined 26 = .ok (.iload_n 2, 1) := by decide +kernel
theorem dX5_joined_27 : decode cX5_joined 27 = .ok (.lookupswitch 43 #[(0, 25), (1, 34)], 25) := by decide +kernel
theorem dX5_joined_52 : decode cX5_joined 52 = .ok (.aload_n 0, 1) := by decide +kernel
theorem dX5_joined_53 : decode cX5_joined 53 = .ok (.getfield 30, 3) := by decide +kernel
theorem dX5_joined_56 : decode cX5_joined 56 = .ok (.iload_n 1, 1) := by decide +kernel
theorem dX5_joined_57 : decode cX5_joined 57 = .ok (.invokevirtual 206, 3) := by decide +kernel
theorem dX5_joined_60 : decode cX5_joined 60 = .ok (.ireturn, 1) := by decide +kernel
theorem dX5_joined_61 : decode cX5_joined 61 = .ok (.aload_n 0, 1) := by decide +kernel
theorem dX5_joined_62 : decode cX5_joined 62 = .ok (.getfield 30, 3) := by decide +kernel
theorem dX5_joined_65 : decode cX5_joined 65 = .ok (.iload_n 1, 1) := by decide +kernel
theorem dX5_joined_66 : decode cX5_joined 66 = .ok (.invokevirtual 209, 3) := by decide +kernel
theorem dX5_joined_69 : decode cX5_joined 69 = .ok (.ireturn, 1) := by decide +kernel
theorem dX5_joined_70 : decode cX5_joined 70 = .ok (.bipush (-2), 2) := by decide +kernel
theorem dX5_joined_72 : decode cX5_joined 72 = .ok (.ireturn, 1) := by decide +kernel
set_option maxRecDepth 20000 in
theorem ggX5_trials_X3_trialsCounted : GoodIn wsX5_trials wsX3_trialsCounted := goodIn_r _ [6, 7, 15, 16, 17, 18, 19, 20, 21, 22, 23, 24, 25, 26, 27] (by decide +kernel) (by decide +kernel)
set_option maxRecDepth 20000 in
theorem gX5_trials_X3_trialsCounted : GoodIn wsX5_trials (wsV RX5 212 RX3 yX3_trialsCounted wsX3_trialsCounted) := goodIn_app (goodIn_of _ (by decide +kernel)) ggX5_trials_X3_trialsCounted
theorem dX5_trials_0 : decode cX5_trials 0 = .ok (.aload_n 0, 1) := by decide +kernel
theorem dX5_trials_1 : decode cX5_trials 1 = .ok (.getfield 30, 3) := by decide +kernel
theorem dX5_trials_4 : decode cX5_trials 4 = .ok (.invokevirtual 212, 3) := by decide +kernel
theorem dX5_trials_7 : decode cX5_trials 7 = .ok (.ireturn, 1) := by decide +kernel
set_option maxRecDepth 20000 in
theorem ggX5_known_X1_hasPiece : GoodIn wsX5_known wsX1_hasPiece := goodIn_r _ [7, 8, 9, 10, 6, 11, 12, 13, 41, 42, 43, 44] (by decide +kernel) (by decide +kernel)
set_option maxRecDepth 20000 in
theorem gX5_known_X1_hasPiece : GoodIn wsX5_known (wsV RX5 154 RX1 yX1_hasPiece wsX1_hasPiece) := goodIn_app (goodIn_of _ (by decide +kernel)) ggX5_known_X1_hasPiece
set_option maxRecDepth 20000 in
theorem ggX5_known_X2_timesOf : GoodIn wsX5_known wsX2_timesOf := goodIn_r _ [18, 19, 20, 45, 46, 47] (by decide +kernel) (by decide +kernel)
set_option maxRecDepth 20000 in
theorem gX5_known_X2_timesOf : GoodIn wsX5_known (wsV RX5 215 RX2 yX2_timesOf wsX2_timesOf) := goodIn_app (goodIn_of _ (by decide +kernel)) ggX5_known_X2_timesOf
set_option maxRecDepth 20000 in
theorem ggX5_known_X1_isFlat : GoodIn wsX5_known wsX1_isFlat := goodIn_r _ [24, 25, 26, 27, 6, 28, 29, 41, 42, 43, 44] (by decide +kernel) (by decide +kernel)
set_option maxRecDepth 20000 in
theorem gX5_known_X1_isFlat : GoodIn wsX5_known (wsV RX5 132 RX1 yX1_isFlat wsX1_isFlat) := goodIn_app (goodIn_of _ (by decide +kernel)) ggX5_known_X1_isFlat
set_option maxRecDepth 20000 in
theorem ggX5_known_X1_nextTo : GoodIn wsX5_known wsX1_nextTo := goodIn_r _ [33, 12, 41, 42, 43, 44] (by decide +kernel) (by decide +kernel)
set_option maxRecDepth 20000 in
theorem gX5_known_X1_nextTo : GoodIn wsX5_known (wsV RX5 218 RX1 yX1_nextTo wsX1_nextTo) := goodIn_app (goodIn_of _ (by decide +kernel)) ggX5_known_X1_nextTo
theorem dX5_known_0 : decode cX5_known 0 = .ok (.aload_n 0, 1) := by decide +kernel
theorem dX5_known_1 : decode cX5_known 1 = .ok (.getfield 12, 3) := by decide +kernel
theorem dX5_known_4 : decode cX5_known 4 = .ok (.iload_n 1, 1) := by decide +kernel
theorem dX5_known_5 : decode cX5_known 5 = .ok (.invokevirtual 154, 3) := by decide +kernel
theorem dX5_known_8 : decode cX5_known 8 = .ok (.ifCond .ne 5, 3) := by decide +kernel
theorem dX5_known_11 : decode cX5_known 11 = .ok (.iconst (-1), 1) := by decide +kernel
theorem dX5_known_12 : decode cX5_known 12 = .ok (.ireturn, 1) := by decide +kernel
theorem dX5_known_13 : decode cX5_known 13 = .ok (.aload_n 0, 1) := by decide +kernel
theorem dX5_known_14 : decode cX5_known 14 = .ok (.getfield 21, 3) := by decide +kernel
theorem dX5_known_17 : decode cX5_known 17 = .ok (.iload_n 1, 1) := by decide +kernel
theorem dX5_known_18 : decode cX5_known 18 = .ok (.invokevirtual 215, 3) := by decide +kernel
theorem dX5_known_21 : decode cX5_known 21 = .ok (.ifCond .le 6, 3) := by decide +kernel
theorem dX5_known_24 : decode cX5_known 24 = .ok (.bipush (-3), 2) := by decide +kernel
theorem dX5_known_26 : decode cX5_known 26 = .ok (.ireturn, 1) := by decide +kernel
theorem dX5_known_27 : decode cX5_known 27 = .ok (.iconst 0, 1) := by decide +kernel
theorem dX5_known_28 : decode cX5_known 28 = .ok (.istore_n 2, 1) := by decide +kernel
theorem dX5_known_29 : decode cX5_known 29 = .ok (.iconst 0, 1) := by decide +kernel
theorem dX5_known_30 : decode cX5_known 30 = .ok (.istore_n 3, 1) := by decide +kernel
theorem dX5_known_31 : decode cX5_known 31 = .ok (.iload_n 3, 1) := by decide +kernel
theorem dX5_known_32 : decode cX5_known 32 = .ok (.iconst 4, 1) := by decide +kernel
theorem dX5_known_33 : decode cX5_known 33 = .ok (.if_icmp .ge 43, 3) := by decide +kernel
theorem dX5_known_36 : decode cX5_known 36 = .ok (.aload_n 0, 1) := by decide +kernel
theorem dX5_known_37 : decode cX5_known 37 = .ok (.getfield 12, 3) := by decide +kernel
theorem dX5_known_40 : decode cX5_known 40 = .ok (.iload_n 1, 1) := by decide +kernel
theorem dX5_known_41 : decode cX5_known 41 = .ok (.iload_n 3, 1) := by decide +kernel
theorem dX5_known_42 : decode cX5_known 42 = .ok (.invokevirtual 132, 3) := by decide +kernel
theorem dX5_known_45 : decode cX5_known 45 = .ok (.ifCond .ne 25, 3) := by decide +kernel
theorem dX5_known_48 : decode cX5_known 48 = .ok (.aload_n 0, 1) := by decide +kernel
theorem dX5_known_49 : decode cX5_known 49 = .ok (.getfield 21, 3) := by decide +kernel
theorem dX5_known_52 : decode cX5_known 52 = .ok (.aload_n 0, 1) := by decide +kernel
theorem dX5_known_53 : decode cX5_known 53 = .ok (.getfield 12, 3) := by decide +kernel
theorem dX5_known_56 : decode cX5_known 56 = .ok (.iload_n 1, 1) := by decide +kernel
theorem dX5_known_57 : decode cX5_known 57 = .ok (.iload_n 3, 1) := by decide +kernel
theorem dX5_known_58 : decode cX5_known 58 = .ok (.invokevirtual 218, 3) := by decide +kernel
theorem dX5_known_61 : decode cX5_known 61 = .ok (.invokevirtual 215, 3) := by decide +kernel
theorem dX5_known_64 : decode cX5_known 64 = .ok (.ifCond .le 6, 3) := by decide +kernel
theorem dX5_known_67 : decode cX5_known 67 = .ok (.iinc 2 5, 3) := by decide +kernel
theorem dX5_known_70 : decode cX5_known 70 = .ok (.iinc 3 1, 3) := by decide +kernel
theorem dX5_known_73 : decode cX5_known 73 = .ok (.goto (-42), 3) := by decide +kernel
theorem dX5_known_76 : decode cX5_known 76 = .ok (.iload_n 2, 1) := by decide +kernel
theorem dX5_known_77 : decode cX5_known 77 = .ok (.ireturn, 1) := by decide +kernel
theorem dX5_isHeightPlace_0 : decode cX5_isHeightPlace 0 = .ok (.iload_n 0, 1) := by decide +kernel
theorem dX5_isHeightPlace_1 : decode cX5_isHeightPlace 1 = .ok (.ifCond .lt 12, 3) := by decide +kernel
theorem dX5_isHeightPlace_4 : decode cX5_isHeightPlace 4 = .ok (.iload_n 0, 1) := by decide +kernel
theorem dX5_isHeightPlace_5 : decode cX5_isHeightPlace 5 = .ok (.iconst 5, 1) := by decide +kernel
theorem dX5_isHeightPlace_6 : decode cX5_isHeightPlace 6 = .ok (.if_icmp .ge 7, 3) := by decide +kernel
theorem dX5_isHeightPlace_9 : decode cX5_isHeightPlace 9 = .ok (.iconst 1, 1) := by decide +kernel
theorem dX5_isHeightPlace_10 : decode cX5_isHeightPlace 10 = .ok (.goto 4, 3) := by decide +kernel
theorem dX5_isHeightPlace_13 : decode cX5_isHeightPlace 13 = .ok (.iconst 0, 1) := by decide +kernel
theorem dX5_isHeightPlace_14 : decode cX5_isHeightPlace 14 = .ok (.ireturn, 1) := by decide +kernel
theorem dX5_isHeight_0 : decode cX5_isHeight 0 = .ok (.iload_n 0, 1) := by decide +kernel
theorem dX5_isHeight_1 : decode cX5_isHeight 1 = .ok (.bipush (-9), 2) := by decide +kernel
theorem dX5_isHeight_3 : decode cX5_isHeight 3 = .ok (.if_icmp .lt 13, 3) := by decide +kernel
theorem dX5_isHeight_6 : decode cX5_isHeight 6 = .ok (.iload_n 0, 1) := by decide +kernel
theorem dX5_isHeight_7 : decode cX5_isHeight 7 = .ok (.bipush 9, 2) := by decide +kernel
theorem dX5_isHeight_9 : decode cX5_isHeight 9 = .ok (.if_icmp .gt 7, 3) := by decide +kernel
theorem dX5_isHeight_12 : decode cX5_isHeight 12 = .ok (.iconst 1, 1) := by decide +kernel
theorem dX5_isHeight_13 : decode cX5_isHeight 13 = .ok (.goto 4, 3) := by decide +kernel
theorem dX5_isHeight_16 : decode cX5_isHeight 16 = .ok (.iconst 0, 1) := by decide +kernel
theorem dX5_isHeight_17 : decode cX5_isHeight 17 = .ok (.ireturn, 1) := by decide +kernel
theorem dX5_isMissingWhat_0 : decode cX5_isMissingWhat 0 = .ok (.iload_n 0, 1) := by decide +kernel
theorem dX5_isMissingWhat_1 : decode cX5_isMissingWhat 1 = .ok (.ifCond .eq 8, 3) := by decide +kernel
theorem dX5_isMissingWhat_4 : decode cX5_isMissingWhat 4 = .ok (.iload_n 0, 1) := by decide +kernel
theorem dX5_isMissingWhat_5 : decode cX5_isMissingWhat 5 = .ok (.iconst 1, 1) := by decide +kernel
theorem dX5_isMissingWhat_6 : decode cX5_isMissingWhat 6 = .ok (.if_icmp .ne 7, 3) := by decide +kernel
theorem dX5_isMissingWhat_9 : decode cX5_isMissingWhat 9 = .ok (.iconst 1, 1) := by decide +kernel
theorem dX5_isMissingWhat_10 : decode cX5_isMissingWhat 10 = .ok (.goto 4, 3) := by decide +kernel
theorem dX5_isMissingWhat_13 : decode cX5_isMissingWhat 13 = .ok (.iconst 0, 1) := by decide +kernel
theorem dX5_isMissingWhat_14 : decode cX5_isMissingWhat 14 = .ok (.ireturn, 1) := by decide +kernel
set_option maxRecDepth 20000 in
theorem ggX5_isMissing_X2_timesOf : GoodIn wsX5_isMissing wsX2_timesOf := goodIn_r _ [6, 7, 8, 16, 17, 18] (by decide +kernel) (by decide +kernel)
set_option maxRecDepth 20000 in
theorem gX5_isMissing_X2_timesOf : GoodIn wsX5_isMissing (wsV RX5 215 RX2 yX2_timesOf wsX2_timesOf) := goodIn_app (goodIn_of _ (by decide +kernel)) ggX5_isMissing_X2_timesOf
theorem dX5_isMissing_0 : decode cX5_isMissing 0 = .ok (.aload_n 0, 1) := by decide +kernel
theorem dX5_isMissing_1 : decode cX5_isMissing 1 = .ok (.getfield 21, 3) := by decide +kernel
theorem dX5_isMissing_4 : decode cX5_isMissing 4 = .ok (.iload_n 2, 1) := by decide +kernel
theorem dX5_isMissing_5 : decode cX5_isMissing 5 = .ok (.invokevirtual 215, 3) := by decide +kernel
theorem dX5_isMissing_8 : decode cX5_isMissing 8 = .ok (.istore_n 3, 1) := by decide +kernel
theorem dX5_isMissing_9 : decode cX5_isMissing 9 = .ok (.iload_n 1, 1) := by decide +kernel
theorem dX5_isMissing_10 : decode cX5_isMissing 10 = .ok (.ifCond .ne 15, 3) := by decide +kernel
theorem dX5_isMissing_13 : decode cX5_isMissing 13 = .ok (.iload_n 3, 1) := by decide +kernel
theorem dX5_isMissing_14 : decode cX5_isMissing 14 = .ok (.ifCond .ne 7, 3) := by decide +kernel
theorem dX5_isMissing_17 : decode cX5_isMissing 17 = .ok (.iconst 1, 1) := by decide +kernel
theorem dX5_isMissing_18 : decode cX5_isMissing 18 = .ok (.goto 17, 3) := by decide +kernel
theorem dX5_isMissing_21 : decode cX5_isMissing 21 = .ok (.iconst 0, 1) := by decide +kernel
theorem dX5_isMissing_22 : decode cX5_isMissing 22 = .ok (.goto 13, 3) := by decide +kernel
theorem dX5_isMissing_25 : decode cX5_isMissing 25 = .ok (.iload_n 3, 1) := by decide +kernel
theorem dX5_isMissing_26 : decode cX5_isMissing 26 = .ok (.iconst 1, 1) := by decide +kernel
theorem dX5_isMissing_27 : decode cX5_isMissing 27 = .ok (.if_icmp .le 7, 3) := by decide +kernel
theorem dX5_isMissing_30 : decode cX5_isMissing 30 = .ok (.iconst 1, 1) := by decide +kernel
theorem dX5_isMissing_31 : decode cX5_isMissing 31 = .ok (.goto 4, 3) := by decide +kernel
theorem dX5_isMissing_34 : decode cX5_isMissing 34 = .ok (.iconst 0, 1) := by decide +kernel
theorem dX5_isMissing_35 : decode cX5_isMissing 35 = .ok (.ireturn, 1) := by decide +kernel
set_option maxRecDepth 20000 in
theorem ggX5_countMissing_X1_pieces : GoodIn wsX5_countMissing wsX1_pieces := goodIn_r _ [6, 7, 8, 29, 30, 31, 32] (by decide +kernel) (by decide +kernel)
set_option maxRecDepth 20000 in
theorem gX5_countMissing_X1_pieces : GoodIn wsX5_countMissing (wsV RX5 166 RX1 yX1_pieces wsX1_pieces) := goodIn_app (goodIn_of _ (by decide +kernel)) ggX5_countMissing_X1_pieces
set_option maxRecDepth 20000 in
theorem ggX5_countMissing_X5_isMissing : GoodIn wsX5_countMissing wsX5_isMissing := goodIn_r _ [13, 14, 15, 16, 17, 18, 19, 20, 21, 22, 23, 24, 25, 26, 27, 28, 33, 34, 35] (by decide +kernel) (by decide +kernel)
set_option maxRecDepth 20000 in
theorem gX5_countMissing_X5_isMissing : GoodIn wsX5_countMissing (wsV RX5 258 RX5 yX5_isMissing wsX5_isMissing) := goodIn_app (goodIn_of _ (by decide +kernel)) ggX5_countMissing_X5_isMissing
theorem dX5_countMissing_0 : decode cX5_countMissing 0 = .ok (.iconst 0, 1) := by decide +kernel
theorem dX5_countMissing_1 : decode cX5_countMissing 1 = .ok (.istore_n 2, 1) := by decide +kernel
theorem dX5_countMissing_2 : decode cX5_countMissing 2 = .ok (.iconst 0, 1) := by decide +kernel
theorem dX5_countMissing_3 : decode cX5_countMissing 3 = .ok (.istore_n 3, 1) := by decide +kernel
theorem dX5_countMissing_4 : decode cX5_countMissing 4 = .ok (.iload_n 3, 1) := by decide +kernel
theorem dX5_countMissing_5 : decode cX5_countMissing 5 = .ok (.aload_n 0, 1) := by decide +kernel
theorem dX5_countMissing_6 : decode cX5_countMissing 6 = .ok (.getfield 12, 3) := by decide +kernel
theorem dX5_countMissing_9 : decode cX5_countMissing 9 = .ok (.invokevirtual 166, 3) := by decide +kernel
theorem dX5_countMissing_12 : decode cX5_countMissing 12 = .ok (.if_icmp .ge 21, 3) := by decide +kernel
theorem dX5_countMissing_15 : decode cX5_countMissing 15 = .ok (.aload_n 0, 1) := by decide +kernel
theorem dX5_countMissing_16 : decode cX5_countMissing 16 = .ok (.iload_n 1, 1) := by decide +kernel
theorem dX5_countMissing_17 : decode cX5_countMissing 17 = .ok (.iload_n 3, 1) := by decide +kernel
theorem dX5_countMissing_18 : decode cX5_countMissing 18 = .ok (.invokevirtual 258, 3) := by decide +kernel
theorem dX5_countMissing_21 : decode cX5_countMissing 21 = .ok (.ifCond .eq 6, 3) := by decide +kernel
theorem dX5_countMissing_24 : decode cX5_countMissing 24 = .ok (.iinc 2 1, 3) := by decide +kernel
theorem dX5_countMissing_27 : decode cX5_countMissing 27 = .ok (.iinc 3 1, 3) := by decide +kernel
theorem dX5_countMissing_30 : decode cX5_countMissing 30 = .ok (.goto (-26), 3) := by decide +kernel
theorem dX5_countMissing_33 : decode cX5_countMissing 33 = .ok (.iload_n 2, 1) := by decide +kernel
theorem dX5_countMissing_34 : decode cX5_countMissing 34 = .ok (.ireturn, 1) := by decide +kernel
set_option maxRecDepth 20000 in
theorem ggX5_missingPiece_X1_pieces : GoodIn wsX5_missingPiece wsX1_pieces := goodIn_r _ [6, 7, 8, 29, 30, 31, 32] (by decide +kernel) (by decide +kernel)
set_option maxRecDepth 20000 in
theorem gX5_missingPiece_X1_pieces : GoodIn wsX5_missingPiece (wsV RX5 166 RX1 yX1_pieces wsX1_pieces) := goodIn_app (goodIn_of _ (by decide +kernel)) ggX5_missingPiece_X1_pieces
set_option maxRecDepth 20000 in
theorem ggX5_missingPiece_X5_isMissing : GoodIn wsX5_missingPiece wsX5_isMissing := goodIn_r _ [13, 14, 15, 16, 17, 18, 19, 20, 21, 22, 23, 24, 25, 26, 27, 28, 33, 34, 35] (by decide +kernel) (by decide +kernel)
set_option maxRecDepth 20000 in
theorem gX5_missingPiece_X5_isMissing : GoodIn wsX5_missingPiece (wsV RX5 258 RX5 yX5_isMissing wsX5_isMissing) := goodIn_app (goodIn_of _ (by decide +kernel)) ggX5_missingPiece_X5_isMissing
theorem dX5_missingPiece_0 : decode cX5_missingPiece 0 = .ok (.iconst 0, 1) := by decide +kernel
theorem dX5_missingPiece_1 : decode cX5_missingPiece 1 = .ok (.istore_n 3, 1) := by decide +kernel
theorem dX5_missingPiece_2 : decode cX5_missingPiece 2 = .ok (.iconst 0, 1) := by decide +kernel
theorem dX5_missingPiece_3 : decode cX5_missingPiece 3 = .ok (.istore 4, 2) := by decide +kernel
theorem dX5_missingPiece_5 : decode cX5_missingPiece 5 = .ok (.iload 4, 2) := by decide +kernel
theorem dX5_missingPiece_7 : decode cX5_missingPiece 7 = .ok (.aload_n 0, 1) := by decide +kernel
theorem dX5_missingPiece_8 : decode cX5_missingPiece 8 = .ok (.getfield 12, 3) := by decide +kernel
theorem dX5_missingPiece_11 : decode cX5_missingPiece 11 = .ok (.invokevirtual 166, 3) := by decide +kernel
theorem dX5_missingPiece_14 : decode cX5_missingPiece 14 = .ok (.if_icmp .ge 30, 3) := by decide +kernel
theorem dX5_missingPiece_17 : decode cX5_missingPiece 17 = .ok (.aload_n 0, 1) := by decide +kernel
theorem dX5_missingPiece_18 : decode cX5_missingPiece 18 = .ok (.iload_n 1, 1) := by decide +kernel
theorem dX5_missingPiece_19 : decode cX5_missingPiece 19 = .ok (.iload 4, 2) := by decide +kernel
theorem dX5_missingPiece_21 : decode cX5_missingPiece 21 = .ok (.invokevirtual 258, 3) := by decide +kernel
theorem dX5_missingPiece_24 : decode cX5_missingPiece 24 = .ok (.ifCond .eq 14, 3) := by decide +kernel
theorem dX5_missingPiece_27 : decode cX5_missingPiece 27 = .ok (.iload_n 3, 1) := by decide +kernel
theorem dX5_missingPiece_28 : decode cX5_missingPiece 28 = .ok (.iload_n 2, 1) := by decide +kernel
theorem dX5_missingPiece_29 : decode cX5_missingPiece 29 = .ok (.if_icmp .ne 6, 3) := by decide +kernel
theorem dX5_missingPiece_32 : decode cX5_missingPiece 32 = .ok (.iload 4, 2) := by decide +kernel
theorem dX5_missingPiece_34 : decode cX5_missingPiece 34 = .ok (.ireturn, 1) := by decide +kernel
theorem dX5_missingPiece_35 : decode cX5_missingPiece 35 = .ok (.iinc 3 1, 3) := by decide +kernel
theorem dX5_missingPiece_38 : decode cX5_missingPiece 38 = .ok (.iinc 4 1, 3) := by decide +kernel
theorem dX5_missingPiece_41 : decode cX5_missingPiece 41 = .ok (.goto (-36), 3) := by decide +kernel
theorem dX5_missingPiece_44 : decode cX5_missingPiece 44 = .ok (.iconst (-1), 1) := by decide +kernel
theorem dX5_missingPiece_45 : decode cX5_missingPiece 45 = .ok (.ireturn, 1) := by decide +kernel
