set_option maxRecDepth 20000 in
theorem ggX5_init_X1_init : GoodIn wsX5_init wsX1_init := goodIn_r _ [26, 27, 2, 3, 28, 29, 30, 31, 32, 33, 6, 34, 35, 36, 37, 38, 39, 40, 41, 42, 43, 44, 70, 71, 72, 73] (by decide +kernel) (by decide +kernel)
set_option maxRecDepth 20000 in
theorem gX5_init_X1_init : GoodIn wsX5_init (wsX1_init) := ggX5_init_X1_init
set_option maxRecDepth 20000 in
theorem ggX5_init_X2_init : GoodIn wsX5_init wsX2_init := goodIn_r _ [46, 47, 2, 3, 28, 48, 49, 81, 82, 83] (by decide +kernel) (by decide +kernel)
set_option maxRecDepth 20000 in
theorem gX5_init_X2_init_n20 : GoodIn wsX5_init (wsX2_init) := ggX5_init_X2_init
set_option maxRecDepth 20000 in
theorem ggX5_init_X3_init : GoodIn wsX5_init wsX3_init := goodIn_r _ [52, 53, 2, 3, 28, 54, 55, 56, 57, 58, 59, 60, 61, 62, 84, 85, 86, 87, 88, 89, 90, 91, 92, 93, 94, 95, 96] (by decide +kernel) (by decide +kernel)
set_option maxRecDepth 20000 in
theorem gX5_init_X3_init : GoodIn wsX5_init (wsX3_init) := ggX5_init_X3_init
set_option maxRecDepth 20000 in
theorem ggX5_init_X0_init : GoodIn wsX5_init wsX0_init := goodIn_r _ [64, 65, 2, 3] (by decide +kernel) (by decide +kernel)
set_option maxRecDepth 20000 in
theorem gX5_init_X0_init_n36 : GoodIn wsX5_init (wsX0_init) := ggX5_init_X0_init
set_option maxRecDepth 20000 in
theorem ggX5_init_X4_init : GoodIn wsX5_init wsX4_init := goodIn_r _ [67, 68, 2, 3, 28, 69, 98, 99, 100, 101] (by decide +kernel) (by decide +kernel)
set_option maxRecDepth 20000 in
theorem gX5_init_X4_init_n47 : GoodIn wsX5_init (wsX4_init) := ggX5_init_X4_init
theorem dX5_init_0 : decode cX5_init 0 = .ok (.aload_n 0, 1) := by decide +kernel
theorem dX5_init_1 : decode cX5_init 1 = .ok (.invokespecial 3, 3) := by decide +kernel
theorem dX5_init_4 : decode cX5_init 4 = .ok (.aload_n 0, 1) := by decide +kernel
theorem dX5_init_5 : decode cX5_init 5 = .ok (.new 9, 3) := by decide +kernel
theorem dX5_init_8 : decode cX5_init 8 = .ok (.dup, 1) := by decide +kernel
theorem dX5_init_9 : decode cX5_init 9 = .ok (.invokespecial 11, 3) := by decide +kernel
theorem dX5_init_12 : decode cX5_init 12 = .ok (.putfield 12, 3) := by decide +kernel
theorem dX5_init_15 : decode cX5_init 15 = .ok (.aload_n 0, 1) := by decide +kernel
theorem dX5_init_16 : decode cX5_init 16 = .ok (.new 18, 3) := by decide +kernel
theorem dX5_init_19 : decode cX5_init 19 = .ok (.dup, 1) := by decide +kernel
theorem dX5_init_20 : decode cX5_init 20 = .ok (.invokespecial 20, 3) := by decide +kernel
theorem dX5_init_23 : decode cX5_init 23 = .ok (.putfield 21, 3) := by decide +kernel
theorem dX5_init_26 : decode cX5_init 26 = .ok (.aload_n 0, 1) := by decide +kernel
theorem dX5_init_27 : decode cX5_init 27 = .ok (.new 25, 3) := by decide +kernel
theorem dX5_init_30 : decode cX5_init 30 = .ok (.dup, 1) := by decide +kernel
theorem dX5_init_31 : decode cX5_init 31 = .ok (.aload_n 0, 1) := by decide +kernel
theorem dX5_init_32 : decode cX5_init 32 = .ok (.getfield 12, 3) := by decide +kernel
theorem dX5_init_35 : decode cX5_init 35 = .ok (.aload_n 0, 1) := by decide +kernel
theorem dX5_init_36 : decode cX5_init 36 = .ok (.getfield 21, 3) := by decide +kernel
theorem dX5_init_39 : decode cX5_init 39 = .ok (.invokespecial 27, 3) := by decide +kernel
theorem dX5_init_42 : decode cX5_init 42 = .ok (.putfield 30, 3) := by decide +kernel
theorem dX5_init_45 : decode cX5_init 45 = .ok (.aload_n 0, 1) := by decide +kernel
theorem dX5_init_46 : decode cX5_init 46 = .ok (.new 34, 3) := by decide +kernel
theorem dX5_init_49 : decode cX5_init 49 = .ok (.dup, 1) := by decide +kernel
theorem dX5_init_50 : decode cX5_init 50 = .ok (.invokespecial 36, 3) := by decide +kernel
theorem dX5_init_53 : decode cX5_init 53 = .ok (.putfield 37, 3) := by decide +kernel
theorem dX5_init_56 : decode cX5_init 56 = .ok (.aload_n 0, 1) := by decide +kernel
theorem dX5_init_57 : decode cX5_init 57 = .ok (.iconst 4, 1) := by decide +kernel
theorem dX5_init_58 : decode cX5_init 58 = .ok (.anewarray 41, 3) := by decide +kernel
theorem dX5_init_61 : decode cX5_init 61 = .ok (.putfield 43, 3) := by decide +kernel
theorem dX5_init_64 : decode cX5_init 64 = .ok (.iconst 0, 1) := by decide +kernel
theorem dX5_init_65 : decode cX5_init 65 = .ok (.istore_n 1, 1) := by decide +kernel
theorem dX5_init_66 : decode cX5_init 66 = .ok (.iload_n 1, 1) := by decide +kernel
theorem dX5_init_67 : decode cX5_init 67 = .ok (.aload_n 0, 1) := by decide +kernel
theorem dX5_init_68 : decode cX5_init 68 = .ok (.getfield 43, 3) := by decide +kernel
theorem dX5_init_71 : decode cX5_init 71 = .ok (.arraylength, 1) := by decide +kernel
theorem dX5_init_72 : decode cX5_init 72 = .ok (.if_icmp .ge 22, 3) := by decide +kernel
theorem dX5_init_75 : decode cX5_init 75 = .ok (.aload_n 0, 1) := by decide +kernel
theorem dX5_init_76 : decode cX5_init 76 = .ok (.getfield 43, 3) := by decide +kernel
theorem dX5_init_79 : decode cX5_init 79 = .ok (.iload_n 1, 1) := by decide +kernel
theorem dX5_init_80 : decode cX5_init 80 = .ok (.new 41, 3) := by decide +kernel
theorem dX5_init_83 : decode cX5_init 83 = .ok (.dup, 1) := by decide +kernel
theorem dX5_init_84 : decode cX5_init 84 = .ok (.invokespecial 47, 3) := by decide +kernel
theorem dX5_init_87 : decode cX5_init 87 = .ok (.aastore, 1) := by decide +kernel
theorem dX5_init_88 : decode cX5_init 88 = .ok (.iinc 1 1, 3) := by decide +kernel
theorem dX5_init_91 : decode cX5_init 91 = .ok (.goto (-25), 3) := by decide +kernel
theorem dX5_init_94 : decode cX5_init 94 = .ok (.return_, 1) := by decide +kernel
set_option maxRecDepth 20000 in
theorem ggX5_picture_X1_cutAnew : GoodIn wsX5_picture wsX1_cutAnew := goodIn_r _ [8, 9, 10, 11, 12, 13, 14, 7, 15, 16, 17, 18, 19, 20, 44, 45, 46, 47] (by decide +kernel) (by decide +kernel)
set_option maxRecDepth 20000 in
theorem gX5_picture_X1_cutAnew : GoodIn wsX5_picture (wsV RX5 48 RX1 yX1_cutAnew wsX1_cutAnew) := goodIn_app (goodIn_of _ (by decide +kernel)) ggX5_picture_X1_cutAnew
set_option maxRecDepth 20000 in
theorem ggX5_picture_X2_clearAll : GoodIn wsX5_picture wsX2_clearAll := goodIn_r _ [25, 26, 48, 49, 50] (by decide +kernel) (by decide +kernel)
set_option maxRecDepth 20000 in
theorem gX5_picture_X2_clearAll : GoodIn wsX5_picture (wsV RX5 52 RX2 yX2_clearAll wsX2_clearAll) := goodIn_app (goodIn_of _ (by decide +kernel)) ggX5_picture_X2_clearAll
set_option maxRecDepth 20000 in
theorem ggX5_picture_X3_forgetJoined : GoodIn wsX5_picture wsX3_forgetJoined := goodIn_r _ [31, 32, 51, 52, 53, 54, 55, 56, 57, 58, 59, 60, 61, 62, 63] (by decide +kernel) (by decide +kernel)
set_option maxRecDepth 20000 in
theorem gX5_picture_X3_forgetJoined : GoodIn wsX5_picture (wsV RX5 55 RX3 yX3_forgetJoined wsX3_forgetJoined) := goodIn_app (goodIn_of _ (by decide +kernel)) ggX5_picture_X3_forgetJoined
set_option maxRecDepth 20000 in
theorem ggX5_picture_X1_sides : GoodIn wsX5_picture wsX1_sides := goodIn_r _ [36, 9, 10, 44, 45, 46, 47] (by decide +kernel) (by decide +kernel)
set_option maxRecDepth 20000 in
theorem gX5_picture_X1_sides : GoodIn wsX5_picture (wsV RX5 58 RX1 yX1_sides wsX1_sides) := goodIn_app (goodIn_of _ (by decide +kernel)) ggX5_picture_X1_sides
theorem dX5_picture_0 : decode cX5_picture 0 = .ok (.iload_n 1, 1) := by decide +kernel
theorem dX5_picture_1 : decode cX5_picture 1 = .ok (.iconst 1, 1) := by decide +kernel
theorem dX5_picture_2 : decode cX5_picture 2 = .ok (.if_icmp .lt 18, 3) := by decide +kernel
theorem dX5_picture_5 : decode cX5_picture 5 = .ok (.iload_n 1, 1) := by decide +kernel
theorem dX5_picture_6 : decode cX5_picture 6 = .ok (.iconst 5, 1) := by decide +kernel
theorem dX5_picture_7 : decode cX5_picture 7 = .ok (.if_icmp .gt 13, 3) := by decide +kernel
theorem dX5_picture_10 : decode cX5_picture 10 = .ok (.iload_n 2, 1) := by decide +kernel
theorem dX5_picture_11 : decode cX5_picture 11 = .ok (.iconst 1, 1) := by decide +kernel
theorem dX5_picture_12 : decode cX5_picture 12 = .ok (.if_icmp .lt 8, 3) := by decide +kernel
theorem dX5_picture_15 : decode cX5_picture 15 = .ok (.iload_n 2, 1) := by decide +kernel
theorem dX5_picture_16 : decode cX5_picture 16 = .ok (.iconst 5, 1) := by decide +kernel
theorem dX5_picture_17 : decode cX5_picture 17 = .ok (.if_icmp .le 6, 3) := by decide +kernel
theorem dX5_picture_20 : decode cX5_picture 20 = .ok (.bipush (-2), 2) := by decide +kernel
theorem dX5_picture_22 : decode cX5_picture 22 = .ok (.ireturn, 1) := by decide +kernel
theorem dX5_picture_23 : decode cX5_picture 23 = .ok (.aload_n 0, 1) := by decide +kernel
theorem dX5_picture_24 : decode cX5_picture 24 = .ok (.getfield 12, 3) := by decide +kernel
theorem dX5_picture_27 : decode cX5_picture 27 = .ok (.iload_n 1, 1) := by decide +kernel
theorem dX5_picture_28 : decode cX5_picture 28 = .ok (.iload_n 2, 1) := by decide +kernel
theorem dX5_picture_29 : decode cX5_picture 29 = .ok (.invokevirtual 48, 3) := by decide +kernel
theorem dX5_picture_32 : decode cX5_picture 32 = .ok (.aload_n 0, 1) := by decide +kernel
theorem dX5_picture_33 : decode cX5_picture 33 = .ok (.getfield 21, 3) := by decide +kernel
theorem dX5_picture_36 : decode cX5_picture 36 = .ok (.invokevirtual 52, 3) := by decide +kernel
theorem dX5_picture_39 : decode cX5_picture 39 = .ok (.aload_n 0, 1) := by decide +kernel
theorem dX5_picture_40 : decode cX5_picture 40 = .ok (.getfield 30, 3) := by decide +kernel
theorem dX5_picture_43 : decode cX5_picture 43 = .ok (.invokevirtual 55, 3) := by decide +kernel
theorem dX5_picture_46 : decode cX5_picture 46 = .ok (.aload_n 0, 1) := by decide +kernel
theorem dX5_picture_47 : decode cX5_picture 47 = .ok (.getfield 12, 3) := by decide +kernel
theorem dX5_picture_50 : decode cX5_picture 50 = .ok (.invokevirtual 58, 3) := by decide +kernel
theorem dX5_picture_53 : decode cX5_picture 53 = .ok (.ireturn, 1) := by decide +kernel
set_option maxRecDepth 20000 in
theorem ggX5_make_X0_begin : GoodIn wsX5_make wsX0_begin := goodIn_r _ [8, 9, 43] (by decide +kernel) (by decide +kernel)
set_option maxRecDepth 20000 in
theorem gX5_make_X0_begin : GoodIn wsX5_make (wsV RX5 62 RX0 yX0_begin wsX0_begin) := goodIn_app (goodIn_of _ (by decide +kernel)) ggX5_make_X0_begin
set_option maxRecDepth 20000 in
theorem ggX5_make_X1_sides : GoodIn wsX5_make wsX1_sides := goodIn_r _ [14, 15, 16, 44, 45, 46, 47] (by decide +kernel) (by decide +kernel)
set_option maxRecDepth 20000 in
theorem gX5_make_X1_sides : GoodIn wsX5_make (wsV RX5 58 RX1 yX1_sides wsX1_sides) := goodIn_app (goodIn_of _ (by decide +kernel)) ggX5_make_X1_sides
set_option maxRecDepth 20000 in
theorem ggX5_make_X0_below : GoodIn wsX5_make wsX0_below := goodIn_r _ [20, 9, 21, 22, 23, 24, 43] (by decide +kernel) (by decide +kernel)
set_option maxRecDepth 20000 in
theorem gX5_make_X0_below : GoodIn wsX5_make (wsV RX5 66 RX0 yX0_below wsX0_below) := goodIn_app (goodIn_of _ (by decide +kernel)) ggX5_make_X0_below
set_option maxRecDepth 20000 in
theorem ggX5_make_X1_setHeight : GoodIn wsX5_make wsX1_setHeight := goodIn_r _ [28, 29, 44, 45, 46, 47] (by decide +kernel) (by decide +kernel)
set_option maxRecDepth 20000 in
theorem gX5_make_X1_setHeight : GoodIn wsX5_make (wsV RX5 70 RX1 yX1_setHeight wsX1_setHeight) := goodIn_app (goodIn_of _ (by decide +kernel)) ggX5_make_X1_setHeight
set_option maxRecDepth 20000 in
theorem ggX5_make_X3_forgetJoined : GoodIn wsX5_make wsX3_forgetJoined := goodIn_r _ [34, 35, 48, 49, 50, 51, 52, 53, 54, 55, 56, 57, 58, 59, 60] (by decide +kernel) (by decide +kernel)
set_option maxRecDepth 20000 in
theorem gX5_make_X3_forgetJoined : GoodIn wsX5_make (wsV RX5 55 RX3 yX3_forgetJoined wsX3_forgetJoined) := goodIn_app (goodIn_of _ (by decide +kernel)) ggX5_make_X3_forgetJoined
theorem dX5_make_0 : decode cX5_make 0 = .ok (.aload_n 0, 1) := by decide +kernel
theorem dX5_make_1 : decode cX5_make 1 = .ok (.getfield 37, 3) := by decide +kernel
theorem dX5_make_4 : decode cX5_make 4 = .ok (.lload_n 1, 1) := by decide +kernel
theorem dX5_make_5 : decode cX5_make 5 = .ok (.invokevirtual 62, 3) := by decide +kernel
theorem dX5_make_8 : decode cX5_make 8 = .ok (.iconst 0, 1) := by decide +kernel
theorem dX5_make_9 : decode cX5_make 9 = .ok (.istore_n 3, 1) := by decide +kernel
theorem dX5_make_10 : decode cX5_make 10 = .ok (.iload_n 3, 1) := by decide +kernel
theorem dX5_make_11 : decode cX5_make 11 = .ok (.aload_n 0, 1) := by decide +kernel
theorem dX5_make_12 : decode cX5_make 12 = .ok (.getfield 12, 3) := by decide +kernel
theorem dX5_make_15 : decode cX5_make 15 = .ok (.invokevirtual 58, 3) := by decide +kernel
theorem dX5_make_18 : decode cX5_make 18 = .ok (.if_icmp .ge 46, 3) := by decide +kernel
theorem dX5_make_21 : decode cX5_make 21 = .ok (.iconst 0, 1) := by decide +kernel
theorem dX5_make_22 : decode cX5_make 22 = .ok (.istore 4, 2) := by decide +kernel
theorem dX5_make_24 : decode cX5_make 24 = .ok (.iload 4, 2) := by decide +kernel
theorem dX5_make_26 : decode cX5_make 26 = .ok (.iconst 5, 1) := by decide +kernel
theorem dX5_make_27 : decode cX5_make 27 = .ok (.if_icmp .ge 31, 3) := by decide +kernel
theorem dX5_make_30 : decode cX5_make 30 = .ok (.aload_n 0, 1) := by decide +kernel
theorem dX5_make_31 : decode cX5_make 31 = .ok (.getfield 12, 3) := by decide +kernel
theorem dX5_make_34 : decode cX5_make 34 = .ok (.iload_n 3, 1) := by decide +kernel
theorem dX5_make_35 : decode cX5_make 35 = .ok (.iload 4, 2) := by decide +kernel
theorem dX5_make_37 : decode cX5_make 37 = .ok (.aload_n 0, 1) := by decide +kernel
theorem dX5_make_38 : decode cX5_make 38 = .ok (.getfield 37, 3) := by decide +kernel
theorem dX5_make_41 : decode cX5_make 41 = .ok (.bipush 19, 2) := by decide +kernel
theorem dX5_make_43 : decode cX5_make 43 = .ok (.invokevirtual 66, 3) := by decide +kernel
theorem dX5_make_46 : decode cX5_make 46 = .ok (.bipush 9, 2) := by decide +kernel
theorem dX5_make_48 : decode cX5_make 48 = .ok (.isub, 1) := by decide +kernel
theorem dX5_make_49 : decode cX5_make 49 = .ok (.invokevirtual 70, 3) := by decide +kernel
theorem dX5_make_52 : decode cX5_make 52 = .ok (.iinc 4 1, 3) := by decide +kernel
theorem dX5_make_55 : decode cX5_make 55 = .ok (.goto (-31), 3) := by decide +kernel
theorem dX5_make_58 : decode cX5_make 58 = .ok (.iinc 3 1, 3) := by decide +kernel
theorem dX5_make_61 : decode cX5_make 61 = .ok (.goto (-51), 3) := by decide +kernel
theorem dX5_make_64 : decode cX5_make 64 = .ok (.aload_n 0, 1) := by decide +kernel
theorem dX5_make_65 : decode cX5_make 65 = .ok (.getfield 30, 3) := by decide +kernel
theorem dX5_make_68 : decode cX5_make 68 = .ok (.invokevirtual 55, 3) := by decide +kernel
theorem dX5_make_71 : decode cX5_make 71 = .ok (.iconst 1, 1) := by decide +kernel
theorem dX5_make_72 : decode cX5_make 72 = .ok (.ireturn, 1) := by decide +kernel
set_option maxRecDepth 20000 in
theorem ggX5_bend_X1_hasSide : GoodIn wsX5_bend wsX1_hasSide := goodIn_r _ [8, 9, 10, 11, 7, 12, 13, 14, 44, 45, 46, 47] (by decide +kernel) (by decide +kernel)
set_option maxRecDepth 20000 in
theorem gX5_bend_X1_hasSide : GoodIn wsX5_bend (wsV RX5 74 RX1 yX1_hasSide wsX1_hasSide) := goodIn_app (goodIn_of _ (by decide +kernel)) ggX5_bend_X1_hasSide
set_option maxRecDepth 20000 in
theorem ggX5_bend_X5_isHeightPlace : GoodIn wsX5_bend wsX5_isHeightPlace := goodIn_r _ [18] (by decide +kernel) (by decide +kernel)
set_option maxRecDepth 20000 in
theorem gX5_bend_X5_isHeightPlace : GoodIn wsX5_bend (va_wsS RX5 78 yX5_isHeightPlace wsX5_isHeightPlace) := goodIn_app (goodIn_of _ (by decide +kernel)) ggX5_bend_X5_isHeightPlace
set_option maxRecDepth 20000 in
theorem ggX5_bend_X5_isHeight : GoodIn wsX5_bend wsX5_isHeight := goodIn_r _ [21] (by decide +kernel) (by decide +kernel)
set_option maxRecDepth 20000 in
theorem gX5_bend_X5_isHeight : GoodIn wsX5_bend (va_wsS RX5 81 yX5_isHeight wsX5_isHeight) := goodIn_app (goodIn_of _ (by decide +kernel)) ggX5_bend_X5_isHeight
set_option maxRecDepth 20000 in
theorem ggX5_bend_X1_heightAt : GoodIn wsX5_bend wsX1_heightAt := goodIn_r _ [25, 26, 44, 45, 46, 47] (by decide +kernel) (by decide +kernel)
set_option maxRecDepth 20000 in
theorem gX5_bend_X1_heightAt : GoodIn wsX5_bend (wsV RX5 86 RX1 yX1_heightAt wsX1_heightAt) := goodIn_app (goodIn_of _ (by decide +kernel)) ggX5_bend_X1_heightAt
set_option maxRecDepth 20000 in
theorem ggX5_bend_X1_setHeight : GoodIn wsX5_bend wsX1_setHeight := goodIn_r _ [30, 26, 44, 45, 46, 47] (by decide +kernel) (by decide +kernel)
set_option maxRecDepth 20000 in
theorem gX5_bend_X1_setHeight : GoodIn wsX5_bend (wsV RX5 70 RX1 yX1_setHeight wsX1_setHeight) := goodIn_app (goodIn_of _ (by decide +kernel)) ggX5_bend_X1_setHeight
set_option maxRecDepth 20000 in
theorem ggX5_bend_X3_forgetJoined : GoodIn wsX5_bend wsX3_forgetJoined := goodIn_r _ [35, 36, 48, 49, 50, 51, 52, 53, 54, 55, 56, 57, 58, 59, 60] (by decide +kernel) (by decide +kernel)
set_option maxRecDepth 20000 in
theorem gX5_bend_X3_forgetJoined : GoodIn wsX5_bend (wsV RX5 55 RX3 yX3_forgetJoined wsX3_forgetJoined) := goodIn_app (goodIn_of _ (by decide +kernel)) ggX5_bend_X3_forgetJoined
theorem dX5_bend_0 : decode cX5_bend 0 = .ok (.aload_n 0, 1) := by decide +kernel
theorem dX5_bend_1 : decode cX5_bend 1 = .ok (.getfield 12, 3) := by decide +kernel
theorem dX5_bend_4 : decode cX5_bend 4 = .ok (.iload_n 1, 1) := by decide +kernel
theorem dX5_bend_5 : decode cX5_bend 5 = .ok (.invokevirtual 74, 3) := by decide +kernel
theorem dX5_bend_8 : decode cX5_bend 8 = .ok (.ifCond .eq 17, 3) := by decide +kernel
theorem dX5_bend_11 : decode cX5_bend 11 = .ok (.iload_n 2, 1) := by decide +kernel
theorem dX5_bend_12 : decode cX5_bend 12 = .ok (.invokestatic 78, 3) := by decide +kernel
theorem dX5_bend_15 : decode cX5_bend 15 = .ok (.ifCond .eq 10, 3) := by decide +kernel
theorem dX5_bend_18 : decode cX5_bend 18 = .ok (.iload_n 3, 1) := by decide +kernel
theorem dX5_bend_19 : decode cX5_bend 19 = .ok (.invokestatic 81, 3) := by decide +kernel
theorem dX5_bend_22 : decode cX5_bend 22 = .ok (.ifCond .ne 7, 3) := by decide +kernel
theorem dX5_bend_25 : decode cX5_bend 25 = .ok (.ldc2_w 84, 3) := by decide +kernel
theorem dX5_bend_28 : decode cX5_bend 28 = .ok (.lreturn, 1) := by decide +kernel
theorem dX5_bend_29 : decode cX5_bend 29 = .ok (.aload_n 0, 1) := by decide +kernel
theorem dX5_bend_30 : decode cX5_bend 30 = .ok (.getfield 12, 3) := by decide +kernel
theorem dX5_bend_33 : decode cX5_bend 33 = .ok (.iload_n 1, 1) := by decide +kernel
theorem dX5_bend_34 : decode cX5_bend 34 = .ok (.iload_n 2, 1) := by decide +kernel
theorem dX5_bend_35 : decode cX5_bend 35 = .ok (.iconst 0, 1) := by decide +kernel
theorem dX5_bend_36 : decode cX5_bend 36 = .ok (.invokevirtual 86, 3) := by decide +kernel
theorem dX5_bend_39 : decode cX5_bend 39 = .ok (.istore 4, 2) := by decide +kernel
theorem dX5_bend_41 : decode cX5_bend 41 = .ok (.aload_n 0, 1) := by decide +kernel
theorem dX5_bend_42 : decode cX5_bend 42 = .ok (.getfield 12, 3) := by decide +kernel
theorem dX5_bend_45 : decode cX5_bend 45 = .ok (.iload_n 1, 1) := by decide +kernel
theorem dX5_bend_46 : decode cX5_bend 46 = .ok (.iload_n 2, 1) := by decide +kernel
theorem dX5_bend_47 : decode cX5_bend 47 = .ok (.iload_n 3, 1) := by decide +kernel
theorem dX5_bend_48 : decode cX5_bend 48 = .ok (.invokevirtual 70, 3) := by decide +kernel
theorem dX5_bend_51 : decode cX5_bend 51 = .ok (.aload_n 0, 1) := by decide +kernel
theorem dX5_bend_52 : decode cX5_bend 52 = .ok (.getfield 30, 3) := by decide +kernel
theorem dX5_bend_55 : decode cX5_bend 55 = .ok (.invokevirtual 55, 3) := by decide +kernel
theorem dX5_bend_58 : decode cX5_bend 58 = .ok (.iload 4, 2) := by decide +kernel
theorem dX5_bend_60 : decode cX5_bend 60 = .ok (.i2l, 1) := by decide +kernel
theorem dX5_bend_61 : decode cX5_bend 61 = .ok (.lreturn, 1) := by decide +kernel
set_option maxRecDepth 20000 in
theorem ggX5_height_X1_hasSide : GoodIn wsX5_height wsX1_hasSide := goodIn_r _ [7, 8, 9, 10, 6, 11, 12, 13, 30, 31, 32, 33] (by decide +kernel) (by decide +kernel)
set_option maxRecDepth 20000 in
theorem gX5_height_X1_hasSide : GoodIn wsX5_height (wsV RX5 74 RX1 yX1_hasSide wsX1_hasSide) := goodIn_app (goodIn_of _ (by decide +kernel)) ggX5_height_X1_hasSide
set_option maxRecDepth 20000 in
theorem ggX5_height_X5_isHeightPlace : GoodIn wsX5_height wsX5_isHeightPlace := goodIn_r _ [17] (by decide +kernel) (by decide +kernel)
set_option maxRecDepth 20000 in
theorem gX5_height_X5_isHeightPlace : GoodIn wsX5_height (va_wsS RX5 78 yX5_isHeightPlace wsX5_isHeightPlace) := goodIn_app (goodIn_of _ (by decide +kernel)) ggX5_height_X5_isHeightPlace
set_option maxRecDepth 20000 in
theorem ggX5_height_X1_heightAt : GoodIn wsX5_height wsX1_heightAt := goodIn_r _ [21, 22, 30, 31, 32, 33] (by decide +kernel) (by decide +kernel)
set_option maxRecDepth 20000 in
theorem gX5_height_X1_heightAt : GoodIn wsX5_height (wsV RX5 86 RX1 yX1_heightAt wsX1_heightAt) := goodIn_app (goodIn_of _ (by decide +kernel)) ggX5_height_X1_heightAt
theorem dX5_height_0 : decode cX5_height 0 = .ok (.aload_n 0, 1) := by decide +kernel
theorem dX5_height_1 : decode cX5_height 1 = .ok (.getfield 12, 3) := by decide +kernel
theorem dX5_height_4 : decode cX5_height 4 = .ok (.iload_n 1, 1) := by decide +kernel
theorem dX5_height_5 : decode cX5_height 5 = .ok (.invokevirtual 74, 3) := by decide +kernel
theorem dX5_height_8 : decode cX5_height 8 = .ok (.ifCond .eq 10, 3) := by decide +kernel
theorem dX5_height_11 : decode cX5_height 11 = .ok (.iload_n 2, 1) := by decide +kernel
theorem dX5_height_12 : decode cX5_height 12 = .ok (.invokestatic 78, 3) := by decide +kernel
theorem dX5_height_15 : decode cX5_height 15 = .ok (.ifCond .ne 7, 3) := by decide +kernel
theorem dX5_height_18 : decode cX5_height 18 = .ok (.ldc2_w 84, 3) := by decide +kernel
theorem dX5_height_21 : decode cX5_height 21 = .ok (.lreturn, 1) := by decide +kernel
theorem dX5_height_22 : decode cX5_height 22 = .ok (.aload_n 0, 1) := by decide +kernel
theorem dX5_height_23 : decode cX5_height 23 = .ok (.getfield 12, 3) := by decide +kernel
theorem dX5_height_26 : decode cX5_height 26 = .ok (.iload_n 1, 1) := by decide +kernel
theorem dX5_height_27 : decode cX5_height 27 = .ok (.iload_n 2, 1) := by decide +kernel
theorem dX5_height_28 : decode cX5_height 28 = .ok (.iconst 0, 1) := by decide +kernel
theorem dX5_height_29 : decode cX5_height 29 = .ok (.invokevirtual 86, 3) := by decide +kernel
theorem dX5_height_32 : decode cX5_height 32 = .ok (.i2l, 1) := by decide +kernel
theorem dX5_height_33 : decode cX5_height 33 = .ok (.lreturn, 1) := by decide +kernel
set_option maxRecDepth 20000 in
theorem ggX5_shape_X5_isSheet : GoodIn wsX5_shape wsX5_isSheet := goodIn_r _ [9] (by decide +kernel) (by decide +kernel)
set_option maxRecDepth 20000 in
theorem gX5_shape_X5_isSheet : GoodIn wsX5_shape (va_wsS RX5 94 yX5_isSheet wsX5_isSheet) := goodIn_app (goodIn_of _ (by decide +kernel)) ggX5_shape_X5_isSheet
set_option maxRecDepth 20000 in
theorem ggX5_shape_X1_hasSide : GoodIn wsX5_shape wsX1_hasSide := goodIn_r _ [14, 15, 16, 17, 13, 18, 19, 20, 79, 80, 81, 82] (by decide +kernel) (by decide +kernel)
set_option maxRecDepth 20000 in
theorem gX5_shape_X1_hasSide : GoodIn wsX5_shape (wsV RX5 74 RX1 yX1_hasSide wsX1_hasSide) := goodIn_app (goodIn_of _ (by decide +kernel)) ggX5_shape_X1_hasSide
set_option maxRecDepth 20000 in
theorem ggX5_shape_X5_isLane : GoodIn wsX5_shape wsX5_isLane := goodIn_r _ [23] (by decide +kernel) (by decide +kernel)
set_option maxRecDepth 20000 in
theorem gX5_shape_X5_isLane : GoodIn wsX5_shape (va_wsS RX5 97 yX5_isLane wsX5_isLane) := goodIn_app (goodIn_of _ (by decide +kernel)) ggX5_shape_X5_isLane
set_option maxRecDepth 20000 in
theorem ggX5_shape_X4_isOfOther : GoodIn wsX5_shape wsX4_isOfOther := goodIn_r _ [28, 29, 30, 83, 84, 85, 86] (by decide +kernel) (by decide +kernel)
set_option maxRecDepth 20000 in
theorem gX5_shape_X4_isOfOther : GoodIn wsX5_shape (wsV RX5 100 RX4 yX4_isOfOther wsX4_isOfOther) := goodIn_app (goodIn_of _ (by decide +kernel)) ggX5_shape_X4_isOfOther
set_option maxRecDepth 20000 in
theorem ggX5_shape_X5_come : GoodIn wsX5_shape wsX5_come := goodIn_r _ [34, 1, 72, 73, 74, 75, 76, 77, 78] (by decide +kernel) (by decide +kernel)
set_option maxRecDepth 20000 in
theorem gX5_shape_X5_come : GoodIn wsX5_shape (wsV RX5 103 RX5 yX5_come wsX5_come) := goodIn_app (goodIn_of _ (by decide +kernel)) ggX5_shape_X5_come
set_option maxRecDepth 20000 in
theorem ggX5_shape_X4_isThere : GoodIn wsX5_shape wsX4_isThere := goodIn_r _ [38, 29, 83, 84, 85, 86] (by decide +kernel) (by decide +kernel)
set_option maxRecDepth 20000 in
theorem gX5_shape_X4_isThere : GoodIn wsX5_shape (wsV RX5 106 RX4 yX4_isThere wsX4_isThere) := goodIn_app (goodIn_of _ (by decide +kernel)) ggX5_shape_X4_isThere
set_option maxRecDepth 20000 in
theorem ggX5_shape_X4_holds : GoodIn wsX5_shape wsX4_holds := goodIn_r _ [42, 43, 83, 84, 85, 86] (by decide +kernel) (by decide +kernel)
set_option maxRecDepth 20000 in
theorem gX5_shape_X4_holds : GoodIn wsX5_shape (wsV RX5 112 RX4 yX4_holds wsX4_holds) := goodIn_app (goodIn_of _ (by decide +kernel)) ggX5_shape_X4_holds
set_option maxRecDepth 20000 in
theorem ggX5_shape_X1_sides : GoodIn wsX5_shape wsX1_sides := goodIn_r _ [18, 19, 20, 79, 80, 81, 82] (by decide +kernel) (by decide +kernel)
set_option maxRecDepth 20000 in
theorem gX5_shape_X1_sides : GoodIn wsX5_shape (wsV RX5 58 RX1 yX1_sides wsX1_sides) := goodIn_app (goodIn_of _ (by decide +kernel)) ggX5_shape_X1_sides
set_option maxRecDepth 20000 in
theorem ggX5_shape_X5_areHeights : GoodIn wsX5_shape wsX5_areHeights := goodIn_r _ [47, 48, 49, 50, 27, 51, 52, 53, 40, 41, 42, 43, 54, 55, 8, 56, 83, 84, 85, 86] (by decide +kernel) (by decide +kernel)
set_option maxRecDepth 20000 in
theorem gX5_shape_X5_areHeights : GoodIn wsX5_shape (va_wsS RX5 116 yX5_areHeights wsX5_areHeights) := goodIn_app (goodIn_of _ (by decide +kernel)) ggX5_shape_X5_areHeights
set_option maxRecDepth 20000 in
theorem ggX5_shape_X5_shapeFrom : GoodIn wsX5_shape wsX5_shapeFrom := goodIn_r _ [60, 2, 48, 49, 50, 27, 51, 52, 53, 40, 41, 42, 43, 61, 62, 63, 13, 64, 65, 72, 73, 74, 75, 76, 77, 78, 83, 84, 85, 86, 79, 80, 81, 82] (by decide +kernel) (by decide +kernel)
set_option maxRecDepth 20000 in
theorem gX5_shape_X5_shapeFrom : GoodIn wsX5_shape (wsV RX5 120 RX5 yX5_shapeFrom wsX5_shapeFrom) := goodIn_app (goodIn_of _ (by decide +kernel)) ggX5_shape_X5_shapeFrom
set_option maxRecDepth 20000 in
theorem ggX5_shape_X3_forgetJoined : GoodIn wsX5_shape wsX3_forgetJoined := goodIn_r _ [70, 71, 87, 88, 89, 90, 91, 92, 93, 94, 95, 96, 97, 98, 99] (by decide +kernel) (by decide +kernel)
set_option maxRecDepth 20000 in
theorem gX5_shape_X3_forgetJoined : GoodIn wsX5_shape (wsV RX5 55 RX3 yX3_forgetJoined wsX3_forgetJoined) := goodIn_app (goodIn_of _ (by decide +kernel)) ggX5_shape_X3_forgetJoined
theorem dX5_shape_0 : decode cX5_shape 0 = .ok (.aload_n 0, 1) := by decide +kernel
theorem dX5_shape_1 : decode cX5_shape 1 = .ok (.iconst 0, 1) := by decide +kernel
theorem dX5_shape_2 : decode cX5_shape 2 = .ok (.putfield 90, 3) := by decide +kernel
theorem dX5_shape_5 : decode cX5_shape 5 = .ok (.iload_n 1, 1) := by decide +kernel
theorem dX5_shape_6 : decode cX5_shape 6 = .ok (.invokestatic 94, 3) := by decide +kernel
theorem dX5_shape_9 : decode cX5_shape 9 = .ok (.ifCond .eq 15, 3) := by decide +kernel
theorem dX5_shape_12 : decode cX5_shape 12 = .ok (.aload_n 0, 1) := by decide +kernel
theorem dX5_shape_13 : decode cX5_shape 13 = .ok (.getfield 12, 3) := by decide +kernel
theorem dX5_shape_16 : decode cX5_shape 16 = .ok (.iload 5, 2) := by decide +kernel
theorem dX5_shape_18 : decode cX5_shape 18 = .ok (.invokevirtual 74, 3) := by decide +kernel
theorem dX5_shape_21 : decode cX5_shape 21 = .ok (.ifCond .ne 5, 3) := by decide +kernel
theorem dX5_shape_24 : decode cX5_shape 24 = .ok (.iconst (-1), 1) := by decide +kernel
theorem dX5_shape_25 : decode cX5_shape 25 = .ok (.ireturn, 1) := by decide +kernel
theorem dX5_shape_26 : decode cX5_shape 26 = .ok (.iload_n 2, 1) := by decide +kernel
theorem dX5_shape_27 : decode cX5_shape 27 = .ok (.invokestatic 97, 3) := by decide +kernel
theorem dX5_shape_30 : decode cX5_shape 30 = .ok (.ifCond .ne 6, 3) := by decide +kernel
theorem dX5_shape_33 : decode cX5_shape 33 = .ok (.bipush (-2), 2) := by decide +kernel
theorem dX5_shape_35 : decode cX5_shape 35 = .ok (.ireturn, 1) := by decide +kernel
theorem dX5_shape_36 : decode cX5_shape 36 = .ok (.aload_n 0, 1) := by decide +kernel
theorem dX5_shape_37 : decode cX5_shape 37 = .ok (.getfield 43, 3) := by decide +kernel
theorem dX5_shape_40 : decode cX5_shape 40 = .ok (.iload_n 1, 1) := by decide +kernel
theorem dX5_shape_41 : decode cX5_shape 41 = .ok (.aaload, 1) := by decide +kernel
theorem dX5_shape_42 : decode cX5_shape 42 = .ok (.astore 6, 2) := by decide +kernel
theorem dX5_shape_44 : decode cX5_shape 44 = .ok (.aload 6, 2) := by decide +kernel
theorem dX5_shape_46 : decode cX5_shape 46 = .ok (.iload_n 2, 1) := by decide +kernel
theorem dX5_shape_47 : decode cX5_shape 47 = .ok (.invokevirtual 100, 3) := by decide +kernel
theorem dX5_shape_50 : decode cX5_shape 50 = .ok (.ifCond .eq 9, 3) := by decide +kernel
theorem dX5_shape_53 : decode cX5_shape 53 = .ok (.aload_n 0, 1) := by decide +kernel
theorem dX5_shape_54 : decode cX5_shape 54 = .ok (.iconst 2, 1) := by decide +kernel
theorem dX5_shape_55 : decode cX5_shape 55 = .ok (.invokevirtual 103, 3) := by decide +kernel
theorem dX5_shape_58 : decode cX5_shape 58 = .ok (.ireturn, 1) := by decide +kernel
theorem dX5_shape_59 : decode cX5_shape 59 = .ok (.aload 6, 2) := by decide +kernel
theorem dX5_shape_61 : decode cX5_shape 61 = .ok (.invokevirtual 106, 3) := by decide +kernel
theorem dX5_shape_64 : decode cX5_shape 64 = .ok (.ifCond .ne 9, 3) := by decide +kernel
theorem dX5_shape_67 : decode cX5_shape 67 = .ok (.aload_n 0, 1) := by decide +kernel
theorem dX5_shape_68 : decode cX5_shape 68 = .ok (.iconst 1, 1) := by decide +kernel
theorem dX5_shape_69 : decode cX5_shape 69 = .ok (.invokevirtual 103, 3) := by decide +kernel
theorem dX5_shape_72 : decode cX5_shape 72 = .ok (.ireturn, 1) := by decide +kernel
theorem dX5_shape_73 : decode cX5_shape 73 = .ok (.iload 4, 2) := by decide +kernel
theorem dX5_shape_75 : decode cX5_shape 75 = .ok (.ifCond .ge 9, 3) := by decide +kernel
theorem dX5_shape_78 : decode cX5_shape 78 = .ok (.aload_n 0, 1) := by decide +kernel
theorem dX5_shape_79 : decode cX5_shape 79 = .ok (.iconst 4, 1) := by decide +kernel
theorem dX5_shape_80 : decode cX5_shape 80 = .ok (.invokevirtual 103, 3) := by decide +kernel
theorem dX5_shape_83 : decode cX5_shape 83 = .ok (.ireturn, 1) := by decide +kernel
theorem dX5_shape_84 : decode cX5_shape 84 = .ok (.aload 6, 2) := by decide +kernel
theorem dX5_shape_86 : decode cX5_shape 86 = .ok (.iload_n 3, 1) := by decide +kernel
theorem dX5_shape_87 : decode cX5_shape 87 = .ok (.iload 4, 2) := by decide +kernel
theorem dX5_shape_89 : decode cX5_shape 89 = .ok (.i2l, 1) := by decide +kernel
theorem dX5_shape_90 : decode cX5_shape 90 = .ok (.ldc2_w 110, 3) := by decide +kernel
theorem dX5_shape_93 : decode cX5_shape 93 = .ok (.lmul, 1) := by decide +kernel
theorem dX5_shape_94 : decode cX5_shape 94 = .ok (.invokevirtual 112, 3) := by decide +kernel
theorem dX5_shape_97 : decode cX5_shape 97 = .ok (.ifCond .eq 22, 3) := by decide +kernel
theorem dX5_shape_100 : decode cX5_shape 100 = .ok (.iload 5, 2) := by decide +kernel
theorem dX5_shape_102 : decode cX5_shape 102 = .ok (.i2l, 1) := by decide +kernel
theorem dX5_shape_103 : decode cX5_shape 103 = .ok (.iload 4, 2) := by decide +kernel
theorem dX5_shape_105 : decode cX5_shape 105 = .ok (.i2l, 1) := by decide +kernel
theorem dX5_shape_106 : decode cX5_shape 106 = .ok (.ladd, 1) := by decide +kernel
theorem dX5_shape_107 : decode cX5_shape 107 = .ok (.aload_n 0, 1) := by decide +kernel
theorem dX5_shape_108 : decode cX5_shape 108 = .ok (.getfield 12, 3) := by decide +kernel
theorem dX5_shape_111 : decode cX5_shape 111 = .ok (.invokevirtual 58, 3) := by decide +kernel
theorem dX5_shape_114 : decode cX5_shape 114 = .ok (.i2l, 1) := by decide +kernel
theorem dX5_shape_115 : decode cX5_shape 115 = .ok (.lcmp, 1) := by decide +kernel
theorem dX5_shape_116 : decode cX5_shape 116 = .ok (.ifCond .le 9, 3) := by decide +kernel
theorem dX5_shape_119 : decode cX5_shape 119 = .ok (.aload_n 0, 1) := by decide +kernel
theorem dX5_shape_120 : decode cX5_shape 120 = .ok (.iconst 3, 1) := by decide +kernel
theorem dX5_shape_121 : decode cX5_shape 121 = .ok (.invokevirtual 103, 3) := by decide +kernel
theorem dX5_shape_124 : decode cX5_shape 124 = .ok (.ireturn, 1) := by decide +kernel
theorem dX5_shape_125 : decode cX5_shape 125 = .ok (.aload 6, 2) := by decide +kernel
theorem dX5_shape_127 : decode cX5_shape 127 = .ok (.iload_n 3, 1) := by decide +kernel
theorem dX5_shape_128 : decode cX5_shape 128 = .ok (.iload 4, 2) := by decide +kernel
theorem dX5_shape_130 : decode cX5_shape 130 = .ok (.iconst 5, 1) := by decide +kernel
theorem dX5_shape_131 : decode cX5_shape 131 = .ok (.imul, 1) := by decide +kernel
theorem dX5_shape_132 : decode cX5_shape 132 = .ok (.invokestatic 116, 3) := by decide +kernel
theorem dX5_shape_135 : decode cX5_shape 135 = .ok (.ifCond .ne 6, 3) := by decide +kernel
theorem dX5_shape_138 : decode cX5_shape 138 = .ok (.bipush (-2), 2) := by decide +kernel
theorem dX5_shape_140 : decode cX5_shape 140 = .ok (.ireturn, 1) := by decide +kernel
theorem dX5_shape_141 : decode cX5_shape 141 = .ok (.aload_n 0, 1) := by decide +kernel
theorem dX5_shape_142 : decode cX5_shape 142 = .ok (.aload 6, 2) := by decide +kernel
theorem dX5_shape_144 : decode cX5_shape 144 = .ok (.iload_n 3, 1) := by decide +kernel
theorem dX5_shape_145 : decode cX5_shape 145 = .ok (.iload 4, 2) := by decide +kernel
theorem dX5_shape_147 : decode cX5_shape 147 = .ok (.iload 5, 2) := by decide +kernel
theorem dX5_shape_149 : decode cX5_shape 149 = .ok (.invokevirtual 120, 3) := by decide +kernel
theorem dX5_shape_152 : decode cX5_shape 152 = .ok (.aload_n 0, 1) := by decide +kernel
theorem dX5_shape_153 : decode cX5_shape 153 = .ok (.getfield 30, 3) := by decide +kernel
theorem dX5_shape_156 : decode cX5_shape 156 = .ok (.invokevirtual 55, 3) := by decide +kernel
theorem dX5_shape_159 : decode cX5_shape 159 = .ok (.iload 4, 2) := by decide +kernel
theorem dX5_shape_161 : decode cX5_shape 161 = .ok (.ireturn, 1) := by decide +kernel
set_option maxRecDepth 20000 in
theorem ggX5_sideOf_X1_hasEdge : GoodIn wsX5_sideOf wsX1_hasEdge := goodIn_r _ [6, 7, 8, 9, 5, 10, 11, 12, 13, 14, 15, 16, 29, 30, 31, 32] (by decide +kernel) (by decide +kernel)
set_option maxRecDepth 20000 in
theorem gX5_sideOf_X1_hasEdge : GoodIn wsX5_sideOf (wsV RX5 124 RX1 yX1_hasEdge wsX1_hasEdge) := goodIn_app (goodIn_of _ (by decide +kernel)) ggX5_sideOf_X1_hasEdge
set_option maxRecDepth 20000 in
theorem ggX5_sideOf_X1_sideAt : GoodIn wsX5_sideOf wsX1_sideAt := goodIn_r _ [20, 21, 29, 30, 31, 32] (by decide +kernel) (by decide +kernel)
set_option maxRecDepth 20000 in
theorem gX5_sideOf_X1_sideAt : GoodIn wsX5_sideOf (wsV RX5 128 RX1 yX1_sideAt wsX1_sideAt) := goodIn_app (goodIn_of _ (by decide +kernel)) ggX5_sideOf_X1_sideAt
theorem dX5_sideOf_0 : decode cX5_sideOf 0 = .ok (.aload_n 0, 1) := by decide +kernel
theorem dX5_sideOf_1 : decode cX5_sideOf 1 = .ok (.getfield 12, 3) := by decide +kernel
theorem dX5_sideOf_4 : decode cX5_sideOf 4 = .ok (.iload_n 1, 1) := by decide +kernel
theorem dX5_sideOf_5 : decode cX5_sideOf 5 = .ok (.iload_n 2, 1) := by decide +kernel
theorem dX5_sideOf_6 : decode cX5_sideOf 6 = .ok (.invokevirtual 124, 3) := by decide +kernel
theorem dX5_sideOf_9 : decode cX5_sideOf 9 = .ok (.ifCond .ne 5, 3) := by decide +kernel
theorem dX5_sideOf_12 : decode cX5_sideOf 12 = .ok (.iconst (-1), 1) := by decide +kernel
theorem dX5_sideOf_13 : decode cX5_sideOf 13 = .ok (.ireturn, 1) := by decide +kernel
theorem dX5_sideOf_14 : decode cX5_sideOf 14 = .ok (.aload_n 0, 1) := by decide +kernel
theorem dX5_sideOf_15 : decode cX5_sideOf 15 = .ok (.getfield 12, 3) := by decide +kernel
theorem dX5_sideOf_18 : decode cX5_sideOf 18 = .ok (.iload_n 1, 1) := by decide +kernel
theorem dX5_sideOf_19 : decode cX5_sideOf 19 = .ok (.iload_n 2, 1) := by decide +kernel
theorem dX5_sideOf_20 : decode cX5_sideOf 20 = .ok (.invokevirtual 128, 3) := by decide +kernel
theorem dX5_sideOf_23 : decode cX5_sideOf 23 = .ok (.ireturn, 1) := by decide +kernel
set_option maxRecDepth 20000 in
theorem ggX5_edge_X1_hasEdge : GoodIn wsX5_edge wsX1_hasEdge := goodIn_r _ [7, 8, 9, 10, 6, 11, 12, 13, 14, 15, 16, 17, 47, 48, 49, 50] (by decide +kernel) (by decide +kernel)
set_option maxRecDepth 20000 in
theorem gX5_edge_X1_hasEdge : GoodIn wsX5_edge (wsV RX5 124 RX1 yX1_hasEdge wsX1_hasEdge) := goodIn_app (goodIn_of _ (by decide +kernel)) ggX5_edge_X1_hasEdge
set_option maxRecDepth 20000 in
theorem ggX5_edge_X5_isHeightPlace : GoodIn wsX5_edge wsX5_isHeightPlace := goodIn_r _ [21] (by decide +kernel) (by decide +kernel)
set_option maxRecDepth 20000 in
theorem gX5_edge_X5_isHeightPlace : GoodIn wsX5_edge (va_wsS RX5 78 yX5_isHeightPlace wsX5_isHeightPlace) := goodIn_app (goodIn_of _ (by decide +kernel)) ggX5_edge_X5_isHeightPlace
set_option maxRecDepth 20000 in
theorem ggX5_edge_X1_isFlat : GoodIn wsX5_edge wsX1_isFlat := goodIn_r _ [25, 26, 27, 28, 6, 29, 30, 47, 48, 49, 50] (by decide +kernel) (by decide +kernel)
set_option maxRecDepth 20000 in
theorem gX5_edge_X1_isFlat : GoodIn wsX5_edge (wsV RX5 132 RX1 yX1_isFlat wsX1_isFlat) := goodIn_app (goodIn_of _ (by decide +kernel)) ggX5_edge_X1_isFlat
set_option maxRecDepth 20000 in
theorem ggX5_edge_X1_edgeHeight : GoodIn wsX5_edge wsX1_edgeHeight := goodIn_r _ [34, 26, 27, 28, 6, 29, 30, 35, 36, 37, 38, 39, 47, 48, 49, 50] (by decide +kernel) (by decide +kernel)
set_option maxRecDepth 20000 in
theorem gX5_edge_X1_edgeHeight : GoodIn wsX5_edge (wsV RX5 135 RX1 yX1_edgeHeight wsX1_edgeHeight) := goodIn_app (goodIn_of _ (by decide +kernel)) ggX5_edge_X1_edgeHeight
theorem dX5_edge_0 : decode cX5_edge 0 = .ok (.aload_n 0, 1) := by decide +kernel
theorem dX5_edge_1 : decode cX5_edge 1 = .ok (.getfield 12, 3) := by decide +kernel
theorem dX5_edge_4 : decode cX5_edge 4 = .ok (.iload_n 1, 1) := by decide +kernel
theorem dX5_edge_5 : decode cX5_edge 5 = .ok (.iload_n 2, 1) := by decide +kernel
theorem dX5_edge_6 : decode cX5_edge 6 = .ok (.invokevirtual 124, 3) := by decide +kernel
theorem dX5_edge_9 : decode cX5_edge 9 = .ok (.ifCond .eq 22, 3) := by decide +kernel
theorem dX5_edge_12 : decode cX5_edge 12 = .ok (.iload_n 3, 1) := by decide +kernel
theorem dX5_edge_13 : decode cX5_edge 13 = .ok (.invokestatic 78, 3) := by decide +kernel
theorem dX5_edge_16 : decode cX5_edge 16 = .ok (.ifCond .eq 15, 3) := by decide +kernel
theorem dX5_edge_19 : decode cX5_edge 19 = .ok (.aload_n 0, 1) := by decide +kernel
theorem dX5_edge_20 : decode cX5_edge 20 = .ok (.getfield 12, 3) := by decide +kernel
theorem dX5_edge_23 : decode cX5_edge 23 = .ok (.iload_n 1, 1) := by decide +kernel
theorem dX5_edge_24 : decode cX5_edge 24 = .ok (.iload_n 2, 1) := by decide +kernel
theorem dX5_edge_25 : decode cX5_edge 25 = .ok (.invokevirtual 132, 3) := by decide +kernel
theorem dX5_edge_28 : decode cX5_edge 28 = .ok (.ifCond .eq 7, 3) := by decide +kernel
theorem dX5_edge_31 : decode cX5_edge 31 = .ok (.ldc2_w 84, 3) := by decide +kernel
theorem dX5_edge_34 : decode cX5_edge 34 = .ok (.lreturn, 1) := by decide +kernel
theorem dX5_edge_35 : decode cX5_edge 35 = .ok (.aload_n 0, 1) := by decide +kernel
theorem dX5_edge_36 : decode cX5_edge 36 = .ok (.getfield 12, 3) := by decide +kernel
theorem dX5_edge_39 : decode cX5_edge 39 = .ok (.iload_n 1, 1) := by decide +kernel
theorem dX5_edge_40 : decode cX5_edge 40 = .ok (.iload_n 2, 1) := by decide +kernel
theorem dX5_edge_41 : decode cX5_edge 41 = .ok (.iload_n 3, 1) := by decide +kernel
theorem dX5_edge_42 : decode cX5_edge 42 = .ok (.invokevirtual 135, 3) := by decide +kernel
theorem dX5_edge_45 : decode cX5_edge 45 = .ok (.i2l, 1) := by decide +kernel
theorem dX5_edge_46 : decode cX5_edge 46 = .ok (.lreturn, 1) := by decide +kernel
set_option maxRecDepth 20000 in
theorem ggX5_far_X1_hasEdge : GoodIn wsX5_far wsX1_hasEdge := goodIn_r _ [6, 7, 8, 9, 5, 10, 11, 12, 13, 14, 15, 16, 50, 51, 52, 53] (by decide +kernel) (by decide +kernel)
set_option maxRecDepth 20000 in
theorem gX5_far_X1_hasEdge : GoodIn wsX5_far (wsV RX5 124 RX1 yX1_hasEdge wsX1_hasEdge) := goodIn_app (goodIn_of _ (by decide +kernel)) ggX5_far_X1_hasEdge
set_option maxRecDepth 20000 in
theorem ggX5_far_X1_isFlat : GoodIn wsX5_far wsX1_isFlat := goodIn_r _ [20, 21, 22, 23, 5, 24, 25, 50, 51, 52, 53] (by decide +kernel) (by decide +kernel)
set_option maxRecDepth 20000 in
theorem gX5_far_X1_isFlat : GoodIn wsX5_far (wsV RX5 132 RX1 yX1_isFlat wsX1_isFlat) := goodIn_app (goodIn_of _ (by decide +kernel)) ggX5_far_X1_isFlat
set_option maxRecDepth 20000 in
theorem ggX5_far_X1_farness : GoodIn wsX5_far wsX1_farness := goodIn_r _ [29, 30, 31, 32, 33, 34, 35, 36, 5, 37, 21, 22, 23, 24, 25, 38, 39, 40, 41, 42, 50, 51, 52, 53] (by decide +kernel) (by decide +kernel)
set_option maxRecDepth 20000 in
theorem gX5_far_X1_farness : GoodIn wsX5_far (wsV RX5 138 RX1 yX1_farness wsX1_farness) := goodIn_app (goodIn_of _ (by decide +kernel)) ggX5_far_X1_farness
theorem dX5_far_0 : decode cX5_far 0 = .ok (.aload_n 0, 1) := by decide +kernel
theorem dX5_far_1 : decode cX5_far 1 = .ok (.getfield 12, 3) := by decide +kernel
theorem dX5_far_4 : decode cX5_far 4 = .ok (.iload_n 1, 1) := by decide +kernel
theorem dX5_far_5 : decode cX5_far 5 = .ok (.iload_n 2, 1) := by decide +kernel
theorem dX5_far_6 : decode cX5_far 6 = .ok (.invokevirtual 124, 3) := by decide +kernel
theorem dX5_far_9 : decode cX5_far 9 = .ok (.ifCond .eq 16, 3) := by decide +kernel
theorem dX5_far_12 : decode cX5_far 12 = .ok (.aload_n 0, 1) := by decide +kernel
theorem dX5_far_13 : decode cX5_far 13 = .ok (.getfield 12, 3) := by decide +kernel
theorem dX5_far_16 : decode cX5_far 16 = .ok (.iload_n 3, 1) := by decide +kernel
theorem dX5_far_17 : decode cX5_far 17 = .ok (.iload 4, 2) := by decide +kernel
theorem dX5_far_19 : decode cX5_far 19 = .ok (.invokevirtual 124, 3) := by decide +kernel
theorem dX5_far_22 : decode cX5_far 22 = .ok (.ifCond .ne 5, 3) := by decide +kernel
theorem dX5_far_25 : decode cX5_far 25 = .ok (.iconst (-1), 1) := by decide +kernel
theorem dX5_far_26 : decode cX5_far 26 = .ok (.ireturn, 1) := by decide +kernel
theorem dX5_far_27 : decode cX5_far 27 = .ok (.aload_n 0, 1) := by decide +kernel
theorem dX5_far_28 : decode cX5_far 28 = .ok (.getfield 12, 3) := by decide +kernel
theorem dX5_far_31 : decode cX5_far 31 = .ok (.iload_n 1, 1) := by decide +kernel
theorem dX5_far_32 : decode cX5_far 32 = .ok (.iload_n 2, 1) := by decide +kernel
theorem dX5_far_33 : decode cX5_far 33 = .ok (.invokevirtual 132, 3) := by decide +kernel
theorem dX5_far_36 : decode cX5_far 36 = .ok (.ifCond .ne 16, 3) := by decide +kernel
theorem dX5_far_39 : decode cX5_far 39 = .ok (.aload_n 0, 1) := by decide +kernel
theorem dX5_far_40 : decode cX5_far 40 = .ok (.getfield 12, 3) := by decide +kernel
theorem dX5_far_43 : decode cX5_far 43 = .ok (.iload_n 3, 1) := by decide +kernel
theorem dX5_far_44 : decode cX5_far 44 = .ok (.iload 4, 2) := by decide +kernel
theorem dX5_far_46 : decode cX5_far 46 = .ok (.invokevirtual 132, 3) := by decide +kernel
theorem dX5_far_49 : decode cX5_far 49 = .ok (.ifCond .eq 6, 3) := by decide +kernel
theorem dX5_far_52 : decode cX5_far 52 = .ok (.bipush (-3), 2) := by decide +kernel
theorem dX5_far_54 : decode cX5_far 54 = .ok (.ireturn, 1) := by decide +kernel
theorem dX5_far_55 : decode cX5_far 55 = .ok (.aload_n 0, 1) := by decide +kernel
theorem dX5_far_56 : decode cX5_far 56 = .ok (.getfield 12, 3) := by decide +kernel
theorem dX5_far_59 : decode cX5_far 59 = .ok (.iload_n 1, 1) := by decide +kernel
theorem dX5_far_60 : decode cX5_far 60 = .ok (.iload_n 2, 1) := by decide +kernel
theorem dX5_far_61 : decode cX5_far 61 = .ok (.iload_n 3, 1) := by decide +kernel
theorem dX5_far_62 : decode cX5_far 62 = .ok (.iload 4, 2) := by decide +kernel
theorem dX5_far_64 : decode cX5_far 64 = .ok (.invokevirtual 138, 3) := by decide +kernel
theorem dX5_far_67 : decode cX5_far 67 = .ok (.ireturn, 1) := by decide +kernel
set_option maxRecDepth 20000 in
theorem ggX5_kind_X1_hasSide : GoodIn wsX5_kind wsX1_hasSide := goodIn_r _ [6, 7, 8, 9, 5, 10, 11, 12, 37, 38, 39, 40] (by decide +kernel) (by decide +kernel)
set_option maxRecDepth 20000 in
theorem gX5_kind_X1_hasSide : GoodIn wsX5_kind (wsV RX5 74 RX1 yX1_hasSide wsX1_hasSide) := goodIn_app (goodIn_of _ (by decide +kernel)) ggX5_kind_X1_hasSide
set_option maxRecDepth 20000 in
theorem ggX5_kind_X1_kindAt : GoodIn wsX5_kind wsX1_kindAt := goodIn_r _ [16, 17, 18, 19, 5, 20, 21, 22, 23, 24, 25, 7, 8, 9, 10, 11, 12, 26, 27, 28, 29, 37, 38, 39, 40] (by decide +kernel) (by decide +kernel)
set_option maxRecDepth 20000 in
theorem gX5_kind_X1_kindAt : GoodIn wsX5_kind (wsV RX5 142 RX1 yX1_kindAt wsX1_kindAt) := goodIn_app (goodIn_of _ (by decide +kernel)) ggX5_kind_X1_kindAt
theorem dX5_kind_0 : decode cX5_kind 0 = .ok (.aload_n 0, 1) := by decide +kernel
theorem dX5_kind_1 : decode cX5_kind 1 = .ok (.getfield 12, 3) := by decide +kernel
theorem dX5_kind_4 : decode cX5_kind 4 = .ok (.iload_n 1, 1) := by decide +kernel
theorem dX5_kind_5 : decode cX5_kind 5 = .ok (.invokevirtual 74, 3) := by decide +kernel
theorem dX5_kind_8 : decode cX5_kind 8 = .ok (.ifCond .ne 5, 3) := by decide +kernel
theorem dX5_kind_11 : decode cX5_kind 11 = .ok (.iconst (-1), 1) := by decide +kernel
theorem dX5_kind_12 : decode cX5_kind 12 = .ok (.ireturn, 1) := by decide +kernel
theorem dX5_kind_13 : decode cX5_kind 13 = .ok (.aload_n 0, 1) := by decide +kernel
theorem dX5_kind_14 : decode cX5_kind 14 = .ok (.getfield 12, 3) := by decide +kernel
theorem dX5_kind_17 : decode cX5_kind 17 = .ok (.iload_n 1, 1) := by decide +kernel
theorem dX5_kind_18 : decode cX5_kind 18 = .ok (.invokevirtual 142, 3) := by decide +kernel
theorem dX5_kind_21 : decode cX5_kind 21 = .ok (.ireturn, 1) := by decide +kernel
set_option maxRecDepth 20000 in
theorem ggX5_unlike_X1_leastFar : GoodIn wsX5_unlike wsX1_leastFar := goodIn_r _ [6, 7, 8, 9, 5, 10, 11, 12, 13, 14, 15, 16, 17, 18, 19, 20, 21, 22, 23, 24, 25, 26, 27, 28, 29, 30, 31, 32, 33, 34, 35, 36, 37, 38, 39, 40, 41, 42, 50, 51, 52, 53] (by decide +kernel) (by decide +kernel)
set_option maxRecDepth 20000 in
theorem gX5_unlike_X1_leastFar : GoodIn wsX5_unlike (wsV RX5 145 RX1 yX1_leastFar wsX1_leastFar) := goodIn_app (goodIn_of _ (by decide +kernel)) ggX5_unlike_X1_leastFar
theorem dX5_unlike_0 : decode cX5_unlike 0 = .ok (.aload_n 0, 1) := by decide +kernel
theorem dX5_unlike_1 : decode cX5_unlike 1 = .ok (.getfield 12, 3) := by decide +kernel
theorem dX5_unlike_4 : decode cX5_unlike 4 = .ok (.invokevirtual 145, 3) := by decide +kernel
theorem dX5_unlike_7 : decode cX5_unlike 7 = .ok (.istore_n 1, 1) := by decide +kernel
theorem dX5_unlike_8 : decode cX5_unlike 8 = .ok (.iload_n 1, 1) := by decide +kernel
theorem dX5_unlike_9 : decode cX5_unlike 9 = .ok (.bipush (-9), 2) := by decide +kernel
theorem dX5_unlike_11 : decode cX5_unlike 11 = .ok (.if_icmp .ne 8, 3) := by decide +kernel
theorem dX5_unlike_14 : decode cX5_unlike 14 = .ok (.bipush (-3), 2) := by decide +kernel
theorem dX5_unlike_16 : decode cX5_unlike 16 = .ok (.goto 4, 3) := by decide +kernel
theorem dX5_unlike_19 : decode cX5_unlike 19 = .ok (.iload_n 1, 1) := by decide +kernel
theorem dX5_unlike_20 : decode cX5_unlike 20 = .ok (.ireturn, 1) := by decide +kernel
set_option maxRecDepth 20000 in
theorem ggX5_traps_X1_pairsWithin : GoodIn wsX5_traps wsX1_pairsWithin := goodIn_r _ [6, 7, 8, 9, 5, 10, 11, 12, 13, 14, 15, 16, 17, 18, 19, 20, 21, 22, 23, 24, 25, 26, 27, 28, 29, 30, 31, 32, 33, 34, 35, 36, 37, 38, 39, 40, 41, 42, 50, 51, 52, 53] (by decide +kernel) (by decide +kernel)
set_option maxRecDepth 20000 in
theorem gX5_traps_X1_pairsWithin : GoodIn wsX5_traps (wsV RX5 148 RX1 yX1_pairsWithin wsX1_pairsWithin) := goodIn_app (goodIn_of _ (by decide +kernel)) ggX5_traps_X1_pairsWithin
theorem dX5_traps_0 : decode cX5_traps 0 = .ok (.iload_n 1, 1) := by decide +kernel
theorem dX5_traps_1 : decode cX5_traps 1 = .ok (.ifCond .ge 6, 3) := by decide +kernel
theorem dX5_traps_4 : decode cX5_traps 4 = .ok (.bipush (-2), 2) := by decide +kernel
theorem dX5_traps_6 : decode cX5_traps 6 = .ok (.ireturn, 1) := by decide +kernel
theorem dX5_traps_7 : decode cX5_traps 7 = .ok (.aload_n 0, 1) := by decide +kernel
theorem dX5_traps_8 : decode cX5_traps 8 = .ok (.getfield 12, 3) := by decide +kernel
theorem dX5_traps_11 : decode cX5_traps 11 = .ok (.iload_n 1, 1) := by decide +kernel
theorem dX5_traps_12 : decode cX5_traps 12 = .ok (.invokevirtual 148, 3) := by decide +kernel
theorem dX5_traps_15 : decode cX5_traps 15 = .ok (.ireturn, 1) := by decide +kernel
set_option maxRecDepth 20000 in
theorem ggX5_alike_X1_hasSide : GoodIn wsX5_alike wsX1_hasSide := goodIn_r _ [7, 8, 9, 10, 6, 11, 12, 13, 44, 45, 46, 47] (by decide +kernel) (by decide +kernel)
set_option maxRecDepth 20000 in
theorem gX5_alike_X1_hasSide : GoodIn wsX5_alike (wsV RX5 74 RX1 yX1_hasSide wsX1_hasSide) := goodIn_app (goodIn_of _ (by decide +kernel)) ggX5_alike_X1_hasSide
set_option maxRecDepth 20000 in
theorem ggX5_alike_X3_forgetJoined : GoodIn wsX5_alike wsX3_forgetJoined := goodIn_r _ [18, 19, 48, 49, 50, 51, 52, 53, 54, 55, 56, 57, 58, 59, 60] (by decide +kernel) (by decide +kernel)
set_option maxRecDepth 20000 in
theorem gX5_alike_X3_forgetJoined : GoodIn wsX5_alike (wsV RX5 55 RX3 yX3_forgetJoined wsX3_forgetJoined) := goodIn_app (goodIn_of _ (by decide +kernel)) ggX5_alike_X3_forgetJoined
set_option maxRecDepth 20000 in
theorem ggX5_alike_X1_giveShape : GoodIn wsX5_alike wsX1_giveShape := goodIn_r _ [23, 24, 25, 26, 6, 27, 28, 29, 30, 31, 32, 33, 34, 35, 36, 44, 45, 46, 47] (by decide +kernel) (by decide +kernel)
set_option maxRecDepth 20000 in
theorem gX5_alike_X1_giveShape : GoodIn wsX5_alike (wsV RX5 151 RX1 yX1_giveShape wsX1_giveShape) := goodIn_app (goodIn_of _ (by decide +kernel)) ggX5_alike_X1_giveShape
theorem dX5_alike_0 : decode cX5_alike 0 = .ok (.aload_n 0, 1) := by decide +kernel
theorem dX5_alike_1 : decode cX5_alike 1 = .ok (.getfield 12, 3) := by decide +kernel
theorem dX5_alike_4 : decode cX5_alike 4 = .ok (.iload_n 1, 1) := by decide +kernel
theorem dX5_alike_5 : decode cX5_alike 5 = .ok (.invokevirtual 74, 3) := by decide +kernel
theorem dX5_alike_8 : decode cX5_alike 8 = .ok (.ifCond .eq 14, 3) := by decide +kernel
theorem dX5_alike_11 : decode cX5_alike 11 = .ok (.aload_n 0, 1) := by decide +kernel
theorem dX5_alike_12 : decode cX5_alike 12 = .ok (.getfield 12, 3) := by decide +kernel
theorem dX5_alike_15 : decode cX5_alike 15 = .ok (.iload_n 2, 1) := by decide +kernel
theorem dX5_alike_16 : decode cX5_alike 16 = .ok (.invokevirtual 74, 3) := by decide +kernel
theorem dX5_alike_19 : decode cX5_alike 19 = .ok (.ifCond .ne 5, 3) := by decide +kernel
theorem dX5_alike_22 : decode cX5_alike 22 = .ok (.iconst (-1), 1) := by decide +kernel
theorem dX5_alike_23 : decode cX5_alike 23 = .ok (.ireturn, 1) := by decide +kernel
theorem dX5_alike_24 : decode cX5_alike 24 = .ok (.iload_n 3, 1) := by decide +kernel
theorem dX5_alike_25 : decode cX5_alike 25 = .ok (.ifCond .eq 11, 3) := by decide +kernel
theorem dX5_alike_28 : decode cX5_alike 28 = .ok (.iload_n 3, 1) := by decide +kernel
theorem dX5_alike_29 : decode cX5_alike 29 = .ok (.iconst 1, 1) := by decide +kernel
theorem dX5_alike_30 : decode cX5_alike 30 = .ok (.if_icmp .eq 6, 3) := by decide +kernel
theorem dX5_alike_33 : decode cX5_alike 33 = .ok (.bipush (-2), 2) := by decide +kernel
theorem dX5_alike_35 : decode cX5_alike 35 = .ok (.ireturn, 1) := by decide +kernel
theorem dX5_alike_36 : decode cX5_alike 36 = .ok (.iload_n 1, 1) := by decide +kernel
theorem dX5_alike_37 : decode cX5_alike 37 = .ok (.iload_n 2, 1) := by decide +kernel
theorem dX5_alike_38 : decode cX5_alike 38 = .ok (.if_icmp .ne 6, 3) := by decide +kernel
theorem dX5_alike_41 : decode cX5_alike 41 = .ok (.bipush (-3), 2) := by decide +kernel
theorem dX5_alike_43 : decode cX5_alike 43 = .ok (.ireturn, 1) := by decide +kernel
theorem dX5_alike_44 : decode cX5_alike 44 = .ok (.aload_n 0, 1) := by decide +kernel
theorem dX5_alike_45 : decode cX5_alike 45 = .ok (.getfield 30, 3) := by decide +kernel
theorem dX5_alike_48 : decode cX5_alike 48 = .ok (.invokevirtual 55, 3) := by decide +kernel
theorem dX5_alike_51 : decode cX5_alike 51 = .ok (.aload_n 0, 1) := by decide +kernel
theorem dX5_alike_52 : decode cX5_alike 52 = .ok (.getfield 12, 3) := by decide +kernel
theorem dX5_alike_55 : decode cX5_alike 55 = .ok (.iload_n 1, 1) := by decide +kernel
theorem dX5_alike_56 : decode cX5_alike 56 = .ok (.iload_n 2, 1) := by decide +kernel
theorem dX5_alike_57 : decode cX5_alike 57 = .ok (.iload_n 3, 1) := by decide +kernel
theorem dX5_alike_58 : decode cX5_alike 58 = .ok (.invokevirtual 151, 3) := by decide +kernel
theorem dX5_alike_61 : decode cX5_alike 61 = .ok (.ireturn, 1) := by decide +kernel
set_option maxRecDepth 20000 in
theorem ggX5_lay_X1_hasPiece : GoodIn wsX5_lay wsX1_hasPiece := goodIn_r _ [8, 9, 10, 11, 7, 12, 13, 14, 45, 46, 47, 48] (by decide +kernel) (by decide +kernel)
set_option maxRecDepth 20000 in
theorem gX5_lay_X1_hasPiece : GoodIn wsX5_lay (wsV RX5 154 RX1 yX1_hasPiece wsX1_hasPiece) := goodIn_app (goodIn_of _ (by decide +kernel)) ggX5_lay_X1_hasPiece
set_option maxRecDepth 20000 in
theorem ggX5_lay_X2_isFull : GoodIn wsX5_lay wsX2_isFull := goodIn_r _ [19, 20, 49, 50, 51] (by decide +kernel) (by decide +kernel)
set_option maxRecDepth 20000 in
theorem gX5_lay_X2_isFull : GoodIn wsX5_lay (wsV RX5 157 RX2 yX2_isFull wsX2_isFull) := goodIn_app (goodIn_of _ (by decide +kernel)) ggX5_lay_X2_isFull
set_option maxRecDepth 20000 in
theorem ggX5_lay_X2_append : GoodIn wsX5_lay wsX2_append := goodIn_r _ [24, 25, 20, 26, 27, 16, 17, 18, 19, 49, 50, 51] (by decide +kernel) (by decide +kernel)
set_option maxRecDepth 20000 in
theorem gX5_lay_X2_append : GoodIn wsX5_lay (wsV RX5 160 RX2 yX2_append wsX2_append) := goodIn_app (goodIn_of _ (by decide +kernel)) ggX5_lay_X2_append
set_option maxRecDepth 20000 in
theorem ggX5_lay_X3_forgetJoined : GoodIn wsX5_lay wsX3_forgetJoined := goodIn_r _ [32, 33, 52, 53, 54, 55, 56, 57, 58, 59, 60, 61, 62, 63, 64] (by decide +kernel) (by decide +kernel)
set_option maxRecDepth 20000 in
theorem gX5_lay_X3_forgetJoined : GoodIn wsX5_lay (wsV RX5 55 RX3 yX3_forgetJoined wsX3_forgetJoined) := goodIn_app (goodIn_of _ (by decide +kernel)) ggX5_lay_X3_forgetJoined
set_option maxRecDepth 20000 in
theorem ggX5_lay_X2_size : GoodIn wsX5_lay wsX2_size := goodIn_r _ [37, 20, 49, 50, 51] (by decide +kernel) (by decide +kernel)
set_option maxRecDepth 20000 in
theorem gX5_lay_X2_size : GoodIn wsX5_lay (wsV RX5 163 RX2 yX2_size wsX2_size) := goodIn_app (goodIn_of _ (by decide +kernel)) ggX5_lay_X2_size
theorem dX5_lay_0 : decode cX5_lay 0 = .ok (.aload_n 0, 1) := by decide +kernel
theorem dX5_lay_1 : decode cX5_lay 1 = .ok (.getfield 12, 3) := by decide +kernel
theorem dX5_lay_4 : decode cX5_lay 4 = .ok (.iload_n 1, 1) := by decide +kernel
theorem dX5_lay_5 : decode cX5_lay 5 = .ok (.invokevirtual 154, 3) := by decide +kernel
theorem dX5_lay_8 : decode cX5_lay 8 = .ok (.ifCond .ne 5, 3) := by decide +kernel
theorem dX5_lay_11 : decode cX5_lay 11 = .ok (.iconst (-1), 1) := by decide +kernel
theorem dX5_lay_12 : decode cX5_lay 12 = .ok (.ireturn, 1) := by decide +kernel
theorem dX5_lay_13 : decode cX5_lay 13 = .ok (.iload_n 2, 1) := by decide +kernel
theorem dX5_lay_14 : decode cX5_lay 14 = .ok (.ifCond .lt 8, 3) := by decide +kernel
theorem dX5_lay_17 : decode cX5_lay 17 = .ok (.iload_n 2, 1) := by decide +kernel
theorem dX5_lay_18 : decode cX5_lay 18 = .ok (.iconst 4, 1) := by decide +kernel
theorem dX5_lay_19 : decode cX5_lay 19 = .ok (.if_icmp .lt 6, 3) := by decide +kernel
theorem dX5_lay_22 : decode cX5_lay 22 = .ok (.bipush (-2), 2) := by decide +kernel
theorem dX5_lay_24 : decode cX5_lay 24 = .ok (.ireturn, 1) := by decide +kernel
theorem dX5_lay_25 : decode cX5_lay 25 = .ok (.aload_n 0, 1) := by decide +kernel
theorem dX5_lay_26 : decode cX5_lay 26 = .ok (.getfield 21, 3) := by decide +kernel
theorem dX5_lay_29 : decode cX5_lay 29 = .ok (.invokevirtual 157, 3) := by decide +kernel
theorem dX5_lay_32 : decode cX5_lay 32 = .ok (.ifCond .eq 6, 3) := by decide +kernel
theorem dX5_lay_35 : decode cX5_lay 35 = .ok (.bipush (-4), 2) := by decide +kernel
theorem dX5_lay_37 : decode cX5_lay 37 = .ok (.ireturn, 1) := by decide +kernel
theorem dX5_lay_38 : decode cX5_lay 38 = .ok (.aload_n 0, 1) := by decide +kernel
theorem dX5_lay_39 : decode cX5_lay 39 = .ok (.getfield 21, 3) := by decide +kernel
theorem dX5_lay_42 : decode cX5_lay 42 = .ok (.iload_n 1, 1) := by decide +kernel
theorem dX5_lay_43 : decode cX5_lay 43 = .ok (.iload_n 2, 1) := by decide +kernel
theorem dX5_lay_44 : decode cX5_lay 44 = .ok (.invokevirtual 160, 3) := by decide +kernel
theorem dX5_lay_47 : decode cX5_lay 47 = .ok (.aload_n 0, 1) := by decide +kernel
theorem dX5_lay_48 : decode cX5_lay 48 = .ok (.getfield 30, 3) := by decide +kernel
theorem dX5_lay_51 : decode cX5_lay 51 = .ok (.invokevirtual 55, 3) := by decide +kernel
theorem dX5_lay_54 : decode cX5_lay 54 = .ok (.aload_n 0, 1) := by decide +kernel
theorem dX5_lay_55 : decode cX5_lay 55 = .ok (.getfield 21, 3) := by decide +kernel
theorem dX5_lay_58 : decode cX5_lay 58 = .ok (.invokevirtual 163, 3) := by decide +kernel
theorem dX5_lay_61 : decode cX5_lay 61 = .ok (.ireturn, 1) := by decide +kernel
set_option maxRecDepth 20000 in
theorem ggX5_heap_X2_clearAll : GoodIn wsX5_heap wsX2_clearAll := goodIn_r _ [9, 10, 71, 72, 73] (by decide +kernel) (by decide +kernel)
set_option maxRecDepth 20000 in
theorem gX5_heap_X2_clearAll : GoodIn wsX5_heap (wsV RX5 52 RX2 yX2_clearAll wsX2_clearAll) := goodIn_app (goodIn_of _ (by decide +kernel)) ggX5_heap_X2_clearAll
set_option maxRecDepth 20000 in
theorem ggX5_heap_X1_pieces : GoodIn wsX5_heap wsX1_pieces := goodIn_r _ [15, 16, 17, 74, 75, 76, 77] (by decide +kernel) (by decide +kernel)
set_option maxRecDepth 20000 in
theorem gX5_heap_X1_pieces : GoodIn wsX5_heap (wsV RX5 166 RX1 yX1_pieces wsX1_pieces) := goodIn_app (goodIn_of _ (by decide +kernel)) ggX5_heap_X1_pieces
set_option maxRecDepth 20000 in
theorem ggX5_heap_X2_append : GoodIn wsX5_heap wsX2_append := goodIn_r _ [21, 22, 10, 23, 24, 25, 26, 8, 27, 71, 72, 73] (by decide +kernel) (by decide +kernel)
set_option maxRecDepth 20000 in
theorem gX5_heap_X2_append : GoodIn wsX5_heap (wsV RX5 160 RX2 yX2_append wsX2_append) := goodIn_app (goodIn_of _ (by decide +kernel)) ggX5_heap_X2_append
set_option maxRecDepth 20000 in
theorem ggX5_heap_X0_begin : GoodIn wsX5_heap wsX0_begin := goodIn_r _ [32, 33, 78] (by decide +kernel) (by decide +kernel)
set_option maxRecDepth 20000 in
theorem gX5_heap_X0_begin : GoodIn wsX5_heap (wsV RX5 62 RX0 yX0_begin wsX0_begin) := goodIn_app (goodIn_of _ (by decide +kernel)) ggX5_heap_X0_begin
set_option maxRecDepth 20000 in
theorem ggX5_heap_X2_size : GoodIn wsX5_heap wsX2_size := goodIn_r _ [37, 10, 71, 72, 73] (by decide +kernel) (by decide +kernel)
set_option maxRecDepth 20000 in
theorem gX5_heap_X2_size : GoodIn wsX5_heap (wsV RX5 163 RX2 yX2_size wsX2_size) := goodIn_app (goodIn_of _ (by decide +kernel)) ggX5_heap_X2_size
set_option maxRecDepth 20000 in
theorem ggX5_heap_X0_below : GoodIn wsX5_heap wsX0_below := goodIn_r _ [41, 33, 42, 43, 44, 45, 78] (by decide +kernel) (by decide +kernel)
set_option maxRecDepth 20000 in
theorem gX5_heap_X0_below : GoodIn wsX5_heap (wsV RX5 66 RX0 yX0_below wsX0_below) := goodIn_app (goodIn_of _ (by decide +kernel)) ggX5_heap_X0_below
set_option maxRecDepth 20000 in
theorem ggX5_heap_X2_swapPieces : GoodIn wsX5_heap wsX2_swapPieces := goodIn_r _ [49, 22, 50, 51, 52, 8, 53, 10, 71, 72, 73] (by decide +kernel) (by decide +kernel)
set_option maxRecDepth 20000 in
theorem gX5_heap_X2_swapPieces : GoodIn wsX5_heap (wsV RX5 169 RX2 yX2_swapPieces wsX2_swapPieces) := goodIn_app (goodIn_of _ (by decide +kernel)) ggX5_heap_X2_swapPieces
set_option maxRecDepth 20000 in
theorem ggX5_heap_X2_setTurn : GoodIn wsX5_heap wsX2_setTurn := goodIn_r _ [57, 23, 50, 51, 52, 8, 53, 10, 71, 72, 73] (by decide +kernel) (by decide +kernel)
set_option maxRecDepth 20000 in
theorem gX5_heap_X2_setTurn : GoodIn wsX5_heap (wsV RX5 172 RX2 yX2_setTurn wsX2_setTurn) := goodIn_app (goodIn_of _ (by decide +kernel)) ggX5_heap_X2_setTurn
set_option maxRecDepth 20000 in
theorem ggX5_heap_X3_forgetJoined : GoodIn wsX5_heap wsX3_forgetJoined := goodIn_r _ [62, 63, 79, 80, 81, 82, 83, 84, 85, 86, 87, 88, 89, 90, 91] (by decide +kernel) (by decide +kernel)
set_option maxRecDepth 20000 in
theorem gX5_heap_X3_forgetJoined : GoodIn wsX5_heap (wsV RX5 55 RX3 yX3_forgetJoined wsX3_forgetJoined) := goodIn_app (goodIn_of _ (by decide +kernel)) ggX5_heap_X3_forgetJoined
theorem dX5_heap_0 : decode cX5_heap 0 = .ok (.aload_n 0, 1) := by decide +kernel
theorem dX5_heap_1 : decode cX5_heap 1 = .ok (.getfield 21, 3) := by decide +kernel
theorem dX5_heap_4 : decode cX5_heap 4 = .ok (.invokevirtual 52, 3) := by decide +kernel
theorem dX5_heap_7 : decode cX5_heap 7 = .ok (.iconst 0, 1) := by decide +kernel
theorem dX5_heap_8 : decode cX5_heap 8 = .ok (.istore_n 3, 1) := by decide +kernel
theorem dX5_heap_9 : decode cX5_heap 9 = .ok (.iload_n 3, 1) := by decide +kernel
theorem dX5_heap_10 : decode cX5_heap 10 = .ok (.aload_n 0, 1) := by decide +kernel
theorem dX5_heap_11 : decode cX5_heap 11 = .ok (.getfield 12, 3) := by decide +kernel
theorem dX5_heap_14 : decode cX5_heap 14 = .ok (.invokevirtual 166, 3) := by decide +kernel
theorem dX5_heap_17 : decode cX5_heap 17 = .ok (.if_icmp .ge 18, 3) := by decide +kernel
theorem dX5_heap_20 : decode cX5_heap 20 = .ok (.aload_n 0, 1) := by decide +kernel
theorem dX5_heap_21 : decode cX5_heap 21 = .ok (.getfield 21, 3) := by decide +kernel
theorem dX5_heap_24 : decode cX5_heap 24 = .ok (.iload_n 3, 1) := by decide +kernel
theorem dX5_heap_25 : decode cX5_heap 25 = .ok (.iconst 0, 1) := by decide +kernel
theorem dX5_heap_26 : decode cX5_heap 26 = .ok (.invokevirtual 160, 3) := by decide +kernel
theorem dX5_heap_29 : decode cX5_heap 29 = .ok (.iinc 3 1, 3) := by decide +kernel
theorem dX5_heap_32 : decode cX5_heap 32 = .ok (.goto (-23), 3) := by decide +kernel
theorem dX5_heap_35 : decode cX5_heap 35 = .ok (.aload_n 0, 1) := by decide +kernel
theorem dX5_heap_36 : decode cX5_heap 36 = .ok (.getfield 37, 3) := by decide +kernel
theorem dX5_heap_39 : decode cX5_heap 39 = .ok (.lload_n 1, 1) := by decide +kernel
theorem dX5_heap_40 : decode cX5_heap 40 = .ok (.invokevirtual 62, 3) := by decide +kernel
theorem dX5_heap_43 : decode cX5_heap 43 = .ok (.aload_n 0, 1) := by decide +kernel
theorem dX5_heap_44 : decode cX5_heap 44 = .ok (.getfield 21, 3) := by decide +kernel
theorem dX5_heap_47 : decode cX5_heap 47 = .ok (.invokevirtual 163, 3) := by decide +kernel
theorem dX5_heap_50 : decode cX5_heap 50 = .ok (.iconst 1, 1) := by decide +kernel
theorem dX5_heap_51 : decode cX5_heap 51 = .ok (.isub, 1) := by decide +kernel
theorem dX5_heap_52 : decode cX5_heap 52 = .ok (.istore_n 3, 1) := by decide +kernel
theorem dX5_heap_53 : decode cX5_heap 53 = .ok (.iload_n 3, 1) := by decide +kernel
theorem dX5_heap_54 : decode cX5_heap 54 = .ok (.iconst 1, 1) := by decide +kernel
theorem dX5_heap_55 : decode cX5_heap 55 = .ok (.if_icmp .lt 27, 3) := by decide +kernel
theorem dX5_heap_58 : decode cX5_heap 58 = .ok (.aload_n 0, 1) := by decide +kernel
theorem dX5_heap_59 : decode cX5_heap 59 = .ok (.getfield 21, 3) := by decide +kernel
theorem dX5_heap_62 : decode cX5_heap 62 = .ok (.iload_n 3, 1) := by decide +kernel
theorem dX5_heap_63 : decode cX5_heap 63 = .ok (.aload_n 0, 1) := by decide +kernel
theorem dX5_heap_64 : decode cX5_heap 64 = .ok (.getfield 37, 3) := by decide +kernel
theorem dX5_heap_67 : decode cX5_heap 67 = .ok (.iload_n 3, 1) := by decide +kernel
theorem dX5_heap_68 : decode cX5_heap 68 = .ok (.iconst 1, 1) := by decide +kernel
theorem dX5_heap_69 : decode cX5_heap 69 = .ok (.iadd, 1) := by decide +kernel
theorem dX5_heap_70 : decode cX5_heap 70 = .ok (.invokevirtual 66, 3) := by decide +kernel
theorem dX5_heap_73 : decode cX5_heap 73 = .ok (.invokevirtual 169, 3) := by decide +kernel
theorem dX5_heap_76 : decode cX5_heap 76 = .ok (.iinc 3 (-1), 3) := by decide +kernel
theorem dX5_heap_79 : decode cX5_heap 79 = .ok (.goto (-26), 3) := by decide +kernel
theorem dX5_heap_82 : decode cX5_heap 82 = .ok (.iconst 0, 1) := by decide +kernel
theorem dX5_heap_83 : decode cX5_heap 83 = .ok (.istore_n 3, 1) := by decide +kernel
theorem dX5_heap_84 : decode cX5_heap 84 = .ok (.iload_n 3, 1) := by decide +kernel
theorem dX5_heap_85 : decode cX5_heap 85 = .ok (.aload_n 0, 1) := by decide +kernel
theorem dX5_heap_86 : decode cX5_heap 86 = .ok (.getfield 21, 3) := by decide +kernel
theorem dX5_heap_89 : decode cX5_heap 89 = .ok (.invokevirtual 163, 3) := by decide +kernel
theorem dX5_heap_92 : decode cX5_heap 92 = .ok (.if_icmp .ge 25, 3) := by decide +kernel
theorem dX5_heap_95 : decode cX5_heap 95 = .ok (.aload_n 0, 1) := by decide +kernel
theorem dX5_heap_96 : decode cX5_heap 96 = .ok (.getfield 21, 3) := by decide +kernel
theorem dX5_heap_99 : decode cX5_heap 99 = .ok (.iload_n 3, 1) := by decide +kernel
theorem dX5_heap_100 : decode cX5_heap 100 = .ok (.aload_n 0, 1) := by decide +kernel
theorem dX5_heap_101 : decode cX5_heap 101 = .ok (.getfield 37, 3) := by decide +kernel
theorem dX5_heap_104 : decode cX5_heap 104 = .ok (.iconst 4, 1) := by decide +kernel
theorem dX5_heap_105 : decode cX5_heap 105 = .ok (.invokevirtual 66, 3) := by decide +kernel
theorem dX5_heap_108 : decode cX5_heap 108 = .ok (.invokevirtual 172, 3) := by decide +kernel
theorem dX5_heap_111 : decode cX5_heap 111 = .ok (.iinc 3 1, 3) := by decide +kernel
theorem dX5_heap_114 : decode cX5_heap 114 = .ok (.goto (-30), 3) := by decide +kernel
theorem dX5_heap_117 : decode cX5_heap 117 = .ok (.aload_n 0, 1) := by decide +kernel
theorem dX5_heap_118 : decode cX5_heap 118 = .ok (.getfield 30, 3) := by decide +kernel
theorem dX5_heap_121 : decode cX5_heap 121 = .ok (.invokevirtual 55, 3) := by decide +kernel
theorem dX5_heap_124 : decode cX5_heap 124 = .ok (.aload_n 0, 1) := by decide +kernel
theorem dX5_heap_125 : decode cX5_heap 125 = .ok (.getfield 21, 3) := by decide +kernel
theorem dX5_heap_128 : decode cX5_heap 128 = .ok (.invokevirtual 163, 3) := by decide +kernel
theorem dX5_heap_131 : decode cX5_heap 131 = .ok (.ireturn, 1) := by decide +kernel
set_option maxRecDepth 20000 in
theorem ggX5_take_X2_hasPlace : GoodIn wsX5_take wsX2_hasPlace := goodIn_r _ [7, 8, 33, 34, 35] (by decide +kernel) (by decide +kernel)
set_option maxRecDepth 20000 in
theorem gX5_take_X2_hasPlace : GoodIn wsX5_take (wsV RX5 175 RX2 yX2_hasPlace wsX2_hasPlace) := goodIn_app (goodIn_of _ (by decide +kernel)) ggX5_take_X2_hasPlace
set_option maxRecDepth 20000 in
theorem ggX5_take_X2_pieceAt : GoodIn wsX5_take wsX2_pieceAt := goodIn_r _ [12, 13, 14, 4, 5, 6, 7, 8, 33, 34, 35] (by decide +kernel) (by decide +kernel)
set_option maxRecDepth 20000 in
theorem gX5_take_X2_pieceAt : GoodIn wsX5_take (wsV RX5 178 RX2 yX2_pieceAt wsX2_pieceAt) := goodIn_app (goodIn_of _ (by decide +kernel)) ggX5_take_X2_pieceAt
set_option maxRecDepth 20000 in
theorem ggX5_take_X2_removeAt : GoodIn wsX5_take wsX2_removeAt := goodIn_r _ [18, 8, 13, 19, 14, 4, 5, 6, 7, 33, 34, 35] (by decide +kernel) (by decide +kernel)
set_option maxRecDepth 20000 in
theorem gX5_take_X2_removeAt : GoodIn wsX5_take (wsV RX5 181 RX2 yX2_removeAt wsX2_removeAt) := goodIn_app (goodIn_of _ (by decide +kernel)) ggX5_take_X2_removeAt
set_option maxRecDepth 20000 in
theorem ggX5_take_X3_forgetJoined : GoodIn wsX5_take wsX3_forgetJoined := goodIn_r _ [24, 25, 36, 37, 38, 39, 40, 41, 42, 43, 44, 45, 46, 47, 48] (by decide +kernel) (by decide +kernel)
set_option maxRecDepth 20000 in
theorem gX5_take_X3_forgetJoined : GoodIn wsX5_take (wsV RX5 55 RX3 yX3_forgetJoined wsX3_forgetJoined) := goodIn_app (goodIn_of _ (by decide +kernel)) ggX5_take_X3_forgetJoined
theorem dX5_take_0 : decode cX5_take 0 = .ok (.aload_n 0, 1) := by decide +kernel
theorem dX5_take_1 : decode cX5_take 1 = .ok (.getfield 21, 3) := by decide +kernel
theorem dX5_take_4 : decode cX5_take 4 = .ok (.iload_n 1, 1) := by decide +kernel
theorem dX5_take_5 : decode cX5_take 5 = .ok (.invokevirtual 175, 3) := by decide +kernel
theorem dX5_take_8 : decode cX5_take 8 = .ok (.ifCond .ne 5, 3) := by decide +kernel
theorem dX5_take_11 : decode cX5_take 11 = .ok (.iconst (-1), 1) := by decide +kernel
theorem dX5_take_12 : decode cX5_take 12 = .ok (.ireturn, 1) := by decide +kernel
theorem dX5_take_13 : decode cX5_take 13 = .ok (.aload_n 0, 1) := by decide +kernel
theorem dX5_take_14 : decode cX5_take 14 = .ok (.getfield 21, 3) := by decide +kernel
theorem dX5_take_17 : decode cX5_take 17 = .ok (.iload_n 1, 1) := by decide +kernel
theorem dX5_take_18 : decode cX5_take 18 = .ok (.invokevirtual 178, 3) := by decide +kernel
theorem dX5_take_21 : decode cX5_take 21 = .ok (.istore_n 2, 1) := by decide +kernel
theorem dX5_take_22 : decode cX5_take 22 = .ok (.aload_n 0, 1) := by decide +kernel
theorem dX5_take_23 : decode cX5_take 23 = .ok (.getfield 21, 3) := by decide +kernel
theorem dX5_take_26 : decode cX5_take 26 = .ok (.iload_n 1, 1) := by decide +kernel
theorem dX5_take_27 : decode cX5_take 27 = .ok (.invokevirtual 181, 3) := by decide +kernel
theorem dX5_take_30 : decode cX5_take 30 = .ok (.aload_n 0, 1) := by decide +kernel
theorem dX5_take_31 : decode cX5_take 31 = .ok (.getfield 30, 3) := by decide +kernel
theorem dX5_take_34 : decode cX5_take 34 = .ok (.invokevirtual 55, 3) := by decide +kernel
theorem dX5_take_37 : decode cX5_take 37 = .ok (.iload_n 2, 1) := by decide +kernel
theorem dX5_take_38 : decode cX5_take 38 = .ok (.ireturn, 1) := by decide +kernel
set_option maxRecDepth 20000 in
theorem ggX5_heaped_X2_hasPlace : GoodIn wsX5_heaped wsX2_hasPlace := goodIn_r _ [6, 7, 26, 27, 28] (by decide +kernel) (by decide +kernel)
set_option maxRecDepth 20000 in
theorem gX5_heaped_X2_hasPlace : GoodIn wsX5_heaped (wsV RX5 175 RX2 yX2_hasPlace wsX2_hasPlace) := goodIn_app (goodIn_of _ (by decide +kernel)) ggX5_heaped_X2_hasPlace
set_option maxRecDepth 20000 in
theorem ggX5_heaped_X2_pieceAt : GoodIn wsX5_heaped wsX2_pieceAt := goodIn_r _ [11, 12, 13, 3, 4, 5, 6, 7, 26, 27, 28] (by decide +kernel) (by decide +kernel)
set_option maxRecDepth 20000 in
theorem gX5_heaped_X2_pieceAt : GoodIn wsX5_heaped (wsV RX5 178 RX2 yX2_pieceAt wsX2_pieceAt) := goodIn_app (goodIn_of _ (by decide +kernel)) ggX5_heaped_X2_pieceAt
set_option maxRecDepth 20000 in
theorem ggX5_heaped_X2_turnAt : GoodIn wsX5_heaped wsX2_turnAt := goodIn_r _ [17, 18, 13, 3, 4, 5, 6, 7, 26, 27, 28] (by decide +kernel) (by decide +kernel)
set_option maxRecDepth 20000 in
theorem gX5_heaped_X2_turnAt : GoodIn wsX5_heaped (wsV RX5 185 RX2 yX2_turnAt wsX2_turnAt) := goodIn_app (goodIn_of _ (by decide +kernel)) ggX5_heaped_X2_turnAt
theorem dX5_heaped_0 : decode cX5_heaped 0 = .ok (.aload_n 0, 1) := by decide +kernel
theorem dX5_heaped_1 : decode cX5_heaped 1 = .ok (.getfield 21, 3) := by decide +kernel
theorem dX5_heaped_4 : decode cX5_heaped 4 = .ok (.iload_n 1, 1) := by decide +kernel
theorem dX5_heaped_5 : decode cX5_heaped 5 = .ok (.invokevirtual 175, 3) := by decide +kernel
theorem dX5_heaped_8 : decode cX5_heaped 8 = .ok (.ifCond .ne 5, 3) := by decide +kernel
theorem dX5_heaped_11 : decode cX5_heaped 11 = .ok (.iconst (-1), 1) := by decide +kernel
theorem dX5_heaped_12 : decode cX5_heaped 12 = .ok (.ireturn, 1) := by decide +kernel
theorem dX5_heaped_13 : decode cX5_heaped 13 = .ok (.iload_n 2, 1) := by decide +kernel
theorem dX5_heaped_14 : decode cX5_heaped 14 = .ok (.lookupswitch 44 #[(0, 26), (1, 35)], 26) := by decide +kernel
theorem dX5_heaped_40 : decode cX5_heaped 40 = .ok (.aload_n 0, 1) := by decide +kernel
theorem dX5_heaped_41 : decode cX5_heaped 41 = .ok (.getfield 21, 3) := by decide +kernel
theorem dX5_heaped_44 : decode cX5_heaped 44 = .ok (.iload_n 1, 1) := by decide +kernel
theorem dX5_heaped_45 : decode cX5_heaped 45 = .ok (.invokevirtual 178, 3) := by decide +kernel
theorem dX5_heaped_48 : decode cX5_heaped 48 = .ok (.ireturn, 1) := by decide +kernel
theorem dX5_heaped_49 : decode cX5_heaped 49 = .ok (.aload_n 0, 1) := by decide +kernel
theorem dX5_heaped_50 : decode cX5_heaped 50 = .ok (.getfield 21, 3) := by decide +kernel
theorem dX5_heaped_53 : decode cX5_heaped 53 = .ok (.iload_n 1, 1) := by decide +kernel
theorem dX5_heaped_54 : decode cX5_heaped 54 = .ok (.invokevirtual 185, 3) := by decide +kernel
theorem dX5_heaped_57 : decode cX5_heaped 57 = .ok (.ireturn, 1) := by decide +kernel
theorem dX5_heaped_58 : decode cX5_heaped 58 = .ok (.bipush (-2), 2) := by decide +kernel
theorem dX5_heaped_60 : decode cX5_heaped 60 = .ok (.ireturn, 1) := by decide +kernel
set_option maxRecDepth 20000 in
theorem ggX5_missing_X5_isMissingWhat : GoodIn wsX5_missing wsX5_isMissingWhat := goodIn_r _ [4] (by decide +kernel) (by decide +kernel)
set_option maxRecDepth 20000 in
theorem gX5_missing_X5_isMissingWhat : GoodIn wsX5_missing (va_wsS RX5 188 yX5_isMissingWhat wsX5_isMissingWhat) := goodIn_app (goodIn_of _ (by decide +kernel)) ggX5_missing_X5_isMissingWhat
set_option maxRecDepth 20000 in
theorem ggX5_missing_X5_countMissing : GoodIn wsX5_missing wsX5_countMissing := goodIn_r _ [8, 9, 10, 11, 12, 13, 14, 15, 16, 17, 18, 19, 3, 20, 21, 22, 23, 24, 25, 26, 27, 28, 29, 30, 31, 32, 33, 34, 35, 36, 37, 38, 39, 40, 41, 42] (by decide +kernel) (by decide +kernel)
set_option maxRecDepth 20000 in
theorem gX5_missing_X5_countMissing : GoodIn wsX5_missing (wsV RX5 191 RX5 yX5_countMissing wsX5_countMissing) := goodIn_app (goodIn_of _ (by decide +kernel)) ggX5_missing_X5_countMissing
theorem dX5_missing_0 : decode cX5_missing 0 = .ok (.iload_n 1, 1) := by decide +kernel
theorem dX5_missing_1 : decode cX5_missing 1 = .ok (.invokestatic 188, 3) := by decide +kernel
theorem dX5_missing_4 : decode cX5_missing 4 = .ok (.ifCond .ne 6, 3) := by decide +kernel
theorem dX5_missing_7 : decode cX5_missing 7 = .ok (.bipush (-2), 2) := by decide +kernel
theorem dX5_missing_9 : decode cX5_missing 9 = .ok (.ireturn, 1) := by decide +kernel
theorem dX5_missing_10 : decode cX5_missing 10 = .ok (.aload_n 0, 1) := by decide +kernel
theorem dX5_missing_11 : decode cX5_missing 11 = .ok (.iload_n 1, 1) := by decide +kernel
theorem dX5_missing_12 : decode cX5_missing 12 = .ok (.invokevirtual 191, 3) := by decide +kernel
theorem dX5_missing_15 : decode cX5_missing 15 = .ok (.ireturn, 1) := by decide +kernel
set_option maxRecDepth 20000 in
theorem ggX5_missed_X5_isMissingWhat : GoodIn wsX5_missed wsX5_isMissingWhat := goodIn_r _ [4] (by decide +kernel) (by decide +kernel)
set_option maxRecDepth 20000 in
theorem gX5_missed_X5_isMissingWhat : GoodIn wsX5_missed (va_wsS RX5 188 yX5_isMissingWhat wsX5_isMissingWhat) := goodIn_app (goodIn_of _ (by decide +kernel)) ggX5_missed_X5_isMissingWhat
set_option maxRecDepth 20000 in
theorem ggX5_missed_X5_missingPiece : GoodIn wsX5_missed wsX5_missingPiece := goodIn_r _ [8, 9, 10, 11, 12, 13, 14, 15, 16, 17, 18, 19, 3, 20, 21, 22, 23, 24, 25, 26, 27, 28, 29, 30, 31, 32, 33, 34, 35, 36, 37, 38, 39, 40, 41, 42] (by decide +kernel) (by decide +kernel)
set_option maxRecDepth 20000 in
theorem gX5_missed_X5_missingPiece : GoodIn wsX5_missed (wsV RX5 194 RX5 yX5_missingPiece wsX5_missingPiece) := goodIn_app (goodIn_of _ (by decide +kernel)) ggX5_missed_X5_missingPiece
theorem dX5_missed_0 : decode cX5_missed 0 = .ok (.iload_n 2, 1) := by decide +kernel
theorem dX5_missed_1 : decode cX5_missed 1 = .ok (.ifCond .ge 5, 3) := by decide +kernel
theorem dX5_missed_4 : decode cX5_missed 4 = .ok (.iconst (-1), 1) := by decide +kernel
theorem dX5_missed_5 : decode cX5_missed 5 = .ok (.ireturn, 1) := by decide +kernel
theorem dX5_missed_6 : decode cX5_missed 6 = .ok (.iload_n 1, 1) := by decide +kernel
theorem dX5_missed_7 : decode cX5_missed 7 = .ok (.invokestatic 188, 3) := by decide +kernel
theorem dX5_missed_10 : decode cX5_missed 10 = .ok (.ifCond .ne 6, 3) := by decide +kernel
theorem dX5_missed_13 : decode cX5_missed 13 = .ok (.bipush (-2), 2) := by decide +kernel
theorem dX5_missed_15 : decode cX5_missed 15 = .ok (.ireturn, 1) := by decide +kernel
theorem dX5_missed_16 : decode cX5_missed 16 = .ok (.aload_n 0, 1) := by decide +kernel
theorem dX5_missed_17 : decode cX5_missed 17 = .ok (.iload_n 1, 1) := by decide +kernel
theorem dX5_missed_18 : decode cX5_missed 18 = .ok (.iload_n 2, 1) := by decide +kernel
theorem dX5_missed_19 : decode cX5_missed 19 = .ok (.invokevirtual 194, 3) := by decide +kernel
theorem dX5_missed_22 : decode cX5_missed 22 = .ok (.ireturn, 1) := by decide +kernel
set_option maxRecDepth 20000 in
theorem ggX5_ways_X3_countWays : GoodIn wsX5_ways wsX3_countWays := goodIn_r _ [6, 7, 8, 9, 10, 11, 5, 12, 13, 14, 15, 16, 17, 18, 19, 20, 21, 22, 23, 24, 25, 26, 27, 28, 29, 30, 31, 32, 33, 34, 35, 36, 37, 38, 39, 40, 41, 42, 43, 44, 45, 46, 47, 48, 49, 50, 51, 52, 53, 54, 55, 56, 57, 58, 59, 60, 61, 62, 63, 64, 65, 66, 67, 68, 69, 70, 71, 72, 73, 74, 75, 76, 77, 78, 79, 80, 81, 82, 83, 84, 85, 86, 87, 88, 89, 90, 91, 92, 93, 94, 95, 96, 97, 98, 99, 100, 101, 102, 103, 104, 105, 113, 114, 115, 116, 117, 118, 119, 120, 121, 122, 123, 124, 125, 126, 127, 128, 129, 130, 131, 132] (by decide +kernel) (by decide +kernel)
set_option maxRecDepth 20000 in
theorem gX5_ways_X3_countWays : GoodIn wsX5_ways (wsV RX5 197 RX3 yX3_countWays wsX3_countWays) := goodIn_app (goodIn_of _ (by decide +kernel)) ggX5_ways_X3_countWays
theorem dX5_ways_0 : decode cX5_ways 0 = .ok (.aload_n 0, 1) := by decide +kernel
theorem dX5_ways_1 : decode cX5_ways 1 = .ok (.getfield 30, 3) := by decide +kernel
theorem dX5_ways_4 : decode cX5_ways 4 = .ok (.invokevirtual 197, 3) := by decide +kernel
theorem dX5_ways_7 : decode cX5_ways 7 = .ok (.ireturn, 1) := by decide +kernel
set_option maxRecDepth 20000 in
theorem ggX5_join_X3_findFirst : GoodIn wsX5_join wsX3_findFirst := goodIn_r _ [6, 7, 8, 9, 10, 11, 12, 13, 14, 15, 5, 16, 17, 18, 19, 20, 21, 22, 23, 24, 25, 26, 27, 28, 29, 30, 31, 32, 33, 34, 35, 36, 37, 38, 39, 40, 41, 42, 43, 44, 45, 46, 47, 48, 49, 50, 51, 52, 53, 54, 55, 56, 57, 58, 59, 60, 61, 62, 63, 64, 65, 66, 67, 68, 69, 70, 71, 72, 73, 74, 75, 76, 77, 78, 79, 80, 81, 82, 83, 84, 85, 86, 87, 88, 89, 90, 91, 92, 93, 94, 95, 96, 97, 98, 99, 100, 101, 102, 103, 104, 105, 106, 107, 115, 116, 117, 118, 119, 120, 121, 122, 123, 124, 125, 126, 127, 128, 129, 130, 131, 132, 133, 134] (by decide +kernel) (by decide +kernel)
set_option maxRecDepth 20000 in
theorem gX5_join_X3_findFirst : GoodIn wsX5_join (wsV RX5 200 RX3 yX3_findFirst wsX3_findFirst) := goodIn_app (goodIn_of _ (by decide +kernel)) ggX5_join_X3_findFirst
theorem dX5_join_0 : decode cX5_join 0 = .ok (.aload_n 0, 1) := by decide +kernel
theorem dX5_join_1 : decode cX5_join 1 = .ok (.getfield 30, 3) := by decide +kernel
theorem dX5_join_4 : decode cX5_join 4 = .ok (.invokevirtual 200, 3) := by decide +kernel
theorem dX5_join_7 : decode cX5_join 7 = .ok (.ireturn, 1) := by decide +kernel
set_option maxRecDepth 20000 in
theorem ggX5_joined_X3_hasJoined : GoodIn wsX5_joined wsX3_hasJoined := goodIn_r _ [7, 8, 39, 40, 41, 42, 43, 44, 45, 46, 47, 48, 49, 50, 51] (by decide +kernel) (by decide +kernel)
set_option maxRecDepth 20000 in
theorem gX5_joined_X3_hasJoined : GoodIn wsX5_joined (wsV RX5 203 RX3 yX3_hasJoined wsX3_hasJoined) := goodIn_app (goodIn_of _ (by decide +kernel)) ggX5_joined_X3_hasJoined
set_option maxRecDepth 20000 in
theorem ggX5_joined_X1_hasPiece : GoodIn wsX5_joined wsX1_hasPiece := goodIn_r _ [13, 14, 15, 16, 12, 17, 18, 19, 52, 53, 54, 55] (by decide +kernel) (by decide +kernel)
set_option maxRecDepth 20000 in
theorem gX5_joined_X1_hasPiece : GoodIn wsX5_joined (wsV RX5 154 RX1 yX1_hasPiece wsX1_hasPiece) := goodIn_app (goodIn_of _ (by decide +kernel)) ggX5_joined_X1_hasPiece
set_option maxRecDepth 20000 in
theorem ggX5_joined_X3_joinedFrom : GoodIn wsX5_joined wsX3_joinedFrom := goodIn_r _ [23, 24, 25, 26, 6, 27, 39, 40, 41, 42, 43, 44, 45, 46, 47, 48, 49, 50, 51] (by decide +kernel) (by decide +kernel)
set_option maxRecDepth 20000 in
theorem gX5_joined_X3_joinedFrom : GoodIn wsX5_joined (wsV RX5 206 RX3 yX3_joinedFrom wsX3_joinedFrom) := goodIn_app (goodIn_of _ (by decide +kernel)) ggX5_joined_X3_joinedFrom
set_option maxRecDepth 20000 in
theorem ggX5_joined_X3_joinedTurn : GoodIn wsX5_joined wsX3_joinedTurn := goodIn_r _ [31, 24, 25, 26, 6, 27, 39, 40, 41, 42, 43, 44, 45, 46, 47, 48, 49, 50, 51] (by decide +kernel) (by decide +kernel)
set_option maxRecDepth 20000 in
theorem gX5_joined_X3_joinedTurn : GoodIn wsX5_joined (wsV RX5 209 RX3 yX3_joinedTurn wsX3_joinedTurn) := goodIn_app (goodIn_of _ (by decide +kernel)) ggX5_joined_X3_joinedTurn
theorem dX5_joined_0 : decode cX5_joined 0 = .ok (.aload_n 0, 1) := by decide +kernel
theorem dX5_joined_1 : decode cX5_joined 1 = .ok (.getfield 30, 3) := by decide +kernel
theorem dX5_joined_4 : decode cX5_joined 4 = .ok (.invokevirtual 203, 3) := by decide +kernel
theorem dX5_joined_7 : decode cX5_joined 7 = .ok (.ifCond .ne 6, 3) := by decide +kernel
theorem dX5_joined_10 : decode cX5_joined 10 = .ok (.bipush (-3), 2) := by decide +kernel
theorem dX5_joined_12 : decode cX5_joined 12 = .ok (.ireturn, 1) := by decide +kernel
theorem dX5_joined_13 : decode cX5_joined 13 = .ok (.aload_n 0, 1) := by decide +kernel
theorem dX5_joined_14 : decode cX5_joined 14 = .ok (.getfield 12, 3) := by decide +kernel
theorem dX5_joined_17 : decode cX5_joined 17 = .ok (.iload_n 1, 1) := by decide +kernel
theorem dX5_joined_18 : decode cX5_joined 18 = .ok (.invokevirtual 154, 3) := by decide +kernel
theorem dX5_joined_21 : decode cX5_joined 21 = .ok (.ifCond .ne 5, 3) := by decide +kernel
theorem dX5_joined_24 : decode cX5_joined 24 = .ok (.iconst (-1), 1) := by decide +kernel
theorem dX5_joined_25 : decode cX5_joined 25 = .ok (.ireturn, 1) := by decide +kernel
theorem dX5_joined_26 : decode cX5_joined 26 = .ok (.iload_n 2, 1) := by decide +kernel
theorem dX5_joined_27 : decode cX5_joined 27 = .ok (.lookupswitch 43 #[(0, 25), (1, 34)], 25) := by decide +kernel
theorem dX5_joined_52 : decode cX5_joined 52 = .ok (.aload_n 0, 1) := by decide +kernel
theorem dX5_joined_53 : decode cX5_joined 53 = .ok (.getfield 30, 3) := by decide +kernel
theorem dX5_joined_56 : decode cX5_joined 56 = .ok (.iload_n 1, 1) := by decide +kernel
theorem dX5_joined_57 : decode cX5_joined 57 = .ok (.invokevirtual 206, 3) := by decide +kernel
theorem dX5_joined_60 : decode cX5_joined 60 = .ok (.ireturn, 1) := by decide +kernel
theorem dX5_joined_61 : decode cX5_joined 61 = .ok (.aload_n 0, 1) := by decide +kernel
theorem dX5_joined_62 : decode cX5_joined 62 = .ok (.getfield 30, 3) := by decide +kernel
theorem dX5_joined_65 : decode cX5_joined 65 = .ok (.iload_n 1, 1) := by decide +kernel
theorem dX5_joined_66 : decode cX5_joined 66 = .ok (.invokevirtual 209, 3) := by decide +kernel
theorem dX5_joined_69 : decode cX5_joined 69 = .ok (.ireturn, 1) := by decide +kernel
theorem dX5_joined_70 : decode cX5_joined 70 = .ok (.bipush (-2), 2) := by decide +kernel
theorem dX5_joined_72 : decode cX5_joined 72 = .ok (.ireturn, 1) := by decide +kernel
set_option maxRecDepth 20000 in
theorem ggX5_trials_X3_trialsCounted : GoodIn wsX5_trials wsX3_trialsCounted := goodIn_r _ [6, 7, 15, 16, 17, 18, 19, 20, 21, 22, 23, 24, 25, 26, 27] (by decide +kernel) (by decide +kernel)
set_option maxRecDepth 20000 in
theorem gX5_trials_X3_trialsCounted : GoodIn wsX5_trials (wsV RX5 212 RX3 yX3_trialsCounted wsX3_trialsCounted) := goodIn_app (goodIn_of _ (by decide +kernel)) ggX5_trials_X3_trialsCounted
theorem dX5_trials_0 : decode cX5_trials 0 = .ok (.aload_n 0, 1) := by decide +kernel
theorem dX5_trials_1 : decode cX5_trials 1 = .ok (.getfield 30, 3) := by decide +kernel
theorem dX5_trials_4 : decode cX5_trials 4 = .ok (.invokevirtual 212, 3) := by decide +kernel
theorem dX5_trials_7 : decode cX5_trials 7 = .ok (.ireturn, 1) := by decide +kernel
set_option maxRecDepth 20000 in
theorem ggX5_known_X1_hasPiece : GoodIn wsX5_known wsX1_hasPiece := goodIn_r _ [7, 8, 9, 10, 6, 11, 12, 13, 41, 42, 43, 44] (by decide +kernel) (by decide +kernel)
set_option maxRecDepth 20000 in
theorem gX5_known_X1_hasPiece : GoodIn wsX5_known (wsV RX5 154 RX1 yX1_hasPiece wsX1_hasPiece) := goodIn_app (goodIn_of _ (by decide +kernel)) ggX5_known_X1_hasPiece
set_option maxRecDepth 20000 in
theorem ggX5_known_X2_timesOf : GoodIn wsX5_known wsX2_timesOf := goodIn_r _ [18, 19, 20, 45, 46, 47] (by decide +kernel) (by decide +kernel)
set_option maxRecDepth 20000 in
theorem gX5_known_X2_timesOf : GoodIn wsX5_known (wsV RX5 215 RX2 yX2_timesOf wsX2_timesOf) := goodIn_app (goodIn_of _ (by decide +kernel)) ggX5_known_X2_timesOf
set_option maxRecDepth 20000 in
theorem ggX5_known_X1_isFlat : GoodIn wsX5_known wsX1_isFlat := goodIn_r _ [24, 25, 26, 27, 6, 28, 29, 41, 42, 43, 44] (by decide +kernel) (by decide +kernel)
set_option maxRecDepth 20000 in
theorem gX5_known_X1_isFlat : GoodIn wsX5_known (wsV RX5 132 RX1 yX1_isFlat wsX1_isFlat) := goodIn_app (goodIn_of _ (by decide +kernel)) ggX5_known_X1_isFlat
set_option maxRecDepth 20000 in
theorem ggX5_known_X1_nextTo : GoodIn wsX5_known wsX1_nextTo := goodIn_r _ [33, 12, 41, 42, 43, 44] (by decide +kernel) (by decide +kernel)
set_option maxRecDepth 20000 in
theorem gX5_known_X1_nextTo : GoodIn wsX5_known (wsV RX5 218 RX1 yX1_nextTo wsX1_nextTo) := goodIn_app (goodIn_of _ (by decide +kernel)) ggX5_known_X1_nextTo
theorem dX5_known_0 : decode cX5_known 0 = .ok (.aload_n 0, 1) := by decide +kernel
theorem dX5_known_1 : decode cX5_known 1 = .ok (.getfield 12, 3) := by decide +kernel
theorem dX5_known_4 : decode cX5_known 4 = .ok (.iload_n 1, 1) := by decide +kernel
theorem dX5_known_5 : decode cX5_known 5 = .ok (.invokevirtual 154, 3) := by decide +kernel
theorem dX5_known_8 : decode cX5_known 8 = .ok (.ifCond .ne 5, 3) := by decide +kernel
theorem dX5_known_11 : decode cX5_known 11 = .ok (.iconst (-1), 1) := by decide +kernel
theorem dX5_known_12 : decode cX5_known 12 = .ok (.ireturn, 1) := by decide +kernel
theorem dX5_known_13 : decode cX5_known 13 = .ok (.aload_n 0, 1) := by decide +kernel
theorem dX5_known_14 : decode cX5_known 14 = .ok (.getfield 21, 3) := by decide +kernel
theorem dX5_known_17 : decode cX5_known 17 = .ok (.iload_n 1, 1) := by decide +kernel
theorem dX5_known_18 : decode cX5_known 18 = .ok (.invokevirtual 215, 3) := by decide +kernel
theorem dX5_known_21 : decode cX5_known 21 = .ok (.ifCond .le 6, 3) := by decide +kernel
theorem dX5_known_24 : decode cX5_known 24 = .ok (.bipush (-3), 2) := by decide +kernel
theorem dX5_known_26 : decode cX5_known 26 = .ok (.ireturn, 1) := by decide +kernel
theorem dX5_known_27 : decode cX5_known 27 = .ok (.iconst 0, 1) := by decide +kernel
theorem dX5_known_28 : decode cX5_known 28 = .ok (.istore_n 2, 1) := by decide +kernel
theorem dX5_known_29 : decode cX5_known 29 = .ok (.iconst 0, 1) := by decide +kernel
theorem dX5_known_30 : decode cX5_known 30 = .ok (.istore_n 3, 1) := by decide +kernel
theorem dX5_known_31 : decode cX5_known 31 = .ok (.iload_n 3, 1) := by decide +kernel
theorem dX5_known_32 : decode cX5_known 32 = .ok (.iconst 4, 1) := by decide +kernel
theorem dX5_known_33 : decode cX5_known 33 = .ok (.if_icmp .ge 43, 3) := by decide +kernel
theorem dX5_known_36 : decode cX5_known 36 = .ok (.aload_n 0, 1) := by decide +kernel
theorem dX5_known_37 : decode cX5_known 37 = .ok (.getfield 12, 3) := by decide +kernel
theorem dX5_known_40 : decode cX5_known 40 = .ok (.iload_n 1, 1) := by decide +kernel
theorem dX5_known_41 : decode cX5_known 41 = .ok (.iload_n 3, 1) := by decide +kernel
theorem dX5_known_42 : decode cX5_known 42 = .ok (.invokevirtual 132, 3) := by decide +kernel
theorem dX5_known_45 : decode cX5_known 45 = .ok (.ifCond .ne 25, 3) := by decide +kernel
theorem dX5_known_48 : decode cX5_known 48 = .ok (.aload_n 0, 1) := by decide +kernel
theorem dX5_known_49 : decode cX5_known 49 = .ok (.getfield 21, 3) := by decide +kernel
theorem dX5_known_52 : decode cX5_known 52 = .ok (.aload_n 0, 1) := by decide +kernel
theorem dX5_known_53 : decode cX5_known 53 = .ok (.getfield 12, 3) := by decide +kernel
theorem dX5_known_56 : decode cX5_known 56 = .ok (.iload_n 1, 1) := by decide +kernel
theorem dX5_known_57 : decode cX5_known 57 = .ok (.iload_n 3, 1) := by decide +kernel
theorem dX5_known_58 : decode cX5_known 58 = .ok (.invokevirtual 218, 3) := by decide +kernel
theorem dX5_known_61 : decode cX5_known 61 = .ok (.invokevirtual 215, 3) := by decide +kernel
theorem dX5_known_64 : decode cX5_known 64 = .ok (.ifCond .le 6, 3) := by decide +kernel
theorem dX5_known_67 : decode cX5_known 67 = .ok (.iinc 2 5, 3) := by decide +kernel
theorem dX5_known_70 : decode cX5_known 70 = .ok (.iinc 3 1, 3) := by decide +kernel
theorem dX5_known_73 : decode cX5_known 73 = .ok (.goto (-42), 3) := by decide +kernel
theorem dX5_known_76 : decode cX5_known 76 = .ok (.iload_n 2, 1) := by decide +kernel
theorem dX5_known_77 : decode cX5_known 77 = .ok (.ireturn, 1) := by decide +kernel
set_option maxRecDepth 20000 in
theorem ggX5_sheet_X5_isSheet : GoodIn wsX5_sheet wsX5_isSheet := goodIn_r _ [6] (by decide +kernel) (by decide +kernel)
set_option maxRecDepth 20000 in
theorem gX5_sheet_X5_isSheet : GoodIn wsX5_sheet (va_wsS RX5 94 yX5_isSheet wsX5_isSheet) := goodIn_app (goodIn_of _ (by decide +kernel)) ggX5_sheet_X5_isSheet
set_option maxRecDepth 20000 in
theorem ggX5_sheet_X5_isLane : GoodIn wsX5_sheet wsX5_isLane := goodIn_r _ [9] (by decide +kernel) (by decide +kernel)
set_option maxRecDepth 20000 in
theorem gX5_sheet_X5_isLane : GoodIn wsX5_sheet (va_wsS RX5 97 yX5_isLane wsX5_isLane) := goodIn_app (goodIn_of _ (by decide +kernel)) ggX5_sheet_X5_isLane
set_option maxRecDepth 20000 in
theorem ggX5_sheet_X5_come : GoodIn wsX5_sheet wsX5_come := goodIn_r _ [13, 1, 30, 31, 32, 33, 34, 35, 36] (by decide +kernel) (by decide +kernel)
set_option maxRecDepth 20000 in
theorem gX5_sheet_X5_come : GoodIn wsX5_sheet (wsV RX5 103 RX5 yX5_come wsX5_come) := goodIn_app (goodIn_of _ (by decide +kernel)) ggX5_sheet_X5_come
set_option maxRecDepth 20000 in
theorem ggX5_sheet_X4_renew : GoodIn wsX5_sheet wsX4_renew := goodIn_r _ [18, 19, 20, 21, 22, 23, 24, 25, 26, 27, 28, 29, 37, 38, 39, 40] (by decide +kernel) (by decide +kernel)
set_option maxRecDepth 20000 in
theorem gX5_sheet_X4_renew : GoodIn wsX5_sheet (wsV RX5 221 RX4 yX4_renew wsX4_renew) := goodIn_app (goodIn_of _ (by decide +kernel)) ggX5_sheet_X4_renew
theorem dX5_sheet_0 : decode cX5_sheet 0 = .ok (.aload_n 0, 1) := by decide +kernel
theorem dX5_sheet_1 : decode cX5_sheet 1 = .ok (.iconst 0, 1) := by decide +kernel
theorem dX5_sheet_2 : decode cX5_sheet 2 = .ok (.putfield 90, 3) := by decide +kernel
theorem dX5_sheet_5 : decode cX5_sheet 5 = .ok (.iload_n 1, 1) := by decide +kernel
theorem dX5_sheet_6 : decode cX5_sheet 6 = .ok (.invokestatic 94, 3) := by decide +kernel
theorem dX5_sheet_9 : decode cX5_sheet 9 = .ok (.ifCond .ne 5, 3) := by decide +kernel
theorem dX5_sheet_12 : decode cX5_sheet 12 = .ok (.iconst (-1), 1) := by decide +kernel
theorem dX5_sheet_13 : decode cX5_sheet 13 = .ok (.ireturn, 1) := by decide +kernel
theorem dX5_sheet_14 : decode cX5_sheet 14 = .ok (.iload_n 2, 1) := by decide +kernel
theorem dX5_sheet_15 : decode cX5_sheet 15 = .ok (.invokestatic 97, 3) := by decide +kernel
theorem dX5_sheet_18 : decode cX5_sheet 18 = .ok (.ifCond .eq 9, 3) := by decide +kernel
theorem dX5_sheet_21 : decode cX5_sheet 21 = .ok (.iload_n 3, 1) := by decide +kernel
theorem dX5_sheet_22 : decode cX5_sheet 22 = .ok (.bipush 50, 2) := by decide +kernel
theorem dX5_sheet_24 : decode cX5_sheet 24 = .ok (.if_icmp .le 6, 3) := by decide +kernel
theorem dX5_sheet_27 : decode cX5_sheet 27 = .ok (.bipush (-2), 2) := by decide +kernel
theorem dX5_sheet_29 : decode cX5_sheet 29 = .ok (.ireturn, 1) := by decide +kernel
theorem dX5_sheet_30 : decode cX5_sheet 30 = .ok (.iload_n 3, 1) := by decide +kernel
theorem dX5_sheet_31 : decode cX5_sheet 31 = .ok (.ifCond .ge 9, 3) := by decide +kernel
theorem dX5_sheet_34 : decode cX5_sheet 34 = .ok (.aload_n 0, 1) := by decide +kernel
theorem dX5_sheet_35 : decode cX5_sheet 35 = .ok (.iconst 4, 1) := by decide +kernel
theorem dX5_sheet_36 : decode cX5_sheet 36 = .ok (.invokevirtual 103, 3) := by decide +kernel
theorem dX5_sheet_39 : decode cX5_sheet 39 = .ok (.ireturn, 1) := by decide +kernel
theorem dX5_sheet_40 : decode cX5_sheet 40 = .ok (.aload_n 0, 1) := by decide +kernel
theorem dX5_sheet_41 : decode cX5_sheet 41 = .ok (.getfield 43, 3) := by decide +kernel
theorem dX5_sheet_44 : decode cX5_sheet 44 = .ok (.iload_n 1, 1) := by decide +kernel
theorem dX5_sheet_45 : decode cX5_sheet 45 = .ok (.aaload, 1) := by decide +kernel
theorem dX5_sheet_46 : decode cX5_sheet 46 = .ok (.iload_n 2, 1) := by decide +kernel
theorem dX5_sheet_47 : decode cX5_sheet 47 = .ok (.iload_n 3, 1) := by decide +kernel
theorem dX5_sheet_48 : decode cX5_sheet 48 = .ok (.invokevirtual 221, 3) := by decide +kernel
theorem dX5_sheet_51 : decode cX5_sheet 51 = .ok (.iconst 1, 1) := by decide +kernel
theorem dX5_sheet_52 : decode cX5_sheet 52 = .ok (.ireturn, 1) := by decide +kernel
set_option maxRecDepth 20000 in
theorem ggX5_lose_X5_isSheet : GoodIn wsX5_lose wsX5_isSheet := goodIn_r _ [5] (by decide +kernel) (by decide +kernel)
set_option maxRecDepth 20000 in
theorem gX5_lose_X5_isSheet : GoodIn wsX5_lose (va_wsS RX5 94 yX5_isSheet wsX5_isSheet) := goodIn_app (goodIn_of _ (by decide +kernel)) ggX5_lose_X5_isSheet
set_option maxRecDepth 20000 in
theorem ggX5_lose_X4_isThere : GoodIn wsX5_lose wsX4_isThere := goodIn_r _ [10, 11, 24, 25, 26, 27] (by decide +kernel) (by decide +kernel)
set_option maxRecDepth 20000 in
theorem gX5_lose_X4_isThere : GoodIn wsX5_lose (wsV RX5 106 RX4 yX4_isThere wsX4_isThere) := goodIn_app (goodIn_of _ (by decide +kernel)) ggX5_lose_X4_isThere
set_option maxRecDepth 20000 in
theorem ggX5_lose_X4_drop : GoodIn wsX5_lose wsX4_drop := goodIn_r _ [15, 11, 16, 24, 25, 26, 27] (by decide +kernel) (by decide +kernel)
set_option maxRecDepth 20000 in
theorem gX5_lose_X4_drop : GoodIn wsX5_lose (wsV RX5 224 RX4 yX4_drop wsX4_drop) := goodIn_app (goodIn_of _ (by decide +kernel)) ggX5_lose_X4_drop
theorem dX5_lose_0 : decode cX5_lose 0 = .ok (.iload_n 1, 1) := by decide +kernel
theorem dX5_lose_1 : decode cX5_lose 1 = .ok (.invokestatic 94, 3) := by decide +kernel
theorem dX5_lose_4 : decode cX5_lose 4 = .ok (.ifCond .ne 5, 3) := by decide +kernel
theorem dX5_lose_7 : decode cX5_lose 7 = .ok (.iconst (-1), 1) := by decide +kernel
theorem dX5_lose_8 : decode cX5_lose 8 = .ok (.ireturn, 1) := by decide +kernel
theorem dX5_lose_9 : decode cX5_lose 9 = .ok (.aload_n 0, 1) := by decide +kernel
theorem dX5_lose_10 : decode cX5_lose 10 = .ok (.getfield 43, 3) := by decide +kernel
theorem dX5_lose_13 : decode cX5_lose 13 = .ok (.iload_n 1, 1) := by decide +kernel
theorem dX5_lose_14 : decode cX5_lose 14 = .ok (.aaload, 1) := by decide +kernel
theorem dX5_lose_15 : decode cX5_lose 15 = .ok (.invokevirtual 106, 3) := by decide +kernel
theorem dX5_lose_18 : decode cX5_lose 18 = .ok (.ifCond .eq 7, 3) := by decide +kernel
theorem dX5_lose_21 : decode cX5_lose 21 = .ok (.iconst 1, 1) := by decide +kernel
theorem dX5_lose_22 : decode cX5_lose 22 = .ok (.goto 4, 3) := by decide +kernel
theorem dX5_lose_25 : decode cX5_lose 25 = .ok (.iconst 0, 1) := by decide +kernel
theorem dX5_lose_26 : decode cX5_lose 26 = .ok (.istore_n 2, 1) := by decide +kernel
theorem dX5_lose_27 : decode cX5_lose 27 = .ok (.aload_n 0, 1) := by decide +kernel
theorem dX5_lose_28 : decode cX5_lose 28 = .ok (.getfield 43, 3) := by decide +kernel
theorem dX5_lose_31 : decode cX5_lose 31 = .ok (.iload_n 1, 1) := by decide +kernel
theorem dX5_lose_32 : decode cX5_lose 32 = .ok (.aaload, 1) := by decide +kernel
theorem dX5_lose_33 : decode cX5_lose 33 = .ok (.invokevirtual 224, 3) := by decide +kernel
theorem dX5_lose_36 : decode cX5_lose 36 = .ok (.iload_n 2, 1) := by decide +kernel
theorem dX5_lose_37 : decode cX5_lose 37 = .ok (.ireturn, 1) := by decide +kernel
set_option maxRecDepth 20000 in
theorem ggX5_put_X5_isSheet : GoodIn wsX5_put wsX5_isSheet := goodIn_r _ [6] (by decide +kernel) (by decide +kernel)
set_option maxRecDepth 20000 in
theorem gX5_put_X5_isSheet : GoodIn wsX5_put (va_wsS RX5 94 yX5_isSheet wsX5_isSheet) := goodIn_app (goodIn_of _ (by decide +kernel)) ggX5_put_X5_isSheet
set_option maxRecDepth 20000 in
theorem ggX5_put_X4_isThere : GoodIn wsX5_put wsX4_isThere := goodIn_r _ [11, 12, 40, 41, 42, 43] (by decide +kernel) (by decide +kernel)
set_option maxRecDepth 20000 in
theorem gX5_put_X4_isThere : GoodIn wsX5_put (wsV RX5 106 RX4 yX4_isThere wsX4_isThere) := goodIn_app (goodIn_of _ (by decide +kernel)) ggX5_put_X4_isThere
set_option maxRecDepth 20000 in
theorem ggX5_put_X5_come : GoodIn wsX5_put wsX5_come := goodIn_r _ [16, 1, 33, 34, 35, 36, 37, 38, 39] (by decide +kernel) (by decide +kernel)
set_option maxRecDepth 20000 in
theorem gX5_put_X5_come : GoodIn wsX5_put (wsV RX5 103 RX5 yX5_come wsX5_come) := goodIn_app (goodIn_of _ (by decide +kernel)) ggX5_put_X5_come
set_option maxRecDepth 20000 in
theorem ggX5_put_X4_holds : GoodIn wsX5_put wsX4_holds := goodIn_r _ [20, 21, 40, 41, 42, 43] (by decide +kernel) (by decide +kernel)
set_option maxRecDepth 20000 in
theorem gX5_put_X4_holds : GoodIn wsX5_put (wsV RX5 112 RX4 yX4_holds wsX4_holds) := goodIn_app (goodIn_of _ (by decide +kernel)) ggX5_put_X4_holds
set_option maxRecDepth 20000 in
theorem ggX5_put_X4_write : GoodIn wsX5_put wsX4_write := goodIn_r _ [25, 26, 27, 18, 19, 10, 20, 21, 28, 29, 30, 31, 32, 40, 41, 42, 43] (by decide +kernel) (by decide +kernel)
set_option maxRecDepth 20000 in
theorem gX5_put_X4_write : GoodIn wsX5_put (wsV RX5 227 RX4 yX4_write wsX4_write) := goodIn_app (goodIn_of _ (by decide +kernel)) ggX5_put_X4_write
theorem dX5_put_0 : decode cX5_put 0 = .ok (.aload_n 0, 1) := by decide +kernel
theorem dX5_put_1 : decode cX5_put 1 = .ok (.iconst 0, 1) := by decide +kernel
theorem dX5_put_2 : decode cX5_put 2 = .ok (.putfield 90, 3) := by decide +kernel
theorem dX5_put_5 : decode cX5_put 5 = .ok (.iload_n 1, 1) := by decide +kernel
theorem dX5_put_6 : decode cX5_put 6 = .ok (.invokestatic 94, 3) := by decide +kernel
theorem dX5_put_9 : decode cX5_put 9 = .ok (.ifCond .ne 5, 3) := by decide +kernel
theorem dX5_put_12 : decode cX5_put 12 = .ok (.iconst (-1), 1) := by decide +kernel
theorem dX5_put_13 : decode cX5_put 13 = .ok (.ireturn, 1) := by decide +kernel
theorem dX5_put_14 : decode cX5_put 14 = .ok (.aload_n 0, 1) := by decide +kernel
theorem dX5_put_15 : decode cX5_put 15 = .ok (.getfield 43, 3) := by decide +kernel
theorem dX5_put_18 : decode cX5_put 18 = .ok (.iload_n 1, 1) := by decide +kernel
theorem dX5_put_19 : decode cX5_put 19 = .ok (.aaload, 1) := by decide +kernel
theorem dX5_put_20 : decode cX5_put 20 = .ok (.invokevirtual 106, 3) := by decide +kernel
theorem dX5_put_23 : decode cX5_put 23 = .ok (.ifCond .ne 9, 3) := by decide +kernel
theorem dX5_put_26 : decode cX5_put 26 = .ok (.aload_n 0, 1) := by decide +kernel
theorem dX5_put_27 : decode cX5_put 27 = .ok (.iconst 1, 1) := by decide +kernel
theorem dX5_put_28 : decode cX5_put 28 = .ok (.invokevirtual 103, 3) := by decide +kernel
theorem dX5_put_31 : decode cX5_put 31 = .ok (.ireturn, 1) := by decide +kernel
theorem dX5_put_32 : decode cX5_put 32 = .ok (.aload_n 0, 1) := by decide +kernel
theorem dX5_put_33 : decode cX5_put 33 = .ok (.getfield 43, 3) := by decide +kernel
theorem dX5_put_36 : decode cX5_put 36 = .ok (.iload_n 1, 1) := by decide +kernel
theorem dX5_put_37 : decode cX5_put 37 = .ok (.aaload, 1) := by decide +kernel
theorem dX5_put_38 : decode cX5_put 38 = .ok (.iload_n 2, 1) := by decide +kernel
theorem dX5_put_39 : decode cX5_put 39 = .ok (.lconst 1, 1) := by decide +kernel
theorem dX5_put_40 : decode cX5_put 40 = .ok (.invokevirtual 112, 3) := by decide +kernel
theorem dX5_put_43 : decode cX5_put 43 = .ok (.ifCond .ne 9, 3) := by decide +kernel
theorem dX5_put_46 : decode cX5_put 46 = .ok (.aload_n 0, 1) := by decide +kernel
theorem dX5_put_47 : decode cX5_put 47 = .ok (.iconst 3, 1) := by decide +kernel
theorem dX5_put_48 : decode cX5_put 48 = .ok (.invokevirtual 103, 3) := by decide +kernel
theorem dX5_put_51 : decode cX5_put 51 = .ok (.ireturn, 1) := by decide +kernel
theorem dX5_put_52 : decode cX5_put 52 = .ok (.aload_n 0, 1) := by decide +kernel
theorem dX5_put_53 : decode cX5_put 53 = .ok (.getfield 43, 3) := by decide +kernel
theorem dX5_put_56 : decode cX5_put 56 = .ok (.iload_n 1, 1) := by decide +kernel
theorem dX5_put_57 : decode cX5_put 57 = .ok (.aaload, 1) := by decide +kernel
theorem dX5_put_58 : decode cX5_put 58 = .ok (.iload_n 2, 1) := by decide +kernel
theorem dX5_put_59 : decode cX5_put 59 = .ok (.iload_n 3, 1) := by decide +kernel
theorem dX5_put_60 : decode cX5_put 60 = .ok (.invokevirtual 227, 3) := by decide +kernel
theorem dX5_put_63 : decode cX5_put 63 = .ok (.iconst 1, 1) := by decide +kernel
theorem dX5_put_64 : decode cX5_put 64 = .ok (.ireturn, 1) := by decide +kernel
set_option maxRecDepth 20000 in
theorem ggX5_cell_X5_isSheet : GoodIn wsX5_cell wsX5_isSheet := goodIn_r _ [7] (by decide +kernel) (by decide +kernel)
set_option maxRecDepth 20000 in
theorem gX5_cell_X5_isSheet : GoodIn wsX5_cell (va_wsS RX5 94 yX5_isSheet wsX5_isSheet) := goodIn_app (goodIn_of _ (by decide +kernel)) ggX5_cell_X5_isSheet
set_option maxRecDepth 20000 in
theorem ggX5_cell_X5_isLane : GoodIn wsX5_cell wsX5_isLane := goodIn_r _ [10] (by decide +kernel) (by decide +kernel)
set_option maxRecDepth 20000 in
theorem gX5_cell_X5_isLane : GoodIn wsX5_cell (va_wsS RX5 97 yX5_isLane wsX5_isLane) := goodIn_app (goodIn_of _ (by decide +kernel)) ggX5_cell_X5_isLane
set_option maxRecDepth 20000 in
theorem ggX5_cell_X4_isOfOther : GoodIn wsX5_cell wsX4_isOfOther := goodIn_r _ [15, 16, 17, 44, 45, 46, 47] (by decide +kernel) (by decide +kernel)
set_option maxRecDepth 20000 in
theorem gX5_cell_X4_isOfOther : GoodIn wsX5_cell (wsV RX5 100 RX4 yX4_isOfOther wsX4_isOfOther) := goodIn_app (goodIn_of _ (by decide +kernel)) ggX5_cell_X4_isOfOther
set_option maxRecDepth 20000 in
theorem ggX5_cell_X5_comeLost : GoodIn wsX5_cell wsX5_comeLost := goodIn_r _ [21, 1, 2, 37, 38, 39, 40, 41, 42, 43] (by decide +kernel) (by decide +kernel)
set_option maxRecDepth 20000 in
theorem gX5_cell_X5_comeLost : GoodIn wsX5_cell (wsV RX5 230 RX5 yX5_comeLost wsX5_comeLost) := goodIn_app (goodIn_of _ (by decide +kernel)) ggX5_cell_X5_comeLost
set_option maxRecDepth 20000 in
theorem ggX5_cell_X4_isThere : GoodIn wsX5_cell wsX4_isThere := goodIn_r _ [25, 16, 44, 45, 46, 47] (by decide +kernel) (by decide +kernel)
set_option maxRecDepth 20000 in
theorem gX5_cell_X4_isThere : GoodIn wsX5_cell (wsV RX5 106 RX4 yX4_isThere wsX4_isThere) := goodIn_app (goodIn_of _ (by decide +kernel)) ggX5_cell_X4_isThere
set_option maxRecDepth 20000 in
theorem ggX5_cell_X4_holds : GoodIn wsX5_cell wsX4_holds := goodIn_r _ [29, 30, 44, 45, 46, 47] (by decide +kernel) (by decide +kernel)
set_option maxRecDepth 20000 in
theorem gX5_cell_X4_holds : GoodIn wsX5_cell (wsV RX5 112 RX4 yX4_holds wsX4_holds) := goodIn_app (goodIn_of _ (by decide +kernel)) ggX5_cell_X4_holds
set_option maxRecDepth 20000 in
theorem ggX5_cell_X4_read : GoodIn wsX5_cell wsX4_read := goodIn_r _ [34, 35, 36, 27, 28, 14, 29, 30, 44, 45, 46, 47] (by decide +kernel) (by decide +kernel)
set_option maxRecDepth 20000 in
theorem gX5_cell_X4_read : GoodIn wsX5_cell (wsV RX5 234 RX4 yX4_read wsX4_read) := goodIn_app (goodIn_of _ (by decide +kernel)) ggX5_cell_X4_read
theorem dX5_cell_0 : decode cX5_cell 0 = .ok (.aload_n 0, 1) := by decide +kernel
theorem dX5_cell_1 : decode cX5_cell 1 = .ok (.iconst 0, 1) := by decide +kernel
theorem dX5_cell_2 : decode cX5_cell 2 = .ok (.putfield 90, 3) := by decide +kernel
theorem dX5_cell_5 : decode cX5_cell 5 = .ok (.iload_n 1, 1) := by decide +kernel
theorem dX5_cell_6 : decode cX5_cell 6 = .ok (.invokestatic 94, 3) := by decide +kernel
theorem dX5_cell_9 : decode cX5_cell 9 = .ok (.ifCond .eq 10, 3) := by decide +kernel
theorem dX5_cell_12 : decode cX5_cell 12 = .ok (.iload_n 3, 1) := by decide +kernel
theorem dX5_cell_13 : decode cX5_cell 13 = .ok (.invokestatic 97, 3) := by decide +kernel
theorem dX5_cell_16 : decode cX5_cell 16 = .ok (.ifCond .ne 7, 3) := by decide +kernel
theorem dX5_cell_19 : decode cX5_cell 19 = .ok (.ldc2_w 84, 3) := by decide +kernel
theorem dX5_cell_22 : decode cX5_cell 22 = .ok (.lreturn, 1) := by decide +kernel
theorem dX5_cell_23 : decode cX5_cell 23 = .ok (.aload_n 0, 1) := by decide +kernel
theorem dX5_cell_24 : decode cX5_cell 24 = .ok (.getfield 43, 3) := by decide +kernel
theorem dX5_cell_27 : decode cX5_cell 27 = .ok (.iload_n 1, 1) := by decide +kernel
theorem dX5_cell_28 : decode cX5_cell 28 = .ok (.aaload, 1) := by decide +kernel
theorem dX5_cell_29 : decode cX5_cell 29 = .ok (.iload_n 3, 1) := by decide +kernel
theorem dX5_cell_30 : decode cX5_cell 30 = .ok (.invokevirtual 100, 3) := by decide +kernel
theorem dX5_cell_33 : decode cX5_cell 33 = .ok (.ifCond .eq 9, 3) := by decide +kernel
theorem dX5_cell_36 : decode cX5_cell 36 = .ok (.aload_n 0, 1) := by decide +kernel
theorem dX5_cell_37 : decode cX5_cell 37 = .ok (.iconst 2, 1) := by decide +kernel
theorem dX5_cell_38 : decode cX5_cell 38 = .ok (.invokevirtual 230, 3) := by decide +kernel
theorem dX5_cell_41 : decode cX5_cell 41 = .ok (.lreturn, 1) := by decide +kernel
theorem dX5_cell_42 : decode cX5_cell 42 = .ok (.aload_n 0, 1) := by decide +kernel
theorem dX5_cell_43 : decode cX5_cell 43 = .ok (.getfield 43, 3) := by decide +kernel
theorem dX5_cell_46 : decode cX5_cell 46 = .ok (.iload_n 1, 1) := by decide +kernel
theorem dX5_cell_47 : decode cX5_cell 47 = .ok (.aaload, 1) := by decide +kernel
theorem dX5_cell_48 : decode cX5_cell 48 = .ok (.invokevirtual 106, 3) := by decide +kernel
theorem dX5_cell_51 : decode cX5_cell 51 = .ok (.ifCond .ne 9, 3) := by decide +kernel
theorem dX5_cell_54 : decode cX5_cell 54 = .ok (.aload_n 0, 1) := by decide +kernel
theorem dX5_cell_55 : decode cX5_cell 55 = .ok (.iconst 1, 1) := by decide +kernel
theorem dX5_cell_56 : decode cX5_cell 56 = .ok (.invokevirtual 230, 3) := by decide +kernel
theorem dX5_cell_59 : decode cX5_cell 59 = .ok (.lreturn, 1) := by decide +kernel
theorem dX5_cell_60 : decode cX5_cell 60 = .ok (.aload_n 0, 1) := by decide +kernel
theorem dX5_cell_61 : decode cX5_cell 61 = .ok (.getfield 43, 3) := by decide +kernel
theorem dX5_cell_64 : decode cX5_cell 64 = .ok (.iload_n 1, 1) := by decide +kernel
theorem dX5_cell_65 : decode cX5_cell 65 = .ok (.aaload, 1) := by decide +kernel
theorem dX5_cell_66 : decode cX5_cell 66 = .ok (.iload_n 2, 1) := by decide +kernel
theorem dX5_cell_67 : decode cX5_cell 67 = .ok (.lconst 1, 1) := by decide +kernel
theorem dX5_cell_68 : decode cX5_cell 68 = .ok (.invokevirtual 112, 3) := by decide +kernel
theorem dX5_cell_71 : decode cX5_cell 71 = .ok (.ifCond .ne 9, 3) := by decide +kernel
theorem dX5_cell_74 : decode cX5_cell 74 = .ok (.aload_n 0, 1) := by decide +kernel
theorem dX5_cell_75 : decode cX5_cell 75 = .ok (.iconst 3, 1) := by decide +kernel
theorem dX5_cell_76 : decode cX5_cell 76 = .ok (.invokevirtual 230, 3) := by decide +kernel
theorem dX5_cell_79 : decode cX5_cell 79 = .ok (.lreturn, 1) := by decide +kernel
theorem dX5_cell_80 : decode cX5_cell 80 = .ok (.aload_n 0, 1) := by decide +kernel
theorem dX5_cell_81 : decode cX5_cell 81 = .ok (.getfield 43, 3) := by decide +kernel
theorem dX5_cell_84 : decode cX5_cell 84 = .ok (.iload_n 1, 1) := by decide +kernel
theorem dX5_cell_85 : decode cX5_cell 85 = .ok (.aaload, 1) := by decide +kernel
theorem dX5_cell_86 : decode cX5_cell 86 = .ok (.iload_n 2, 1) := by decide +kernel
theorem dX5_cell_87 : decode cX5_cell 87 = .ok (.invokevirtual 234, 3) := by decide +kernel
theorem dX5_cell_90 : decode cX5_cell 90 = .ok (.i2l, 1) := by decide +kernel
theorem dX5_cell_91 : decode cX5_cell 91 = .ok (.lreturn, 1) := by decide +kernel
set_option maxRecDepth 20000 in
theorem ggX5_copy_X5_isSheet : GoodIn wsX5_copy wsX5_isSheet := goodIn_r _ [6] (by decide +kernel) (by decide +kernel)
set_option maxRecDepth 20000 in
theorem gX5_copy_X5_isSheet : GoodIn wsX5_copy (va_wsS RX5 94 yX5_isSheet wsX5_isSheet) := goodIn_app (goodIn_of _ (by decide +kernel)) ggX5_copy_X5_isSheet
set_option maxRecDepth 20000 in
theorem ggX5_copy_X4_isThere : GoodIn wsX5_copy wsX4_isThere := goodIn_r _ [11, 12, 48, 49, 50, 51] (by decide +kernel) (by decide +kernel)
set_option maxRecDepth 20000 in
theorem gX5_copy_X4_isThere : GoodIn wsX5_copy (wsV RX5 106 RX4 yX4_isThere wsX4_isThere) := goodIn_app (goodIn_of _ (by decide +kernel)) ggX5_copy_X4_isThere
set_option maxRecDepth 20000 in
theorem ggX5_copy_X5_come : GoodIn wsX5_copy wsX5_come := goodIn_r _ [16, 1, 41, 42, 43, 44, 45, 46, 47] (by decide +kernel) (by decide +kernel)
set_option maxRecDepth 20000 in
theorem gX5_copy_X5_come : GoodIn wsX5_copy (wsV RX5 103 RX5 yX5_come wsX5_come) := goodIn_app (goodIn_of _ (by decide +kernel)) ggX5_copy_X5_come
set_option maxRecDepth 20000 in
theorem ggX5_copy_X4_laneHeld : GoodIn wsX5_copy wsX4_laneHeld := goodIn_r _ [20, 21, 48, 49, 50, 51] (by decide +kernel) (by decide +kernel)
set_option maxRecDepth 20000 in
theorem gX5_copy_X4_laneHeld : GoodIn wsX5_copy (wsV RX5 237 RX4 yX4_laneHeld wsX4_laneHeld) := goodIn_app (goodIn_of _ (by decide +kernel)) ggX5_copy_X4_laneHeld
set_option maxRecDepth 20000 in
theorem ggX5_copy_X4_isOfOther : GoodIn wsX5_copy wsX4_isOfOther := goodIn_r _ [25, 12, 21, 48, 49, 50, 51] (by decide +kernel) (by decide +kernel)
set_option maxRecDepth 20000 in
theorem gX5_copy_X4_isOfOther : GoodIn wsX5_copy (wsV RX5 100 RX4 yX4_isOfOther wsX4_isOfOther) := goodIn_app (goodIn_of _ (by decide +kernel)) ggX5_copy_X4_isOfOther
set_option maxRecDepth 20000 in
theorem ggX5_copy_X4_holds : GoodIn wsX5_copy wsX4_holds := goodIn_r _ [29, 30, 48, 49, 50, 51] (by decide +kernel) (by decide +kernel)
set_option maxRecDepth 20000 in
theorem gX5_copy_X4_holds : GoodIn wsX5_copy (wsV RX5 112 RX4 yX4_holds wsX4_holds) := goodIn_app (goodIn_of _ (by decide +kernel)) ggX5_copy_X4_holds
set_option maxRecDepth 20000 in
theorem ggX5_copy_X4_writeFrom : GoodIn wsX5_copy wsX4_writeFrom := goodIn_r _ [34, 35, 36, 37, 38, 39, 40, 27, 28, 10, 29, 30, 48, 49, 50, 51] (by decide +kernel) (by decide +kernel)
set_option maxRecDepth 20000 in
theorem gX5_copy_X4_writeFrom : GoodIn wsX5_copy (wsV RX5 240 RX4 yX4_writeFrom wsX4_writeFrom) := goodIn_app (goodIn_of _ (by decide +kernel)) ggX5_copy_X4_writeFrom
theorem dX5_copy_0 : decode cX5_copy 0 = .ok (.aload_n 0, 1) := by decide +kernel
theorem dX5_copy_1 : decode cX5_copy 1 = .ok (.iconst 0, 1) := by decide +kernel
theorem dX5_copy_2 : decode cX5_copy 2 = .ok (.putfield 90, 3) := by decide +kernel
theorem dX5_copy_5 : decode cX5_copy 5 = .ok (.iload_n 1, 1) := by decide +kernel
theorem dX5_copy_6 : decode cX5_copy 6 = .ok (.invokestatic 94, 3) := by decide +kernel
theorem dX5_copy_9 : decode cX5_copy 9 = .ok (.ifCond .eq 10, 3) := by decide +kernel
theorem dX5_copy_12 : decode cX5_copy 12 = .ok (.iload_n 3, 1) := by decide +kernel
theorem dX5_copy_13 : decode cX5_copy 13 = .ok (.invokestatic 94, 3) := by decide +kernel
theorem dX5_copy_16 : decode cX5_copy 16 = .ok (.ifCond .ne 5, 3) := by decide +kernel
theorem dX5_copy_19 : decode cX5_copy 19 = .ok (.iconst (-1), 1) := by decide +kernel
theorem dX5_copy_20 : decode cX5_copy 20 = .ok (.ireturn, 1) := by decide +kernel
theorem dX5_copy_21 : decode cX5_copy 21 = .ok (.aload_n 0, 1) := by decide +kernel
theorem dX5_copy_22 : decode cX5_copy 22 = .ok (.getfield 43, 3) := by decide +kernel
theorem dX5_copy_25 : decode cX5_copy 25 = .ok (.iload_n 1, 1) := by decide +kernel
theorem dX5_copy_26 : decode cX5_copy 26 = .ok (.aaload, 1) := by decide +kernel
theorem dX5_copy_27 : decode cX5_copy 27 = .ok (.astore 6, 2) := by decide +kernel
theorem dX5_copy_29 : decode cX5_copy 29 = .ok (.aload_n 0, 1) := by decide +kernel
theorem dX5_copy_30 : decode cX5_copy 30 = .ok (.getfield 43, 3) := by decide +kernel
theorem dX5_copy_33 : decode cX5_copy 33 = .ok (.iload_n 3, 1) := by decide +kernel
theorem dX5_copy_34 : decode cX5_copy 34 = .ok (.aaload, 1) := by decide +kernel
theorem dX5_copy_35 : decode cX5_copy 35 = .ok (.astore 7, 2) := by decide +kernel
theorem dX5_copy_37 : decode cX5_copy 37 = .ok (.aload 6, 2) := by decide +kernel
theorem dX5_copy_39 : decode cX5_copy 39 = .ok (.invokevirtual 106, 3) := by decide +kernel
theorem dX5_copy_42 : decode cX5_copy 42 = .ok (.ifCond .eq 11, 3) := by decide +kernel
theorem dX5_copy_45 : decode cX5_copy 45 = .ok (.aload 7, 2) := by decide +kernel
theorem dX5_copy_47 : decode cX5_copy 47 = .ok (.invokevirtual 106, 3) := by decide +kernel
theorem dX5_copy_50 : decode cX5_copy 50 = .ok (.ifCond .ne 9, 3) := by decide +kernel
theorem dX5_copy_53 : decode cX5_copy 53 = .ok (.aload_n 0, 1) := by decide +kernel
theorem dX5_copy_54 : decode cX5_copy 54 = .ok (.iconst 1, 1) := by decide +kernel
theorem dX5_copy_55 : decode cX5_copy 55 = .ok (.invokevirtual 103, 3) := by decide +kernel
theorem dX5_copy_58 : decode cX5_copy 58 = .ok (.ireturn, 1) := by decide +kernel
theorem dX5_copy_59 : decode cX5_copy 59 = .ok (.aload 6, 2) := by decide +kernel
theorem dX5_copy_61 : decode cX5_copy 61 = .ok (.aload 7, 2) := by decide +kernel
theorem dX5_copy_63 : decode cX5_copy 63 = .ok (.invokevirtual 237, 3) := by decide +kernel
theorem dX5_copy_66 : decode cX5_copy 66 = .ok (.invokevirtual 100, 3) := by decide +kernel
theorem dX5_copy_69 : decode cX5_copy 69 = .ok (.ifCond .eq 9, 3) := by decide +kernel
theorem dX5_copy_72 : decode cX5_copy 72 = .ok (.aload_n 0, 1) := by decide +kernel
theorem dX5_copy_73 : decode cX5_copy 73 = .ok (.iconst 2, 1) := by decide +kernel
theorem dX5_copy_74 : decode cX5_copy 74 = .ok (.invokevirtual 103, 3) := by decide +kernel
theorem dX5_copy_77 : decode cX5_copy 77 = .ok (.ireturn, 1) := by decide +kernel
theorem dX5_copy_78 : decode cX5_copy 78 = .ok (.aload 6, 2) := by decide +kernel
theorem dX5_copy_80 : decode cX5_copy 80 = .ok (.iload_n 2, 1) := by decide +kernel
theorem dX5_copy_81 : decode cX5_copy 81 = .ok (.iload 5, 2) := by decide +kernel
theorem dX5_copy_83 : decode cX5_copy 83 = .ok (.i2l, 1) := by decide +kernel
theorem dX5_copy_84 : decode cX5_copy 84 = .ok (.invokevirtual 112, 3) := by decide +kernel
theorem dX5_copy_87 : decode cX5_copy 87 = .ok (.ifCond .eq 16, 3) := by decide +kernel
theorem dX5_copy_90 : decode cX5_copy 90 = .ok (.aload 7, 2) := by decide +kernel
theorem dX5_copy_92 : decode cX5_copy 92 = .ok (.iload 4, 2) := by decide +kernel
theorem dX5_copy_94 : decode cX5_copy 94 = .ok (.iload 5, 2) := by decide +kernel
theorem dX5_copy_96 : decode cX5_copy 96 = .ok (.i2l, 1) := by decide +kernel
theorem dX5_copy_97 : decode cX5_copy 97 = .ok (.invokevirtual 112, 3) := by decide +kernel
theorem dX5_copy_100 : decode cX5_copy 100 = .ok (.ifCond .ne 9, 3) := by decide +kernel
theorem dX5_copy_103 : decode cX5_copy 103 = .ok (.aload_n 0, 1) := by decide +kernel
theorem dX5_copy_104 : decode cX5_copy 104 = .ok (.iconst 3, 1) := by decide +kernel
theorem dX5_copy_105 : decode cX5_copy 105 = .ok (.invokevirtual 103, 3) := by decide +kernel
theorem dX5_copy_108 : decode cX5_copy 108 = .ok (.ireturn, 1) := by decide +kernel
theorem dX5_copy_109 : decode cX5_copy 109 = .ok (.aload 7, 2) := by decide +kernel
theorem dX5_copy_111 : decode cX5_copy 111 = .ok (.aload 6, 2) := by decide +kernel
theorem dX5_copy_113 : decode cX5_copy 113 = .ok (.iload_n 2, 1) := by decide +kernel
theorem dX5_copy_114 : decode cX5_copy 114 = .ok (.iload 4, 2) := by decide +kernel
theorem dX5_copy_116 : decode cX5_copy 116 = .ok (.iload 5, 2) := by decide +kernel
theorem dX5_copy_118 : decode cX5_copy 118 = .ok (.invokevirtual 240, 3) := by decide +kernel
theorem dX5_copy_121 : decode cX5_copy 121 = .ok (.iload 5, 2) := by decide +kernel
theorem dX5_copy_123 : decode cX5_copy 123 = .ok (.ireturn, 1) := by decide +kernel
set_option maxRecDepth 20000 in
theorem ggX5_tell_X1_hasSide : GoodIn wsX5_tell wsX1_hasSide := goodIn_r _ [6, 7, 8, 9, 5, 10, 11, 12, 51, 52, 53, 54] (by decide +kernel) (by decide +kernel)
set_option maxRecDepth 20000 in
theorem gX5_tell_X1_hasSide : GoodIn wsX5_tell (wsV RX5 74 RX1 yX1_hasSide wsX1_hasSide) := goodIn_app (goodIn_of _ (by decide +kernel)) ggX5_tell_X1_hasSide
set_option maxRecDepth 20000 in
theorem ggX5_tell_X1_kindAt : GoodIn wsX5_tell wsX1_kindAt := goodIn_r _ [16, 17, 18, 19, 5, 20, 21, 22, 23, 24, 25, 7, 8, 9, 10, 11, 12, 26, 27, 28, 29, 51, 52, 53, 54] (by decide +kernel) (by decide +kernel)
set_option maxRecDepth 20000 in
theorem gX5_tell_X1_kindAt : GoodIn wsX5_tell (wsV RX5 142 RX1 yX1_kindAt wsX1_kindAt) := goodIn_app (goodIn_of _ (by decide +kernel)) ggX5_tell_X1_kindAt
set_option maxRecDepth 20000 in
theorem ggX5_tell_X5_leave : GoodIn wsX5_tell wsX5_leave := goodIn_r _ [34, 35, 44, 45, 46, 47, 48, 49, 50] (by decide +kernel) (by decide +kernel)
set_option maxRecDepth 20000 in
theorem gX5_tell_X5_leave : GoodIn wsX5_tell (wsV RX5 243 RX5 yX5_leave wsX5_leave) := goodIn_app (goodIn_of _ (by decide +kernel)) ggX5_tell_X5_leave
set_option maxRecDepth 20000 in
theorem ggX5_tell_X5_sumBody : GoodIn wsX5_tell wsX5_sumBody := goodIn_r _ [39, 1, 30, 31, 32, 33, 34, 35, 40, 41, 42, 5, 43, 21, 22, 23, 24, 25, 44, 45, 46, 47, 48, 49, 50, 51, 52, 53, 54] (by decide +kernel) (by decide +kernel)
set_option maxRecDepth 20000 in
theorem gX5_tell_X5_sumBody : GoodIn wsX5_tell (wsV RX5 246 RX5 yX5_sumBody wsX5_sumBody) := goodIn_app (goodIn_of _ (by decide +kernel)) ggX5_tell_X5_sumBody
theorem dX5_tell_0 : decode cX5_tell 0 = .ok (.aload_n 0, 1) := by decide +kernel
theorem dX5_tell_1 : decode cX5_tell 1 = .ok (.getfield 12, 3) := by decide +kernel
theorem dX5_tell_4 : decode cX5_tell 4 = .ok (.iload_n 1, 1) := by decide +kernel
theorem dX5_tell_5 : decode cX5_tell 5 = .ok (.invokevirtual 74, 3) := by decide +kernel
theorem dX5_tell_8 : decode cX5_tell 8 = .ok (.ifCond .ne 5, 3) := by decide +kernel
theorem dX5_tell_11 : decode cX5_tell 11 = .ok (.iconst (-1), 1) := by decide +kernel
theorem dX5_tell_12 : decode cX5_tell 12 = .ok (.ireturn, 1) := by decide +kernel
theorem dX5_tell_13 : decode cX5_tell 13 = .ok (.aload_n 0, 1) := by decide +kernel
theorem dX5_tell_14 : decode cX5_tell 14 = .ok (.getfield 12, 3) := by decide +kernel
theorem dX5_tell_17 : decode cX5_tell 17 = .ok (.iload_n 1, 1) := by decide +kernel
theorem dX5_tell_18 : decode cX5_tell 18 = .ok (.invokevirtual 142, 3) := by decide +kernel
theorem dX5_tell_21 : decode cX5_tell 21 = .ok (.lookupswitch 53 #[(1, 39), (2, 27)], 27) := by decide +kernel
theorem dX5_tell_48 : decode cX5_tell 48 = .ok (.aload_n 0, 1) := by decide +kernel
theorem dX5_tell_49 : decode cX5_tell 49 = .ok (.iconst 3, 1) := by decide +kernel
theorem dX5_tell_50 : decode cX5_tell 50 = .ok (.invokevirtual 243, 3) := by decide +kernel
theorem dX5_tell_53 : decode cX5_tell 53 = .ok (.aload_n 0, 1) := by decide +kernel
theorem dX5_tell_54 : decode cX5_tell 54 = .ok (.iload_n 1, 1) := by decide +kernel
theorem dX5_tell_55 : decode cX5_tell 55 = .ok (.invokevirtual 246, 3) := by decide +kernel
theorem dX5_tell_58 : decode cX5_tell 58 = .ok (.ineg, 1) := by decide +kernel
theorem dX5_tell_59 : decode cX5_tell 59 = .ok (.ireturn, 1) := by decide +kernel
theorem dX5_tell_60 : decode cX5_tell 60 = .ok (.aload_n 0, 1) := by decide +kernel
theorem dX5_tell_61 : decode cX5_tell 61 = .ok (.iconst 2, 1) := by decide +kernel
theorem dX5_tell_62 : decode cX5_tell 62 = .ok (.invokevirtual 243, 3) := by decide +kernel
theorem dX5_tell_65 : decode cX5_tell 65 = .ok (.aload_n 0, 1) := by decide +kernel
theorem dX5_tell_66 : decode cX5_tell 66 = .ok (.iload_n 1, 1) := by decide +kernel
theorem dX5_tell_67 : decode cX5_tell 67 = .ok (.invokevirtual 246, 3) := by decide +kernel
theorem dX5_tell_70 : decode cX5_tell 70 = .ok (.bipush 100, 2) := by decide +kernel
theorem dX5_tell_72 : decode cX5_tell 72 = .ok (.iadd, 1) := by decide +kernel
theorem dX5_tell_73 : decode cX5_tell 73 = .ok (.ireturn, 1) := by decide +kernel
theorem dX5_tell_74 : decode cX5_tell 74 = .ok (.aload_n 0, 1) := by decide +kernel
theorem dX5_tell_75 : decode cX5_tell 75 = .ok (.iload_n 1, 1) := by decide +kernel
theorem dX5_tell_76 : decode cX5_tell 76 = .ok (.invokevirtual 246, 3) := by decide +kernel
theorem dX5_tell_79 : decode cX5_tell 79 = .ok (.ireturn, 1) := by decide +kernel
set_option maxRecDepth 20000 in
theorem ggX5_mark_X1_hasSide : GoodIn wsX5_mark wsX1_hasSide := goodIn_r _ [6, 7, 8, 9, 5, 10, 11, 12, 43, 44, 45, 46] (by decide +kernel) (by decide +kernel)
set_option maxRecDepth 20000 in
theorem gX5_mark_X1_hasSide : GoodIn wsX5_mark (wsV RX5 74 RX1 yX1_hasSide wsX1_hasSide) := goodIn_app (goodIn_of _ (by decide +kernel)) ggX5_mark_X1_hasSide
set_option maxRecDepth 20000 in
theorem ggX5_mark_X1_kindAt : GoodIn wsX5_mark wsX1_kindAt := goodIn_r _ [16, 17, 18, 19, 5, 20, 21, 22, 23, 24, 25, 7, 8, 9, 10, 11, 12, 26, 27, 28, 29, 43, 44, 45, 46] (by decide +kernel) (by decide +kernel)
set_option maxRecDepth 20000 in
theorem gX5_mark_X1_kindAt : GoodIn wsX5_mark (wsV RX5 142 RX1 yX1_kindAt wsX1_kindAt) := goodIn_app (goodIn_of _ (by decide +kernel)) ggX5_mark_X1_kindAt
set_option maxRecDepth 20000 in
theorem ggX5_mark_X5_leave : GoodIn wsX5_mark wsX5_leave := goodIn_r _ [34, 35, 36, 37, 38, 39, 40, 41, 42] (by decide +kernel) (by decide +kernel)
set_option maxRecDepth 20000 in
theorem gX5_mark_X5_leave : GoodIn wsX5_mark (wsV RX5 243 RX5 yX5_leave wsX5_leave) := goodIn_app (goodIn_of _ (by decide +kernel)) ggX5_mark_X5_leave
theorem dX5_mark_0 : decode cX5_mark 0 = .ok (.aload_n 0, 1) := by decide +kernel
theorem dX5_mark_1 : decode cX5_mark 1 = .ok (.getfield 12, 3) := by decide +kernel
theorem dX5_mark_4 : decode cX5_mark 4 = .ok (.iload_n 1, 1) := by decide +kernel
theorem dX5_mark_5 : decode cX5_mark 5 = .ok (.invokevirtual 74, 3) := by decide +kernel
theorem dX5_mark_8 : decode cX5_mark 8 = .ok (.ifCond .ne 5, 3) := by decide +kernel
theorem dX5_mark_11 : decode cX5_mark 11 = .ok (.iconst (-1), 1) := by decide +kernel
theorem dX5_mark_12 : decode cX5_mark 12 = .ok (.ireturn, 1) := by decide +kernel
theorem dX5_mark_13 : decode cX5_mark 13 = .ok (.aload_n 0, 1) := by decide +kernel
theorem dX5_mark_14 : decode cX5_mark 14 = .ok (.getfield 12, 3) := by decide +kernel
theorem dX5_mark_17 : decode cX5_mark 17 = .ok (.iload_n 1, 1) := by decide +kernel
theorem dX5_mark_18 : decode cX5_mark 18 = .ok (.invokevirtual 142, 3) := by decide +kernel
theorem dX5_mark_21 : decode cX5_mark 21 = .ok (.iconst 2, 1) := by decide +kernel
theorem dX5_mark_22 : decode cX5_mark 22 = .ok (.if_icmp .ne 11, 3) := by decide +kernel
theorem dX5_mark_25 : decode cX5_mark 25 = .ok (.aload_n 0, 1) := by decide +kernel
theorem dX5_mark_26 : decode cX5_mark 26 = .ok (.iconst 5, 1) := by decide +kernel
theorem dX5_mark_27 : decode cX5_mark 27 = .ok (.invokevirtual 243, 3) := by decide +kernel
theorem dX5_mark_30 : decode cX5_mark 30 = .ok (.bipush 99, 2) := by decide +kernel
theorem dX5_mark_32 : decode cX5_mark 32 = .ok (.ireturn, 1) := by decide +kernel
theorem dX5_mark_33 : decode cX5_mark 33 = .ok (.aload_n 0, 1) := by decide +kernel
theorem dX5_mark_34 : decode cX5_mark 34 = .ok (.iconst 4, 1) := by decide +kernel
theorem dX5_mark_35 : decode cX5_mark 35 = .ok (.invokevirtual 243, 3) := by decide +kernel
theorem dX5_mark_38 : decode cX5_mark 38 = .ok (.iload_n 1, 1) := by decide +kernel
theorem dX5_mark_39 : decode cX5_mark 39 = .ok (.ireturn, 1) := by decide +kernel
set_option maxRecDepth 20000 in
theorem ggX5_as_X1_hasSide : GoodIn wsX5_as wsX1_hasSide := goodIn_r _ [7, 8, 9, 10, 6, 11, 12, 13, 43, 44, 45, 46] (by decide +kernel) (by decide +kernel)
set_option maxRecDepth 20000 in
theorem gX5_as_X1_hasSide : GoodIn wsX5_as (wsV RX5 74 RX1 yX1_hasSide wsX1_hasSide) := goodIn_app (goodIn_of _ (by decide +kernel)) ggX5_as_X1_hasSide
set_option maxRecDepth 20000 in
theorem ggX5_as_X1_kindAt : GoodIn wsX5_as wsX1_kindAt := goodIn_r _ [17, 18, 19, 20, 6, 21, 22, 23, 24, 25, 26, 8, 9, 10, 11, 12, 13, 27, 28, 29, 30, 43, 44, 45, 46] (by decide +kernel) (by decide +kernel)
set_option maxRecDepth 20000 in
theorem gX5_as_X1_kindAt : GoodIn wsX5_as (wsV RX5 142 RX1 yX1_kindAt wsX1_kindAt) := goodIn_app (goodIn_of _ (by decide +kernel)) ggX5_as_X1_kindAt
set_option maxRecDepth 20000 in
theorem ggX5_as_X5_come : GoodIn wsX5_as wsX5_come := goodIn_r _ [35, 1, 36, 37, 38, 39, 40, 41, 42] (by decide +kernel) (by decide +kernel)
set_option maxRecDepth 20000 in
theorem gX5_as_X5_come : GoodIn wsX5_as (wsV RX5 103 RX5 yX5_come wsX5_come) := goodIn_app (goodIn_of _ (by decide +kernel)) ggX5_as_X5_come
theorem dX5_as_0 : decode cX5_as 0 = .ok (.aload_n 0, 1) := by decide +kernel
theorem dX5_as_1 : decode cX5_as 1 = .ok (.iconst 0, 1) := by decide +kernel
theorem dX5_as_2 : decode cX5_as 2 = .ok (.putfield 90, 3) := by decide +kernel
theorem dX5_as_5 : decode cX5_as 5 = .ok (.aload_n 0, 1) := by decide +kernel
theorem dX5_as_6 : decode cX5_as 6 = .ok (.getfield 12, 3) := by decide +kernel
theorem dX5_as_9 : decode cX5_as 9 = .ok (.iload_n 1, 1) := by decide +kernel
theorem dX5_as_10 : decode cX5_as 10 = .ok (.invokevirtual 74, 3) := by decide +kernel
theorem dX5_as_13 : decode cX5_as 13 = .ok (.ifCond .ne 5, 3) := by decide +kernel
theorem dX5_as_16 : decode cX5_as 16 = .ok (.iconst (-1), 1) := by decide +kernel
theorem dX5_as_17 : decode cX5_as 17 = .ok (.ireturn, 1) := by decide +kernel
theorem dX5_as_18 : decode cX5_as 18 = .ok (.iload_n 2, 1) := by decide +kernel
theorem dX5_as_19 : decode cX5_as 19 = .ok (.ifCond .lt 8, 3) := by decide +kernel
theorem dX5_as_22 : decode cX5_as 22 = .ok (.iload_n 2, 1) := by decide +kernel
theorem dX5_as_23 : decode cX5_as 23 = .ok (.iconst 2, 1) := by decide +kernel
theorem dX5_as_24 : decode cX5_as 24 = .ok (.if_icmp .le 6, 3) := by decide +kernel
theorem dX5_as_27 : decode cX5_as 27 = .ok (.bipush (-2), 2) := by decide +kernel
theorem dX5_as_29 : decode cX5_as 29 = .ok (.ireturn, 1) := by decide +kernel
theorem dX5_as_30 : decode cX5_as 30 = .ok (.aload_n 0, 1) := by decide +kernel
theorem dX5_as_31 : decode cX5_as 31 = .ok (.getfield 12, 3) := by decide +kernel
theorem dX5_as_34 : decode cX5_as 34 = .ok (.iload_n 1, 1) := by decide +kernel
theorem dX5_as_35 : decode cX5_as 35 = .ok (.invokevirtual 142, 3) := by decide +kernel
theorem dX5_as_38 : decode cX5_as 38 = .ok (.iload_n 2, 1) := by decide +kernel
theorem dX5_as_39 : decode cX5_as 39 = .ok (.if_icmp .ge 9, 3) := by decide +kernel
theorem dX5_as_42 : decode cX5_as 42 = .ok (.aload_n 0, 1) := by decide +kernel
theorem dX5_as_43 : decode cX5_as 43 = .ok (.iconst 2, 1) := by decide +kernel
theorem dX5_as_44 : decode cX5_as 44 = .ok (.invokevirtual 103, 3) := by decide +kernel
theorem dX5_as_47 : decode cX5_as 47 = .ok (.ireturn, 1) := by decide +kernel
theorem dX5_as_48 : decode cX5_as 48 = .ok (.iconst 1, 1) := by decide +kernel
theorem dX5_as_49 : decode cX5_as 49 = .ok (.ireturn, 1) := by decide +kernel
theorem dX5_trace_0 : decode cX5_trace 0 = .ok (.aload_n 0, 1) := by decide +kernel
theorem dX5_trace_1 : decode cX5_trace 1 = .ok (.getfield 249, 3) := by decide +kernel
theorem dX5_trace_4 : decode cX5_trace 4 = .ok (.ireturn, 1) := by decide +kernel
theorem dX5_fault_0 : decode cX5_fault 0 = .ok (.aload_n 0, 1) := by decide +kernel
theorem dX5_fault_1 : decode cX5_fault 1 = .ok (.getfield 90, 3) := by decide +kernel
theorem dX5_fault_4 : decode cX5_fault 4 = .ok (.ireturn, 1) := by decide +kernel
set_option maxRecDepth 20000 in
theorem ggX5_told_X1_width : GoodIn wsX5_told wsX1_width := goodIn_r _ [7, 8, 35, 36, 37, 38] (by decide +kernel) (by decide +kernel)
set_option maxRecDepth 20000 in
theorem gX5_told_X1_width : GoodIn wsX5_told (wsV RX5 252 RX1 yX1_width wsX1_width) := goodIn_app (goodIn_of _ (by decide +kernel)) ggX5_told_X1_width
set_option maxRecDepth 20000 in
theorem ggX5_told_X1_depth : GoodIn wsX5_told wsX1_depth := goodIn_r _ [12, 13, 35, 36, 37, 38] (by decide +kernel) (by decide +kernel)
set_option maxRecDepth 20000 in
theorem gX5_told_X1_depth : GoodIn wsX5_told (wsV RX5 255 RX1 yX1_depth wsX1_depth) := goodIn_app (goodIn_of _ (by decide +kernel)) ggX5_told_X1_depth
set_option maxRecDepth 20000 in
theorem ggX5_told_X1_pieces : GoodIn wsX5_told wsX1_pieces := goodIn_r _ [17, 8, 13, 35, 36, 37, 38] (by decide +kernel) (by decide +kernel)
set_option maxRecDepth 20000 in
theorem gX5_told_X1_pieces : GoodIn wsX5_told (wsV RX5 166 RX1 yX1_pieces wsX1_pieces) := goodIn_app (goodIn_of _ (by decide +kernel)) ggX5_told_X1_pieces
set_option maxRecDepth 20000 in
theorem ggX5_told_X1_sides : GoodIn wsX5_told wsX1_sides := goodIn_r _ [21, 8, 13, 35, 36, 37, 38] (by decide +kernel) (by decide +kernel)
set_option maxRecDepth 20000 in
theorem gX5_told_X1_sides : GoodIn wsX5_told (wsV RX5 58 RX1 yX1_sides wsX1_sides) := goodIn_app (goodIn_of _ (by decide +kernel)) ggX5_told_X1_sides
set_option maxRecDepth 20000 in
theorem ggX5_told_X2_size : GoodIn wsX5_told wsX2_size := goodIn_r _ [26, 27, 39, 40, 41] (by decide +kernel) (by decide +kernel)
set_option maxRecDepth 20000 in
theorem gX5_told_X2_size : GoodIn wsX5_told (wsV RX5 163 RX2 yX2_size wsX2_size) := goodIn_app (goodIn_of _ (by decide +kernel)) ggX5_told_X2_size
theorem dX5_told_0 : decode cX5_told 0 = .ok (.iload_n 1, 1) := by decide +kernel
theorem dX5_told_1 : decode cX5_told 1 = .ok (.tableswitch 75 0 4 #[35, 43, 51, 59, 67], 35) := by decide +kernel
theorem dX5_told_36 : decode cX5_told 36 = .ok (.aload_n 0, 1) := by decide +kernel
theorem dX5_told_37 : decode cX5_told 37 = .ok (.getfield 12, 3) := by decide +kernel
theorem dX5_told_40 : decode cX5_told 40 = .ok (.invokevirtual 252, 3) := by decide +kernel
theorem dX5_told_43 : decode cX5_told 43 = .ok (.ireturn, 1) := by decide +kernel
theorem dX5_told_44 : decode cX5_told 44 = .ok (.aload_n 0, 1) := by decide +kernel
theorem dX5_told_45 : decode cX5_told 45 = .ok (.getfield 12, 3) := by decide +kernel
theorem dX5_told_48 : decode cX5_told 48 = .ok (.invokevirtual 255, 3) := by decide +kernel
theorem dX5_told_51 : decode cX5_told 51 = .ok (.ireturn, 1) := by decide +kernel
theorem dX5_told_52 : decode cX5_told 52 = .ok (.aload_n 0, 1) := by decide +kernel
theorem dX5_told_53 : decode cX5_told 53 = .ok (.getfield 12, 3) := by decide +kernel
theorem dX5_told_56 : decode cX5_told 56 = .ok (.invokevirtual 166, 3) := by decide +kernel
theorem dX5_told_59 : decode cX5_told 59 = .ok (.ireturn, 1) := by decide +kernel
theorem dX5_told_60 : decode cX5_told 60 = .ok (.aload_n 0, 1) := by decide +kernel
theorem dX5_told_61 : decode cX5_told 61 = .ok (.getfield 12, 3) := by decide +kernel
theorem dX5_told_64 : decode cX5_told 64 = .ok (.invokevirtual 58, 3) := by decide +kernel
theorem dX5_told_67 : decode cX5_told 67 = .ok (.ireturn, 1) := by decide +kernel
theorem dX5_told_68 : decode cX5_told 68 = .ok (.aload_n 0, 1) := by decide +kernel
theorem dX5_told_69 : decode cX5_told 69 = .ok (.getfield 21, 3) := by decide +kernel
theorem dX5_told_72 : decode cX5_told 72 = .ok (.invokevirtual 163, 3) := by decide +kernel
theorem dX5_told_75 : decode cX5_told 75 = .ok (.ireturn, 1) := by decide +kernel
theorem dX5_told_76 : decode cX5_told 76 = .ok (.bipush (-2), 2) := by decide +kernel
theorem dX5_told_78 : decode cX5_told 78 = .ok (.ireturn, 1) := by decide +kernel
theorem dX5_isHeightPlace_0 : decode cX5_isHeightPlace 0 = .ok (.iload_n 0, 1) := by decide +kernel
theorem dX5_isHeightPlace_1 : decode cX5_isHeightPlace 1 = .ok (.ifCond .lt 12, 3) := by decide +kernel
theorem dX5_isHeightPlace_4 : decode cX5_isHeightPlace 4 = .ok (.iload_n 0, 1) := by decide +kernel
theorem dX5_isHeightPlace_5 : decode cX5_isHeightPlace 5 = .ok (.iconst 5, 1) := by decide +kernel
theorem dX5_isHeightPlace_6 : decode cX5_isHeightPlace 6 = .ok (.if_icmp .ge 7, 3) := by decide +kernel
theorem dX5_isHeightPlace_9 : decode cX5_isHeightPlace 9 = .ok (.iconst 1, 1) := by decide +kernel
theorem dX5_isHeightPlace_10 : decode cX5_isHeightPlace 10 = .ok (.goto 4, 3) := by decide +kernel
theorem dX5_isHeightPlace_13 : decode cX5_isHeightPlace 13 = .ok (.iconst 0, 1) := by decide +kernel
theorem dX5_isHeightPlace_14 : decode cX5_isHeightPlace 14 = .ok (.ireturn, 1) := by decide +kernel
theorem dX5_isHeight_0 : decode cX5_isHeight 0 = .ok (.iload_n 0, 1) := by decide +kernel
theorem dX5_isHeight_1 : decode cX5_isHeight 1 = .ok (.bipush (-9), 2) := by decide +kernel
theorem dX5_isHeight_3 : decode cX5_isHeight 3 = .ok (.if_icmp .lt 13, 3) := by decide +kernel
theorem dX5_isHeight_6 : decode cX5_isHeight 6 = .ok (.iload_n 0, 1) := by decide +kernel
theorem dX5_isHeight_7 : decode cX5_isHeight 7 = .ok (.bipush 9, 2) := by decide +kernel
theorem dX5_isHeight_9 : decode cX5_isHeight 9 = .ok (.if_icmp .gt 7, 3) := by decide +kernel
theorem dX5_isHeight_12 : decode cX5_isHeight 12 = .ok (.iconst 1, 1) := by decide +kernel
theorem dX5_isHeight_13 : decode cX5_isHeight 13 = .ok (.goto 4, 3) := by decide +kernel
theorem dX5_isHeight_16 : decode cX5_isHeight 16 = .ok (.iconst 0, 1) := by decide +kernel
theorem dX5_isHeight_17 : decode cX5_isHeight 17 = .ok (.ireturn, 1) := by decide +kernel
theorem dX5_isSheet_0 : decode cX5_isSheet 0 = .ok (.iload_n 0, 1) := by decide +kernel
theorem dX5_isSheet_1 : decode cX5_isSheet 1 = .ok (.ifCond .lt 12, 3) := by decide +kernel
theorem dX5_isSheet_4 : decode cX5_isSheet 4 = .ok (.iload_n 0, 1) := by decide +kernel
theorem dX5_isSheet_5 : decode cX5_isSheet 5 = .ok (.iconst 4, 1) := by decide +kernel
theorem dX5_isSheet_6 : decode cX5_isSheet 6 = .ok (.if_icmp .ge 7, 3) := by decide +kernel
theorem dX5_isSheet_9 : decode cX5_isSheet 9 = .ok (.iconst 1, 1) := by decide +kernel
theorem dX5_isSheet_10 : decode cX5_isSheet 10 = .ok (.goto 4, 3) := by decide +kernel
theorem dX5_isSheet_13 : decode cX5_isSheet 13 = .ok (.iconst 0, 1) := by decide +kernel
theorem dX5_isSheet_14 : decode cX5_isSheet 14 = .ok (.ireturn, 1) := by decide +kernel
theorem dX5_isLane_0 : decode cX5_isLane 0 = .ok (.iload_n 0, 1) := by decide +kernel
theorem dX5_isLane_1 : decode cX5_isLane 1 = .ok (.ifCond .lt 12, 3) := by decide +kernel
theorem dX5_isLane_4 : decode cX5_isLane 4 = .ok (.iload_n 0, 1) := by decide +kernel
theorem dX5_isLane_5 : decode cX5_isLane 5 = .ok (.iconst 3, 1) := by decide +kernel
theorem dX5_isLane_6 : decode cX5_isLane 6 = .ok (.if_icmp .ge 7, 3) := by decide +kernel
theorem dX5_isLane_9 : decode cX5_isLane 9 = .ok (.iconst 1, 1) := by decide +kernel
theorem dX5_isLane_10 : decode cX5_isLane 10 = .ok (.goto 4, 3) := by decide +kernel
theorem dX5_isLane_13 : decode cX5_isLane 13 = .ok (.iconst 0, 1) := by decide +kernel
theorem dX5_isLane_14 : decode cX5_isLane 14 = .ok (.ireturn, 1) := by decide +kernel
theorem dX5_isMissingWhat_0 : decode cX5_isMissingWhat 0 = .ok (.iload_n 0, 1) := by decide +kernel
theorem dX5_isMissingWhat_1 : decode cX5_isMissingWhat 1 = .ok (.ifCond .eq 8, 3) := by decide +kernel
theorem dX5_isMissingWhat_4 : decode cX5_isMissingWhat 4 = .ok (.iload_n 0, 1) := by decide +kernel
theorem dX5_isMissingWhat_5 : decode cX5_isMissingWhat 5 = .ok (.iconst 1, 1) := by decide +kernel
theorem dX5_isMissingWhat_6 : decode cX5_isMissingWhat 6 = .ok (.if_icmp .ne 7, 3) := by decide +kernel
theorem dX5_isMissingWhat_9 : decode cX5_isMissingWhat 9 = .ok (.iconst 1, 1) := by decide +kernel
theorem dX5_isMissingWhat_10 : decode cX5_isMissingWhat 10 = .ok (.goto 4, 3) := by decide +kernel
theorem dX5_isMissingWhat_13 : decode cX5_isMissingWhat 13 = .ok (.iconst 0, 1) := by decide +kernel
theorem dX5_isMissingWhat_14 : decode cX5_isMissingWhat 14 = .ok (.ireturn, 1) := by decide +kernel
set_option maxRecDepth 20000 in
theorem ggX5_areHeights_X4_read : GoodIn wsX5_areHeights wsX4_read := goodIn_r _ [5, 6, 7, 8, 9, 4, 10, 11, 16, 17, 18, 19] (by decide +kernel) (by decide +kernel)
set_option maxRecDepth 20000 in
theorem gX5_areHeights_X4_read : GoodIn wsX5_areHeights (wsV RX5 234 RX4 yX4_read wsX4_read) := goodIn_app (goodIn_of _ (by decide +kernel)) ggX5_areHeights_X4_read
set_option maxRecDepth 20000 in
theorem ggX5_areHeights_X5_isHeight : GoodIn wsX5_areHeights wsX5_isHeight := goodIn_r _ [15] (by decide +kernel) (by decide +kernel)
set_option maxRecDepth 20000 in
theorem gX5_areHeights_X5_isHeight : GoodIn wsX5_areHeights (va_wsS RX5 81 yX5_isHeight wsX5_isHeight) := goodIn_app (goodIn_of _ (by decide +kernel)) ggX5_areHeights_X5_isHeight
theorem dX5_areHeights_0 : decode cX5_areHeights 0 = .ok (.iload_n 1, 1) := by decide +kernel
theorem dX5_areHeights_1 : decode cX5_areHeights 1 = .ok (.istore_n 3, 1) := by decide +kernel
theorem dX5_areHeights_2 : decode cX5_areHeights 2 = .ok (.iload_n 3, 1) := by decide +kernel
theorem dX5_areHeights_3 : decode cX5_areHeights 3 = .ok (.iload_n 1, 1) := by decide +kernel
theorem dX5_areHeights_4 : decode cX5_areHeights 4 = .ok (.iload_n 2, 1) := by decide +kernel
theorem dX5_areHeights_5 : decode cX5_areHeights 5 = .ok (.iadd, 1) := by decide +kernel
theorem dX5_areHeights_6 : decode cX5_areHeights 6 = .ok (.if_icmp .ge 22, 3) := by decide +kernel
theorem dX5_areHeights_9 : decode cX5_areHeights 9 = .ok (.aload_n 0, 1) := by decide +kernel
theorem dX5_areHeights_10 : decode cX5_areHeights 10 = .ok (.iload_n 3, 1) := by decide +kernel
theorem dX5_areHeights_11 : decode cX5_areHeights 11 = .ok (.invokevirtual 234, 3) := by decide +kernel
theorem dX5_areHeights_14 : decode cX5_areHeights 14 = .ok (.invokestatic 81, 3) := by decide +kernel
theorem dX5_areHeights_17 : decode cX5_areHeights 17 = .ok (.ifCond .ne 5, 3) := by decide +kernel
theorem dX5_areHeights_20 : decode cX5_areHeights 20 = .ok (.iconst 0, 1) := by decide +kernel
theorem dX5_areHeights_21 : decode cX5_areHeights 21 = .ok (.ireturn, 1) := by decide +kernel
theorem dX5_areHeights_22 : decode cX5_areHeights 22 = .ok (.iinc 3 1, 3) := by decide +kernel
theorem dX5_areHeights_25 : decode cX5_areHeights 25 = .ok (.goto (-23), 3) := by decide +kernel
theorem dX5_areHeights_28 : decode cX5_areHeights 28 = .ok (.iconst 1, 1) := by decide +kernel
theorem dX5_areHeights_29 : decode cX5_areHeights 29 = .ok (.ireturn, 1) := by decide +kernel
set_option maxRecDepth 20000 in
theorem ggX5_shapeFrom_X4_read : GoodIn wsX5_shapeFrom wsX4_read := goodIn_r _ [6, 7, 8, 9, 10, 5, 11, 12, 26, 27, 28, 29] (by decide +kernel) (by decide +kernel)
set_option maxRecDepth 20000 in
theorem gX5_shapeFrom_X4_read : GoodIn wsX5_shapeFrom (wsV RX5 234 RX4 yX4_read wsX4_read) := goodIn_app (goodIn_of _ (by decide +kernel)) ggX5_shapeFrom_X4_read
set_option maxRecDepth 20000 in
theorem ggX5_shapeFrom_X1_setHeight : GoodIn wsX5_shapeFrom wsX1_setHeight := goodIn_r _ [17, 18, 30, 31, 32, 33] (by decide +kernel) (by decide +kernel)
set_option maxRecDepth 20000 in
theorem gX5_shapeFrom_X1_setHeight : GoodIn wsX5_shapeFrom (wsV RX5 70 RX1 yX1_setHeight wsX1_setHeight) := goodIn_app (goodIn_of _ (by decide +kernel)) ggX5_shapeFrom_X1_setHeight
theorem dX5_shapeFrom_0 : decode cX5_shapeFrom 0 = .ok (.iconst 0, 1) := by decide +kernel
theorem dX5_shapeFrom_1 : decode cX5_shapeFrom 1 = .ok (.istore 5, 2) := by decide +kernel
theorem dX5_shapeFrom_3 : decode cX5_shapeFrom 3 = .ok (.iload 5, 2) := by decide +kernel
theorem dX5_shapeFrom_5 : decode cX5_shapeFrom 5 = .ok (.iload_n 3, 1) := by decide +kernel
theorem dX5_shapeFrom_6 : decode cX5_shapeFrom 6 = .ok (.if_icmp .ge 51, 3) := by decide +kernel
theorem dX5_shapeFrom_9 : decode cX5_shapeFrom 9 = .ok (.iconst 0, 1) := by decide +kernel
theorem dX5_shapeFrom_10 : decode cX5_shapeFrom 10 = .ok (.istore 6, 2) := by decide +kernel
theorem dX5_shapeFrom_12 : decode cX5_shapeFrom 12 = .ok (.iload 6, 2) := by decide +kernel
theorem dX5_shapeFrom_14 : decode cX5_shapeFrom 14 = .ok (.iconst 5, 1) := by decide +kernel
theorem dX5_shapeFrom_15 : decode cX5_shapeFrom 15 = .ok (.if_icmp .ge 36, 3) := by decide +kernel
theorem dX5_shapeFrom_18 : decode cX5_shapeFrom 18 = .ok (.aload_n 0, 1) := by decide +kernel
theorem dX5_shapeFrom_19 : decode cX5_shapeFrom 19 = .ok (.getfield 12, 3) := by decide +kernel
theorem dX5_shapeFrom_22 : decode cX5_shapeFrom 22 = .ok (.iload 4, 2) := by decide +kernel
theorem dX5_shapeFrom_24 : decode cX5_shapeFrom 24 = .ok (.iload 5, 2) := by decide +kernel
theorem dX5_shapeFrom_26 : decode cX5_shapeFrom 26 = .ok (.iadd, 1) := by decide +kernel
theorem dX5_shapeFrom_27 : decode cX5_shapeFrom 27 = .ok (.iload 6, 2) := by decide +kernel
theorem dX5_shapeFrom_29 : decode cX5_shapeFrom 29 = .ok (.aload_n 1, 1) := by decide +kernel
theorem dX5_shapeFrom_30 : decode cX5_shapeFrom 30 = .ok (.iload_n 2, 1) := by decide +kernel
theorem dX5_shapeFrom_31 : decode cX5_shapeFrom 31 = .ok (.iload 5, 2) := by decide +kernel
theorem dX5_shapeFrom_33 : decode cX5_shapeFrom 33 = .ok (.iconst 5, 1) := by decide +kernel
theorem dX5_shapeFrom_34 : decode cX5_shapeFrom 34 = .ok (.imul, 1) := by decide +kernel
theorem dX5_shapeFrom_35 : decode cX5_shapeFrom 35 = .ok (.iadd, 1) := by decide +kernel
theorem dX5_shapeFrom_36 : decode cX5_shapeFrom 36 = .ok (.iload 6, 2) := by decide +kernel
theorem dX5_shapeFrom_38 : decode cX5_shapeFrom 38 = .ok (.iadd, 1) := by decide +kernel
theorem dX5_shapeFrom_39 : decode cX5_shapeFrom 39 = .ok (.invokevirtual 234, 3) := by decide +kernel
theorem dX5_shapeFrom_42 : decode cX5_shapeFrom 42 = .ok (.invokevirtual 70, 3) := by decide +kernel
theorem dX5_shapeFrom_45 : decode cX5_shapeFrom 45 = .ok (.iinc 6 1, 3) := by decide +kernel
theorem dX5_shapeFrom_48 : decode cX5_shapeFrom 48 = .ok (.goto (-36), 3) := by decide +kernel
theorem dX5_shapeFrom_51 : decode cX5_shapeFrom 51 = .ok (.iinc 5 1, 3) := by decide +kernel
theorem dX5_shapeFrom_54 : decode cX5_shapeFrom 54 = .ok (.goto (-51), 3) := by decide +kernel
theorem dX5_shapeFrom_57 : decode cX5_shapeFrom 57 = .ok (.return_, 1) := by decide +kernel
set_option maxRecDepth 20000 in
theorem ggX5_isMissing_X2_timesOf : GoodIn wsX5_isMissing wsX2_timesOf := goodIn_r _ [6, 7, 8, 16, 17, 18] (by decide +kernel) (by decide +kernel)
set_option maxRecDepth 20000 in
theorem gX5_isMissing_X2_timesOf : GoodIn wsX5_isMissing (wsV RX5 215 RX2 yX2_timesOf wsX2_timesOf) := goodIn_app (goodIn_of _ (by decide +kernel)) ggX5_isMissing_X2_timesOf
theorem dX5_isMissing_0 : decode cX5_isMissing 0 = .ok (.aload_n 0, 1) := by decide +kernel
theorem dX5_isMissing_1 : decode cX5_isMissing 1 = .ok (.getfield 21, 3) := by decide +kernel
theorem dX5_isMissing_4 : decode cX5_isMissing 4 = .ok (.iload_n 2, 1) := by decide +kernel
theorem dX5_isMissing_5 : decode cX5_isMissing 5 = .ok (.invokevirtual 215, 3) := by decide +kernel
theorem dX5_isMissing_8 : decode cX5_isMissing 8 = .ok (.istore_n 3, 1) := by decide +kernel
theorem dX5_isMissing_9 : decode cX5_isMissing 9 = .ok (.iload_n 1, 1) := by decide +kernel
theorem dX5_isMissing_10 : decode cX5_isMissing 10 = .ok (.ifCond .ne 15, 3) := by decide +kernel
theorem dX5_isMissing_13 : decode cX5_isMissing 13 = .ok (.iload_n 3, 1) := by decide +kernel
theorem dX5_isMissing_14 : decode cX5_isMissing 14 = .ok (.ifCond .ne 7, 3) := by decide +kernel
theorem dX5_isMissing_17 : decode cX5_isMissing 17 = .ok (.iconst 1, 1) := by decide +kernel
theorem dX5_isMissing_18 : decode cX5_isMissing 18 = .ok (.goto 17, 3) := by decide +kernel
theorem dX5_isMissing_21 : decode cX5_isMissing 21 = .ok (.iconst 0, 1) := by decide +kernel
theorem dX5_isMissing_22 : decode cX5_isMissing 22 = .ok (.goto 13, 3) := by decide +kernel
theorem dX5_isMissing_25 : decode cX5_isMissing 25 = .ok (.iload_n 3, 1) := by decide +kernel
theorem dX5_isMissing_26 : decode cX5_isMissing 26 = .ok (.iconst 1, 1) := by decide +kernel
theorem dX5_isMissing_27 : decode cX5_isMissing 27 = .ok (.if_icmp .le 7, 3) := by decide +kernel
theorem dX5_isMissing_30 : decode cX5_isMissing 30 = .ok (.iconst 1, 1) := by decide +kernel
theorem dX5_isMissing_31 : decode cX5_isMissing 31 = .ok (.goto 4, 3) := by decide +kernel
theorem dX5_isMissing_34 : decode cX5_isMissing 34 = .ok (.iconst 0, 1) := by decide +kernel
theorem dX5_isMissing_35 : decode cX5_isMissing 35 = .ok (.ireturn, 1) := by decide +kernel
set_option maxRecDepth 20000 in
theorem ggX5_countMissing_X1_pieces : GoodIn wsX5_countMissing wsX1_pieces := goodIn_r _ [6, 7, 8, 29, 30, 31, 32] (by decide +kernel) (by decide +kernel)
set_option maxRecDepth 20000 in
theorem gX5_countMissing_X1_pieces : GoodIn wsX5_countMissing (wsV RX5 166 RX1 yX1_pieces wsX1_pieces) := goodIn_app (goodIn_of _ (by decide +kernel)) ggX5_countMissing_X1_pieces
set_option maxRecDepth 20000 in
theorem ggX5_countMissing_X5_isMissing : GoodIn wsX5_countMissing wsX5_isMissing := goodIn_r _ [13, 14, 15, 16, 17, 18, 19, 20, 21, 22, 23, 24, 25, 26, 27, 28, 33, 34, 35] (by decide +kernel) (by decide +kernel)
set_option maxRecDepth 20000 in
theorem gX5_countMissing_X5_isMissing : GoodIn wsX5_countMissing (wsV RX5 258 RX5 yX5_isMissing wsX5_isMissing) := goodIn_app (goodIn_of _ (by decide +kernel)) ggX5_countMissing_X5_isMissing
theorem dX5_countMissing_0 : decode cX5_countMissing 0 = .ok (.iconst 0, 1) := by decide +kernel
theorem dX5_countMissing_1 : decode cX5_countMissing 1 = .ok (.istore_n 2, 1) := by decide +kernel
theorem dX5_countMissing_2 : decode cX5_countMissing 2 = .ok (.iconst 0, 1) := by decide +kernel
theorem dX5_countMissing_3 : decode cX5_countMissing 3 = .ok (.istore_n 3, 1) := by decide +kernel
theorem dX5_countMissing_4 : decode cX5_countMissing 4 = .ok (.iload_n 3, 1) := by decide +kernel
theorem dX5_countMissing_5 : decode cX5_countMissing 5 = .ok (.aload_n 0, 1) := by decide +kernel
theorem dX5_countMissing_6 : decode cX5_countMissing 6 = .ok (.getfield 12, 3) := by decide +kernel
theorem dX5_countMissing_9 : decode cX5_countMissing 9 = .ok (.invokevirtual 166, 3) := by decide +kernel
theorem dX5_countMissing_12 : decode cX5_countMissing 12 = .ok (.if_icmp .ge 21, 3) := by decide +kernel
theorem dX5_countMissing_15 : decode cX5_countMissing 15 = .ok (.aload_n 0, 1) := by decide +kernel
theorem dX5_countMissing_16 : decode cX5_countMissing 16 = .ok (.iload_n 1, 1) := by decide +kernel
theorem dX5_countMissing_17 : decode cX5_countMissing 17 = .ok (.iload_n 3, 1) := by decide +kernel
theorem dX5_countMissing_18 : decode cX5_countMissing 18 = .ok (.invokevirtual 258, 3) := by decide +kernel
theorem dX5_countMissing_21 : decode cX5_countMissing 21 = .ok (.ifCond .eq 6, 3) := by decide +kernel
theorem dX5_countMissing_24 : decode cX5_countMissing 24 = .ok (.iinc 2 1, 3) := by decide +kernel
theorem dX5_countMissing_27 : decode cX5_countMissing 27 = .ok (.iinc 3 1, 3) := by decide +kernel
theorem dX5_countMissing_30 : decode cX5_countMissing 30 = .ok (.goto (-26), 3) := by decide +kernel
theorem dX5_countMissing_33 : decode cX5_countMissing 33 = .ok (.iload_n 2, 1) := by decide +kernel
theorem dX5_countMissing_34 : decode cX5_countMissing 34 = .ok (.ireturn, 1) := by decide +kernel
set_option maxRecDepth 20000 in
theorem ggX5_missingPiece_X1_pieces : GoodIn wsX5_missingPiece wsX1_pieces := goodIn_r _ [6, 7, 8, 29, 30, 31, 32] (by decide +kernel) (by decide +kernel)
set_option maxRecDepth 20000 in
theorem gX5_missingPiece_X1_pieces : GoodIn wsX5_missingPiece (wsV RX5 166 RX1 yX1_pieces wsX1_pieces) := goodIn_app (goodIn_of _ (by decide +kernel)) ggX5_missingPiece_X1_pieces
set_option maxRecDepth 20000 in
theorem ggX5_missingPiece_X5_isMissing : GoodIn wsX5_missingPiece wsX5_isMissing := goodIn_r _ [13, 14, 15, 16, 17, 18, 19, 20, 21, 22, 23, 24, 25, 26, 27, 28, 33, 34, 35] (by decide +kernel) (by decide +kernel)
set_option maxRecDepth 20000 in
theorem gX5_missingPiece_X5_isMissing : GoodIn wsX5_missingPiece (wsV RX5 258 RX5 yX5_isMissing wsX5_isMissing) := goodIn_app (goodIn_of _ (by decide +kernel)) ggX5_missingPiece_X5_isMissing
theorem dX5_missingPiece_0 : decode cX5_missingPiece 0 = .ok (.iconst 0, 1) := by decide +kernel
theorem dX5_missingPiece_1 : decode cX5_missingPiece 1 = .ok (.istore_n 3, 1) := by decide +kernel
theorem dX5_missingPiece_2 : decode cX5_missingPiece 2 = .ok (.iconst 0, 1) := by decide +kernel
theorem dX5_missingPiece_3 : decode cX5_missingPiece 3 = .ok (.istore 4, 2) := by decide +kernel
theorem dX5_missingPiece_5 : decode cX5_missingPiece 5 = .ok (.iload 4, 2) := by decide +kernel
theorem dX5_missingPiece_7 : decode cX5_missingPiece 7 = .ok (.aload_n 0, 1) := by decide +kernel
theorem dX5_missingPiece_8 : decode cX5_missingPiece 8 = .ok (.getfield 12, 3) := by decide +kernel
theorem dX5_missingPiece_11 : decode cX5_missingPiece 11 = .ok (.invokevirtual 166, 3) := by decide +kernel
theorem dX5_missingPiece_14 : decode cX5_missingPiece 14 = .ok (.if_icmp .ge 30, 3) := by decide +kernel
theorem dX5_missingPiece_17 : decode cX5_missingPiece 17 = .ok (.aload_n 0, 1) := by decide +kernel
theorem dX5_missingPiece_18 : decode cX5_missingPiece 18 = .ok (.iload_n 1, 1) := by decide +kernel
theorem dX5_missingPiece_19 : decode cX5_missingPiece 19 = .ok (.iload 4, 2) := by decide +kernel
theorem dX5_missingPiece_21 : decode cX5_missingPiece 21 = .ok (.invokevirtual 258, 3) := by decide +kernel
theorem dX5_missingPiece_24 : decode cX5_missingPiece 24 = .ok (.ifCond .eq 14, 3) := by decide +kernel
theorem dX5_missingPiece_27 : decode cX5_missingPiece 27 = .ok (.iload_n 3, 1) := by decide +kernel
theorem dX5_missingPiece_28 : decode cX5_missingPiece 28 = .ok (.iload_n 2, 1) := by decide +kernel
theorem dX5_missingPiece_29 : decode cX5_missingPiece 29 = .ok (.if_icmp .ne 6, 3) := by decide +kernel
theorem dX5_missingPiece_32 : decode cX5_missingPiece 32 = .ok (.iload 4, 2) := by decide +kernel
theorem dX5_missingPiece_34 : decode cX5_missingPiece 34 = .ok (.ireturn, 1) := by decide +kernel
theorem dX5_missingPiece_35 : decode cX5_missingPiece 35 = .ok (.iinc 3 1, 3) := by decide +kernel
theorem dX5_missingPiece_38 : decode cX5_missingPiece 38 = .ok (.iinc 4 1, 3) := by decide +kernel
theorem dX5_missingPiece_41 : decode cX5_missingPiece 41 = .ok (.goto (-36), 3) := by decide +kernel
theorem dX5_missingPiece_44 : decode cX5_missingPiece 44 = .ok (.iconst (-1), 1) := by decide +kernel
theorem dX5_missingPiece_45 : decode cX5_missingPiece 45 = .ok (.ireturn, 1) := by decide +kernel
set_option maxRecDepth 20000 in
theorem ggX5_sumBody_X5_leave : GoodIn wsX5_sumBody wsX5_leave := goodIn_r _ [6, 7, 18, 19, 20, 21, 22, 23, 24] (by decide +kernel) (by decide +kernel)
set_option maxRecDepth 20000 in
theorem gX5_sumBody_X5_leave : GoodIn wsX5_sumBody (wsV RX5 243 RX5 yX5_leave wsX5_leave) := goodIn_app (goodIn_of _ (by decide +kernel)) ggX5_sumBody_X5_leave
set_option maxRecDepth 20000 in
theorem ggX5_sumBody_X1_sumOf : GoodIn wsX5_sumBody wsX1_sumOf := goodIn_r _ [12, 13, 14, 15, 11, 16, 17, 25, 26, 27, 28] (by decide +kernel) (by decide +kernel)
set_option maxRecDepth 20000 in
theorem gX5_sumBody_X1_sumOf : GoodIn wsX5_sumBody (wsV RX5 261 RX1 yX1_sumOf wsX1_sumOf) := goodIn_app (goodIn_of _ (by decide +kernel)) ggX5_sumBody_X1_sumOf
theorem dX5_sumBody_0 : decode cX5_sumBody 0 = .ok (.aload_n 0, 1) := by decide +kernel
theorem dX5_sumBody_1 : decode cX5_sumBody 1 = .ok (.iconst 1, 1) := by decide +kernel
theorem dX5_sumBody_2 : decode cX5_sumBody 2 = .ok (.invokevirtual 243, 3) := by decide +kernel
theorem dX5_sumBody_5 : decode cX5_sumBody 5 = .ok (.aload_n 0, 1) := by decide +kernel
theorem dX5_sumBody_6 : decode cX5_sumBody 6 = .ok (.getfield 12, 3) := by decide +kernel
theorem dX5_sumBody_9 : decode cX5_sumBody 9 = .ok (.iload_n 1, 1) := by decide +kernel
theorem dX5_sumBody_10 : decode cX5_sumBody 10 = .ok (.invokevirtual 261, 3) := by decide +kernel
theorem dX5_sumBody_13 : decode cX5_sumBody 13 = .ok (.ireturn, 1) := by decide +kernel
theorem dX5_leave_0 : decode cX5_leave 0 = .ok (.aload_n 0, 1) := by decide +kernel
theorem dX5_leave_1 : decode cX5_leave 1 = .ok (.bipush 31, 2) := by decide +kernel
theorem dX5_leave_3 : decode cX5_leave 3 = .ok (.aload_n 0, 1) := by decide +kernel
theorem dX5_leave_4 : decode cX5_leave 4 = .ok (.getfield 249, 3) := by decide +kernel
theorem dX5_leave_7 : decode cX5_leave 7 = .ok (.imul, 1) := by decide +kernel
theorem dX5_leave_8 : decode cX5_leave 8 = .ok (.iload_n 1, 1) := by decide +kernel
theorem dX5_leave_9 : decode cX5_leave 9 = .ok (.iadd, 1) := by decide +kernel
theorem dX5_leave_10 : decode cX5_leave 10 = .ok (.putfield 249, 3) := by decide +kernel
theorem dX5_leave_13 : decode cX5_leave 13 = .ok (.return_, 1) := by decide +kernel
theorem dX5_come_0 : decode cX5_come 0 = .ok (.aload_n 0, 1) := by decide +kernel
theorem dX5_come_1 : decode cX5_come 1 = .ok (.iload_n 1, 1) := by decide +kernel
theorem dX5_come_2 : decode cX5_come 2 = .ok (.putfield 90, 3) := by decide +kernel
theorem dX5_come_5 : decode cX5_come 5 = .ok (.bipush (-10), 2) := by decide +kernel
theorem dX5_come_7 : decode cX5_come 7 = .ok (.iload_n 1, 1) := by decide +kernel
theorem dX5_come_8 : decode cX5_come 8 = .ok (.isub, 1) := by decide +kernel
theorem dX5_come_9 : decode cX5_come 9 = .ok (.ireturn, 1) := by decide +kernel
theorem dX5_comeLost_0 : decode cX5_comeLost 0 = .ok (.aload_n 0, 1) := by decide +kernel
theorem dX5_comeLost_1 : decode cX5_comeLost 1 = .ok (.iload_n 1, 1) := by decide +kernel
theorem dX5_comeLost_2 : decode cX5_comeLost 2 = .ok (.putfield 90, 3) := by decide +kernel
theorem dX5_comeLost_5 : decode cX5_comeLost 5 = .ok (.ldc2_w 84, 3) := by decide +kernel
theorem dX5_comeLost_8 : decode cX5_comeLost 8 = .ok (.lreturn, 1) := by decide +kernel
