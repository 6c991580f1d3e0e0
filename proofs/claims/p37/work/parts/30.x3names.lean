theorem dX3_init_0 : decode cX3_init 0 = .ok (.aload_n 0, 1) := by decide +kernel
theorem dX3_init_1 : decode cX3_init 1 = .ok (.invokespecial 3, 3) := by decide +kernel
theorem dX3_init_4 : decode cX3_init 4 = .ok (.aload_n 0, 1) := by decide +kernel
theorem dX3_init_5 : decode cX3_init 5 = .ok (.sipush 400, 3) := by decide +kernel
theorem dX3_init_8 : decode cX3_init 8 = .ok (.newarray .int, 2) := by decide +kernel
theorem dX3_init_10 : decode cX3_init 10 = .ok (.putfield 9, 3) := by decide +kernel
theorem dX3_init_13 : decode cX3_init 13 = .ok (.aload_n 0, 1) := by decide +kernel
theorem dX3_init_14 : decode cX3_init 14 = .ok (.sipush 400, 3) := by decide +kernel
theorem dX3_init_17 : decode cX3_init 17 = .ok (.newarray .int, 2) := by decide +kernel
theorem dX3_init_19 : decode cX3_init 19 = .ok (.putfield 15, 3) := by decide +kernel
theorem dX3_init_22 : decode cX3_init 22 = .ok (.aload_n 0, 1) := by decide +kernel
theorem dX3_init_23 : decode cX3_init 23 = .ok (.bipush 100, 2) := by decide +kernel
theorem dX3_init_25 : decode cX3_init 25 = .ok (.newarray .int, 2) := by decide +kernel
theorem dX3_init_27 : decode cX3_init 27 = .ok (.putfield 18, 3) := by decide +kernel
theorem dX3_init_30 : decode cX3_init 30 = .ok (.aload_n 0, 1) := by decide +kernel
theorem dX3_init_31 : decode cX3_init 31 = .ok (.bipush 25, 2) := by decide +kernel
theorem dX3_init_33 : decode cX3_init 33 = .ok (.newarray .boolean, 2) := by decide +kernel
theorem dX3_init_35 : decode cX3_init 35 = .ok (.putfield 21, 3) := by decide +kernel
theorem dX3_init_38 : decode cX3_init 38 = .ok (.aload_n 0, 1) := by decide +kernel
theorem dX3_init_39 : decode cX3_init 39 = .ok (.bipush 25, 2) := by decide +kernel
theorem dX3_init_41 : decode cX3_init 41 = .ok (.newarray .int, 2) := by decide +kernel
theorem dX3_init_43 : decode cX3_init 43 = .ok (.putfield 25, 3) := by decide +kernel
theorem dX3_init_46 : decode cX3_init 46 = .ok (.aload_n 0, 1) := by decide +kernel
theorem dX3_init_47 : decode cX3_init 47 = .ok (.bipush 25, 2) := by decide +kernel
theorem dX3_init_49 : decode cX3_init 49 = .ok (.newarray .int, 2) := by decide +kernel
theorem dX3_init_51 : decode cX3_init 51 = .ok (.putfield 28, 3) := by decide +kernel
theorem dX3_init_54 : decode cX3_init 54 = .ok (.aload_n 0, 1) := by decide +kernel
theorem dX3_init_55 : decode cX3_init 55 = .ok (.aload_n 1, 1) := by decide +kernel
theorem dX3_init_56 : decode cX3_init 56 = .ok (.putfield 31, 3) := by decide +kernel
theorem dX3_init_59 : decode cX3_init 59 = .ok (.aload_n 0, 1) := by decide +kernel
theorem dX3_init_60 : decode cX3_init 60 = .ok (.aload_n 2, 1) := by decide +kernel
theorem dX3_init_61 : decode cX3_init 61 = .ok (.putfield 35, 3) := by decide +kernel
theorem dX3_init_64 : decode cX3_init 64 = .ok (.return_, 1) := by decide +kernel
theorem dX3_trialsCounted_0 : decode cX3_trialsCounted 0 = .ok (.aload_n 0, 1) := by decide +kernel
theorem dX3_trialsCounted_1 : decode cX3_trialsCounted 1 = .ok (.getfield 39, 3) := by decide +kernel
theorem dX3_trialsCounted_4 : decode cX3_trialsCounted 4 = .ok (.ireturn, 1) := by decide +kernel
theorem dX3_hasJoined_0 : decode cX3_hasJoined 0 = .ok (.aload_n 0, 1) := by decide +kernel
theorem dX3_hasJoined_1 : decode cX3_hasJoined 1 = .ok (.getfield 43, 3) := by decide +kernel
theorem dX3_hasJoined_4 : decode cX3_hasJoined 4 = .ok (.ireturn, 1) := by decide +kernel
theorem dX3_forgetJoined_0 : decode cX3_forgetJoined 0 = .ok (.aload_n 0, 1) := by decide +kernel
theorem dX3_forgetJoined_1 : decode cX3_forgetJoined 1 = .ok (.iconst 0, 1) := by decide +kernel
theorem dX3_forgetJoined_2 : decode cX3_forgetJoined 2 = .ok (.putfield 43, 3) := by decide +kernel
theorem dX3_forgetJoined_5 : decode cX3_forgetJoined 5 = .ok (.return_, 1) := by decide +kernel
set_option maxRecDepth 20000 in
theorem ggX3_joinedFrom_X3_look : GoodIn wsX3_joinedFrom wsX3_look := goodIn_r _ [5] (by decide +kernel) (by decide +kernel)
set_option maxRecDepth 20000 in
theorem gX3_joinedFrom_X3_look : GoodIn wsX3_joinedFrom (va_wsS RX3 47 yX3_look wsX3_look) := goodIn_app (goodIn_of _ (by decide +kernel)) ggX3_joinedFrom_X3_look
theorem dX3_joinedFrom_0 : decode cX3_joinedFrom 0 = .ok (.aload_n 0, 1) := by decide +kernel
theorem dX3_joinedFrom_1 : decode cX3_joinedFrom 1 = .ok (.getfield 28, 3) := by decide +kernel
theorem dX3_joinedFrom_4 : decode cX3_joinedFrom 4 = .ok (.iload_n 1, 1) := by decide +kernel
theorem dX3_joinedFrom_5 : decode cX3_joinedFrom 5 = .ok (.invokestatic 47, 3) := by decide +kernel
theorem dX3_joinedFrom_8 : decode cX3_joinedFrom 8 = .ok (.iconst 4, 1) := by decide +kernel
theorem dX3_joinedFrom_9 : decode cX3_joinedFrom 9 = .ok (.idiv, 1) := by decide +kernel
theorem dX3_joinedFrom_10 : decode cX3_joinedFrom 10 = .ok (.ireturn, 1) := by decide +kernel
set_option maxRecDepth 20000 in
theorem ggX3_joinedTurn_X3_look : GoodIn wsX3_joinedTurn wsX3_look := goodIn_r _ [5] (by decide +kernel) (by decide +kernel)
set_option maxRecDepth 20000 in
theorem gX3_joinedTurn_X3_look : GoodIn wsX3_joinedTurn (va_wsS RX3 47 yX3_look wsX3_look) := goodIn_app (goodIn_of _ (by decide +kernel)) ggX3_joinedTurn_X3_look
theorem dX3_joinedTurn_0 : decode cX3_joinedTurn 0 = .ok (.aload_n 0, 1) := by decide +kernel
theorem dX3_joinedTurn_1 : decode cX3_joinedTurn 1 = .ok (.getfield 28, 3) := by decide +kernel
theorem dX3_joinedTurn_4 : decode cX3_joinedTurn 4 = .ok (.iload_n 1, 1) := by decide +kernel
theorem dX3_joinedTurn_5 : decode cX3_joinedTurn 5 = .ok (.invokestatic 47, 3) := by decide +kernel
theorem dX3_joinedTurn_8 : decode cX3_joinedTurn 8 = .ok (.iconst 4, 1) := by decide +kernel
theorem dX3_joinedTurn_9 : decode cX3_joinedTurn 9 = .ok (.irem, 1) := by decide +kernel
theorem dX3_joinedTurn_10 : decode cX3_joinedTurn 10 = .ok (.ireturn, 1) := by decide +kernel
set_option maxRecDepth 20000 in
theorem ggX3_countWays_X3_run : GoodIn wsX3_countWays wsX3_run := goodIn_r _ [7, 8, 9, 10, 1, 2, 11, 12, 13, 14, 15, 16, 17, 18, 19, 20, 6, 21, 22, 23, 24, 25, 26, 27, 28, 29, 30, 31, 32, 33, 34, 35, 36, 37, 38, 39, 40, 41, 42, 43, 44, 45, 46, 47, 48, 49, 50, 51, 52, 53, 54, 55, 56, 57, 58, 59, 60, 61, 62, 63, 64, 65, 66, 67, 68, 69, 70, 71, 72, 73, 74, 75, 76, 77, 78, 79, 80, 81, 82, 83, 84, 85, 86, 87, 88, 89, 90, 91, 92, 93, 94, 95, 96, 97, 98, 99, 100, 101, 102, 103, 104, 105, 106, 107, 108, 109, 110, 111, 112, 113, 114, 115, 116, 117, 118, 119, 120] (by decide +kernel) (by decide +kernel)
set_option maxRecDepth 20000 in
theorem gX3_countWays_X3_run : GoodIn wsX3_countWays (wsV RX3 51 RX3 yX3_run wsX3_run) := goodIn_app (goodIn_of _ (by decide +kernel)) ggX3_countWays_X3_run
theorem dX3_countWays_0 : decode cX3_countWays 0 = .ok (.aload_n 0, 1) := by decide +kernel
theorem dX3_countWays_1 : decode cX3_countWays 1 = .ok (.iconst 0, 1) := by decide +kernel
theorem dX3_countWays_2 : decode cX3_countWays 2 = .ok (.invokevirtual 51, 3) := by decide +kernel
theorem dX3_countWays_5 : decode cX3_countWays 5 = .ok (.aload_n 0, 1) := by decide +kernel
theorem dX3_countWays_6 : decode cX3_countWays 6 = .ok (.getfield 55, 3) := by decide +kernel
theorem dX3_countWays_9 : decode cX3_countWays 9 = .ok (.ifCond .eq 8, 3) := by decide +kernel
theorem dX3_countWays_12 : decode cX3_countWays 12 = .ok (.bipush (-6), 2) := by decide +kernel
theorem dX3_countWays_14 : decode cX3_countWays 14 = .ok (.goto 7, 3) := by decide +kernel
theorem dX3_countWays_17 : decode cX3_countWays 17 = .ok (.aload_n 0, 1) := by decide +kernel
theorem dX3_countWays_18 : decode cX3_countWays 18 = .ok (.getfield 58, 3) := by decide +kernel
theorem dX3_countWays_21 : decode cX3_countWays 21 = .ok (.ireturn, 1) := by decide +kernel
set_option maxRecDepth 20000 in
theorem ggX3_findFirst_X3_run : GoodIn wsX3_findFirst wsX3_run := goodIn_r _ [11, 12, 13, 14, 1, 2, 15, 16, 17, 18, 19, 20, 21, 22, 23, 24, 10, 25, 4, 26, 27, 28, 29, 30, 31, 32, 33, 34, 35, 36, 37, 38, 39, 40, 41, 42, 43, 44, 45, 46, 47, 48, 49, 50, 51, 52, 53, 54, 55, 56, 57, 58, 59, 60, 61, 62, 63, 64, 65, 66, 67, 68, 69, 70, 71, 72, 73, 74, 75, 76, 77, 78, 79, 80, 6, 81, 82, 83, 84, 85, 86, 87, 88, 89, 90, 91, 92, 93, 94, 95, 96, 97, 98, 99, 100, 101, 102, 103, 104, 105, 106, 107, 108, 109, 110, 111, 112, 113, 114, 115, 116, 117, 118, 119, 120, 121, 122] (by decide +kernel) (by decide +kernel)
set_option maxRecDepth 20000 in
theorem gX3_findFirst_X3_run : GoodIn wsX3_findFirst (wsV RX3 51 RX3 yX3_run wsX3_run) := goodIn_app (goodIn_of _ (by decide +kernel)) ggX3_findFirst_X3_run
set_option maxRecDepth 20000 in
theorem ggX3_findFirst_X1_pieces : GoodIn wsX3_findFirst wsX1_pieces := goodIn_r _ [84, 85, 86, 119, 120, 121, 122] (by decide +kernel) (by decide +kernel)
set_option maxRecDepth 20000 in
theorem gX3_findFirst_X1_pieces : GoodIn wsX3_findFirst (wsV RX3 61 RX1 yX1_pieces wsX1_pieces) := goodIn_app (goodIn_of _ (by decide +kernel)) ggX3_findFirst_X1_pieces
set_option maxRecDepth 20000 in
theorem ggX3_findFirst_X3_look : GoodIn wsX3_findFirst wsX3_look := goodIn_r _ [98] (by decide +kernel) (by decide +kernel)
set_option maxRecDepth 20000 in
theorem gX3_findFirst_X3_look : GoodIn wsX3_findFirst (va_wsS RX3 47 yX3_look wsX3_look) := goodIn_app (goodIn_of _ (by decide +kernel)) ggX3_findFirst_X3_look
set_option maxRecDepth 20000 in
theorem ggX3_findFirst_X3_note : GoodIn wsX3_findFirst wsX3_note := goodIn_r _ [71] (by decide +kernel) (by decide +kernel)
set_option maxRecDepth 20000 in
theorem gX3_findFirst_X3_note : GoodIn wsX3_findFirst (va_wsS RX3 67 yX3_note wsX3_note) := goodIn_app (goodIn_of _ (by decide +kernel)) ggX3_findFirst_X3_note
theorem dX3_findFirst_0 : decode cX3_findFirst 0 = .ok (.aload_n 0, 1) := by decide +kernel
theorem dX3_findFirst_1 : decode cX3_findFirst 1 = .ok (.iconst 1, 1) := by decide +kernel
theorem dX3_findFirst_2 : decode cX3_findFirst 2 = .ok (.invokevirtual 51, 3) := by decide +kernel
theorem dX3_findFirst_5 : decode cX3_findFirst 5 = .ok (.aload_n 0, 1) := by decide +kernel
theorem dX3_findFirst_6 : decode cX3_findFirst 6 = .ok (.getfield 55, 3) := by decide +kernel
theorem dX3_findFirst_9 : decode cX3_findFirst 9 = .ok (.ifCond .eq 6, 3) := by decide +kernel
theorem dX3_findFirst_12 : decode cX3_findFirst 12 = .ok (.bipush (-6), 2) := by decide +kernel
theorem dX3_findFirst_14 : decode cX3_findFirst 14 = .ok (.ireturn, 1) := by decide +kernel
theorem dX3_findFirst_15 : decode cX3_findFirst 15 = .ok (.aload_n 0, 1) := by decide +kernel
theorem dX3_findFirst_16 : decode cX3_findFirst 16 = .ok (.aload_n 0, 1) := by decide +kernel
theorem dX3_findFirst_17 : decode cX3_findFirst 17 = .ok (.getfield 58, 3) := by decide +kernel
theorem dX3_findFirst_20 : decode cX3_findFirst 20 = .ok (.ifCond .le 7, 3) := by decide +kernel
theorem dX3_findFirst_23 : decode cX3_findFirst 23 = .ok (.iconst 1, 1) := by decide +kernel
theorem dX3_findFirst_24 : decode cX3_findFirst 24 = .ok (.goto 4, 3) := by decide +kernel
theorem dX3_findFirst_27 : decode cX3_findFirst 27 = .ok (.iconst 0, 1) := by decide +kernel
theorem dX3_findFirst_28 : decode cX3_findFirst 28 = .ok (.putfield 43, 3) := by decide +kernel
theorem dX3_findFirst_31 : decode cX3_findFirst 31 = .ok (.iconst 0, 1) := by decide +kernel
theorem dX3_findFirst_32 : decode cX3_findFirst 32 = .ok (.istore_n 1, 1) := by decide +kernel
theorem dX3_findFirst_33 : decode cX3_findFirst 33 = .ok (.aload_n 0, 1) := by decide +kernel
theorem dX3_findFirst_34 : decode cX3_findFirst 34 = .ok (.getfield 43, 3) := by decide +kernel
theorem dX3_findFirst_37 : decode cX3_findFirst 37 = .ok (.ifCond .eq 36, 3) := by decide +kernel
theorem dX3_findFirst_40 : decode cX3_findFirst 40 = .ok (.iload_n 1, 1) := by decide +kernel
theorem dX3_findFirst_41 : decode cX3_findFirst 41 = .ok (.aload_n 0, 1) := by decide +kernel
theorem dX3_findFirst_42 : decode cX3_findFirst 42 = .ok (.getfield 31, 3) := by decide +kernel
theorem dX3_findFirst_45 : decode cX3_findFirst 45 = .ok (.invokevirtual 61, 3) := by decide +kernel
theorem dX3_findFirst_48 : decode cX3_findFirst 48 = .ok (.if_icmp .ge 25, 3) := by decide +kernel
theorem dX3_findFirst_51 : decode cX3_findFirst 51 = .ok (.aload_n 0, 1) := by decide +kernel
theorem dX3_findFirst_52 : decode cX3_findFirst 52 = .ok (.getfield 28, 3) := by decide +kernel
theorem dX3_findFirst_55 : decode cX3_findFirst 55 = .ok (.iload_n 1, 1) := by decide +kernel
theorem dX3_findFirst_56 : decode cX3_findFirst 56 = .ok (.aload_n 0, 1) := by decide +kernel
theorem dX3_findFirst_57 : decode cX3_findFirst 57 = .ok (.getfield 25, 3) := by decide +kernel
theorem dX3_findFirst_60 : decode cX3_findFirst 60 = .ok (.iload_n 1, 1) := by decide +kernel
theorem dX3_findFirst_61 : decode cX3_findFirst 61 = .ok (.invokestatic 47, 3) := by decide +kernel
theorem dX3_findFirst_64 : decode cX3_findFirst 64 = .ok (.invokestatic 67, 3) := by decide +kernel
theorem dX3_findFirst_67 : decode cX3_findFirst 67 = .ok (.iinc 1 1, 3) := by decide +kernel
theorem dX3_findFirst_70 : decode cX3_findFirst 70 = .ok (.goto (-37), 3) := by decide +kernel
theorem dX3_findFirst_73 : decode cX3_findFirst 73 = .ok (.aload_n 0, 1) := by decide +kernel
theorem dX3_findFirst_74 : decode cX3_findFirst 74 = .ok (.getfield 58, 3) := by decide +kernel
theorem dX3_findFirst_77 : decode cX3_findFirst 77 = .ok (.ireturn, 1) := by decide +kernel
set_option maxRecDepth 20000 in
theorem ggX3_run_X2_size : GoodIn wsX3_run wsX2_size := goodIn_r _ [11, 12, 110, 111, 112] (by decide +kernel) (by decide +kernel)
set_option maxRecDepth 20000 in
theorem gX3_run_X2_size : GoodIn wsX3_run (wsV RX3 71 RX2 yX2_size wsX2_size) := goodIn_app (goodIn_of _ (by decide +kernel)) ggX3_run_X2_size
set_option maxRecDepth 20000 in
theorem ggX3_run_X3_readEdges : GoodIn wsX3_run wsX3_readEdges := goodIn_r _ [17, 2, 18, 19, 20, 21, 22, 23, 10, 24, 25, 26, 27, 28, 29, 12, 30, 31, 32, 33, 34, 35, 36, 37, 38, 39, 40, 41, 42, 16, 43, 44, 45, 46, 47, 48, 49, 50, 51, 52, 53, 54, 55, 56, 57, 58, 59, 60, 61, 62, 63, 64, 97, 98, 99, 100, 101, 102, 103, 104, 105, 106, 107, 108, 109, 110, 111, 112, 113, 114, 115, 116] (by decide +kernel) (by decide +kernel)
set_option maxRecDepth 20000 in
theorem gX3_run_X3_readEdges : GoodIn wsX3_run (wsV RX3 76 RX3 yX3_readEdges wsX3_readEdges) := goodIn_app (goodIn_of _ (by decide +kernel)) ggX3_run_X3_readEdges
set_option maxRecDepth 20000 in
theorem ggX3_run_X3_fillFrom : GoodIn wsX3_run wsX3_fillFrom := goodIn_r _ [68, 18, 5, 2, 1, 69, 70, 71, 72, 6, 73, 4, 74, 3, 75, 76, 77, 33, 78, 79, 80, 81, 82, 83, 16, 84, 85, 20, 86, 87, 88, 89, 30, 31, 32, 34, 35, 36, 37, 38, 39, 90, 91, 92, 7, 8, 9, 10, 11, 12, 93, 94, 95, 96, 19, 62, 63, 64, 65, 66, 67, 97, 98, 99, 100, 101, 102, 103, 104, 105, 106, 107, 108, 109, 113, 114, 115, 116, 110, 111, 112] (by decide +kernel) (by decide +kernel)
set_option maxRecDepth 20000 in
theorem gX3_run_X3_fillFrom : GoodIn wsX3_run (wsV RX3 83 RX3 yX3_fillFrom wsX3_fillFrom) := goodIn_app (goodIn_of _ (by decide +kernel)) ggX3_run_X3_fillFrom
theorem dX3_run_0 : decode cX3_run 0 = .ok (.iconst 0, 1) := by decide +kernel
theorem dX3_run_1 : decode cX3_run 1 = .ok (.istore_n 2, 1) := by decide +kernel
theorem dX3_run_2 : decode cX3_run 2 = .ok (.iload_n 2, 1) := by decide +kernel
theorem dX3_run_3 : decode cX3_run 3 = .ok (.aload_n 0, 1) := by decide +kernel
theorem dX3_run_4 : decode cX3_run 4 = .ok (.getfield 21, 3) := by decide +kernel
theorem dX3_run_7 : decode cX3_run 7 = .ok (.arraylength, 1) := by decide +kernel
theorem dX3_run_8 : decode cX3_run 8 = .ok (.if_icmp .ge 16, 3) := by decide +kernel
theorem dX3_run_11 : decode cX3_run 11 = .ok (.aload_n 0, 1) := by decide +kernel
theorem dX3_run_12 : decode cX3_run 12 = .ok (.getfield 21, 3) := by decide +kernel
theorem dX3_run_15 : decode cX3_run 15 = .ok (.iload_n 2, 1) := by decide +kernel
theorem dX3_run_16 : decode cX3_run 16 = .ok (.iconst 0, 1) := by decide +kernel
theorem dX3_run_17 : decode cX3_run 17 = .ok (.bastore, 1) := by decide +kernel
theorem dX3_run_18 : decode cX3_run 18 = .ok (.iinc 2 1, 3) := by decide +kernel
theorem dX3_run_21 : decode cX3_run 21 = .ok (.goto (-19), 3) := by decide +kernel
theorem dX3_run_24 : decode cX3_run 24 = .ok (.iconst 0, 1) := by decide +kernel
theorem dX3_run_25 : decode cX3_run 25 = .ok (.istore_n 2, 1) := by decide +kernel
theorem dX3_run_26 : decode cX3_run 26 = .ok (.iload_n 2, 1) := by decide +kernel
theorem dX3_run_27 : decode cX3_run 27 = .ok (.aload_n 0, 1) := by decide +kernel
theorem dX3_run_28 : decode cX3_run 28 = .ok (.getfield 35, 3) := by decide +kernel
theorem dX3_run_31 : decode cX3_run 31 = .ok (.invokevirtual 71, 3) := by decide +kernel
theorem dX3_run_34 : decode cX3_run 34 = .ok (.if_icmp .ge 14, 3) := by decide +kernel
theorem dX3_run_37 : decode cX3_run 37 = .ok (.aload_n 0, 1) := by decide +kernel
theorem dX3_run_38 : decode cX3_run 38 = .ok (.iload_n 2, 1) := by decide +kernel
theorem dX3_run_39 : decode cX3_run 39 = .ok (.invokevirtual 76, 3) := by decide +kernel
theorem dX3_run_42 : decode cX3_run 42 = .ok (.iinc 2 1, 3) := by decide +kernel
theorem dX3_run_45 : decode cX3_run 45 = .ok (.goto (-19), 3) := by decide +kernel
theorem dX3_run_48 : decode cX3_run 48 = .ok (.aload_n 0, 1) := by decide +kernel
theorem dX3_run_49 : decode cX3_run 49 = .ok (.iload_n 1, 1) := by decide +kernel
theorem dX3_run_50 : decode cX3_run 50 = .ok (.putfield 80, 3) := by decide +kernel
theorem dX3_run_53 : decode cX3_run 53 = .ok (.aload_n 0, 1) := by decide +kernel
theorem dX3_run_54 : decode cX3_run 54 = .ok (.iconst 0, 1) := by decide +kernel
theorem dX3_run_55 : decode cX3_run 55 = .ok (.putfield 55, 3) := by decide +kernel
theorem dX3_run_58 : decode cX3_run 58 = .ok (.aload_n 0, 1) := by decide +kernel
theorem dX3_run_59 : decode cX3_run 59 = .ok (.iconst 0, 1) := by decide +kernel
theorem dX3_run_60 : decode cX3_run 60 = .ok (.putfield 58, 3) := by decide +kernel
theorem dX3_run_63 : decode cX3_run 63 = .ok (.aload_n 0, 1) := by decide +kernel
theorem dX3_run_64 : decode cX3_run 64 = .ok (.iconst 0, 1) := by decide +kernel
theorem dX3_run_65 : decode cX3_run 65 = .ok (.putfield 39, 3) := by decide +kernel
theorem dX3_run_68 : decode cX3_run 68 = .ok (.aload_n 0, 1) := by decide +kernel
theorem dX3_run_69 : decode cX3_run 69 = .ok (.iconst 0, 1) := by decide +kernel
theorem dX3_run_70 : decode cX3_run 70 = .ok (.invokevirtual 83, 3) := by decide +kernel
theorem dX3_run_73 : decode cX3_run 73 = .ok (.return_, 1) := by decide +kernel
set_option maxRecDepth 20000 in
theorem ggX3_readEdges_X2_pieceAt : GoodIn wsX3_readEdges wsX2_pieceAt := goodIn_r _ [9, 10, 11, 12, 13, 8, 14, 15, 65, 66, 67] (by decide +kernel) (by decide +kernel)
set_option maxRecDepth 20000 in
theorem gX3_readEdges_X2_pieceAt : GoodIn wsX3_readEdges (wsV RX3 86 RX2 yX2_pieceAt wsX2_pieceAt) := goodIn_app (goodIn_of _ (by decide +kernel)) ggX3_readEdges_X2_pieceAt
set_option maxRecDepth 20000 in
theorem ggX3_readEdges_X1_isFlat : GoodIn wsX3_readEdges wsX1_isFlat := goodIn_r _ [20, 21, 22, 23, 19, 24, 25, 68, 69, 70, 71] (by decide +kernel) (by decide +kernel)
set_option maxRecDepth 20000 in
theorem gX3_readEdges_X1_isFlat : GoodIn wsX3_readEdges (wsV RX3 90 RX1 yX1_isFlat wsX1_isFlat) := goodIn_app (goodIn_of _ (by decide +kernel)) ggX3_readEdges_X1_isFlat
set_option maxRecDepth 20000 in
theorem ggX3_readEdges_X3_codeOf : GoodIn wsX3_readEdges wsX3_codeOf := goodIn_r _ [30, 2, 31, 32, 33, 19, 34, 21, 22, 23, 24, 25, 35, 36, 37, 38, 39, 52, 53, 54, 55, 56, 57, 58, 59, 60, 61, 62, 63, 64, 68, 69, 70, 71] (by decide +kernel) (by decide +kernel)
set_option maxRecDepth 20000 in
theorem gX3_readEdges_X3_codeOf : GoodIn wsX3_readEdges (wsV RX3 94 RX3 yX3_codeOf wsX3_codeOf) := goodIn_app (goodIn_of _ (by decide +kernel)) ggX3_readEdges_X3_codeOf
set_option maxRecDepth 20000 in
theorem ggX3_readEdges_X3_mateOf : GoodIn wsX3_readEdges wsX3_mateOf := goodIn_r _ [43, 2, 31, 32, 33, 19, 34, 21, 22, 23, 24, 25, 35, 36, 37, 38, 39, 52, 53, 54, 55, 56, 57, 58, 59, 60, 61, 62, 63, 64, 68, 69, 70, 71] (by decide +kernel) (by decide +kernel)
set_option maxRecDepth 20000 in
theorem gX3_readEdges_X3_mateOf : GoodIn wsX3_readEdges (wsV RX3 98 RX3 yX3_mateOf wsX3_mateOf) := goodIn_app (goodIn_of _ (by decide +kernel)) ggX3_readEdges_X3_mateOf
set_option maxRecDepth 20000 in
theorem ggX3_readEdges_X2_turnAt : GoodIn wsX3_readEdges wsX2_turnAt := goodIn_r _ [47, 48, 11, 12, 13, 8, 14, 15, 65, 66, 67] (by decide +kernel) (by decide +kernel)
set_option maxRecDepth 20000 in
theorem gX3_readEdges_X2_turnAt : GoodIn wsX3_readEdges (wsV RX3 101 RX2 yX2_turnAt wsX2_turnAt) := goodIn_app (goodIn_of _ (by decide +kernel)) ggX3_readEdges_X2_turnAt
set_option maxRecDepth 20000 in
theorem ggX3_readEdges_X3_note : GoodIn wsX3_readEdges wsX3_note := goodIn_r _ [51] (by decide +kernel) (by decide +kernel)
set_option maxRecDepth 20000 in
theorem gX3_readEdges_X3_note : GoodIn wsX3_readEdges (va_wsS RX3 67 yX3_note wsX3_note) := goodIn_app (goodIn_of _ (by decide +kernel)) ggX3_readEdges_X3_note
theorem dX3_readEdges_0 : decode cX3_readEdges 0 = .ok (.aload_n 0, 1) := by decide +kernel
theorem dX3_readEdges_1 : decode cX3_readEdges 1 = .ok (.getfield 35, 3) := by decide +kernel
theorem dX3_readEdges_4 : decode cX3_readEdges 4 = .ok (.iload_n 1, 1) := by decide +kernel
theorem dX3_readEdges_5 : decode cX3_readEdges 5 = .ok (.invokevirtual 86, 3) := by decide +kernel
theorem dX3_readEdges_8 : decode cX3_readEdges 8 = .ok (.istore_n 2, 1) := by decide +kernel
theorem dX3_readEdges_9 : decode cX3_readEdges 9 = .ok (.iconst 0, 1) := by decide +kernel
theorem dX3_readEdges_10 : decode cX3_readEdges 10 = .ok (.istore_n 3, 1) := by decide +kernel
theorem dX3_readEdges_11 : decode cX3_readEdges 11 = .ok (.iload_n 3, 1) := by decide +kernel
theorem dX3_readEdges_12 : decode cX3_readEdges 12 = .ok (.iconst 4, 1) := by decide +kernel
theorem dX3_readEdges_13 : decode cX3_readEdges 13 = .ok (.if_icmp .ge 124, 3) := by decide +kernel
theorem dX3_readEdges_16 : decode cX3_readEdges 16 = .ok (.aload_n 0, 1) := by decide +kernel
theorem dX3_readEdges_17 : decode cX3_readEdges 17 = .ok (.getfield 31, 3) := by decide +kernel
theorem dX3_readEdges_20 : decode cX3_readEdges 20 = .ok (.iload_n 2, 1) := by decide +kernel
theorem dX3_readEdges_21 : decode cX3_readEdges 21 = .ok (.iload_n 3, 1) := by decide +kernel
theorem dX3_readEdges_22 : decode cX3_readEdges 22 = .ok (.invokevirtual 90, 3) := by decide +kernel
theorem dX3_readEdges_25 : decode cX3_readEdges 25 = .ok (.ifCond .eq 7, 3) := by decide +kernel
theorem dX3_readEdges_28 : decode cX3_readEdges 28 = .ok (.iconst (-1), 1) := by decide +kernel
theorem dX3_readEdges_29 : decode cX3_readEdges 29 = .ok (.goto 9, 3) := by decide +kernel
theorem dX3_readEdges_32 : decode cX3_readEdges 32 = .ok (.aload_n 0, 1) := by decide +kernel
theorem dX3_readEdges_33 : decode cX3_readEdges 33 = .ok (.iload_n 2, 1) := by decide +kernel
theorem dX3_readEdges_34 : decode cX3_readEdges 34 = .ok (.iload_n 3, 1) := by decide +kernel
theorem dX3_readEdges_35 : decode cX3_readEdges 35 = .ok (.invokevirtual 94, 3) := by decide +kernel
theorem dX3_readEdges_38 : decode cX3_readEdges 38 = .ok (.istore 4, 2) := by decide +kernel
theorem dX3_readEdges_40 : decode cX3_readEdges 40 = .ok (.aload_n 0, 1) := by decide +kernel
theorem dX3_readEdges_41 : decode cX3_readEdges 41 = .ok (.getfield 31, 3) := by decide +kernel
theorem dX3_readEdges_44 : decode cX3_readEdges 44 = .ok (.iload_n 2, 1) := by decide +kernel
theorem dX3_readEdges_45 : decode cX3_readEdges 45 = .ok (.iload_n 3, 1) := by decide +kernel
theorem dX3_readEdges_46 : decode cX3_readEdges 46 = .ok (.invokevirtual 90, 3) := by decide +kernel
theorem dX3_readEdges_49 : decode cX3_readEdges 49 = .ok (.ifCond .eq 7, 3) := by decide +kernel
theorem dX3_readEdges_52 : decode cX3_readEdges 52 = .ok (.iconst (-1), 1) := by decide +kernel
theorem dX3_readEdges_53 : decode cX3_readEdges 53 = .ok (.goto 9, 3) := by decide +kernel
theorem dX3_readEdges_56 : decode cX3_readEdges 56 = .ok (.aload_n 0, 1) := by decide +kernel
theorem dX3_readEdges_57 : decode cX3_readEdges 57 = .ok (.iload_n 2, 1) := by decide +kernel
theorem dX3_readEdges_58 : decode cX3_readEdges 58 = .ok (.iload_n 3, 1) := by decide +kernel
theorem dX3_readEdges_59 : decode cX3_readEdges 59 = .ok (.invokevirtual 98, 3) := by decide +kernel
theorem dX3_readEdges_62 : decode cX3_readEdges 62 = .ok (.istore 5, 2) := by decide +kernel
theorem dX3_readEdges_64 : decode cX3_readEdges 64 = .ok (.iconst 0, 1) := by decide +kernel
theorem dX3_readEdges_65 : decode cX3_readEdges 65 = .ok (.istore 6, 2) := by decide +kernel
theorem dX3_readEdges_67 : decode cX3_readEdges 67 = .ok (.iload 6, 2) := by decide +kernel
theorem dX3_readEdges_69 : decode cX3_readEdges 69 = .ok (.iconst 4, 1) := by decide +kernel
theorem dX3_readEdges_70 : decode cX3_readEdges 70 = .ok (.if_icmp .ge 61, 3) := by decide +kernel
theorem dX3_readEdges_73 : decode cX3_readEdges 73 = .ok (.iload_n 3, 1) := by decide +kernel
theorem dX3_readEdges_74 : decode cX3_readEdges 74 = .ok (.aload_n 0, 1) := by decide +kernel
theorem dX3_readEdges_75 : decode cX3_readEdges 75 = .ok (.getfield 35, 3) := by decide +kernel
theorem dX3_readEdges_78 : decode cX3_readEdges 78 = .ok (.iload_n 1, 1) := by decide +kernel
theorem dX3_readEdges_79 : decode cX3_readEdges 79 = .ok (.invokevirtual 101, 3) := by decide +kernel
theorem dX3_readEdges_82 : decode cX3_readEdges 82 = .ok (.iadd, 1) := by decide +kernel
theorem dX3_readEdges_83 : decode cX3_readEdges 83 = .ok (.iload 6, 2) := by decide +kernel
theorem dX3_readEdges_85 : decode cX3_readEdges 85 = .ok (.iadd, 1) := by decide +kernel
theorem dX3_readEdges_86 : decode cX3_readEdges 86 = .ok (.iconst 4, 1) := by decide +kernel
theorem dX3_readEdges_87 : decode cX3_readEdges 87 = .ok (.irem, 1) := by decide +kernel
theorem dX3_readEdges_88 : decode cX3_readEdges 88 = .ok (.istore 7, 2) := by decide +kernel
theorem dX3_readEdges_90 : decode cX3_readEdges 90 = .ok (.iload_n 1, 1) := by decide +kernel
theorem dX3_readEdges_91 : decode cX3_readEdges 91 = .ok (.iconst 4, 1) := by decide +kernel
theorem dX3_readEdges_92 : decode cX3_readEdges 92 = .ok (.imul, 1) := by decide +kernel
theorem dX3_readEdges_93 : decode cX3_readEdges 93 = .ok (.iload 6, 2) := by decide +kernel
theorem dX3_readEdges_95 : decode cX3_readEdges 95 = .ok (.iadd, 1) := by decide +kernel
theorem dX3_readEdges_96 : decode cX3_readEdges 96 = .ok (.iconst 4, 1) := by decide +kernel
theorem dX3_readEdges_97 : decode cX3_readEdges 97 = .ok (.imul, 1) := by decide +kernel
theorem dX3_readEdges_98 : decode cX3_readEdges 98 = .ok (.iload 7, 2) := by decide +kernel
theorem dX3_readEdges_100 : decode cX3_readEdges 100 = .ok (.iadd, 1) := by decide +kernel
theorem dX3_readEdges_101 : decode cX3_readEdges 101 = .ok (.istore 8, 2) := by decide +kernel
theorem dX3_readEdges_103 : decode cX3_readEdges 103 = .ok (.aload_n 0, 1) := by decide +kernel
theorem dX3_readEdges_104 : decode cX3_readEdges 104 = .ok (.getfield 9, 3) := by decide +kernel
theorem dX3_readEdges_107 : decode cX3_readEdges 107 = .ok (.iload 8, 2) := by decide +kernel
theorem dX3_readEdges_109 : decode cX3_readEdges 109 = .ok (.iload 4, 2) := by decide +kernel
theorem dX3_readEdges_111 : decode cX3_readEdges 111 = .ok (.invokestatic 67, 3) := by decide +kernel
theorem dX3_readEdges_114 : decode cX3_readEdges 114 = .ok (.aload_n 0, 1) := by decide +kernel
theorem dX3_readEdges_115 : decode cX3_readEdges 115 = .ok (.getfield 15, 3) := by decide +kernel
theorem dX3_readEdges_118 : decode cX3_readEdges 118 = .ok (.iload 8, 2) := by decide +kernel
theorem dX3_readEdges_120 : decode cX3_readEdges 120 = .ok (.iload 5, 2) := by decide +kernel
theorem dX3_readEdges_122 : decode cX3_readEdges 122 = .ok (.invokestatic 67, 3) := by decide +kernel
theorem dX3_readEdges_125 : decode cX3_readEdges 125 = .ok (.iinc 6 1, 3) := by decide +kernel
theorem dX3_readEdges_128 : decode cX3_readEdges 128 = .ok (.goto (-61), 3) := by decide +kernel
theorem dX3_readEdges_131 : decode cX3_readEdges 131 = .ok (.iinc 3 1, 3) := by decide +kernel
theorem dX3_readEdges_134 : decode cX3_readEdges 134 = .ok (.goto (-123), 3) := by decide +kernel
theorem dX3_readEdges_137 : decode cX3_readEdges 137 = .ok (.return_, 1) := by decide +kernel
set_option maxRecDepth 20000 in
theorem ggX3_codeOf_X1_edgeHeight : GoodIn wsX3_codeOf wsX1_edgeHeight := goodIn_r _ [6, 7, 8, 9, 5, 10, 11, 12, 13, 14, 15, 16, 30, 31, 32, 33] (by decide +kernel) (by decide +kernel)
set_option maxRecDepth 20000 in
theorem gX3_codeOf_X1_edgeHeight : GoodIn wsX3_codeOf (wsV RX3 104 RX1 yX1_edgeHeight wsX1_edgeHeight) := goodIn_app (goodIn_of _ (by decide +kernel)) ggX3_codeOf_X1_edgeHeight
theorem dX3_codeOf_0 : decode cX3_codeOf 0 = .ok (.iconst 0, 1) := by decide +kernel
theorem dX3_codeOf_1 : decode cX3_codeOf 1 = .ok (.istore_n 3, 1) := by decide +kernel
theorem dX3_codeOf_2 : decode cX3_codeOf 2 = .ok (.iconst 0, 1) := by decide +kernel
theorem dX3_codeOf_3 : decode cX3_codeOf 3 = .ok (.istore 4, 2) := by decide +kernel
theorem dX3_codeOf_5 : decode cX3_codeOf 5 = .ok (.iload 4, 2) := by decide +kernel
theorem dX3_codeOf_7 : decode cX3_codeOf 7 = .ok (.iconst 5, 1) := by decide +kernel
theorem dX3_codeOf_8 : decode cX3_codeOf 8 = .ok (.if_icmp .ge 29, 3) := by decide +kernel
theorem dX3_codeOf_11 : decode cX3_codeOf 11 = .ok (.iload_n 3, 1) := by decide +kernel
theorem dX3_codeOf_12 : decode cX3_codeOf 12 = .ok (.bipush 19, 2) := by decide +kernel
theorem dX3_codeOf_14 : decode cX3_codeOf 14 = .ok (.imul, 1) := by decide +kernel
theorem dX3_codeOf_15 : decode cX3_codeOf 15 = .ok (.bipush 9, 2) := by decide +kernel
theorem dX3_codeOf_17 : decode cX3_codeOf 17 = .ok (.iadd, 1) := by decide +kernel
theorem dX3_codeOf_18 : decode cX3_codeOf 18 = .ok (.aload_n 0, 1) := by decide +kernel
theorem dX3_codeOf_19 : decode cX3_codeOf 19 = .ok (.getfield 31, 3) := by decide +kernel
theorem dX3_codeOf_22 : decode cX3_codeOf 22 = .ok (.iload_n 1, 1) := by decide +kernel
theorem dX3_codeOf_23 : decode cX3_codeOf 23 = .ok (.iload_n 2, 1) := by decide +kernel
theorem dX3_codeOf_24 : decode cX3_codeOf 24 = .ok (.iload 4, 2) := by decide +kernel
theorem dX3_codeOf_26 : decode cX3_codeOf 26 = .ok (.invokevirtual 104, 3) := by decide +kernel
theorem dX3_codeOf_29 : decode cX3_codeOf 29 = .ok (.iadd, 1) := by decide +kernel
theorem dX3_codeOf_30 : decode cX3_codeOf 30 = .ok (.istore_n 3, 1) := by decide +kernel
theorem dX3_codeOf_31 : decode cX3_codeOf 31 = .ok (.iinc 4 1, 3) := by decide +kernel
theorem dX3_codeOf_34 : decode cX3_codeOf 34 = .ok (.goto (-29), 3) := by decide +kernel
theorem dX3_codeOf_37 : decode cX3_codeOf 37 = .ok (.iload_n 3, 1) := by decide +kernel
theorem dX3_codeOf_38 : decode cX3_codeOf 38 = .ok (.ireturn, 1) := by decide +kernel
set_option maxRecDepth 20000 in
theorem ggX3_mateOf_X1_edgeHeight : GoodIn wsX3_mateOf wsX1_edgeHeight := goodIn_r _ [6, 7, 8, 9, 5, 10, 11, 12, 13, 14, 15, 16, 30, 31, 32, 33] (by decide +kernel) (by decide +kernel)
set_option maxRecDepth 20000 in
theorem gX3_mateOf_X1_edgeHeight : GoodIn wsX3_mateOf (wsV RX3 104 RX1 yX1_edgeHeight wsX1_edgeHeight) := goodIn_app (goodIn_of _ (by decide +kernel)) ggX3_mateOf_X1_edgeHeight
theorem dX3_mateOf_0 : decode cX3_mateOf 0 = .ok (.iconst 0, 1) := by decide +kernel
theorem dX3_mateOf_1 : decode cX3_mateOf 1 = .ok (.istore_n 3, 1) := by decide +kernel
theorem dX3_mateOf_2 : decode cX3_mateOf 2 = .ok (.iconst 4, 1) := by decide +kernel
theorem dX3_mateOf_3 : decode cX3_mateOf 3 = .ok (.istore 4, 2) := by decide +kernel
theorem dX3_mateOf_5 : decode cX3_mateOf 5 = .ok (.iload 4, 2) := by decide +kernel
theorem dX3_mateOf_7 : decode cX3_mateOf 7 = .ok (.ifCond .lt 29, 3) := by decide +kernel
theorem dX3_mateOf_10 : decode cX3_mateOf 10 = .ok (.iload_n 3, 1) := by decide +kernel
theorem dX3_mateOf_11 : decode cX3_mateOf 11 = .ok (.bipush 19, 2) := by decide +kernel
theorem dX3_mateOf_13 : decode cX3_mateOf 13 = .ok (.imul, 1) := by decide +kernel
theorem dX3_mateOf_14 : decode cX3_mateOf 14 = .ok (.bipush 9, 2) := by decide +kernel
theorem dX3_mateOf_16 : decode cX3_mateOf 16 = .ok (.iadd, 1) := by decide +kernel
theorem dX3_mateOf_17 : decode cX3_mateOf 17 = .ok (.aload_n 0, 1) := by decide +kernel
theorem dX3_mateOf_18 : decode cX3_mateOf 18 = .ok (.getfield 31, 3) := by decide +kernel
theorem dX3_mateOf_21 : decode cX3_mateOf 21 = .ok (.iload_n 1, 1) := by decide +kernel
theorem dX3_mateOf_22 : decode cX3_mateOf 22 = .ok (.iload_n 2, 1) := by decide +kernel
theorem dX3_mateOf_23 : decode cX3_mateOf 23 = .ok (.iload 4, 2) := by decide +kernel
theorem dX3_mateOf_25 : decode cX3_mateOf 25 = .ok (.invokevirtual 104, 3) := by decide +kernel
theorem dX3_mateOf_28 : decode cX3_mateOf 28 = .ok (.isub, 1) := by decide +kernel
theorem dX3_mateOf_29 : decode cX3_mateOf 29 = .ok (.istore_n 3, 1) := by decide +kernel
theorem dX3_mateOf_30 : decode cX3_mateOf 30 = .ok (.iinc 4 (-1), 3) := by decide +kernel
theorem dX3_mateOf_33 : decode cX3_mateOf 33 = .ok (.goto (-28), 3) := by decide +kernel
theorem dX3_mateOf_36 : decode cX3_mateOf 36 = .ok (.iload_n 3, 1) := by decide +kernel
theorem dX3_mateOf_37 : decode cX3_mateOf 37 = .ok (.ireturn, 1) := by decide +kernel
set_option maxRecDepth 20000 in
theorem ggX3_fillFrom_X1_pieces : GoodIn wsX3_fillFrom wsX1_pieces := goodIn_r _ [18, 19, 20, 74, 75, 76, 77] (by decide +kernel) (by decide +kernel)
set_option maxRecDepth 20000 in
theorem gX3_fillFrom_X1_pieces : GoodIn wsX3_fillFrom (wsV RX3 61 RX1 yX1_pieces wsX1_pieces) := goodIn_app (goodIn_of _ (by decide +kernel)) ggX3_fillFrom_X1_pieces
set_option maxRecDepth 20000 in
theorem ggX3_fillFrom_X3_lookAround : GoodIn wsX3_fillFrom wsX3_lookAround := goodIn_r _ [25, 26, 1, 27, 12, 28, 29, 30, 17, 31, 19, 32, 33, 34, 35, 36, 37, 38, 39, 40, 41, 42, 24, 43, 61, 62, 63, 64, 65, 66, 67, 68, 69, 70, 71, 72, 73, 74, 75, 76, 77] (by decide +kernel) (by decide +kernel)
set_option maxRecDepth 20000 in
theorem gX3_fillFrom_X3_lookAround : GoodIn wsX3_fillFrom (wsV RX3 108 RX3 yX3_lookAround wsX3_lookAround) := goodIn_app (goodIn_of _ (by decide +kernel)) ggX3_fillFrom_X3_lookAround
set_option maxRecDepth 20000 in
theorem ggX3_fillFrom_X2_size : GoodIn wsX3_fillFrom wsX2_size := goodIn_r _ [48, 49, 78, 79, 80] (by decide +kernel) (by decide +kernel)
set_option maxRecDepth 20000 in
theorem gX3_fillFrom_X2_size : GoodIn wsX3_fillFrom (wsV RX3 71 RX2 yX2_size wsX2_size) := goodIn_app (goodIn_of _ (by decide +kernel)) ggX3_fillFrom_X2_size
set_option maxRecDepth 20000 in
theorem ggX3_fillFrom_X3_fits : GoodIn wsX3_fillFrom wsX3_fits := goodIn_r _ [53, 26, 54, 61, 62, 63, 64, 65, 66, 67, 68, 69, 70, 71, 72, 73] (by decide +kernel) (by decide +kernel)
set_option maxRecDepth 20000 in
theorem gX3_fillFrom_X3_fits : GoodIn wsX3_fillFrom (wsV RX3 117 RX3 yX3_fits wsX3_fits) := goodIn_app (goodIn_of _ (by decide +kernel)) ggX3_fillFrom_X3_fits
set_option maxRecDepth 20000 in
theorem ggX3_fillFrom_X3_note : GoodIn wsX3_fillFrom wsX3_note := goodIn_r _ [57] (by decide +kernel) (by decide +kernel)
set_option maxRecDepth 20000 in
theorem gX3_fillFrom_X3_note : GoodIn wsX3_fillFrom (va_wsS RX3 67 yX3_note wsX3_note) := goodIn_app (goodIn_of _ (by decide +kernel)) ggX3_fillFrom_X3_note
set_option maxRecDepth 20000 in
theorem ggX3_fillFrom_X3_fillFrom : GoodIn wsX3_fillFrom wsX3_fillFrom := goodIn_r _ [0, 1, 2, 3, 4, 5, 6, 7, 8, 9, 10, 11, 12, 13, 14, 15, 16, 17, 18, 19, 20, 21, 22, 23, 24, 25, 26, 27, 28, 29, 30, 31, 32, 33, 34, 35, 36, 37, 38, 39, 40, 41, 42, 43, 44, 45, 46, 47, 48, 49, 50, 51, 52, 53, 54, 55, 56, 57, 58, 59, 60, 61, 62, 63, 64, 65, 66, 67, 68, 69, 70, 71, 72, 73, 74, 75, 76, 77, 78, 79, 80] (by decide +kernel) (by decide +kernel)
set_option maxRecDepth 20000 in
theorem gX3_fillFrom_X3_fillFrom : GoodIn wsX3_fillFrom (wsV RX3 83 RX3 yX3_fillFrom wsX3_fillFrom) := goodIn_app (goodIn_of _ (by decide +kernel)) ggX3_fillFrom_X3_fillFrom
theorem dX3_fillFrom_0 : decode cX3_fillFrom 0 = .ok (.iload_n 1, 1) := by decide +kernel
theorem dX3_fillFrom_1 : decode cX3_fillFrom 1 = .ok (.aload_n 0, 1) := by decide +kernel
theorem dX3_fillFrom_2 : decode cX3_fillFrom 2 = .ok (.getfield 31, 3) := by decide +kernel
theorem dX3_fillFrom_5 : decode cX3_fillFrom 5 = .ok (.invokevirtual 61, 3) := by decide +kernel
theorem dX3_fillFrom_8 : decode cX3_fillFrom 8 = .ok (.if_icmp .lt 14, 3) := by decide +kernel
theorem dX3_fillFrom_11 : decode cX3_fillFrom 11 = .ok (.aload_n 0, 1) := by decide +kernel
theorem dX3_fillFrom_12 : decode cX3_fillFrom 12 = .ok (.dup, 1) := by decide +kernel
theorem dX3_fillFrom_13 : decode cX3_fillFrom 13 = .ok (.getfield 58, 3) := by decide +kernel
theorem dX3_fillFrom_16 : decode cX3_fillFrom 16 = .ok (.iconst 1, 1) := by decide +kernel
theorem dX3_fillFrom_17 : decode cX3_fillFrom 17 = .ok (.iadd, 1) := by decide +kernel
theorem dX3_fillFrom_18 : decode cX3_fillFrom 18 = .ok (.putfield 58, 3) := by decide +kernel
theorem dX3_fillFrom_21 : decode cX3_fillFrom 21 = .ok (.return_, 1) := by decide +kernel
theorem dX3_fillFrom_22 : decode cX3_fillFrom 22 = .ok (.aload_n 0, 1) := by decide +kernel
theorem dX3_fillFrom_23 : decode cX3_fillFrom 23 = .ok (.iload_n 1, 1) := by decide +kernel
theorem dX3_fillFrom_24 : decode cX3_fillFrom 24 = .ok (.invokevirtual 108, 3) := by decide +kernel
theorem dX3_fillFrom_27 : decode cX3_fillFrom 27 = .ok (.aload_n 0, 1) := by decide +kernel
theorem dX3_fillFrom_28 : decode cX3_fillFrom 28 = .ok (.getfield 35, 3) := by decide +kernel
theorem dX3_fillFrom_31 : decode cX3_fillFrom 31 = .ok (.invokevirtual 71, 3) := by decide +kernel
theorem dX3_fillFrom_34 : decode cX3_fillFrom 34 = .ok (.aload_n 0, 1) := by decide +kernel
theorem dX3_fillFrom_35 : decode cX3_fillFrom 35 = .ok (.getfield 21, 3) := by decide +kernel
theorem dX3_fillFrom_38 : decode cX3_fillFrom 38 = .ok (.arraylength, 1) := by decide +kernel
theorem dX3_fillFrom_39 : decode cX3_fillFrom 39 = .ok (.invokestatic 111, 3) := by decide +kernel
theorem dX3_fillFrom_42 : decode cX3_fillFrom 42 = .ok (.istore_n 2, 1) := by decide +kernel
theorem dX3_fillFrom_43 : decode cX3_fillFrom 43 = .ok (.iconst 0, 1) := by decide +kernel
theorem dX3_fillFrom_44 : decode cX3_fillFrom 44 = .ok (.istore_n 3, 1) := by decide +kernel
theorem dX3_fillFrom_45 : decode cX3_fillFrom 45 = .ok (.iload_n 3, 1) := by decide +kernel
theorem dX3_fillFrom_46 : decode cX3_fillFrom 46 = .ok (.iload_n 2, 1) := by decide +kernel
theorem dX3_fillFrom_47 : decode cX3_fillFrom 47 = .ok (.if_icmp .ge 132, 3) := by decide +kernel
theorem dX3_fillFrom_50 : decode cX3_fillFrom 50 = .ok (.aload_n 0, 1) := by decide +kernel
theorem dX3_fillFrom_51 : decode cX3_fillFrom 51 = .ok (.getfield 21, 3) := by decide +kernel
theorem dX3_fillFrom_54 : decode cX3_fillFrom 54 = .ok (.iload_n 3, 1) := by decide +kernel
theorem dX3_fillFrom_55 : decode cX3_fillFrom 55 = .ok (.baload, 1) := by decide +kernel
theorem dX3_fillFrom_56 : decode cX3_fillFrom 56 = .ok (.ifCond .eq 6, 3) := by decide +kernel
theorem dX3_fillFrom_59 : decode cX3_fillFrom 59 = .ok (.goto 114, 3) := by decide +kernel
theorem dX3_fillFrom_62 : decode cX3_fillFrom 62 = .ok (.iconst 0, 1) := by decide +kernel
theorem dX3_fillFrom_63 : decode cX3_fillFrom 63 = .ok (.istore 4, 2) := by decide +kernel
theorem dX3_fillFrom_65 : decode cX3_fillFrom 65 = .ok (.iload 4, 2) := by decide +kernel
theorem dX3_fillFrom_67 : decode cX3_fillFrom 67 = .ok (.iconst 4, 1) := by decide +kernel
theorem dX3_fillFrom_68 : decode cX3_fillFrom 68 = .ok (.if_icmp .ge 105, 3) := by decide +kernel
theorem dX3_fillFrom_71 : decode cX3_fillFrom 71 = .ok (.aload_n 0, 1) := by decide +kernel
theorem dX3_fillFrom_72 : decode cX3_fillFrom 72 = .ok (.getfield 39, 3) := by decide +kernel
theorem dX3_fillFrom_75 : decode cX3_fillFrom 75 = .ok (.ldc 116, 2) := by decide +kernel
theorem dX3_fillFrom_77 : decode cX3_fillFrom 77 = .ok (.if_icmp .lt 9, 3) := by decide +kernel
theorem dX3_fillFrom_80 : decode cX3_fillFrom 80 = .ok (.aload_n 0, 1) := by decide +kernel
theorem dX3_fillFrom_81 : decode cX3_fillFrom 81 = .ok (.iconst 1, 1) := by decide +kernel
theorem dX3_fillFrom_82 : decode cX3_fillFrom 82 = .ok (.putfield 55, 3) := by decide +kernel
theorem dX3_fillFrom_85 : decode cX3_fillFrom 85 = .ok (.return_, 1) := by decide +kernel
theorem dX3_fillFrom_86 : decode cX3_fillFrom 86 = .ok (.aload_n 0, 1) := by decide +kernel
theorem dX3_fillFrom_87 : decode cX3_fillFrom 87 = .ok (.dup, 1) := by decide +kernel
theorem dX3_fillFrom_88 : decode cX3_fillFrom 88 = .ok (.getfield 39, 3) := by decide +kernel
theorem dX3_fillFrom_91 : decode cX3_fillFrom 91 = .ok (.iconst 1, 1) := by decide +kernel
theorem dX3_fillFrom_92 : decode cX3_fillFrom 92 = .ok (.iadd, 1) := by decide +kernel
theorem dX3_fillFrom_93 : decode cX3_fillFrom 93 = .ok (.putfield 39, 3) := by decide +kernel
theorem dX3_fillFrom_96 : decode cX3_fillFrom 96 = .ok (.aload_n 0, 1) := by decide +kernel
theorem dX3_fillFrom_97 : decode cX3_fillFrom 97 = .ok (.iload_n 1, 1) := by decide +kernel
theorem dX3_fillFrom_98 : decode cX3_fillFrom 98 = .ok (.iload_n 3, 1) := by decide +kernel
theorem dX3_fillFrom_99 : decode cX3_fillFrom 99 = .ok (.iconst 4, 1) := by decide +kernel
theorem dX3_fillFrom_100 : decode cX3_fillFrom 100 = .ok (.imul, 1) := by decide +kernel
theorem dX3_fillFrom_101 : decode cX3_fillFrom 101 = .ok (.iload 4, 2) := by decide +kernel
theorem dX3_fillFrom_103 : decode cX3_fillFrom 103 = .ok (.iadd, 1) := by decide +kernel
theorem dX3_fillFrom_104 : decode cX3_fillFrom 104 = .ok (.invokevirtual 117, 3) := by decide +kernel
theorem dX3_fillFrom_107 : decode cX3_fillFrom 107 = .ok (.ifCond .eq 38, 3) := by decide +kernel
theorem dX3_fillFrom_110 : decode cX3_fillFrom 110 = .ok (.aload_n 0, 1) := by decide +kernel
theorem dX3_fillFrom_111 : decode cX3_fillFrom 111 = .ok (.getfield 25, 3) := by decide +kernel
theorem dX3_fillFrom_114 : decode cX3_fillFrom 114 = .ok (.iload_n 1, 1) := by decide +kernel
theorem dX3_fillFrom_115 : decode cX3_fillFrom 115 = .ok (.iload_n 3, 1) := by decide +kernel
theorem dX3_fillFrom_116 : decode cX3_fillFrom 116 = .ok (.iconst 4, 1) := by decide +kernel
theorem dX3_fillFrom_117 : decode cX3_fillFrom 117 = .ok (.imul, 1) := by decide +kernel
theorem dX3_fillFrom_118 : decode cX3_fillFrom 118 = .ok (.iload 4, 2) := by decide +kernel
theorem dX3_fillFrom_120 : decode cX3_fillFrom 120 = .ok (.iadd, 1) := by decide +kernel
theorem dX3_fillFrom_121 : decode cX3_fillFrom 121 = .ok (.invokestatic 67, 3) := by decide +kernel
theorem dX3_fillFrom_124 : decode cX3_fillFrom 124 = .ok (.aload_n 0, 1) := by decide +kernel
theorem dX3_fillFrom_125 : decode cX3_fillFrom 125 = .ok (.getfield 21, 3) := by decide +kernel
theorem dX3_fillFrom_128 : decode cX3_fillFrom 128 = .ok (.iload_n 3, 1) := by decide +kernel
theorem dX3_fillFrom_129 : decode cX3_fillFrom 129 = .ok (.iconst 1, 1) := by decide +kernel
theorem dX3_fillFrom_130 : decode cX3_fillFrom 130 = .ok (.bastore, 1) := by decide +kernel
theorem dX3_fillFrom_131 : decode cX3_fillFrom 131 = .ok (.aload_n 0, 1) := by decide +kernel
theorem dX3_fillFrom_132 : decode cX3_fillFrom 132 = .ok (.iload_n 1, 1) := by decide +kernel
theorem dX3_fillFrom_133 : decode cX3_fillFrom 133 = .ok (.iconst 1, 1) := by decide +kernel
theorem dX3_fillFrom_134 : decode cX3_fillFrom 134 = .ok (.iadd, 1) := by decide +kernel
theorem dX3_fillFrom_135 : decode cX3_fillFrom 135 = .ok (.invokevirtual 83, 3) := by decide +kernel
theorem dX3_fillFrom_138 : decode cX3_fillFrom 138 = .ok (.aload_n 0, 1) := by decide +kernel
theorem dX3_fillFrom_139 : decode cX3_fillFrom 139 = .ok (.getfield 21, 3) := by decide +kernel
theorem dX3_fillFrom_142 : decode cX3_fillFrom 142 = .ok (.iload_n 3, 1) := by decide +kernel
theorem dX3_fillFrom_143 : decode cX3_fillFrom 143 = .ok (.iconst 0, 1) := by decide +kernel
theorem dX3_fillFrom_144 : decode cX3_fillFrom 144 = .ok (.bastore, 1) := by decide +kernel
theorem dX3_fillFrom_145 : decode cX3_fillFrom 145 = .ok (.aload_n 0, 1) := by decide +kernel
theorem dX3_fillFrom_146 : decode cX3_fillFrom 146 = .ok (.getfield 55, 3) := by decide +kernel
theorem dX3_fillFrom_149 : decode cX3_fillFrom 149 = .ok (.ifCond .ne 17, 3) := by decide +kernel
theorem dX3_fillFrom_152 : decode cX3_fillFrom 152 = .ok (.aload_n 0, 1) := by decide +kernel
theorem dX3_fillFrom_153 : decode cX3_fillFrom 153 = .ok (.getfield 80, 3) := by decide +kernel
theorem dX3_fillFrom_156 : decode cX3_fillFrom 156 = .ok (.ifCond .eq 11, 3) := by decide +kernel
theorem dX3_fillFrom_159 : decode cX3_fillFrom 159 = .ok (.aload_n 0, 1) := by decide +kernel
theorem dX3_fillFrom_160 : decode cX3_fillFrom 160 = .ok (.getfield 58, 3) := by decide +kernel
theorem dX3_fillFrom_163 : decode cX3_fillFrom 163 = .ok (.ifCond .le 4, 3) := by decide +kernel
theorem dX3_fillFrom_166 : decode cX3_fillFrom 166 = .ok (.return_, 1) := by decide +kernel
theorem dX3_fillFrom_167 : decode cX3_fillFrom 167 = .ok (.iinc 4 1, 3) := by decide +kernel
theorem dX3_fillFrom_170 : decode cX3_fillFrom 170 = .ok (.goto (-105), 3) := by decide +kernel
theorem dX3_fillFrom_173 : decode cX3_fillFrom 173 = .ok (.iinc 3 1, 3) := by decide +kernel
theorem dX3_fillFrom_176 : decode cX3_fillFrom 176 = .ok (.goto (-131), 3) := by decide +kernel
theorem dX3_fillFrom_179 : decode cX3_fillFrom 179 = .ok (.return_, 1) := by decide +kernel
set_option maxRecDepth 20000 in
theorem ggX3_lookAround_X1_nextTo : GoodIn wsX3_lookAround wsX1_nextTo := goodIn_r _ [9, 10, 37, 38, 39, 40] (by decide +kernel) (by decide +kernel)
set_option maxRecDepth 20000 in
theorem gX3_lookAround_X1_nextTo : GoodIn wsX3_lookAround (wsV RX3 120 RX1 yX1_nextTo wsX1_nextTo) := goodIn_app (goodIn_of _ (by decide +kernel)) ggX3_lookAround_X1_nextTo
set_option maxRecDepth 20000 in
theorem ggX3_lookAround_X1_isFlat : GoodIn wsX3_lookAround wsX1_isFlat := goodIn_r _ [14, 15, 16, 17, 8, 18, 19, 37, 38, 39, 40] (by decide +kernel) (by decide +kernel)
set_option maxRecDepth 20000 in
theorem gX3_lookAround_X1_isFlat : GoodIn wsX3_lookAround (wsV RX3 90 RX1 yX1_isFlat wsX1_isFlat) := goodIn_app (goodIn_of _ (by decide +kernel)) ggX3_lookAround_X1_isFlat
set_option maxRecDepth 20000 in
theorem ggX3_lookAround_X3_look : GoodIn wsX3_lookAround wsX3_look := goodIn_r _ [23] (by decide +kernel) (by decide +kernel)
set_option maxRecDepth 20000 in
theorem gX3_lookAround_X3_look : GoodIn wsX3_lookAround (va_wsS RX3 47 yX3_look wsX3_look) := goodIn_app (goodIn_of _ (by decide +kernel)) ggX3_lookAround_X3_look
theorem dX3_lookAround_0 : decode cX3_lookAround 0 = .ok (.iload_n 1, 1) := by decide +kernel
theorem dX3_lookAround_1 : decode cX3_lookAround 1 = .ok (.iconst 4, 1) := by decide +kernel
theorem dX3_lookAround_2 : decode cX3_lookAround 2 = .ok (.imul, 1) := by decide +kernel
theorem dX3_lookAround_3 : decode cX3_lookAround 3 = .ok (.istore_n 2, 1) := by decide +kernel
theorem dX3_lookAround_4 : decode cX3_lookAround 4 = .ok (.iload_n 2, 1) := by decide +kernel
theorem dX3_lookAround_5 : decode cX3_lookAround 5 = .ok (.ifCond .lt 14, 3) := by decide +kernel
theorem dX3_lookAround_8 : decode cX3_lookAround 8 = .ok (.iload_n 2, 1) := by decide +kernel
theorem dX3_lookAround_9 : decode cX3_lookAround 9 = .ok (.aload_n 0, 1) := by decide +kernel
theorem dX3_lookAround_10 : decode cX3_lookAround 10 = .ok (.getfield 18, 3) := by decide +kernel
theorem dX3_lookAround_13 : decode cX3_lookAround 13 = .ok (.arraylength, 1) := by decide +kernel
theorem dX3_lookAround_14 : decode cX3_lookAround 14 = .ok (.iconst 4, 1) := by decide +kernel
theorem dX3_lookAround_15 : decode cX3_lookAround 15 = .ok (.isub, 1) := by decide +kernel
theorem dX3_lookAround_16 : decode cX3_lookAround 16 = .ok (.if_icmp .le 4, 3) := by decide +kernel
theorem dX3_lookAround_19 : decode cX3_lookAround 19 = .ok (.return_, 1) := by decide +kernel
theorem dX3_lookAround_20 : decode cX3_lookAround 20 = .ok (.iconst 0, 1) := by decide +kernel
theorem dX3_lookAround_21 : decode cX3_lookAround 21 = .ok (.istore_n 3, 1) := by decide +kernel
theorem dX3_lookAround_22 : decode cX3_lookAround 22 = .ok (.iload_n 3, 1) := by decide +kernel
theorem dX3_lookAround_23 : decode cX3_lookAround 23 = .ok (.iconst 4, 1) := by decide +kernel
theorem dX3_lookAround_24 : decode cX3_lookAround 24 = .ok (.if_icmp .ge 84, 3) := by decide +kernel
theorem dX3_lookAround_27 : decode cX3_lookAround 27 = .ok (.aload_n 0, 1) := by decide +kernel
theorem dX3_lookAround_28 : decode cX3_lookAround 28 = .ok (.getfield 31, 3) := by decide +kernel
theorem dX3_lookAround_31 : decode cX3_lookAround 31 = .ok (.iload_n 1, 1) := by decide +kernel
theorem dX3_lookAround_32 : decode cX3_lookAround 32 = .ok (.iload_n 3, 1) := by decide +kernel
theorem dX3_lookAround_33 : decode cX3_lookAround 33 = .ok (.invokevirtual 120, 3) := by decide +kernel
theorem dX3_lookAround_36 : decode cX3_lookAround 36 = .ok (.istore 4, 2) := by decide +kernel
theorem dX3_lookAround_38 : decode cX3_lookAround 38 = .ok (.bipush (-2), 2) := by decide +kernel
theorem dX3_lookAround_40 : decode cX3_lookAround 40 = .ok (.istore 5, 2) := by decide +kernel
theorem dX3_lookAround_42 : decode cX3_lookAround 42 = .ok (.aload_n 0, 1) := by decide +kernel
theorem dX3_lookAround_43 : decode cX3_lookAround 43 = .ok (.getfield 31, 3) := by decide +kernel
theorem dX3_lookAround_46 : decode cX3_lookAround 46 = .ok (.iload_n 1, 1) := by decide +kernel
theorem dX3_lookAround_47 : decode cX3_lookAround 47 = .ok (.iload_n 3, 1) := by decide +kernel
theorem dX3_lookAround_48 : decode cX3_lookAround 48 = .ok (.invokevirtual 90, 3) := by decide +kernel
theorem dX3_lookAround_51 : decode cX3_lookAround 51 = .ok (.ifCond .eq 9, 3) := by decide +kernel
theorem dX3_lookAround_54 : decode cX3_lookAround 54 = .ok (.iconst (-1), 1) := by decide +kernel
theorem dX3_lookAround_55 : decode cX3_lookAround 55 = .ok (.istore 5, 2) := by decide +kernel
theorem dX3_lookAround_57 : decode cX3_lookAround 57 = .ok (.goto 35, 3) := by decide +kernel
theorem dX3_lookAround_60 : decode cX3_lookAround 60 = .ok (.iload 4, 2) := by decide +kernel
theorem dX3_lookAround_62 : decode cX3_lookAround 62 = .ok (.iload_n 1, 1) := by decide +kernel
theorem dX3_lookAround_63 : decode cX3_lookAround 63 = .ok (.if_icmp .ge 29, 3) := by decide +kernel
theorem dX3_lookAround_66 : decode cX3_lookAround 66 = .ok (.aload_n 0, 1) := by decide +kernel
theorem dX3_lookAround_67 : decode cX3_lookAround 67 = .ok (.getfield 15, 3) := by decide +kernel
theorem dX3_lookAround_70 : decode cX3_lookAround 70 = .ok (.aload_n 0, 1) := by decide +kernel
theorem dX3_lookAround_71 : decode cX3_lookAround 71 = .ok (.getfield 25, 3) := by decide +kernel
theorem dX3_lookAround_74 : decode cX3_lookAround 74 = .ok (.iload 4, 2) := by decide +kernel
theorem dX3_lookAround_76 : decode cX3_lookAround 76 = .ok (.invokestatic 47, 3) := by decide +kernel
theorem dX3_lookAround_79 : decode cX3_lookAround 79 = .ok (.iconst 4, 1) := by decide +kernel
theorem dX3_lookAround_80 : decode cX3_lookAround 80 = .ok (.imul, 1) := by decide +kernel
theorem dX3_lookAround_81 : decode cX3_lookAround 81 = .ok (.iload_n 3, 1) := by decide +kernel
theorem dX3_lookAround_82 : decode cX3_lookAround 82 = .ok (.iconst 2, 1) := by decide +kernel
theorem dX3_lookAround_83 : decode cX3_lookAround 83 = .ok (.iadd, 1) := by decide +kernel
theorem dX3_lookAround_84 : decode cX3_lookAround 84 = .ok (.iconst 4, 1) := by decide +kernel
theorem dX3_lookAround_85 : decode cX3_lookAround 85 = .ok (.irem, 1) := by decide +kernel
theorem dX3_lookAround_86 : decode cX3_lookAround 86 = .ok (.iadd, 1) := by decide +kernel
theorem dX3_lookAround_87 : decode cX3_lookAround 87 = .ok (.invokestatic 47, 3) := by decide +kernel
theorem dX3_lookAround_90 : decode cX3_lookAround 90 = .ok (.istore 5, 2) := by decide +kernel
theorem dX3_lookAround_92 : decode cX3_lookAround 92 = .ok (.aload_n 0, 1) := by decide +kernel
theorem dX3_lookAround_93 : decode cX3_lookAround 93 = .ok (.getfield 18, 3) := by decide +kernel
theorem dX3_lookAround_96 : decode cX3_lookAround 96 = .ok (.iload_n 2, 1) := by decide +kernel
theorem dX3_lookAround_97 : decode cX3_lookAround 97 = .ok (.iload_n 3, 1) := by decide +kernel
theorem dX3_lookAround_98 : decode cX3_lookAround 98 = .ok (.iadd, 1) := by decide +kernel
theorem dX3_lookAround_99 : decode cX3_lookAround 99 = .ok (.iload 5, 2) := by decide +kernel
theorem dX3_lookAround_101 : decode cX3_lookAround 101 = .ok (.iastore, 1) := by decide +kernel
theorem dX3_lookAround_102 : decode cX3_lookAround 102 = .ok (.iinc 3 1, 3) := by decide +kernel
theorem dX3_lookAround_105 : decode cX3_lookAround 105 = .ok (.goto (-83), 3) := by decide +kernel
theorem dX3_lookAround_108 : decode cX3_lookAround 108 = .ok (.return_, 1) := by decide +kernel
theorem dX3_fits_0 : decode cX3_fits 0 = .ok (.iload_n 1, 1) := by decide +kernel
theorem dX3_fits_1 : decode cX3_fits 1 = .ok (.iconst 4, 1) := by decide +kernel
theorem dX3_fits_2 : decode cX3_fits 2 = .ok (.imul, 1) := by decide +kernel
theorem dX3_fits_3 : decode cX3_fits 3 = .ok (.istore_n 3, 1) := by decide +kernel
theorem dX3_fits_4 : decode cX3_fits 4 = .ok (.iload_n 2, 1) := by decide +kernel
theorem dX3_fits_5 : decode cX3_fits 5 = .ok (.iconst 4, 1) := by decide +kernel
theorem dX3_fits_6 : decode cX3_fits 6 = .ok (.imul, 1) := by decide +kernel
theorem dX3_fits_7 : decode cX3_fits 7 = .ok (.istore 4, 2) := by decide +kernel
theorem dX3_fits_9 : decode cX3_fits 9 = .ok (.iload_n 3, 1) := by decide +kernel
theorem dX3_fits_10 : decode cX3_fits 10 = .ok (.ifCond .lt 31, 3) := by decide +kernel
theorem dX3_fits_13 : decode cX3_fits 13 = .ok (.iload_n 3, 1) := by decide +kernel
theorem dX3_fits_14 : decode cX3_fits 14 = .ok (.aload_n 0, 1) := by decide +kernel
theorem dX3_fits_15 : decode cX3_fits 15 = .ok (.getfield 18, 3) := by decide +kernel
theorem dX3_fits_18 : decode cX3_fits 18 = .ok (.arraylength, 1) := by decide +kernel
theorem dX3_fits_19 : decode cX3_fits 19 = .ok (.iconst 4, 1) := by decide +kernel
theorem dX3_fits_20 : decode cX3_fits 20 = .ok (.isub, 1) := by decide +kernel
theorem dX3_fits_21 : decode cX3_fits 21 = .ok (.if_icmp .gt 20, 3) := by decide +kernel
theorem dX3_fits_24 : decode cX3_fits 24 = .ok (.iload 4, 2) := by decide +kernel
theorem dX3_fits_26 : decode cX3_fits 26 = .ok (.ifCond .lt 15, 3) := by decide +kernel
theorem dX3_fits_29 : decode cX3_fits 29 = .ok (.iload 4, 2) := by decide +kernel
theorem dX3_fits_31 : decode cX3_fits 31 = .ok (.aload_n 0, 1) := by decide +kernel
theorem dX3_fits_32 : decode cX3_fits 32 = .ok (.getfield 9, 3) := by decide +kernel
theorem dX3_fits_35 : decode cX3_fits 35 = .ok (.arraylength, 1) := by decide +kernel
theorem dX3_fits_36 : decode cX3_fits 36 = .ok (.iconst 4, 1) := by decide +kernel
theorem dX3_fits_37 : decode cX3_fits 37 = .ok (.isub, 1) := by decide +kernel
theorem dX3_fits_38 : decode cX3_fits 38 = .ok (.if_icmp .le 5, 3) := by decide +kernel
theorem dX3_fits_41 : decode cX3_fits 41 = .ok (.iconst 0, 1) := by decide +kernel
theorem dX3_fits_42 : decode cX3_fits 42 = .ok (.ireturn, 1) := by decide +kernel
theorem dX3_fits_43 : decode cX3_fits 43 = .ok (.iconst 0, 1) := by decide +kernel
theorem dX3_fits_44 : decode cX3_fits 44 = .ok (.istore 5, 2) := by decide +kernel
theorem dX3_fits_46 : decode cX3_fits 46 = .ok (.iload 5, 2) := by decide +kernel
theorem dX3_fits_48 : decode cX3_fits 48 = .ok (.iconst 4, 1) := by decide +kernel
theorem dX3_fits_49 : decode cX3_fits 49 = .ok (.if_icmp .ge 57, 3) := by decide +kernel
theorem dX3_fits_52 : decode cX3_fits 52 = .ok (.aload_n 0, 1) := by decide +kernel
theorem dX3_fits_53 : decode cX3_fits 53 = .ok (.getfield 18, 3) := by decide +kernel
theorem dX3_fits_56 : decode cX3_fits 56 = .ok (.iload_n 3, 1) := by decide +kernel
theorem dX3_fits_57 : decode cX3_fits 57 = .ok (.iload 5, 2) := by decide +kernel
theorem dX3_fits_59 : decode cX3_fits 59 = .ok (.iadd, 1) := by decide +kernel
theorem dX3_fits_60 : decode cX3_fits 60 = .ok (.iaload, 1) := by decide +kernel
theorem dX3_fits_61 : decode cX3_fits 61 = .ok (.istore 6, 2) := by decide +kernel
theorem dX3_fits_63 : decode cX3_fits 63 = .ok (.aload_n 0, 1) := by decide +kernel
theorem dX3_fits_64 : decode cX3_fits 64 = .ok (.getfield 9, 3) := by decide +kernel
theorem dX3_fits_67 : decode cX3_fits 67 = .ok (.iload 4, 2) := by decide +kernel
theorem dX3_fits_69 : decode cX3_fits 69 = .ok (.iload 5, 2) := by decide +kernel
theorem dX3_fits_71 : decode cX3_fits 71 = .ok (.iadd, 1) := by decide +kernel
theorem dX3_fits_72 : decode cX3_fits 72 = .ok (.iaload, 1) := by decide +kernel
theorem dX3_fits_73 : decode cX3_fits 73 = .ok (.istore 7, 2) := by decide +kernel
theorem dX3_fits_75 : decode cX3_fits 75 = .ok (.iload 6, 2) := by decide +kernel
theorem dX3_fits_77 : decode cX3_fits 77 = .ok (.bipush (-2), 2) := by decide +kernel
theorem dX3_fits_79 : decode cX3_fits 79 = .ok (.if_icmp .ne 12, 3) := by decide +kernel
theorem dX3_fits_82 : decode cX3_fits 82 = .ok (.iload 7, 2) := by decide +kernel
theorem dX3_fits_84 : decode cX3_fits 84 = .ok (.iconst (-1), 1) := by decide +kernel
theorem dX3_fits_85 : decode cX3_fits 85 = .ok (.if_icmp .ne 15, 3) := by decide +kernel
theorem dX3_fits_88 : decode cX3_fits 88 = .ok (.goto 10, 3) := by decide +kernel
theorem dX3_fits_91 : decode cX3_fits 91 = .ok (.iload 7, 2) := by decide +kernel
theorem dX3_fits_93 : decode cX3_fits 93 = .ok (.iload 6, 2) := by decide +kernel
theorem dX3_fits_95 : decode cX3_fits 95 = .ok (.if_icmp .eq 5, 3) := by decide +kernel
theorem dX3_fits_98 : decode cX3_fits 98 = .ok (.iconst 0, 1) := by decide +kernel
theorem dX3_fits_99 : decode cX3_fits 99 = .ok (.ireturn, 1) := by decide +kernel
theorem dX3_fits_100 : decode cX3_fits 100 = .ok (.iinc 5 1, 3) := by decide +kernel
theorem dX3_fits_103 : decode cX3_fits 103 = .ok (.goto (-57), 3) := by decide +kernel
theorem dX3_fits_106 : decode cX3_fits 106 = .ok (.iconst 1, 1) := by decide +kernel
theorem dX3_fits_107 : decode cX3_fits 107 = .ok (.ireturn, 1) := by decide +kernel
theorem dX3_look_0 : decode cX3_look 0 = .ok (.iload_n 1, 1) := by decide +kernel
theorem dX3_look_1 : decode cX3_look 1 = .ok (.ifCond .lt 15, 3) := by decide +kernel
theorem dX3_look_4 : decode cX3_look 4 = .ok (.iload_n 1, 1) := by decide +kernel
theorem dX3_look_5 : decode cX3_look 5 = .ok (.aload_n 0, 1) := by decide +kernel
theorem dX3_look_6 : decode cX3_look 6 = .ok (.arraylength, 1) := by decide +kernel
theorem dX3_look_7 : decode cX3_look 7 = .ok (.if_icmp .ge 9, 3) := by decide +kernel
theorem dX3_look_10 : decode cX3_look 10 = .ok (.aload_n 0, 1) := by decide +kernel
theorem dX3_look_11 : decode cX3_look 11 = .ok (.iload_n 1, 1) := by decide +kernel
theorem dX3_look_12 : decode cX3_look 12 = .ok (.iaload, 1) := by decide +kernel
theorem dX3_look_13 : decode cX3_look 13 = .ok (.goto 4, 3) := by decide +kernel
theorem dX3_look_16 : decode cX3_look 16 = .ok (.iconst 0, 1) := by decide +kernel
theorem dX3_look_17 : decode cX3_look 17 = .ok (.ireturn, 1) := by decide +kernel
theorem dX3_note_0 : decode cX3_note 0 = .ok (.iload_n 1, 1) := by decide +kernel
theorem dX3_note_1 : decode cX3_note 1 = .ok (.ifCond .lt 13, 3) := by decide +kernel
theorem dX3_note_4 : decode cX3_note 4 = .ok (.iload_n 1, 1) := by decide +kernel
theorem dX3_note_5 : decode cX3_note 5 = .ok (.aload_n 0, 1) := by decide +kernel
theorem dX3_note_6 : decode cX3_note 6 = .ok (.arraylength, 1) := by decide +kernel
theorem dX3_note_7 : decode cX3_note 7 = .ok (.if_icmp .ge 7, 3) := by decide +kernel
theorem dX3_note_10 : decode cX3_note 10 = .ok (.aload_n 0, 1) := by decide +kernel
theorem dX3_note_11 : decode cX3_note 11 = .ok (.iload_n 1, 1) := by decide +kernel
theorem dX3_note_12 : decode cX3_note 12 = .ok (.iload_n 2, 1) := by decide +kernel
theorem dX3_note_13 : decode cX3_note 13 = .ok (.iastore, 1) := by decide +kernel
theorem dX3_note_14 : decode cX3_note 14 = .ok (.return_, 1) := by decide +kernel
