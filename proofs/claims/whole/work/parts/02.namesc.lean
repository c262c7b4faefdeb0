theorem dX3_driveOff_5 : decode cX3_driveOff 5 = .ok (.getfield 61, 3) := by decide +kernel
theorem dX3_driveOff_8 : decode cX3_driveOff 8 = .ok (.invokevirtual 152, 3) := by decide +kernel
theorem dX3_driveOff_11 : decode cX3_driveOff 11 = .ok (.aload_n 0, 1) := by decide +kernel
theorem dX3_driveOff_12 : decode cX3_driveOff 12 = .ok (.getfield 40, 3) := by decide +kernel
theorem dX3_driveOff_15 : decode cX3_driveOff 15 = .ok (.aload_n 0, 1) := by decide +kernel
theorem dX3_driveOff_16 : decode cX3_driveOff 16 = .ok (.getfield 61, 3) := by decide +kernel
theorem dX3_driveOff_19 : decode cX3_driveOff 19 = .ok (.invokevirtual 152, 3) := by decide +kernel
theorem dX3_driveOff_22 : decode cX3_driveOff 22 = .ok (.iadd, 1) := by decide +kernel
theorem dX3_driveOff_23 : decode cX3_driveOff 23 = .ok (.istore_n 1, 1) := by decide +kernel
theorem dX3_driveOff_24 : decode cX3_driveOff 24 = .ok (.aload_n 0, 1) := by decide +kernel
theorem dX3_driveOff_25 : decode cX3_driveOff 25 = .ok (.invokevirtual 155, 3) := by decide +kernel
theorem dX3_driveOff_28 : decode cX3_driveOff 28 = .ok (.iload_n 1, 1) := by decide +kernel
theorem dX3_driveOff_29 : decode cX3_driveOff 29 = .ok (.isub, 1) := by decide +kernel
theorem dX3_driveOff_30 : decode cX3_driveOff 30 = .ok (.istore_n 2, 1) := by decide +kernel
theorem dX3_driveOff_31 : decode cX3_driveOff 31 = .ok (.aload_n 0, 1) := by decide +kernel
theorem dX3_driveOff_32 : decode cX3_driveOff 32 = .ok (.dup, 1) := by decide +kernel
theorem dX3_driveOff_33 : decode cX3_driveOff 33 = .ok (.getfield 70, 3) := by decide +kernel
theorem dX3_driveOff_36 : decode cX3_driveOff 36 = .ok (.iload_n 2, 1) := by decide +kernel
theorem dX3_driveOff_37 : decode cX3_driveOff 37 = .ok (.iadd, 1) := by decide +kernel
theorem dX3_driveOff_38 : decode cX3_driveOff 38 = .ok (.putfield 70, 3) := by decide +kernel
theorem dX3_driveOff_41 : decode cX3_driveOff 41 = .ok (.aload_n 0, 1) := by decide +kernel
theorem dX3_driveOff_42 : decode cX3_driveOff 42 = .ok (.dup, 1) := by decide +kernel
theorem dX3_driveOff_43 : decode cX3_driveOff 43 = .ok (.getfield 73, 3) := by decide +kernel
theorem dX3_driveOff_46 : decode cX3_driveOff 46 = .ok (.iload_n 1, 1) := by decide +kernel
theorem dX3_driveOff_47 : decode cX3_driveOff 47 = .ok (.iadd, 1) := by decide +kernel
theorem dX3_driveOff_48 : decode cX3_driveOff 48 = .ok (.putfield 73, 3) := by decide +kernel
theorem dX3_driveOff_51 : decode cX3_driveOff 51 = .ok (.aload_n 0, 1) := by decide +kernel
theorem dX3_driveOff_52 : decode cX3_driveOff 52 = .ok (.getfield 37, 3) := by decide +kernel
theorem dX3_driveOff_55 : decode cX3_driveOff 55 = .ok (.invokevirtual 158, 3) := by decide +kernel
theorem dX3_driveOff_58 : decode cX3_driveOff 58 = .ok (.aload_n 0, 1) := by decide +kernel
theorem dX3_driveOff_59 : decode cX3_driveOff 59 = .ok (.getfield 40, 3) := by decide +kernel
theorem dX3_driveOff_62 : decode cX3_driveOff 62 = .ok (.invokevirtual 158, 3) := by decide +kernel
theorem dX3_driveOff_65 : decode cX3_driveOff 65 = .ok (.iload_n 2, 1) := by decide +kernel
theorem dX3_driveOff_66 : decode cX3_driveOff 66 = .ok (.ireturn, 1) := by decide +kernel
set_option maxRecDepth 20000 in
theorem ggX3_crossRiver_X3_currentAhead : GoodIn wsX3_crossRiver wsX3_currentAhead := goodIn_r _ [10, 11, 12, 13, 14, 15, 16, 17, 18, 19, 72, 73, 74, 75, 76, 77, 78, 79, 80, 81, 82, 83, 84, 85] (by decide +kernel) (by decide +kernel)
set_option maxRecDepth 20000 in
theorem gX3_crossRiver_X3_currentAhead : GoodIn wsX3_crossRiver (wsV RX3 103 RX3 yX3_currentAhead wsX3_currentAhead) := goodIn_app (goodIn_of _ (by decide +kernel)) ggX3_crossRiver_X3_currentAhead
set_option maxRecDepth 20000 in
theorem ggX3_crossRiver_X3_weightOnDeck : GoodIn wsX3_crossRiver wsX3_weightOnDeck := goodIn_r _ [23, 24, 25, 26, 27, 28, 29, 30, 31, 72, 73, 74, 75, 76, 77, 78, 79, 80, 81, 82, 83, 84, 85, 90, 91, 92, 93] (by decide +kernel) (by decide +kernel)
set_option maxRecDepth 20000 in
theorem gX3_crossRiver_X3_weightOnDeck : GoodIn wsX3_crossRiver (wsV RX3 106 RX3 yX3_weightOnDeck wsX3_weightOnDeck) := goodIn_app (goodIn_of _ (by decide +kernel)) ggX3_crossRiver_X3_weightOnDeck
set_option maxRecDepth 20000 in
theorem ggX3_crossRiver_X3_list : GoodIn wsX3_crossRiver wsX3_list := goodIn_r _ [35, 24, 25, 36, 37, 38, 39, 26, 27, 28, 29, 30, 31, 72, 73, 74, 75, 76, 77, 78, 79, 80, 81, 82, 83, 84, 85, 90, 91, 92, 93] (by decide +kernel) (by decide +kernel)
set_option maxRecDepth 20000 in
theorem gX3_crossRiver_X3_list : GoodIn wsX3_crossRiver (wsV RX3 109 RX3 yX3_list wsX3_list) := goodIn_app (goodIn_of _ (by decide +kernel)) ggX3_crossRiver_X3_list
set_option maxRecDepth 20000 in
theorem ggX3_crossRiver_X5_at : GoodIn wsX3_crossRiver wsX5_at := goodIn_r _ [19] (by decide +kernel) (by decide +kernel)
set_option maxRecDepth 20000 in
theorem gX3_crossRiver_X5_at_n96 : GoodIn wsX3_crossRiver (wsX5_at) := ggX3_crossRiver_X5_at
set_option maxRecDepth 20000 in
theorem ggX3_crossRiver_X4_bear : GoodIn wsX3_crossRiver wsX4_bear := goodIn_r _ [44, 45, 46, 47, 48, 38, 49, 50, 51, 52, 53, 54, 55, 56, 43, 57, 17, 18, 19, 58, 59, 86, 87, 88, 89] (by decide +kernel) (by decide +kernel)
set_option maxRecDepth 20000 in
theorem gX3_crossRiver_X4_bear : GoodIn wsX3_crossRiver (wsV RX3 161 RX4 yX4_bear wsX4_bear) := goodIn_app (goodIn_of _ (by decide +kernel)) ggX3_crossRiver_X4_bear
set_option maxRecDepth 20000 in
theorem ggX3_crossRiver_X3_letPass : GoodIn wsX3_crossRiver wsX3_letPass := goodIn_r _ [63, 12, 64, 65, 66, 67, 68, 69, 29, 70, 71, 72, 73, 74, 75, 76, 77, 78, 79, 80, 81, 82, 83, 84, 85, 90, 91, 92, 93] (by decide +kernel) (by decide +kernel)
set_option maxRecDepth 20000 in
theorem gX3_crossRiver_X3_letPass : GoodIn wsX3_crossRiver (wsV RX3 165 RX3 yX3_letPass wsX3_letPass) := goodIn_app (goodIn_of _ (by decide +kernel)) ggX3_crossRiver_X3_letPass
theorem dX3_crossRiver_0 : decode cX3_crossRiver 0 = .ok (.aload_n 0, 1) := by decide +kernel
theorem dX3_crossRiver_1 : decode cX3_crossRiver 1 = .ok (.getfield 46, 3) := by decide +kernel
theorem dX3_crossRiver_4 : decode cX3_crossRiver 4 = .ok (.aload_n 0, 1) := by decide +kernel
theorem dX3_crossRiver_5 : decode cX3_crossRiver 5 = .ok (.iconst 0, 1) := by decide +kernel
theorem dX3_crossRiver_6 : decode cX3_crossRiver 6 = .ok (.invokevirtual 103, 3) := by decide +kernel
theorem dX3_crossRiver_9 : decode cX3_crossRiver 9 = .ok (.aload_n 0, 1) := by decide +kernel
theorem dX3_crossRiver_10 : decode cX3_crossRiver 10 = .ok (.invokevirtual 106, 3) := by decide +kernel
theorem dX3_crossRiver_13 : decode cX3_crossRiver 13 = .ok (.aload_n 0, 1) := by decide +kernel
theorem dX3_crossRiver_14 : decode cX3_crossRiver 14 = .ok (.invokevirtual 109, 3) := by decide +kernel
theorem dX3_crossRiver_17 : decode cX3_crossRiver 17 = .ok (.aload_n 0, 1) := by decide +kernel
theorem dX3_crossRiver_18 : decode cX3_crossRiver 18 = .ok (.getfield 15, 3) := by decide +kernel
theorem dX3_crossRiver_21 : decode cX3_crossRiver 21 = .ok (.iconst 2, 1) := by decide +kernel
theorem dX3_crossRiver_22 : decode cX3_crossRiver 22 = .ok (.invokestatic 96, 3) := by decide +kernel
theorem dX3_crossRiver_25 : decode cX3_crossRiver 25 = .ok (.invokevirtual 161, 3) := by decide +kernel
theorem dX3_crossRiver_28 : decode cX3_crossRiver 28 = .ok (.iconst 1, 1) := by decide +kernel
theorem dX3_crossRiver_29 : decode cX3_crossRiver 29 = .ok (.aload_n 0, 1) := by decide +kernel
theorem dX3_crossRiver_30 : decode cX3_crossRiver 30 = .ok (.getfield 46, 3) := by decide +kernel
theorem dX3_crossRiver_33 : decode cX3_crossRiver 33 = .ok (.getfield 124, 3) := by decide +kernel
theorem dX3_crossRiver_36 : decode cX3_crossRiver 36 = .ok (.bipush 10, 2) := by decide +kernel
theorem dX3_crossRiver_38 : decode cX3_crossRiver 38 = .ok (.idiv, 1) := by decide +kernel
theorem dX3_crossRiver_39 : decode cX3_crossRiver 39 = .ok (.iadd, 1) := by decide +kernel
theorem dX3_crossRiver_40 : decode cX3_crossRiver 40 = .ok (.istore_n 1, 1) := by decide +kernel
theorem dX3_crossRiver_41 : decode cX3_crossRiver 41 = .ok (.aload_n 0, 1) := by decide +kernel
theorem dX3_crossRiver_42 : decode cX3_crossRiver 42 = .ok (.iload_n 1, 1) := by decide +kernel
theorem dX3_crossRiver_43 : decode cX3_crossRiver 43 = .ok (.invokevirtual 165, 3) := by decide +kernel
theorem dX3_crossRiver_46 : decode cX3_crossRiver 46 = .ok (.aload_n 0, 1) := by decide +kernel
theorem dX3_crossRiver_47 : decode cX3_crossRiver 47 = .ok (.iconst 1, 1) := by decide +kernel
theorem dX3_crossRiver_48 : decode cX3_crossRiver 48 = .ok (.aload_n 0, 1) := by decide +kernel
theorem dX3_crossRiver_49 : decode cX3_crossRiver 49 = .ok (.getfield 61, 3) := by decide +kernel
theorem dX3_crossRiver_52 : decode cX3_crossRiver 52 = .ok (.isub, 1) := by decide +kernel
theorem dX3_crossRiver_53 : decode cX3_crossRiver 53 = .ok (.putfield 61, 3) := by decide +kernel
theorem dX3_crossRiver_56 : decode cX3_crossRiver 56 = .ok (.aload_n 0, 1) := by decide +kernel
theorem dX3_crossRiver_57 : decode cX3_crossRiver 57 = .ok (.dup, 1) := by decide +kernel
theorem dX3_crossRiver_58 : decode cX3_crossRiver 58 = .ok (.getfield 64, 3) := by decide +kernel
theorem dX3_crossRiver_61 : decode cX3_crossRiver 61 = .ok (.iconst 1, 1) := by decide +kernel
theorem dX3_crossRiver_62 : decode cX3_crossRiver 62 = .ok (.iadd, 1) := by decide +kernel
theorem dX3_crossRiver_63 : decode cX3_crossRiver 63 = .ok (.putfield 64, 3) := by decide +kernel
theorem dX3_crossRiver_66 : decode cX3_crossRiver 66 = .ok (.iload_n 1, 1) := by decide +kernel
theorem dX3_crossRiver_67 : decode cX3_crossRiver 67 = .ok (.ireturn, 1) := by decide +kernel
set_option maxRecDepth 20000 in
theorem ggX3_letPass_X1_size : GoodIn wsX3_letPass wsX1_size := goodIn_r _ [9, 10, 25, 26, 27, 28] (by decide +kernel) (by decide +kernel)
set_option maxRecDepth 20000 in
theorem gX3_letPass_X1_size : GoodIn wsX3_letPass (wsV RX3 79 RX1 yX1_size wsX1_size) := goodIn_app (goodIn_of _ (by decide +kernel)) ggX3_letPass_X1_size
theorem dX3_letPass_0 : decode cX3_letPass 0 = .ok (.aload_n 0, 1) := by decide +kernel
theorem dX3_letPass_1 : decode cX3_letPass 1 = .ok (.dup, 1) := by decide +kernel
theorem dX3_letPass_2 : decode cX3_letPass 2 = .ok (.getfield 57, 3) := by decide +kernel
theorem dX3_letPass_5 : decode cX3_letPass 5 = .ok (.iload_n 1, 1) := by decide +kernel
theorem dX3_letPass_6 : decode cX3_letPass 6 = .ok (.iadd, 1) := by decide +kernel
theorem dX3_letPass_7 : decode cX3_letPass 7 = .ok (.putfield 57, 3) := by decide +kernel
theorem dX3_letPass_10 : decode cX3_letPass 10 = .ok (.aload_n 0, 1) := by decide +kernel
theorem dX3_letPass_11 : decode cX3_letPass 11 = .ok (.dup, 1) := by decide +kernel
theorem dX3_letPass_12 : decode cX3_letPass 12 = .ok (.getfield 76, 3) := by decide +kernel
theorem dX3_letPass_15 : decode cX3_letPass 15 = .ok (.iload_n 1, 1) := by decide +kernel
theorem dX3_letPass_16 : decode cX3_letPass 16 = .ok (.aload_n 0, 1) := by decide +kernel
theorem dX3_letPass_17 : decode cX3_letPass 17 = .ok (.getfield 30, 3) := by decide +kernel
theorem dX3_letPass_20 : decode cX3_letPass 20 = .ok (.invokevirtual 79, 3) := by decide +kernel
theorem dX3_letPass_23 : decode cX3_letPass 23 = .ok (.aload_n 0, 1) := by decide +kernel
theorem dX3_letPass_24 : decode cX3_letPass 24 = .ok (.getfield 34, 3) := by decide +kernel
theorem dX3_letPass_27 : decode cX3_letPass 27 = .ok (.invokevirtual 79, 3) := by decide +kernel
theorem dX3_letPass_30 : decode cX3_letPass 30 = .ok (.iadd, 1) := by decide +kernel
theorem dX3_letPass_31 : decode cX3_letPass 31 = .ok (.imul, 1) := by decide +kernel
theorem dX3_letPass_32 : decode cX3_letPass 32 = .ok (.iadd, 1) := by decide +kernel
theorem dX3_letPass_33 : decode cX3_letPass 33 = .ok (.putfield 76, 3) := by decide +kernel
theorem dX3_letPass_36 : decode cX3_letPass 36 = .ok (.return_, 1) := by decide +kernel
theorem dX3_canDrawThrough_0 : decode cX3_canDrawThrough 0 = .ok (.iload_n 1, 1) := by decide +kernel
theorem dX3_canDrawThrough_1 : decode cX3_canDrawThrough 1 = .ok (.aload_n 0, 1) := by decide +kernel
theorem dX3_canDrawThrough_2 : decode cX3_canDrawThrough 2 = .ok (.getfield 46, 3) := by decide +kernel
theorem dX3_canDrawThrough_5 : decode cX3_canDrawThrough 5 = .ok (.getfield 168, 3) := by decide +kernel
theorem dX3_canDrawThrough_8 : decode cX3_canDrawThrough 8 = .ok (.if_icmp .gt 7, 3) := by decide +kernel
theorem dX3_canDrawThrough_11 : decode cX3_canDrawThrough 11 = .ok (.iconst 1, 1) := by decide +kernel
theorem dX3_canDrawThrough_12 : decode cX3_canDrawThrough 12 = .ok (.goto 4, 3) := by decide +kernel
theorem dX3_canDrawThrough_15 : decode cX3_canDrawThrough 15 = .ok (.iconst 0, 1) := by decide +kernel
theorem dX3_canDrawThrough_16 : decode cX3_canDrawThrough 16 = .ok (.ireturn, 1) := by decide +kernel
set_option maxRecDepth 20000 in
theorem ggX3_drawThrough_X4_renew : GoodIn wsX3_drawThrough wsX4_renew := goodIn_r _ [6, 7, 8, 9, 10, 11, 12, 13, 14, 15, 45, 46, 47, 48] (by decide +kernel) (by decide +kernel)
set_option maxRecDepth 20000 in
theorem gX3_drawThrough_X4_renew : GoodIn wsX3_drawThrough (wsV RX3 171 RX4 yX4_renew wsX4_renew) := goodIn_app (goodIn_of _ (by decide +kernel)) ggX3_drawThrough_X4_renew
set_option maxRecDepth 20000 in
theorem ggX3_drawThrough_X3_letPass : GoodIn wsX3_drawThrough wsX3_letPass := goodIn_r _ [20, 21, 22, 23, 24, 25, 26, 27, 28, 29, 30, 31, 32, 33, 34, 35, 36, 37, 38, 39, 40, 41, 42, 43, 44, 49, 50, 51, 52] (by decide +kernel) (by decide +kernel)
set_option maxRecDepth 20000 in
theorem gX3_drawThrough_X3_letPass : GoodIn wsX3_drawThrough (wsV RX3 165 RX3 yX3_letPass wsX3_letPass) := goodIn_app (goodIn_of _ (by decide +kernel)) ggX3_drawThrough_X3_letPass
theorem dX3_drawThrough_0 : decode cX3_drawThrough 0 = .ok (.aload_n 0, 1) := by decide +kernel
theorem dX3_drawThrough_1 : decode cX3_drawThrough 1 = .ok (.getfield 46, 3) := by decide +kernel
theorem dX3_drawThrough_4 : decode cX3_drawThrough 4 = .ok (.iload_n 1, 1) := by decide +kernel
theorem dX3_drawThrough_5 : decode cX3_drawThrough 5 = .ok (.invokevirtual 171, 3) := by decide +kernel
theorem dX3_drawThrough_8 : decode cX3_drawThrough 8 = .ok (.aload_n 0, 1) := by decide +kernel
theorem dX3_drawThrough_9 : decode cX3_drawThrough 9 = .ok (.iload_n 1, 1) := by decide +kernel
theorem dX3_drawThrough_10 : decode cX3_drawThrough 10 = .ok (.invokevirtual 165, 3) := by decide +kernel
theorem dX3_drawThrough_13 : decode cX3_drawThrough 13 = .ok (.return_, 1) := by decide +kernel
set_option maxRecDepth 20000 in
theorem ggX3_leastListWith_X3_lineAtBank : GoodIn wsX3_leastListWith wsX3_lineAtBank := goodIn_r _ [10, 11, 12, 52, 53, 54, 55, 56, 57, 58, 59, 60, 61, 62, 63, 64, 65] (by decide +kernel) (by decide +kernel)
set_option maxRecDepth 20000 in
theorem gX3_leastListWith_X3_lineAtBank : GoodIn wsX3_leastListWith (wsV RX3 131 RX3 yX3_lineAtBank wsX3_lineAtBank) := goodIn_app (goodIn_of _ (by decide +kernel)) ggX3_leastListWith_X3_lineAtBank
set_option maxRecDepth 20000 in
theorem ggX3_leastListWith_X1_size : GoodIn wsX3_leastListWith wsX1_size := goodIn_r _ [17, 18, 66, 67, 68, 69] (by decide +kernel) (by decide +kernel)
set_option maxRecDepth 20000 in
theorem gX3_leastListWith_X1_size : GoodIn wsX3_leastListWith (wsV RX3 79 RX1 yX1_size wsX1_size) := goodIn_app (goodIn_of _ (by decide +kernel)) ggX3_leastListWith_X1_size
set_option maxRecDepth 20000 in
theorem ggX3_leastListWith_X3_hasRoomFor : GoodIn wsX3_leastListWith wsX3_hasRoomFor := goodIn_r _ [22, 23, 24, 25, 26, 27, 28, 29, 30, 31, 13, 14, 15, 16, 17, 18, 52, 53, 54, 55, 56, 57, 58, 59, 60, 61, 62, 63, 64, 65, 66, 67, 68, 69] (by decide +kernel) (by decide +kernel)
set_option maxRecDepth 20000 in
theorem gX3_leastListWith_X3_hasRoomFor : GoodIn wsX3_leastListWith (wsV RX3 174 RX3 yX3_hasRoomFor wsX3_hasRoomFor) := goodIn_app (goodIn_of _ (by decide +kernel)) ggX3_leastListWith_X3_hasRoomFor
set_option maxRecDepth 20000 in
theorem ggX3_leastListWith_X3_listOf : GoodIn wsX3_leastListWith wsX3_listOf := goodIn_r _ [35, 1, 23, 24, 36, 37, 4, 38, 6, 7, 8, 9, 10, 11, 12, 39, 40, 41, 16, 42, 43, 44, 45, 46, 47, 18, 48, 49, 50, 51, 52, 53, 54, 55, 56, 57, 58, 59, 60, 61, 62, 63, 64, 65, 66, 67, 68, 69] (by decide +kernel) (by decide +kernel)
set_option maxRecDepth 20000 in
theorem gX3_leastListWith_X3_listOf : GoodIn wsX3_leastListWith (wsV RX3 178 RX3 yX3_listOf wsX3_listOf) := goodIn_app (goodIn_of _ (by decide +kernel)) ggX3_leastListWith_X3_listOf
theorem dX3_leastListWith_0 : decode cX3_leastListWith 0 = .ok (.iload_n 1, 1) := by decide +kernel
theorem dX3_leastListWith_1 : decode cX3_leastListWith 1 = .ok (.aload_n 0, 1) := by decide +kernel
theorem dX3_leastListWith_2 : decode cX3_leastListWith 2 = .ok (.aload_n 0, 1) := by decide +kernel
theorem dX3_leastListWith_3 : decode cX3_leastListWith 3 = .ok (.getfield 61, 3) := by decide +kernel
theorem dX3_leastListWith_6 : decode cX3_leastListWith 6 = .ok (.invokevirtual 131, 3) := by decide +kernel
theorem dX3_leastListWith_9 : decode cX3_leastListWith 9 = .ok (.invokevirtual 79, 3) := by decide +kernel
theorem dX3_leastListWith_12 : decode cX3_leastListWith 12 = .ok (.if_icmp .le 5, 3) := by decide +kernel
theorem dX3_leastListWith_15 : decode cX3_leastListWith 15 = .ok (.iconst (-1), 1) := by decide +kernel
theorem dX3_leastListWith_16 : decode cX3_leastListWith 16 = .ok (.ireturn, 1) := by decide +kernel
theorem dX3_leastListWith_17 : decode cX3_leastListWith 17 = .ok (.iconst (-1), 1) := by decide +kernel
theorem dX3_leastListWith_18 : decode cX3_leastListWith 18 = .ok (.istore_n 2, 1) := by decide +kernel
theorem dX3_leastListWith_19 : decode cX3_leastListWith 19 = .ok (.iconst 1, 1) := by decide +kernel
theorem dX3_leastListWith_20 : decode cX3_leastListWith 20 = .ok (.iload_n 1, 1) := by decide +kernel
theorem dX3_leastListWith_21 : decode cX3_leastListWith 21 = .ok (.ishl, 1) := by decide +kernel
theorem dX3_leastListWith_22 : decode cX3_leastListWith 22 = .ok (.istore_n 3, 1) := by decide +kernel
theorem dX3_leastListWith_23 : decode cX3_leastListWith 23 = .ok (.iconst 0, 1) := by decide +kernel
theorem dX3_leastListWith_24 : decode cX3_leastListWith 24 = .ok (.istore 4, 2) := by decide +kernel
theorem dX3_leastListWith_26 : decode cX3_leastListWith 26 = .ok (.iload 4, 2) := by decide +kernel
theorem dX3_leastListWith_28 : decode cX3_leastListWith 28 = .ok (.iload_n 3, 1) := by decide +kernel
theorem dX3_leastListWith_29 : decode cX3_leastListWith 29 = .ok (.if_icmp .ge 45, 3) := by decide +kernel
theorem dX3_leastListWith_32 : decode cX3_leastListWith 32 = .ok (.aload_n 0, 1) := by decide +kernel
theorem dX3_leastListWith_33 : decode cX3_leastListWith 33 = .ok (.iload_n 1, 1) := by decide +kernel
theorem dX3_leastListWith_34 : decode cX3_leastListWith 34 = .ok (.iload 4, 2) := by decide +kernel
theorem dX3_leastListWith_36 : decode cX3_leastListWith 36 = .ok (.invokevirtual 174, 3) := by decide +kernel
theorem dX3_leastListWith_39 : decode cX3_leastListWith 39 = .ok (.ifCond .eq 29, 3) := by decide +kernel
theorem dX3_leastListWith_42 : decode cX3_leastListWith 42 = .ok (.aload_n 0, 1) := by decide +kernel
theorem dX3_leastListWith_43 : decode cX3_leastListWith 43 = .ok (.iload_n 1, 1) := by decide +kernel
theorem dX3_leastListWith_44 : decode cX3_leastListWith 44 = .ok (.iload 4, 2) := by decide +kernel
theorem dX3_leastListWith_46 : decode cX3_leastListWith 46 = .ok (.invokevirtual 178, 3) := by decide +kernel
theorem dX3_leastListWith_49 : decode cX3_leastListWith 49 = .ok (.istore 5, 2) := by decide +kernel
theorem dX3_leastListWith_51 : decode cX3_leastListWith 51 = .ok (.iload_n 2, 1) := by decide +kernel
theorem dX3_leastListWith_52 : decode cX3_leastListWith 52 = .ok (.iconst (-1), 1) := by decide +kernel
theorem dX3_leastListWith_53 : decode cX3_leastListWith 53 = .ok (.if_icmp .ne 8, 3) := by decide +kernel
theorem dX3_leastListWith_56 : decode cX3_leastListWith 56 = .ok (.iload 5, 2) := by decide +kernel
theorem dX3_leastListWith_58 : decode cX3_leastListWith 58 = .ok (.goto 9, 3) := by decide +kernel
theorem dX3_leastListWith_61 : decode cX3_leastListWith 61 = .ok (.iload_n 2, 1) := by decide +kernel
theorem dX3_leastListWith_62 : decode cX3_leastListWith 62 = .ok (.iload 5, 2) := by decide +kernel
theorem dX3_leastListWith_64 : decode cX3_leastListWith 64 = .ok (.invokestatic 181, 3) := by decide +kernel
theorem dX3_leastListWith_67 : decode cX3_leastListWith 67 = .ok (.istore_n 2, 1) := by decide +kernel
theorem dX3_leastListWith_68 : decode cX3_leastListWith 68 = .ok (.iinc 4 1, 3) := by decide +kernel
theorem dX3_leastListWith_71 : decode cX3_leastListWith 71 = .ok (.goto (-45), 3) := by decide +kernel
theorem dX3_leastListWith_74 : decode cX3_leastListWith 74 = .ok (.iload_n 2, 1) := by decide +kernel
theorem dX3_leastListWith_75 : decode cX3_leastListWith 75 = .ok (.ireturn, 1) := by decide +kernel
set_option maxRecDepth 20000 in
theorem ggX3_hasRoomFor_J6_bitCount_0f7a4 : GoodIn wsX3_hasRoomFor wsJ6_bitCount_0f7a4 := goodIn_r _ [6, 7, 8, 9] (by decide +kernel) (by decide +kernel)
set_option maxRecDepth 20000 in
theorem gX3_hasRoomFor_J6_bitCount_0f7a4 : GoodIn wsX3_hasRoomFor (va_wsS RX3 184 yJ6_bitCount_0f7a4 wsJ6_bitCount_0f7a4) := goodIn_app (goodIn_of _ (by decide +kernel)) ggX3_hasRoomFor_J6_bitCount_0f7a4
set_option maxRecDepth 20000 in
theorem ggX3_hasRoomFor_X1_size : GoodIn wsX3_hasRoomFor wsX1_size := goodIn_r _ [14, 15, 30, 31, 32, 33] (by decide +kernel) (by decide +kernel)
set_option maxRecDepth 20000 in
theorem gX3_hasRoomFor_X1_size : GoodIn wsX3_hasRoomFor (wsV RX3 79 RX1 yX1_size wsX1_size) := goodIn_app (goodIn_of _ (by decide +kernel)) ggX3_hasRoomFor_X1_size
theorem dX3_hasRoomFor_0 : decode cX3_hasRoomFor 0 = .ok (.iload_n 2, 1) := by decide +kernel
theorem dX3_hasRoomFor_1 : decode cX3_hasRoomFor 1 = .ok (.invokestatic 184, 3) := by decide +kernel
theorem dX3_hasRoomFor_4 : decode cX3_hasRoomFor 4 = .ok (.istore_n 3, 1) := by decide +kernel
theorem dX3_hasRoomFor_5 : decode cX3_hasRoomFor 5 = .ok (.aload_n 0, 1) := by decide +kernel
theorem dX3_hasRoomFor_6 : decode cX3_hasRoomFor 6 = .ok (.getfield 37, 3) := by decide +kernel
theorem dX3_hasRoomFor_9 : decode cX3_hasRoomFor 9 = .ok (.invokevirtual 79, 3) := by decide +kernel
theorem dX3_hasRoomFor_12 : decode cX3_hasRoomFor 12 = .ok (.iload_n 1, 1) := by decide +kernel
theorem dX3_hasRoomFor_13 : decode cX3_hasRoomFor 13 = .ok (.iadd, 1) := by decide +kernel
theorem dX3_hasRoomFor_14 : decode cX3_hasRoomFor 14 = .ok (.iload_n 3, 1) := by decide +kernel
theorem dX3_hasRoomFor_15 : decode cX3_hasRoomFor 15 = .ok (.isub, 1) := by decide +kernel
theorem dX3_hasRoomFor_16 : decode cX3_hasRoomFor 16 = .ok (.iconst 4, 1) := by decide +kernel
theorem dX3_hasRoomFor_17 : decode cX3_hasRoomFor 17 = .ok (.if_icmp .gt 20, 3) := by decide +kernel
theorem dX3_hasRoomFor_20 : decode cX3_hasRoomFor 20 = .ok (.aload_n 0, 1) := by decide +kernel
theorem dX3_hasRoomFor_21 : decode cX3_hasRoomFor 21 = .ok (.getfield 40, 3) := by decide +kernel
theorem dX3_hasRoomFor_24 : decode cX3_hasRoomFor 24 = .ok (.invokevirtual 79, 3) := by decide +kernel
theorem dX3_hasRoomFor_27 : decode cX3_hasRoomFor 27 = .ok (.iload_n 3, 1) := by decide +kernel
theorem dX3_hasRoomFor_28 : decode cX3_hasRoomFor 28 = .ok (.iadd, 1) := by decide +kernel
theorem dX3_hasRoomFor_29 : decode cX3_hasRoomFor 29 = .ok (.iconst 4, 1) := by decide +kernel
theorem dX3_hasRoomFor_30 : decode cX3_hasRoomFor 30 = .ok (.if_icmp .gt 7, 3) := by decide +kernel
theorem dX3_hasRoomFor_33 : decode cX3_hasRoomFor 33 = .ok (.iconst 1, 1) := by decide +kernel
theorem dX3_hasRoomFor_34 : decode cX3_hasRoomFor 34 = .ok (.goto 4, 3) := by decide +kernel
theorem dX3_hasRoomFor_37 : decode cX3_hasRoomFor 37 = .ok (.iconst 0, 1) := by decide +kernel
theorem dX3_hasRoomFor_38 : decode cX3_hasRoomFor 38 = .ok (.ireturn, 1) := by decide +kernel
set_option maxRecDepth 20000 in
theorem ggX3_listOf_X3_lineAtBank : GoodIn wsX3_listOf wsX3_lineAtBank := goodIn_r _ [12, 13, 14, 30, 31, 32, 33, 34, 35, 36, 37, 38, 39, 40, 41, 42, 43] (by decide +kernel) (by decide +kernel)
set_option maxRecDepth 20000 in
theorem gX3_listOf_X3_lineAtBank : GoodIn wsX3_listOf (wsV RX3 131 RX3 yX3_lineAtBank wsX3_lineAtBank) := goodIn_app (goodIn_of _ (by decide +kernel)) ggX3_listOf_X3_lineAtBank
set_option maxRecDepth 20000 in
theorem ggX3_listOf_X1_weight : GoodIn wsX3_listOf wsX1_weight := goodIn_r _ [19, 20, 44, 45, 46, 47] (by decide +kernel) (by decide +kernel)
set_option maxRecDepth 20000 in
theorem gX3_listOf_X1_weight : GoodIn wsX3_listOf (wsV RX3 83 RX1 yX1_weight wsX1_weight) := goodIn_app (goodIn_of _ (by decide +kernel)) ggX3_listOf_X1_weight
set_option maxRecDepth 20000 in
theorem ggX3_listOf_X1_weightOf : GoodIn wsX3_listOf wsX1_weightOf := goodIn_r _ [24, 25, 26, 27, 28, 29, 44, 45, 46, 47] (by decide +kernel) (by decide +kernel)
set_option maxRecDepth 20000 in
theorem gX3_listOf_X1_weightOf : GoodIn wsX3_listOf (wsV RX3 146 RX1 yX1_weightOf wsX1_weightOf) := goodIn_app (goodIn_of _ (by decide +kernel)) ggX3_listOf_X1_weightOf
theorem dX3_listOf_0 : decode cX3_listOf 0 = .ok (.aload_n 0, 1) := by decide +kernel
theorem dX3_listOf_1 : decode cX3_listOf 1 = .ok (.aload_n 0, 1) := by decide +kernel
theorem dX3_listOf_2 : decode cX3_listOf 2 = .ok (.getfield 61, 3) := by decide +kernel
theorem dX3_listOf_5 : decode cX3_listOf 5 = .ok (.invokevirtual 131, 3) := by decide +kernel
theorem dX3_listOf_8 : decode cX3_listOf 8 = .ok (.astore_n 3, 1) := by decide +kernel
theorem dX3_listOf_9 : decode cX3_listOf 9 = .ok (.aload_n 0, 1) := by decide +kernel
theorem dX3_listOf_10 : decode cX3_listOf 10 = .ok (.getfield 37, 3) := by decide +kernel
theorem dX3_listOf_13 : decode cX3_listOf 13 = .ok (.invokevirtual 83, 3) := by decide +kernel
theorem dX3_listOf_16 : decode cX3_listOf 16 = .ok (.aload_n 0, 1) := by decide +kernel
theorem dX3_listOf_17 : decode cX3_listOf 17 = .ok (.getfield 40, 3) := by decide +kernel
theorem dX3_listOf_20 : decode cX3_listOf 20 = .ok (.invokevirtual 83, 3) := by decide +kernel
theorem dX3_listOf_23 : decode cX3_listOf 23 = .ok (.isub, 1) := by decide +kernel
theorem dX3_listOf_24 : decode cX3_listOf 24 = .ok (.istore 4, 2) := by decide +kernel
theorem dX3_listOf_26 : decode cX3_listOf 26 = .ok (.iconst 0, 1) := by decide +kernel
theorem dX3_listOf_27 : decode cX3_listOf 27 = .ok (.istore 5, 2) := by decide +kernel
theorem dX3_listOf_29 : decode cX3_listOf 29 = .ok (.iload 5, 2) := by decide +kernel
theorem dX3_listOf_31 : decode cX3_listOf 31 = .ok (.iload_n 1, 1) := by decide +kernel
theorem dX3_listOf_32 : decode cX3_listOf 32 = .ok (.if_icmp .ge 51, 3) := by decide +kernel
theorem dX3_listOf_35 : decode cX3_listOf 35 = .ok (.iload_n 2, 1) := by decide +kernel
theorem dX3_listOf_36 : decode cX3_listOf 36 = .ok (.iload 5, 2) := by decide +kernel
theorem dX3_listOf_38 : decode cX3_listOf 38 = .ok (.ishr, 1) := by decide +kernel
theorem dX3_listOf_39 : decode cX3_listOf 39 = .ok (.iconst 1, 1) := by decide +kernel
theorem dX3_listOf_40 : decode cX3_listOf 40 = .ok (.iand, 1) := by decide +kernel
theorem dX3_listOf_41 : decode cX3_listOf 41 = .ok (.ifCond .ne 7, 3) := by decide +kernel
theorem dX3_listOf_44 : decode cX3_listOf 44 = .ok (.iconst 1, 1) := by decide +kernel
theorem dX3_listOf_45 : decode cX3_listOf 45 = .ok (.goto 4, 3) := by decide +kernel
theorem dX3_listOf_48 : decode cX3_listOf 48 = .ok (.iconst 0, 1) := by decide +kernel
theorem dX3_listOf_49 : decode cX3_listOf 49 = .ok (.istore 6, 2) := by decide +kernel
theorem dX3_listOf_51 : decode cX3_listOf 51 = .ok (.iload 4, 2) := by decide +kernel
theorem dX3_listOf_53 : decode cX3_listOf 53 = .ok (.iload 6, 2) := by decide +kernel
theorem dX3_listOf_55 : decode cX3_listOf 55 = .ok (.ifCond .eq 12, 3) := by decide +kernel
theorem dX3_listOf_58 : decode cX3_listOf 58 = .ok (.aload_n 3, 1) := by decide +kernel
theorem dX3_listOf_59 : decode cX3_listOf 59 = .ok (.iload 5, 2) := by decide +kernel
theorem dX3_listOf_61 : decode cX3_listOf 61 = .ok (.invokevirtual 146, 3) := by decide +kernel
theorem dX3_listOf_64 : decode cX3_listOf 64 = .ok (.goto 10, 3) := by decide +kernel
theorem dX3_listOf_67 : decode cX3_listOf 67 = .ok (.aload_n 3, 1) := by decide +kernel
theorem dX3_listOf_68 : decode cX3_listOf 68 = .ok (.iload 5, 2) := by decide +kernel
theorem dX3_listOf_70 : decode cX3_listOf 70 = .ok (.invokevirtual 146, 3) := by decide +kernel
theorem dX3_listOf_73 : decode cX3_listOf 73 = .ok (.ineg, 1) := by decide +kernel
theorem dX3_listOf_74 : decode cX3_listOf 74 = .ok (.iadd, 1) := by decide +kernel
theorem dX3_listOf_75 : decode cX3_listOf 75 = .ok (.istore 4, 2) := by decide +kernel
theorem dX3_listOf_77 : decode cX3_listOf 77 = .ok (.iinc 5 1, 3) := by decide +kernel
theorem dX3_listOf_80 : decode cX3_listOf 80 = .ok (.goto (-51), 3) := by decide +kernel
theorem dX3_listOf_83 : decode cX3_listOf 83 = .ok (.iload 4, 2) := by decide +kernel
theorem dX3_listOf_85 : decode cX3_listOf 85 = .ok (.invokestatic 86, 3) := by decide +kernel
theorem dX3_listOf_88 : decode cX3_listOf 88 = .ok (.ireturn, 1) := by decide +kernel
theorem dX4_init_0 : decode cX4_init 0 = .ok (.aload_n 0, 1) := by decide +kernel
theorem dX4_init_1 : decode cX4_init 1 = .ok (.invokespecial 3, 3) := by decide +kernel
theorem dX4_init_4 : decode cX4_init 4 = .ok (.aload_n 0, 1) := by decide +kernel
theorem dX4_init_5 : decode cX4_init 5 = .ok (.bipush 20, 2) := by decide +kernel
theorem dX4_init_7 : decode cX4_init 7 = .ok (.newarray .int, 2) := by decide +kernel
theorem dX4_init_9 : decode cX4_init 9 = .ok (.putfield 9, 3) := by decide +kernel
theorem dX4_init_12 : decode cX4_init 12 = .ok (.aload_n 0, 1) := by decide +kernel
theorem dX4_init_13 : decode cX4_init 13 = .ok (.iconst 0, 1) := by decide +kernel
theorem dX4_init_14 : decode cX4_init 14 = .ok (.putfield 15, 3) := by decide +kernel
theorem dX4_init_17 : decode cX4_init 17 = .ok (.aload_n 0, 1) := by decide +kernel
theorem dX4_init_18 : decode cX4_init 18 = .ok (.iconst 0, 1) := by decide +kernel
theorem dX4_init_19 : decode cX4_init 19 = .ok (.putfield 19, 3) := by decide +kernel
theorem dX4_init_22 : decode cX4_init 22 = .ok (.aload_n 0, 1) := by decide +kernel
theorem dX4_init_23 : decode cX4_init 23 = .ok (.bipush 40, 2) := by decide +kernel
theorem dX4_init_25 : decode cX4_init 25 = .ok (.putfield 22, 3) := by decide +kernel
theorem dX4_init_28 : decode cX4_init 28 = .ok (.return_, 1) := by decide +kernel
set_option maxRecDepth 20000 in
theorem ggX4_copyFrom_X5_copyRow : GoodIn wsX4_copyFrom wsX5_copyRow := goodIn_r _ [7, 8, 9, 10, 11, 12, 13, 14, 15] (by decide +kernel) (by decide +kernel)
set_option maxRecDepth 20000 in
theorem gX4_copyFrom_X5_copyRow_n25 : GoodIn wsX4_copyFrom (wsX5_copyRow) := ggX4_copyFrom_X5_copyRow
theorem dX4_copyFrom_0 : decode cX4_copyFrom 0 = .ok (.aload_n 1, 1) := by decide +kernel
theorem dX4_copyFrom_1 : decode cX4_copyFrom 1 = .ok (.getfield 9, 3) := by decide +kernel
theorem dX4_copyFrom_4 : decode cX4_copyFrom 4 = .ok (.aload_n 0, 1) := by decide +kernel
theorem dX4_copyFrom_5 : decode cX4_copyFrom 5 = .ok (.getfield 9, 3) := by decide +kernel
theorem dX4_copyFrom_8 : decode cX4_copyFrom 8 = .ok (.invokestatic 25, 3) := by decide +kernel
theorem dX4_copyFrom_11 : decode cX4_copyFrom 11 = .ok (.aload_n 0, 1) := by decide +kernel
theorem dX4_copyFrom_12 : decode cX4_copyFrom 12 = .ok (.aload_n 1, 1) := by decide +kernel
theorem dX4_copyFrom_13 : decode cX4_copyFrom 13 = .ok (.getfield 15, 3) := by decide +kernel
theorem dX4_copyFrom_16 : decode cX4_copyFrom 16 = .ok (.putfield 15, 3) := by decide +kernel
theorem dX4_copyFrom_19 : decode cX4_copyFrom 19 = .ok (.aload_n 0, 1) := by decide +kernel
theorem dX4_copyFrom_20 : decode cX4_copyFrom 20 = .ok (.aload_n 1, 1) := by decide +kernel
theorem dX4_copyFrom_21 : decode cX4_copyFrom 21 = .ok (.getfield 19, 3) := by decide +kernel
theorem dX4_copyFrom_24 : decode cX4_copyFrom 24 = .ok (.putfield 19, 3) := by decide +kernel
theorem dX4_copyFrom_27 : decode cX4_copyFrom 27 = .ok (.aload_n 0, 1) := by decide +kernel
theorem dX4_copyFrom_28 : decode cX4_copyFrom 28 = .ok (.aload_n 1, 1) := by decide +kernel
theorem dX4_copyFrom_29 : decode cX4_copyFrom 29 = .ok (.getfield 22, 3) := by decide +kernel
theorem dX4_copyFrom_32 : decode cX4_copyFrom 32 = .ok (.putfield 22, 3) := by decide +kernel
theorem dX4_copyFrom_35 : decode cX4_copyFrom 35 = .ok (.return_, 1) := by decide +kernel
set_option maxRecDepth 20000 in
theorem ggX4_wearOf_X5_at : GoodIn wsX4_wearOf wsX5_at := goodIn_r _ [4] (by decide +kernel) (by decide +kernel)
set_option maxRecDepth 20000 in
theorem gX4_wearOf_X5_at_n29 : GoodIn wsX4_wearOf (wsX5_at) := ggX4_wearOf_X5_at
theorem dX4_wearOf_0 : decode cX4_wearOf 0 = .ok (.aload_n 0, 1) := by decide +kernel
theorem dX4_wearOf_1 : decode cX4_wearOf 1 = .ok (.getfield 9, 3) := by decide +kernel
theorem dX4_wearOf_4 : decode cX4_wearOf 4 = .ok (.iload_n 1, 1) := by decide +kernel
theorem dX4_wearOf_5 : decode cX4_wearOf 5 = .ok (.invokestatic 29, 3) := by decide +kernel
theorem dX4_wearOf_8 : decode cX4_wearOf 8 = .ok (.ireturn, 1) := by decide +kernel
set_option maxRecDepth 20000 in
theorem ggX4_wearTogether_X5_at : GoodIn wsX4_wearTogether wsX5_at := goodIn_r _ [4] (by decide +kernel) (by decide +kernel)
set_option maxRecDepth 20000 in
theorem gX4_wearTogether_X5_at_n29 : GoodIn wsX4_wearTogether (wsX5_at) := ggX4_wearTogether_X5_at
theorem dX4_wearTogether_0 : decode cX4_wearTogether 0 = .ok (.iconst 0, 1) := by decide +kernel
theorem dX4_wearTogether_1 : decode cX4_wearTogether 1 = .ok (.istore_n 1, 1) := by decide +kernel
theorem dX4_wearTogether_2 : decode cX4_wearTogether 2 = .ok (.iconst 0, 1) := by decide +kernel
theorem dX4_wearTogether_3 : decode cX4_wearTogether 3 = .ok (.istore_n 2, 1) := by decide +kernel
theorem dX4_wearTogether_4 : decode cX4_wearTogether 4 = .ok (.iload_n 2, 1) := by decide +kernel
theorem dX4_wearTogether_5 : decode cX4_wearTogether 5 = .ok (.bipush 20, 2) := by decide +kernel
theorem dX4_wearTogether_7 : decode cX4_wearTogether 7 = .ok (.if_icmp .ge 20, 3) := by decide +kernel
theorem dX4_wearTogether_10 : decode cX4_wearTogether 10 = .ok (.iload_n 1, 1) := by decide +kernel
theorem dX4_wearTogether_11 : decode cX4_wearTogether 11 = .ok (.aload_n 0, 1) := by decide +kernel
theorem dX4_wearTogether_12 : decode cX4_wearTogether 12 = .ok (.getfield 9, 3) := by decide +kernel
theorem dX4_wearTogether_15 : decode cX4_wearTogether 15 = .ok (.iload_n 2, 1) := by decide +kernel
theorem dX4_wearTogether_16 : decode cX4_wearTogether 16 = .ok (.invokestatic 29, 3) := by decide +kernel
theorem dX4_wearTogether_19 : decode cX4_wearTogether 19 = .ok (.iadd, 1) := by decide +kernel
theorem dX4_wearTogether_20 : decode cX4_wearTogether 20 = .ok (.istore_n 1, 1) := by decide +kernel
theorem dX4_wearTogether_21 : decode cX4_wearTogether 21 = .ok (.iinc 2 1, 3) := by decide +kernel
theorem dX4_wearTogether_24 : decode cX4_wearTogether 24 = .ok (.goto (-20), 3) := by decide +kernel
theorem dX4_wearTogether_27 : decode cX4_wearTogether 27 = .ok (.iload_n 1, 1) := by decide +kernel
theorem dX4_wearTogether_28 : decode cX4_wearTogether 28 = .ok (.ireturn, 1) := by decide +kernel
theorem dX4_tensionOf_0 : decode cX4_tensionOf 0 = .ok (.iload_n 2, 1) := by decide +kernel
theorem dX4_tensionOf_1 : decode cX4_tensionOf 1 = .ok (.iload_n 1, 1) := by decide +kernel
theorem dX4_tensionOf_2 : decode cX4_tensionOf 2 = .ok (.iconst 1, 1) := by decide +kernel
theorem dX4_tensionOf_3 : decode cX4_tensionOf 3 = .ok (.iadd, 1) := by decide +kernel
theorem dX4_tensionOf_4 : decode cX4_tensionOf 4 = .ok (.bipush 20, 2) := by decide +kernel
theorem dX4_tensionOf_6 : decode cX4_tensionOf 6 = .ok (.iload_n 1, 1) := by decide +kernel
theorem dX4_tensionOf_7 : decode cX4_tensionOf 7 = .ok (.isub, 1) := by decide +kernel
theorem dX4_tensionOf_8 : decode cX4_tensionOf 8 = .ok (.invokestatic 33, 3) := by decide +kernel
theorem dX4_tensionOf_11 : decode cX4_tensionOf 11 = .ok (.imul, 1) := by decide +kernel
theorem dX4_tensionOf_12 : decode cX4_tensionOf 12 = .ok (.bipush 10, 2) := by decide +kernel
theorem dX4_tensionOf_14 : decode cX4_tensionOf 14 = .ok (.idiv, 1) := by decide +kernel
theorem dX4_tensionOf_15 : decode cX4_tensionOf 15 = .ok (.istore 5, 2) := by decide +kernel
theorem dX4_tensionOf_17 : decode cX4_tensionOf 17 = .ok (.iload 5, 2) := by decide +kernel
theorem dX4_tensionOf_19 : decode cX4_tensionOf 19 = .ok (.bipush 20, 2) := by decide +kernel
theorem dX4_tensionOf_21 : decode cX4_tensionOf 21 = .ok (.iload_n 3, 1) := by decide +kernel
theorem dX4_tensionOf_22 : decode cX4_tensionOf 22 = .ok (.iadd, 1) := by decide +kernel
theorem dX4_tensionOf_23 : decode cX4_tensionOf 23 = .ok (.imul, 1) := by decide +kernel
theorem dX4_tensionOf_24 : decode cX4_tensionOf 24 = .ok (.bipush 10, 2) := by decide +kernel
theorem dX4_tensionOf_26 : decode cX4_tensionOf 26 = .ok (.idiv, 1) := by decide +kernel
theorem dX4_tensionOf_27 : decode cX4_tensionOf 27 = .ok (.istore 6, 2) := by decide +kernel
theorem dX4_tensionOf_29 : decode cX4_tensionOf 29 = .ok (.iconst 0, 1) := by decide +kernel
theorem dX4_tensionOf_30 : decode cX4_tensionOf 30 = .ok (.iload 6, 2) := by decide +kernel
theorem dX4_tensionOf_32 : decode cX4_tensionOf 32 = .ok (.iconst 3, 1) := by decide +kernel
theorem dX4_tensionOf_33 : decode cX4_tensionOf 33 = .ok (.iload 4, 2) := by decide +kernel
theorem dX4_tensionOf_35 : decode cX4_tensionOf 35 = .ok (.imul, 1) := by decide +kernel
theorem dX4_tensionOf_36 : decode cX4_tensionOf 36 = .ok (.iadd, 1) := by decide +kernel
theorem dX4_tensionOf_37 : decode cX4_tensionOf 37 = .ok (.iconst 4, 1) := by decide +kernel
theorem dX4_tensionOf_38 : decode cX4_tensionOf 38 = .ok (.aload_n 0, 1) := by decide +kernel
theorem dX4_tensionOf_39 : decode cX4_tensionOf 39 = .ok (.getfield 15, 3) := by decide +kernel
theorem dX4_tensionOf_42 : decode cX4_tensionOf 42 = .ok (.imul, 1) := by decide +kernel
theorem dX4_tensionOf_43 : decode cX4_tensionOf 43 = .ok (.isub, 1) := by decide +kernel
theorem dX4_tensionOf_44 : decode cX4_tensionOf 44 = .ok (.invokestatic 39, 3) := by decide +kernel
theorem dX4_tensionOf_47 : decode cX4_tensionOf 47 = .ok (.ireturn, 1) := by decide +kernel
set_option maxRecDepth 20000 in
theorem ggX4_greatestTension_X4_tensionOf : GoodIn wsX4_greatestTension wsX4_tensionOf := goodIn_r _ [9, 10, 11, 3, 12, 13, 1, 2, 4, 14, 15, 16, 17] (by decide +kernel) (by decide +kernel)
set_option maxRecDepth 20000 in
theorem gX4_greatestTension_X4_tensionOf : GoodIn wsX4_greatestTension (wsV RX4 42 RX4 yX4_tensionOf wsX4_tensionOf) := goodIn_app (goodIn_of _ (by decide +kernel)) ggX4_greatestTension_X4_tensionOf
theorem dX4_greatestTension_0 : decode cX4_greatestTension 0 = .ok (.iconst 0, 1) := by decide +kernel
theorem dX4_greatestTension_1 : decode cX4_greatestTension 1 = .ok (.istore 4, 2) := by decide +kernel
theorem dX4_greatestTension_3 : decode cX4_greatestTension 3 = .ok (.iconst 0, 1) := by decide +kernel
theorem dX4_greatestTension_4 : decode cX4_greatestTension 4 = .ok (.istore 5, 2) := by decide +kernel
theorem dX4_greatestTension_6 : decode cX4_greatestTension 6 = .ok (.iload 5, 2) := by decide +kernel
theorem dX4_greatestTension_8 : decode cX4_greatestTension 8 = .ok (.bipush 20, 2) := by decide +kernel
theorem dX4_greatestTension_10 : decode cX4_greatestTension 10 = .ok (.if_icmp .ge 25, 3) := by decide +kernel
theorem dX4_greatestTension_13 : decode cX4_greatestTension 13 = .ok (.iload 4, 2) := by decide +kernel
theorem dX4_greatestTension_15 : decode cX4_greatestTension 15 = .ok (.aload_n 0, 1) := by decide +kernel
theorem dX4_greatestTension_16 : decode cX4_greatestTension 16 = .ok (.iload 5, 2) := by decide +kernel
theorem dX4_greatestTension_18 : decode cX4_greatestTension 18 = .ok (.iload_n 1, 1) := by decide +kernel
theorem dX4_greatestTension_19 : decode cX4_greatestTension 19 = .ok (.iload_n 2, 1) := by decide +kernel
theorem dX4_greatestTension_20 : decode cX4_greatestTension 20 = .ok (.iload_n 3, 1) := by decide +kernel
theorem dX4_greatestTension_21 : decode cX4_greatestTension 21 = .ok (.invokevirtual 42, 3) := by decide +kernel
theorem dX4_greatestTension_24 : decode cX4_greatestTension 24 = .ok (.invokestatic 39, 3) := by decide +kernel
theorem dX4_greatestTension_27 : decode cX4_greatestTension 27 = .ok (.istore 4, 2) := by decide +kernel
theorem dX4_greatestTension_29 : decode cX4_greatestTension 29 = .ok (.iinc 5 1, 3) := by decide +kernel
theorem dX4_greatestTension_32 : decode cX4_greatestTension 32 = .ok (.goto (-26), 3) := by decide +kernel
theorem dX4_greatestTension_35 : decode cX4_greatestTension 35 = .ok (.iload 4, 2) := by decide +kernel
theorem dX4_greatestTension_37 : decode cX4_greatestTension 37 = .ok (.ireturn, 1) := by decide +kernel
set_option maxRecDepth 20000 in
theorem ggX4_strengthOf_X5_at : GoodIn wsX4_strengthOf wsX5_at := goodIn_r _ [8] (by decide +kernel) (by decide +kernel)
set_option maxRecDepth 20000 in
theorem gX4_strengthOf_X5_at_n29 : GoodIn wsX4_strengthOf (wsX5_at) := ggX4_strengthOf_X5_at
theorem dX4_strengthOf_0 : decode cX4_strengthOf 0 = .ok (.iconst 0, 1) := by decide +kernel
theorem dX4_strengthOf_1 : decode cX4_strengthOf 1 = .ok (.iload_n 2, 1) := by decide +kernel
theorem dX4_strengthOf_2 : decode cX4_strengthOf 2 = .ok (.aload_n 0, 1) := by decide +kernel
theorem dX4_strengthOf_3 : decode cX4_strengthOf 3 = .ok (.getfield 9, 3) := by decide +kernel
theorem dX4_strengthOf_6 : decode cX4_strengthOf 6 = .ok (.iload_n 1, 1) := by decide +kernel
theorem dX4_strengthOf_7 : decode cX4_strengthOf 7 = .ok (.invokestatic 29, 3) := by decide +kernel
theorem dX4_strengthOf_10 : decode cX4_strengthOf 10 = .ok (.iconst 2, 1) := by decide +kernel
theorem dX4_strengthOf_11 : decode cX4_strengthOf 11 = .ok (.idiv, 1) := by decide +kernel
theorem dX4_strengthOf_12 : decode cX4_strengthOf 12 = .ok (.isub, 1) := by decide +kernel
theorem dX4_strengthOf_13 : decode cX4_strengthOf 13 = .ok (.invokestatic 39, 3) := by decide +kernel
theorem dX4_strengthOf_16 : decode cX4_strengthOf 16 = .ok (.ireturn, 1) := by decide +kernel
set_option maxRecDepth 20000 in
theorem ggX4_canBear_X4_tensionOf : GoodIn wsX4_canBear wsX4_tensionOf := goodIn_r _ [5, 6, 7, 8, 9, 10, 11, 12, 13, 22, 23, 24, 25] (by decide +kernel) (by decide +kernel)
set_option maxRecDepth 20000 in
theorem gX4_canBear_X4_tensionOf : GoodIn wsX4_canBear (wsV RX4 42 RX4 yX4_tensionOf wsX4_tensionOf) := goodIn_app (goodIn_of _ (by decide +kernel)) ggX4_canBear_X4_tensionOf
set_option maxRecDepth 20000 in
theorem ggX4_canBear_X4_strengthOf : GoodIn wsX4_canBear wsX4_strengthOf := goodIn_r _ [17, 18, 11, 12, 8, 13, 19, 20, 21, 22, 23, 24, 25] (by decide +kernel) (by decide +kernel)
set_option maxRecDepth 20000 in
theorem gX4_canBear_X4_strengthOf : GoodIn wsX4_canBear (wsV RX4 46 RX4 yX4_strengthOf wsX4_strengthOf) := goodIn_app (goodIn_of _ (by decide +kernel)) ggX4_canBear_X4_strengthOf
theorem dX4_canBear_0 : decode cX4_canBear 0 = .ok (.iconst 0, 1) := by decide +kernel
theorem dX4_canBear_1 : decode cX4_canBear 1 = .ok (.istore 5, 2) := by decide +kernel
theorem dX4_canBear_3 : decode cX4_canBear 3 = .ok (.iload 5, 2) := by decide +kernel
theorem dX4_canBear_5 : decode cX4_canBear 5 = .ok (.bipush 20, 2) := by decide +kernel
theorem dX4_canBear_7 : decode cX4_canBear 7 = .ok (.if_icmp .ge 31, 3) := by decide +kernel
theorem dX4_canBear_10 : decode cX4_canBear 10 = .ok (.aload_n 0, 1) := by decide +kernel
theorem dX4_canBear_11 : decode cX4_canBear 11 = .ok (.iload 5, 2) := by decide +kernel
theorem dX4_canBear_13 : decode cX4_canBear 13 = .ok (.iload_n 1, 1) := by decide +kernel
theorem dX4_canBear_14 : decode cX4_canBear 14 = .ok (.iload_n 2, 1) := by decide +kernel
theorem dX4_canBear_15 : decode cX4_canBear 15 = .ok (.iload_n 3, 1) := by decide +kernel
theorem dX4_canBear_16 : decode cX4_canBear 16 = .ok (.invokevirtual 42, 3) := by decide +kernel
theorem dX4_canBear_19 : decode cX4_canBear 19 = .ok (.aload_n 0, 1) := by decide +kernel
theorem dX4_canBear_20 : decode cX4_canBear 20 = .ok (.iload 5, 2) := by decide +kernel
theorem dX4_canBear_22 : decode cX4_canBear 22 = .ok (.iload 4, 2) := by decide +kernel
theorem dX4_canBear_24 : decode cX4_canBear 24 = .ok (.invokevirtual 46, 3) := by decide +kernel
theorem dX4_canBear_27 : decode cX4_canBear 27 = .ok (.if_icmp .le 5, 3) := by decide +kernel
theorem dX4_canBear_30 : decode cX4_canBear 30 = .ok (.iconst 0, 1) := by decide +kernel
theorem dX4_canBear_31 : decode cX4_canBear 31 = .ok (.ireturn, 1) := by decide +kernel
theorem dX4_canBear_32 : decode cX4_canBear 32 = .ok (.iinc 5 1, 3) := by decide +kernel
theorem dX4_canBear_35 : decode cX4_canBear 35 = .ok (.goto (-32), 3) := by decide +kernel
theorem dX4_canBear_38 : decode cX4_canBear 38 = .ok (.iconst 1, 1) := by decide +kernel
theorem dX4_canBear_39 : decode cX4_canBear 39 = .ok (.ireturn, 1) := by decide +kernel
set_option maxRecDepth 20000 in
theorem ggX4_bear_X4_tensionOf : GoodIn wsX4_bear wsX4_tensionOf := goodIn_r _ [15, 7, 8, 5, 9, 10, 3, 4, 6, 21, 22, 23, 24] (by decide +kernel) (by decide +kernel)
set_option maxRecDepth 20000 in
theorem gX4_bear_X4_tensionOf : GoodIn wsX4_bear (wsV RX4 42 RX4 yX4_tensionOf wsX4_tensionOf) := goodIn_app (goodIn_of _ (by decide +kernel)) ggX4_bear_X4_tensionOf
set_option maxRecDepth 20000 in
theorem ggX4_bear_X5_at : GoodIn wsX4_bear wsX5_at := goodIn_r _ [18] (by decide +kernel) (by decide +kernel)
set_option maxRecDepth 20000 in
theorem gX4_bear_X5_at_n29 : GoodIn wsX4_bear (wsX5_at) := ggX4_bear_X5_at
set_option maxRecDepth 20000 in
theorem ggX4_bear_X5_put : GoodIn wsX4_bear wsX5_put := goodIn_r _ [20] (by decide +kernel) (by decide +kernel)
set_option maxRecDepth 20000 in
theorem gX4_bear_X5_put_n49 : GoodIn wsX4_bear (wsX5_put) := ggX4_bear_X5_put
theorem dX4_bear_0 : decode cX4_bear 0 = .ok (.aload_n 0, 1) := by decide +kernel
theorem dX4_bear_1 : decode cX4_bear 1 = .ok (.getfield 19, 3) := by decide +kernel
theorem dX4_bear_4 : decode cX4_bear 4 = .ok (.istore 5, 2) := by decide +kernel
theorem dX4_bear_6 : decode cX4_bear 6 = .ok (.iconst 0, 1) := by decide +kernel
theorem dX4_bear_7 : decode cX4_bear 7 = .ok (.istore 6, 2) := by decide +kernel
theorem dX4_bear_9 : decode cX4_bear 9 = .ok (.iload 6, 2) := by decide +kernel
theorem dX4_bear_11 : decode cX4_bear 11 = .ok (.bipush 20, 2) := by decide +kernel
theorem dX4_bear_13 : decode cX4_bear 13 = .ok (.if_icmp .ge 65, 3) := by decide +kernel
theorem dX4_bear_16 : decode cX4_bear 16 = .ok (.aload_n 0, 1) := by decide +kernel
theorem dX4_bear_17 : decode cX4_bear 17 = .ok (.iload 6, 2) := by decide +kernel
theorem dX4_bear_19 : decode cX4_bear 19 = .ok (.iload_n 1, 1) := by decide +kernel
theorem dX4_bear_20 : decode cX4_bear 20 = .ok (.iload_n 2, 1) := by decide +kernel
theorem dX4_bear_21 : decode cX4_bear 21 = .ok (.iload_n 3, 1) := by decide +kernel
theorem dX4_bear_22 : decode cX4_bear 22 = .ok (.invokevirtual 42, 3) := by decide +kernel
theorem dX4_bear_25 : decode cX4_bear 25 = .ok (.istore 7, 2) := by decide +kernel
theorem dX4_bear_27 : decode cX4_bear 27 = .ok (.aload_n 0, 1) := by decide +kernel
theorem dX4_bear_28 : decode cX4_bear 28 = .ok (.getfield 9, 3) := by decide +kernel
theorem dX4_bear_31 : decode cX4_bear 31 = .ok (.iload 6, 2) := by decide +kernel
theorem dX4_bear_33 : decode cX4_bear 33 = .ok (.invokestatic 29, 3) := by decide +kernel
theorem dX4_bear_36 : decode cX4_bear 36 = .ok (.iload 7, 2) := by decide +kernel
theorem dX4_bear_38 : decode cX4_bear 38 = .ok (.iconst 1, 1) := by decide +kernel
theorem dX4_bear_39 : decode cX4_bear 39 = .ok (.iload 4, 2) := by decide +kernel
theorem dX4_bear_41 : decode cX4_bear 41 = .ok (.invokestatic 39, 3) := by decide +kernel
theorem dX4_bear_44 : decode cX4_bear 44 = .ok (.idiv, 1) := by decide +kernel
theorem dX4_bear_45 : decode cX4_bear 45 = .ok (.iadd, 1) := by decide +kernel
theorem dX4_bear_46 : decode cX4_bear 46 = .ok (.istore 8, 2) := by decide +kernel
theorem dX4_bear_48 : decode cX4_bear 48 = .ok (.aload_n 0, 1) := by decide +kernel
theorem dX4_bear_49 : decode cX4_bear 49 = .ok (.getfield 9, 3) := by decide +kernel
theorem dX4_bear_52 : decode cX4_bear 52 = .ok (.iload 6, 2) := by decide +kernel
theorem dX4_bear_54 : decode cX4_bear 54 = .ok (.sipush 1000, 3) := by decide +kernel
theorem dX4_bear_57 : decode cX4_bear 57 = .ok (.iload 8, 2) := by decide +kernel
theorem dX4_bear_59 : decode cX4_bear 59 = .ok (.invokestatic 33, 3) := by decide +kernel
theorem dX4_bear_62 : decode cX4_bear 62 = .ok (.invokestatic 49, 3) := by decide +kernel
theorem dX4_bear_65 : decode cX4_bear 65 = .ok (.iload 5, 2) := by decide +kernel
theorem dX4_bear_67 : decode cX4_bear 67 = .ok (.iload 7, 2) := by decide +kernel
theorem dX4_bear_69 : decode cX4_bear 69 = .ok (.iadd, 1) := by decide +kernel
theorem dX4_bear_70 : decode cX4_bear 70 = .ok (.istore 5, 2) := by decide +kernel
theorem dX4_bear_72 : decode cX4_bear 72 = .ok (.iinc 6 1, 3) := by decide +kernel
theorem dX4_bear_75 : decode cX4_bear 75 = .ok (.goto (-66), 3) := by decide +kernel
theorem dX4_bear_78 : decode cX4_bear 78 = .ok (.aload_n 0, 1) := by decide +kernel
theorem dX4_bear_79 : decode cX4_bear 79 = .ok (.bipush 30, 2) := by decide +kernel
theorem dX4_bear_81 : decode cX4_bear 81 = .ok (.aload_n 0, 1) := by decide +kernel
theorem dX4_bear_82 : decode cX4_bear 82 = .ok (.getfield 15, 3) := by decide +kernel
theorem dX4_bear_85 : decode cX4_bear 85 = .ok (.iload 5, 2) := by decide +kernel
theorem dX4_bear_87 : decode cX4_bear 87 = .ok (.sipush 500, 3) := by decide +kernel
theorem dX4_bear_90 : decode cX4_bear 90 = .ok (.idiv, 1) := by decide +kernel
theorem dX4_bear_91 : decode cX4_bear 91 = .ok (.iadd, 1) := by decide +kernel
theorem dX4_bear_92 : decode cX4_bear 92 = .ok (.invokestatic 33, 3) := by decide +kernel
theorem dX4_bear_95 : decode cX4_bear 95 = .ok (.putfield 15, 3) := by decide +kernel
theorem dX4_bear_98 : decode cX4_bear 98 = .ok (.aload_n 0, 1) := by decide +kernel
theorem dX4_bear_99 : decode cX4_bear 99 = .ok (.iload 5, 2) := by decide +kernel
theorem dX4_bear_101 : decode cX4_bear 101 = .ok (.sipush 500, 3) := by decide +kernel
theorem dX4_bear_104 : decode cX4_bear 104 = .ok (.irem, 1) := by decide +kernel
theorem dX4_bear_105 : decode cX4_bear 105 = .ok (.putfield 19, 3) := by decide +kernel
theorem dX4_bear_108 : decode cX4_bear 108 = .ok (.return_, 1) := by decide +kernel
set_option maxRecDepth 20000 in
theorem ggX4_renew_X5_at : GoodIn wsX4_renew wsX5_at := goodIn_r _ [7] (by decide +kernel) (by decide +kernel)
set_option maxRecDepth 20000 in
theorem gX4_renew_X5_at_n29 : GoodIn wsX4_renew (wsX5_at) := ggX4_renew_X5_at
set_option maxRecDepth 20000 in
theorem ggX4_renew_X5_put : GoodIn wsX4_renew wsX5_put := goodIn_r _ [9] (by decide +kernel) (by decide +kernel)
set_option maxRecDepth 20000 in
theorem gX4_renew_X5_put_n49 : GoodIn wsX4_renew (wsX5_put) := ggX4_renew_X5_put
theorem dX4_renew_0 : decode cX4_renew 0 = .ok (.iconst 0, 1) := by decide +kernel
theorem dX4_renew_1 : decode cX4_renew 1 = .ok (.istore_n 2, 1) := by decide +kernel
theorem dX4_renew_2 : decode cX4_renew 2 = .ok (.iload_n 2, 1) := by decide +kernel
theorem dX4_renew_3 : decode cX4_renew 3 = .ok (.bipush 20, 2) := by decide +kernel
theorem dX4_renew_5 : decode cX4_renew 5 = .ok (.if_icmp .ge 39, 3) := by decide +kernel
theorem dX4_renew_8 : decode cX4_renew 8 = .ok (.aload_n 0, 1) := by decide +kernel
theorem dX4_renew_9 : decode cX4_renew 9 = .ok (.getfield 9, 3) := by decide +kernel
theorem dX4_renew_12 : decode cX4_renew 12 = .ok (.iload_n 2, 1) := by decide +kernel
theorem dX4_renew_13 : decode cX4_renew 13 = .ok (.iload_n 2, 1) := by decide +kernel
theorem dX4_renew_14 : decode cX4_renew 14 = .ok (.iload_n 1, 1) := by decide +kernel
theorem dX4_renew_15 : decode cX4_renew 15 = .ok (.iadd, 1) := by decide +kernel
theorem dX4_renew_16 : decode cX4_renew 16 = .ok (.bipush 20, 2) := by decide +kernel
theorem dX4_renew_18 : decode cX4_renew 18 = .ok (.if_icmp .ge 16, 3) := by decide +kernel
theorem dX4_renew_21 : decode cX4_renew 21 = .ok (.aload_n 0, 1) := by decide +kernel
theorem dX4_renew_22 : decode cX4_renew 22 = .ok (.getfield 9, 3) := by decide +kernel
theorem dX4_renew_25 : decode cX4_renew 25 = .ok (.iload_n 2, 1) := by decide +kernel
theorem dX4_renew_26 : decode cX4_renew 26 = .ok (.iload_n 1, 1) := by decide +kernel
theorem dX4_renew_27 : decode cX4_renew 27 = .ok (.iadd, 1) := by decide +kernel
theorem dX4_renew_28 : decode cX4_renew 28 = .ok (.invokestatic 29, 3) := by decide +kernel
theorem dX4_renew_31 : decode cX4_renew 31 = .ok (.goto 4, 3) := by decide +kernel
theorem dX4_renew_34 : decode cX4_renew 34 = .ok (.iconst 0, 1) := by decide +kernel
theorem dX4_renew_35 : decode cX4_renew 35 = .ok (.invokestatic 49, 3) := by decide +kernel
theorem dX4_renew_38 : decode cX4_renew 38 = .ok (.iinc 2 1, 3) := by decide +kernel
theorem dX4_renew_41 : decode cX4_renew 41 = .ok (.goto (-39), 3) := by decide +kernel
theorem dX4_renew_44 : decode cX4_renew 44 = .ok (.aload_n 0, 1) := by decide +kernel
theorem dX4_renew_45 : decode cX4_renew 45 = .ok (.dup, 1) := by decide +kernel
theorem dX4_renew_46 : decode cX4_renew 46 = .ok (.getfield 22, 3) := by decide +kernel
theorem dX4_renew_49 : decode cX4_renew 49 = .ok (.iload_n 1, 1) := by decide +kernel
theorem dX4_renew_50 : decode cX4_renew 50 = .ok (.isub, 1) := by decide +kernel
theorem dX4_renew_51 : decode cX4_renew 51 = .ok (.putfield 22, 3) := by decide +kernel
theorem dX4_renew_54 : decode cX4_renew 54 = .ok (.aload_n 0, 1) := by decide +kernel
theorem dX4_renew_55 : decode cX4_renew 55 = .ok (.iconst 0, 1) := by decide +kernel
theorem dX4_renew_56 : decode cX4_renew 56 = .ok (.putfield 15, 3) := by decide +kernel
theorem dX4_renew_59 : decode cX4_renew 59 = .ok (.aload_n 0, 1) := by decide +kernel
theorem dX4_renew_60 : decode cX4_renew 60 = .ok (.iconst 0, 1) := by decide +kernel
theorem dX4_renew_61 : decode cX4_renew 61 = .ok (.putfield 19, 3) := by decide +kernel
theorem dX4_renew_64 : decode cX4_renew 64 = .ok (.return_, 1) := by decide +kernel
set_option maxRecDepth 20000 in
theorem ggX5_init_X3_init : GoodIn wsX5_init wsX3_init := goodIn_r _ [21, 22, 2, 3, 23, 24, 25, 26, 27, 28, 29, 30, 31, 32, 33, 34, 35, 36, 37, 38, 39, 40, 41, 42, 43, 44, 45, 46, 47, 48, 49, 50, 51, 52, 53, 54, 55, 56, 57, 58, 59, 60, 61, 62, 63, 81, 82, 83, 84, 85, 86, 87, 88, 89, 90, 91, 92, 93, 94, 108, 109, 110, 111, 112, 113, 114, 115] (by decide +kernel) (by decide +kernel)
set_option maxRecDepth 20000 in
theorem gX5_init_X3_init : GoodIn wsX5_init (wsX3_init) := ggX5_init_X3_init
set_option maxRecDepth 20000 in
theorem ggX5_init_X0_init : GoodIn wsX5_init wsX0_init := goodIn_r _ [66, 67, 2, 3, 68, 69, 5, 6, 70, 71, 72, 20, 21, 22, 23, 24, 25, 26, 27, 28, 29, 30, 31, 32, 33, 34, 35, 36, 37, 38, 39, 40, 41, 42, 43, 44, 45, 46, 47, 48, 49, 50, 51, 52, 53, 54, 55, 56, 57, 58, 59, 60, 61, 62, 63, 101, 102, 103, 81, 82, 83, 84, 85, 86, 87, 88, 89, 90, 91, 92, 93, 94, 108, 109, 110, 111, 112, 113, 114, 115] (by decide +kernel) (by decide +kernel)
set_option maxRecDepth 20000 in
theorem gX5_init_X0_init : GoodIn wsX5_init (wsX0_init) := ggX5_init_X0_init
set_option maxRecDepth 20000 in
theorem ggX5_init_X2_init : GoodIn wsX5_init wsX2_init := goodIn_r _ [75, 76, 2, 3, 23, 77, 78, 79, 80, 104, 105, 106, 107] (by decide +kernel) (by decide +kernel)
set_option maxRecDepth 20000 in
theorem gX5_init_X2_init : GoodIn wsX5_init (wsX2_init) := ggX5_init_X2_init
theorem dX5_init_0 : decode cX5_init 0 = .ok (.aload_n 0, 1) := by decide +kernel
theorem dX5_init_1 : decode cX5_init 1 = .ok (.invokespecial 1, 3) := by decide +kernel
theorem dX5_init_4 : decode cX5_init 4 = .ok (.aload_n 0, 1) := by decide +kernel
theorem dX5_init_5 : decode cX5_init 5 = .ok (.new 7, 3) := by decide +kernel
theorem dX5_init_8 : decode cX5_init 8 = .ok (.dup, 1) := by decide +kernel
theorem dX5_init_9 : decode cX5_init 9 = .ok (.invokespecial 9, 3) := by decide +kernel
theorem dX5_init_12 : decode cX5_init 12 = .ok (.putfield 10, 3) := by decide +kernel
theorem dX5_init_15 : decode cX5_init 15 = .ok (.aload_n 0, 1) := by decide +kernel
theorem dX5_init_16 : decode cX5_init 16 = .ok (.new 7, 3) := by decide +kernel
theorem dX5_init_19 : decode cX5_init 19 = .ok (.dup, 1) := by decide +kernel
theorem dX5_init_20 : decode cX5_init 20 = .ok (.invokespecial 9, 3) := by decide +kernel
theorem dX5_init_23 : decode cX5_init 23 = .ok (.putfield 16, 3) := by decide +kernel
theorem dX5_init_26 : decode cX5_init 26 = .ok (.aload_n 0, 1) := by decide +kernel
theorem dX5_init_27 : decode cX5_init 27 = .ok (.new 7, 3) := by decide +kernel
theorem dX5_init_30 : decode cX5_init 30 = .ok (.dup, 1) := by decide +kernel
theorem dX5_init_31 : decode cX5_init 31 = .ok (.invokespecial 9, 3) := by decide +kernel
theorem dX5_init_34 : decode cX5_init 34 = .ok (.putfield 19, 3) := by decide +kernel
theorem dX5_init_37 : decode cX5_init 37 = .ok (.aload_n 0, 1) := by decide +kernel
theorem dX5_init_38 : decode cX5_init 38 = .ok (.new 22, 3) := by decide +kernel
theorem dX5_init_41 : decode cX5_init 41 = .ok (.dup, 1) := by decide +kernel
theorem dX5_init_42 : decode cX5_init 42 = .ok (.invokespecial 24, 3) := by decide +kernel
theorem dX5_init_45 : decode cX5_init 45 = .ok (.putfield 25, 3) := by decide +kernel
theorem dX5_init_48 : decode cX5_init 48 = .ok (.aload_n 0, 1) := by decide +kernel
theorem dX5_init_49 : decode cX5_init 49 = .ok (.new 29, 3) := by decide +kernel
theorem dX5_init_52 : decode cX5_init 52 = .ok (.dup, 1) := by decide +kernel
theorem dX5_init_53 : decode cX5_init 53 = .ok (.invokespecial 31, 3) := by decide +kernel
theorem dX5_init_56 : decode cX5_init 56 = .ok (.putfield 32, 3) := by decide +kernel
theorem dX5_init_59 : decode cX5_init 59 = .ok (.aload_n 0, 1) := by decide +kernel
theorem dX5_init_60 : decode cX5_init 60 = .ok (.iconst 0, 1) := by decide +kernel
theorem dX5_init_61 : decode cX5_init 61 = .ok (.putfield 36, 3) := by decide +kernel
theorem dX5_init_64 : decode cX5_init 64 = .ok (.return_, 1) := by decide +kernel
set_option maxRecDepth 20000 in
theorem ggX5_current_X5_isWithin : GoodIn wsX5_current wsX5_isWithin := goodIn_r _ [11] (by decide +kernel) (by decide +kernel)
set_option maxRecDepth 20000 in
theorem gX5_current_X5_isWithin : GoodIn wsX5_current (va_wsS RX5 40 yX5_isWithin wsX5_isWithin) := goodIn_app (goodIn_of _ (by decide +kernel)) ggX5_current_X5_isWithin
set_option maxRecDepth 20000 in
theorem ggX5_current_X0_save : GoodIn wsX5_current wsX0_save := goodIn_r _ [16, 17, 18, 19, 20, 21, 15, 22, 23, 24, 25, 26, 27, 28, 29, 30, 31, 32, 33, 34, 35, 36, 37, 38, 39, 40, 41, 42, 43, 44, 45, 46, 47, 10, 48, 49, 50, 51, 52, 53, 54, 55, 56, 57, 58, 59, 60, 61, 62, 63, 64, 65, 66, 67, 68, 69, 70, 71, 72, 73, 74, 101, 102, 103, 87, 88, 89, 90, 91, 92, 93, 94, 95, 96, 97, 98, 99, 100, 104, 105, 106, 107, 108, 109, 110, 111] (by decide +kernel) (by decide +kernel)
set_option maxRecDepth 20000 in
theorem gX5_current_X0_save : GoodIn wsX5_current (wsV RX5 56 RX0 yX0_save wsX0_save) := goodIn_app (goodIn_of _ (by decide +kernel)) ggX5_current_X0_save
set_option maxRecDepth 20000 in
theorem ggX5_current_X5_at : GoodIn wsX5_current wsX5_at := goodIn_r _ [77] (by decide +kernel) (by decide +kernel)
set_option maxRecDepth 20000 in
theorem gX5_current_X5_at : GoodIn wsX5_current (va_wsS RX5 64 yX5_at wsX5_at) := goodIn_app (goodIn_of _ (by decide +kernel)) ggX5_current_X5_at
set_option maxRecDepth 20000 in
theorem ggX5_current_X5_put : GoodIn wsX5_current wsX5_put := goodIn_r _ [80] (by decide +kernel) (by decide +kernel)
set_option maxRecDepth 20000 in
theorem gX5_current_X5_put : GoodIn wsX5_current (va_wsS RX5 68 yX5_put wsX5_put) := goodIn_app (goodIn_of _ (by decide +kernel)) ggX5_current_X5_put
theorem dX5_current_0 : decode cX5_current 0 = .ok (.iload_n 1, 1) := by decide +kernel
theorem dX5_current_1 : decode cX5_current 1 = .ok (.iconst 0, 1) := by decide +kernel
theorem dX5_current_2 : decode cX5_current 2 = .ok (.bipush 23, 2) := by decide +kernel
theorem dX5_current_4 : decode cX5_current 4 = .ok (.invokestatic 40, 3) := by decide +kernel
theorem dX5_current_7 : decode cX5_current 7 = .ok (.ifCond .ne 13, 3) := by decide +kernel
theorem dX5_current_10 : decode cX5_current 10 = .ok (.new 44, 3) := by decide +kernel
theorem dX5_current_13 : decode cX5_current 13 = .ok (.dup, 1) := by decide +kernel
theorem dX5_current_14 : decode cX5_current 14 = .ok (.ldc 46, 2) := by decide +kernel
theorem dX5_current_16 : decode cX5_current 16 = .ok (.invokespecial 48, 3) := by decide +kernel
theorem dX5_current_19 : decode cX5_current 19 = .ok (.athrow, 1) := by decide +kernel
theorem dX5_current_20 : decode cX5_current 20 = .ok (.iload_n 2, 1) := by decide +kernel
theorem dX5_current_21 : decode cX5_current 21 = .ok (.iconst 0, 1) := by decide +kernel
theorem dX5_current_22 : decode cX5_current 22 = .ok (.bipush 40, 2) := by decide +kernel
theorem dX5_current_24 : decode cX5_current 24 = .ok (.invokestatic 40, 3) := by decide +kernel
theorem dX5_current_27 : decode cX5_current 27 = .ok (.ifCond .ne 13, 3) := by decide +kernel
theorem dX5_current_30 : decode cX5_current 30 = .ok (.new 51, 3) := by decide +kernel
theorem dX5_current_33 : decode cX5_current 33 = .ok (.dup, 1) := by decide +kernel
theorem dX5_current_34 : decode cX5_current 34 = .ok (.ldc 53, 2) := by decide +kernel
theorem dX5_current_36 : decode cX5_current 36 = .ok (.invokespecial 55, 3) := by decide +kernel
theorem dX5_current_39 : decode cX5_current 39 = .ok (.athrow, 1) := by decide +kernel
theorem dX5_current_40 : decode cX5_current 40 = .ok (.aload_n 0, 1) := by decide +kernel
theorem dX5_current_41 : decode cX5_current 41 = .ok (.getfield 25, 3) := by decide +kernel
theorem dX5_current_44 : decode cX5_current 44 = .ok (.aload_n 0, 1) := by decide +kernel
theorem dX5_current_45 : decode cX5_current 45 = .ok (.getfield 10, 3) := by decide +kernel
theorem dX5_current_48 : decode cX5_current 48 = .ok (.invokevirtual 56, 3) := by decide +kernel
theorem dX5_current_51 : decode cX5_current 51 = .ok (.aload_n 0, 1) := by decide +kernel
theorem dX5_current_52 : decode cX5_current 52 = .ok (.getfield 10, 3) := by decide +kernel
theorem dX5_current_55 : decode cX5_current 55 = .ok (.getfield 60, 3) := by decide +kernel
theorem dX5_current_58 : decode cX5_current 58 = .ok (.iload_n 1, 1) := by decide +kernel
theorem dX5_current_59 : decode cX5_current 59 = .ok (.invokestatic 64, 3) := by decide +kernel
theorem dX5_current_62 : decode cX5_current 62 = .ok (.istore_n 3, 1) := by decide +kernel
theorem dX5_current_63 : decode cX5_current 63 = .ok (.aload_n 0, 1) := by decide +kernel
theorem dX5_current_64 : decode cX5_current 64 = .ok (.getfield 10, 3) := by decide +kernel
theorem dX5_current_67 : decode cX5_current 67 = .ok (.getfield 60, 3) := by decide +kernel
theorem dX5_current_70 : decode cX5_current 70 = .ok (.iload_n 1, 1) := by decide +kernel
theorem dX5_current_71 : decode cX5_current 71 = .ok (.iload_n 2, 1) := by decide +kernel
theorem dX5_current_72 : decode cX5_current 72 = .ok (.invokestatic 68, 3) := by decide +kernel
theorem dX5_current_75 : decode cX5_current 75 = .ok (.iload_n 3, 1) := by decide +kernel
theorem dX5_current_76 : decode cX5_current 76 = .ok (.ireturn, 1) := by decide +kernel
set_option maxRecDepth 20000 in
theorem ggX5_arrive_X5_isWithin : GoodIn wsX5_arrive wsX5_isWithin := goodIn_r _ [12] (by decide +kernel) (by decide +kernel)
set_option maxRecDepth 20000 in
theorem gX5_arrive_X5_isWithin : GoodIn wsX5_arrive (va_wsS RX5 40 yX5_isWithin wsX5_isWithin) := goodIn_app (goodIn_of _ (by decide +kernel)) ggX5_arrive_X5_isWithin
set_option maxRecDepth 20000 in
theorem ggX5_arrive_X3_canArrive : GoodIn wsX5_arrive wsX3_canArrive := goodIn_r _ [17, 18, 19, 20, 16, 21, 22, 23, 24, 25, 26, 27, 28, 29, 30, 110, 111, 112, 113, 114, 115, 116, 117, 118, 119, 120, 121, 122, 123, 124, 125, 126, 127] (by decide +kernel) (by decide +kernel)
set_option maxRecDepth 20000 in
theorem gX5_arrive_X3_canArrive : GoodIn wsX5_arrive (wsV RX5 76 RX3 yX3_canArrive wsX3_canArrive) := goodIn_app (goodIn_of _ (by decide +kernel)) ggX5_arrive_X3_canArrive
set_option maxRecDepth 20000 in
theorem ggX5_arrive_X0_save : GoodIn wsX5_arrive wsX0_save := goodIn_r _ [35, 36, 37, 38, 39, 40, 34, 41, 42, 43, 44, 45, 46, 47, 48, 49, 16, 50, 51, 52, 22, 23, 53, 54, 55, 56, 57, 58, 59, 60, 61, 62, 63, 11, 64, 65, 66, 67, 68, 69, 70, 71, 72, 73, 74, 75, 27, 76, 30, 77, 29, 78, 79, 80, 81, 82, 83, 84, 85, 86, 87, 128, 129, 130, 110, 111, 112, 113, 114, 115, 116, 117, 118, 119, 120, 121, 122, 123, 124, 125, 126, 127, 131, 132, 133, 134] (by decide +kernel) (by decide +kernel)
set_option maxRecDepth 20000 in
theorem gX5_arrive_X0_save : GoodIn wsX5_arrive (wsV RX5 56 RX0 yX0_save wsX0_save) := goodIn_app (goodIn_of _ (by decide +kernel)) ggX5_arrive_X0_save
set_option maxRecDepth 20000 in
theorem ggX5_arrive_X3_letArrive : GoodIn wsX5_arrive wsX3_letArrive := goodIn_r _ [91, 59, 18, 19, 20, 16, 21, 22, 23, 92, 93, 94, 27, 95, 30, 29, 77, 78, 96, 25, 26, 28, 97, 11, 98, 110, 111, 112, 113, 114, 115, 116, 117, 118, 119, 120, 121, 122, 123, 124, 125, 126, 127] (by decide +kernel) (by decide +kernel)
set_option maxRecDepth 20000 in
theorem gX5_arrive_X3_letArrive : GoodIn wsX5_arrive (wsV RX5 85 RX3 yX3_letArrive wsX3_letArrive) := goodIn_app (goodIn_of _ (by decide +kernel)) ggX5_arrive_X3_letArrive
set_option maxRecDepth 20000 in
theorem ggX5_arrive_X3_lineAtBank : GoodIn wsX5_arrive wsX3_lineAtBank := goodIn_r _ [21, 22, 23, 110, 111, 112, 113, 114, 115, 116, 117, 118, 119, 120, 121, 122, 123] (by decide +kernel) (by decide +kernel)
set_option maxRecDepth 20000 in
theorem gX5_arrive_X3_lineAtBank : GoodIn wsX5_arrive (wsV RX5 89 RX3 yX3_lineAtBank wsX3_lineAtBank) := goodIn_app (goodIn_of _ (by decide +kernel)) ggX5_arrive_X3_lineAtBank
set_option maxRecDepth 20000 in
theorem ggX5_arrive_X1_size : GoodIn wsX5_arrive wsX1_size := goodIn_r _ [103, 29, 124, 125, 126, 127] (by decide +kernel) (by decide +kernel)
set_option maxRecDepth 20000 in
theorem gX5_arrive_X1_size : GoodIn wsX5_arrive (wsV RX5 93 RX1 yX1_size wsX1_size) := goodIn_app (goodIn_of _ (by decide +kernel)) ggX5_arrive_X1_size
theorem dX5_arrive_0 : decode cX5_arrive 0 = .ok (.iload_n 1, 1) := by decide +kernel
theorem dX5_arrive_1 : decode cX5_arrive 1 = .ok (.iconst 0, 1) := by decide +kernel
theorem dX5_arrive_2 : decode cX5_arrive 2 = .ok (.iconst 1, 1) := by decide +kernel
theorem dX5_arrive_3 : decode cX5_arrive 3 = .ok (.invokestatic 40, 3) := by decide +kernel
theorem dX5_arrive_6 : decode cX5_arrive 6 = .ok (.ifCond .ne 13, 3) := by decide +kernel
theorem dX5_arrive_9 : decode cX5_arrive 9 = .ok (.new 44, 3) := by decide +kernel
theorem dX5_arrive_12 : decode cX5_arrive 12 = .ok (.dup, 1) := by decide +kernel
theorem dX5_arrive_13 : decode cX5_arrive 13 = .ok (.ldc 72, 2) := by decide +kernel
theorem dX5_arrive_15 : decode cX5_arrive 15 = .ok (.invokespecial 48, 3) := by decide +kernel
theorem dX5_arrive_18 : decode cX5_arrive 18 = .ok (.athrow, 1) := by decide +kernel
theorem dX5_arrive_19 : decode cX5_arrive 19 = .ok (.iload_n 2, 1) := by decide +kernel
theorem dX5_arrive_20 : decode cX5_arrive 20 = .ok (.iconst 1, 1) := by decide +kernel
theorem dX5_arrive_21 : decode cX5_arrive 21 = .ok (.bipush 20, 2) := by decide +kernel
theorem dX5_arrive_23 : decode cX5_arrive 23 = .ok (.invokestatic 40, 3) := by decide +kernel
theorem dX5_arrive_26 : decode cX5_arrive 26 = .ok (.ifCond .ne 13, 3) := by decide +kernel
theorem dX5_arrive_29 : decode cX5_arrive 29 = .ok (.new 51, 3) := by decide +kernel
theorem dX5_arrive_32 : decode cX5_arrive 32 = .ok (.dup, 1) := by decide +kernel
theorem dX5_arrive_33 : decode cX5_arrive 33 = .ok (.ldc 74, 2) := by decide +kernel
theorem dX5_arrive_35 : decode cX5_arrive 35 = .ok (.invokespecial 55, 3) := by decide +kernel
theorem dX5_arrive_38 : decode cX5_arrive 38 = .ok (.athrow, 1) := by decide +kernel
theorem dX5_arrive_39 : decode cX5_arrive 39 = .ok (.aload_n 0, 1) := by decide +kernel
theorem dX5_arrive_40 : decode cX5_arrive 40 = .ok (.getfield 10, 3) := by decide +kernel
theorem dX5_arrive_43 : decode cX5_arrive 43 = .ok (.iload_n 1, 1) := by decide +kernel
theorem dX5_arrive_44 : decode cX5_arrive 44 = .ok (.invokevirtual 76, 3) := by decide +kernel
theorem dX5_arrive_47 : decode cX5_arrive 47 = .ok (.ifCond .ne 13, 3) := by decide +kernel
theorem dX5_arrive_50 : decode cX5_arrive 50 = .ok (.new 80, 3) := by decide +kernel
theorem dX5_arrive_53 : decode cX5_arrive 53 = .ok (.dup, 1) := by decide +kernel
theorem dX5_arrive_54 : decode cX5_arrive 54 = .ok (.ldc 82, 2) := by decide +kernel
theorem dX5_arrive_56 : decode cX5_arrive 56 = .ok (.invokespecial 84, 3) := by decide +kernel
theorem dX5_arrive_59 : decode cX5_arrive 59 = .ok (.athrow, 1) := by decide +kernel
theorem dX5_arrive_60 : decode cX5_arrive 60 = .ok (.aload_n 0, 1) := by decide +kernel
theorem dX5_arrive_61 : decode cX5_arrive 61 = .ok (.getfield 25, 3) := by decide +kernel
theorem dX5_arrive_64 : decode cX5_arrive 64 = .ok (.aload_n 0, 1) := by decide +kernel
theorem dX5_arrive_65 : decode cX5_arrive 65 = .ok (.getfield 10, 3) := by decide +kernel
theorem dX5_arrive_68 : decode cX5_arrive 68 = .ok (.invokevirtual 56, 3) := by decide +kernel
theorem dX5_arrive_71 : decode cX5_arrive 71 = .ok (.aload_n 0, 1) := by decide +kernel
theorem dX5_arrive_72 : decode cX5_arrive 72 = .ok (.getfield 10, 3) := by decide +kernel
theorem dX5_arrive_75 : decode cX5_arrive 75 = .ok (.iload_n 1, 1) := by decide +kernel
theorem dX5_arrive_76 : decode cX5_arrive 76 = .ok (.iload_n 2, 1) := by decide +kernel
theorem dX5_arrive_77 : decode cX5_arrive 77 = .ok (.invokevirtual 85, 3) := by decide +kernel
theorem dX5_arrive_80 : decode cX5_arrive 80 = .ok (.aload_n 0, 1) := by decide +kernel
theorem dX5_arrive_81 : decode cX5_arrive 81 = .ok (.getfield 10, 3) := by decide +kernel
theorem dX5_arrive_84 : decode cX5_arrive 84 = .ok (.iload_n 1, 1) := by decide +kernel
theorem dX5_arrive_85 : decode cX5_arrive 85 = .ok (.invokevirtual 89, 3) := by decide +kernel
theorem dX5_arrive_88 : decode cX5_arrive 88 = .ok (.invokevirtual 93, 3) := by decide +kernel
theorem dX5_arrive_91 : decode cX5_arrive 91 = .ok (.ireturn, 1) := by decide +kernel
set_option maxRecDepth 20000 in
theorem ggX5_load_X5_isWithin : GoodIn wsX5_load wsX5_isWithin := goodIn_r _ [10] (by decide +kernel) (by decide +kernel)
set_option maxRecDepth 20000 in
theorem gX5_load_X5_isWithin : GoodIn wsX5_load (va_wsS RX5 40 yX5_isWithin wsX5_isWithin) := goodIn_app (goodIn_of _ (by decide +kernel)) ggX5_load_X5_isWithin
set_option maxRecDepth 20000 in
theorem ggX5_load_X3_canDriveOn : GoodIn wsX5_load wsX3_canDriveOn := goodIn_r _ [15, 16, 17, 18, 19, 14, 20, 21, 22, 23, 24, 25, 26, 27, 28, 29, 30, 31, 32, 33, 34, 35, 36, 37, 38, 39, 121, 122, 123, 124, 125, 126, 127, 128, 129, 130, 131, 132, 133, 134, 135, 136, 137, 138] (by decide +kernel) (by decide +kernel)
set_option maxRecDepth 20000 in
theorem gX5_load_X3_canDriveOn : GoodIn wsX5_load (wsV RX5 101 RX3 yX3_canDriveOn wsX3_canDriveOn) := goodIn_app (goodIn_of _ (by decide +kernel)) ggX5_load_X3_canDriveOn
set_option maxRecDepth 20000 in
theorem ggX5_load_X0_save : GoodIn wsX5_load wsX0_save := goodIn_r _ [44, 45, 46, 47, 48, 49, 43, 50, 51, 52, 53, 54, 55, 56, 57, 58, 14, 59, 60, 61, 21, 22, 33, 34, 62, 63, 16, 64, 65, 66, 67, 68, 69, 9, 70, 71, 72, 73, 74, 75, 76, 77, 78, 79, 80, 81, 26, 82, 39, 83, 28, 84, 85, 86, 87, 88, 89, 90, 91, 92, 93, 139, 140, 141, 121, 122, 123, 124, 125, 126, 127, 128, 129, 130, 131, 132, 133, 134, 135, 136, 137, 138, 142, 143, 144, 145] (by decide +kernel) (by decide +kernel)
set_option maxRecDepth 20000 in
theorem gX5_load_X0_save : GoodIn wsX5_load (wsV RX5 56 RX0 yX0_save wsX0_save) := goodIn_app (goodIn_of _ (by decide +kernel)) ggX5_load_X0_save
set_option maxRecDepth 20000 in
theorem ggX5_load_X3_driveOn : GoodIn wsX5_load wsX3_driveOn := goodIn_r _ [97, 16, 17, 18, 19, 14, 20, 21, 22, 98, 99, 100, 26, 101, 28, 39, 102, 9, 103, 104, 105, 106, 107, 84, 83, 108, 109, 29, 30, 31, 32, 33, 34, 110, 111, 112, 113, 114, 36, 37, 38, 121, 122, 123, 124, 125, 126, 127, 128, 129, 130, 131, 132, 133, 134, 135, 136, 137, 138] (by decide +kernel) (by decide +kernel)
set_option maxRecDepth 20000 in
theorem gX5_load_X3_driveOn : GoodIn wsX5_load (wsV RX5 106 RX3 yX3_driveOn wsX3_driveOn) := goodIn_app (goodIn_of _ (by decide +kernel)) ggX5_load_X3_driveOn
theorem dX5_load_0 : decode cX5_load 0 = .ok (.iload_n 1, 1) := by decide +kernel
theorem dX5_load_1 : decode cX5_load 1 = .ok (.iconst 0, 1) := by decide +kernel
theorem dX5_load_2 : decode cX5_load 2 = .ok (.iconst 1, 1) := by decide +kernel
theorem dX5_load_3 : decode cX5_load 3 = .ok (.invokestatic 40, 3) := by decide +kernel
theorem dX5_load_6 : decode cX5_load 6 = .ok (.ifCond .ne 13, 3) := by decide +kernel
theorem dX5_load_9 : decode cX5_load 9 = .ok (.new 44, 3) := by decide +kernel
theorem dX5_load_12 : decode cX5_load 12 = .ok (.dup, 1) := by decide +kernel
theorem dX5_load_13 : decode cX5_load 13 = .ok (.ldc 99, 2) := by decide +kernel
theorem dX5_load_15 : decode cX5_load 15 = .ok (.invokespecial 48, 3) := by decide +kernel
theorem dX5_load_18 : decode cX5_load 18 = .ok (.athrow, 1) := by decide +kernel
theorem dX5_load_19 : decode cX5_load 19 = .ok (.aload_n 0, 1) := by decide +kernel
theorem dX5_load_20 : decode cX5_load 20 = .ok (.getfield 10, 3) := by decide +kernel
theorem dX5_load_23 : decode cX5_load 23 = .ok (.iload_n 1, 1) := by decide +kernel
theorem dX5_load_24 : decode cX5_load 24 = .ok (.invokevirtual 101, 3) := by decide +kernel
theorem dX5_load_27 : decode cX5_load 27 = .ok (.ifCond .ne 13, 3) := by decide +kernel
theorem dX5_load_30 : decode cX5_load 30 = .ok (.new 80, 3) := by decide +kernel
theorem dX5_load_33 : decode cX5_load 33 = .ok (.dup, 1) := by decide +kernel
theorem dX5_load_34 : decode cX5_load 34 = .ok (.ldc 104, 2) := by decide +kernel
theorem dX5_load_36 : decode cX5_load 36 = .ok (.invokespecial 84, 3) := by decide +kernel
theorem dX5_load_39 : decode cX5_load 39 = .ok (.athrow, 1) := by decide +kernel
theorem dX5_load_40 : decode cX5_load 40 = .ok (.aload_n 0, 1) := by decide +kernel
theorem dX5_load_41 : decode cX5_load 41 = .ok (.getfield 25, 3) := by decide +kernel
theorem dX5_load_44 : decode cX5_load 44 = .ok (.aload_n 0, 1) := by decide +kernel
theorem dX5_load_45 : decode cX5_load 45 = .ok (.getfield 10, 3) := by decide +kernel
theorem dX5_load_48 : decode cX5_load 48 = .ok (.invokevirtual 56, 3) := by decide +kernel
theorem dX5_load_51 : decode cX5_load 51 = .ok (.aload_n 0, 1) := by decide +kernel
theorem dX5_load_52 : decode cX5_load 52 = .ok (.getfield 10, 3) := by decide +kernel
theorem dX5_load_55 : decode cX5_load 55 = .ok (.iload_n 1, 1) := by decide +kernel
theorem dX5_load_56 : decode cX5_load 56 = .ok (.invokevirtual 106, 3) := by decide +kernel
theorem dX5_load_59 : decode cX5_load 59 = .ok (.ireturn, 1) := by decide +kernel
set_option maxRecDepth 20000 in
theorem ggX5_unload_X0_save : GoodIn wsX5_unload wsX0_save := goodIn_r _ [7, 8, 9, 10, 11, 12, 6, 13, 14, 15, 16, 17, 18, 19, 20, 21, 22, 23, 24, 25, 26, 27, 28, 29, 30, 31, 32, 33, 34, 35, 36, 37, 38, 39, 40, 41, 42, 43, 44, 45, 46, 47, 48, 49, 50, 51, 52, 53, 54, 55, 56, 57, 58, 59, 60, 61, 62, 63, 64, 65, 66, 95, 96, 97, 98, 99, 100, 101, 102, 103, 104, 105, 106, 107, 108, 109, 110, 111, 112, 113, 114, 115, 116, 117, 118, 119] (by decide +kernel) (by decide +kernel)
set_option maxRecDepth 20000 in
theorem gX5_unload_X0_save : GoodIn wsX5_unload (wsV RX5 56 RX0 yX0_save wsX0_save) := goodIn_app (goodIn_of _ (by decide +kernel)) ggX5_unload_X0_save
set_option maxRecDepth 20000 in
theorem ggX5_unload_X3_driveOff : GoodIn wsX5_unload wsX3_driveOff := goodIn_r _ [70, 28, 32, 29, 35, 36, 71, 72, 73, 52, 74, 56, 55, 75, 39, 76, 77, 78, 79, 22, 80, 81, 82, 83, 84, 85, 86, 87, 88, 57, 98, 99, 100, 101, 102, 103, 104, 105, 106, 107, 108, 109, 110, 111, 112, 113, 114, 115] (by decide +kernel) (by decide +kernel)
set_option maxRecDepth 20000 in
theorem gX5_unload_X3_driveOff : GoodIn wsX5_unload (wsV RX5 110 RX3 yX3_driveOff wsX3_driveOff) := goodIn_app (goodIn_of _ (by decide +kernel)) ggX5_unload_X3_driveOff
theorem dX5_unload_0 : decode cX5_unload 0 = .ok (.aload_n 0, 1) := by decide +kernel
theorem dX5_unload_1 : decode cX5_unload 1 = .ok (.getfield 25, 3) := by decide +kernel
theorem dX5_unload_4 : decode cX5_unload 4 = .ok (.aload_n 0, 1) := by decide +kernel
theorem dX5_unload_5 : decode cX5_unload 5 = .ok (.getfield 10, 3) := by decide +kernel
theorem dX5_unload_8 : decode cX5_unload 8 = .ok (.invokevirtual 56, 3) := by decide +kernel
theorem dX5_unload_11 : decode cX5_unload 11 = .ok (.aload_n 0, 1) := by decide +kernel
theorem dX5_unload_12 : decode cX5_unload 12 = .ok (.getfield 10, 3) := by decide +kernel
theorem dX5_unload_15 : decode cX5_unload 15 = .ok (.invokevirtual 110, 3) := by decide +kernel
theorem dX5_unload_18 : decode cX5_unload 18 = .ok (.ireturn, 1) := by decide +kernel
set_option maxRecDepth 20000 in
theorem ggX5_cross_X3_reason : GoodIn wsX5_cross wsX3_reason := goodIn_r _ [9, 10, 11, 12, 13, 14, 15, 8, 16, 17, 18, 19, 20, 21, 22, 23, 24, 25, 26, 27, 28, 29, 30, 31, 32, 33, 34, 35, 36, 37, 38, 39, 40, 41, 42, 43, 44, 45, 46, 47, 48, 49, 50, 51, 52, 53, 54, 55, 56, 57, 58, 59, 60, 61, 62, 63, 64, 65, 66, 136, 137, 138, 139, 140, 141, 142, 143, 144, 145, 146, 147, 148, 149, 150, 151, 152, 153, 154, 155, 156, 157] (by decide +kernel) (by decide +kernel)
set_option maxRecDepth 20000 in
theorem gX5_cross_X3_reason : GoodIn wsX5_cross (wsV RX5 113 RX3 yX3_reason wsX3_reason) := goodIn_app (goodIn_of _ (by decide +kernel)) ggX5_cross_X3_reason
set_option maxRecDepth 20000 in
theorem ggX5_cross_X0_save : GoodIn wsX5_cross wsX0_save := goodIn_r _ [71, 72, 73, 74, 75, 76, 70, 77, 78, 79, 39, 40, 41, 80, 81, 82, 8, 83, 36, 10, 84, 85, 17, 18, 11, 37, 86, 87, 88, 89, 90, 91, 92, 30, 93, 94, 56, 21, 57, 95, 96, 97, 98, 99, 100, 101, 26, 102, 103, 104, 105, 28, 106, 107, 108, 49, 109, 66, 58, 110, 111, 158, 159, 160, 136, 137, 138, 139, 140, 141, 142, 143, 144, 145, 146, 147, 148, 149, 154, 155, 156, 157, 150, 151, 152, 153] (by decide +kernel) (by decide +kernel)
set_option maxRecDepth 20000 in
theorem gX5_cross_X0_save : GoodIn wsX5_cross (wsV RX5 56 RX0 yX0_save wsX0_save) := goodIn_app (goodIn_of _ (by decide +kernel)) ggX5_cross_X0_save
set_option maxRecDepth 20000 in
theorem ggX5_cross_X3_crossRiver : GoodIn wsX5_cross wsX3_crossRiver := goodIn_r _ [115, 11, 10, 12, 86, 87, 32, 33, 34, 8, 35, 36, 37, 38, 39, 40, 41, 29, 30, 31, 42, 43, 44, 45, 17, 18, 23, 24, 25, 26, 27, 28, 13, 14, 15, 16, 19, 20, 21, 22, 116, 117, 118, 49, 119, 110, 66, 59, 60, 61, 55, 56, 57, 58, 51, 52, 53, 54, 120, 121, 122, 123, 124, 125, 91, 84, 85, 126, 127, 128, 129, 105, 136, 137, 138, 139, 140, 141, 142, 143, 144, 145, 146, 147, 148, 149, 150, 151, 152, 153, 154, 155, 156, 157] (by decide +kernel) (by decide +kernel)
set_option maxRecDepth 20000 in
theorem gX5_cross_X3_crossRiver : GoodIn wsX5_cross (wsV RX5 118 RX3 yX3_crossRiver wsX3_crossRiver) := goodIn_app (goodIn_of _ (by decide +kernel)) ggX5_cross_X3_crossRiver
theorem dX5_cross_0 : decode cX5_cross 0 = .ok (.aload_n 0, 1) := by decide +kernel
theorem dX5_cross_1 : decode cX5_cross 1 = .ok (.getfield 10, 3) := by decide +kernel
theorem dX5_cross_4 : decode cX5_cross 4 = .ok (.invokevirtual 113, 3) := by decide +kernel
theorem dX5_cross_7 : decode cX5_cross 7 = .ok (.ifCond .eq 13, 3) := by decide +kernel
theorem dX5_cross_10 : decode cX5_cross 10 = .ok (.new 80, 3) := by decide +kernel
theorem dX5_cross_13 : decode cX5_cross 13 = .ok (.dup, 1) := by decide +kernel
theorem dX5_cross_14 : decode cX5_cross 14 = .ok (.ldc 116, 2) := by decide +kernel
theorem dX5_cross_16 : decode cX5_cross 16 = .ok (.invokespecial 84, 3) := by decide +kernel
theorem dX5_cross_19 : decode cX5_cross 19 = .ok (.athrow, 1) := by decide +kernel
theorem dX5_cross_20 : decode cX5_cross 20 = .ok (.aload_n 0, 1) := by decide +kernel
theorem dX5_cross_21 : decode cX5_cross 21 = .ok (.getfield 25, 3) := by decide +kernel
theorem dX5_cross_24 : decode cX5_cross 24 = .ok (.aload_n 0, 1) := by decide +kernel
theorem dX5_cross_25 : decode cX5_cross 25 = .ok (.getfield 10, 3) := by decide +kernel
theorem dX5_cross_28 : decode cX5_cross 28 = .ok (.invokevirtual 56, 3) := by decide +kernel
theorem dX5_cross_31 : decode cX5_cross 31 = .ok (.aload_n 0, 1) := by decide +kernel
theorem dX5_cross_32 : decode cX5_cross 32 = .ok (.getfield 10, 3) := by decide +kernel
theorem dX5_cross_35 : decode cX5_cross 35 = .ok (.invokevirtual 118, 3) := by decide +kernel
theorem dX5_cross_38 : decode cX5_cross 38 = .ok (.ireturn, 1) := by decide +kernel
set_option maxRecDepth 20000 in
theorem ggX5_pass_X5_isWithin : GoodIn wsX5_pass wsX5_isWithin := goodIn_r _ [9] (by decide +kernel) (by decide +kernel)
set_option maxRecDepth 20000 in
theorem gX5_pass_X5_isWithin : GoodIn wsX5_pass (va_wsS RX5 40 yX5_isWithin wsX5_isWithin) := goodIn_app (goodIn_of _ (by decide +kernel)) ggX5_pass_X5_isWithin
set_option maxRecDepth 20000 in
theorem ggX5_pass_X0_save : GoodIn wsX5_pass wsX0_save := goodIn_r _ [14, 15, 16, 17, 18, 19, 13, 20, 21, 22, 23, 24, 25, 26, 27, 28, 29, 30, 31, 32, 33, 34, 35, 36, 37, 38, 39, 40, 41, 42, 43, 44, 45, 8, 46, 47, 48, 49, 50, 51, 52, 53, 54, 55, 56, 57, 58, 59, 60, 61, 62, 63, 64, 65, 66, 67, 68, 69, 70, 71, 72, 101, 102, 103, 87, 88, 89, 90, 91, 92, 93, 94, 95, 96, 97, 98, 99, 100, 104, 105, 106, 107, 108, 109, 110, 111] (by decide +kernel) (by decide +kernel)
set_option maxRecDepth 20000 in
theorem gX5_pass_X0_save : GoodIn wsX5_pass (wsV RX5 56 RX0 yX0_save wsX0_save) := goodIn_app (goodIn_of _ (by decide +kernel)) ggX5_pass_X0_save
set_option maxRecDepth 20000 in
theorem ggX5_pass_X3_letPass : GoodIn wsX5_pass wsX3_letPass := goodIn_r _ [76, 38, 44, 33, 34, 77, 78, 79, 58, 80, 62, 87, 88, 89, 90, 91, 92, 93, 94, 95, 96, 97, 98, 99, 100, 104, 105, 106, 107] (by decide +kernel) (by decide +kernel)
set_option maxRecDepth 20000 in
theorem gX5_pass_X3_letPass : GoodIn wsX5_pass (wsV RX5 123 RX3 yX3_letPass wsX3_letPass) := goodIn_app (goodIn_of _ (by decide +kernel)) ggX5_pass_X3_letPass
theorem dX5_pass_0 : decode cX5_pass 0 = .ok (.iload_n 1, 1) := by decide +kernel
theorem dX5_pass_1 : decode cX5_pass 1 = .ok (.iconst 1, 1) := by decide +kernel
theorem dX5_pass_2 : decode cX5_pass 2 = .ok (.bipush 100, 2) := by decide +kernel
theorem dX5_pass_4 : decode cX5_pass 4 = .ok (.invokestatic 40, 3) := by decide +kernel
theorem dX5_pass_7 : decode cX5_pass 7 = .ok (.ifCond .ne 13, 3) := by decide +kernel
theorem dX5_pass_10 : decode cX5_pass 10 = .ok (.new 51, 3) := by decide +kernel
theorem dX5_pass_13 : decode cX5_pass 13 = .ok (.dup, 1) := by decide +kernel
theorem dX5_pass_14 : decode cX5_pass 14 = .ok (.ldc 121, 2) := by decide +kernel
theorem dX5_pass_16 : decode cX5_pass 16 = .ok (.invokespecial 55, 3) := by decide +kernel
theorem dX5_pass_19 : decode cX5_pass 19 = .ok (.athrow, 1) := by decide +kernel
theorem dX5_pass_20 : decode cX5_pass 20 = .ok (.aload_n 0, 1) := by decide +kernel
theorem dX5_pass_21 : decode cX5_pass 21 = .ok (.getfield 25, 3) := by decide +kernel
theorem dX5_pass_24 : decode cX5_pass 24 = .ok (.aload_n 0, 1) := by decide +kernel
theorem dX5_pass_25 : decode cX5_pass 25 = .ok (.getfield 10, 3) := by decide +kernel
theorem dX5_pass_28 : decode cX5_pass 28 = .ok (.invokevirtual 56, 3) := by decide +kernel
theorem dX5_pass_31 : decode cX5_pass 31 = .ok (.aload_n 0, 1) := by decide +kernel
theorem dX5_pass_32 : decode cX5_pass 32 = .ok (.getfield 10, 3) := by decide +kernel
theorem dX5_pass_35 : decode cX5_pass 35 = .ok (.iload_n 1, 1) := by decide +kernel
theorem dX5_pass_36 : decode cX5_pass 36 = .ok (.invokevirtual 123, 3) := by decide +kernel
theorem dX5_pass_39 : decode cX5_pass 39 = .ok (.aload_n 0, 1) := by decide +kernel
theorem dX5_pass_40 : decode cX5_pass 40 = .ok (.getfield 10, 3) := by decide +kernel
theorem dX5_pass_43 : decode cX5_pass 43 = .ok (.getfield 127, 3) := by decide +kernel
theorem dX5_pass_46 : decode cX5_pass 46 = .ok (.ireturn, 1) := by decide +kernel
set_option maxRecDepth 20000 in
theorem ggX5_draw_X5_isWithin : GoodIn wsX5_draw wsX5_isWithin := goodIn_r _ [12] (by decide +kernel) (by decide +kernel)
set_option maxRecDepth 20000 in
theorem gX5_draw_X5_isWithin : GoodIn wsX5_draw (va_wsS RX5 40 yX5_isWithin wsX5_isWithin) := goodIn_app (goodIn_of _ (by decide +kernel)) ggX5_draw_X5_isWithin
set_option maxRecDepth 20000 in
theorem ggX5_draw_X3_canDrawThrough : GoodIn wsX5_draw wsX3_canDrawThrough := goodIn_r _ [17, 18, 19, 107, 108, 109, 110, 111, 112, 113, 114, 115, 116, 117, 118, 119, 120, 121, 122, 123, 124] (by decide +kernel) (by decide +kernel)
set_option maxRecDepth 20000 in
theorem gX5_draw_X3_canDrawThrough : GoodIn wsX5_draw (wsV RX5 133 RX3 yX3_canDrawThrough wsX3_canDrawThrough) := goodIn_app (goodIn_of _ (by decide +kernel)) ggX5_draw_X3_canDrawThrough
set_option maxRecDepth 20000 in
theorem ggX5_draw_X0_save : GoodIn wsX5_draw wsX0_save := goodIn_r _ [24, 25, 26, 27, 28, 29, 23, 30, 31, 32, 33, 34, 35, 36, 37, 38, 16, 39, 40, 41, 42, 43, 44, 45, 18, 46, 47, 48, 49, 50, 51, 52, 53, 11, 54, 55, 56, 57, 58, 59, 60, 61, 62, 63, 64, 65, 66, 67, 68, 69, 70, 71, 72, 73, 74, 75, 76, 77, 78, 79, 80, 125, 126, 127, 107, 108, 109, 110, 111, 112, 113, 114, 115, 116, 117, 118, 119, 120, 128, 129, 130, 131, 121, 122, 123, 124] (by decide +kernel) (by decide +kernel)
set_option maxRecDepth 20000 in
theorem gX5_draw_X0_save : GoodIn wsX5_draw (wsV RX5 56 RX0 yX0_save wsX0_save) := goodIn_app (goodIn_of _ (by decide +kernel)) ggX5_draw_X0_save
set_option maxRecDepth 20000 in
theorem ggX5_draw_X3_drawThrough : GoodIn wsX5_draw wsX3_drawThrough := goodIn_r _ [84, 18, 85, 86, 87, 75, 88, 77, 80, 78, 79, 89, 11, 90, 91, 92, 93, 94, 95, 16, 96, 46, 52, 42, 43, 97, 98, 99, 66, 100, 70, 107, 108, 109, 110, 111, 112, 113, 114, 115, 116, 117, 118, 119, 120, 121, 122, 123, 124, 128, 129, 130, 131] (by decide +kernel) (by decide +kernel)
set_option maxRecDepth 20000 in
theorem gX5_draw_X3_drawThrough : GoodIn wsX5_draw (wsV RX5 138 RX3 yX3_drawThrough wsX3_drawThrough) := goodIn_app (goodIn_of _ (by decide +kernel)) ggX5_draw_X3_drawThrough
theorem dX5_draw_0 : decode cX5_draw 0 = .ok (.iload_n 1, 1) := by decide +kernel
theorem dX5_draw_1 : decode cX5_draw 1 = .ok (.iconst 1, 1) := by decide +kernel
theorem dX5_draw_2 : decode cX5_draw 2 = .ok (.iconst 5, 1) := by decide +kernel
theorem dX5_draw_3 : decode cX5_draw 3 = .ok (.invokestatic 40, 3) := by decide +kernel
theorem dX5_draw_6 : decode cX5_draw 6 = .ok (.ifCond .ne 13, 3) := by decide +kernel
theorem dX5_draw_9 : decode cX5_draw 9 = .ok (.new 51, 3) := by decide +kernel
theorem dX5_draw_12 : decode cX5_draw 12 = .ok (.dup, 1) := by decide +kernel
theorem dX5_draw_13 : decode cX5_draw 13 = .ok (.ldc 131, 2) := by decide +kernel
theorem dX5_draw_15 : decode cX5_draw 15 = .ok (.invokespecial 55, 3) := by decide +kernel
theorem dX5_draw_18 : decode cX5_draw 18 = .ok (.athrow, 1) := by decide +kernel
theorem dX5_draw_19 : decode cX5_draw 19 = .ok (.aload_n 0, 1) := by decide +kernel
theorem dX5_draw_20 : decode cX5_draw 20 = .ok (.getfield 10, 3) := by decide +kernel
theorem dX5_draw_23 : decode cX5_draw 23 = .ok (.iload_n 1, 1) := by decide +kernel
theorem dX5_draw_24 : decode cX5_draw 24 = .ok (.invokevirtual 133, 3) := by decide +kernel
theorem dX5_draw_27 : decode cX5_draw 27 = .ok (.ifCond .ne 13, 3) := by decide +kernel
theorem dX5_draw_30 : decode cX5_draw 30 = .ok (.new 80, 3) := by decide +kernel
theorem dX5_draw_33 : decode cX5_draw 33 = .ok (.dup, 1) := by decide +kernel
theorem dX5_draw_34 : decode cX5_draw 34 = .ok (.ldc 136, 2) := by decide +kernel
theorem dX5_draw_36 : decode cX5_draw 36 = .ok (.invokespecial 84, 3) := by decide +kernel
theorem dX5_draw_39 : decode cX5_draw 39 = .ok (.athrow, 1) := by decide +kernel
theorem dX5_draw_40 : decode cX5_draw 40 = .ok (.aload_n 0, 1) := by decide +kernel
theorem dX5_draw_41 : decode cX5_draw 41 = .ok (.getfield 25, 3) := by decide +kernel
theorem dX5_draw_44 : decode cX5_draw 44 = .ok (.aload_n 0, 1) := by decide +kernel
theorem dX5_draw_45 : decode cX5_draw 45 = .ok (.getfield 10, 3) := by decide +kernel
theorem dX5_draw_48 : decode cX5_draw 48 = .ok (.invokevirtual 56, 3) := by decide +kernel
theorem dX5_draw_51 : decode cX5_draw 51 = .ok (.aload_n 0, 1) := by decide +kernel
theorem dX5_draw_52 : decode cX5_draw 52 = .ok (.getfield 10, 3) := by decide +kernel
theorem dX5_draw_55 : decode cX5_draw 55 = .ok (.iload_n 1, 1) := by decide +kernel
theorem dX5_draw_56 : decode cX5_draw 56 = .ok (.invokevirtual 138, 3) := by decide +kernel
theorem dX5_draw_59 : decode cX5_draw 59 = .ok (.aload_n 0, 1) := by decide +kernel
theorem dX5_draw_60 : decode cX5_draw 60 = .ok (.getfield 10, 3) := by decide +kernel
theorem dX5_draw_63 : decode cX5_draw 63 = .ok (.getfield 141, 3) := by decide +kernel
theorem dX5_draw_66 : decode cX5_draw 66 = .ok (.getfield 145, 3) := by decide +kernel
theorem dX5_draw_69 : decode cX5_draw 69 = .ok (.ireturn, 1) := by decide +kernel
set_option maxRecDepth 20000 in
theorem ggX5_set_X5_isWithin : GoodIn wsX5_set wsX5_isWithin := goodIn_r _ [13] (by decide +kernel) (by decide +kernel)
set_option maxRecDepth 20000 in
theorem gX5_set_X5_isWithin : GoodIn wsX5_set (va_wsS RX5 40 yX5_isWithin wsX5_isWithin) := goodIn_app (goodIn_of _ (by decide +kernel)) ggX5_set_X5_isWithin
set_option maxRecDepth 20000 in
theorem ggX5_set_X5_at : GoodIn wsX5_set wsX5_at := goodIn_r _ [16] (by decide +kernel) (by decide +kernel)
set_option maxRecDepth 20000 in
theorem gX5_set_X5_at : GoodIn wsX5_set (va_wsS RX5 64 yX5_at wsX5_at) := goodIn_app (goodIn_of _ (by decide +kernel)) ggX5_set_X5_at
set_option maxRecDepth 20000 in
theorem ggX5_set_X0_save : GoodIn wsX5_set wsX0_save := goodIn_r _ [21, 22, 23, 24, 25, 26, 20, 27, 28, 29, 30, 31, 32, 33, 34, 35, 36, 37, 38, 39, 40, 41, 42, 43, 44, 45, 46, 47, 48, 49, 50, 51, 52, 12, 53, 54, 55, 56, 57, 58, 59, 60, 61, 62, 63, 64, 65, 66, 67, 68, 69, 70, 71, 72, 73, 74, 75, 76, 77, 78, 79, 103, 104, 105, 89, 90, 91, 92, 93, 94, 95, 96, 97, 98, 99, 100, 101, 102, 106, 107, 108, 109, 110, 111, 112, 113] (by decide +kernel) (by decide +kernel)
set_option maxRecDepth 20000 in
theorem gX5_set_X0_save : GoodIn wsX5_set (wsV RX5 56 RX0 yX0_save wsX0_save) := goodIn_app (goodIn_of _ (by decide +kernel)) ggX5_set_X0_save
set_option maxRecDepth 20000 in
theorem ggX5_set_X5_put : GoodIn wsX5_set wsX5_put := goodIn_r _ [82] (by decide +kernel) (by decide +kernel)
set_option maxRecDepth 20000 in
theorem gX5_set_X5_put : GoodIn wsX5_set (va_wsS RX5 68 yX5_put wsX5_put) := goodIn_app (goodIn_of _ (by decide +kernel)) ggX5_set_X5_put
theorem dX5_set_0 : decode cX5_set 0 = .ok (.iload_n 1, 1) := by decide +kernel
theorem dX5_set_1 : decode cX5_set 1 = .ok (.iconst 0, 1) := by decide +kernel
theorem dX5_set_2 : decode cX5_set 2 = .ok (.iconst 2, 1) := by decide +kernel
theorem dX5_set_3 : decode cX5_set 3 = .ok (.invokestatic 40, 3) := by decide +kernel
theorem dX5_set_6 : decode cX5_set 6 = .ok (.ifCond .ne 13, 3) := by decide +kernel
theorem dX5_set_9 : decode cX5_set 9 = .ok (.new 44, 3) := by decide +kernel
theorem dX5_set_12 : decode cX5_set 12 = .ok (.dup, 1) := by decide +kernel
theorem dX5_set_13 : decode cX5_set 13 = .ok (.ldc 150, 2) := by decide +kernel
theorem dX5_set_15 : decode cX5_set 15 = .ok (.invokespecial 48, 3) := by decide +kernel
theorem dX5_set_18 : decode cX5_set 18 = .ok (.athrow, 1) := by decide +kernel
theorem dX5_set_19 : decode cX5_set 19 = .ok (.iload_n 2, 1) := by decide +kernel
theorem dX5_set_20 : decode cX5_set 20 = .ok (.getstatic 152, 3) := by decide +kernel
theorem dX5_set_23 : decode cX5_set 23 = .ok (.iload_n 1, 1) := by decide +kernel
theorem dX5_set_24 : decode cX5_set 24 = .ok (.invokestatic 64, 3) := by decide +kernel
theorem dX5_set_27 : decode cX5_set 27 = .ok (.getstatic 155, 3) := by decide +kernel
theorem dX5_set_30 : decode cX5_set 30 = .ok (.iload_n 1, 1) := by decide +kernel
theorem dX5_set_31 : decode cX5_set 31 = .ok (.invokestatic 64, 3) := by decide +kernel
theorem dX5_set_34 : decode cX5_set 34 = .ok (.invokestatic 40, 3) := by decide +kernel
theorem dX5_set_37 : decode cX5_set 37 = .ok (.ifCond .ne 13, 3) := by decide +kernel
theorem dX5_set_40 : decode cX5_set 40 = .ok (.new 51, 3) := by decide +kernel
theorem dX5_set_43 : decode cX5_set 43 = .ok (.dup, 1) := by decide +kernel
theorem dX5_set_44 : decode cX5_set 44 = .ok (.ldc 158, 2) := by decide +kernel
theorem dX5_set_46 : decode cX5_set 46 = .ok (.invokespecial 55, 3) := by decide +kernel
theorem dX5_set_49 : decode cX5_set 49 = .ok (.athrow, 1) := by decide +kernel
theorem dX5_set_50 : decode cX5_set 50 = .ok (.aload_n 0, 1) := by decide +kernel
theorem dX5_set_51 : decode cX5_set 51 = .ok (.getfield 25, 3) := by decide +kernel
theorem dX5_set_54 : decode cX5_set 54 = .ok (.aload_n 0, 1) := by decide +kernel
theorem dX5_set_55 : decode cX5_set 55 = .ok (.getfield 10, 3) := by decide +kernel
theorem dX5_set_58 : decode cX5_set 58 = .ok (.invokevirtual 56, 3) := by decide +kernel
theorem dX5_set_61 : decode cX5_set 61 = .ok (.aload_n 0, 1) := by decide +kernel
theorem dX5_set_62 : decode cX5_set 62 = .ok (.getfield 10, 3) := by decide +kernel
theorem dX5_set_65 : decode cX5_set 65 = .ok (.getfield 160, 3) := by decide +kernel
theorem dX5_set_68 : decode cX5_set 68 = .ok (.iload_n 1, 1) := by decide +kernel
theorem dX5_set_69 : decode cX5_set 69 = .ok (.invokestatic 64, 3) := by decide +kernel
theorem dX5_set_72 : decode cX5_set 72 = .ok (.istore_n 3, 1) := by decide +kernel
theorem dX5_set_73 : decode cX5_set 73 = .ok (.aload_n 0, 1) := by decide +kernel
theorem dX5_set_74 : decode cX5_set 74 = .ok (.getfield 10, 3) := by decide +kernel
theorem dX5_set_77 : decode cX5_set 77 = .ok (.getfield 160, 3) := by decide +kernel
theorem dX5_set_80 : decode cX5_set 80 = .ok (.iload_n 1, 1) := by decide +kernel
theorem dX5_set_81 : decode cX5_set 81 = .ok (.iload_n 2, 1) := by decide +kernel
theorem dX5_set_82 : decode cX5_set 82 = .ok (.invokestatic 68, 3) := by decide +kernel
theorem dX5_set_85 : decode cX5_set 85 = .ok (.iload_n 3, 1) := by decide +kernel
theorem dX5_set_86 : decode cX5_set 86 = .ok (.ireturn, 1) := by decide +kernel
set_option maxRecDepth 20000 in
theorem ggX5_append_X5_isWithin : GoodIn wsX5_append wsX5_isWithin := goodIn_r _ [9] (by decide +kernel) (by decide +kernel)
set_option maxRecDepth 20000 in
theorem gX5_append_X5_isWithin : GoodIn wsX5_append (va_wsS RX5 40 yX5_isWithin wsX5_isWithin) := goodIn_app (goodIn_of _ (by decide +kernel)) ggX5_append_X5_isWithin
set_option maxRecDepth 20000 in
theorem ggX5_append_X2_length : GoodIn wsX5_append wsX2_length := goodIn_r _ [14, 15, 43, 44, 45, 46] (by decide +kernel) (by decide +kernel)
set_option maxRecDepth 20000 in
theorem gX5_append_X2_length : GoodIn wsX5_append (wsV RX5 165 RX2 yX2_length wsX2_length) := goodIn_app (goodIn_of _ (by decide +kernel)) ggX5_append_X2_length
set_option maxRecDepth 20000 in
theorem ggX5_append_X2_add : GoodIn wsX5_append wsX2_add := goodIn_r _ [19, 20, 15, 21, 22, 23, 8, 24, 25, 26, 13, 27, 28, 29, 30, 7, 9, 31, 32, 33, 34, 35, 36, 43, 44, 45, 46] (by decide +kernel) (by decide +kernel)
set_option maxRecDepth 20000 in
theorem gX5_append_X2_add : GoodIn wsX5_append (wsV RX5 170 RX2 yX2_add wsX2_add) := goodIn_app (goodIn_of _ (by decide +kernel)) ggX5_append_X2_add
theorem dX5_append_0 : decode cX5_append 0 = .ok (.iload_n 1, 1) := by decide +kernel
theorem dX5_append_1 : decode cX5_append 1 = .ok (.bipush 33, 2) := by decide +kernel
theorem dX5_append_3 : decode cX5_append 3 = .ok (.bipush 126, 2) := by decide +kernel
theorem dX5_append_5 : decode cX5_append 5 = .ok (.invokestatic 40, 3) := by decide +kernel
theorem dX5_append_8 : decode cX5_append 8 = .ok (.ifCond .ne 13, 3) := by decide +kernel
theorem dX5_append_11 : decode cX5_append 11 = .ok (.new 51, 3) := by decide +kernel
theorem dX5_append_14 : decode cX5_append 14 = .ok (.dup, 1) := by decide +kernel
theorem dX5_append_15 : decode cX5_append 15 = .ok (.ldc 163, 2) := by decide +kernel
theorem dX5_append_17 : decode cX5_append 17 = .ok (.invokespecial 55, 3) := by decide +kernel
theorem dX5_append_20 : decode cX5_append 20 = .ok (.athrow, 1) := by decide +kernel
theorem dX5_append_21 : decode cX5_append 21 = .ok (.aload_n 0, 1) := by decide +kernel
theorem dX5_append_22 : decode cX5_append 22 = .ok (.getfield 32, 3) := by decide +kernel
theorem dX5_append_25 : decode cX5_append 25 = .ok (.invokevirtual 165, 3) := by decide +kernel
theorem dX5_append_28 : decode cX5_append 28 = .ok (.bipush 60, 2) := by decide +kernel
theorem dX5_append_30 : decode cX5_append 30 = .ok (.if_icmp .lt 13, 3) := by decide +kernel
theorem dX5_append_33 : decode cX5_append 33 = .ok (.new 80, 3) := by decide +kernel
theorem dX5_append_36 : decode cX5_append 36 = .ok (.dup, 1) := by decide +kernel
theorem dX5_append_37 : decode cX5_append 37 = .ok (.ldc 168, 2) := by decide +kernel
theorem dX5_append_39 : decode cX5_append 39 = .ok (.invokespecial 84, 3) := by decide +kernel
theorem dX5_append_42 : decode cX5_append 42 = .ok (.athrow, 1) := by decide +kernel
theorem dX5_append_43 : decode cX5_append 43 = .ok (.aload_n 0, 1) := by decide +kernel
theorem dX5_append_44 : decode cX5_append 44 = .ok (.getfield 32, 3) := by decide +kernel
theorem dX5_append_47 : decode cX5_append 47 = .ok (.iload_n 1, 1) := by decide +kernel
theorem dX5_append_48 : decode cX5_append 48 = .ok (.invokevirtual 170, 3) := by decide +kernel
theorem dX5_append_51 : decode cX5_append 51 = .ok (.aload_n 0, 1) := by decide +kernel
theorem dX5_append_52 : decode cX5_append 52 = .ok (.getfield 32, 3) := by decide +kernel
theorem dX5_append_55 : decode cX5_append 55 = .ok (.invokevirtual 165, 3) := by decide +kernel
theorem dX5_append_58 : decode cX5_append 58 = .ok (.ireturn, 1) := by decide +kernel
set_option maxRecDepth 20000 in
theorem ggX5_clearBuffer_X2_length : GoodIn wsX5_clearBuffer wsX2_length := goodIn_r _ [6, 7, 20, 21, 22, 23] (by decide +kernel) (by decide +kernel)
set_option maxRecDepth 20000 in
theorem gX5_clearBuffer_X2_length : GoodIn wsX5_clearBuffer (wsV RX5 165 RX2 yX2_length wsX2_length) := goodIn_app (goodIn_of _ (by decide +kernel)) ggX5_clearBuffer_X2_length
set_option maxRecDepth 20000 in
theorem ggX5_clearBuffer_X2_clear : GoodIn wsX5_clearBuffer wsX2_clear := goodIn_r _ [11, 7, 12, 13, 20, 21, 22, 23] (by decide +kernel) (by decide +kernel)
set_option maxRecDepth 20000 in
theorem gX5_clearBuffer_X2_clear : GoodIn wsX5_clearBuffer (wsV RX5 173 RX2 yX2_clear wsX2_clear) := goodIn_app (goodIn_of _ (by decide +kernel)) ggX5_clearBuffer_X2_clear
theorem dX5_clearBuffer_0 : decode cX5_clearBuffer 0 = .ok (.aload_n 0, 1) := by decide +kernel
theorem dX5_clearBuffer_1 : decode cX5_clearBuffer 1 = .ok (.getfield 32, 3) := by decide +kernel
theorem dX5_clearBuffer_4 : decode cX5_clearBuffer 4 = .ok (.invokevirtual 165, 3) := by decide +kernel
theorem dX5_clearBuffer_7 : decode cX5_clearBuffer 7 = .ok (.istore_n 1, 1) := by decide +kernel
theorem dX5_clearBuffer_8 : decode cX5_clearBuffer 8 = .ok (.aload_n 0, 1) := by decide +kernel
theorem dX5_clearBuffer_9 : decode cX5_clearBuffer 9 = .ok (.getfield 32, 3) := by decide +kernel
theorem dX5_clearBuffer_12 : decode cX5_clearBuffer 12 = .ok (.invokevirtual 173, 3) := by decide +kernel
theorem dX5_clearBuffer_15 : decode cX5_clearBuffer 15 = .ok (.iload_n 1, 1) := by decide +kernel
theorem dX5_clearBuffer_16 : decode cX5_clearBuffer 16 = .ok (.ireturn, 1) := by decide +kernel
set_option maxRecDepth 20000 in
theorem ggX5_firstError_X2_firstWrong : GoodIn wsX5_firstError wsX2_firstWrong := goodIn_r _ [6, 7, 14, 15, 16, 17] (by decide +kernel) (by decide +kernel)
set_option maxRecDepth 20000 in
theorem gX5_firstError_X2_firstWrong : GoodIn wsX5_firstError (wsV RX5 176 RX2 yX2_firstWrong wsX2_firstWrong) := goodIn_app (goodIn_of _ (by decide +kernel)) ggX5_firstError_X2_firstWrong
theorem dX5_firstError_0 : decode cX5_firstError 0 = .ok (.aload_n 0, 1) := by decide +kernel
theorem dX5_firstError_1 : decode cX5_firstError 1 = .ok (.getfield 32, 3) := by decide +kernel
theorem dX5_firstError_4 : decode cX5_firstError 4 = .ok (.invokevirtual 176, 3) := by decide +kernel
theorem dX5_firstError_7 : decode cX5_firstError 7 = .ok (.ireturn, 1) := by decide +kernel
set_option maxRecDepth 20000 in
theorem ggX5_obey_X2_areComplete : GoodIn wsX5_obey wsX2_areComplete := goodIn_r _ [10, 11, 248, 249, 250, 251] (by decide +kernel) (by decide +kernel)
set_option maxRecDepth 20000 in
theorem gX5_obey_X2_areComplete : GoodIn wsX5_obey (wsV RX5 179 RX2 yX2_areComplete wsX2_areComplete) := goodIn_app (goodIn_of _ (by decide +kernel)) ggX5_obey_X2_areComplete
set_option maxRecDepth 20000 in
theorem ggX5_obey_X0_save : GoodIn wsX5_obey wsX0_save := goodIn_r _ [16, 17, 18, 19, 20, 21, 15, 22, 23, 24, 25, 26, 27, 28, 29, 30, 31, 32, 33, 34, 35, 36, 37, 38, 39, 40, 41, 42, 43, 44, 45, 46, 47, 48, 49, 50, 51, 52, 53, 54, 55, 56, 57, 58, 59, 60, 61, 62, 63, 64, 65, 66, 67, 68, 69, 70, 71, 72, 73, 74, 75, 252, 253, 254, 255, 256, 257, 258, 259, 260, 261, 262, 263, 264, 265, 266, 267, 268, 269, 270, 271, 272, 273, 274, 275, 276] (by decide +kernel) (by decide +kernel)
set_option maxRecDepth 20000 in
theorem gX5_obey_X0_save : GoodIn wsX5_obey (wsV RX5 56 RX0 yX0_save wsX0_save) := goodIn_app (goodIn_of _ (by decide +kernel)) ggX5_obey_X0_save
set_option maxRecDepth 20000 in
theorem ggX5_obey_X5_doOrders : GoodIn wsX5_obey wsX5_doOrders := goodIn_r _ [79, 3, 80, 81, 82, 9, 83, 84, 85, 86, 87, 88, 89, 90, 91, 92, 93, 94, 48, 95, 96, 97, 98, 99, 5, 100, 101, 102, 103, 104, 105, 106, 107, 108, 109, 31, 110, 111, 112, 113, 114, 35, 36, 115, 116, 117, 61, 118, 65, 63, 119, 120, 121, 122, 43, 123, 124, 125, 126, 64, 66, 127, 128, 129, 130, 131, 132, 133, 41, 134, 135, 136, 137, 138, 139, 140, 141, 37, 38, 142, 143, 144, 145, 146, 147, 148, 149, 150, 151, 152, 153, 154, 155, 156, 157, 34, 39, 158, 159, 160, 161, 162, 163, 164, 52, 165, 166, 167, 168, 169, 170, 171, 172, 173, 33, 40, 174, 25, 26, 27, 175, 176, 177, 178, 179, 180, 181, 70, 182, 183, 184, 185, 186, 187, 51, 53, 73, 188, 189, 190, 191, 192, 193, 194, 72, 195, 196, 197, 198, 42, 199, 200, 201, 202, 74, 203, 204, 205, 206, 46, 207, 208, 209, 210, 211, 212, 213, 214, 215, 216, 217, 218, 219, 75, 220, 221, 222, 223, 224, 44, 45, 225, 226, 227, 228, 229, 230, 231, 232, 233, 234, 235, 236, 242, 243, 244, 245, 246, 247, 248, 249, 250, 251, 255, 256, 257, 258, 259, 260, 261, 262, 263, 264, 265, 266, 267, 268, 269, 270, 271, 272, 273, 274, 275, 276] (by decide +kernel) (by decide +kernel)
set_option maxRecDepth 20000 in
theorem gX5_obey_X5_doOrders : GoodIn wsX5_obey (wsV RX5 185 RX5 yX5_doOrders wsX5_doOrders) := goodIn_app (goodIn_of _ (by decide +kernel)) ggX5_obey_X5_doOrders
set_option maxRecDepth 20000 in
theorem ggX5_obey_X2_clear : GoodIn wsX5_obey wsX2_clear := goodIn_r _ [240, 84, 241, 11, 248, 249, 250, 251] (by decide +kernel) (by decide +kernel)
set_option maxRecDepth 20000 in
theorem gX5_obey_X2_clear : GoodIn wsX5_obey (wsV RX5 173 RX2 yX2_clear wsX2_clear) := goodIn_app (goodIn_of _ (by decide +kernel)) ggX5_obey_X2_clear
theorem dX5_obey_0 : decode cX5_obey 0 = .ok (.aload_n 0, 1) := by decide +kernel
theorem dX5_obey_1 : decode cX5_obey 1 = .ok (.getfield 32, 3) := by decide +kernel
theorem dX5_obey_4 : decode cX5_obey 4 = .ok (.invokevirtual 179, 3) := by decide +kernel
theorem dX5_obey_7 : decode cX5_obey 7 = .ok (.ifCond .ne 13, 3) := by decide +kernel
theorem dX5_obey_10 : decode cX5_obey 10 = .ok (.new 51, 3) := by decide +kernel
theorem dX5_obey_13 : decode cX5_obey 13 = .ok (.dup, 1) := by decide +kernel
theorem dX5_obey_14 : decode cX5_obey 14 = .ok (.ldc 183, 2) := by decide +kernel
theorem dX5_obey_16 : decode cX5_obey 16 = .ok (.invokespecial 55, 3) := by decide +kernel
theorem dX5_obey_19 : decode cX5_obey 19 = .ok (.athrow, 1) := by decide +kernel
theorem dX5_obey_20 : decode cX5_obey 20 = .ok (.aload_n 0, 1) := by decide +kernel
theorem dX5_obey_21 : decode cX5_obey 21 = .ok (.getfield 25, 3) := by decide +kernel
theorem dX5_obey_24 : decode cX5_obey 24 = .ok (.aload_n 0, 1) := by decide +kernel
theorem dX5_obey_25 : decode cX5_obey 25 = .ok (.getfield 10, 3) := by decide +kernel
theorem dX5_obey_28 : decode cX5_obey 28 = .ok (.invokevirtual 56, 3) := by decide +kernel
theorem dX5_obey_31 : decode cX5_obey 31 = .ok (.aload_n 0, 1) := by decide +kernel
theorem dX5_obey_32 : decode cX5_obey 32 = .ok (.invokevirtual 185, 3) := by decide +kernel
theorem dX5_obey_35 : decode cX5_obey 35 = .ok (.istore_n 1, 1) := by decide +kernel
theorem dX5_obey_36 : decode cX5_obey 36 = .ok (.aload_n 0, 1) := by decide +kernel
theorem dX5_obey_37 : decode cX5_obey 37 = .ok (.getfield 32, 3) := by decide +kernel
theorem dX5_obey_40 : decode cX5_obey 40 = .ok (.invokevirtual 173, 3) := by decide +kernel
theorem dX5_obey_43 : decode cX5_obey 43 = .ok (.iload_n 1, 1) := by decide +kernel
theorem dX5_obey_44 : decode cX5_obey 44 = .ok (.ireturn, 1) := by decide +kernel
set_option maxRecDepth 20000 in
theorem ggX5_keep_X3_copyFrom : GoodIn wsX5_keep wsX3_copyFrom := goodIn_r _ [9, 10, 11, 12, 13, 14, 15, 16, 17, 18, 19, 20, 21, 22, 23, 24, 25, 26, 27, 28, 29, 30, 31, 32, 33, 34, 35, 36, 37, 38, 39, 40, 41, 42, 43, 44, 45, 46, 47, 48, 49, 50, 51, 52, 59, 60, 61, 62, 63, 64, 65, 66, 67, 68, 69, 70, 71, 72, 73, 74, 75, 76, 77, 78, 79, 80] (by decide +kernel) (by decide +kernel)
set_option maxRecDepth 20000 in
theorem gX5_keep_X3_copyFrom : GoodIn wsX5_keep (wsV RX5 188 RX3 yX3_copyFrom wsX3_copyFrom) := goodIn_app (goodIn_of _ (by decide +kernel)) ggX5_keep_X3_copyFrom
theorem dX5_keep_0 : decode cX5_keep 0 = .ok (.aload_n 0, 1) := by decide +kernel
theorem dX5_keep_1 : decode cX5_keep 1 = .ok (.getfield 19, 3) := by decide +kernel
theorem dX5_keep_4 : decode cX5_keep 4 = .ok (.aload_n 0, 1) := by decide +kernel
theorem dX5_keep_5 : decode cX5_keep 5 = .ok (.getfield 10, 3) := by decide +kernel
theorem dX5_keep_8 : decode cX5_keep 8 = .ok (.invokevirtual 188, 3) := by decide +kernel
theorem dX5_keep_11 : decode cX5_keep 11 = .ok (.aload_n 0, 1) := by decide +kernel
theorem dX5_keep_12 : decode cX5_keep 12 = .ok (.iconst 1, 1) := by decide +kernel
theorem dX5_keep_13 : decode cX5_keep 13 = .ok (.putfield 36, 3) := by decide +kernel
theorem dX5_keep_16 : decode cX5_keep 16 = .ok (.aload_n 0, 1) := by decide +kernel
theorem dX5_keep_17 : decode cX5_keep 17 = .ok (.getfield 10, 3) := by decide +kernel
