theorem dX2_endBehindSecondDigit_3 : decode cX2_endBehindSecondDigit 3 = .ok (.iload_n 1, 1) := by decide +kernel
theorem dX2_endBehindSecondDigit_4 : decode cX2_endBehindSecondDigit 4 = .ok (.invokestatic 41, 3) := by decide +kernel
theorem dX2_endBehindSecondDigit_7 : decode cX2_endBehindSecondDigit 7 = .ok (.ifCond .eq 6, 3) := by decide +kernel
theorem dX2_endBehindSecondDigit_10 : decode cX2_endBehindSecondDigit 10 = .ok (.bipush 10, 2) := by decide +kernel
theorem dX2_endBehindSecondDigit_12 : decode cX2_endBehindSecondDigit 12 = .ok (.ireturn, 1) := by decide +kernel
theorem dX2_endBehindSecondDigit_13 : decode cX2_endBehindSecondDigit 13 = .ok (.iload_n 0, 1) := by decide +kernel
theorem dX2_endBehindSecondDigit_14 : decode cX2_endBehindSecondDigit 14 = .ok (.bipush 59, 2) := by decide +kernel
theorem dX2_endBehindSecondDigit_16 : decode cX2_endBehindSecondDigit 16 = .ok (.if_icmp .ne 7, 3) := by decide +kernel
theorem dX2_endBehindSecondDigit_19 : decode cX2_endBehindSecondDigit 19 = .ok (.iconst 0, 1) := by decide +kernel
theorem dX2_endBehindSecondDigit_20 : decode cX2_endBehindSecondDigit 20 = .ok (.goto 4, 3) := by decide +kernel
theorem dX2_endBehindSecondDigit_23 : decode cX2_endBehindSecondDigit 23 = .ok (.iconst (-1), 1) := by decide +kernel
theorem dX2_endBehindSecondDigit_24 : decode cX2_endBehindSecondDigit 24 = .ok (.ireturn, 1) := by decide +kernel
set_option maxRecDepth 20000 in
theorem ggX3_init_X5_copyRow : GoodIn wsX3_init wsX5_copyRow := goodIn_r _ [20, 21, 22, 23, 24, 25, 26, 27, 28] (by decide +kernel) (by decide +kernel)
set_option maxRecDepth 20000 in
theorem gX3_init_X5_copyRow_n21 : GoodIn wsX3_init (wsX5_copyRow) := ggX3_init_X5_copyRow
set_option maxRecDepth 20000 in
theorem ggX3_init_X1_init : GoodIn wsX3_init wsX1_init := goodIn_r _ [31, 32, 2, 3, 4, 33, 34, 35, 36, 59, 60, 61, 62] (by decide +kernel) (by decide +kernel)
set_option maxRecDepth 20000 in
theorem gX3_init_X1_init : GoodIn wsX3_init (wsX1_init) := ggX3_init_X1_init
set_option maxRecDepth 20000 in
theorem ggX3_init_X4_init : GoodIn wsX3_init wsX4_init := goodIn_r _ [39, 40, 2, 3, 4, 41, 42, 43, 44, 63, 64, 65, 66] (by decide +kernel) (by decide +kernel)
set_option maxRecDepth 20000 in
theorem gX3_init_X4_init : GoodIn wsX3_init (wsX4_init) := ggX3_init_X4_init
theorem dX3_init_0 : decode cX3_init 0 = .ok (.aload_n 0, 1) := by decide +kernel
theorem dX3_init_1 : decode cX3_init 1 = .ok (.invokespecial 3, 3) := by decide +kernel
theorem dX3_init_4 : decode cX3_init 4 = .ok (.aload_n 0, 1) := by decide +kernel
theorem dX3_init_5 : decode cX3_init 5 = .ok (.bipush 24, 2) := by decide +kernel
theorem dX3_init_7 : decode cX3_init 7 = .ok (.newarray .int, 2) := by decide +kernel
theorem dX3_init_9 : decode cX3_init 9 = .ok (.putfield 9, 3) := by decide +kernel
theorem dX3_init_12 : decode cX3_init 12 = .ok (.iconst 0, 1) := by decide +kernel
theorem dX3_init_13 : decode cX3_init 13 = .ok (.istore_n 1, 1) := by decide +kernel
theorem dX3_init_14 : decode cX3_init 14 = .ok (.iload_n 1, 1) := by decide +kernel
theorem dX3_init_15 : decode cX3_init 15 = .ok (.aload_n 0, 1) := by decide +kernel
theorem dX3_init_16 : decode cX3_init 16 = .ok (.getfield 9, 3) := by decide +kernel
theorem dX3_init_19 : decode cX3_init 19 = .ok (.arraylength, 1) := by decide +kernel
theorem dX3_init_20 : decode cX3_init 20 = .ok (.if_icmp .ge 17, 3) := by decide +kernel
theorem dX3_init_23 : decode cX3_init 23 = .ok (.aload_n 0, 1) := by decide +kernel
theorem dX3_init_24 : decode cX3_init 24 = .ok (.getfield 9, 3) := by decide +kernel
theorem dX3_init_27 : decode cX3_init 27 = .ok (.iload_n 1, 1) := by decide +kernel
theorem dX3_init_28 : decode cX3_init 28 = .ok (.bipush 10, 2) := by decide +kernel
theorem dX3_init_30 : decode cX3_init 30 = .ok (.iastore, 1) := by decide +kernel
theorem dX3_init_31 : decode cX3_init 31 = .ok (.iinc 1 1, 3) := by decide +kernel
theorem dX3_init_34 : decode cX3_init 34 = .ok (.goto (-20), 3) := by decide +kernel
theorem dX3_init_37 : decode cX3_init 37 = .ok (.aload_n 0, 1) := by decide +kernel
theorem dX3_init_38 : decode cX3_init 38 = .ok (.iconst 3, 1) := by decide +kernel
theorem dX3_init_39 : decode cX3_init 39 = .ok (.newarray .int, 2) := by decide +kernel
theorem dX3_init_41 : decode cX3_init 41 = .ok (.putfield 15, 3) := by decide +kernel
theorem dX3_init_44 : decode cX3_init 44 = .ok (.getstatic 18, 3) := by decide +kernel
theorem dX3_init_47 : decode cX3_init 47 = .ok (.aload_n 0, 1) := by decide +kernel
theorem dX3_init_48 : decode cX3_init 48 = .ok (.getfield 15, 3) := by decide +kernel
theorem dX3_init_51 : decode cX3_init 51 = .ok (.invokestatic 21, 3) := by decide +kernel
theorem dX3_init_54 : decode cX3_init 54 = .ok (.aload_n 0, 1) := by decide +kernel
theorem dX3_init_55 : decode cX3_init 55 = .ok (.new 25, 3) := by decide +kernel
theorem dX3_init_58 : decode cX3_init 58 = .ok (.dup, 1) := by decide +kernel
theorem dX3_init_59 : decode cX3_init 59 = .ok (.bipush 10, 2) := by decide +kernel
theorem dX3_init_61 : decode cX3_init 61 = .ok (.invokespecial 27, 3) := by decide +kernel
theorem dX3_init_64 : decode cX3_init 64 = .ok (.putfield 30, 3) := by decide +kernel
theorem dX3_init_67 : decode cX3_init 67 = .ok (.aload_n 0, 1) := by decide +kernel
theorem dX3_init_68 : decode cX3_init 68 = .ok (.new 25, 3) := by decide +kernel
theorem dX3_init_71 : decode cX3_init 71 = .ok (.dup, 1) := by decide +kernel
theorem dX3_init_72 : decode cX3_init 72 = .ok (.bipush 10, 2) := by decide +kernel
theorem dX3_init_74 : decode cX3_init 74 = .ok (.invokespecial 27, 3) := by decide +kernel
theorem dX3_init_77 : decode cX3_init 77 = .ok (.putfield 34, 3) := by decide +kernel
theorem dX3_init_80 : decode cX3_init 80 = .ok (.aload_n 0, 1) := by decide +kernel
theorem dX3_init_81 : decode cX3_init 81 = .ok (.new 25, 3) := by decide +kernel
theorem dX3_init_84 : decode cX3_init 84 = .ok (.dup, 1) := by decide +kernel
theorem dX3_init_85 : decode cX3_init 85 = .ok (.iconst 4, 1) := by decide +kernel
theorem dX3_init_86 : decode cX3_init 86 = .ok (.invokespecial 27, 3) := by decide +kernel
theorem dX3_init_89 : decode cX3_init 89 = .ok (.putfield 37, 3) := by decide +kernel
theorem dX3_init_92 : decode cX3_init 92 = .ok (.aload_n 0, 1) := by decide +kernel
theorem dX3_init_93 : decode cX3_init 93 = .ok (.new 25, 3) := by decide +kernel
theorem dX3_init_96 : decode cX3_init 96 = .ok (.dup, 1) := by decide +kernel
theorem dX3_init_97 : decode cX3_init 97 = .ok (.iconst 4, 1) := by decide +kernel
theorem dX3_init_98 : decode cX3_init 98 = .ok (.invokespecial 27, 3) := by decide +kernel
theorem dX3_init_101 : decode cX3_init 101 = .ok (.putfield 40, 3) := by decide +kernel
theorem dX3_init_104 : decode cX3_init 104 = .ok (.aload_n 0, 1) := by decide +kernel
theorem dX3_init_105 : decode cX3_init 105 = .ok (.new 43, 3) := by decide +kernel
theorem dX3_init_108 : decode cX3_init 108 = .ok (.dup, 1) := by decide +kernel
theorem dX3_init_109 : decode cX3_init 109 = .ok (.invokespecial 45, 3) := by decide +kernel
theorem dX3_init_112 : decode cX3_init 112 = .ok (.putfield 46, 3) := by decide +kernel
theorem dX3_init_115 : decode cX3_init 115 = .ok (.return_, 1) := by decide +kernel
set_option maxRecDepth 20000 in
theorem ggX3_copyFrom_X5_copyRow : GoodIn wsX3_copyFrom wsX5_copyRow := goodIn_r _ [17, 18, 19, 20, 21, 22, 23, 24, 25] (by decide +kernel) (by decide +kernel)
set_option maxRecDepth 20000 in
theorem gX3_copyFrom_X5_copyRow_n21 : GoodIn wsX3_copyFrom (wsX5_copyRow) := ggX3_copyFrom_X5_copyRow
set_option maxRecDepth 20000 in
theorem ggX3_copyFrom_X1_copyFrom : GoodIn wsX3_copyFrom wsX1_copyFrom := goodIn_r _ [30, 31, 32, 33, 34, 15, 16, 17, 18, 19, 20, 21, 22, 23, 24, 25, 58, 59, 60, 61] (by decide +kernel) (by decide +kernel)
set_option maxRecDepth 20000 in
theorem gX3_copyFrom_X1_copyFrom : GoodIn wsX3_copyFrom (wsV RX3 50 RX1 yX1_copyFrom wsX1_copyFrom) := goodIn_app (goodIn_of _ (by decide +kernel)) ggX3_copyFrom_X1_copyFrom
set_option maxRecDepth 20000 in
theorem ggX3_copyFrom_X4_copyFrom : GoodIn wsX3_copyFrom wsX4_copyFrom := goodIn_r _ [39, 40, 41, 42, 43, 15, 16, 17, 18, 19, 20, 21, 22, 23, 24, 25, 62, 63, 64, 65] (by decide +kernel) (by decide +kernel)
set_option maxRecDepth 20000 in
theorem gX3_copyFrom_X4_copyFrom : GoodIn wsX3_copyFrom (wsV RX3 54 RX4 yX4_copyFrom wsX4_copyFrom) := goodIn_app (goodIn_of _ (by decide +kernel)) ggX3_copyFrom_X4_copyFrom
theorem dX3_copyFrom_0 : decode cX3_copyFrom 0 = .ok (.aload_n 1, 1) := by decide +kernel
theorem dX3_copyFrom_1 : decode cX3_copyFrom 1 = .ok (.getfield 9, 3) := by decide +kernel
theorem dX3_copyFrom_4 : decode cX3_copyFrom 4 = .ok (.aload_n 0, 1) := by decide +kernel
theorem dX3_copyFrom_5 : decode cX3_copyFrom 5 = .ok (.getfield 9, 3) := by decide +kernel
theorem dX3_copyFrom_8 : decode cX3_copyFrom 8 = .ok (.invokestatic 21, 3) := by decide +kernel
theorem dX3_copyFrom_11 : decode cX3_copyFrom 11 = .ok (.aload_n 1, 1) := by decide +kernel
theorem dX3_copyFrom_12 : decode cX3_copyFrom 12 = .ok (.getfield 15, 3) := by decide +kernel
theorem dX3_copyFrom_15 : decode cX3_copyFrom 15 = .ok (.aload_n 0, 1) := by decide +kernel
theorem dX3_copyFrom_16 : decode cX3_copyFrom 16 = .ok (.getfield 15, 3) := by decide +kernel
theorem dX3_copyFrom_19 : decode cX3_copyFrom 19 = .ok (.invokestatic 21, 3) := by decide +kernel
theorem dX3_copyFrom_22 : decode cX3_copyFrom 22 = .ok (.aload_n 0, 1) := by decide +kernel
theorem dX3_copyFrom_23 : decode cX3_copyFrom 23 = .ok (.getfield 30, 3) := by decide +kernel
theorem dX3_copyFrom_26 : decode cX3_copyFrom 26 = .ok (.aload_n 1, 1) := by decide +kernel
theorem dX3_copyFrom_27 : decode cX3_copyFrom 27 = .ok (.getfield 30, 3) := by decide +kernel
theorem dX3_copyFrom_30 : decode cX3_copyFrom 30 = .ok (.invokevirtual 50, 3) := by decide +kernel
theorem dX3_copyFrom_33 : decode cX3_copyFrom 33 = .ok (.aload_n 0, 1) := by decide +kernel
theorem dX3_copyFrom_34 : decode cX3_copyFrom 34 = .ok (.getfield 34, 3) := by decide +kernel
theorem dX3_copyFrom_37 : decode cX3_copyFrom 37 = .ok (.aload_n 1, 1) := by decide +kernel
theorem dX3_copyFrom_38 : decode cX3_copyFrom 38 = .ok (.getfield 34, 3) := by decide +kernel
theorem dX3_copyFrom_41 : decode cX3_copyFrom 41 = .ok (.invokevirtual 50, 3) := by decide +kernel
theorem dX3_copyFrom_44 : decode cX3_copyFrom 44 = .ok (.aload_n 0, 1) := by decide +kernel
theorem dX3_copyFrom_45 : decode cX3_copyFrom 45 = .ok (.getfield 37, 3) := by decide +kernel
theorem dX3_copyFrom_48 : decode cX3_copyFrom 48 = .ok (.aload_n 1, 1) := by decide +kernel
theorem dX3_copyFrom_49 : decode cX3_copyFrom 49 = .ok (.getfield 37, 3) := by decide +kernel
theorem dX3_copyFrom_52 : decode cX3_copyFrom 52 = .ok (.invokevirtual 50, 3) := by decide +kernel
theorem dX3_copyFrom_55 : decode cX3_copyFrom 55 = .ok (.aload_n 0, 1) := by decide +kernel
theorem dX3_copyFrom_56 : decode cX3_copyFrom 56 = .ok (.getfield 40, 3) := by decide +kernel
theorem dX3_copyFrom_59 : decode cX3_copyFrom 59 = .ok (.aload_n 1, 1) := by decide +kernel
theorem dX3_copyFrom_60 : decode cX3_copyFrom 60 = .ok (.getfield 40, 3) := by decide +kernel
theorem dX3_copyFrom_63 : decode cX3_copyFrom 63 = .ok (.invokevirtual 50, 3) := by decide +kernel
theorem dX3_copyFrom_66 : decode cX3_copyFrom 66 = .ok (.aload_n 0, 1) := by decide +kernel
theorem dX3_copyFrom_67 : decode cX3_copyFrom 67 = .ok (.getfield 46, 3) := by decide +kernel
theorem dX3_copyFrom_70 : decode cX3_copyFrom 70 = .ok (.aload_n 1, 1) := by decide +kernel
theorem dX3_copyFrom_71 : decode cX3_copyFrom 71 = .ok (.getfield 46, 3) := by decide +kernel
theorem dX3_copyFrom_74 : decode cX3_copyFrom 74 = .ok (.invokevirtual 54, 3) := by decide +kernel
theorem dX3_copyFrom_77 : decode cX3_copyFrom 77 = .ok (.aload_n 0, 1) := by decide +kernel
theorem dX3_copyFrom_78 : decode cX3_copyFrom 78 = .ok (.aload_n 1, 1) := by decide +kernel
theorem dX3_copyFrom_79 : decode cX3_copyFrom 79 = .ok (.getfield 57, 3) := by decide +kernel
theorem dX3_copyFrom_82 : decode cX3_copyFrom 82 = .ok (.putfield 57, 3) := by decide +kernel
theorem dX3_copyFrom_85 : decode cX3_copyFrom 85 = .ok (.aload_n 0, 1) := by decide +kernel
theorem dX3_copyFrom_86 : decode cX3_copyFrom 86 = .ok (.aload_n 1, 1) := by decide +kernel
theorem dX3_copyFrom_87 : decode cX3_copyFrom 87 = .ok (.getfield 61, 3) := by decide +kernel
theorem dX3_copyFrom_90 : decode cX3_copyFrom 90 = .ok (.putfield 61, 3) := by decide +kernel
theorem dX3_copyFrom_93 : decode cX3_copyFrom 93 = .ok (.aload_n 0, 1) := by decide +kernel
theorem dX3_copyFrom_94 : decode cX3_copyFrom 94 = .ok (.aload_n 1, 1) := by decide +kernel
theorem dX3_copyFrom_95 : decode cX3_copyFrom 95 = .ok (.getfield 64, 3) := by decide +kernel
theorem dX3_copyFrom_98 : decode cX3_copyFrom 98 = .ok (.putfield 64, 3) := by decide +kernel
theorem dX3_copyFrom_101 : decode cX3_copyFrom 101 = .ok (.aload_n 0, 1) := by decide +kernel
theorem dX3_copyFrom_102 : decode cX3_copyFrom 102 = .ok (.aload_n 1, 1) := by decide +kernel
theorem dX3_copyFrom_103 : decode cX3_copyFrom 103 = .ok (.getfield 67, 3) := by decide +kernel
theorem dX3_copyFrom_106 : decode cX3_copyFrom 106 = .ok (.putfield 67, 3) := by decide +kernel
theorem dX3_copyFrom_109 : decode cX3_copyFrom 109 = .ok (.aload_n 0, 1) := by decide +kernel
theorem dX3_copyFrom_110 : decode cX3_copyFrom 110 = .ok (.aload_n 1, 1) := by decide +kernel
theorem dX3_copyFrom_111 : decode cX3_copyFrom 111 = .ok (.getfield 70, 3) := by decide +kernel
theorem dX3_copyFrom_114 : decode cX3_copyFrom 114 = .ok (.putfield 70, 3) := by decide +kernel
theorem dX3_copyFrom_117 : decode cX3_copyFrom 117 = .ok (.aload_n 0, 1) := by decide +kernel
theorem dX3_copyFrom_118 : decode cX3_copyFrom 118 = .ok (.aload_n 1, 1) := by decide +kernel
theorem dX3_copyFrom_119 : decode cX3_copyFrom 119 = .ok (.getfield 73, 3) := by decide +kernel
theorem dX3_copyFrom_122 : decode cX3_copyFrom 122 = .ok (.putfield 73, 3) := by decide +kernel
theorem dX3_copyFrom_125 : decode cX3_copyFrom 125 = .ok (.aload_n 0, 1) := by decide +kernel
theorem dX3_copyFrom_126 : decode cX3_copyFrom 126 = .ok (.aload_n 1, 1) := by decide +kernel
theorem dX3_copyFrom_127 : decode cX3_copyFrom 127 = .ok (.getfield 76, 3) := by decide +kernel
theorem dX3_copyFrom_130 : decode cX3_copyFrom 130 = .ok (.putfield 76, 3) := by decide +kernel
theorem dX3_copyFrom_133 : decode cX3_copyFrom 133 = .ok (.return_, 1) := by decide +kernel
theorem dX3_lineAtBank_0 : decode cX3_lineAtBank 0 = .ok (.iload_n 1, 1) := by decide +kernel
theorem dX3_lineAtBank_1 : decode cX3_lineAtBank 1 = .ok (.ifCond .ne 10, 3) := by decide +kernel
theorem dX3_lineAtBank_4 : decode cX3_lineAtBank 4 = .ok (.aload_n 0, 1) := by decide +kernel
theorem dX3_lineAtBank_5 : decode cX3_lineAtBank 5 = .ok (.getfield 30, 3) := by decide +kernel
theorem dX3_lineAtBank_8 : decode cX3_lineAtBank 8 = .ok (.goto 7, 3) := by decide +kernel
theorem dX3_lineAtBank_11 : decode cX3_lineAtBank 11 = .ok (.aload_n 0, 1) := by decide +kernel
theorem dX3_lineAtBank_12 : decode cX3_lineAtBank 12 = .ok (.getfield 34, 3) := by decide +kernel
theorem dX3_lineAtBank_15 : decode cX3_lineAtBank 15 = .ok (.areturn, 1) := by decide +kernel
theorem dX3_lineOnLane_0 : decode cX3_lineOnLane 0 = .ok (.iload_n 1, 1) := by decide +kernel
theorem dX3_lineOnLane_1 : decode cX3_lineOnLane 1 = .ok (.ifCond .ne 10, 3) := by decide +kernel
theorem dX3_lineOnLane_4 : decode cX3_lineOnLane 4 = .ok (.aload_n 0, 1) := by decide +kernel
theorem dX3_lineOnLane_5 : decode cX3_lineOnLane 5 = .ok (.getfield 37, 3) := by decide +kernel
theorem dX3_lineOnLane_8 : decode cX3_lineOnLane 8 = .ok (.goto 7, 3) := by decide +kernel
theorem dX3_lineOnLane_11 : decode cX3_lineOnLane 11 = .ok (.aload_n 0, 1) := by decide +kernel
theorem dX3_lineOnLane_12 : decode cX3_lineOnLane 12 = .ok (.getfield 40, 3) := by decide +kernel
theorem dX3_lineOnLane_15 : decode cX3_lineOnLane 15 = .ok (.areturn, 1) := by decide +kernel
set_option maxRecDepth 20000 in
theorem ggX3_vehiclesOnDeck_X1_size : GoodIn wsX3_vehiclesOnDeck wsX1_size := goodIn_r _ [7, 8, 23, 24, 25, 26] (by decide +kernel) (by decide +kernel)
set_option maxRecDepth 20000 in
theorem gX3_vehiclesOnDeck_X1_size : GoodIn wsX3_vehiclesOnDeck (wsV RX3 79 RX1 yX1_size wsX1_size) := goodIn_app (goodIn_of _ (by decide +kernel)) ggX3_vehiclesOnDeck_X1_size
theorem dX3_vehiclesOnDeck_0 : decode cX3_vehiclesOnDeck 0 = .ok (.aload_n 0, 1) := by decide +kernel
theorem dX3_vehiclesOnDeck_1 : decode cX3_vehiclesOnDeck 1 = .ok (.getfield 37, 3) := by decide +kernel
theorem dX3_vehiclesOnDeck_4 : decode cX3_vehiclesOnDeck 4 = .ok (.invokevirtual 79, 3) := by decide +kernel
theorem dX3_vehiclesOnDeck_7 : decode cX3_vehiclesOnDeck 7 = .ok (.aload_n 0, 1) := by decide +kernel
theorem dX3_vehiclesOnDeck_8 : decode cX3_vehiclesOnDeck 8 = .ok (.getfield 40, 3) := by decide +kernel
theorem dX3_vehiclesOnDeck_11 : decode cX3_vehiclesOnDeck 11 = .ok (.invokevirtual 79, 3) := by decide +kernel
theorem dX3_vehiclesOnDeck_14 : decode cX3_vehiclesOnDeck 14 = .ok (.iadd, 1) := by decide +kernel
theorem dX3_vehiclesOnDeck_15 : decode cX3_vehiclesOnDeck 15 = .ok (.ireturn, 1) := by decide +kernel
set_option maxRecDepth 20000 in
theorem ggX3_weightOnDeck_X1_weight : GoodIn wsX3_weightOnDeck wsX1_weight := goodIn_r _ [7, 8, 23, 24, 25, 26] (by decide +kernel) (by decide +kernel)
set_option maxRecDepth 20000 in
theorem gX3_weightOnDeck_X1_weight : GoodIn wsX3_weightOnDeck (wsV RX3 83 RX1 yX1_weight wsX1_weight) := goodIn_app (goodIn_of _ (by decide +kernel)) ggX3_weightOnDeck_X1_weight
theorem dX3_weightOnDeck_0 : decode cX3_weightOnDeck 0 = .ok (.aload_n 0, 1) := by decide +kernel
theorem dX3_weightOnDeck_1 : decode cX3_weightOnDeck 1 = .ok (.getfield 37, 3) := by decide +kernel
theorem dX3_weightOnDeck_4 : decode cX3_weightOnDeck 4 = .ok (.invokevirtual 83, 3) := by decide +kernel
theorem dX3_weightOnDeck_7 : decode cX3_weightOnDeck 7 = .ok (.aload_n 0, 1) := by decide +kernel
theorem dX3_weightOnDeck_8 : decode cX3_weightOnDeck 8 = .ok (.getfield 40, 3) := by decide +kernel
theorem dX3_weightOnDeck_11 : decode cX3_weightOnDeck 11 = .ok (.invokevirtual 83, 3) := by decide +kernel
theorem dX3_weightOnDeck_14 : decode cX3_weightOnDeck 14 = .ok (.iadd, 1) := by decide +kernel
theorem dX3_weightOnDeck_15 : decode cX3_weightOnDeck 15 = .ok (.ireturn, 1) := by decide +kernel
set_option maxRecDepth 20000 in
theorem ggX3_list_X1_weight : GoodIn wsX3_list wsX1_weight := goodIn_r _ [11, 12, 27, 28, 29, 30] (by decide +kernel) (by decide +kernel)
set_option maxRecDepth 20000 in
theorem gX3_list_X1_weight : GoodIn wsX3_list (wsV RX3 83 RX1 yX1_weight wsX1_weight) := goodIn_app (goodIn_of _ (by decide +kernel)) ggX3_list_X1_weight
theorem dX3_list_0 : decode cX3_list 0 = .ok (.aload_n 0, 1) := by decide +kernel
theorem dX3_list_1 : decode cX3_list 1 = .ok (.getfield 37, 3) := by decide +kernel
theorem dX3_list_4 : decode cX3_list 4 = .ok (.invokevirtual 83, 3) := by decide +kernel
theorem dX3_list_7 : decode cX3_list 7 = .ok (.aload_n 0, 1) := by decide +kernel
theorem dX3_list_8 : decode cX3_list 8 = .ok (.getfield 40, 3) := by decide +kernel
theorem dX3_list_11 : decode cX3_list 11 = .ok (.invokevirtual 83, 3) := by decide +kernel
theorem dX3_list_14 : decode cX3_list 14 = .ok (.isub, 1) := by decide +kernel
theorem dX3_list_15 : decode cX3_list 15 = .ok (.invokestatic 86, 3) := by decide +kernel
theorem dX3_list_18 : decode cX3_list 18 = .ok (.ireturn, 1) := by decide +kernel
set_option maxRecDepth 20000 in
theorem ggX3_currentAhead_J9_floorMod_7cf53 : GoodIn wsX3_currentAhead wsJ9_floorMod_7cf53 := goodIn_r _ [6] (by decide +kernel) (by decide +kernel)
set_option maxRecDepth 20000 in
theorem gX3_currentAhead_J9_floorMod_7cf53 : GoodIn wsX3_currentAhead (va_wsS RX3 92 yJ9_floorMod_7cf53 wsJ9_floorMod_7cf53) := goodIn_app (goodIn_of _ (by decide +kernel)) ggX3_currentAhead_J9_floorMod_7cf53
set_option maxRecDepth 20000 in
theorem ggX3_currentAhead_X5_at : GoodIn wsX3_currentAhead wsX5_at := goodIn_r _ [9] (by decide +kernel) (by decide +kernel)
set_option maxRecDepth 20000 in
theorem gX3_currentAhead_X5_at_n96 : GoodIn wsX3_currentAhead (wsX5_at) := ggX3_currentAhead_X5_at
theorem dX3_currentAhead_0 : decode cX3_currentAhead 0 = .ok (.aload_n 0, 1) := by decide +kernel
theorem dX3_currentAhead_1 : decode cX3_currentAhead 1 = .ok (.getfield 9, 3) := by decide +kernel
theorem dX3_currentAhead_4 : decode cX3_currentAhead 4 = .ok (.aload_n 0, 1) := by decide +kernel
theorem dX3_currentAhead_5 : decode cX3_currentAhead 5 = .ok (.getfield 57, 3) := by decide +kernel
theorem dX3_currentAhead_8 : decode cX3_currentAhead 8 = .ok (.iload_n 1, 1) := by decide +kernel
theorem dX3_currentAhead_9 : decode cX3_currentAhead 9 = .ok (.iadd, 1) := by decide +kernel
theorem dX3_currentAhead_10 : decode cX3_currentAhead 10 = .ok (.bipush 24, 2) := by decide +kernel
theorem dX3_currentAhead_12 : decode cX3_currentAhead 12 = .ok (.invokestatic 92, 3) := by decide +kernel
theorem dX3_currentAhead_15 : decode cX3_currentAhead 15 = .ok (.invokestatic 96, 3) := by decide +kernel
theorem dX3_currentAhead_18 : decode cX3_currentAhead 18 = .ok (.ireturn, 1) := by decide +kernel
set_option maxRecDepth 20000 in
theorem ggX3_strengthOf_X5_at : GoodIn wsX3_strengthOf wsX5_at := goodIn_r _ [5] (by decide +kernel) (by decide +kernel)
set_option maxRecDepth 20000 in
theorem gX3_strengthOf_X5_at_n96 : GoodIn wsX3_strengthOf (wsX5_at) := ggX3_strengthOf_X5_at
set_option maxRecDepth 20000 in
theorem ggX3_strengthOf_X4_strengthOf : GoodIn wsX3_strengthOf wsX4_strengthOf := goodIn_r _ [10, 11, 12, 13, 14, 15, 3, 4, 5, 30, 31, 32, 33] (by decide +kernel) (by decide +kernel)
set_option maxRecDepth 20000 in
theorem gX3_strengthOf_X4_strengthOf : GoodIn wsX3_strengthOf (wsV RX3 100 RX4 yX4_strengthOf wsX4_strengthOf) := goodIn_app (goodIn_of _ (by decide +kernel)) ggX3_strengthOf_X4_strengthOf
theorem dX3_strengthOf_0 : decode cX3_strengthOf 0 = .ok (.aload_n 0, 1) := by decide +kernel
theorem dX3_strengthOf_1 : decode cX3_strengthOf 1 = .ok (.getfield 46, 3) := by decide +kernel
theorem dX3_strengthOf_4 : decode cX3_strengthOf 4 = .ok (.iload_n 1, 1) := by decide +kernel
theorem dX3_strengthOf_5 : decode cX3_strengthOf 5 = .ok (.aload_n 0, 1) := by decide +kernel
theorem dX3_strengthOf_6 : decode cX3_strengthOf 6 = .ok (.getfield 15, 3) := by decide +kernel
theorem dX3_strengthOf_9 : decode cX3_strengthOf 9 = .ok (.iconst 0, 1) := by decide +kernel
theorem dX3_strengthOf_10 : decode cX3_strengthOf 10 = .ok (.invokestatic 96, 3) := by decide +kernel
theorem dX3_strengthOf_13 : decode cX3_strengthOf 13 = .ok (.invokevirtual 100, 3) := by decide +kernel
theorem dX3_strengthOf_16 : decode cX3_strengthOf 16 = .ok (.ireturn, 1) := by decide +kernel
set_option maxRecDepth 20000 in
theorem ggX3_tensionOf_X3_currentAhead : GoodIn wsX3_tensionOf wsX3_currentAhead := goodIn_r _ [6, 7, 8, 9, 10, 11, 12, 13, 14, 15, 48, 49, 50, 51, 52, 53, 54, 55, 56, 57, 58, 59, 60, 61] (by decide +kernel) (by decide +kernel)
set_option maxRecDepth 20000 in
theorem gX3_tensionOf_X3_currentAhead : GoodIn wsX3_tensionOf (wsV RX3 103 RX3 yX3_currentAhead wsX3_currentAhead) := goodIn_app (goodIn_of _ (by decide +kernel)) ggX3_tensionOf_X3_currentAhead
set_option maxRecDepth 20000 in
theorem ggX3_tensionOf_X3_weightOnDeck : GoodIn wsX3_tensionOf wsX3_weightOnDeck := goodIn_r _ [19, 20, 21, 22, 23, 24, 25, 26, 27, 48, 49, 50, 51, 52, 53, 54, 55, 56, 57, 58, 59, 60, 61, 62, 63, 64, 65] (by decide +kernel) (by decide +kernel)
set_option maxRecDepth 20000 in
theorem gX3_tensionOf_X3_weightOnDeck : GoodIn wsX3_tensionOf (wsV RX3 106 RX3 yX3_weightOnDeck wsX3_weightOnDeck) := goodIn_app (goodIn_of _ (by decide +kernel)) ggX3_tensionOf_X3_weightOnDeck
set_option maxRecDepth 20000 in
theorem ggX3_tensionOf_X3_list : GoodIn wsX3_tensionOf wsX3_list := goodIn_r _ [31, 20, 21, 32, 33, 34, 35, 22, 23, 24, 25, 26, 27, 48, 49, 50, 51, 52, 53, 54, 55, 56, 57, 58, 59, 60, 61, 62, 63, 64, 65] (by decide +kernel) (by decide +kernel)
set_option maxRecDepth 20000 in
theorem gX3_tensionOf_X3_list : GoodIn wsX3_tensionOf (wsV RX3 109 RX3 yX3_list wsX3_list) := goodIn_app (goodIn_of _ (by decide +kernel)) ggX3_tensionOf_X3_list
set_option maxRecDepth 20000 in
theorem ggX3_tensionOf_X4_tensionOf : GoodIn wsX3_tensionOf wsX4_tensionOf := goodIn_r _ [40, 41, 42, 34, 43, 44, 45, 46, 47, 66, 67, 68, 69] (by decide +kernel) (by decide +kernel)
set_option maxRecDepth 20000 in
theorem gX3_tensionOf_X4_tensionOf : GoodIn wsX3_tensionOf (wsV RX3 112 RX4 yX4_tensionOf wsX4_tensionOf) := goodIn_app (goodIn_of _ (by decide +kernel)) ggX3_tensionOf_X4_tensionOf
theorem dX3_tensionOf_0 : decode cX3_tensionOf 0 = .ok (.aload_n 0, 1) := by decide +kernel
theorem dX3_tensionOf_1 : decode cX3_tensionOf 1 = .ok (.getfield 46, 3) := by decide +kernel
theorem dX3_tensionOf_4 : decode cX3_tensionOf 4 = .ok (.iload_n 1, 1) := by decide +kernel
theorem dX3_tensionOf_5 : decode cX3_tensionOf 5 = .ok (.aload_n 0, 1) := by decide +kernel
theorem dX3_tensionOf_6 : decode cX3_tensionOf 6 = .ok (.iconst 0, 1) := by decide +kernel
theorem dX3_tensionOf_7 : decode cX3_tensionOf 7 = .ok (.invokevirtual 103, 3) := by decide +kernel
theorem dX3_tensionOf_10 : decode cX3_tensionOf 10 = .ok (.aload_n 0, 1) := by decide +kernel
theorem dX3_tensionOf_11 : decode cX3_tensionOf 11 = .ok (.invokevirtual 106, 3) := by decide +kernel
theorem dX3_tensionOf_14 : decode cX3_tensionOf 14 = .ok (.aload_n 0, 1) := by decide +kernel
theorem dX3_tensionOf_15 : decode cX3_tensionOf 15 = .ok (.invokevirtual 109, 3) := by decide +kernel
theorem dX3_tensionOf_18 : decode cX3_tensionOf 18 = .ok (.invokevirtual 112, 3) := by decide +kernel
theorem dX3_tensionOf_21 : decode cX3_tensionOf 21 = .ok (.ireturn, 1) := by decide +kernel
set_option maxRecDepth 20000 in
theorem ggX3_reserveOf_X3_strengthOf : GoodIn wsX3_reserveOf wsX3_strengthOf := goodIn_r _ [5, 6, 7, 8, 9, 10, 11, 12, 13, 14, 15, 16, 17, 18, 19, 20, 62, 63, 64, 65, 66, 67, 68, 69, 70, 71, 72, 73, 74, 75, 76, 77, 78, 79] (by decide +kernel) (by decide +kernel)
set_option maxRecDepth 20000 in
theorem gX3_reserveOf_X3_strengthOf : GoodIn wsX3_reserveOf (wsV RX3 116 RX3 yX3_strengthOf wsX3_strengthOf) := goodIn_app (goodIn_of _ (by decide +kernel)) ggX3_reserveOf_X3_strengthOf
set_option maxRecDepth 20000 in
theorem ggX3_reserveOf_X3_tensionOf : GoodIn wsX3_reserveOf wsX3_tensionOf := goodIn_r _ [24, 6, 25, 26, 27, 4, 28, 29, 30, 31, 32, 33, 34, 8, 9, 10, 35, 36, 37, 38, 39, 40, 41, 42, 43, 44, 45, 46, 47, 48, 49, 50, 51, 52, 19, 53, 54, 55, 56, 14, 57, 58, 59, 60, 61, 17, 18, 20, 62, 63, 64, 65, 66, 67, 68, 69, 70, 71, 72, 73, 74, 75, 80, 81, 82, 83, 76, 77, 78, 79] (by decide +kernel) (by decide +kernel)
set_option maxRecDepth 20000 in
theorem gX3_reserveOf_X3_tensionOf : GoodIn wsX3_reserveOf (wsV RX3 118 RX3 yX3_tensionOf wsX3_tensionOf) := goodIn_app (goodIn_of _ (by decide +kernel)) ggX3_reserveOf_X3_tensionOf
theorem dX3_reserveOf_0 : decode cX3_reserveOf 0 = .ok (.aload_n 0, 1) := by decide +kernel
theorem dX3_reserveOf_1 : decode cX3_reserveOf 1 = .ok (.iload_n 1, 1) := by decide +kernel
theorem dX3_reserveOf_2 : decode cX3_reserveOf 2 = .ok (.invokevirtual 116, 3) := by decide +kernel
theorem dX3_reserveOf_5 : decode cX3_reserveOf 5 = .ok (.aload_n 0, 1) := by decide +kernel
theorem dX3_reserveOf_6 : decode cX3_reserveOf 6 = .ok (.iload_n 1, 1) := by decide +kernel
theorem dX3_reserveOf_7 : decode cX3_reserveOf 7 = .ok (.invokevirtual 118, 3) := by decide +kernel
theorem dX3_reserveOf_10 : decode cX3_reserveOf 10 = .ok (.isub, 1) := by decide +kernel
theorem dX3_reserveOf_11 : decode cX3_reserveOf 11 = .ok (.ireturn, 1) := by decide +kernel
set_option maxRecDepth 20000 in
theorem ggX3_greatestTension_X3_currentAhead : GoodIn wsX3_greatestTension wsX3_currentAhead := goodIn_r _ [6, 7, 8, 9, 10, 11, 12, 13, 14, 15, 52, 53, 54, 55, 56, 57, 58, 59, 60, 61, 62, 63, 64, 65] (by decide +kernel) (by decide +kernel)
set_option maxRecDepth 20000 in
theorem gX3_greatestTension_X3_currentAhead : GoodIn wsX3_greatestTension (wsV RX3 103 RX3 yX3_currentAhead wsX3_currentAhead) := goodIn_app (goodIn_of _ (by decide +kernel)) ggX3_greatestTension_X3_currentAhead
set_option maxRecDepth 20000 in
theorem ggX3_greatestTension_X3_weightOnDeck : GoodIn wsX3_greatestTension wsX3_weightOnDeck := goodIn_r _ [19, 20, 21, 22, 23, 24, 25, 26, 27, 52, 53, 54, 55, 56, 57, 58, 59, 60, 61, 62, 63, 64, 65, 66, 67, 68, 69] (by decide +kernel) (by decide +kernel)
set_option maxRecDepth 20000 in
theorem gX3_greatestTension_X3_weightOnDeck : GoodIn wsX3_greatestTension (wsV RX3 106 RX3 yX3_weightOnDeck wsX3_weightOnDeck) := goodIn_app (goodIn_of _ (by decide +kernel)) ggX3_greatestTension_X3_weightOnDeck
set_option maxRecDepth 20000 in
theorem ggX3_greatestTension_X3_list : GoodIn wsX3_greatestTension wsX3_list := goodIn_r _ [31, 20, 21, 32, 33, 34, 35, 22, 23, 24, 25, 26, 27, 52, 53, 54, 55, 56, 57, 58, 59, 60, 61, 62, 63, 64, 65, 66, 67, 68, 69] (by decide +kernel) (by decide +kernel)
set_option maxRecDepth 20000 in
theorem gX3_greatestTension_X3_list : GoodIn wsX3_greatestTension (wsV RX3 109 RX3 yX3_list wsX3_list) := goodIn_app (goodIn_of _ (by decide +kernel)) ggX3_greatestTension_X3_list
set_option maxRecDepth 20000 in
theorem ggX3_greatestTension_X4_greatestTension : GoodIn wsX3_greatestTension wsX4_greatestTension := goodIn_r _ [40, 41, 42, 34, 43, 44, 45, 46, 39, 47, 48, 49, 50, 51, 70, 71, 72, 73] (by decide +kernel) (by decide +kernel)
set_option maxRecDepth 20000 in
theorem gX3_greatestTension_X4_greatestTension : GoodIn wsX3_greatestTension (wsV RX3 120 RX4 yX4_greatestTension wsX4_greatestTension) := goodIn_app (goodIn_of _ (by decide +kernel)) ggX3_greatestTension_X4_greatestTension
theorem dX3_greatestTension_0 : decode cX3_greatestTension 0 = .ok (.aload_n 0, 1) := by decide +kernel
theorem dX3_greatestTension_1 : decode cX3_greatestTension 1 = .ok (.getfield 46, 3) := by decide +kernel
theorem dX3_greatestTension_4 : decode cX3_greatestTension 4 = .ok (.aload_n 0, 1) := by decide +kernel
theorem dX3_greatestTension_5 : decode cX3_greatestTension 5 = .ok (.iload_n 1, 1) := by decide +kernel
theorem dX3_greatestTension_6 : decode cX3_greatestTension 6 = .ok (.invokevirtual 103, 3) := by decide +kernel
theorem dX3_greatestTension_9 : decode cX3_greatestTension 9 = .ok (.aload_n 0, 1) := by decide +kernel
theorem dX3_greatestTension_10 : decode cX3_greatestTension 10 = .ok (.invokevirtual 106, 3) := by decide +kernel
theorem dX3_greatestTension_13 : decode cX3_greatestTension 13 = .ok (.aload_n 0, 1) := by decide +kernel
theorem dX3_greatestTension_14 : decode cX3_greatestTension 14 = .ok (.invokevirtual 109, 3) := by decide +kernel
theorem dX3_greatestTension_17 : decode cX3_greatestTension 17 = .ok (.invokevirtual 120, 3) := by decide +kernel
theorem dX3_greatestTension_20 : decode cX3_greatestTension 20 = .ok (.ireturn, 1) := by decide +kernel
set_option maxRecDepth 20000 in
theorem ggX3_reason_X3_list : GoodIn wsX3_reason wsX3_list := goodIn_r _ [8, 9, 10, 11, 12, 13, 14, 15, 16, 17, 18, 19, 20, 59, 60, 61, 62, 63, 64, 65, 66, 67, 68, 69, 70, 71, 72, 77, 78, 79, 80] (by decide +kernel) (by decide +kernel)
set_option maxRecDepth 20000 in
theorem gX3_reason_X3_list : GoodIn wsX3_reason (wsV RX3 109 RX3 yX3_list wsX3_list) := goodIn_app (goodIn_of _ (by decide +kernel)) ggX3_reason_X3_list
set_option maxRecDepth 20000 in
theorem ggX3_reason_X5_at : GoodIn wsX3_reason wsX5_at := goodIn_r _ [23] (by decide +kernel) (by decide +kernel)
set_option maxRecDepth 20000 in
theorem gX3_reason_X5_at_n96 : GoodIn wsX3_reason (wsX5_at) := ggX3_reason_X5_at
set_option maxRecDepth 20000 in
theorem ggX3_reason_X3_currentAhead : GoodIn wsX3_reason wsX3_currentAhead := goodIn_r _ [27, 28, 29, 30, 31, 32, 33, 21, 22, 23, 59, 60, 61, 62, 63, 64, 65, 66, 67, 68, 69, 70, 71, 72] (by decide +kernel) (by decide +kernel)
set_option maxRecDepth 20000 in
theorem gX3_reason_X3_currentAhead : GoodIn wsX3_reason (wsV RX3 103 RX3 yX3_currentAhead wsX3_currentAhead) := goodIn_app (goodIn_of _ (by decide +kernel)) ggX3_reason_X3_currentAhead
set_option maxRecDepth 20000 in
theorem ggX3_reason_X3_weightOnDeck : GoodIn wsX3_reason wsX3_weightOnDeck := goodIn_r _ [37, 9, 10, 15, 16, 17, 18, 19, 20, 59, 60, 61, 62, 63, 64, 65, 66, 67, 68, 69, 70, 71, 72, 77, 78, 79, 80] (by decide +kernel) (by decide +kernel)
set_option maxRecDepth 20000 in
theorem gX3_reason_X3_weightOnDeck : GoodIn wsX3_reason (wsV RX3 106 RX3 yX3_weightOnDeck wsX3_weightOnDeck) := goodIn_app (goodIn_of _ (by decide +kernel)) ggX3_reason_X3_weightOnDeck
set_option maxRecDepth 20000 in
theorem ggX3_reason_X4_canBear : GoodIn wsX3_reason wsX4_canBear := goodIn_r _ [42, 43, 44, 45, 41, 46, 47, 48, 13, 49, 50, 51, 52, 53, 54, 55, 56, 57, 58, 21, 22, 23, 73, 74, 75, 76] (by decide +kernel) (by decide +kernel)
set_option maxRecDepth 20000 in
theorem gX3_reason_X4_canBear : GoodIn wsX3_reason (wsV RX3 127 RX4 yX4_canBear wsX4_canBear) := goodIn_app (goodIn_of _ (by decide +kernel)) ggX3_reason_X4_canBear
theorem dX3_reason_0 : decode cX3_reason 0 = .ok (.aload_n 0, 1) := by decide +kernel
theorem dX3_reason_1 : decode cX3_reason 1 = .ok (.invokevirtual 109, 3) := by decide +kernel
theorem dX3_reason_4 : decode cX3_reason 4 = .ok (.aload_n 0, 1) := by decide +kernel
theorem dX3_reason_5 : decode cX3_reason 5 = .ok (.getfield 15, 3) := by decide +kernel
theorem dX3_reason_8 : decode cX3_reason 8 = .ok (.iconst 1, 1) := by decide +kernel
theorem dX3_reason_9 : decode cX3_reason 9 = .ok (.invokestatic 96, 3) := by decide +kernel
theorem dX3_reason_12 : decode cX3_reason 12 = .ok (.if_icmp .le 5, 3) := by decide +kernel
theorem dX3_reason_15 : decode cX3_reason 15 = .ok (.iconst 1, 1) := by decide +kernel
theorem dX3_reason_16 : decode cX3_reason 16 = .ok (.ireturn, 1) := by decide +kernel
theorem dX3_reason_17 : decode cX3_reason 17 = .ok (.aload_n 0, 1) := by decide +kernel
theorem dX3_reason_18 : decode cX3_reason 18 = .ok (.getfield 46, 3) := by decide +kernel
theorem dX3_reason_21 : decode cX3_reason 21 = .ok (.getfield 124, 3) := by decide +kernel
theorem dX3_reason_24 : decode cX3_reason 24 = .ok (.bipush 25, 2) := by decide +kernel
theorem dX3_reason_26 : decode cX3_reason 26 = .ok (.if_icmp .le 5, 3) := by decide +kernel
theorem dX3_reason_29 : decode cX3_reason 29 = .ok (.iconst 2, 1) := by decide +kernel
theorem dX3_reason_30 : decode cX3_reason 30 = .ok (.ireturn, 1) := by decide +kernel
theorem dX3_reason_31 : decode cX3_reason 31 = .ok (.aload_n 0, 1) := by decide +kernel
theorem dX3_reason_32 : decode cX3_reason 32 = .ok (.getfield 46, 3) := by decide +kernel
theorem dX3_reason_35 : decode cX3_reason 35 = .ok (.aload_n 0, 1) := by decide +kernel
theorem dX3_reason_36 : decode cX3_reason 36 = .ok (.iconst 0, 1) := by decide +kernel
theorem dX3_reason_37 : decode cX3_reason 37 = .ok (.invokevirtual 103, 3) := by decide +kernel
theorem dX3_reason_40 : decode cX3_reason 40 = .ok (.aload_n 0, 1) := by decide +kernel
theorem dX3_reason_41 : decode cX3_reason 41 = .ok (.invokevirtual 106, 3) := by decide +kernel
theorem dX3_reason_44 : decode cX3_reason 44 = .ok (.aload_n 0, 1) := by decide +kernel
theorem dX3_reason_45 : decode cX3_reason 45 = .ok (.invokevirtual 109, 3) := by decide +kernel
theorem dX3_reason_48 : decode cX3_reason 48 = .ok (.aload_n 0, 1) := by decide +kernel
theorem dX3_reason_49 : decode cX3_reason 49 = .ok (.getfield 15, 3) := by decide +kernel
theorem dX3_reason_52 : decode cX3_reason 52 = .ok (.iconst 0, 1) := by decide +kernel
theorem dX3_reason_53 : decode cX3_reason 53 = .ok (.invokestatic 96, 3) := by decide +kernel
theorem dX3_reason_56 : decode cX3_reason 56 = .ok (.invokevirtual 127, 3) := by decide +kernel
theorem dX3_reason_59 : decode cX3_reason 59 = .ok (.istore_n 1, 1) := by decide +kernel
theorem dX3_reason_60 : decode cX3_reason 60 = .ok (.iload_n 1, 1) := by decide +kernel
theorem dX3_reason_61 : decode cX3_reason 61 = .ok (.ifCond .eq 7, 3) := by decide +kernel
theorem dX3_reason_64 : decode cX3_reason 64 = .ok (.iconst 0, 1) := by decide +kernel
theorem dX3_reason_65 : decode cX3_reason 65 = .ok (.goto 4, 3) := by decide +kernel
theorem dX3_reason_68 : decode cX3_reason 68 = .ok (.iconst 3, 1) := by decide +kernel
theorem dX3_reason_69 : decode cX3_reason 69 = .ok (.ireturn, 1) := by decide +kernel
set_option maxRecDepth 20000 in
theorem ggX3_canArrive_X3_lineAtBank : GoodIn wsX3_canArrive wsX3_lineAtBank := goodIn_r _ [5, 6, 7, 15, 16, 17, 18, 19, 20, 21, 22, 23, 24, 25, 26, 27, 28] (by decide +kernel) (by decide +kernel)
set_option maxRecDepth 20000 in
theorem gX3_canArrive_X3_lineAtBank : GoodIn wsX3_canArrive (wsV RX3 131 RX3 yX3_lineAtBank wsX3_lineAtBank) := goodIn_app (goodIn_of _ (by decide +kernel)) ggX3_canArrive_X3_lineAtBank
set_option maxRecDepth 20000 in
theorem ggX3_canArrive_X1_isFull : GoodIn wsX3_canArrive wsX1_isFull := goodIn_r _ [12, 13, 14, 29, 30, 31, 32] (by decide +kernel) (by decide +kernel)
set_option maxRecDepth 20000 in
theorem gX3_canArrive_X1_isFull : GoodIn wsX3_canArrive (wsV RX3 135 RX1 yX1_isFull wsX1_isFull) := goodIn_app (goodIn_of _ (by decide +kernel)) ggX3_canArrive_X1_isFull
theorem dX3_canArrive_0 : decode cX3_canArrive 0 = .ok (.aload_n 0, 1) := by decide +kernel
theorem dX3_canArrive_1 : decode cX3_canArrive 1 = .ok (.iload_n 1, 1) := by decide +kernel
theorem dX3_canArrive_2 : decode cX3_canArrive 2 = .ok (.invokevirtual 131, 3) := by decide +kernel
theorem dX3_canArrive_5 : decode cX3_canArrive 5 = .ok (.invokevirtual 135, 3) := by decide +kernel
theorem dX3_canArrive_8 : decode cX3_canArrive 8 = .ok (.ifCond .ne 7, 3) := by decide +kernel
theorem dX3_canArrive_11 : decode cX3_canArrive 11 = .ok (.iconst 1, 1) := by decide +kernel
theorem dX3_canArrive_12 : decode cX3_canArrive 12 = .ok (.goto 4, 3) := by decide +kernel
theorem dX3_canArrive_15 : decode cX3_canArrive 15 = .ok (.iconst 0, 1) := by decide +kernel
theorem dX3_canArrive_16 : decode cX3_canArrive 16 = .ok (.ireturn, 1) := by decide +kernel
set_option maxRecDepth 20000 in
theorem ggX3_letArrive_X3_lineAtBank : GoodIn wsX3_letArrive wsX3_lineAtBank := goodIn_r _ [6, 7, 8, 25, 26, 27, 28, 29, 30, 31, 32, 33, 34, 35, 36, 37, 38] (by decide +kernel) (by decide +kernel)
set_option maxRecDepth 20000 in
theorem gX3_letArrive_X3_lineAtBank : GoodIn wsX3_letArrive (wsV RX3 131 RX3 yX3_lineAtBank wsX3_lineAtBank) := goodIn_app (goodIn_of _ (by decide +kernel)) ggX3_letArrive_X3_lineAtBank
set_option maxRecDepth 20000 in
theorem ggX3_letArrive_X1_add : GoodIn wsX3_letArrive wsX1_add := goodIn_r _ [13, 14, 15, 16, 17, 18, 19, 20, 12, 21, 22, 23, 24, 39, 40, 41, 42] (by decide +kernel) (by decide +kernel)
set_option maxRecDepth 20000 in
theorem gX3_letArrive_X1_add : GoodIn wsX3_letArrive (wsV RX3 139 RX1 yX1_add wsX1_add) := goodIn_app (goodIn_of _ (by decide +kernel)) ggX3_letArrive_X1_add
theorem dX3_letArrive_0 : decode cX3_letArrive 0 = .ok (.aload_n 0, 1) := by decide +kernel
theorem dX3_letArrive_1 : decode cX3_letArrive 1 = .ok (.iload_n 1, 1) := by decide +kernel
theorem dX3_letArrive_2 : decode cX3_letArrive 2 = .ok (.invokevirtual 131, 3) := by decide +kernel
theorem dX3_letArrive_5 : decode cX3_letArrive 5 = .ok (.iload_n 2, 1) := by decide +kernel
theorem dX3_letArrive_6 : decode cX3_letArrive 6 = .ok (.iload_n 1, 1) := by decide +kernel
theorem dX3_letArrive_7 : decode cX3_letArrive 7 = .ok (.invokevirtual 139, 3) := by decide +kernel
theorem dX3_letArrive_10 : decode cX3_letArrive 10 = .ok (.aload_n 0, 1) := by decide +kernel
theorem dX3_letArrive_11 : decode cX3_letArrive 11 = .ok (.dup, 1) := by decide +kernel
theorem dX3_letArrive_12 : decode cX3_letArrive 12 = .ok (.getfield 67, 3) := by decide +kernel
theorem dX3_letArrive_15 : decode cX3_letArrive 15 = .ok (.iconst 1, 1) := by decide +kernel
theorem dX3_letArrive_16 : decode cX3_letArrive 16 = .ok (.iadd, 1) := by decide +kernel
theorem dX3_letArrive_17 : decode cX3_letArrive 17 = .ok (.putfield 67, 3) := by decide +kernel
theorem dX3_letArrive_20 : decode cX3_letArrive 20 = .ok (.return_, 1) := by decide +kernel
set_option maxRecDepth 20000 in
theorem ggX3_canDriveOn_X3_lineAtBank : GoodIn wsX3_canDriveOn wsX3_lineAtBank := goodIn_r _ [6, 7, 8, 26, 27, 28, 29, 30, 31, 32, 33, 34, 35, 36, 37, 38, 39] (by decide +kernel) (by decide +kernel)
set_option maxRecDepth 20000 in
theorem gX3_canDriveOn_X3_lineAtBank : GoodIn wsX3_canDriveOn (wsV RX3 131 RX3 yX3_lineAtBank wsX3_lineAtBank) := goodIn_app (goodIn_of _ (by decide +kernel)) ggX3_canDriveOn_X3_lineAtBank
set_option maxRecDepth 20000 in
theorem ggX3_canDriveOn_X1_size : GoodIn wsX3_canDriveOn wsX1_size := goodIn_r _ [13, 14, 40, 41, 42, 43] (by decide +kernel) (by decide +kernel)
set_option maxRecDepth 20000 in
theorem gX3_canDriveOn_X1_size : GoodIn wsX3_canDriveOn (wsV RX3 79 RX1 yX1_size wsX1_size) := goodIn_app (goodIn_of _ (by decide +kernel)) ggX3_canDriveOn_X1_size
set_option maxRecDepth 20000 in
theorem ggX3_canDriveOn_X3_lineOnLane : GoodIn wsX3_canDriveOn wsX3_lineOnLane := goodIn_r _ [18, 19, 20, 26, 27, 28, 29, 30, 31, 32, 33, 34, 35, 36, 37, 38, 39] (by decide +kernel) (by decide +kernel)
set_option maxRecDepth 20000 in
theorem gX3_canDriveOn_X3_lineOnLane : GoodIn wsX3_canDriveOn (wsV RX3 143 RX3 yX3_lineOnLane wsX3_lineOnLane) := goodIn_app (goodIn_of _ (by decide +kernel)) ggX3_canDriveOn_X3_lineOnLane
set_option maxRecDepth 20000 in
theorem ggX3_canDriveOn_X1_isFull : GoodIn wsX3_canDriveOn wsX1_isFull := goodIn_r _ [24, 14, 25, 40, 41, 42, 43] (by decide +kernel) (by decide +kernel)
set_option maxRecDepth 20000 in
theorem gX3_canDriveOn_X1_isFull : GoodIn wsX3_canDriveOn (wsV RX3 135 RX1 yX1_isFull wsX1_isFull) := goodIn_app (goodIn_of _ (by decide +kernel)) ggX3_canDriveOn_X1_isFull
theorem dX3_canDriveOn_0 : decode cX3_canDriveOn 0 = .ok (.aload_n 0, 1) := by decide +kernel
theorem dX3_canDriveOn_1 : decode cX3_canDriveOn 1 = .ok (.aload_n 0, 1) := by decide +kernel
theorem dX3_canDriveOn_2 : decode cX3_canDriveOn 2 = .ok (.getfield 61, 3) := by decide +kernel
theorem dX3_canDriveOn_5 : decode cX3_canDriveOn 5 = .ok (.invokevirtual 131, 3) := by decide +kernel
theorem dX3_canDriveOn_8 : decode cX3_canDriveOn 8 = .ok (.invokevirtual 79, 3) := by decide +kernel
theorem dX3_canDriveOn_11 : decode cX3_canDriveOn 11 = .ok (.ifCond .le 18, 3) := by decide +kernel
theorem dX3_canDriveOn_14 : decode cX3_canDriveOn 14 = .ok (.aload_n 0, 1) := by decide +kernel
theorem dX3_canDriveOn_15 : decode cX3_canDriveOn 15 = .ok (.iload_n 1, 1) := by decide +kernel
theorem dX3_canDriveOn_16 : decode cX3_canDriveOn 16 = .ok (.invokevirtual 143, 3) := by decide +kernel
theorem dX3_canDriveOn_19 : decode cX3_canDriveOn 19 = .ok (.invokevirtual 135, 3) := by decide +kernel
theorem dX3_canDriveOn_22 : decode cX3_canDriveOn 22 = .ok (.ifCond .ne 7, 3) := by decide +kernel
theorem dX3_canDriveOn_25 : decode cX3_canDriveOn 25 = .ok (.iconst 1, 1) := by decide +kernel
theorem dX3_canDriveOn_26 : decode cX3_canDriveOn 26 = .ok (.goto 4, 3) := by decide +kernel
theorem dX3_canDriveOn_29 : decode cX3_canDriveOn 29 = .ok (.iconst 0, 1) := by decide +kernel
theorem dX3_canDriveOn_30 : decode cX3_canDriveOn 30 = .ok (.ireturn, 1) := by decide +kernel
set_option maxRecDepth 20000 in
theorem ggX3_driveOn_X3_lineAtBank : GoodIn wsX3_driveOn wsX3_lineAtBank := goodIn_r _ [6, 7, 8, 41, 42, 43, 44, 45, 46, 47, 48, 49, 50, 51, 52, 53, 54] (by decide +kernel) (by decide +kernel)
set_option maxRecDepth 20000 in
theorem gX3_driveOn_X3_lineAtBank : GoodIn wsX3_driveOn (wsV RX3 131 RX3 yX3_lineAtBank wsX3_lineAtBank) := goodIn_app (goodIn_of _ (by decide +kernel)) ggX3_driveOn_X3_lineAtBank
set_option maxRecDepth 20000 in
theorem ggX3_driveOn_X1_weightOf : GoodIn wsX3_driveOn wsX1_weightOf := goodIn_r _ [13, 14, 15, 16, 17, 18, 55, 56, 57, 58] (by decide +kernel) (by decide +kernel)
set_option maxRecDepth 20000 in
theorem gX3_driveOn_X1_weightOf : GoodIn wsX3_driveOn (wsV RX3 146 RX1 yX1_weightOf wsX1_weightOf) := goodIn_app (goodIn_of _ (by decide +kernel)) ggX3_driveOn_X1_weightOf
set_option maxRecDepth 20000 in
theorem ggX3_driveOn_X1_removeFirst : GoodIn wsX3_driveOn wsX1_removeFirst := goodIn_r _ [22, 14, 23, 15, 24, 16, 17, 18, 25, 26, 55, 56, 57, 58] (by decide +kernel) (by decide +kernel)
set_option maxRecDepth 20000 in
theorem gX3_driveOn_X1_removeFirst : GoodIn wsX3_driveOn (wsV RX3 149 RX1 yX1_removeFirst wsX1_removeFirst) := goodIn_app (goodIn_of _ (by decide +kernel)) ggX3_driveOn_X1_removeFirst
set_option maxRecDepth 20000 in
theorem ggX3_driveOn_X3_lineOnLane : GoodIn wsX3_driveOn wsX3_lineOnLane := goodIn_r _ [30, 31, 32, 41, 42, 43, 44, 45, 46, 47, 48, 49, 50, 51, 52, 53, 54] (by decide +kernel) (by decide +kernel)
set_option maxRecDepth 20000 in
theorem gX3_driveOn_X3_lineOnLane : GoodIn wsX3_driveOn (wsV RX3 143 RX3 yX3_lineOnLane wsX3_lineOnLane) := goodIn_app (goodIn_of _ (by decide +kernel)) ggX3_driveOn_X3_lineOnLane
set_option maxRecDepth 20000 in
theorem ggX3_driveOn_X1_add : GoodIn wsX3_driveOn wsX1_add := goodIn_r _ [36, 15, 14, 24, 23, 37, 38, 39, 12, 40, 25, 17, 26, 55, 56, 57, 58] (by decide +kernel) (by decide +kernel)
set_option maxRecDepth 20000 in
theorem gX3_driveOn_X1_add : GoodIn wsX3_driveOn (wsV RX3 139 RX1 yX1_add wsX1_add) := goodIn_app (goodIn_of _ (by decide +kernel)) ggX3_driveOn_X1_add
theorem dX3_driveOn_0 : decode cX3_driveOn 0 = .ok (.aload_n 0, 1) := by decide +kernel
theorem dX3_driveOn_1 : decode cX3_driveOn 1 = .ok (.aload_n 0, 1) := by decide +kernel
theorem dX3_driveOn_2 : decode cX3_driveOn 2 = .ok (.getfield 61, 3) := by decide +kernel
theorem dX3_driveOn_5 : decode cX3_driveOn 5 = .ok (.invokevirtual 131, 3) := by decide +kernel
theorem dX3_driveOn_8 : decode cX3_driveOn 8 = .ok (.astore_n 2, 1) := by decide +kernel
theorem dX3_driveOn_9 : decode cX3_driveOn 9 = .ok (.aload_n 2, 1) := by decide +kernel
theorem dX3_driveOn_10 : decode cX3_driveOn 10 = .ok (.iconst 0, 1) := by decide +kernel
theorem dX3_driveOn_11 : decode cX3_driveOn 11 = .ok (.invokevirtual 146, 3) := by decide +kernel
theorem dX3_driveOn_14 : decode cX3_driveOn 14 = .ok (.istore_n 3, 1) := by decide +kernel
theorem dX3_driveOn_15 : decode cX3_driveOn 15 = .ok (.aload_n 2, 1) := by decide +kernel
theorem dX3_driveOn_16 : decode cX3_driveOn 16 = .ok (.invokevirtual 149, 3) := by decide +kernel
theorem dX3_driveOn_19 : decode cX3_driveOn 19 = .ok (.aload_n 0, 1) := by decide +kernel
theorem dX3_driveOn_20 : decode cX3_driveOn 20 = .ok (.iload_n 1, 1) := by decide +kernel
theorem dX3_driveOn_21 : decode cX3_driveOn 21 = .ok (.invokevirtual 143, 3) := by decide +kernel
theorem dX3_driveOn_24 : decode cX3_driveOn 24 = .ok (.iload_n 3, 1) := by decide +kernel
theorem dX3_driveOn_25 : decode cX3_driveOn 25 = .ok (.aload_n 0, 1) := by decide +kernel
theorem dX3_driveOn_26 : decode cX3_driveOn 26 = .ok (.getfield 61, 3) := by decide +kernel
theorem dX3_driveOn_29 : decode cX3_driveOn 29 = .ok (.invokevirtual 139, 3) := by decide +kernel
theorem dX3_driveOn_32 : decode cX3_driveOn 32 = .ok (.iload_n 3, 1) := by decide +kernel
theorem dX3_driveOn_33 : decode cX3_driveOn 33 = .ok (.ireturn, 1) := by decide +kernel
set_option maxRecDepth 20000 in
theorem ggX3_driveOff_X1_countOfBank : GoodIn wsX3_driveOff wsX1_countOfBank := goodIn_r _ [10, 11, 12, 13, 14, 15, 44, 45, 46, 47] (by decide +kernel) (by decide +kernel)
set_option maxRecDepth 20000 in
theorem gX3_driveOff_X1_countOfBank : GoodIn wsX3_driveOff (wsV RX3 152 RX1 yX1_countOfBank wsX1_countOfBank) := goodIn_app (goodIn_of _ (by decide +kernel)) ggX3_driveOff_X1_countOfBank
set_option maxRecDepth 20000 in
theorem ggX3_driveOff_X3_vehiclesOnDeck : GoodIn wsX3_driveOff wsX3_vehiclesOnDeck := goodIn_r _ [20, 1, 3, 21, 22, 23, 9, 24, 11, 30, 31, 32, 33, 34, 35, 36, 37, 38, 39, 40, 41, 42, 43, 44, 45, 46, 47] (by decide +kernel) (by decide +kernel)
set_option maxRecDepth 20000 in
theorem gX3_driveOff_X3_vehiclesOnDeck : GoodIn wsX3_driveOff (wsV RX3 155 RX3 yX3_vehiclesOnDeck wsX3_vehiclesOnDeck) := goodIn_app (goodIn_of _ (by decide +kernel)) ggX3_driveOff_X3_vehiclesOnDeck
set_option maxRecDepth 20000 in
theorem ggX3_driveOff_X1_clear : GoodIn wsX3_driveOff wsX1_clear := goodIn_r _ [28, 11, 29, 44, 45, 46, 47] (by decide +kernel) (by decide +kernel)
set_option maxRecDepth 20000 in
theorem gX3_driveOff_X1_clear : GoodIn wsX3_driveOff (wsV RX3 158 RX1 yX1_clear wsX1_clear) := goodIn_app (goodIn_of _ (by decide +kernel)) ggX3_driveOff_X1_clear
theorem dX3_driveOff_0 : decode cX3_driveOff 0 = .ok (.aload_n 0, 1) := by decide +kernel
theorem dX3_driveOff_1 : decode cX3_driveOff 1 = .ok (.getfield 37, 3) := by decide +kernel
theorem dX3_driveOff_4 : decode cX3_driveOff 4 = .ok (.aload_n 0, 1) := by decide +kernel
theorem dX3_driveOff_5 : decode cX3_driveOff 5 = .ok (.getfield 61, 3) := by decide +kernel
theorem dX3_driveOff_8 : decode cX3_driveOff 8 = .ok (.invokevirtual 152, 3) := by decide +kernel
theorem dX3_driveOff_11 : decode cX3_driveOff 11 = .ok (.aload_n 0, 1) := by decide +kernel
theorem dX3_driveOff_12 : decode cX3_driveOff 12 = .ok (.getfield 40, 3) := by decide +kernel
theorem dX3_driveOff_15 : decode cX3_driveOff 15 = .ok (.aload_n 0, 1) := by decide +kernel
theorem dX3_driveOff_16 : decode cX3_driveOff 16 = .ok (.getfield 61, 3) := by decide +kernel
theorem dX3_driveOff_19 : decode cX3_driveOff 19 = .ok (.invokevirtual 152, 3) := by decide +kernel
theorem dX3_driveOff_22 : decode cX3_driveOff 22 = .ok (.iadd, 1) := by decide +kernel
theorem dX3_driveOff_23 : decode cX3_driveOff 23 = .ok (.istore_n 1, 1) := by decide +kernel
theorem dX3_driveOff_24 : decode cX3_driveOff 24 = .ok (.aload_n 0, 1) := by decide +kernel
theorem dX3_driveOff_25 : decode cX3_driveOff 25 = .ok (.invokevirtual 155, 3) := by decide +kernel
theorem dX3_driveOff_28 : decode cX3_driveOff 28 = .ok (.iload_n 1, 1) := by decide +kernel
theorem dX3_driveOff_29 : decode cX3_driveOff 29 = .ok (.isub, 1) := by decide +kernel
theorem dX3_driveOff_30 : decode cX3_driveOff 30 = .ok (.istore_n 2, 1) := by decide +kernel
theorem dX3_driveOff_31 : decode cX3_driveOff 31 = .ok (.aload_n 0, 1) := by decide +kernel
theorem dX3_driveOff_32 : decode cX3_driveOff 32 = .ok (.dup, 1) := by decide +kernel
theorem dX3_driveOff_33 : decode cX3_driveOff 33 = .ok (.getfield 70, 3) := by decide +kernel
theorem dX3_driveOff_36 : decode cX3_driveOff 36 = .ok (.iload_n 2, 1) := by decide +kernel
theorem dX3_driveOff_37 : decode cX3_driveOff 37 = .ok (.iadd, 1) := by decide +kernel
theorem dX3_driveOff_38 : decode cX3_driveOff 38 = .ok (.putfield 70, 3) := by decide +kernel
theorem dX3_driveOff_41 : decode cX3_driveOff 41 = .ok (.aload_n 0, 1) := by decide +kernel
theorem dX3_driveOff_42 : decode cX3_driveOff 42 = .ok (.dup, 1) := by decide +kernel
theorem dX3_driveOff_43 : decode cX3_driveOff 43 = .ok (.getfield 73, 3) := by decide +kernel
theorem dX3_driveOff_46 : decode cX3_driveOff 46 = .ok (.iload_n 1, 1) := by decide +kernel
theorem dX3_driveOff_47 : decode cX3_driveOff 47 = .ok (.iadd, 1) := by decide +kernel
theorem dX3_driveOff_48 : decode cX3_driveOff 48 = .ok (.putfield 73, 3) := by decide +kernel
theorem dX3_driveOff_51 : decode cX3_driveOff 51 = .ok (.aload_n 0, 1) := by decide +kernel
theorem dX3_driveOff_52 : decode cX3_driveOff 52 = .ok (.getfield 37, 3) := by decide +kernel
theorem dX3_driveOff_55 : decode cX3_driveOff 55 = .ok (.invokevirtual 158, 3) := by decide +kernel
theorem dX3_driveOff_58 : decode cX3_driveOff 58 = .ok (.aload_n 0, 1) := by decide +kernel
theorem dX3_driveOff_59 : decode cX3_driveOff 59 = .ok (.getfield 40, 3) := by decide +kernel
theorem dX3_driveOff_62 : decode cX3_driveOff 62 = .ok (.invokevirtual 158, 3) := by decide +kernel
theorem dX3_driveOff_65 : decode cX3_driveOff 65 = .ok (.iload_n 2, 1) := by decide +kernel
theorem dX3_driveOff_66 : decode cX3_driveOff 66 = .ok (.ireturn, 1) := by decide +kernel
set_option maxRecDepth 20000 in
theorem ggX3_crossRiver_X3_currentAhead : GoodIn wsX3_crossRiver wsX3_currentAhead := goodIn_r _ [10, 11, 12, 13, 14, 15, 16, 17, 18, 19, 72, 73, 74, 75, 76, 77, 78, 79, 80, 81, 82, 83, 84, 85] (by decide +kernel) (by decide +kernel)
set_option maxRecDepth 20000 in
theorem gX3_crossRiver_X3_currentAhead : GoodIn wsX3_crossRiver (wsV RX3 103 RX3 yX3_currentAhead wsX3_currentAhead) := goodIn_app (goodIn_of _ (by decide +kernel)) ggX3_crossRiver_X3_currentAhead
set_option maxRecDepth 20000 in
theorem ggX3_crossRiver_X3_weightOnDeck : GoodIn wsX3_crossRiver wsX3_weightOnDeck := goodIn_r _ [23, 24, 25, 26, 27, 28, 29, 30, 31, 72, 73, 74, 75, 76, 77, 78, 79, 80, 81, 82, 83, 84, 85, 90, 91, 92, 93] (by decide +kernel) (by decide +kernel)
set_option maxRecDepth 20000 in
theorem gX3_crossRiver_X3_weightOnDeck : GoodIn wsX3_crossRiver (wsV RX3 106 RX3 yX3_weightOnDeck wsX3_weightOnDeck) := goodIn_app (goodIn_of _ (by decide +kernel)) ggX3_crossRiver_X3_weightOnDeck
set_option maxRecDepth 20000 in
theorem ggX3_crossRiver_X3_list : GoodIn wsX3_crossRiver wsX3_list := goodIn_r _ [35, 24, 25, 36, 37, 38, 39, 26, 27, 28, 29, 30, 31, 72, 73, 74, 75, 76, 77, 78, 79, 80, 81, 82, 83, 84, 85, 90, 91, 92, 93] (by decide +kernel) (by decide +kernel)
set_option maxRecDepth 20000 in
theorem gX3_crossRiver_X3_list : GoodIn wsX3_crossRiver (wsV RX3 109 RX3 yX3_list wsX3_list) := goodIn_app (goodIn_of _ (by decide +kernel)) ggX3_crossRiver_X3_list
set_option maxRecDepth 20000 in
theorem ggX3_crossRiver_X5_at : GoodIn wsX3_crossRiver wsX5_at := goodIn_r _ [19] (by decide +kernel) (by decide +kernel)
set_option maxRecDepth 20000 in
theorem gX3_crossRiver_X5_at_n96 : GoodIn wsX3_crossRiver (wsX5_at) := ggX3_crossRiver_X5_at
set_option maxRecDepth 20000 in
theorem ggX3_crossRiver_X4_bear : GoodIn wsX3_crossRiver wsX4_bear := goodIn_r _ [44, 45, 46, 47, 48, 38, 49, 50, 51, 52, 53, 54, 55, 56, 43, 57, 17, 18, 19, 58, 59, 86, 87, 88, 89] (by decide +kernel) (by decide +kernel)
set_option maxRecDepth 20000 in
theorem gX3_crossRiver_X4_bear : GoodIn wsX3_crossRiver (wsV RX3 161 RX4 yX4_bear wsX4_bear) := goodIn_app (goodIn_of _ (by decide +kernel)) ggX3_crossRiver_X4_bear
set_option maxRecDepth 20000 in
theorem ggX3_crossRiver_X3_letPass : GoodIn wsX3_crossRiver wsX3_letPass := goodIn_r _ [63, 12, 64, 65, 66, 67, 68, 69, 29, 70, 71, 72, 73, 74, 75, 76, 77, 78, 79, 80, 81, 82, 83, 84, 85, 90, 91, 92, 93] (by decide +kernel) (by decide +kernel)
set_option maxRecDepth 20000 in
theorem gX3_crossRiver_X3_letPass : GoodIn wsX3_crossRiver (wsV RX3 165 RX3 yX3_letPass wsX3_letPass) := goodIn_app (goodIn_of _ (by decide +kernel)) ggX3_crossRiver_X3_letPass
theorem dX3_crossRiver_0 : decode cX3_crossRiver 0 = .ok (.aload_n 0, 1) := by decide +kernel
theorem dX3_crossRiver_1 : decode cX3_crossRiver 1 = .ok (.getfield 46, 3) := by decide +kernel
theorem dX3_crossRiver_4 : decode cX3_crossRiver 4 = .ok (.aload_n 0, 1) := by decide +kernel
theorem dX3_crossRiver_5 : decode cX3_crossRiver 5 = .ok (.iconst 0, 1) := by decide +kernel
theorem dX3_crossRiver_6 : decode cX3_crossRiver 6 = .ok (.invokevirtual 103, 3) := by decide +kernel
theorem dX3_crossRiver_9 : decode cX3_crossRiver 9 = .ok (.aload_n 0, 1) := by decide +kernel
theorem dX3_crossRiver_10 : decode cX3_crossRiver 10 = .ok (.invokevirtual 106, 3) := by decide +kernel
theorem dX3_crossRiver_13 : decode cX3_crossRiver 13 = .ok (.aload_n 0, 1) := by decide +kernel
theorem dX3_crossRiver_14 : decode cX3_crossRiver 14 = .ok (.invokevirtual 109, 3) := by decide +kernel
theorem dX3_crossRiver_17 : decode cX3_crossRiver 17 = .ok (.aload_n 0, 1) := by decide +kernel
theorem dX3_crossRiver_18 : decode cX3_crossRiver 18 = .ok (.getfield 15, 3) := by decide +kernel
theorem dX3_crossRiver_21 : decode cX3_crossRiver 21 = .ok (.iconst 2, 1) := by decide +kernel
theorem dX3_crossRiver_22 : decode cX3_crossRiver 22 = .ok (.invokestatic 96, 3) := by decide +kernel
theorem dX3_crossRiver_25 : decode cX3_crossRiver 25 = .ok (.invokevirtual 161, 3) := by decide +kernel
theorem dX3_crossRiver_28 : decode cX3_crossRiver 28 = .ok (.iconst 1, 1) := by decide +kernel
theorem dX3_crossRiver_29 : decode cX3_crossRiver 29 = .ok (.aload_n 0, 1) := by decide +kernel
theorem dX3_crossRiver_30 : decode cX3_crossRiver 30 = .ok (.getfield 46, 3) := by decide +kernel
theorem dX3_crossRiver_33 : decode cX3_crossRiver 33 = .ok (.getfield 124, 3) := by decide +kernel
theorem dX3_crossRiver_36 : decode cX3_crossRiver 36 = .ok (.bipush 10, 2) := by decide +kernel
theorem dX3_crossRiver_38 : decode cX3_crossRiver 38 = .ok (.idiv, 1) := by decide +kernel
theorem dX3_crossRiver_39 : decode cX3_crossRiver 39 = .ok (.iadd, 1) := by decide +kernel
theorem dX3_crossRiver_40 : decode cX3_crossRiver 40 = .ok (.istore_n 1, 1) := by decide +kernel
theorem dX3_crossRiver_41 : decode cX3_crossRiver 41 = .ok (.aload_n 0, 1) := by decide +kernel
theorem dX3_crossRiver_42 : decode cX3_crossRiver 42 = .ok (.iload_n 1, 1) := by decide +kernel
theorem dX3_crossRiver_43 : decode cX3_crossRiver 43 = .ok (.invokevirtual 165, 3) := by decide +kernel
theorem dX3_crossRiver_46 : decode cX3_crossRiver 46 = .ok (.aload_n 0, 1) := by decide +kernel
theorem dX3_crossRiver_47 : decode cX3_crossRiver 47 = .ok (.iconst 1, 1) := by decide +kernel
theorem dX3_crossRiver_48 : decode cX3_crossRiver 48 = .ok (.aload_n 0, 1) := by decide +kernel
theorem dX3_crossRiver_49 : decode cX3_crossRiver 49 = .ok (.getfield 61, 3) := by decide +kernel
theorem dX3_crossRiver_52 : decode cX3_crossRiver 52 = .ok (.isub, 1) := by decide +kernel
theorem dX3_crossRiver_53 : decode cX3_crossRiver 53 = .ok (.putfield 61, 3) := by decide +kernel
theorem dX3_crossRiver_56 : decode cX3_crossRiver 56 = .ok (.aload_n 0, 1) := by decide +kernel
theorem dX3_crossRiver_57 : decode cX3_crossRiver 57 = .ok (.dup, 1) := by decide +kernel
theorem dX3_crossRiver_58 : decode cX3_crossRiver 58 = .ok (.getfield 64, 3) := by decide +kernel
theorem dX3_crossRiver_61 : decode cX3_crossRiver 61 = .ok (.iconst 1, 1) := by decide +kernel
theorem dX3_crossRiver_62 : decode cX3_crossRiver 62 = .ok (.iadd, 1) := by decide +kernel
theorem dX3_crossRiver_63 : decode cX3_crossRiver 63 = .ok (.putfield 64, 3) := by decide +kernel
theorem dX3_crossRiver_66 : decode cX3_crossRiver 66 = .ok (.iload_n 1, 1) := by decide +kernel
theorem dX3_crossRiver_67 : decode cX3_crossRiver 67 = .ok (.ireturn, 1) := by decide +kernel
set_option maxRecDepth 20000 in
theorem ggX3_letPass_X1_size : GoodIn wsX3_letPass wsX1_size := goodIn_r _ [9, 10, 25, 26, 27, 28] (by decide +kernel) (by decide +kernel)
set_option maxRecDepth 20000 in
theorem gX3_letPass_X1_size : GoodIn wsX3_letPass (wsV RX3 79 RX1 yX1_size wsX1_size) := goodIn_app (goodIn_of _ (by decide +kernel)) ggX3_letPass_X1_size
theorem dX3_letPass_0 : decode cX3_letPass 0 = .ok (.aload_n 0, 1) := by decide +kernel
theorem dX3_letPass_1 : decode cX3_letPass 1 = .ok (.dup, 1) := by decide +kernel
theorem dX3_letPass_2 : decode cX3_letPass 2 = .ok (.getfield 57, 3) := by decide +kernel
theorem dX3_letPass_5 : decode cX3_letPass 5 = .ok (.iload_n 1, 1) := by decide +kernel
theorem dX3_letPass_6 : decode cX3_letPass 6 = .ok (.iadd, 1) := by decide +kernel
theorem dX3_letPass_7 : decode cX3_letPass 7 = .ok (.putfield 57, 3) := by decide +kernel
theorem dX3_letPass_10 : decode cX3_letPass 10 = .ok (.aload_n 0, 1) := by decide +kernel
theorem dX3_letPass_11 : decode cX3_letPass 11 = .ok (.dup, 1) := by decide +kernel
theorem dX3_letPass_12 : decode cX3_letPass 12 = .ok (.getfield 76, 3) := by decide +kernel
theorem dX3_letPass_15 : decode cX3_letPass 15 = .ok (.iload_n 1, 1) := by decide +kernel
theorem dX3_letPass_16 : decode cX3_letPass 16 = .ok (.aload_n 0, 1) := by decide +kernel
theorem dX3_letPass_17 : decode cX3_letPass 17 = .ok (.getfield 30, 3) := by decide +kernel
theorem dX3_letPass_20 : decode cX3_letPass 20 = .ok (.invokevirtual 79, 3) := by decide +kernel
theorem dX3_letPass_23 : decode cX3_letPass 23 = .ok (.aload_n 0, 1) := by decide +kernel
theorem dX3_letPass_24 : decode cX3_letPass 24 = .ok (.getfield 34, 3) := by decide +kernel
theorem dX3_letPass_27 : decode cX3_letPass 27 = .ok (.invokevirtual 79, 3) := by decide +kernel
theorem dX3_letPass_30 : decode cX3_letPass 30 = .ok (.iadd, 1) := by decide +kernel
theorem dX3_letPass_31 : decode cX3_letPass 31 = .ok (.imul, 1) := by decide +kernel
theorem dX3_letPass_32 : decode cX3_letPass 32 = .ok (.iadd, 1) := by decide +kernel
theorem dX3_letPass_33 : decode cX3_letPass 33 = .ok (.putfield 76, 3) := by decide +kernel
theorem dX3_letPass_36 : decode cX3_letPass 36 = .ok (.return_, 1) := by decide +kernel
theorem dX3_canDrawThrough_0 : decode cX3_canDrawThrough 0 = .ok (.iload_n 1, 1) := by decide +kernel
theorem dX3_canDrawThrough_1 : decode cX3_canDrawThrough 1 = .ok (.aload_n 0, 1) := by decide +kernel
theorem dX3_canDrawThrough_2 : decode cX3_canDrawThrough 2 = .ok (.getfield 46, 3) := by decide +kernel
theorem dX3_canDrawThrough_5 : decode cX3_canDrawThrough 5 = .ok (.getfield 168, 3) := by decide +kernel
theorem dX3_canDrawThrough_8 : decode cX3_canDrawThrough 8 = .ok (.if_icmp .gt 7, 3) := by decide +kernel
theorem dX3_canDrawThrough_11 : decode cX3_canDrawThrough 11 = .ok (.iconst 1, 1) := by decide +kernel
theorem dX3_canDrawThrough_12 : decode cX3_canDrawThrough 12 = .ok (.goto 4, 3) := by decide +kernel
theorem dX3_canDrawThrough_15 : decode cX3_canDrawThrough 15 = .ok (.iconst 0, 1) := by decide +kernel
theorem dX3_canDrawThrough_16 : decode cX3_canDrawThrough 16 = .ok (.ireturn, 1) := by decide +kernel
set_option maxRecDepth 20000 in
theorem ggX3_drawThrough_X4_renew : GoodIn wsX3_drawThrough wsX4_renew := goodIn_r _ [6, 7, 8, 9, 10, 11, 12, 13, 14, 15, 45, 46, 47, 48] (by decide +kernel) (by decide +kernel)
set_option maxRecDepth 20000 in
theorem gX3_drawThrough_X4_renew : GoodIn wsX3_drawThrough (wsV RX3 171 RX4 yX4_renew wsX4_renew) := goodIn_app (goodIn_of _ (by decide +kernel)) ggX3_drawThrough_X4_renew
set_option maxRecDepth 20000 in
theorem ggX3_drawThrough_X3_letPass : GoodIn wsX3_drawThrough wsX3_letPass := goodIn_r _ [20, 21, 22, 23, 24, 25, 26, 27, 28, 29, 30, 31, 32, 33, 34, 35, 36, 37, 38, 39, 40, 41, 42, 43, 44, 49, 50, 51, 52] (by decide +kernel) (by decide +kernel)
set_option maxRecDepth 20000 in
theorem gX3_drawThrough_X3_letPass : GoodIn wsX3_drawThrough (wsV RX3 165 RX3 yX3_letPass wsX3_letPass) := goodIn_app (goodIn_of _ (by decide +kernel)) ggX3_drawThrough_X3_letPass
theorem dX3_drawThrough_0 : decode cX3_drawThrough 0 = .ok (.aload_n 0, 1) := by decide +kernel
theorem dX3_drawThrough_1 : decode cX3_drawThrough 1 = .ok (.getfield 46, 3) := by decide +kernel
theorem dX3_drawThrough_4 : decode cX3_drawThrough 4 = .ok (.iload_n 1, 1) := by decide +kernel
theorem dX3_drawThrough_5 : decode cX3_drawThrough 5 = .ok (.invokevirtual 171, 3) := by decide +kernel
theorem dX3_drawThrough_8 : decode cX3_drawThrough 8 = .ok (.aload_n 0, 1) := by decide +kernel
theorem dX3_drawThrough_9 : decode cX3_drawThrough 9 = .ok (.iload_n 1, 1) := by decide +kernel
theorem dX3_drawThrough_10 : decode cX3_drawThrough 10 = .ok (.invokevirtual 165, 3) := by decide +kernel
theorem dX3_drawThrough_13 : decode cX3_drawThrough 13 = .ok (.return_, 1) := by decide +kernel
set_option maxRecDepth 20000 in
theorem ggX3_leastListWith_X3_lineAtBank : GoodIn wsX3_leastListWith wsX3_lineAtBank := goodIn_r _ [10, 11, 12, 52, 53, 54, 55, 56, 57, 58, 59, 60, 61, 62, 63, 64, 65] (by decide +kernel) (by decide +kernel)
set_option maxRecDepth 20000 in
theorem gX3_leastListWith_X3_lineAtBank : GoodIn wsX3_leastListWith (wsV RX3 131 RX3 yX3_lineAtBank wsX3_lineAtBank) := goodIn_app (goodIn_of _ (by decide +kernel)) ggX3_leastListWith_X3_lineAtBank
set_option maxRecDepth 20000 in
theorem ggX3_leastListWith_X1_size : GoodIn wsX3_leastListWith wsX1_size := goodIn_r _ [17, 18, 66, 67, 68, 69] (by decide +kernel) (by decide +kernel)
set_option maxRecDepth 20000 in
theorem gX3_leastListWith_X1_size : GoodIn wsX3_leastListWith (wsV RX3 79 RX1 yX1_size wsX1_size) := goodIn_app (goodIn_of _ (by decide +kernel)) ggX3_leastListWith_X1_size
set_option maxRecDepth 20000 in
theorem ggX3_leastListWith_X3_hasRoomFor : GoodIn wsX3_leastListWith wsX3_hasRoomFor := goodIn_r _ [22, 23, 24, 25, 26, 27, 28, 29, 30, 31, 13, 14, 15, 16, 17, 18, 52, 53, 54, 55, 56, 57, 58, 59, 60, 61, 62, 63, 64, 65, 66, 67, 68, 69] (by decide +kernel) (by decide +kernel)
set_option maxRecDepth 20000 in
theorem gX3_leastListWith_X3_hasRoomFor : GoodIn wsX3_leastListWith (wsV RX3 174 RX3 yX3_hasRoomFor wsX3_hasRoomFor) := goodIn_app (goodIn_of _ (by decide +kernel)) ggX3_leastListWith_X3_hasRoomFor
set_option maxRecDepth 20000 in
theorem ggX3_leastListWith_X3_listOf : GoodIn wsX3_leastListWith wsX3_listOf := goodIn_r _ [35, 1, 23, 24, 36, 37, 4, 38, 6, 7, 8, 9, 10, 11, 12, 39, 40, 41, 16, 42, 43, 44, 45, 46, 47, 18, 48, 49, 50, 51, 52, 53, 54, 55, 56, 57, 58, 59, 60, 61, 62, 63, 64, 65, 66, 67, 68, 69] (by decide +kernel) (by decide +kernel)
set_option maxRecDepth 20000 in
theorem gX3_leastListWith_X3_listOf : GoodIn wsX3_leastListWith (wsV RX3 178 RX3 yX3_listOf wsX3_listOf) := goodIn_app (goodIn_of _ (by decide +kernel)) ggX3_leastListWith_X3_listOf
theorem dX3_leastListWith_0 : decode cX3_leastListWith 0 = .ok (.iload_n 1, 1) := by decide +kernel
theorem dX3_leastListWith_1 : decode cX3_leastListWith 1 = .ok (.aload_n 0, 1) := by decide +kernel
theorem dX3_leastListWith_2 : decode cX3_leastListWith 2 = .ok (.aload_n 0, 1) := by decide +kernel
theorem dX3_leastListWith_3 : decode cX3_leastListWith 3 = .ok (.getfield 61, 3) := by decide +kernel
theorem dX3_leastListWith_6 : decode cX3_leastListWith 6 = .ok (.invokevirtual 131, 3) := by decide +kernel
theorem dX3_leastListWith_9 : decode cX3_leastListWith 9 = .ok (.invokevirtual 79, 3) := by decide +kernel
theorem dX3_leastListWith_12 : decode cX3_leastListWith 12 = .ok (.if_icmp .le 5, 3) := by decide +kernel
theorem dX3_leastListWith_15 : decode cX3_leastListWith 15 = .ok (.iconst (-1), 1) := by decide +kernel
theorem dX3_leastListWith_16 : decode cX3_leastListWith 16 = .ok (.ireturn, 1) := by decide +kernel
theorem dX3_leastListWith_17 : decode cX3_leastListWith 17 = .ok (.iconst (-1), 1) := by decide +kernel
theorem dX3_leastListWith_18 : decode cX3_leastListWith 18 = .ok (.istore_n 2, 1) := by decide +kernel
theorem dX3_leastListWith_19 : decode cX3_leastListWith 19 = .ok (.iconst 1, 1) := by decide +kernel
theorem dX3_leastListWith_20 : decode cX3_leastListWith 20 = .ok (.iload_n 1, 1) := by decide +kernel
theorem dX3_leastListWith_21 : decode cX3_leastListWith 21 = .ok (.ishl, 1) := by decide +kernel
theorem dX3_leastListWith_22 : decode cX3_leastListWith 22 = .ok (.istore_n 3, 1) := by decide +kernel
theorem dX3_leastListWith_23 : decode cX3_leastListWith 23 = .ok (.iconst 0, 1) := by decide +kernel
theorem dX3_leastListWith_24 : decode cX3_leastListWith 24 = .ok (.istore 4, 2) := by decide +kernel
theorem dX3_leastListWith_26 : decode cX3_leastListWith 26 = .ok (.iload 4, 2) := by decide +kernel
theorem dX3_leastListWith_28 : decode cX3_leastListWith 28 = .ok (.iload_n 3, 1) := by decide +kernel
theorem dX3_leastListWith_29 : decode cX3_leastListWith 29 = .ok (.if_icmp .ge 45, 3) := by decide +kernel
theorem dX3_leastListWith_32 : decode cX3_leastListWith 32 = .ok (.aload_n 0, 1) := by decide +kernel
theorem dX3_leastListWith_33 : decode cX3_leastListWith 33 = .ok (.iload_n 1, 1) := by decide +kernel
theorem dX3_leastListWith_34 : decode cX3_leastListWith 34 = .ok (.iload 4, 2) := by decide +kernel
theorem dX3_leastListWith_36 : decode cX3_leastListWith 36 = .ok (.invokevirtual 174, 3) := by decide +kernel
theorem dX3_leastListWith_39 : decode cX3_leastListWith 39 = .ok (.ifCond .eq 29, 3) := by decide +kernel
theorem dX3_leastListWith_42 : decode cX3_leastListWith 42 = .ok (.aload_n 0, 1) := by decide +kernel
theorem dX3_leastListWith_43 : decode cX3_leastListWith 43 = .ok (.iload_n 1, 1) := by decide +kernel
theorem dX3_leastListWith_44 : decode cX3_leastListWith 44 = .ok (.iload 4, 2) := by decide +kernel
theorem dX3_leastListWith_46 : decode cX3_leastListWith 46 = .ok (.invokevirtual 178, 3) := by decide +kernel
theorem dX3_leastListWith_49 : decode cX3_leastListWith 49 = .ok (.istore 5, 2) := by decide +kernel
theorem dX3_leastListWith_51 : decode cX3_leastListWith 51 = .ok (.iload_n 2, 1) := by decide +kernel
theorem dX3_leastListWith_52 : decode cX3_leastListWith 52 = .ok (.iconst (-1), 1) := by decide +kernel
theorem dX3_leastListWith_53 : decode cX3_leastListWith 53 = .ok (.if_icmp .ne 8, 3) := by decide +kernel
theorem dX3_leastListWith_56 : decode cX3_leastListWith 56 = .ok (.iload 5, 2) := by decide +kernel
theorem dX3_leastListWith_58 : decode cX3_leastListWith 58 = .ok (.goto 9, 3) := by decide +kernel
theorem dX3_leastListWith_61 : decode cX3_leastListWith 61 = .ok (.iload_n 2, 1) := by decide +kernel
theorem dX3_leastListWith_62 : decode cX3_leastListWith 62 = .ok (.iload 5, 2) := by decide +kernel
theorem dX3_leastListWith_64 : decode cX3_leastListWith 64 = .ok (.invokestatic 181, 3) := by decide +kernel
theorem dX3_leastListWith_67 : decode cX3_leastListWith 67 = .ok (.istore_n 2, 1) := by decide +kernel
theorem dX3_leastListWith_68 : decode cX3_leastListWith 68 = .ok (.iinc 4 1, 3) := by decide +kernel
theorem dX3_leastListWith_71 : decode cX3_leastListWith 71 = .ok (.goto (-45), 3) := by decide +kernel
theorem dX3_leastListWith_74 : decode cX3_leastListWith 74 = .ok (.iload_n 2, 1) := by decide +kernel
theorem dX3_leastListWith_75 : decode cX3_leastListWith 75 = .ok (.ireturn, 1) := by decide +kernel
set_option maxRecDepth 20000 in
theorem ggX3_hasRoomFor_J6_bitCount_0f7a4 : GoodIn wsX3_hasRoomFor wsJ6_bitCount_0f7a4 := goodIn_r _ [6, 7, 8, 9] (by decide +kernel) (by decide +kernel)
set_option maxRecDepth 20000 in
theorem gX3_hasRoomFor_J6_bitCount_0f7a4 : GoodIn wsX3_hasRoomFor (va_wsS RX3 184 yJ6_bitCount_0f7a4 wsJ6_bitCount_0f7a4) := goodIn_app (goodIn_of _ (by decide +kernel)) ggX3_hasRoomFor_J6_bitCount_0f7a4
set_option maxRecDepth 20000 in
theorem ggX3_hasRoomFor_X1_size : GoodIn wsX3_hasRoomFor wsX1_size := goodIn_r _ [14, 15, 30, 31, 32, 33] (by decide +kernel) (by decide +kernel)
set_option maxRecDepth 20000 in
theorem gX3_hasRoomFor_X1_size : GoodIn wsX3_hasRoomFor (wsV RX3 79 RX1 yX1_size wsX1_size) := goodIn_app (goodIn_of _ (by decide +kernel)) ggX3_hasRoomFor_X1_size
theorem dX3_hasRoomFor_0 : decode cX3_hasRoomFor 0 = .ok (.iload_n 2, 1) := by decide +kernel
theorem dX3_hasRoomFor_1 : decode cX3_hasRoomFor 1 = .ok (.invokestatic 184, 3) := by decide +kernel
theorem dX3_hasRoomFor_4 : decode cX3_hasRoomFor 4 = .ok (.istore_n 3, 1) := by decide +kernel
theorem dX3_hasRoomFor_5 : decode cX3_hasRoomFor 5 = .ok (.aload_n 0, 1) := by decide +kernel
theorem dX3_hasRoomFor_6 : decode cX3_hasRoomFor 6 = .ok (.getfield 37, 3) := by decide +kernel
theorem dX3_hasRoomFor_9 : decode cX3_hasRoomFor 9 = .ok (.invokevirtual 79, 3) := by decide +kernel
theorem dX3_hasRoomFor_12 : decode cX3_hasRoomFor 12 = .ok (.iload_n 1, 1) := by decide +kernel
theorem dX3_hasRoomFor_13 : decode cX3_hasRoomFor 13 = .ok (.iadd, 1) := by decide +kernel
theorem dX3_hasRoomFor_14 : decode cX3_hasRoomFor 14 = .ok (.iload_n 3, 1) := by decide +kernel
theorem dX3_hasRoomFor_15 : decode cX3_hasRoomFor 15 = .ok (.isub, 1) := by decide +kernel
theorem dX3_hasRoomFor_16 : decode cX3_hasRoomFor 16 = .ok (.iconst 4, 1) := by decide +kernel
theorem dX3_hasRoomFor_17 : decode cX3_hasRoomFor 17 = .ok (.if_icmp .gt 20, 3) := by decide +kernel
theorem dX3_hasRoomFor_20 : decode cX3_hasRoomFor 20 = .ok (.aload_n 0, 1) := by decide +kernel
theorem dX3_hasRoomFor_21 : decode cX3_hasRoomFor 21 = .ok (.getfield 40, 3) := by decide +kernel
theorem dX3_hasRoomFor_24 : decode cX3_hasRoomFor 24 = .ok (.invokevirtual 79, 3) := by decide +kernel
theorem dX3_hasRoomFor_27 : decode cX3_hasRoomFor 27 = .ok (.iload_n 3, 1) := by decide +kernel
theorem dX3_hasRoomFor_28 : decode cX3_hasRoomFor 28 = .ok (.iadd, 1) := by decide +kernel
theorem dX3_hasRoomFor_29 : decode cX3_hasRoomFor 29 = .ok (.iconst 4, 1) := by decide +kernel
theorem dX3_hasRoomFor_30 : decode cX3_hasRoomFor 30 = .ok (.if_icmp .gt 7, 3) := by decide +kernel
theorem dX3_hasRoomFor_33 : decode cX3_hasRoomFor 33 = .ok (.iconst 1, 1) := by decide +kernel
theorem dX3_hasRoomFor_34 : decode cX3_hasRoomFor 34 = .ok (.goto 4, 3) := by decide +kernel
theorem dX3_hasRoomFor_37 : decode cX3_hasRoomFor 37 = .ok (.iconst 0, 1) := by decide +kernel
theorem dX3_hasRoomFor_38 : decode cX3_hasRoomFor 38 = .ok (.ireturn, 1) := by decide +kernel
set_option maxRecDepth 20000 in
theorem ggX3_listOf_X3_lineAtBank : GoodIn wsX3_listOf wsX3_lineAtBank := goodIn_r _ [12, 13, 14, 30, 31, 32, 33, 34, 35, 36, 37, 38, 39, 40, 41, 42, 43] (by decide +kernel) (by decide +kernel)
set_option maxRecDepth 20000 in
theorem gX3_listOf_X3_lineAtBank : GoodIn wsX3_listOf (wsV RX3 131 RX3 yX3_lineAtBank wsX3_lineAtBank) := goodIn_app (goodIn_of _ (by decide +kernel)) ggX3_listOf_X3_lineAtBank
set_option maxRecDepth 20000 in
theorem ggX3_listOf_X1_weight : GoodIn wsX3_listOf wsX1_weight := goodIn_r _ [19, 20, 44, 45, 46, 47] (by decide +kernel) (by decide +kernel)
set_option maxRecDepth 20000 in
theorem gX3_listOf_X1_weight : GoodIn wsX3_listOf (wsV RX3 83 RX1 yX1_weight wsX1_weight) := goodIn_app (goodIn_of _ (by decide +kernel)) ggX3_listOf_X1_weight
set_option maxRecDepth 20000 in
theorem ggX3_listOf_X1_weightOf : GoodIn wsX3_listOf wsX1_weightOf := goodIn_r _ [24, 25, 26, 27, 28, 29, 44, 45, 46, 47] (by decide +kernel) (by decide +kernel)
set_option maxRecDepth 20000 in
theorem gX3_listOf_X1_weightOf : GoodIn wsX3_listOf (wsV RX3 146 RX1 yX1_weightOf wsX1_weightOf) := goodIn_app (goodIn_of _ (by decide +kernel)) ggX3_listOf_X1_weightOf
theorem dX3_listOf_0 : decode cX3_listOf 0 = .ok (.aload_n 0, 1) := by decide +kernel
theorem dX3_listOf_1 : decode cX3_listOf 1 = .ok (.aload_n 0, 1) := by decide +kernel
theorem dX3_listOf_2 : decode cX3_listOf 2 = .ok (.getfield 61, 3) := by decide +kernel
theorem dX3_listOf_5 : decode cX3_listOf 5 = .ok (.invokevirtual 131, 3) := by decide +kernel
theorem dX3_listOf_8 : decode cX3_listOf 8 = .ok (.astore_n 3, 1) := by decide +kernel
theorem dX3_listOf_9 : decode cX3_listOf 9 = .ok (.aload_n 0, 1) := by decide +kernel
theorem dX3_listOf_10 : decode cX3_listOf 10 = .ok (.getfield 37, 3) := by decide +kernel
theorem dX3_listOf_13 : decode cX3_listOf 13 = .ok (.invokevirtual 83, 3) := by decide +kernel
theorem dX3_listOf_16 : decode cX3_listOf 16 = .ok (.aload_n 0, 1) := by decide +kernel
theorem dX3_listOf_17 : decode cX3_listOf 17 = .ok (.getfield 40, 3) := by decide +kernel
theorem dX3_listOf_20 : decode cX3_listOf 20 = .ok (.invokevirtual 83, 3) := by decide +kernel
theorem dX3_listOf_23 : decode cX3_listOf 23 = .ok (.isub, 1) := by decide +kernel
theorem dX3_listOf_24 : decode cX3_listOf 24 = .ok (.istore 4, 2) := by decide +kernel
theorem dX3_listOf_26 : decode cX3_listOf 26 = .ok (.iconst 0, 1) := by decide +kernel
theorem dX3_listOf_27 : decode cX3_listOf 27 = .ok (.istore 5, 2) := by decide +kernel
theorem dX3_listOf_29 : decode cX3_listOf 29 = .ok (.iload 5, 2) := by decide +kernel
theorem dX3_listOf_31 : decode cX3_listOf 31 = .ok (.iload_n 1, 1) := by decide +kernel
theorem dX3_listOf_32 : decode cX3_listOf 32 = .ok (.if_icmp .ge 51, 3) := by decide +kernel
theorem dX3_listOf_35 : decode cX3_listOf 35 = .ok (.iload_n 2, 1) := by decide +kernel
theorem dX3_listOf_36 : decode cX3_listOf 36 = .ok (.iload 5, 2) := by decide +kernel
theorem dX3_listOf_38 : decode cX3_listOf 38 = .ok (.ishr, 1) := by decide +kernel
theorem dX3_listOf_39 : decode cX3_listOf 39 = .ok (.iconst 1, 1) := by decide +kernel
theorem dX3_listOf_40 : decode cX3_listOf 40 = .ok (.iand, 1) := by decide +kernel
theorem dX3_listOf_41 : decode cX3_listOf 41 = .ok (.ifCond .ne 7, 3) := by decide +kernel
theorem dX3_listOf_44 : decode cX3_listOf 44 = .ok (.iconst 1, 1) := by decide +kernel
theorem dX3_listOf_45 : decode cX3_listOf 45 = .ok (.goto 4, 3) := by decide +kernel
theorem dX3_listOf_48 : decode cX3_listOf 48 = .ok (.iconst 0, 1) := by decide +kernel
theorem dX3_listOf_49 : decode cX3_listOf 49 = .ok (.istore 6, 2) := by decide +kernel
theorem dX3_listOf_51 : decode cX3_listOf 51 = .ok (.iload 4, 2) := by decide +kernel
theorem dX3_listOf_53 : decode cX3_listOf 53 = .ok (.iload 6, 2) := by decide +kernel
theorem dX3_listOf_55 : decode cX3_listOf 55 = .ok (.ifCond .eq 12, 3) := by decide +kernel
theorem dX3_listOf_58 : decode cX3_listOf 58 = .ok (.aload_n 3, 1) := by decide +kernel
theorem dX3_listOf_59 : decode cX3_listOf 59 = .ok (.iload 5, 2) := by decide +kernel
theorem dX3_listOf_61 : decode cX3_listOf 61 = .ok (.invokevirtual 146, 3) := by decide +kernel
theorem dX3_listOf_64 : decode cX3_listOf 64 = .ok (.goto 10, 3) := by decide +kernel
theorem dX3_listOf_67 : decode cX3_listOf 67 = .ok (.aload_n 3, 1) := by decide +kernel
theorem dX3_listOf_68 : decode cX3_listOf 68 = .ok (.iload 5, 2) := by decide +kernel
theorem dX3_listOf_70 : decode cX3_listOf 70 = .ok (.invokevirtual 146, 3) := by decide +kernel
theorem dX3_listOf_73 : decode cX3_listOf 73 = .ok (.ineg, 1) := by decide +kernel
theorem dX3_listOf_74 : decode cX3_listOf 74 = .ok (.iadd, 1) := by decide +kernel
theorem dX3_listOf_75 : decode cX3_listOf 75 = .ok (.istore 4, 2) := by decide +kernel
theorem dX3_listOf_77 : decode cX3_listOf 77 = .ok (.iinc 5 1, 3) := by decide +kernel
theorem dX3_listOf_80 : decode cX3_listOf 80 = .ok (.goto (-51), 3) := by decide +kernel
theorem dX3_listOf_83 : decode cX3_listOf 83 = .ok (.iload 4, 2) := by decide +kernel
theorem dX3_listOf_85 : decode cX3_listOf 85 = .ok (.invokestatic 86, 3) := by decide +kernel
theorem dX3_listOf_88 : decode cX3_listOf 88 = .ok (.ireturn, 1) := by decide +kernel
theorem dX4_init_0 : decode cX4_init 0 = .ok (.aload_n 0, 1) := by decide +kernel
theorem dX4_init_1 : decode cX4_init 1 = .ok (.invokespecial 3, 3) := by decide +kernel
theorem dX4_init_4 : decode cX4_init 4 = .ok (.aload_n 0, 1) := by decide +kernel
theorem dX4_init_5 : decode cX4_init 5 = .ok (.bipush 20, 2) := by decide +kernel
theorem dX4_init_7 : decode cX4_init 7 = .ok (.newarray .int, 2) := by decide +kernel
theorem dX4_init_9 : decode cX4_init 9 = .ok (.putfield 9, 3) := by decide +kernel
theorem dX4_init_12 : decode cX4_init 12 = .ok (.aload_n 0, 1) := by decide +kernel
theorem dX4_init_13 : decode cX4_init 13 = .ok (.iconst 0, 1) := by decide +kernel
theorem dX4_init_14 : decode cX4_init 14 = .ok (.putfield 15, 3) := by decide +kernel
theorem dX4_init_17 : decode cX4_init 17 = .ok (.aload_n 0, 1) := by decide +kernel
theorem dX4_init_18 : decode cX4_init 18 = .ok (.iconst 0, 1) := by decide +kernel
theorem dX4_init_19 : decode cX4_init 19 = .ok (.putfield 19, 3) := by decide +kernel
theorem dX4_init_22 : decode cX4_init 22 = .ok (.aload_n 0, 1) := by decide +kernel
theorem dX4_init_23 : decode cX4_init 23 = .ok (.bipush 40, 2) := by decide +kernel
theorem dX4_init_25 : decode cX4_init 25 = .ok (.putfield 22, 3) := by decide +kernel
theorem dX4_init_28 : decode cX4_init 28 = .ok (.return_, 1) := by decide +kernel
set_option maxRecDepth 20000 in
theorem ggX4_copyFrom_X5_copyRow : GoodIn wsX4_copyFrom wsX5_copyRow := goodIn_r _ [7, 8, 9, 10, 11, 12, 13, 14, 15] (by decide +kernel) (by decide +kernel)
set_option maxRecDepth 20000 in
theorem gX4_copyFrom_X5_copyRow_n25 : GoodIn wsX4_copyFrom (wsX5_copyRow) := ggX4_copyFrom_X5_copyRow
theorem dX4_copyFrom_0 : decode cX4_copyFrom 0 = .ok (.aload_n 1, 1) := by decide +kernel
theorem dX4_copyFrom_1 : decode cX4_copyFrom 1 = .ok (.getfield 9, 3) := by decide +kernel
theorem dX4_copyFrom_4 : decode cX4_copyFrom 4 = .ok (.aload_n 0, 1) := by decide +kernel
theorem dX4_copyFrom_5 : decode cX4_copyFrom 5 = .ok (.getfield 9, 3) := by decide +kernel
theorem dX4_copyFrom_8 : decode cX4_copyFrom 8 = .ok (.invokestatic 25, 3) := by decide +kernel
theorem dX4_copyFrom_11 : decode cX4_copyFrom 11 = .ok (.aload_n 0, 1) := by decide +kernel
theorem dX4_copyFrom_12 : decode cX4_copyFrom 12 = .ok (.aload_n 1, 1) := by decide +kernel
theorem dX4_copyFrom_13 : decode cX4_copyFrom 13 = .ok (.getfield 15, 3) := by decide +kernel
theorem dX4_copyFrom_16 : decode cX4_copyFrom 16 = .ok (.putfield 15, 3) := by decide +kernel
theorem dX4_copyFrom_19 : decode cX4_copyFrom 19 = .ok (.aload_n 0, 1) := by decide +kernel
theorem dX4_copyFrom_20 : decode cX4_copyFrom 20 = .ok (.aload_n 1, 1) := by decide +kernel
theorem dX4_copyFrom_21 : decode cX4_copyFrom 21 = .ok (.getfield 19, 3) := by decide +kernel
theorem dX4_copyFrom_24 : decode cX4_copyFrom 24 = .ok (.putfield 19, 3) := by decide +kernel
theorem dX4_copyFrom_27 : decode cX4_copyFrom 27 = .ok (.aload_n 0, 1) := by decide +kernel
theorem dX4_copyFrom_28 : decode cX4_copyFrom 28 = .ok (.aload_n 1, 1) := by decide +kernel
theorem dX4_copyFrom_29 : decode cX4_copyFrom 29 = .ok (.getfield 22, 3) := by decide +kernel
theorem dX4_copyFrom_32 : decode cX4_copyFrom 32 = .ok (.putfield 22, 3) := by decide +kernel
theorem dX4_copyFrom_35 : decode cX4_copyFrom 35 = .ok (.return_, 1) := by decide +kernel
set_option maxRecDepth 20000 in
theorem ggX4_wearOf_X5_at : GoodIn wsX4_wearOf wsX5_at := goodIn_r _ [4] (by decide +kernel) (by decide +kernel)
set_option maxRecDepth 20000 in
theorem gX4_wearOf_X5_at_n29 : GoodIn wsX4_wearOf (wsX5_at) := ggX4_wearOf_X5_at
theorem dX4_wearOf_0 : decode cX4_wearOf 0 = .ok (.aload_n 0, 1) := by decide +kernel
theorem dX4_wearOf_1 : decode cX4_wearOf 1 = .ok (.getfield 9, 3) := by decide +kernel
theorem dX4_wearOf_4 : decode cX4_wearOf 4 = .ok (.iload_n 1, 1) := by decide +kernel
theorem dX4_wearOf_5 : decode cX4_wearOf 5 = .ok (.invokestatic 29, 3) := by decide +kernel
theorem dX4_wearOf_8 : decode cX4_wearOf 8 = .ok (.ireturn, 1) := by decide +kernel
set_option maxRecDepth 20000 in
theorem ggX4_wearTogether_X5_at : GoodIn wsX4_wearTogether wsX5_at := goodIn_r _ [4] (by decide +kernel) (by decide +kernel)
set_option maxRecDepth 20000 in
theorem gX4_wearTogether_X5_at_n29 : GoodIn wsX4_wearTogether (wsX5_at) := ggX4_wearTogether_X5_at
theorem dX4_wearTogether_0 : decode cX4_wearTogether 0 = .ok (.iconst 0, 1) := by decide +kernel
theorem dX4_wearTogether_1 : decode cX4_wearTogether 1 = .ok (.istore_n 1, 1) := by decide +kernel
theorem dX4_wearTogether_2 : decode cX4_wearTogether 2 = .ok (.iconst 0, 1) := by decide +kernel
theorem dX4_wearTogether_3 : decode cX4_wearTogether 3 = .ok (.istore_n 2, 1) := by decide +kernel
theorem dX4_wearTogether_4 : decode cX4_wearTogether 4 = .ok (.iload_n 2, 1) := by decide +kernel
theorem dX4_wearTogether_5 : decode cX4_wearTogether 5 = .ok (.bipush 20, 2) := by decide +kernel
theorem dX4_wearTogether_7 : decode cX4_wearTogether 7 = .ok (.if_icmp .ge 20, 3) := by decide +kernel
theorem dX4_wearTogether_10 : decode cX4_wearTogether 10 = .ok (.iload_n 1, 1) := by decide +kernel
theorem dX4_wearTogether_11 : decode cX4_wearTogether 11 = .ok (.aload_n 0, 1) := by decide +kernel
theorem dX4_wearTogether_12 : decode cX4_wearTogether 12 = .ok (.getfield 9, 3) := by decide +kernel
theorem dX4_wearTogether_15 : decode cX4_wearTogether 15 = .ok (.iload_n 2, 1) := by decide +kernel
theorem dX4_wearTogether_16 : decode cX4_wearTogether 16 = .ok (.invokestatic 29, 3) := by decide +kernel
theorem dX4_wearTogether_19 : decode cX4_wearTogether 19 = .ok (.iadd, 1) := by decide +kernel
theorem dX4_wearTogether_20 : decode cX4_wearTogether 20 = .ok (.istore_n 1, 1) := by decide +kernel
theorem dX4_wearTogether_21 : decode cX4_wearTogether 21 = .ok (.iinc 2 1, 3) := by decide +kernel
theorem dX4_wearTogether_24 : decode cX4_wearTogether 24 = .ok (.goto (-20), 3) := by decide +kernel
theorem dX4_wearTogether_27 : decode cX4_wearTogether 27 = .ok (.iload_n 1, 1) := by decide +kernel
theorem dX4_wearTogether_28 : decode cX4_wearTogether 28 = .ok (.ireturn, 1) := by decide +kernel
theorem dX4_tensionOf_0 : decode cX4_tensionOf 0 = .ok (.iload_n 2, 1) := by decide +kernel
theorem dX4_tensionOf_1 : decode cX4_tensionOf 1 = .ok (.iload_n 1, 1) := by decide +kernel
theorem dX4_tensionOf_2 : decode cX4_tensionOf 2 = .ok (.iconst 1, 1) := by decide +kernel
theorem dX4_tensionOf_3 : decode cX4_tensionOf 3 = .ok (.iadd, 1) := by decide +kernel
theorem dX4_tensionOf_4 : decode cX4_tensionOf 4 = .ok (.bipush 20, 2) := by decide +kernel
theorem dX4_tensionOf_6 : decode cX4_tensionOf 6 = .ok (.iload_n 1, 1) := by decide +kernel
theorem dX4_tensionOf_7 : decode cX4_tensionOf 7 = .ok (.isub, 1) := by decide +kernel
theorem dX4_tensionOf_8 : decode cX4_tensionOf 8 = .ok (.invokestatic 33, 3) := by decide +kernel
theorem dX4_tensionOf_11 : decode cX4_tensionOf 11 = .ok (.imul, 1) := by decide +kernel
theorem dX4_tensionOf_12 : decode cX4_tensionOf 12 = .ok (.bipush 10, 2) := by decide +kernel
theorem dX4_tensionOf_14 : decode cX4_tensionOf 14 = .ok (.idiv, 1) := by decide +kernel
theorem dX4_tensionOf_15 : decode cX4_tensionOf 15 = .ok (.istore 5, 2) := by decide +kernel
theorem dX4_tensionOf_17 : decode cX4_tensionOf 17 = .ok (.iload 5, 2) := by decide +kernel
theorem dX4_tensionOf_19 : decode cX4_tensionOf 19 = .ok (.bipush 20, 2) := by decide +kernel
theorem dX4_tensionOf_21 : decode cX4_tensionOf 21 = .ok (.iload_n 3, 1) := by decide +kernel
theorem dX4_tensionOf_22 : decode cX4_tensionOf 22 = .ok (.iadd, 1) := by decide +kernel
theorem dX4_tensionOf_23 : decode cX4_tensionOf 23 = .ok (.imul, 1) := by decide +kernel
theorem dX4_tensionOf_24 : decode cX4_tensionOf 24 = .ok (.bipush 10, 2) := by decide +kernel
theorem dX4_tensionOf_26 : decode cX4_tensionOf 26 = .ok (.idiv, 1) := by decide +kernel
theorem dX4_tensionOf_27 : decode cX4_tensionOf 27 = .ok (.istore 6, 2) := by decide +kernel
theorem dX4_tensionOf_29 : decode cX4_tensionOf 29 = .ok (.iconst 0, 1) := by decide +kernel
theorem dX4_tensionOf_30 : decode cX4_tensionOf 30 = .ok (.iload 6, 2) := by decide +kernel
theorem dX4_tensionOf_32 : decode cX4_tensionOf 32 = .ok (.iconst 3, 1) := by decide +kernel
theorem dX4_tensionOf_33 : decode cX4_tensionOf 33 = .ok (.iload 4, 2) := by decide +kernel
theorem dX4_tensionOf_35 : decode cX4_tensionOf 35 = .ok (.imul, 1) := by decide +kernel
theorem dX4_tensionOf_36 : decode cX4_tensionOf 36 = .ok (.iadd, 1) := by decide +kernel
theorem dX4_tensionOf_37 : decode cX4_tensionOf 37 = .ok (.iconst 4, 1) := by decide +kernel
theorem dX4_tensionOf_38 : decode cX4_tensionOf 38 = .ok (.aload_n 0, 1) := by decide +kernel
theorem dX4_tensionOf_39 : decode cX4_tensionOf 39 = .ok (.getfield 15, 3) := by decide +kernel
theorem dX4_tensionOf_42 : decode cX4_tensionOf 42 = .ok (.imul, 1) := by decide +kernel
theorem dX4_tensionOf_43 : decode cX4_tensionOf 43 = .ok (.isub, 1) := by decide +kernel
theorem dX4_tensionOf_44 : decode cX4_tensionOf 44 = .ok (.invokestatic 39, 3) := by decide +kernel
theorem dX4_tensionOf_47 : decode cX4_tensionOf 47 = .ok (.ireturn, 1) := by decide +kernel
set_option maxRecDepth 20000 in
theorem ggX4_greatestTension_X4_tensionOf : GoodIn wsX4_greatestTension wsX4_tensionOf := goodIn_r _ [9, 10, 11, 3, 12, 13, 1, 2, 4, 14, 15, 16, 17] (by decide +kernel) (by decide +kernel)
set_option maxRecDepth 20000 in
theorem gX4_greatestTension_X4_tensionOf : GoodIn wsX4_greatestTension (wsV RX4 42 RX4 yX4_tensionOf wsX4_tensionOf) := goodIn_app (goodIn_of _ (by decide +kernel)) ggX4_greatestTension_X4_tensionOf
theorem dX4_greatestTension_0 : decode cX4_greatestTension 0 = .ok (.iconst 0, 1) := by decide +kernel
theorem dX4_greatestTension_1 : decode cX4_greatestTension 1 = .ok (.istore 4, 2) := by decide +kernel
theorem dX4_greatestTension_3 : decode cX4_greatestTension 3 = .ok (.iconst 0, 1) := by decide +kernel
theorem dX4_greatestTension_4 : decode cX4_greatestTension 4 = .ok (.istore 5, 2) := by decide +kernel
theorem dX4_greatestTension_6 : decode cX4_greatestTension 6 = .ok (.iload 5, 2) := by decide +kernel
theorem dX4_greatestTension_8 : decode cX4_greatestTension 8 = .ok (.bipush 20, 2) := by decide +kernel
theorem dX4_greatestTension_10 : decode cX4_greatestTension 10 = .ok (.if_icmp .ge 25, 3) := by decide +kernel
theorem dX4_greatestTension_13 : decode cX4_greatestTension 13 = .ok (.iload 4, 2) := by decide +kernel
theorem dX4_greatestTension_15 : decode cX4_greatestTension 15 = .ok (.aload_n 0, 1) := by decide +kernel
theorem dX4_greatestTension_16 : decode cX4_greatestTension 16 = .ok (.iload 5, 2) := by decide +kernel
theorem dX4_greatestTension_18 : decode cX4_greatestTension 18 = .ok (.iload_n 1, 1) := by decide +kernel
theorem dX4_greatestTension_19 : decode cX4_greatestTension 19 = .ok (.iload_n 2, 1) := by decide +kernel
theorem dX4_greatestTension_20 : decode cX4_greatestTension 20 = .ok (.iload_n 3, 1) := by decide +kernel
theorem dX4_greatestTension_21 : decode cX4_greatestTension 21 = .ok (.invokevirtual 42, 3) := by decide +kernel
theorem dX4_greatestTension_24 : decode cX4_greatestTension 24 = .ok (.invokestatic 39, 3) := by decide +kernel
theorem dX4_greatestTension_27 : decode cX4_greatestTension 27 = .ok (.istore 4, 2) := by decide +kernel
theorem dX4_greatestTension_29 : decode cX4_greatestTension 29 = .ok (.iinc 5 1, 3) := by decide +kernel
theorem dX4_greatestTension_32 : decode cX4_greatestTension 32 = .ok (.goto (-26), 3) := by decide +kernel
theorem dX4_greatestTension_35 : decode cX4_greatestTension 35 = .ok (.iload 4, 2) := by decide +kernel
theorem dX4_greatestTension_37 : decode cX4_greatestTension 37 = .ok (.ireturn, 1) := by decide +kernel
set_option maxRecDepth 20000 in
theorem ggX4_strengthOf_X5_at : GoodIn wsX4_strengthOf wsX5_at := goodIn_r _ [8] (by decide +kernel) (by decide +kernel)
set_option maxRecDepth 20000 in
theorem gX4_strengthOf_X5_at_n29 : GoodIn wsX4_strengthOf (wsX5_at) := ggX4_strengthOf_X5_at
theorem dX4_strengthOf_0 : decode cX4_strengthOf 0 = .ok (.iconst 0, 1) := by decide +kernel
theorem dX4_strengthOf_1 : decode cX4_strengthOf 1 = .ok (.iload_n 2, 1) := by decide +kernel
theorem dX4_strengthOf_2 : decode cX4_strengthOf 2 = .ok (.aload_n 0, 1) := by decide +kernel
theorem dX4_strengthOf_3 : decode cX4_strengthOf 3 = .ok (.getfield 9, 3) := by decide +kernel
theorem dX4_strengthOf_6 : decode cX4_strengthOf 6 = .ok (.iload_n 1, 1) := by decide +kernel
theorem dX4_strengthOf_7 : decode cX4_strengthOf 7 = .ok (.invokestatic 29, 3) := by decide +kernel
theorem dX4_strengthOf_10 : decode cX4_strengthOf 10 = .ok (.iconst 2, 1) := by decide +kernel
theorem dX4_strengthOf_11 : decode cX4_strengthOf 11 = .ok (.idiv, 1) := by decide +kernel
theorem dX4_strengthOf_12 : decode cX4_strengthOf 12 = .ok (.isub, 1) := by decide +kernel
theorem dX4_strengthOf_13 : decode cX4_strengthOf 13 = .ok (.invokestatic 39, 3) := by decide +kernel
theorem dX4_strengthOf_16 : decode cX4_strengthOf 16 = .ok (.ireturn, 1) := by decide +kernel
set_option maxRecDepth 20000 in
theorem ggX4_canBear_X4_tensionOf : GoodIn wsX4_canBear wsX4_tensionOf := goodIn_r _ [5, 6, 7, 8, 9, 10, 11, 12, 13, 22, 23, 24, 25] (by decide +kernel) (by decide +kernel)
set_option maxRecDepth 20000 in
theorem gX4_canBear_X4_tensionOf : GoodIn wsX4_canBear (wsV RX4 42 RX4 yX4_tensionOf wsX4_tensionOf) := goodIn_app (goodIn_of _ (by decide +kernel)) ggX4_canBear_X4_tensionOf
set_option maxRecDepth 20000 in
theorem ggX4_canBear_X4_strengthOf : GoodIn wsX4_canBear wsX4_strengthOf := goodIn_r _ [17, 18, 11, 12, 8, 13, 19, 20, 21, 22, 23, 24, 25] (by decide +kernel) (by decide +kernel)
set_option maxRecDepth 20000 in
theorem gX4_canBear_X4_strengthOf : GoodIn wsX4_canBear (wsV RX4 46 RX4 yX4_strengthOf wsX4_strengthOf) := goodIn_app (goodIn_of _ (by decide +kernel)) ggX4_canBear_X4_strengthOf
theorem dX4_canBear_0 : decode cX4_canBear 0 = .ok (.iconst 0, 1) := by decide +kernel
theorem dX4_canBear_1 : decode cX4_canBear 1 = .ok (.istore 5, 2) := by decide +kernel
theorem dX4_canBear_3 : decode cX4_canBear 3 = .ok (.iload 5, 2) := by decide +kernel
theorem dX4_canBear_5 : decode cX4_canBear 5 = .ok (.bipush 20, 2) := by decide +kernel
theorem dX4_canBear_7 : decode cX4_canBear 7 = .ok (.if_icmp .ge 31, 3) := by decide +kernel
theorem dX4_canBear_10 : decode cX4_canBear 10 = .ok (.aload_n 0, 1) := by decide +kernel
theorem dX4_canBear_11 : decode cX4_canBear 11 = .ok (.iload 5, 2) := by decide +kernel
theorem dX4_canBear_13 : decode cX4_canBear 13 = .ok (.iload_n 1, 1) := by decide +kernel
theorem dX4_canBear_14 : decode cX4_canBear 14 = .ok (.iload_n 2, 1) := by decide +kernel
theorem dX4_canBear_15 : decode cX4_canBear 15 = .ok (.iload_n 3, 1) := by decide +kernel
theorem dX4_canBear_16 : decode cX4_canBear 16 = .ok (.invokevirtual 42, 3) := by decide +kernel
theorem dX4_canBear_19 : decode cX4_canBear 19 = .ok (.aload_n 0, 1) := by decide +kernel
theorem dX4_canBear_20 : decode cX4_canBear 20 = .ok (.iload 5, 2) := by decide +kernel
theorem dX4_canBear_22 : decode cX4_canBear 22 = .ok (.iload 4, 2) := by decide +kernel
theorem dX4_canBear_24 : decode cX4_canBear 24 = .ok (.invokevirtual 46, 3) := by decide +kernel
theorem dX4_canBear_27 : decode cX4_canBear 27 = .ok (.if_icmp .le 5, 3) := by decide +kernel
theorem dX4_canBear_30 : decode cX4_canBear 30 = .ok (.iconst 0, 1) := by decide +kernel
theorem dX4_canBear_31 : decode cX4_canBear 31 = .ok (.ireturn, 1) := by decide +kernel
theorem dX4_canBear_32 : decode cX4_canBear 32 = .ok (.iinc 5 1, 3) := by decide +kernel
theorem dX4_canBear_35 : decode cX4_canBear 35 = .ok (.goto (-32), 3) := by decide +kernel
theorem dX4_canBear_38 : decode cX4_canBear 38 = .ok (.iconst 1, 1) := by decide +kernel
theorem dX4_canBear_39 : decode cX4_canBear 39 = .ok (.ireturn, 1) := by decide +kernel
set_option maxRecDepth 20000 in
theorem ggX4_bear_X4_tensionOf : GoodIn wsX4_bear wsX4_tensionOf := goodIn_r _ [15, 7, 8, 5, 9, 10, 3, 4, 6, 21, 22, 23, 24] (by decide +kernel) (by decide +kernel)
set_option maxRecDepth 20000 in
theorem gX4_bear_X4_tensionOf : GoodIn wsX4_bear (wsV RX4 42 RX4 yX4_tensionOf wsX4_tensionOf) := goodIn_app (goodIn_of _ (by decide +kernel)) ggX4_bear_X4_tensionOf
set_option maxRecDepth 20000 in
theorem ggX4_bear_X5_at : GoodIn wsX4_bear wsX5_at := goodIn_r _ [18] (by decide +kernel) (by decide +kernel)
set_option maxRecDepth 20000 in
theorem gX4_bear_X5_at_n29 : GoodIn wsX4_bear (wsX5_at) := ggX4_bear_X5_at
set_option maxRecDepth 20000 in
theorem ggX4_bear_X5_put : GoodIn wsX4_bear wsX5_put := goodIn_r _ [20] (by decide +kernel) (by decide +kernel)
set_option maxRecDepth 20000 in
theorem gX4_bear_X5_put_n49 : GoodIn wsX4_bear (wsX5_put) := ggX4_bear_X5_put
theorem dX4_bear_0 : decode cX4_bear 0 = .ok (.aload_n 0, 1) := by decide +kernel
theorem dX4_bear_1 : decode cX4_bear 1 = .ok (.getfield 19, 3) := by decide +kernel
theorem dX4_bear_4 : decode cX4_bear 4 = .ok (.istore 5, 2) := by decide +kernel
theorem dX4_bear_6 : decode cX4_bear 6 = .ok (.iconst 0, 1) := by decide +kernel
theorem dX4_bear_7 : decode cX4_bear 7 = .ok (.istore 6, 2) := by decide +kernel
theorem dX4_bear_9 : decode cX4_bear 9 = .ok (.iload 6, 2) := by decide +kernel
theorem dX4_bear_11 : decode cX4_bear 11 = .ok (.bipush 20, 2) := by decide +kernel
theorem dX4_bear_13 : decode cX4_bear 13 = .ok (.if_icmp .ge 65, 3) := by decide +kernel
theorem dX4_bear_16 : decode cX4_bear 16 = .ok (.aload_n 0, 1) := by decide +kernel
theorem dX4_bear_17 : decode cX4_bear 17 = .ok (.iload 6, 2) := by decide +kernel
theorem dX4_bear_19 : decode cX4_bear 19 = .ok (.iload_n 1, 1) := by decide +kernel
theorem dX4_bear_20 : decode cX4_bear 20 = .ok (.iload_n 2, 1) := by decide +kernel
theorem dX4_bear_21 : decode cX4_bear 21 = .ok (.iload_n 3, 1) := by decide +kernel
theorem dX4_bear_22 : decode cX4_bear 22 = .ok (.invokevirtual 42, 3) := by decide +kernel
theorem dX4_bear_25 : decode cX4_bear 25 = .ok (.istore 7, 2) := by decide +kernel
theorem dX4_bear_27 : decode cX4_bear 27 = .ok (.aload_n 0, 1) := by decide +kernel
theorem dX4_bear_28 : decode cX4_bear 28 = .ok (.getfield 9, 3) := by decide +kernel
theorem dX4_bear_31 : decode cX4_bear 31 = .ok (.iload 6, 2) := by decide +kernel
theorem dX4_bear_33 : decode cX4_bear 33 = .ok (.invokestatic 29, 3) := by decide +kernel
theorem dX4_bear_36 : decode cX4_bear 36 = .ok (.iload 7, 2) := by decide +kernel
theorem dX4_bear_38 : decode cX4_bear 38 = .ok (.iconst 1, 1) := by decide +kernel
theorem dX4_bear_39 : decode cX4_bear 39 = .ok (.iload 4, 2) := by decide +kernel
theorem dX4_bear_41 : decode cX4_bear 41 = .ok (.invokestatic 39, 3) := by decide +kernel
theorem dX4_bear_44 : decode cX4_bear 44 = .ok (.idiv, 1) := by decide +kernel
theorem dX4_bear_45 : decode cX4_bear 45 = .ok (.iadd, 1) := by decide +kernel
theorem dX4_bear_46 : decode cX4_bear 46 = .ok (.istore 8, 2) := by decide +kernel
theorem dX4_bear_48 : decode cX4_bear 48 = .ok (.aload_n 0, 1) := by decide +kernel
theorem dX4_bear_49 : decode cX4_bear 49 = .ok (.getfield 9, 3) := by decide +kernel
theorem dX4_bear_52 : decode cX4_bear 52 = .ok (.iload 6, 2) := by decide +kernel
theorem dX4_bear_54 : decode cX4_bear 54 = .ok (.sipush 1000, 3) := by decide +kernel
theorem dX4_bear_57 : decode cX4_bear 57 = .ok (.iload 8, 2) := by decide +kernel
theorem dX4_bear_59 : decode cX4_bear 59 = .ok (.invokestatic 33, 3) := by decide +kernel
theorem dX4_bear_62 : decode cX4_bear 62 = .ok (.invokestatic 49, 3) := by decide +kernel
theorem dX4_bear_65 : decode cX4_bear 65 = .ok (.iload 5, 2) := by decide +kernel
theorem dX4_bear_67 : decode cX4_bear 67 = .ok (.iload 7, 2) := by decide +kernel
theorem dX4_bear_69 : decode cX4_bear 69 = .ok (.iadd, 1) := by decide +kernel
theorem dX4_bear_70 : decode cX4_bear 70 = .ok (.istore 5, 2) := by decide +kernel
theorem dX4_bear_72 : decode cX4_bear 72 = .ok (.iinc 6 1, 3) := by decide +kernel
theorem dX4_bear_75 : decode cX4_bear 75 = .ok (.goto (-66), 3) := by decide +kernel
theorem dX4_bear_78 : decode cX4_bear 78 = .ok (.aload_n 0, 1) := by decide +kernel
theorem dX4_bear_79 : decode cX4_bear 79 = .ok (.bipush 30, 2) := by decide +kernel
theorem dX4_bear_81 : decode cX4_bear 81 = .ok (.aload_n 0, 1) := by decide +kernel
theorem dX4_bear_82 : decode cX4_bear 82 = .ok (.getfield 15, 3) := by decide +kernel
theorem dX4_bear_85 : decode cX4_bear 85 = .ok (.iload 5, 2) := by decide +kernel
theorem dX4_bear_87 : decode cX4_bear 87 = .ok (.sipush 500, 3) := by decide +kernel
theorem dX4_bear_90 : decode cX4_bear 90 = .ok (.idiv, 1) := by decide +kernel
theorem dX4_bear_91 : decode cX4_bear 91 = .ok (.iadd, 1) := by decide +kernel
theorem dX4_bear_92 : decode cX4_bear 92 = .ok (.invokestatic 33, 3) := by decide +kernel
theorem dX4_bear_95 : decode cX4_bear 95 = .ok (.putfield 15, 3) := by decide +kernel
theorem dX4_bear_98 : decode cX4_bear 98 = .ok (.aload_n 0, 1) := by decide +kernel
theorem dX4_bear_99 : decode cX4_bear 99 = .ok (.iload 5, 2) := by decide +kernel
theorem dX4_bear_101 : decode cX4_bear 101 = .ok (.sipush 500, 3) := by decide +kernel
theorem dX4_bear_104 : decode cX4_bear 104 = .ok (.irem, 1) := by decide +kernel
theorem dX4_bear_105 : decode cX4_bear 105 = .ok (.putfield 19, 3) := by decide +kernel
theorem dX4_bear_108 : decode cX4_bear 108 = .ok (.return_, 1) := by decide +kernel
set_option maxRecDepth 20000 in
theorem ggX4_renew_X5_at : GoodIn wsX4_renew wsX5_at := goodIn_r _ [7] (by decide +kernel) (by decide +kernel)
set_option maxRecDepth 20000 in
theorem gX4_renew_X5_at_n29 : GoodIn wsX4_renew (wsX5_at) := ggX4_renew_X5_at
set_option maxRecDepth 20000 in
theorem ggX4_renew_X5_put : GoodIn wsX4_renew wsX5_put := goodIn_r _ [9] (by decide +kernel) (by decide +kernel)
set_option maxRecDepth 20000 in
theorem gX4_renew_X5_put_n49 : GoodIn wsX4_renew (wsX5_put) := ggX4_renew_X5_put
theorem dX4_renew_0 : decode cX4_renew 0 = .ok (.iconst 0, 1) := by decide +kernel
theorem dX4_renew_1 : decode cX4_renew 1 = .ok (.istore_n 2, 1) := by decide +kernel
theorem dX4_renew_2 : decode cX4_renew 2 = .ok (.iload_n 2, 1) := by decide +kernel
theorem dX4_renew_3 : decode cX4_renew 3 = .ok (.bipush 20, 2) := by decide +kernel
