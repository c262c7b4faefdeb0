theorem dX4_renew_5 : decode cX4_renew 5 = .ok (.if_icmp .ge 39, 3) := by decide +kernel
theorem dX4_renew_8 : decode cX4_renew 8 = .ok (.aload_n 0, 1) := by decide +kernel
theorem dX4_renew_9 : decode cX4_renew 9 = .ok (.getfield 9, 3) := by decide +kernel
theorem dX4_renew_12 : decode cX4_renew 12 = .ok (.iload_n 2, 1) := by decide +kernel
theorem dX4_renew_13 : decode cX4_renew 13 = .ok (.iload_n 2, 1) := by decide +kernel
theorem dX4_renew_14 : decode cX4_renew 14 = .ok (.iload_n 1, 1) := by decide +kernel
theorem dX4_renew_15 : decode cX4_renew 15 = .ok (.iadd, 1) := by decide +kernel
theorem dX4_renew_16 : decode cX4_renew 16 = .ok (.bipush 20, 2) := by decide +kernel
theorem dX4_renew_18 : decode cX4_renew 18 = .ok (.if_icmp .ge 16, 3) := by decide +kernel
theorem dX4_renew_21 : decode cX4_renew 21 = .ok (.aload_n 0, 1) := by decide +kernel
theorem dX4_renew_22 : decode cX4_renew 22 = .ok (.getfield 9, 3) := by decide +kernel
theorem dX4_renew_25 : decode cX4_renew 25 = .ok (.iload_n 2, 1) := by decide +kernel
theorem dX4_renew_26 : decode cX4_renew 26 = .ok (.iload_n 1, 1) := by decide +kernel
theorem dX4_renew_27 : decode cX4_renew 27 = .ok (.iadd, 1) := by decide +kernel
theorem dX4_renew_28 : decode cX4_renew 28 = .ok (.invokestatic 29, 3) := by decide +kernel
theorem dX4_renew_31 : decode cX4_renew 31 = .ok (.goto 4, 3) := by decide +kernel
theorem dX4_renew_34 : decode cX4_renew 34 = .ok (.iconst 0, 1) := by decide +kernel
theorem dX4_renew_35 : decode cX4_renew 35 = .ok (.invokestatic 49, 3) := by decide +kernel
theorem dX4_renew_38 : decode cX4_renew 38 = .ok (.iinc 2 1, 3) := by decide +kernel
theorem dX4_renew_41 : decode cX4_renew 41 = .ok (.goto (-39), 3) := by decide +kernel
theorem dX4_renew_44 : decode cX4_renew 44 = .ok (.aload_n 0, 1) := by decide +kernel
theorem dX4_renew_45 : decode cX4_renew 45 = .ok (.dup, 1) := by decide +kernel
theorem dX4_renew_46 : decode cX4_renew 46 = .ok (.getfield 22, 3) := by decide +kernel
theorem dX4_renew_49 : decode cX4_renew 49 = .ok (.iload_n 1, 1) := by decide +kernel
theorem dX4_renew_50 : decode cX4_renew 50 = .ok (.isub, 1) := by decide +kernel
theorem dX4_renew_51 : decode cX4_renew 51 = .ok (.putfield 22, 3) := by decide +kernel
theorem dX4_renew_54 : decode cX4_renew 54 = .ok (.aload_n 0, 1) := by decide +kernel
theorem dX4_renew_55 : decode cX4_renew 55 = .ok (.iconst 0, 1) := by decide +kernel
theorem dX4_renew_56 : decode cX4_renew 56 = .ok (.putfield 15, 3) := by decide +kernel
theorem dX4_renew_59 : decode cX4_renew 59 = .ok (.aload_n 0, 1) := by decide +kernel
theorem dX4_renew_60 : decode cX4_renew 60 = .ok (.iconst 0, 1) := by decide +kernel
theorem dX4_renew_61 : decode cX4_renew 61 = .ok (.putfield 19, 3) := by decide +kernel
theorem dX4_renew_64 : decode cX4_renew 64 = .ok (.return_, 1) := by decide +kernel
set_option maxRecDepth 20000 in
theorem ggX5_init_X3_init : GoodIn wsX5_init wsX3_init := goodIn_r _ [21, 22, 2, 3, 23, 24, 25, 26, 27, 28, 29, 30, 31, 32, 33, 34, 35, 36, 37, 38, 39, 40, 41, 42, 43, 44, 45, 46, 47, 48, 49, 50, 51, 52, 53, 54, 55, 56, 57, 58, 59, 60, 61, 62, 63, 81, 82, 83, 84, 85, 86, 87, 88, 89, 90, 91, 92, 93, 94, 108, 109, 110, 111, 112, 113, 114, 115] (by decide +kernel) (by decide +kernel)
set_option maxRecDepth 20000 in
theorem gX5_init_X3_init : GoodIn wsX5_init (wsX3_init) := ggX5_init_X3_init
set_option maxRecDepth 20000 in
theorem ggX5_init_X0_init : GoodIn wsX5_init wsX0_init := goodIn_r _ [66, 67, 2, 3, 68, 69, 5, 6, 70, 71, 72, 20, 21, 22, 23, 24, 25, 26, 27, 28, 29, 30, 31, 32, 33, 34, 35, 36, 37, 38, 39, 40, 41, 42, 43, 44, 45, 46, 47, 48, 49, 50, 51, 52, 53, 54, 55, 56, 57, 58, 59, 60, 61, 62, 63, 101, 102, 103, 81, 82, 83, 84, 85, 86, 87, 88, 89, 90, 91, 92, 93, 94, 108, 109, 110, 111, 112, 113, 114, 115] (by decide +kernel) (by decide +kernel)
set_option maxRecDepth 20000 in
theorem gX5_init_X0_init : GoodIn wsX5_init (wsX0_init) := ggX5_init_X0_init
set_option maxRecDepth 20000 in
theorem ggX5_init_X2_init : GoodIn wsX5_init wsX2_init := goodIn_r _ [75, 76, 2, 3, 23, 77, 78, 79, 80, 104, 105, 106, 107] (by decide +kernel) (by decide +kernel)
set_option maxRecDepth 20000 in
theorem gX5_init_X2_init : GoodIn wsX5_init (wsX2_init) := ggX5_init_X2_init
theorem dX5_init_0 : decode cX5_init 0 = .ok (.aload_n 0, 1) := by decide +kernel
theorem dX5_init_1 : decode cX5_init 1 = .ok (.invokespecial 1, 3) := by decide +kernel
theorem dX5_init_4 : decode cX5_init 4 = .ok (.aload_n 0, 1) := by decide +kernel
theorem dX5_init_5 : decode cX5_init 5 = .ok (.new 7, 3) := by decide +kernel
theorem dX5_init_8 : decode cX5_init 8 = .ok (.dup, 1) := by decide +kernel
theorem dX5_init_9 : decode cX5_init 9 = .ok (.invokespecial 9, 3) := by decide +kernel
theorem dX5_init_12 : decode cX5_init 12 = .ok (.putfield 10, 3) := by decide +kernel
theorem dX5_init_15 : decode cX5_init 15 = .ok (.aload_n 0, 1) := by decide +kernel
theorem dX5_init_16 : decode cX5_init 16 = .ok (.new 7, 3) := by decide +kernel
theorem dX5_init_19 : decode cX5_init 19 = .ok (.dup, 1) := by decide +kernel
theorem dX5_init_20 : decode cX5_init 20 = .ok (.invokespecial 9, 3) := by decide +kernel
theorem dX5_init_23 : decode cX5_init 23 = .ok (.putfield 16, 3) := by decide +kernel
theorem dX5_init_26 : decode cX5_init 26 = .ok (.aload_n 0, 1) := by decide +kernel
theorem dX5_init_27 : decode cX5_init 27 = .ok (.new 7, 3) := by decide +kernel
theorem dX5_init_30 : decode cX5_init 30 = .ok (.dup, 1) := by decide +kernel
theorem dX5_init_31 : decode cX5_init 31 = .ok (.invokespecial 9, 3) := by decide +kernel
theorem dX5_init_34 : decode cX5_init 34 = .ok (.putfield 19, 3) := by decide +kernel
theorem dX5_init_37 : decode cX5_init 37 = .ok (.aload_n 0, 1) := by decide +kernel
theorem dX5_init_38 : decode cX5_init 38 = .ok (.new 22, 3) := by decide +kernel
theorem dX5_init_41 : decode cX5_init 41 = .ok (.dup, 1) := by decide +kernel
theorem dX5_init_42 : decode cX5_init 42 = .ok (.invokespecial 24, 3) := by decide +kernel
theorem dX5_init_45 : decode cX5_init 45 = .ok (.putfield 25, 3) := by decide +kernel
theorem dX5_init_48 : decode cX5_init 48 = .ok (.aload_n 0, 1) := by decide +kernel
theorem dX5_init_49 : decode cX5_init 49 = .ok (.new 29, 3) := by decide +kernel
theorem dX5_init_52 : decode cX5_init 52 = .ok (.dup, 1) := by decide +kernel
theorem dX5_init_53 : decode cX5_init 53 = .ok (.invokespecial 31, 3) := by decide +kernel
theorem dX5_init_56 : decode cX5_init 56 = .ok (.putfield 32, 3) := by decide +kernel
theorem dX5_init_59 : decode cX5_init 59 = .ok (.aload_n 0, 1) := by decide +kernel
theorem dX5_init_60 : decode cX5_init 60 = .ok (.iconst 0, 1) := by decide +kernel
theorem dX5_init_61 : decode cX5_init 61 = .ok (.putfield 36, 3) := by decide +kernel
theorem dX5_init_64 : decode cX5_init 64 = .ok (.return_, 1) := by decide +kernel
set_option maxRecDepth 20000 in
theorem ggX5_current_X5_isWithin : GoodIn wsX5_current wsX5_isWithin := goodIn_r _ [11] (by decide +kernel) (by decide +kernel)
set_option maxRecDepth 20000 in
theorem gX5_current_X5_isWithin : GoodIn wsX5_current (va_wsS RX5 40 yX5_isWithin wsX5_isWithin) := goodIn_app (goodIn_of _ (by decide +kernel)) ggX5_current_X5_isWithin
set_option maxRecDepth 20000 in
theorem ggX5_current_X0_save : GoodIn wsX5_current wsX0_save := goodIn_r _ [16, 17, 18, 19, 20, 21, 15, 22, 23, 24, 25, 26, 27, 28, 29, 30, 31, 32, 33, 34, 35, 36, 37, 38, 39, 40, 41, 42, 43, 44, 45, 46, 47, 10, 48, 49, 50, 51, 52, 53, 54, 55, 56, 57, 58, 59, 60, 61, 62, 63, 64, 65, 66, 67, 68, 69, 70, 71, 72, 73, 74, 101, 102, 103, 87, 88, 89, 90, 91, 92, 93, 94, 95, 96, 97, 98, 99, 100, 104, 105, 106, 107, 108, 109, 110, 111] (by decide +kernel) (by decide +kernel)
set_option maxRecDepth 20000 in
theorem gX5_current_X0_save : GoodIn wsX5_current (wsV RX5 56 RX0 yX0_save wsX0_save) := goodIn_app (goodIn_of _ (by decide +kernel)) ggX5_current_X0_save
set_option maxRecDepth 20000 in
theorem ggX5_current_X5_at : GoodIn wsX5_current wsX5_at := goodIn_r _ [77] (by decide +kernel) (by decide +kernel)
set_option maxRecDepth 20000 in
theorem gX5_current_X5_at : GoodIn wsX5_current (va_wsS RX5 64 yX5_at wsX5_at) := goodIn_app (goodIn_of _ (by decide +kernel)) ggX5_current_X5_at
set_option maxRecDepth 20000 in
theorem ggX5_current_X5_put : GoodIn wsX5_current wsX5_put := goodIn_r _ [80] (by decide +kernel) (by decide +kernel)
set_option maxRecDepth 20000 in
theorem gX5_current_X5_put : GoodIn wsX5_current (va_wsS RX5 68 yX5_put wsX5_put) := goodIn_app (goodIn_of _ (by decide +kernel)) ggX5_current_X5_put
theorem dX5_current_0 : decode cX5_current 0 = .ok (.iload_n 1, 1) := by decide +kernel
theorem dX5_current_1 : decode cX5_current 1 = .ok (.iconst 0, 1) := by decide +kernel
theorem dX5_current_2 : decode cX5_current 2 = .ok (.bipush 23, 2) := by decide +kernel
theorem dX5_current_4 : decode cX5_current 4 = .ok (.invokestatic 40, 3) := by decide +kernel
theorem dX5_current_7 : decode cX5_current 7 = .ok (.ifCond .ne 13, 3) := by decide +kernel
theorem dX5_current_10 : decode cX5_current 10 = .ok (.new 44, 3) := by decide +kernel
theorem dX5_current_13 : decode cX5_current 13 = .ok (.dup, 1) := by decide +kernel
theorem dX5_current_14 : decode cX5_current 14 = .ok (.ldc 46, 2) := by decide +kernel
theorem dX5_current_16 : decode cX5_current 16 = .ok (.invokespecial 48, 3) := by decide +kernel
theorem dX5_current_19 : decode cX5_current 19 = .ok (.athrow, 1) := by decide +kernel
theorem dX5_current_20 : decode cX5_current 20 = .ok (.iload_n 2, 1) := by decide +kernel
theorem dX5_current_21 : decode cX5_current 21 = .ok (.iconst 0, 1) := by decide +kernel
theorem dX5_current_22 : decode cX5_current 22 = .ok (.bipush 40, 2) := by decide +kernel
theorem dX5_current_24 : decode cX5_current 24 = .ok (.invokestatic 40, 3) := by decide +kernel
theorem dX5_current_27 : decode cX5_current 27 = .ok (.ifCond .ne 13, 3) := by decide +kernel
theorem dX5_current_30 : decode cX5_current 30 = .ok (.new 51, 3) := by decide +kernel
theorem dX5_current_33 : decode cX5_current 33 = .ok (.dup, 1) := by decide +kernel
theorem dX5_current_34 : decode cX5_current 34 = .ok (.ldc 53, 2) := by decide +kernel
theorem dX5_current_36 : decode cX5_current 36 = .ok (.invokespecial 55, 3) := by decide +kernel
theorem dX5_current_39 : decode cX5_current 39 = .ok (.athrow, 1) := by decide +kernel
theorem dX5_current_40 : decode cX5_current 40 = .ok (.aload_n 0, 1) := by decide +kernel
theorem dX5_current_41 : decode cX5_current 41 = .ok (.getfield 25, 3) := by decide +kernel
theorem dX5_current_44 : decode cX5_current 44 = .ok (.aload_n 0, 1) := by decide +kernel
theorem dX5_current_45 : decode cX5_current 45 = .ok (.getfield 10, 3) := by decide +kernel
theorem dX5_current_48 : decode cX5_current 48 = .ok (.invokevirtual 56, 3) := by decide +kernel
theorem dX5_current_51 : decode cX5_current 51 = .ok (.aload_n 0, 1) := by decide +kernel
theorem dX5_current_52 : decode cX5_current 52 = .ok (.getfield 10, 3) := by decide +kernel
theorem dX5_current_55 : decode cX5_current 55 = .ok (.getfield 60, 3) := by decide +kernel
theorem dX5_current_58 : decode cX5_current 58 = .ok (.iload_n 1, 1) := by decide +kernel
theorem dX5_current_59 : decode cX5_current 59 = .ok (.invokestatic 64, 3) := by decide +kernel
theorem dX5_current_62 : decode cX5_current 62 = .ok (.istore_n 3, 1) := by decide +kernel
theorem dX5_current_63 : decode cX5_current 63 = .ok (.aload_n 0, 1) := by decide +kernel
theorem dX5_current_64 : decode cX5_current 64 = .ok (.getfield 10, 3) := by decide +kernel
theorem dX5_current_67 : decode cX5_current 67 = .ok (.getfield 60, 3) := by decide +kernel
theorem dX5_current_70 : decode cX5_current 70 = .ok (.iload_n 1, 1) := by decide +kernel
theorem dX5_current_71 : decode cX5_current 71 = .ok (.iload_n 2, 1) := by decide +kernel
theorem dX5_current_72 : decode cX5_current 72 = .ok (.invokestatic 68, 3) := by decide +kernel
theorem dX5_current_75 : decode cX5_current 75 = .ok (.iload_n 3, 1) := by decide +kernel
theorem dX5_current_76 : decode cX5_current 76 = .ok (.ireturn, 1) := by decide +kernel
set_option maxRecDepth 20000 in
theorem ggX5_arrive_X5_isWithin : GoodIn wsX5_arrive wsX5_isWithin := goodIn_r _ [12] (by decide +kernel) (by decide +kernel)
set_option maxRecDepth 20000 in
theorem gX5_arrive_X5_isWithin : GoodIn wsX5_arrive (va_wsS RX5 40 yX5_isWithin wsX5_isWithin) := goodIn_app (goodIn_of _ (by decide +kernel)) ggX5_arrive_X5_isWithin
set_option maxRecDepth 20000 in
theorem ggX5_arrive_X3_canArrive : GoodIn wsX5_arrive wsX3_canArrive := goodIn_r _ [17, 18, 19, 20, 16, 21, 22, 23, 24, 25, 26, 27, 28, 29, 30, 110, 111, 112, 113, 114, 115, 116, 117, 118, 119, 120, 121, 122, 123, 124, 125, 126, 127] (by decide +kernel) (by decide +kernel)
set_option maxRecDepth 20000 in
theorem gX5_arrive_X3_canArrive : GoodIn wsX5_arrive (wsV RX5 76 RX3 yX3_canArrive wsX3_canArrive) := goodIn_app (goodIn_of _ (by decide +kernel)) ggX5_arrive_X3_canArrive
set_option maxRecDepth 20000 in
theorem ggX5_arrive_X0_save : GoodIn wsX5_arrive wsX0_save := goodIn_r _ [35, 36, 37, 38, 39, 40, 34, 41, 42, 43, 44, 45, 46, 47, 48, 49, 16, 50, 51, 52, 22, 23, 53, 54, 55, 56, 57, 58, 59, 60, 61, 62, 63, 11, 64, 65, 66, 67, 68, 69, 70, 71, 72, 73, 74, 75, 27, 76, 30, 77, 29, 78, 79, 80, 81, 82, 83, 84, 85, 86, 87, 128, 129, 130, 110, 111, 112, 113, 114, 115, 116, 117, 118, 119, 120, 121, 122, 123, 124, 125, 126, 127, 131, 132, 133, 134] (by decide +kernel) (by decide +kernel)
set_option maxRecDepth 20000 in
theorem gX5_arrive_X0_save : GoodIn wsX5_arrive (wsV RX5 56 RX0 yX0_save wsX0_save) := goodIn_app (goodIn_of _ (by decide +kernel)) ggX5_arrive_X0_save
set_option maxRecDepth 20000 in
theorem ggX5_arrive_X3_letArrive : GoodIn wsX5_arrive wsX3_letArrive := goodIn_r _ [91, 59, 18, 19, 20, 16, 21, 22, 23, 92, 93, 94, 27, 95, 30, 29, 77, 78, 96, 25, 26, 28, 97, 11, 98, 110, 111, 112, 113, 114, 115, 116, 117, 118, 119, 120, 121, 122, 123, 124, 125, 126, 127] (by decide +kernel) (by decide +kernel)
set_option maxRecDepth 20000 in
theorem gX5_arrive_X3_letArrive : GoodIn wsX5_arrive (wsV RX5 85 RX3 yX3_letArrive wsX3_letArrive) := goodIn_app (goodIn_of _ (by decide +kernel)) ggX5_arrive_X3_letArrive
set_option maxRecDepth 20000 in
theorem ggX5_arrive_X3_lineAtBank : GoodIn wsX5_arrive wsX3_lineAtBank := goodIn_r _ [21, 22, 23, 110, 111, 112, 113, 114, 115, 116, 117, 118, 119, 120, 121, 122, 123] (by decide +kernel) (by decide +kernel)
set_option maxRecDepth 20000 in
theorem gX5_arrive_X3_lineAtBank : GoodIn wsX5_arrive (wsV RX5 89 RX3 yX3_lineAtBank wsX3_lineAtBank) := goodIn_app (goodIn_of _ (by decide +kernel)) ggX5_arrive_X3_lineAtBank
set_option maxRecDepth 20000 in
theorem ggX5_arrive_X1_size : GoodIn wsX5_arrive wsX1_size := goodIn_r _ [103, 29, 124, 125, 126, 127] (by decide +kernel) (by decide +kernel)
set_option maxRecDepth 20000 in
theorem gX5_arrive_X1_size : GoodIn wsX5_arrive (wsV RX5 93 RX1 yX1_size wsX1_size) := goodIn_app (goodIn_of _ (by decide +kernel)) ggX5_arrive_X1_size
theorem dX5_arrive_0 : decode cX5_arrive 0 = .ok (.iload_n 1, 1) := by decide +kernel
theorem dX5_arrive_1 : decode cX5_arrive 1 = .ok (.iconst 0, 1) := by decide +kernel
theorem dX5_arrive_2 : decode cX5_arrive 2 = .ok (.iconst 1, 1) := by decide +kernel
theorem dX5_arrive_3 : decode cX5_arrive 3 = .ok (.invokestatic 40, 3) := by decide +kernel
theorem dX5_arrive_6 : decode cX5_arrive 6 = .ok (.ifCond .ne 13, 3) := by decide +kernel
theorem dX5_arrive_9 : decode cX5_arrive 9 = .ok (.new 44, 3) := by decide +kernel
theorem dX5_arrive_12 : decode cX5_arrive 12 = .ok (.dup, 1) := by decide +kernel
theorem dX5_arrive_13 : decode cX5_arrive 13 = .ok (.ldc 72, 2) := by decide +kernel
theorem dX5_arrive_15 : decode cX5_arrive 15 = .ok (.invokespecial 48, 3) := by decide +kernel
theorem dX5_arrive_18 : decode cX5_arrive 18 = .ok (.athrow, 1) := by decide +kernel
theorem dX5_arrive_19 : decode cX5_arrive 19 = .ok (.iload_n 2, 1) := by decide +kernel
theorem dX5_arrive_20 : decode cX5_arrive 20 = .ok (.iconst 1, 1) := by decide +kernel
theorem dX5_arrive_21 : decode cX5_arrive 21 = .ok (.bipush 20, 2) := by decide +kernel
theorem dX5_arrive_23 : decode cX5_arrive 23 = .ok (.invokestatic 40, 3) := by decide +kernel
theorem dX5_arrive_26 : decode cX5_arrive 26 = .ok (.ifCond .ne 13, 3) := by decide +kernel
theorem dX5_arrive_29 : decode cX5_arrive 29 = .ok (.new 51, 3) := by decide +kernel
theorem dX5_arrive_32 : decode cX5_arrive 32 = .ok (.dup, 1) := by decide +kernel
theorem dX5_arrive_33 : decode cX5_arrive 33 = .ok (.ldc 74, 2) := by decide +kernel
theorem dX5_arrive_35 : decode cX5_arrive 35 = .ok (.invokespecial 55, 3) := by decide +kernel
theorem dX5_arrive_38 : decode cX5_arrive 38 = .ok (.athrow, 1) := by decide +kernel
theorem dX5_arrive_39 : decode cX5_arrive 39 = .ok (.aload_n 0, 1) := by decide +kernel
theorem dX5_arrive_40 : decode cX5_arrive 40 = .ok (.getfield 10, 3) := by decide +kernel
theorem dX5_arrive_43 : decode cX5_arrive 43 = .ok (.iload_n 1, 1) := by decide +kernel
theorem dX5_arrive_44 : decode cX5_arrive 44 = .ok (.invokevirtual 76, 3) := by decide +kernel
theorem dX5_arrive_47 : decode cX5_arrive 47 = .ok (.ifCond .ne 13, 3) := by decide +kernel
theorem dX5_arrive_50 : decode cX5_arrive 50 = .ok (.new 80, 3) := by decide +kernel
theorem dX5_arrive_53 : decode cX5_arrive 53 = .ok (.dup, 1) := by decide +kernel
theorem dX5_arrive_54 : decode cX5_arrive 54 = .ok (.ldc 82, 2) := by decide +kernel
theorem dX5_arrive_56 : decode cX5_arrive 56 = .ok (.invokespecial 84, 3) := by decide +kernel
theorem dX5_arrive_59 : decode cX5_arrive 59 = .ok (.athrow, 1) := by decide +kernel
theorem dX5_arrive_60 : decode cX5_arrive 60 = .ok (.aload_n 0, 1) := by decide +kernel
theorem dX5_arrive_61 : decode cX5_arrive 61 = .ok (.getfield 25, 3) := by decide +kernel
theorem dX5_arrive_64 : decode cX5_arrive 64 = .ok (.aload_n 0, 1) := by decide +kernel
theorem dX5_arrive_65 : decode cX5_arrive 65 = .ok (.getfield 10, 3) := by decide +kernel
theorem dX5_arrive_68 : decode cX5_arrive 68 = .ok (.invokevirtual 56, 3) := by decide +kernel
theorem dX5_arrive_71 : decode cX5_arrive 71 = .ok (.aload_n 0, 1) := by decide +kernel
theorem dX5_arrive_72 : decode cX5_arrive 72 = .ok (.getfield 10, 3) := by decide +kernel
theorem dX5_arrive_75 : decode cX5_arrive 75 = .ok (.iload_n 1, 1) := by decide +kernel
theorem dX5_arrive_76 : decode cX5_arrive 76 = .ok (.iload_n 2, 1) := by decide +kernel
theorem dX5_arrive_77 : decode cX5_arrive 77 = .ok (.invokevirtual 85, 3) := by decide +kernel
theorem dX5_arrive_80 : decode cX5_arrive 80 = .ok (.aload_n 0, 1) := by decide +kernel
theorem dX5_arrive_81 : decode cX5_arrive 81 = .ok (.getfield 10, 3) := by decide +kernel
theorem dX5_arrive_84 : decode cX5_arrive 84 = .ok (.iload_n 1, 1) := by decide +kernel
theorem dX5_arrive_85 : decode cX5_arrive 85 = .ok (.invokevirtual 89, 3) := by decide +kernel
theorem dX5_arrive_88 : decode cX5_arrive 88 = .ok (.invokevirtual 93, 3) := by decide +kernel
theorem dX5_arrive_91 : decode cX5_arrive 91 = .ok (.ireturn, 1) := by decide +kernel
set_option maxRecDepth 20000 in
theorem ggX5_load_X5_isWithin : GoodIn wsX5_load wsX5_isWithin := goodIn_r _ [10] (by decide +kernel) (by decide +kernel)
set_option maxRecDepth 20000 in
theorem gX5_load_X5_isWithin : GoodIn wsX5_load (va_wsS RX5 40 yX5_isWithin wsX5_isWithin) := goodIn_app (goodIn_of _ (by decide +kernel)) ggX5_load_X5_isWithin
set_option maxRecDepth 20000 in
theorem ggX5_load_X3_canDriveOn : GoodIn wsX5_load wsX3_canDriveOn := goodIn_r _ [15, 16, 17, 18, 19, 14, 20, 21, 22, 23, 24, 25, 26, 27, 28, 29, 30, 31, 32, 33, 34, 35, 36, 37, 38, 39, 121, 122, 123, 124, 125, 126, 127, 128, 129, 130, 131, 132, 133, 134, 135, 136, 137, 138] (by decide +kernel) (by decide +kernel)
set_option maxRecDepth 20000 in
theorem gX5_load_X3_canDriveOn : GoodIn wsX5_load (wsV RX5 101 RX3 yX3_canDriveOn wsX3_canDriveOn) := goodIn_app (goodIn_of _ (by decide +kernel)) ggX5_load_X3_canDriveOn
set_option maxRecDepth 20000 in
theorem ggX5_load_X0_save : GoodIn wsX5_load wsX0_save := goodIn_r _ [44, 45, 46, 47, 48, 49, 43, 50, 51, 52, 53, 54, 55, 56, 57, 58, 14, 59, 60, 61, 21, 22, 33, 34, 62, 63, 16, 64, 65, 66, 67, 68, 69, 9, 70, 71, 72, 73, 74, 75, 76, 77, 78, 79, 80, 81, 26, 82, 39, 83, 28, 84, 85, 86, 87, 88, 89, 90, 91, 92, 93, 139, 140, 141, 121, 122, 123, 124, 125, 126, 127, 128, 129, 130, 131, 132, 133, 134, 135, 136, 137, 138, 142, 143, 144, 145] (by decide +kernel) (by decide +kernel)
set_option maxRecDepth 20000 in
theorem gX5_load_X0_save : GoodIn wsX5_load (wsV RX5 56 RX0 yX0_save wsX0_save) := goodIn_app (goodIn_of _ (by decide +kernel)) ggX5_load_X0_save
set_option maxRecDepth 20000 in
theorem ggX5_load_X3_driveOn : GoodIn wsX5_load wsX3_driveOn := goodIn_r _ [97, 16, 17, 18, 19, 14, 20, 21, 22, 98, 99, 100, 26, 101, 28, 39, 102, 9, 103, 104, 105, 106, 107, 84, 83, 108, 109, 29, 30, 31, 32, 33, 34, 110, 111, 112, 113, 114, 36, 37, 38, 121, 122, 123, 124, 125, 126, 127, 128, 129, 130, 131, 132, 133, 134, 135, 136, 137, 138] (by decide +kernel) (by decide +kernel)
set_option maxRecDepth 20000 in
theorem gX5_load_X3_driveOn : GoodIn wsX5_load (wsV RX5 106 RX3 yX3_driveOn wsX3_driveOn) := goodIn_app (goodIn_of _ (by decide +kernel)) ggX5_load_X3_driveOn
theorem dX5_load_0 : decode cX5_load 0 = .ok (.iload_n 1, 1) := by decide +kernel
theorem dX5_load_1 : decode cX5_load 1 = .ok (.iconst 0, 1) := by decide +kernel
theorem dX5_load_2 : decode cX5_load 2 = .ok (.iconst 1, 1) := by decide +kernel
theorem dX5_load_3 : decode cX5_load 3 = .ok (.invokestatic 40, 3) := by decide +kernel
theorem dX5_load_6 : decode cX5_load 6 = .ok (.ifCond .ne 13, 3) := by decide +kernel
theorem dX5_load_9 : decode cX5_load 9 = .ok (.new 44, 3) := by decide +kernel
theorem dX5_load_12 : decode cX5_load 12 = .ok (.dup, 1) := by decide +kernel
theorem dX5_load_13 : decode cX5_load 13 = .ok (.ldc 99, 2) := by decide +kernel
theorem dX5_load_15 : decode cX5_load 15 = .ok (.invokespecial 48, 3) := by decide +kernel
theorem dX5_load_18 : decode cX5_load 18 = .ok (.athrow, 1) := by decide +kernel
theorem dX5_load_19 : decode cX5_load 19 = .ok (.aload_n 0, 1) := by decide +kernel
theorem dX5_load_20 : decode cX5_load 20 = .ok (.getfield 10, 3) := by decide +kernel
theorem dX5_load_23 : decode cX5_load 23 = .ok (.iload_n 1, 1) := by decide +kernel
theorem dX5_load_24 : decode cX5_load 24 = .ok (.invokevirtual 101, 3) := by decide +kernel
theorem dX5_load_27 : decode cX5_load 27 = .ok (.ifCond .ne 13, 3) := by decide +kernel
theorem dX5_load_30 : decode cX5_load 30 = .ok (.new 80, 3) := by decide +kernel
theorem dX5_load_33 : decode cX5_load 33 = .ok (.dup, 1) := by decide +kernel
theorem dX5_load_34 : decode cX5_load 34 = .ok (.ldc 104, 2) := by decide +kernel
theorem dX5_load_36 : decode cX5_load 36 = .ok (.invokespecial 84, 3) := by decide +kernel
theorem dX5_load_39 : decode cX5_load 39 = .ok (.athrow, 1) := by decide +kernel
theorem dX5_load_40 : decode cX5_load 40 = .ok (.aload_n 0, 1) := by decide +kernel
theorem dX5_load_41 : decode cX5_load 41 = .ok (.getfield 25, 3) := by decide +kernel
theorem dX5_load_44 : decode cX5_load 44 = .ok (.aload_n 0, 1) := by decide +kernel
theorem dX5_load_45 : decode cX5_load 45 = .ok (.getfield 10, 3) := by decide +kernel
theorem dX5_load_48 : decode cX5_load 48 = .ok (.invokevirtual 56, 3) := by decide +kernel
theorem dX5_load_51 : decode cX5_load 51 = .ok (.aload_n 0, 1) := by decide +kernel
theorem dX5_load_52 : decode cX5_load 52 = .ok (.getfield 10, 3) := by decide +kernel
theorem dX5_load_55 : decode cX5_load 55 = .ok (.iload_n 1, 1) := by decide +kernel
theorem dX5_load_56 : decode cX5_load 56 = .ok (.invokevirtual 106, 3) := by decide +kernel
theorem dX5_load_59 : decode cX5_load 59 = .ok (.ireturn, 1) := by decide +kernel
set_option maxRecDepth 20000 in
theorem ggX5_unload_X0_save : GoodIn wsX5_unload wsX0_save := goodIn_r _ [7, 8, 9, 10, 11, 12, 6, 13, 14, 15, 16, 17, 18, 19, 20, 21, 22, 23, 24, 25, 26, 27, 28, 29, 30, 31, 32, 33, 34, 35, 36, 37, 38, 39, 40, 41, 42, 43, 44, 45, 46, 47, 48, 49, 50, 51, 52, 53, 54, 55, 56, 57, 58, 59, 60, 61, 62, 63, 64, 65, 66, 95, 96, 97, 98, 99, 100, 101, 102, 103, 104, 105, 106, 107, 108, 109, 110, 111, 112, 113, 114, 115, 116, 117, 118, 119] (by decide +kernel) (by decide +kernel)
set_option maxRecDepth 20000 in
theorem gX5_unload_X0_save : GoodIn wsX5_unload (wsV RX5 56 RX0 yX0_save wsX0_save) := goodIn_app (goodIn_of _ (by decide +kernel)) ggX5_unload_X0_save
set_option maxRecDepth 20000 in
theorem ggX5_unload_X3_driveOff : GoodIn wsX5_unload wsX3_driveOff := goodIn_r _ [70, 28, 32, 29, 35, 36, 71, 72, 73, 52, 74, 56, 55, 75, 39, 76, 77, 78, 79, 22, 80, 81, 82, 83, 84, 85, 86, 87, 88, 57, 98, 99, 100, 101, 102, 103, 104, 105, 106, 107, 108, 109, 110, 111, 112, 113, 114, 115] (by decide +kernel) (by decide +kernel)
set_option maxRecDepth 20000 in
theorem gX5_unload_X3_driveOff : GoodIn wsX5_unload (wsV RX5 110 RX3 yX3_driveOff wsX3_driveOff) := goodIn_app (goodIn_of _ (by decide +kernel)) ggX5_unload_X3_driveOff
theorem dX5_unload_0 : decode cX5_unload 0 = .ok (.aload_n 0, 1) := by decide +kernel
theorem dX5_unload_1 : decode cX5_unload 1 = .ok (.getfield 25, 3) := by decide +kernel
theorem dX5_unload_4 : decode cX5_unload 4 = .ok (.aload_n 0, 1) := by decide +kernel
theorem dX5_unload_5 : decode cX5_unload 5 = .ok (.getfield 10, 3) := by decide +kernel
theorem dX5_unload_8 : decode cX5_unload 8 = .ok (.invokevirtual 56, 3) := by decide +kernel
theorem dX5_unload_11 : decode cX5_unload 11 = .ok (.aload_n 0, 1) := by decide +kernel
theorem dX5_unload_12 : decode cX5_unload 12 = .ok (.getfield 10, 3) := by decide +kernel
theorem dX5_unload_15 : decode cX5_unload 15 = .ok (.invokevirtual 110, 3) := by decide +kernel
theorem dX5_unload_18 : decode cX5_unload 18 = .ok (.ireturn, 1) := by decide +kernel
set_option maxRecDepth 20000 in
theorem ggX5_cross_X3_reason : GoodIn wsX5_cross wsX3_reason := goodIn_r _ [9, 10, 11, 12, 13, 14, 15, 8, 16, 17, 18, 19, 20, 21, 22, 23, 24, 25, 26, 27, 28, 29, 30, 31, 32, 33, 34, 35, 36, 37, 38, 39, 40, 41, 42, 43, 44, 45, 46, 47, 48, 49, 50, 51, 52, 53, 54, 55, 56, 57, 58, 59, 60, 61, 62, 63, 64, 65, 66, 136, 137, 138, 139, 140, 141, 142, 143, 144, 145, 146, 147, 148, 149, 150, 151, 152, 153, 154, 155, 156, 157] (by decide +kernel) (by decide +kernel)
set_option maxRecDepth 20000 in
theorem gX5_cross_X3_reason : GoodIn wsX5_cross (wsV RX5 113 RX3 yX3_reason wsX3_reason) := goodIn_app (goodIn_of _ (by decide +kernel)) ggX5_cross_X3_reason
set_option maxRecDepth 20000 in
theorem ggX5_cross_X0_save : GoodIn wsX5_cross wsX0_save := goodIn_r _ [71, 72, 73, 74, 75, 76, 70, 77, 78, 79, 39, 40, 41, 80, 81, 82, 8, 83, 36, 10, 84, 85, 17, 18, 11, 37, 86, 87, 88, 89, 90, 91, 92, 30, 93, 94, 56, 21, 57, 95, 96, 97, 98, 99, 100, 101, 26, 102, 103, 104, 105, 28, 106, 107, 108, 49, 109, 66, 58, 110, 111, 158, 159, 160, 136, 137, 138, 139, 140, 141, 142, 143, 144, 145, 146, 147, 148, 149, 154, 155, 156, 157, 150, 151, 152, 153] (by decide +kernel) (by decide +kernel)
set_option maxRecDepth 20000 in
theorem gX5_cross_X0_save : GoodIn wsX5_cross (wsV RX5 56 RX0 yX0_save wsX0_save) := goodIn_app (goodIn_of _ (by decide +kernel)) ggX5_cross_X0_save
set_option maxRecDepth 20000 in
theorem ggX5_cross_X3_crossRiver : GoodIn wsX5_cross wsX3_crossRiver := goodIn_r _ [115, 11, 10, 12, 86, 87, 32, 33, 34, 8, 35, 36, 37, 38, 39, 40, 41, 29, 30, 31, 42, 43, 44, 45, 17, 18, 23, 24, 25, 26, 27, 28, 13, 14, 15, 16, 19, 20, 21, 22, 116, 117, 118, 49, 119, 110, 66, 59, 60, 61, 55, 56, 57, 58, 51, 52, 53, 54, 120, 121, 122, 123, 124, 125, 91, 84, 85, 126, 127, 128, 129, 105, 136, 137, 138, 139, 140, 141, 142, 143, 144, 145, 146, 147, 148, 149, 150, 151, 152, 153, 154, 155, 156, 157] (by decide +kernel) (by decide +kernel)
set_option maxRecDepth 20000 in
theorem gX5_cross_X3_crossRiver : GoodIn wsX5_cross (wsV RX5 118 RX3 yX3_crossRiver wsX3_crossRiver) := goodIn_app (goodIn_of _ (by decide +kernel)) ggX5_cross_X3_crossRiver
theorem dX5_cross_0 : decode cX5_cross 0 = .ok (.aload_n 0, 1) := by decide +kernel
theorem dX5_cross_1 : decode cX5_cross 1 = .ok (.getfield 10, 3) := by decide +kernel
theorem dX5_cross_4 : decode cX5_cross 4 = .ok (.invokevirtual 113, 3) := by decide +kernel
theorem dX5_cross_7 : decode cX5_cross 7 = .ok (.ifCond .eq 13, 3) := by decide +kernel
theorem dX5_cross_10 : decode cX5_cross 10 = .ok (.new 80, 3) := by decide +kernel
theorem dX5_cross_13 : decode cX5_cross 13 = .ok (.dup, 1) := by decide +kernel
theorem dX5_cross_14 : decode cX5_cross 14 = .ok (.ldc 116, 2) := by decide +kernel
theorem dX5_cross_16 : decode cX5_cross 16 = .ok (.invokespecial 84, 3) := by decide +kernel
theorem dX5_cross_19 : decode cX5_cross 19 = .ok (.athrow, 1) := by decide +kernel
theorem dX5_cross_20 : decode cX5_cross 20 = .ok (.aload_n 0, 1) := by decide +kernel
theorem dX5_cross_21 : decode cX5_cross 21 = .ok (.getfield 25, 3) := by decide +kernel
theorem dX5_cross_24 : decode cX5_cross 24 = .ok (.aload_n 0, 1) := by decide +kernel
theorem dX5_cross_25 : decode cX5_cross 25 = .ok (.getfield 10, 3) := by decide +kernel
theorem dX5_cross_28 : decode cX5_cross 28 = .ok (.invokevirtual 56, 3) := by decide +kernel
theorem dX5_cross_31 : decode cX5_cross 31 = .ok (.aload_n 0, 1) := by decide +kernel
theorem dX5_cross_32 : decode cX5_cross 32 = .ok (.getfield 10, 3) := by decide +kernel
theorem dX5_cross_35 : decode cX5_cross 35 = .ok (.invokevirtual 118, 3) := by decide +kernel
theorem dX5_cross_38 : decode cX5_cross 38 = .ok (.ireturn, 1) := by decide +kernel
set_option maxRecDepth 20000 in
theorem ggX5_pass_X5_isWithin : GoodIn wsX5_pass wsX5_isWithin := goodIn_r _ [9] (by decide +kernel) (by decide +kernel)
set_option maxRecDepth 20000 in
theorem gX5_pass_X5_isWithin : GoodIn wsX5_pass (va_wsS RX5 40 yX5_isWithin wsX5_isWithin) := goodIn_app (goodIn_of _ (by decide +kernel)) ggX5_pass_X5_isWithin
set_option maxRecDepth 20000 in
theorem ggX5_pass_X0_save : GoodIn wsX5_pass wsX0_save := goodIn_r _ [14, 15, 16, 17, 18, 19, 13, 20, 21, 22, 23, 24, 25, 26, 27, 28, 29, 30, 31, 32, 33, 34, 35, 36, 37, 38, 39, 40, 41, 42, 43, 44, 45, 8, 46, 47, 48, 49, 50, 51, 52, 53, 54, 55, 56, 57, 58, 59, 60, 61, 62, 63, 64, 65, 66, 67, 68, 69, 70, 71, 72, 101, 102, 103, 87, 88, 89, 90, 91, 92, 93, 94, 95, 96, 97, 98, 99, 100, 104, 105, 106, 107, 108, 109, 110, 111] (by decide +kernel) (by decide +kernel)
set_option maxRecDepth 20000 in
theorem gX5_pass_X0_save : GoodIn wsX5_pass (wsV RX5 56 RX0 yX0_save wsX0_save) := goodIn_app (goodIn_of _ (by decide +kernel)) ggX5_pass_X0_save
set_option maxRecDepth 20000 in
theorem ggX5_pass_X3_letPass : GoodIn wsX5_pass wsX3_letPass := goodIn_r _ [76, 38, 44, 33, 34, 77, 78, 79, 58, 80, 62, 87, 88, 89, 90, 91, 92, 93, 94, 95, 96, 97, 98, 99, 100, 104, 105, 106, 107] (by decide +kernel) (by decide +kernel)
set_option maxRecDepth 20000 in
theorem gX5_pass_X3_letPass : GoodIn wsX5_pass (wsV RX5 123 RX3 yX3_letPass wsX3_letPass) := goodIn_app (goodIn_of _ (by decide +kernel)) ggX5_pass_X3_letPass
theorem dX5_pass_0 : decode cX5_pass 0 = .ok (.iload_n 1, 1) := by decide +kernel
theorem dX5_pass_1 : decode cX5_pass 1 = .ok (.iconst 1, 1) := by decide +kernel
theorem dX5_pass_2 : decode cX5_pass 2 = .ok (.bipush 100, 2) := by decide +kernel
theorem dX5_pass_4 : decode cX5_pass 4 = .ok (.invokestatic 40, 3) := by decide +kernel
theorem dX5_pass_7 : decode cX5_pass 7 = .ok (.ifCond .ne 13, 3) := by decide +kernel
theorem dX5_pass_10 : decode cX5_pass 10 = .ok (.new 51, 3) := by decide +kernel
theorem dX5_pass_13 : decode cX5_pass 13 = .ok (.dup, 1) := by decide +kernel
theorem dX5_pass_14 : decode cX5_pass 14 = .ok (.ldc 121, 2) := by decide +kernel
theorem dX5_pass_16 : decode cX5_pass 16 = .ok (.invokespecial 55, 3) := by decide +kernel
theorem dX5_pass_19 : decode cX5_pass 19 = .ok (.athrow, 1) := by decide +kernel
theorem dX5_pass_20 : decode cX5_pass 20 = .ok (.aload_n 0, 1) := by decide +kernel
theorem dX5_pass_21 : decode cX5_pass 21 = .ok (.getfield 25, 3) := by decide +kernel
theorem dX5_pass_24 : decode cX5_pass 24 = .ok (.aload_n 0, 1) := by decide +kernel
theorem dX5_pass_25 : decode cX5_pass 25 = .ok (.getfield 10, 3) := by decide +kernel
theorem dX5_pass_28 : decode cX5_pass 28 = .ok (.invokevirtual 56, 3) := by decide +kernel
theorem dX5_pass_31 : decode cX5_pass 31 = .ok (.aload_n 0, 1) := by decide +kernel
theorem dX5_pass_32 : decode cX5_pass 32 = .ok (.getfield 10, 3) := by decide +kernel
theorem dX5_pass_35 : decode cX5_pass 35 = .ok (.iload_n 1, 1) := by decide +kernel
theorem dX5_pass_36 : decode cX5_pass 36 = .ok (.invokevirtual 123, 3) := by decide +kernel
theorem dX5_pass_39 : decode cX5_pass 39 = .ok (.aload_n 0, 1) := by decide +kernel
theorem dX5_pass_40 : decode cX5_pass 40 = .ok (.getfield 10, 3) := by decide +kernel
theorem dX5_pass_43 : decode cX5_pass 43 = .ok (.getfield 127, 3) := by decide +kernel
theorem dX5_pass_46 : decode cX5_pass 46 = .ok (.ireturn, 1) := by decide +kernel
set_option maxRecDepth 20000 in
theorem ggX5_draw_X5_isWithin : GoodIn wsX5_draw wsX5_isWithin := goodIn_r _ [12] (by decide +kernel) (by decide +kernel)
set_option maxRecDepth 20000 in
theorem gX5_draw_X5_isWithin : GoodIn wsX5_draw (va_wsS RX5 40 yX5_isWithin wsX5_isWithin) := goodIn_app (goodIn_of _ (by decide +kernel)) ggX5_draw_X5_isWithin
set_option maxRecDepth 20000 in
theorem ggX5_draw_X3_canDrawThrough : GoodIn wsX5_draw wsX3_canDrawThrough := goodIn_r _ [17, 18, 19, 107, 108, 109, 110, 111, 112, 113, 114, 115, 116, 117, 118, 119, 120, 121, 122, 123, 124] (by decide +kernel) (by decide +kernel)
set_option maxRecDepth 20000 in
theorem gX5_draw_X3_canDrawThrough : GoodIn wsX5_draw (wsV RX5 133 RX3 yX3_canDrawThrough wsX3_canDrawThrough) := goodIn_app (goodIn_of _ (by decide +kernel)) ggX5_draw_X3_canDrawThrough
set_option maxRecDepth 20000 in
theorem ggX5_draw_X0_save : GoodIn wsX5_draw wsX0_save := goodIn_r _ [24, 25, 26, 27, 28, 29, 23, 30, 31, 32, 33, 34, 35, 36, 37, 38, 16, 39, 40, 41, 42, 43, 44, 45, 18, 46, 47, 48, 49, 50, 51, 52, 53, 11, 54, 55, 56, 57, 58, 59, 60, 61, 62, 63, 64, 65, 66, 67, 68, 69, 70, 71, 72, 73, 74, 75, 76, 77, 78, 79, 80, 125, 126, 127, 107, 108, 109, 110, 111, 112, 113, 114, 115, 116, 117, 118, 119, 120, 128, 129, 130, 131, 121, 122, 123, 124] (by decide +kernel) (by decide +kernel)
set_option maxRecDepth 20000 in
theorem gX5_draw_X0_save : GoodIn wsX5_draw (wsV RX5 56 RX0 yX0_save wsX0_save) := goodIn_app (goodIn_of _ (by decide +kernel)) ggX5_draw_X0_save
set_option maxRecDepth 20000 in
theorem ggX5_draw_X3_drawThrough : GoodIn wsX5_draw wsX3_drawThrough := goodIn_r _ [84, 18, 85, 86, 87, 75, 88, 77, 80, 78, 79, 89, 11, 90, 91, 92, 93, 94, 95, 16, 96, 46, 52, 42, 43, 97, 98, 99, 66, 100, 70, 107, 108, 109, 110, 111, 112, 113, 114, 115, 116, 117, 118, 119, 120, 121, 122, 123, 124, 128, 129, 130, 131] (by decide +kernel) (by decide +kernel)
set_option maxRecDepth 20000 in
theorem gX5_draw_X3_drawThrough : GoodIn wsX5_draw (wsV RX5 138 RX3 yX3_drawThrough wsX3_drawThrough) := goodIn_app (goodIn_of _ (by decide +kernel)) ggX5_draw_X3_drawThrough
theorem dX5_draw_0 : decode cX5_draw 0 = .ok (.iload_n 1, 1) := by decide +kernel
theorem dX5_draw_1 : decode cX5_draw 1 = .ok (.iconst 1, 1) := by decide +kernel
theorem dX5_draw_2 : decode cX5_draw 2 = .ok (.iconst 5, 1) := by decide +kernel
theorem dX5_draw_3 : decode cX5_draw 3 = .ok (.invokestatic 40, 3) := by decide +kernel
theorem dX5_draw_6 : decode cX5_draw 6 = .ok (.ifCond .ne 13, 3) := by decide +kernel
theorem dX5_draw_9 : decode cX5_draw 9 = .ok (.new 51, 3) := by decide +kernel
theorem dX5_draw_12 : decode cX5_draw 12 = .ok (.dup, 1) := by decide +kernel
theorem dX5_draw_13 : decode cX5_draw 13 = .ok (.ldc 131, 2) := by decide +kernel
theorem dX5_draw_15 : decode cX5_draw 15 = .ok (.invokespecial 55, 3) := by decide +kernel
theorem dX5_draw_18 : decode cX5_draw 18 = .ok (.athrow, 1) := by decide +kernel
theorem dX5_draw_19 : decode cX5_draw 19 = .ok (.aload_n 0, 1) := by decide +kernel
theorem dX5_draw_20 : decode cX5_draw 20 = .ok (.getfield 10, 3) := by decide +kernel
theorem dX5_draw_23 : decode cX5_draw 23 = .ok (.iload_n 1, 1) := by decide +kernel
theorem dX5_draw_24 : decode cX5_draw 24 = .ok (.invokevirtual 133, 3) := by decide +kernel
theorem dX5_draw_27 : decode cX5_draw 27 = .ok (.ifCond .ne 13, 3) := by decide +kernel
theorem dX5_draw_30 : decode cX5_draw 30 = .ok (.new 80, 3) := by decide +kernel
theorem dX5_draw_33 : decode cX5_draw 33 = .ok (.dup, 1) := by decide +kernel
theorem dX5_draw_34 : decode cX5_draw 34 = .ok (.ldc 136, 2) := by decide +kernel
theorem dX5_draw_36 : decode cX5_draw 36 = .ok (.invokespecial 84, 3) := by decide +kernel
theorem dX5_draw_39 : decode cX5_draw 39 = .ok (.athrow, 1) := by decide +kernel
theorem dX5_draw_40 : decode cX5_draw 40 = .ok (.aload_n 0, 1) := by decide +kernel
theorem dX5_draw_41 : decode cX5_draw 41 = .ok (.getfield 25, 3) := by decide +kernel
theorem dX5_draw_44 : decode cX5_draw 44 = .ok (.aload_n 0, 1) := by decide +kernel
theorem dX5_draw_45 : decode cX5_draw 45 = .ok (.getfield 10, 3) := by decide +kernel
theorem dX5_draw_48 : decode cX5_draw 48 = .ok (.invokevirtual 56, 3) := by decide +kernel
theorem dX5_draw_51 : decode cX5_draw 51 = .ok (.aload_n 0, 1) := by decide +kernel
theorem dX5_draw_52 : decode cX5_draw 52 = .ok (.getfield 10, 3) := by decide +kernel
theorem dX5_draw_55 : decode cX5_draw 55 = .ok (.iload_n 1, 1) := by decide +kernel
theorem dX5_draw_56 : decode cX5_draw 56 = .ok (.invokevirtual 138, 3) := by decide +kernel
theorem dX5_draw_59 : decode cX5_draw 59 = .ok (.aload_n 0, 1) := by decide +kernel
theorem dX5_draw_60 : decode cX5_draw 60 = .ok (.getfield 10, 3) := by decide +kernel
theorem dX5_draw_63 : decode cX5_draw 63 = .ok (.getfield 141, 3) := by decide +kernel
theorem dX5_draw_66 : decode cX5_draw 66 = .ok (.getfield 145, 3) := by decide +kernel
theorem dX5_draw_69 : decode cX5_draw 69 = .ok (.ireturn, 1) := by decide +kernel
set_option maxRecDepth 20000 in
theorem ggX5_set_X5_isWithin : GoodIn wsX5_set wsX5_isWithin := goodIn_r _ [13] (by decide +kernel) (by decide +kernel)
set_option maxRecDepth 20000 in
theorem gX5_set_X5_isWithin : GoodIn wsX5_set (va_wsS RX5 40 yX5_isWithin wsX5_isWithin) := goodIn_app (goodIn_of _ (by decide +kernel)) ggX5_set_X5_isWithin
set_option maxRecDepth 20000 in
theorem ggX5_set_X5_at : GoodIn wsX5_set wsX5_at := goodIn_r _ [16] (by decide +kernel) (by decide +kernel)
set_option maxRecDepth 20000 in
theorem gX5_set_X5_at : GoodIn wsX5_set (va_wsS RX5 64 yX5_at wsX5_at) := goodIn_app (goodIn_of _ (by decide +kernel)) ggX5_set_X5_at
set_option maxRecDepth 20000 in
theorem ggX5_set_X0_save : GoodIn wsX5_set wsX0_save := goodIn_r _ [21, 22, 23, 24, 25, 26, 20, 27, 28, 29, 30, 31, 32, 33, 34, 35, 36, 37, 38, 39, 40, 41, 42, 43, 44, 45, 46, 47, 48, 49, 50, 51, 52, 12, 53, 54, 55, 56, 57, 58, 59, 60, 61, 62, 63, 64, 65, 66, 67, 68, 69, 70, 71, 72, 73, 74, 75, 76, 77, 78, 79, 103, 104, 105, 89, 90, 91, 92, 93, 94, 95, 96, 97, 98, 99, 100, 101, 102, 106, 107, 108, 109, 110, 111, 112, 113] (by decide +kernel) (by decide +kernel)
set_option maxRecDepth 20000 in
theorem gX5_set_X0_save : GoodIn wsX5_set (wsV RX5 56 RX0 yX0_save wsX0_save) := goodIn_app (goodIn_of _ (by decide +kernel)) ggX5_set_X0_save
set_option maxRecDepth 20000 in
theorem ggX5_set_X5_put : GoodIn wsX5_set wsX5_put := goodIn_r _ [82] (by decide +kernel) (by decide +kernel)
set_option maxRecDepth 20000 in
theorem gX5_set_X5_put : GoodIn wsX5_set (va_wsS RX5 68 yX5_put wsX5_put) := goodIn_app (goodIn_of _ (by decide +kernel)) ggX5_set_X5_put
theorem dX5_set_0 : decode cX5_set 0 = .ok (.iload_n 1, 1) := by decide +kernel
theorem dX5_set_1 : decode cX5_set 1 = .ok (.iconst 0, 1) := by decide +kernel
theorem dX5_set_2 : decode cX5_set 2 = .ok (.iconst 2, 1) := by decide +kernel
theorem dX5_set_3 : decode cX5_set 3 = .ok (.invokestatic 40, 3) := by decide +kernel
theorem dX5_set_6 : decode cX5_set 6 = .ok (.ifCond .ne 13, 3) := by decide +kernel
theorem dX5_set_9 : decode cX5_set 9 = .ok (.new 44, 3) := by decide +kernel
theorem dX5_set_12 : decode cX5_set 12 = .ok (.dup, 1) := by decide +kernel
theorem dX5_set_13 : decode cX5_set 13 = .ok (.ldc 150, 2) := by decide +kernel
theorem dX5_set_15 : decode cX5_set 15 = .ok (.invokespecial 48, 3) := by decide +kernel
theorem dX5_set_18 : decode cX5_set 18 = .ok (.athrow, 1) := by decide +kernel
theorem dX5_set_19 : decode cX5_set 19 = .ok (.iload_n 2, 1) := by decide +kernel
theorem dX5_set_20 : decode cX5_set 20 = .ok (.getstatic 152, 3) := by decide +kernel
theorem dX5_set_23 : decode cX5_set 23 = .ok (.iload_n 1, 1) := by decide +kernel
theorem dX5_set_24 : decode cX5_set 24 = .ok (.invokestatic 64, 3) := by decide +kernel
theorem dX5_set_27 : decode cX5_set 27 = .ok (.getstatic 155, 3) := by decide +kernel
theorem dX5_set_30 : decode cX5_set 30 = .ok (.iload_n 1, 1) := by decide +kernel
theorem dX5_set_31 : decode cX5_set 31 = .ok (.invokestatic 64, 3) := by decide +kernel
theorem dX5_set_34 : decode cX5_set 34 = .ok (.invokestatic 40, 3) := by decide +kernel
theorem dX5_set_37 : decode cX5_set 37 = .ok (.ifCond .ne 13, 3) := by decide +kernel
theorem dX5_set_40 : decode cX5_set 40 = .ok (.new 51, 3) := by decide +kernel
theorem dX5_set_43 : decode cX5_set 43 = .ok (.dup, 1) := by decide +kernel
theorem dX5_set_44 : decode cX5_set 44 = .ok (.ldc 158, 2) := by decide +kernel
theorem dX5_set_46 : decode cX5_set 46 = .ok (.invokespecial 55, 3) := by decide +kernel
theorem dX5_set_49 : decode cX5_set 49 = .ok (.athrow, 1) := by decide +kernel
theorem dX5_set_50 : decode cX5_set 50 = .ok (.aload_n 0, 1) := by decide +kernel
theorem dX5_set_51 : decode cX5_set 51 = .ok (.getfield 25, 3) := by decide +kernel
theorem dX5_set_54 : decode cX5_set 54 = .ok (.aload_n 0, 1) := by decide +kernel
theorem dX5_set_55 : decode cX5_set 55 = .ok (.getfield 10, 3) := by decide +kernel
theorem dX5_set_58 : decode cX5_set 58 = .ok (.invokevirtual 56, 3) := by decide +kernel
theorem dX5_set_61 : decode cX5_set 61 = .ok (.aload_n 0, 1) := by decide +kernel
theorem dX5_set_62 : decode cX5_set 62 = .ok (.getfield 10, 3) := by decide +kernel
theorem dX5_set_65 : decode cX5_set 65 = .ok (.getfield 160, 3) := by decide +kernel
theorem dX5_set_68 : decode cX5_set 68 = .ok (.iload_n 1, 1) := by decide +kernel
theorem dX5_set_69 : decode cX5_set 69 = .ok (.invokestatic 64, 3) := by decide +kernel
theorem dX5_set_72 : decode cX5_set 72 = .ok (.istore_n 3, 1) := by decide +kernel
theorem dX5_set_73 : decode cX5_set 73 = .ok (.aload_n 0, 1) := by decide +kernel
theorem dX5_set_74 : decode cX5_set 74 = .ok (.getfield 10, 3) := by decide +kernel
theorem dX5_set_77 : decode cX5_set 77 = .ok (.getfield 160, 3) := by decide +kernel
theorem dX5_set_80 : decode cX5_set 80 = .ok (.iload_n 1, 1) := by decide +kernel
theorem dX5_set_81 : decode cX5_set 81 = .ok (.iload_n 2, 1) := by decide +kernel
theorem dX5_set_82 : decode cX5_set 82 = .ok (.invokestatic 68, 3) := by decide +kernel
theorem dX5_set_85 : decode cX5_set 85 = .ok (.iload_n 3, 1) := by decide +kernel
theorem dX5_set_86 : decode cX5_set 86 = .ok (.ireturn, 1) := by decide +kernel
set_option maxRecDepth 20000 in
theorem ggX5_append_X5_isWithin : GoodIn wsX5_append wsX5_isWithin := goodIn_r _ [9] (by decide +kernel) (by decide +kernel)
set_option maxRecDepth 20000 in
theorem gX5_append_X5_isWithin : GoodIn wsX5_append (va_wsS RX5 40 yX5_isWithin wsX5_isWithin) := goodIn_app (goodIn_of _ (by decide +kernel)) ggX5_append_X5_isWithin
set_option maxRecDepth 20000 in
theorem ggX5_append_X2_length : GoodIn wsX5_append wsX2_length := goodIn_r _ [14, 15, 43, 44, 45, 46] (by decide +kernel) (by decide +kernel)
set_option maxRecDepth 20000 in
theorem gX5_append_X2_length : GoodIn wsX5_append (wsV RX5 165 RX2 yX2_length wsX2_length) := goodIn_app (goodIn_of _ (by decide +kernel)) ggX5_append_X2_length
set_option maxRecDepth 20000 in
theorem ggX5_append_X2_add : GoodIn wsX5_append wsX2_add := goodIn_r _ [19, 20, 15, 21, 22, 23, 8, 24, 25, 26, 13, 27, 28, 29, 30, 7, 9, 31, 32, 33, 34, 35, 36, 43, 44, 45, 46] (by decide +kernel) (by decide +kernel)
set_option maxRecDepth 20000 in
theorem gX5_append_X2_add : GoodIn wsX5_append (wsV RX5 170 RX2 yX2_add wsX2_add) := goodIn_app (goodIn_of _ (by decide +kernel)) ggX5_append_X2_add
theorem dX5_append_0 : decode cX5_append 0 = .ok (.iload_n 1, 1) := by decide +kernel
theorem dX5_append_1 : decode cX5_append 1 = .ok (.bipush 33, 2) := by decide +kernel
theorem dX5_append_3 : decode cX5_append 3 = .ok (.bipush 126, 2) := by decide +kernel
theorem dX5_append_5 : decode cX5_append 5 = .ok (.invokestatic 40, 3) := by decide +kernel
theorem dX5_append_8 : decode cX5_append 8 = .ok (.ifCond .ne 13, 3) := by decide +kernel
theorem dX5_append_11 : decode cX5_append 11 = .ok (.new 51, 3) := by decide +kernel
theorem dX5_append_14 : decode cX5_append 14 = .ok (.dup, 1) := by decide +kernel
theorem dX5_append_15 : decode cX5_append 15 = .ok (.ldc 163, 2) := by decide +kernel
theorem dX5_append_17 : decode cX5_append 17 = .ok (.invokespecial 55, 3) := by decide +kernel
theorem dX5_append_20 : decode cX5_append 20 = .ok (.athrow, 1) := by decide +kernel
theorem dX5_append_21 : decode cX5_append 21 = .ok (.aload_n 0, 1) := by decide +kernel
theorem dX5_append_22 : decode cX5_append 22 = .ok (.getfield 32, 3) := by decide +kernel
theorem dX5_append_25 : decode cX5_append 25 = .ok (.invokevirtual 165, 3) := by decide +kernel
theorem dX5_append_28 : decode cX5_append 28 = .ok (.bipush 60, 2) := by decide +kernel
theorem dX5_append_30 : decode cX5_append 30 = .ok (.if_icmp .lt 13, 3) := by decide +kernel
theorem dX5_append_33 : decode cX5_append 33 = .ok (.new 80, 3) := by decide +kernel
theorem dX5_append_36 : decode cX5_append 36 = .ok (.dup, 1) := by decide +kernel
theorem dX5_append_37 : decode cX5_append 37 = .ok (.ldc 168, 2) := by decide +kernel
theorem dX5_append_39 : decode cX5_append 39 = .ok (.invokespecial 84, 3) := by decide +kernel
theorem dX5_append_42 : decode cX5_append 42 = .ok (.athrow, 1) := by decide +kernel
theorem dX5_append_43 : decode cX5_append 43 = .ok (.aload_n 0, 1) := by decide +kernel
theorem dX5_append_44 : decode cX5_append 44 = .ok (.getfield 32, 3) := by decide +kernel
theorem dX5_append_47 : decode cX5_append 47 = .ok (.iload_n 1, 1) := by decide +kernel
theorem dX5_append_48 : decode cX5_append 48 = .ok (.invokevirtual 170, 3) := by decide +kernel
theorem dX5_append_51 : decode cX5_append 51 = .ok (.aload_n 0, 1) := by decide +kernel
theorem dX5_append_52 : decode cX5_append 52 = .ok (.getfield 32, 3) := by decide +kernel
theorem dX5_append_55 : decode cX5_append 55 = .ok (.invokevirtual 165, 3) := by decide +kernel
theorem dX5_append_58 : decode cX5_append 58 = .ok (.ireturn, 1) := by decide +kernel
set_option maxRecDepth 20000 in
theorem ggX5_clearBuffer_X2_length : GoodIn wsX5_clearBuffer wsX2_length := goodIn_r _ [6, 7, 20, 21, 22, 23] (by decide +kernel) (by decide +kernel)
set_option maxRecDepth 20000 in
theorem gX5_clearBuffer_X2_length : GoodIn wsX5_clearBuffer (wsV RX5 165 RX2 yX2_length wsX2_length) := goodIn_app (goodIn_of _ (by decide +kernel)) ggX5_clearBuffer_X2_length
set_option maxRecDepth 20000 in
theorem ggX5_clearBuffer_X2_clear : GoodIn wsX5_clearBuffer wsX2_clear := goodIn_r _ [11, 7, 12, 13, 20, 21, 22, 23] (by decide +kernel) (by decide +kernel)
set_option maxRecDepth 20000 in
theorem gX5_clearBuffer_X2_clear : GoodIn wsX5_clearBuffer (wsV RX5 173 RX2 yX2_clear wsX2_clear) := goodIn_app (goodIn_of _ (by decide +kernel)) ggX5_clearBuffer_X2_clear
theorem dX5_clearBuffer_0 : decode cX5_clearBuffer 0 = .ok (.aload_n 0, 1) := by decide +kernel
theorem dX5_clearBuffer_1 : decode cX5_clearBuffer 1 = .ok (.getfield 32, 3) := by decide +kernel
theorem dX5_clearBuffer_4 : decode cX5_clearBuffer 4 = .ok (.invokevirtual 165, 3) := by decide +kernel
theorem dX5_clearBuffer_7 : decode cX5_clearBuffer 7 = .ok (.istore_n 1, 1) := by decide +kernel
theorem dX5_clearBuffer_8 : decode cX5_clearBuffer 8 = .ok (.aload_n 0, 1) := by decide +kernel
theorem dX5_clearBuffer_9 : decode cX5_clearBuffer 9 = .ok (.getfield 32, 3) := by decide +kernel
theorem dX5_clearBuffer_12 : decode cX5_clearBuffer 12 = .ok (.invokevirtual 173, 3) := by decide +kernel
theorem dX5_clearBuffer_15 : decode cX5_clearBuffer 15 = .ok (.iload_n 1, 1) := by decide +kernel
theorem dX5_clearBuffer_16 : decode cX5_clearBuffer 16 = .ok (.ireturn, 1) := by decide +kernel
set_option maxRecDepth 20000 in
theorem ggX5_firstError_X2_firstWrong : GoodIn wsX5_firstError wsX2_firstWrong := goodIn_r _ [6, 7, 14, 15, 16, 17] (by decide +kernel) (by decide +kernel)
set_option maxRecDepth 20000 in
theorem gX5_firstError_X2_firstWrong : GoodIn wsX5_firstError (wsV RX5 176 RX2 yX2_firstWrong wsX2_firstWrong) := goodIn_app (goodIn_of _ (by decide +kernel)) ggX5_firstError_X2_firstWrong
theorem dX5_firstError_0 : decode cX5_firstError 0 = .ok (.aload_n 0, 1) := by decide +kernel
theorem dX5_firstError_1 : decode cX5_firstError 1 = .ok (.getfield 32, 3) := by decide +kernel
theorem dX5_firstError_4 : decode cX5_firstError 4 = .ok (.invokevirtual 176, 3) := by decide +kernel
theorem dX5_firstError_7 : decode cX5_firstError 7 = .ok (.ireturn, 1) := by decide +kernel
set_option maxRecDepth 20000 in
theorem ggX5_obey_X2_areComplete : GoodIn wsX5_obey wsX2_areComplete := goodIn_r _ [10, 11, 248, 249, 250, 251] (by decide +kernel) (by decide +kernel)
set_option maxRecDepth 20000 in
theorem gX5_obey_X2_areComplete : GoodIn wsX5_obey (wsV RX5 179 RX2 yX2_areComplete wsX2_areComplete) := goodIn_app (goodIn_of _ (by decide +kernel)) ggX5_obey_X2_areComplete
set_option maxRecDepth 20000 in
theorem ggX5_obey_X0_save : GoodIn wsX5_obey wsX0_save := goodIn_r _ [16, 17, 18, 19, 20, 21, 15, 22, 23, 24, 25, 26, 27, 28, 29, 30, 31, 32, 33, 34, 35, 36, 37, 38, 39, 40, 41, 42, 43, 44, 45, 46, 47, 48, 49, 50, 51, 52, 53, 54, 55, 56, 57, 58, 59, 60, 61, 62, 63, 64, 65, 66, 67, 68, 69, 70, 71, 72, 73, 74, 75, 252, 253, 254, 255, 256, 257, 258, 259, 260, 261, 262, 263, 264, 265, 266, 267, 268, 269, 270, 271, 272, 273, 274, 275, 276] (by decide +kernel) (by decide +kernel)
set_option maxRecDepth 20000 in
theorem gX5_obey_X0_save : GoodIn wsX5_obey (wsV RX5 56 RX0 yX0_save wsX0_save) := goodIn_app (goodIn_of _ (by decide +kernel)) ggX5_obey_X0_save
set_option maxRecDepth 20000 in
theorem ggX5_obey_X5_doOrders : GoodIn wsX5_obey wsX5_doOrders := goodIn_r _ [79, 3, 80, 81, 82, 9, 83, 84, 85, 86, 87, 88, 89, 90, 91, 92, 93, 94, 48, 95, 96, 97, 98, 99, 5, 100, 101, 102, 103, 104, 105, 106, 107, 108, 109, 31, 110, 111, 112, 113, 114, 35, 36, 115, 116, 117, 61, 118, 65, 63, 119, 120, 121, 122, 43, 123, 124, 125, 126, 64, 66, 127, 128, 129, 130, 131, 132, 133, 41, 134, 135, 136, 137, 138, 139, 140, 141, 37, 38, 142, 143, 144, 145, 146, 147, 148, 149, 150, 151, 152, 153, 154, 155, 156, 157, 34, 39, 158, 159, 160, 161, 162, 163, 164, 52, 165, 166, 167, 168, 169, 170, 171, 172, 173, 33, 40, 174, 25, 26, 27, 175, 176, 177, 178, 179, 180, 181, 70, 182, 183, 184, 185, 186, 187, 51, 53, 73, 188, 189, 190, 191, 192, 193, 194, 72, 195, 196, 197, 198, 42, 199, 200, 201, 202, 74, 203, 204, 205, 206, 46, 207, 208, 209, 210, 211, 212, 213, 214, 215, 216, 217, 218, 219, 75, 220, 221, 222, 223, 224, 44, 45, 225, 226, 227, 228, 229, 230, 231, 232, 233, 234, 235, 236, 242, 243, 244, 245, 246, 247, 248, 249, 250, 251, 255, 256, 257, 258, 259, 260, 261, 262, 263, 264, 265, 266, 267, 268, 269, 270, 271, 272, 273, 274, 275, 276] (by decide +kernel) (by decide +kernel)
set_option maxRecDepth 20000 in
theorem gX5_obey_X5_doOrders : GoodIn wsX5_obey (wsV RX5 185 RX5 yX5_doOrders wsX5_doOrders) := goodIn_app (goodIn_of _ (by decide +kernel)) ggX5_obey_X5_doOrders
set_option maxRecDepth 20000 in
theorem ggX5_obey_X2_clear : GoodIn wsX5_obey wsX2_clear := goodIn_r _ [240, 84, 241, 11, 248, 249, 250, 251] (by decide +kernel) (by decide +kernel)
set_option maxRecDepth 20000 in
theorem gX5_obey_X2_clear : GoodIn wsX5_obey (wsV RX5 173 RX2 yX2_clear wsX2_clear) := goodIn_app (goodIn_of _ (by decide +kernel)) ggX5_obey_X2_clear
theorem dX5_obey_0 : decode cX5_obey 0 = .ok (.aload_n 0, 1) := by decide +kernel
theorem dX5_obey_1 : decode cX5_obey 1 = .ok (.getfield 32, 3) := by decide +kernel
theorem dX5_obey_4 : decode cX5_obey 4 = .ok (.invokevirtual 179, 3) := by decide +kernel
theorem dX5_obey_7 : decode cX5_obey 7 = .ok (.ifCond .ne 13, 3) := by decide +kernel
theorem dX5_obey_10 : decode cX5_obey 10 = .ok (.new 51, 3) := by decide +kernel
theorem dX5_obey_13 : decode cX5_obey 13 = .ok (.dup, 1) := by decide +kernel
theorem dX5_obey_14 : decode cX5_obey 14 = .ok (.ldc 183, 2) := by decide +kernel
theorem dX5_obey_16 : decode cX5_obey 16 = .ok (.invokespecial 55, 3) := by decide +kernel
theorem dX5_obey_19 : decode cX5_obey 19 = .ok (.athrow, 1) := by decide +kernel
theorem dX5_obey_20 : decode cX5_obey 20 = .ok (.aload_n 0, 1) := by decide +kernel
theorem dX5_obey_21 : decode cX5_obey 21 = .ok (.getfield 25, 3) := by decide +kernel
theorem dX5_obey_24 : decode cX5_obey 24 = .ok (.aload_n 0, 1) := by decide +kernel
theorem dX5_obey_25 : decode cX5_obey 25 = .ok (.getfield 10, 3) := by decide +kernel
theorem dX5_obey_28 : decode cX5_obey 28 = .ok (.invokevirtual 56, 3) := by decide +kernel
theorem dX5_obey_31 : decode cX5_obey 31 = .ok (.aload_n 0, 1) := by decide +kernel
theorem dX5_obey_32 : decode cX5_obey 32 = .ok (.invokevirtual 185, 3) := by decide +kernel
theorem dX5_obey_35 : decode cX5_obey 35 = .ok (.istore_n 1, 1) := by decide +kernel
theorem dX5_obey_36 : decode cX5_obey 36 = .ok (.aload_n 0, 1) := by decide +kernel
theorem dX5_obey_37 : decode cX5_obey 37 = .ok (.getfield 32, 3) := by decide +kernel
theorem dX5_obey_40 : decode cX5_obey 40 = .ok (.invokevirtual 173, 3) := by decide +kernel
theorem dX5_obey_43 : decode cX5_obey 43 = .ok (.iload_n 1, 1) := by decide +kernel
theorem dX5_obey_44 : decode cX5_obey 44 = .ok (.ireturn, 1) := by decide +kernel
set_option maxRecDepth 20000 in
theorem ggX5_keep_X3_copyFrom : GoodIn wsX5_keep wsX3_copyFrom := goodIn_r _ [9, 10, 11, 12, 13, 14, 15, 16, 17, 18, 19, 20, 21, 22, 23, 24, 25, 26, 27, 28, 29, 30, 31, 32, 33, 34, 35, 36, 37, 38, 39, 40, 41, 42, 43, 44, 45, 46, 47, 48, 49, 50, 51, 52, 59, 60, 61, 62, 63, 64, 65, 66, 67, 68, 69, 70, 71, 72, 73, 74, 75, 76, 77, 78, 79, 80] (by decide +kernel) (by decide +kernel)
set_option maxRecDepth 20000 in
theorem gX5_keep_X3_copyFrom : GoodIn wsX5_keep (wsV RX5 188 RX3 yX3_copyFrom wsX3_copyFrom) := goodIn_app (goodIn_of _ (by decide +kernel)) ggX5_keep_X3_copyFrom
theorem dX5_keep_0 : decode cX5_keep 0 = .ok (.aload_n 0, 1) := by decide +kernel
theorem dX5_keep_1 : decode cX5_keep 1 = .ok (.getfield 19, 3) := by decide +kernel
theorem dX5_keep_4 : decode cX5_keep 4 = .ok (.aload_n 0, 1) := by decide +kernel
theorem dX5_keep_5 : decode cX5_keep 5 = .ok (.getfield 10, 3) := by decide +kernel
theorem dX5_keep_8 : decode cX5_keep 8 = .ok (.invokevirtual 188, 3) := by decide +kernel
theorem dX5_keep_11 : decode cX5_keep 11 = .ok (.aload_n 0, 1) := by decide +kernel
theorem dX5_keep_12 : decode cX5_keep 12 = .ok (.iconst 1, 1) := by decide +kernel
theorem dX5_keep_13 : decode cX5_keep 13 = .ok (.putfield 36, 3) := by decide +kernel
theorem dX5_keep_16 : decode cX5_keep 16 = .ok (.aload_n 0, 1) := by decide +kernel
theorem dX5_keep_17 : decode cX5_keep 17 = .ok (.getfield 10, 3) := by decide +kernel
theorem dX5_keep_20 : decode cX5_keep 20 = .ok (.getfield 127, 3) := by decide +kernel
theorem dX5_keep_23 : decode cX5_keep 23 = .ok (.ireturn, 1) := by decide +kernel
set_option maxRecDepth 20000 in
theorem ggX5_goBack_X0_save : GoodIn wsX5_goBack wsX0_save := goodIn_r _ [12, 13, 14, 15, 16, 17, 11, 18, 19, 20, 21, 22, 23, 24, 25, 26, 27, 28, 29, 30, 31, 32, 33, 34, 35, 36, 37, 38, 39, 40, 41, 42, 43, 44, 45, 46, 47, 48, 49, 50, 51, 52, 53, 54, 55, 56, 57, 58, 59, 60, 61, 62, 63, 64, 65, 66, 67, 68, 69, 70, 71, 93, 94, 95, 79, 80, 81, 82, 83, 84, 85, 86, 87, 88, 89, 90, 91, 92, 96, 97, 98, 99, 100, 101, 102, 103] (by decide +kernel) (by decide +kernel)
set_option maxRecDepth 20000 in
theorem gX5_goBack_X0_save : GoodIn wsX5_goBack (wsV RX5 56 RX0 yX0_save wsX0_save) := goodIn_app (goodIn_of _ (by decide +kernel)) ggX5_goBack_X0_save
set_option maxRecDepth 20000 in
theorem ggX5_goBack_X3_copyFrom : GoodIn wsX5_goBack wsX3_copyFrom := goodIn_r _ [28, 29, 30, 31, 32, 33, 34, 35, 36, 37, 38, 39, 40, 41, 42, 43, 44, 45, 46, 47, 48, 49, 50, 51, 52, 53, 54, 55, 56, 57, 58, 59, 60, 61, 62, 63, 64, 65, 66, 67, 68, 69, 70, 71, 79, 80, 81, 82, 83, 84, 85, 86, 87, 88, 89, 90, 91, 92, 96, 97, 98, 99, 100, 101, 102, 103] (by decide +kernel) (by decide +kernel)
set_option maxRecDepth 20000 in
theorem gX5_goBack_X3_copyFrom : GoodIn wsX5_goBack (wsV RX5 188 RX3 yX3_copyFrom wsX3_copyFrom) := goodIn_app (goodIn_of _ (by decide +kernel)) ggX5_goBack_X3_copyFrom
theorem dX5_goBack_0 : decode cX5_goBack 0 = .ok (.aload_n 0, 1) := by decide +kernel
theorem dX5_goBack_1 : decode cX5_goBack 1 = .ok (.getfield 36, 3) := by decide +kernel
theorem dX5_goBack_4 : decode cX5_goBack 4 = .ok (.ifCond .ne 13, 3) := by decide +kernel
theorem dX5_goBack_7 : decode cX5_goBack 7 = .ok (.new 80, 3) := by decide +kernel
theorem dX5_goBack_10 : decode cX5_goBack 10 = .ok (.dup, 1) := by decide +kernel
theorem dX5_goBack_11 : decode cX5_goBack 11 = .ok (.ldc 191, 2) := by decide +kernel
theorem dX5_goBack_13 : decode cX5_goBack 13 = .ok (.invokespecial 84, 3) := by decide +kernel
theorem dX5_goBack_16 : decode cX5_goBack 16 = .ok (.athrow, 1) := by decide +kernel
theorem dX5_goBack_17 : decode cX5_goBack 17 = .ok (.aload_n 0, 1) := by decide +kernel
theorem dX5_goBack_18 : decode cX5_goBack 18 = .ok (.getfield 25, 3) := by decide +kernel
theorem dX5_goBack_21 : decode cX5_goBack 21 = .ok (.aload_n 0, 1) := by decide +kernel
theorem dX5_goBack_22 : decode cX5_goBack 22 = .ok (.getfield 10, 3) := by decide +kernel
theorem dX5_goBack_25 : decode cX5_goBack 25 = .ok (.invokevirtual 56, 3) := by decide +kernel
theorem dX5_goBack_28 : decode cX5_goBack 28 = .ok (.aload_n 0, 1) := by decide +kernel
theorem dX5_goBack_29 : decode cX5_goBack 29 = .ok (.getfield 10, 3) := by decide +kernel
theorem dX5_goBack_32 : decode cX5_goBack 32 = .ok (.aload_n 0, 1) := by decide +kernel
theorem dX5_goBack_33 : decode cX5_goBack 33 = .ok (.getfield 19, 3) := by decide +kernel
theorem dX5_goBack_36 : decode cX5_goBack 36 = .ok (.invokevirtual 188, 3) := by decide +kernel
theorem dX5_goBack_39 : decode cX5_goBack 39 = .ok (.aload_n 0, 1) := by decide +kernel
theorem dX5_goBack_40 : decode cX5_goBack 40 = .ok (.getfield 10, 3) := by decide +kernel
theorem dX5_goBack_43 : decode cX5_goBack 43 = .ok (.getfield 127, 3) := by decide +kernel
theorem dX5_goBack_46 : decode cX5_goBack 46 = .ok (.ireturn, 1) := by decide +kernel
set_option maxRecDepth 20000 in
theorem ggX5_undo_X0_size : GoodIn wsX5_undo wsX0_size := goodIn_r _ [9, 10, 79, 80, 81] (by decide +kernel) (by decide +kernel)
set_option maxRecDepth 20000 in
theorem gX5_undo_X0_size : GoodIn wsX5_undo (wsV RX5 193 RX0 yX0_size wsX0_size) := goodIn_app (goodIn_of _ (by decide +kernel)) ggX5_undo_X0_size
set_option maxRecDepth 20000 in
theorem ggX5_undo_X0_restore : GoodIn wsX5_undo wsX0_restore := goodIn_r _ [14, 10, 15, 16, 17, 8, 18, 19, 20, 21, 22, 23, 24, 25, 26, 27, 28, 29, 30, 31, 32, 33, 34, 35, 36, 37, 38, 39, 40, 41, 42, 43, 44, 45, 46, 47, 48, 49, 50, 51, 52, 53, 54, 55, 56, 57, 58, 59, 60, 61, 62, 63, 64, 65, 66, 67, 68, 69, 70, 71, 72, 79, 80, 81, 82, 83, 84, 85, 86, 87, 88, 89, 90, 91, 92, 93, 94, 95, 96, 97, 98, 99, 100, 101, 102, 103] (by decide +kernel) (by decide +kernel)
set_option maxRecDepth 20000 in
theorem gX5_undo_X0_restore : GoodIn wsX5_undo (wsV RX5 196 RX0 yX0_restore wsX0_restore) := goodIn_app (goodIn_of _ (by decide +kernel)) ggX5_undo_X0_restore
theorem dX5_undo_0 : decode cX5_undo 0 = .ok (.aload_n 0, 1) := by decide +kernel
theorem dX5_undo_1 : decode cX5_undo 1 = .ok (.getfield 25, 3) := by decide +kernel
theorem dX5_undo_4 : decode cX5_undo 4 = .ok (.invokevirtual 193, 3) := by decide +kernel
theorem dX5_undo_7 : decode cX5_undo 7 = .ok (.ifCond .ne 13, 3) := by decide +kernel
theorem dX5_undo_10 : decode cX5_undo 10 = .ok (.new 80, 3) := by decide +kernel
theorem dX5_undo_13 : decode cX5_undo 13 = .ok (.dup, 1) := by decide +kernel
theorem dX5_undo_14 : decode cX5_undo 14 = .ok (.ldc 194, 2) := by decide +kernel
theorem dX5_undo_16 : decode cX5_undo 16 = .ok (.invokespecial 84, 3) := by decide +kernel
theorem dX5_undo_19 : decode cX5_undo 19 = .ok (.athrow, 1) := by decide +kernel
theorem dX5_undo_20 : decode cX5_undo 20 = .ok (.aload_n 0, 1) := by decide +kernel
theorem dX5_undo_21 : decode cX5_undo 21 = .ok (.getfield 25, 3) := by decide +kernel
theorem dX5_undo_24 : decode cX5_undo 24 = .ok (.aload_n 0, 1) := by decide +kernel
theorem dX5_undo_25 : decode cX5_undo 25 = .ok (.getfield 10, 3) := by decide +kernel
theorem dX5_undo_28 : decode cX5_undo 28 = .ok (.invokevirtual 196, 3) := by decide +kernel
theorem dX5_undo_31 : decode cX5_undo 31 = .ok (.aload_n 0, 1) := by decide +kernel
theorem dX5_undo_32 : decode cX5_undo 32 = .ok (.getfield 25, 3) := by decide +kernel
theorem dX5_undo_35 : decode cX5_undo 35 = .ok (.invokevirtual 193, 3) := by decide +kernel
theorem dX5_undo_38 : decode cX5_undo 38 = .ok (.ireturn, 1) := by decide +kernel
set_option maxRecDepth 20000 in
theorem ggX5_section_X5_isWithin : GoodIn wsX5_section wsX5_isWithin := goodIn_r _ [10] (by decide +kernel) (by decide +kernel)
set_option maxRecDepth 20000 in
theorem gX5_section_X5_isWithin : GoodIn wsX5_section (va_wsS RX5 40 yX5_isWithin wsX5_isWithin) := goodIn_app (goodIn_of _ (by decide +kernel)) ggX5_section_X5_isWithin
set_option maxRecDepth 20000 in
theorem ggX5_section_X4_wearOf : GoodIn wsX5_section wsX4_wearOf := goodIn_r _ [15, 16, 17, 9, 18, 95, 96, 97, 98] (by decide +kernel) (by decide +kernel)
set_option maxRecDepth 20000 in
theorem gX5_section_X4_wearOf : GoodIn wsX5_section (wsV RX5 201 RX4 yX4_wearOf wsX4_wearOf) := goodIn_app (goodIn_of _ (by decide +kernel)) ggX5_section_X4_wearOf
set_option maxRecDepth 20000 in
theorem ggX5_section_X3_strengthOf : GoodIn wsX5_section wsX3_strengthOf := goodIn_r _ [23, 24, 25, 17, 9, 18, 26, 27, 28, 14, 29, 16, 30, 31, 32, 33, 81, 82, 83, 84, 85, 86, 87, 88, 89, 90, 91, 92, 93, 94, 95, 96, 97, 98] (by decide +kernel) (by decide +kernel)
set_option maxRecDepth 20000 in
theorem gX5_section_X3_strengthOf : GoodIn wsX5_section (wsV RX5 204 RX3 yX3_strengthOf wsX3_strengthOf) := goodIn_app (goodIn_of _ (by decide +kernel)) ggX5_section_X3_strengthOf
set_option maxRecDepth 20000 in
theorem ggX5_section_X3_tensionOf : GoodIn wsX5_section wsX3_tensionOf := goodIn_r _ [37, 24, 38, 39, 40, 22, 41, 42, 43, 44, 45, 46, 47, 17, 9, 18, 48, 49, 50, 51, 52, 53, 54, 55, 56, 57, 58, 59, 60, 61, 62, 63, 64, 65, 32, 66, 67, 68, 69, 14, 70, 71, 72, 73, 74, 30, 31, 33, 81, 82, 83, 84, 85, 86, 87, 88, 89, 90, 91, 92, 93, 94, 99, 100, 101, 102, 95, 96, 97, 98] (by decide +kernel) (by decide +kernel)
set_option maxRecDepth 20000 in
theorem gX5_section_X3_tensionOf : GoodIn wsX5_section (wsV RX5 207 RX3 yX3_tensionOf wsX3_tensionOf) := goodIn_app (goodIn_of _ (by decide +kernel)) ggX5_section_X3_tensionOf
theorem dX5_section_0 : decode cX5_section 0 = .ok (.iload_n 1, 1) := by decide +kernel
theorem dX5_section_1 : decode cX5_section 1 = .ok (.iconst 0, 1) := by decide +kernel
theorem dX5_section_2 : decode cX5_section 2 = .ok (.bipush 19, 2) := by decide +kernel
theorem dX5_section_4 : decode cX5_section 4 = .ok (.invokestatic 40, 3) := by decide +kernel
theorem dX5_section_7 : decode cX5_section 7 = .ok (.ifCond .ne 13, 3) := by decide +kernel
theorem dX5_section_10 : decode cX5_section 10 = .ok (.new 44, 3) := by decide +kernel
theorem dX5_section_13 : decode cX5_section 13 = .ok (.dup, 1) := by decide +kernel
theorem dX5_section_14 : decode cX5_section 14 = .ok (.ldc 199, 2) := by decide +kernel
theorem dX5_section_16 : decode cX5_section 16 = .ok (.invokespecial 48, 3) := by decide +kernel
theorem dX5_section_19 : decode cX5_section 19 = .ok (.athrow, 1) := by decide +kernel
theorem dX5_section_20 : decode cX5_section 20 = .ok (.iload_n 2, 1) := by decide +kernel
theorem dX5_section_21 : decode cX5_section 21 = .ok (.tableswitch 57 0 2 #[27, 39, 48], 27) := by decide +kernel
theorem dX5_section_48 : decode cX5_section 48 = .ok (.aload_n 0, 1) := by decide +kernel
theorem dX5_section_49 : decode cX5_section 49 = .ok (.getfield 10, 3) := by decide +kernel
theorem dX5_section_52 : decode cX5_section 52 = .ok (.getfield 141, 3) := by decide +kernel
theorem dX5_section_55 : decode cX5_section 55 = .ok (.iload_n 1, 1) := by decide +kernel
theorem dX5_section_56 : decode cX5_section 56 = .ok (.invokevirtual 201, 3) := by decide +kernel
theorem dX5_section_59 : decode cX5_section 59 = .ok (.ireturn, 1) := by decide +kernel
theorem dX5_section_60 : decode cX5_section 60 = .ok (.aload_n 0, 1) := by decide +kernel
theorem dX5_section_61 : decode cX5_section 61 = .ok (.getfield 10, 3) := by decide +kernel
theorem dX5_section_64 : decode cX5_section 64 = .ok (.iload_n 1, 1) := by decide +kernel
theorem dX5_section_65 : decode cX5_section 65 = .ok (.invokevirtual 204, 3) := by decide +kernel
theorem dX5_section_68 : decode cX5_section 68 = .ok (.ireturn, 1) := by decide +kernel
theorem dX5_section_69 : decode cX5_section 69 = .ok (.aload_n 0, 1) := by decide +kernel
theorem dX5_section_70 : decode cX5_section 70 = .ok (.getfield 10, 3) := by decide +kernel
theorem dX5_section_73 : decode cX5_section 73 = .ok (.iload_n 1, 1) := by decide +kernel
theorem dX5_section_74 : decode cX5_section 74 = .ok (.invokevirtual 207, 3) := by decide +kernel
theorem dX5_section_77 : decode cX5_section 77 = .ok (.ireturn, 1) := by decide +kernel
theorem dX5_section_78 : decode cX5_section 78 = .ok (.new 51, 3) := by decide +kernel
theorem dX5_section_81 : decode cX5_section 81 = .ok (.dup, 1) := by decide +kernel
theorem dX5_section_82 : decode cX5_section 82 = .ok (.ldc 210, 2) := by decide +kernel
theorem dX5_section_84 : decode cX5_section 84 = .ok (.invokespecial 55, 3) := by decide +kernel
theorem dX5_section_87 : decode cX5_section 87 = .ok (.athrow, 1) := by decide +kernel
set_option maxRecDepth 20000 in
theorem ggX5_waiting_X5_isWithin : GoodIn wsX5_waiting wsX5_isWithin := goodIn_r _ [9] (by decide +kernel) (by decide +kernel)
set_option maxRecDepth 20000 in
theorem gX5_waiting_X5_isWithin : GoodIn wsX5_waiting (va_wsS RX5 40 yX5_isWithin wsX5_isWithin) := goodIn_app (goodIn_of _ (by decide +kernel)) ggX5_waiting_X5_isWithin
set_option maxRecDepth 20000 in
theorem ggX5_waiting_X3_lineAtBank : GoodIn wsX5_waiting wsX3_lineAtBank := goodIn_r _ [14, 15, 16, 32, 33, 34, 35, 36, 37, 38, 39, 40, 41, 42, 43, 44, 45] (by decide +kernel) (by decide +kernel)
set_option maxRecDepth 20000 in
theorem gX5_waiting_X3_lineAtBank : GoodIn wsX5_waiting (wsV RX5 89 RX3 yX3_lineAtBank wsX3_lineAtBank) := goodIn_app (goodIn_of _ (by decide +kernel)) ggX5_waiting_X3_lineAtBank
set_option maxRecDepth 20000 in
theorem ggX5_waiting_X1_weightOf : GoodIn wsX5_waiting wsX1_weightOf := goodIn_r _ [21, 22, 23, 24, 8, 25, 46, 47, 48, 49] (by decide +kernel) (by decide +kernel)
set_option maxRecDepth 20000 in
theorem gX5_waiting_X1_weightOf : GoodIn wsX5_waiting (wsV RX5 214 RX1 yX1_weightOf wsX1_weightOf) := goodIn_app (goodIn_of _ (by decide +kernel)) ggX5_waiting_X1_weightOf
theorem dX5_waiting_0 : decode cX5_waiting 0 = .ok (.iload_n 1, 1) := by decide +kernel
theorem dX5_waiting_1 : decode cX5_waiting 1 = .ok (.iconst 0, 1) := by decide +kernel
theorem dX5_waiting_2 : decode cX5_waiting 2 = .ok (.iconst 1, 1) := by decide +kernel
theorem dX5_waiting_3 : decode cX5_waiting 3 = .ok (.invokestatic 40, 3) := by decide +kernel
theorem dX5_waiting_6 : decode cX5_waiting 6 = .ok (.ifCond .ne 13, 3) := by decide +kernel
theorem dX5_waiting_9 : decode cX5_waiting 9 = .ok (.new 44, 3) := by decide +kernel
theorem dX5_waiting_12 : decode cX5_waiting 12 = .ok (.dup, 1) := by decide +kernel
theorem dX5_waiting_13 : decode cX5_waiting 13 = .ok (.ldc 72, 2) := by decide +kernel
theorem dX5_waiting_15 : decode cX5_waiting 15 = .ok (.invokespecial 48, 3) := by decide +kernel
theorem dX5_waiting_18 : decode cX5_waiting 18 = .ok (.athrow, 1) := by decide +kernel
theorem dX5_waiting_19 : decode cX5_waiting 19 = .ok (.iload_n 2, 1) := by decide +kernel
theorem dX5_waiting_20 : decode cX5_waiting 20 = .ok (.ifCond .ge 13, 3) := by decide +kernel
theorem dX5_waiting_23 : decode cX5_waiting 23 = .ok (.new 51, 3) := by decide +kernel
theorem dX5_waiting_26 : decode cX5_waiting 26 = .ok (.dup, 1) := by decide +kernel
theorem dX5_waiting_27 : decode cX5_waiting 27 = .ok (.ldc 212, 2) := by decide +kernel
theorem dX5_waiting_29 : decode cX5_waiting 29 = .ok (.invokespecial 55, 3) := by decide +kernel
theorem dX5_waiting_32 : decode cX5_waiting 32 = .ok (.athrow, 1) := by decide +kernel
theorem dX5_waiting_33 : decode cX5_waiting 33 = .ok (.aload_n 0, 1) := by decide +kernel
theorem dX5_waiting_34 : decode cX5_waiting 34 = .ok (.getfield 10, 3) := by decide +kernel
theorem dX5_waiting_37 : decode cX5_waiting 37 = .ok (.iload_n 1, 1) := by decide +kernel
theorem dX5_waiting_38 : decode cX5_waiting 38 = .ok (.invokevirtual 89, 3) := by decide +kernel
theorem dX5_waiting_41 : decode cX5_waiting 41 = .ok (.iload_n 2, 1) := by decide +kernel
theorem dX5_waiting_42 : decode cX5_waiting 42 = .ok (.invokevirtual 214, 3) := by decide +kernel
theorem dX5_waiting_45 : decode cX5_waiting 45 = .ok (.ireturn, 1) := by decide +kernel
set_option maxRecDepth 20000 in
theorem ggX5_deck_X5_isWithin : GoodIn wsX5_deck wsX5_isWithin := goodIn_r _ [9] (by decide +kernel) (by decide +kernel)
set_option maxRecDepth 20000 in
theorem gX5_deck_X5_isWithin : GoodIn wsX5_deck (va_wsS RX5 40 yX5_isWithin wsX5_isWithin) := goodIn_app (goodIn_of _ (by decide +kernel)) ggX5_deck_X5_isWithin
set_option maxRecDepth 20000 in
theorem ggX5_deck_X3_lineOnLane : GoodIn wsX5_deck wsX3_lineOnLane := goodIn_r _ [14, 15, 16, 37, 38, 39, 40, 41, 42, 43, 44, 45, 46, 47, 48, 49, 50] (by decide +kernel) (by decide +kernel)
set_option maxRecDepth 20000 in
theorem gX5_deck_X3_lineOnLane : GoodIn wsX5_deck (wsV RX5 219 RX3 yX3_lineOnLane wsX3_lineOnLane) := goodIn_app (goodIn_of _ (by decide +kernel)) ggX5_deck_X3_lineOnLane
set_option maxRecDepth 20000 in
theorem ggX5_deck_X1_weightOf : GoodIn wsX5_deck wsX1_weightOf := goodIn_r _ [21, 22, 23, 24, 8, 25, 51, 52, 53, 54] (by decide +kernel) (by decide +kernel)
set_option maxRecDepth 20000 in
theorem gX5_deck_X1_weightOf : GoodIn wsX5_deck (wsV RX5 214 RX1 yX1_weightOf wsX1_weightOf) := goodIn_app (goodIn_of _ (by decide +kernel)) ggX5_deck_X1_weightOf
set_option maxRecDepth 20000 in
theorem ggX5_deck_X1_bankOf : GoodIn wsX5_deck wsX1_bankOf := goodIn_r _ [29, 22, 30, 24, 8, 25, 51, 52, 53, 54] (by decide +kernel) (by decide +kernel)
set_option maxRecDepth 20000 in
theorem gX5_deck_X1_bankOf : GoodIn wsX5_deck (wsV RX5 222 RX1 yX1_bankOf wsX1_bankOf) := goodIn_app (goodIn_of _ (by decide +kernel)) ggX5_deck_X1_bankOf
theorem dX5_deck_0 : decode cX5_deck 0 = .ok (.iload_n 1, 1) := by decide +kernel
theorem dX5_deck_1 : decode cX5_deck 1 = .ok (.iconst 0, 1) := by decide +kernel
theorem dX5_deck_2 : decode cX5_deck 2 = .ok (.iconst 1, 1) := by decide +kernel
theorem dX5_deck_3 : decode cX5_deck 3 = .ok (.invokestatic 40, 3) := by decide +kernel
theorem dX5_deck_6 : decode cX5_deck 6 = .ok (.ifCond .ne 13, 3) := by decide +kernel
theorem dX5_deck_9 : decode cX5_deck 9 = .ok (.new 44, 3) := by decide +kernel
theorem dX5_deck_12 : decode cX5_deck 12 = .ok (.dup, 1) := by decide +kernel
theorem dX5_deck_13 : decode cX5_deck 13 = .ok (.ldc 99, 2) := by decide +kernel
theorem dX5_deck_15 : decode cX5_deck 15 = .ok (.invokespecial 48, 3) := by decide +kernel
theorem dX5_deck_18 : decode cX5_deck 18 = .ok (.athrow, 1) := by decide +kernel
theorem dX5_deck_19 : decode cX5_deck 19 = .ok (.iload_n 2, 1) := by decide +kernel
theorem dX5_deck_20 : decode cX5_deck 20 = .ok (.ifCond .lt 12, 3) := by decide +kernel
theorem dX5_deck_23 : decode cX5_deck 23 = .ok (.iload_n 3, 1) := by decide +kernel
theorem dX5_deck_24 : decode cX5_deck 24 = .ok (.iconst 0, 1) := by decide +kernel
theorem dX5_deck_25 : decode cX5_deck 25 = .ok (.iconst 1, 1) := by decide +kernel
theorem dX5_deck_26 : decode cX5_deck 26 = .ok (.invokestatic 40, 3) := by decide +kernel
theorem dX5_deck_29 : decode cX5_deck 29 = .ok (.ifCond .ne 13, 3) := by decide +kernel
theorem dX5_deck_32 : decode cX5_deck 32 = .ok (.new 51, 3) := by decide +kernel
theorem dX5_deck_35 : decode cX5_deck 35 = .ok (.dup, 1) := by decide +kernel
theorem dX5_deck_36 : decode cX5_deck 36 = .ok (.ldc 217, 2) := by decide +kernel
theorem dX5_deck_38 : decode cX5_deck 38 = .ok (.invokespecial 55, 3) := by decide +kernel
theorem dX5_deck_41 : decode cX5_deck 41 = .ok (.athrow, 1) := by decide +kernel
theorem dX5_deck_42 : decode cX5_deck 42 = .ok (.aload_n 0, 1) := by decide +kernel
theorem dX5_deck_43 : decode cX5_deck 43 = .ok (.getfield 10, 3) := by decide +kernel
theorem dX5_deck_46 : decode cX5_deck 46 = .ok (.iload_n 1, 1) := by decide +kernel
theorem dX5_deck_47 : decode cX5_deck 47 = .ok (.invokevirtual 219, 3) := by decide +kernel
theorem dX5_deck_50 : decode cX5_deck 50 = .ok (.astore 4, 2) := by decide +kernel
theorem dX5_deck_52 : decode cX5_deck 52 = .ok (.iload_n 3, 1) := by decide +kernel
theorem dX5_deck_53 : decode cX5_deck 53 = .ok (.ifCond .ne 12, 3) := by decide +kernel
theorem dX5_deck_56 : decode cX5_deck 56 = .ok (.aload 4, 2) := by decide +kernel
theorem dX5_deck_58 : decode cX5_deck 58 = .ok (.iload_n 2, 1) := by decide +kernel
theorem dX5_deck_59 : decode cX5_deck 59 = .ok (.invokevirtual 214, 3) := by decide +kernel
theorem dX5_deck_62 : decode cX5_deck 62 = .ok (.goto 9, 3) := by decide +kernel
theorem dX5_deck_65 : decode cX5_deck 65 = .ok (.aload 4, 2) := by decide +kernel
theorem dX5_deck_67 : decode cX5_deck 67 = .ok (.iload_n 2, 1) := by decide +kernel
theorem dX5_deck_68 : decode cX5_deck 68 = .ok (.invokevirtual 222, 3) := by decide +kernel
theorem dX5_deck_71 : decode cX5_deck 71 = .ok (.ireturn, 1) := by decide +kernel
set_option maxRecDepth 20000 in
theorem ggX5_count_X3_vehiclesOnDeck : GoodIn wsX5_count wsX3_vehiclesOnDeck := goodIn_r _ [20, 21, 22, 23, 24, 25, 26, 27, 28, 58, 59, 60, 61, 62, 63, 64, 65, 66, 67, 68, 69, 70, 71, 76, 77, 78, 79] (by decide +kernel) (by decide +kernel)
set_option maxRecDepth 20000 in
theorem gX5_count_X3_vehiclesOnDeck : GoodIn wsX5_count (wsV RX5 228 RX3 yX3_vehiclesOnDeck wsX3_vehiclesOnDeck) := goodIn_app (goodIn_of _ (by decide +kernel)) ggX5_count_X3_vehiclesOnDeck
set_option maxRecDepth 20000 in
theorem ggX5_count_X3_weightOnDeck : GoodIn wsX5_count wsX3_weightOnDeck := goodIn_r _ [32, 21, 22, 33, 34, 35, 26, 36, 37, 58, 59, 60, 61, 62, 63, 64, 65, 66, 67, 68, 69, 70, 71, 76, 77, 78, 79] (by decide +kernel) (by decide +kernel)
set_option maxRecDepth 20000 in
theorem gX5_count_X3_weightOnDeck : GoodIn wsX5_count (wsV RX5 231 RX3 yX3_weightOnDeck wsX3_weightOnDeck) := goodIn_app (goodIn_of _ (by decide +kernel)) ggX5_count_X3_weightOnDeck
set_option maxRecDepth 20000 in
theorem ggX5_count_X3_list : GoodIn wsX5_count wsX3_list := goodIn_r _ [41, 21, 22, 42, 43, 44, 45, 33, 34, 35, 26, 36, 37, 58, 59, 60, 61, 62, 63, 64, 65, 66, 67, 68, 69, 70, 71, 76, 77, 78, 79] (by decide +kernel) (by decide +kernel)
set_option maxRecDepth 20000 in
theorem gX5_count_X3_list : GoodIn wsX5_count (wsV RX5 234 RX3 yX3_list wsX3_list) := goodIn_app (goodIn_of _ (by decide +kernel)) ggX5_count_X3_list
set_option maxRecDepth 20000 in
theorem ggX5_count_X0_size : GoodIn wsX5_count wsX0_size := goodIn_r _ [50, 51, 80, 81, 82] (by decide +kernel) (by decide +kernel)
set_option maxRecDepth 20000 in
theorem gX5_count_X0_size : GoodIn wsX5_count (wsV RX5 193 RX0 yX0_size wsX0_size) := goodIn_app (goodIn_of _ (by decide +kernel)) ggX5_count_X0_size
theorem dX5_count_0 : decode cX5_count 0 = .ok (.iload_n 1, 1) := by decide +kernel
theorem dX5_count_1 : decode cX5_count 1 = .ok (.tableswitch 192 0 13 #[71, 79, 87, 95, 103, 111, 122, 133, 144, 152, 160, 168, 176, 184], 71) := by decide +kernel
theorem dX5_count_72 : decode cX5_count 72 = .ok (.aload_n 0, 1) := by decide +kernel
theorem dX5_count_73 : decode cX5_count 73 = .ok (.getfield 10, 3) := by decide +kernel
theorem dX5_count_76 : decode cX5_count 76 = .ok (.getfield 127, 3) := by decide +kernel
theorem dX5_count_79 : decode cX5_count 79 = .ok (.ireturn, 1) := by decide +kernel
theorem dX5_count_80 : decode cX5_count 80 = .ok (.aload_n 0, 1) := by decide +kernel
theorem dX5_count_81 : decode cX5_count 81 = .ok (.getfield 10, 3) := by decide +kernel
theorem dX5_count_84 : decode cX5_count 84 = .ok (.getfield 225, 3) := by decide +kernel
theorem dX5_count_87 : decode cX5_count 87 = .ok (.ireturn, 1) := by decide +kernel
theorem dX5_count_88 : decode cX5_count 88 = .ok (.aload_n 0, 1) := by decide +kernel
theorem dX5_count_89 : decode cX5_count 89 = .ok (.getfield 10, 3) := by decide +kernel
theorem dX5_count_92 : decode cX5_count 92 = .ok (.invokevirtual 228, 3) := by decide +kernel
theorem dX5_count_95 : decode cX5_count 95 = .ok (.ireturn, 1) := by decide +kernel
theorem dX5_count_96 : decode cX5_count 96 = .ok (.aload_n 0, 1) := by decide +kernel
theorem dX5_count_97 : decode cX5_count 97 = .ok (.getfield 10, 3) := by decide +kernel
theorem dX5_count_100 : decode cX5_count 100 = .ok (.invokevirtual 231, 3) := by decide +kernel
theorem dX5_count_103 : decode cX5_count 103 = .ok (.ireturn, 1) := by decide +kernel
theorem dX5_count_104 : decode cX5_count 104 = .ok (.aload_n 0, 1) := by decide +kernel
theorem dX5_count_105 : decode cX5_count 105 = .ok (.getfield 10, 3) := by decide +kernel
theorem dX5_count_108 : decode cX5_count 108 = .ok (.invokevirtual 234, 3) := by decide +kernel
theorem dX5_count_111 : decode cX5_count 111 = .ok (.ireturn, 1) := by decide +kernel
theorem dX5_count_112 : decode cX5_count 112 = .ok (.aload_n 0, 1) := by decide +kernel
theorem dX5_count_113 : decode cX5_count 113 = .ok (.getfield 10, 3) := by decide +kernel
theorem dX5_count_116 : decode cX5_count 116 = .ok (.getfield 141, 3) := by decide +kernel
theorem dX5_count_119 : decode cX5_count 119 = .ok (.getfield 237, 3) := by decide +kernel
theorem dX5_count_122 : decode cX5_count 122 = .ok (.ireturn, 1) := by decide +kernel
theorem dX5_count_123 : decode cX5_count 123 = .ok (.aload_n 0, 1) := by decide +kernel
theorem dX5_count_124 : decode cX5_count 124 = .ok (.getfield 10, 3) := by decide +kernel
theorem dX5_count_127 : decode cX5_count 127 = .ok (.getfield 141, 3) := by decide +kernel
theorem dX5_count_130 : decode cX5_count 130 = .ok (.getfield 240, 3) := by decide +kernel
theorem dX5_count_133 : decode cX5_count 133 = .ok (.ireturn, 1) := by decide +kernel
theorem dX5_count_134 : decode cX5_count 134 = .ok (.aload_n 0, 1) := by decide +kernel
theorem dX5_count_135 : decode cX5_count 135 = .ok (.getfield 10, 3) := by decide +kernel
theorem dX5_count_138 : decode cX5_count 138 = .ok (.getfield 141, 3) := by decide +kernel
theorem dX5_count_141 : decode cX5_count 141 = .ok (.getfield 145, 3) := by decide +kernel
theorem dX5_count_144 : decode cX5_count 144 = .ok (.ireturn, 1) := by decide +kernel
theorem dX5_count_145 : decode cX5_count 145 = .ok (.aload_n 0, 1) := by decide +kernel
theorem dX5_count_146 : decode cX5_count 146 = .ok (.getfield 10, 3) := by decide +kernel
theorem dX5_count_149 : decode cX5_count 149 = .ok (.getfield 243, 3) := by decide +kernel
theorem dX5_count_152 : decode cX5_count 152 = .ok (.ireturn, 1) := by decide +kernel
theorem dX5_count_153 : decode cX5_count 153 = .ok (.aload_n 0, 1) := by decide +kernel
theorem dX5_count_154 : decode cX5_count 154 = .ok (.getfield 10, 3) := by decide +kernel
theorem dX5_count_157 : decode cX5_count 157 = .ok (.getfield 246, 3) := by decide +kernel
theorem dX5_count_160 : decode cX5_count 160 = .ok (.ireturn, 1) := by decide +kernel
theorem dX5_count_161 : decode cX5_count 161 = .ok (.aload_n 0, 1) := by decide +kernel
theorem dX5_count_162 : decode cX5_count 162 = .ok (.getfield 10, 3) := by decide +kernel
theorem dX5_count_165 : decode cX5_count 165 = .ok (.getfield 249, 3) := by decide +kernel
theorem dX5_count_168 : decode cX5_count 168 = .ok (.ireturn, 1) := by decide +kernel
theorem dX5_count_169 : decode cX5_count 169 = .ok (.aload_n 0, 1) := by decide +kernel
theorem dX5_count_170 : decode cX5_count 170 = .ok (.getfield 10, 3) := by decide +kernel
theorem dX5_count_173 : decode cX5_count 173 = .ok (.getfield 252, 3) := by decide +kernel
theorem dX5_count_176 : decode cX5_count 176 = .ok (.ireturn, 1) := by decide +kernel
theorem dX5_count_177 : decode cX5_count 177 = .ok (.aload_n 0, 1) := by decide +kernel
theorem dX5_count_178 : decode cX5_count 178 = .ok (.getfield 10, 3) := by decide +kernel
theorem dX5_count_181 : decode cX5_count 181 = .ok (.getfield 255, 3) := by decide +kernel
theorem dX5_count_184 : decode cX5_count 184 = .ok (.ireturn, 1) := by decide +kernel
theorem dX5_count_185 : decode cX5_count 185 = .ok (.aload_n 0, 1) := by decide +kernel
theorem dX5_count_186 : decode cX5_count 186 = .ok (.getfield 25, 3) := by decide +kernel
theorem dX5_count_189 : decode cX5_count 189 = .ok (.invokevirtual 193, 3) := by decide +kernel
theorem dX5_count_192 : decode cX5_count 192 = .ok (.ireturn, 1) := by decide +kernel
theorem dX5_count_193 : decode cX5_count 193 = .ok (.new 51, 3) := by decide +kernel
theorem dX5_count_196 : decode cX5_count 196 = .ok (.dup, 1) := by decide +kernel
theorem dX5_count_197 : decode cX5_count 197 = .ok (.ldc_w 258, 3) := by decide +kernel
theorem dX5_count_200 : decode cX5_count 200 = .ok (.invokespecial 55, 3) := by decide +kernel
theorem dX5_count_203 : decode cX5_count 203 = .ok (.athrow, 1) := by decide +kernel
set_option maxRecDepth 20000 in
theorem ggX5_currentOf_X5_isWithin : GoodIn wsX5_currentOf wsX5_isWithin := goodIn_r _ [8] (by decide +kernel) (by decide +kernel)
set_option maxRecDepth 20000 in
theorem gX5_currentOf_X5_isWithin : GoodIn wsX5_currentOf (va_wsS RX5 40 yX5_isWithin wsX5_isWithin) := goodIn_app (goodIn_of _ (by decide +kernel)) ggX5_currentOf_X5_isWithin
set_option maxRecDepth 20000 in
theorem ggX5_currentOf_X5_at : GoodIn wsX5_currentOf wsX5_at := goodIn_r _ [11] (by decide +kernel) (by decide +kernel)
set_option maxRecDepth 20000 in
theorem gX5_currentOf_X5_at : GoodIn wsX5_currentOf (va_wsS RX5 64 yX5_at wsX5_at) := goodIn_app (goodIn_of _ (by decide +kernel)) ggX5_currentOf_X5_at
theorem dX5_currentOf_0 : decode cX5_currentOf 0 = .ok (.iload_n 1, 1) := by decide +kernel
theorem dX5_currentOf_1 : decode cX5_currentOf 1 = .ok (.iconst 0, 1) := by decide +kernel
theorem dX5_currentOf_2 : decode cX5_currentOf 2 = .ok (.bipush 23, 2) := by decide +kernel
theorem dX5_currentOf_4 : decode cX5_currentOf 4 = .ok (.invokestatic 40, 3) := by decide +kernel
theorem dX5_currentOf_7 : decode cX5_currentOf 7 = .ok (.ifCond .ne 13, 3) := by decide +kernel
theorem dX5_currentOf_10 : decode cX5_currentOf 10 = .ok (.new 44, 3) := by decide +kernel
theorem dX5_currentOf_13 : decode cX5_currentOf 13 = .ok (.dup, 1) := by decide +kernel
theorem dX5_currentOf_14 : decode cX5_currentOf 14 = .ok (.ldc 46, 2) := by decide +kernel
theorem dX5_currentOf_16 : decode cX5_currentOf 16 = .ok (.invokespecial 48, 3) := by decide +kernel
theorem dX5_currentOf_19 : decode cX5_currentOf 19 = .ok (.athrow, 1) := by decide +kernel
theorem dX5_currentOf_20 : decode cX5_currentOf 20 = .ok (.aload_n 0, 1) := by decide +kernel
theorem dX5_currentOf_21 : decode cX5_currentOf 21 = .ok (.getfield 10, 3) := by decide +kernel
theorem dX5_currentOf_24 : decode cX5_currentOf 24 = .ok (.getfield 60, 3) := by decide +kernel
theorem dX5_currentOf_27 : decode cX5_currentOf 27 = .ok (.iload_n 1, 1) := by decide +kernel
theorem dX5_currentOf_28 : decode cX5_currentOf 28 = .ok (.invokestatic 64, 3) := by decide +kernel
theorem dX5_currentOf_31 : decode cX5_currentOf 31 = .ok (.ireturn, 1) := by decide +kernel
set_option maxRecDepth 20000 in
theorem ggX5_setting_X5_isWithin : GoodIn wsX5_setting wsX5_isWithin := goodIn_r _ [8] (by decide +kernel) (by decide +kernel)
set_option maxRecDepth 20000 in
theorem gX5_setting_X5_isWithin : GoodIn wsX5_setting (va_wsS RX5 40 yX5_isWithin wsX5_isWithin) := goodIn_app (goodIn_of _ (by decide +kernel)) ggX5_setting_X5_isWithin
set_option maxRecDepth 20000 in
theorem ggX5_setting_X5_at : GoodIn wsX5_setting wsX5_at := goodIn_r _ [11] (by decide +kernel) (by decide +kernel)
set_option maxRecDepth 20000 in
theorem gX5_setting_X5_at : GoodIn wsX5_setting (va_wsS RX5 64 yX5_at wsX5_at) := goodIn_app (goodIn_of _ (by decide +kernel)) ggX5_setting_X5_at
theorem dX5_setting_0 : decode cX5_setting 0 = .ok (.iload_n 1, 1) := by decide +kernel
theorem dX5_setting_1 : decode cX5_setting 1 = .ok (.iconst 0, 1) := by decide +kernel
theorem dX5_setting_2 : decode cX5_setting 2 = .ok (.iconst 2, 1) := by decide +kernel
theorem dX5_setting_3 : decode cX5_setting 3 = .ok (.invokestatic 40, 3) := by decide +kernel
theorem dX5_setting_6 : decode cX5_setting 6 = .ok (.ifCond .ne 13, 3) := by decide +kernel
theorem dX5_setting_9 : decode cX5_setting 9 = .ok (.new 44, 3) := by decide +kernel
theorem dX5_setting_12 : decode cX5_setting 12 = .ok (.dup, 1) := by decide +kernel
theorem dX5_setting_13 : decode cX5_setting 13 = .ok (.ldc 150, 2) := by decide +kernel
theorem dX5_setting_15 : decode cX5_setting 15 = .ok (.invokespecial 48, 3) := by decide +kernel
theorem dX5_setting_18 : decode cX5_setting 18 = .ok (.athrow, 1) := by decide +kernel
theorem dX5_setting_19 : decode cX5_setting 19 = .ok (.aload_n 0, 1) := by decide +kernel
theorem dX5_setting_20 : decode cX5_setting 20 = .ok (.getfield 10, 3) := by decide +kernel
theorem dX5_setting_23 : decode cX5_setting 23 = .ok (.getfield 160, 3) := by decide +kernel
theorem dX5_setting_26 : decode cX5_setting 26 = .ok (.iload_n 1, 1) := by decide +kernel
theorem dX5_setting_27 : decode cX5_setting 27 = .ok (.invokestatic 64, 3) := by decide +kernel
theorem dX5_setting_30 : decode cX5_setting 30 = .ok (.ireturn, 1) := by decide +kernel
set_option maxRecDepth 20000 in
theorem ggX5_why_X3_reason : GoodIn wsX5_why wsX3_reason := goodIn_r _ [6, 7, 8, 9, 10, 11, 12, 5, 13, 14, 15, 16, 17, 18, 19, 20, 21, 22, 23, 24, 25, 26, 27, 28, 29, 30, 31, 32, 33, 34, 35, 36, 37, 38, 39, 40, 41, 42, 43, 44, 45, 46, 47, 48, 49, 50, 51, 52, 53, 54, 55, 56, 57, 58, 59, 60, 61, 62, 63, 70, 71, 72, 73, 74, 75, 76, 77, 78, 79, 80, 81, 82, 83, 84, 85, 86, 87, 88, 89, 90, 91] (by decide +kernel) (by decide +kernel)
set_option maxRecDepth 20000 in
theorem gX5_why_X3_reason : GoodIn wsX5_why (wsV RX5 113 RX3 yX3_reason wsX3_reason) := goodIn_app (goodIn_of _ (by decide +kernel)) ggX5_why_X3_reason
theorem dX5_why_0 : decode cX5_why 0 = .ok (.aload_n 0, 1) := by decide +kernel
theorem dX5_why_1 : decode cX5_why 1 = .ok (.getfield 10, 3) := by decide +kernel
theorem dX5_why_4 : decode cX5_why 4 = .ok (.invokevirtual 113, 3) := by decide +kernel
theorem dX5_why_7 : decode cX5_why 7 = .ok (.ireturn, 1) := by decide +kernel
set_option maxRecDepth 20000 in
theorem ggX5_weakest_X3_reserveOf : GoodIn wsX5_weakest wsX3_reserveOf := goodIn_r _ [6, 7, 8, 9, 5, 10, 11, 12, 13, 14, 15, 16, 17, 18, 19, 20, 21, 22, 23, 24, 25, 26, 27, 28, 29, 30, 31, 32, 33, 34, 35, 36, 37, 38, 39, 40, 41, 42, 43, 44, 45, 46, 47, 48, 49, 50, 51, 52, 53, 54, 55, 56, 57, 58, 59, 60, 61, 62, 63, 64, 65, 66, 73, 74, 75, 76, 77, 78, 79, 80, 81, 82, 83, 84, 85, 86, 87, 88, 89, 90, 91, 92, 93, 94] (by decide +kernel) (by decide +kernel)
set_option maxRecDepth 20000 in
theorem gX5_weakest_X3_reserveOf : GoodIn wsX5_weakest (wsV RX5 260 RX3 yX3_reserveOf wsX3_reserveOf) := goodIn_app (goodIn_of _ (by decide +kernel)) ggX5_weakest_X3_reserveOf
theorem dX5_weakest_0 : decode cX5_weakest 0 = .ok (.iconst 0, 1) := by decide +kernel
theorem dX5_weakest_1 : decode cX5_weakest 1 = .ok (.istore_n 1, 1) := by decide +kernel
theorem dX5_weakest_2 : decode cX5_weakest 2 = .ok (.aload_n 0, 1) := by decide +kernel
theorem dX5_weakest_3 : decode cX5_weakest 3 = .ok (.getfield 10, 3) := by decide +kernel
theorem dX5_weakest_6 : decode cX5_weakest 6 = .ok (.iconst 0, 1) := by decide +kernel
theorem dX5_weakest_7 : decode cX5_weakest 7 = .ok (.invokevirtual 260, 3) := by decide +kernel
theorem dX5_weakest_10 : decode cX5_weakest 10 = .ok (.istore_n 2, 1) := by decide +kernel
theorem dX5_weakest_11 : decode cX5_weakest 11 = .ok (.iconst 1, 1) := by decide +kernel
theorem dX5_weakest_12 : decode cX5_weakest 12 = .ok (.istore_n 3, 1) := by decide +kernel
theorem dX5_weakest_13 : decode cX5_weakest 13 = .ok (.iload_n 3, 1) := by decide +kernel
theorem dX5_weakest_14 : decode cX5_weakest 14 = .ok (.bipush 20, 2) := by decide +kernel
theorem dX5_weakest_16 : decode cX5_weakest 16 = .ok (.if_icmp .ge 30, 3) := by decide +kernel
theorem dX5_weakest_19 : decode cX5_weakest 19 = .ok (.aload_n 0, 1) := by decide +kernel
theorem dX5_weakest_20 : decode cX5_weakest 20 = .ok (.getfield 10, 3) := by decide +kernel
theorem dX5_weakest_23 : decode cX5_weakest 23 = .ok (.iload_n 3, 1) := by decide +kernel
theorem dX5_weakest_24 : decode cX5_weakest 24 = .ok (.invokevirtual 260, 3) := by decide +kernel
theorem dX5_weakest_27 : decode cX5_weakest 27 = .ok (.istore 4, 2) := by decide +kernel
theorem dX5_weakest_29 : decode cX5_weakest 29 = .ok (.iload 4, 2) := by decide +kernel
theorem dX5_weakest_31 : decode cX5_weakest 31 = .ok (.iload_n 2, 1) := by decide +kernel
theorem dX5_weakest_32 : decode cX5_weakest 32 = .ok (.if_icmp .ge 8, 3) := by decide +kernel
theorem dX5_weakest_35 : decode cX5_weakest 35 = .ok (.iload 4, 2) := by decide +kernel
theorem dX5_weakest_37 : decode cX5_weakest 37 = .ok (.istore_n 2, 1) := by decide +kernel
theorem dX5_weakest_38 : decode cX5_weakest 38 = .ok (.iload_n 3, 1) := by decide +kernel
theorem dX5_weakest_39 : decode cX5_weakest 39 = .ok (.istore_n 1, 1) := by decide +kernel
theorem dX5_weakest_40 : decode cX5_weakest 40 = .ok (.iinc 3 1, 3) := by decide +kernel
theorem dX5_weakest_43 : decode cX5_weakest 43 = .ok (.goto (-30), 3) := by decide +kernel
theorem dX5_weakest_46 : decode cX5_weakest 46 = .ok (.iload_n 1, 1) := by decide +kernel
theorem dX5_weakest_47 : decode cX5_weakest 47 = .ok (.ireturn, 1) := by decide +kernel
set_option maxRecDepth 20000 in
theorem ggX5_ifLoaded_X5_isWithin : GoodIn wsX5_ifLoaded wsX5_isWithin := goodIn_r _ [8] (by decide +kernel) (by decide +kernel)
set_option maxRecDepth 20000 in
theorem gX5_ifLoaded_X5_isWithin : GoodIn wsX5_ifLoaded (va_wsS RX5 40 yX5_isWithin wsX5_isWithin) := goodIn_app (goodIn_of _ (by decide +kernel)) ggX5_ifLoaded_X5_isWithin
set_option maxRecDepth 20000 in
theorem ggX5_ifLoaded_X3_canDriveOn : GoodIn wsX5_ifLoaded wsX3_canDriveOn := goodIn_r _ [13, 14, 15, 16, 17, 12, 18, 19, 20, 21, 22, 23, 24, 25, 26, 27, 28, 29, 30, 31, 32, 33, 34, 35, 36, 37, 142, 143, 144, 145, 146, 147, 148, 149, 150, 151, 152, 153, 154, 155, 156, 157, 158, 159] (by decide +kernel) (by decide +kernel)
set_option maxRecDepth 20000 in
theorem gX5_ifLoaded_X3_canDriveOn : GoodIn wsX5_ifLoaded (wsV RX5 101 RX3 yX3_canDriveOn wsX3_canDriveOn) := goodIn_app (goodIn_of _ (by decide +kernel)) ggX5_ifLoaded_X3_canDriveOn
set_option maxRecDepth 20000 in
theorem ggX5_ifLoaded_X3_copyFrom : GoodIn wsX5_ifLoaded wsX3_copyFrom := goodIn_r _ [41, 42, 43, 19, 20, 31, 32, 44, 45, 14, 46, 47, 48, 49, 50, 51, 7, 52, 53, 54, 55, 56, 57, 58, 59, 60, 61, 62, 63, 24, 64, 37, 65, 26, 66, 67, 68, 69, 70, 71, 72, 73, 74, 75, 142, 143, 144, 145, 146, 147, 148, 149, 150, 151, 152, 153, 154, 155, 156, 157, 158, 159, 160, 161, 162, 163] (by decide +kernel) (by decide +kernel)
set_option maxRecDepth 20000 in
theorem gX5_ifLoaded_X3_copyFrom : GoodIn wsX5_ifLoaded (wsV RX5 188 RX3 yX3_copyFrom wsX3_copyFrom) := goodIn_app (goodIn_of _ (by decide +kernel)) ggX5_ifLoaded_X3_copyFrom
set_option maxRecDepth 20000 in
theorem ggX5_ifLoaded_X3_driveOn : GoodIn wsX5_ifLoaded wsX3_driveOn := goodIn_r _ [79, 14, 15, 16, 17, 12, 18, 19, 20, 80, 81, 82, 24, 83, 26, 37, 84, 7, 85, 86, 87, 88, 89, 66, 65, 90, 91, 27, 28, 29, 30, 31, 32, 92, 93, 94, 95, 96, 34, 35, 36, 142, 143, 144, 145, 146, 147, 148, 149, 150, 151, 152, 153, 154, 155, 156, 157, 158, 159] (by decide +kernel) (by decide +kernel)
set_option maxRecDepth 20000 in
theorem gX5_ifLoaded_X3_driveOn : GoodIn wsX5_ifLoaded (wsV RX5 106 RX3 yX3_driveOn wsX3_driveOn) := goodIn_app (goodIn_of _ (by decide +kernel)) ggX5_ifLoaded_X3_driveOn
set_option maxRecDepth 20000 in
theorem ggX5_ifLoaded_X3_greatestTension : GoodIn wsX5_ifLoaded wsX3_greatestTension := goodIn_r _ [100, 44, 101, 102, 103, 12, 104, 42, 45, 105, 106, 107, 108, 84, 7, 85, 109, 110, 111, 112, 31, 32, 113, 114, 115, 24, 116, 66, 117, 118, 119, 120, 121, 122, 55, 123, 124, 125, 126, 70, 127, 128, 129, 130, 131, 132, 133, 134, 135, 54, 56, 73, 142, 143, 144, 145, 146, 147, 148, 149, 150, 151, 152, 153, 154, 155, 156, 157, 158, 159, 160, 161, 162, 163] (by decide +kernel) (by decide +kernel)
set_option maxRecDepth 20000 in
theorem gX5_ifLoaded_X3_greatestTension : GoodIn wsX5_ifLoaded (wsV RX5 263 RX3 yX3_greatestTension wsX3_greatestTension) := goodIn_app (goodIn_of _ (by decide +kernel)) ggX5_ifLoaded_X3_greatestTension
theorem dX5_ifLoaded_0 : decode cX5_ifLoaded 0 = .ok (.iload_n 1, 1) := by decide +kernel
theorem dX5_ifLoaded_1 : decode cX5_ifLoaded 1 = .ok (.iconst 0, 1) := by decide +kernel
theorem dX5_ifLoaded_2 : decode cX5_ifLoaded 2 = .ok (.iconst 1, 1) := by decide +kernel
theorem dX5_ifLoaded_3 : decode cX5_ifLoaded 3 = .ok (.invokestatic 40, 3) := by decide +kernel
theorem dX5_ifLoaded_6 : decode cX5_ifLoaded 6 = .ok (.ifCond .ne 13, 3) := by decide +kernel
theorem dX5_ifLoaded_9 : decode cX5_ifLoaded 9 = .ok (.new 44, 3) := by decide +kernel
theorem dX5_ifLoaded_12 : decode cX5_ifLoaded 12 = .ok (.dup, 1) := by decide +kernel
theorem dX5_ifLoaded_13 : decode cX5_ifLoaded 13 = .ok (.ldc 99, 2) := by decide +kernel
theorem dX5_ifLoaded_15 : decode cX5_ifLoaded 15 = .ok (.invokespecial 48, 3) := by decide +kernel
theorem dX5_ifLoaded_18 : decode cX5_ifLoaded 18 = .ok (.athrow, 1) := by decide +kernel
theorem dX5_ifLoaded_19 : decode cX5_ifLoaded 19 = .ok (.aload_n 0, 1) := by decide +kernel
theorem dX5_ifLoaded_20 : decode cX5_ifLoaded 20 = .ok (.getfield 10, 3) := by decide +kernel
theorem dX5_ifLoaded_23 : decode cX5_ifLoaded 23 = .ok (.iload_n 1, 1) := by decide +kernel
theorem dX5_ifLoaded_24 : decode cX5_ifLoaded 24 = .ok (.invokevirtual 101, 3) := by decide +kernel
theorem dX5_ifLoaded_27 : decode cX5_ifLoaded 27 = .ok (.ifCond .ne 5, 3) := by decide +kernel
theorem dX5_ifLoaded_30 : decode cX5_ifLoaded 30 = .ok (.iconst (-1), 1) := by decide +kernel
theorem dX5_ifLoaded_31 : decode cX5_ifLoaded 31 = .ok (.ireturn, 1) := by decide +kernel
theorem dX5_ifLoaded_32 : decode cX5_ifLoaded 32 = .ok (.aload_n 0, 1) := by decide +kernel
theorem dX5_ifLoaded_33 : decode cX5_ifLoaded 33 = .ok (.getfield 16, 3) := by decide +kernel
theorem dX5_ifLoaded_36 : decode cX5_ifLoaded 36 = .ok (.aload_n 0, 1) := by decide +kernel
theorem dX5_ifLoaded_37 : decode cX5_ifLoaded 37 = .ok (.getfield 10, 3) := by decide +kernel
theorem dX5_ifLoaded_40 : decode cX5_ifLoaded 40 = .ok (.invokevirtual 188, 3) := by decide +kernel
theorem dX5_ifLoaded_43 : decode cX5_ifLoaded 43 = .ok (.aload_n 0, 1) := by decide +kernel
theorem dX5_ifLoaded_44 : decode cX5_ifLoaded 44 = .ok (.getfield 16, 3) := by decide +kernel
theorem dX5_ifLoaded_47 : decode cX5_ifLoaded 47 = .ok (.iload_n 1, 1) := by decide +kernel
theorem dX5_ifLoaded_48 : decode cX5_ifLoaded 48 = .ok (.invokevirtual 106, 3) := by decide +kernel
theorem dX5_ifLoaded_51 : decode cX5_ifLoaded 51 = .ok (.pop, 1) := by decide +kernel
theorem dX5_ifLoaded_52 : decode cX5_ifLoaded 52 = .ok (.aload_n 0, 1) := by decide +kernel
theorem dX5_ifLoaded_53 : decode cX5_ifLoaded 53 = .ok (.getfield 16, 3) := by decide +kernel
theorem dX5_ifLoaded_56 : decode cX5_ifLoaded 56 = .ok (.iconst 0, 1) := by decide +kernel
theorem dX5_ifLoaded_57 : decode cX5_ifLoaded 57 = .ok (.invokevirtual 263, 3) := by decide +kernel
theorem dX5_ifLoaded_60 : decode cX5_ifLoaded 60 = .ok (.ireturn, 1) := by decide +kernel
set_option maxRecDepth 20000 in
theorem ggX5_bestHour_X3_greatestTension : GoodIn wsX5_bestHour wsX3_greatestTension := goodIn_r _ [6, 7, 8, 9, 10, 5, 11, 12, 13, 14, 15, 16, 17, 18, 19, 20, 21, 22, 23, 24, 25, 26, 27, 28, 29, 30, 31, 32, 33, 34, 35, 36, 37, 38, 39, 40, 41, 42, 43, 44, 45, 46, 47, 48, 49, 50, 51, 52, 53, 54, 55, 56, 63, 64, 65, 66, 67, 68, 69, 70, 71, 72, 73, 74, 75, 76, 77, 78, 79, 80, 81, 82, 83, 84] (by decide +kernel) (by decide +kernel)
set_option maxRecDepth 20000 in
theorem gX5_bestHour_X3_greatestTension : GoodIn wsX5_bestHour (wsV RX5 263 RX3 yX3_greatestTension wsX3_greatestTension) := goodIn_app (goodIn_of _ (by decide +kernel)) ggX5_bestHour_X3_greatestTension
theorem dX5_bestHour_0 : decode cX5_bestHour 0 = .ok (.iconst 0, 1) := by decide +kernel
theorem dX5_bestHour_1 : decode cX5_bestHour 1 = .ok (.istore_n 1, 1) := by decide +kernel
theorem dX5_bestHour_2 : decode cX5_bestHour 2 = .ok (.aload_n 0, 1) := by decide +kernel
theorem dX5_bestHour_3 : decode cX5_bestHour 3 = .ok (.getfield 10, 3) := by decide +kernel
theorem dX5_bestHour_6 : decode cX5_bestHour 6 = .ok (.iconst 0, 1) := by decide +kernel
theorem dX5_bestHour_7 : decode cX5_bestHour 7 = .ok (.invokevirtual 263, 3) := by decide +kernel
theorem dX5_bestHour_10 : decode cX5_bestHour 10 = .ok (.istore_n 2, 1) := by decide +kernel
theorem dX5_bestHour_11 : decode cX5_bestHour 11 = .ok (.iconst 1, 1) := by decide +kernel
theorem dX5_bestHour_12 : decode cX5_bestHour 12 = .ok (.istore_n 3, 1) := by decide +kernel
theorem dX5_bestHour_13 : decode cX5_bestHour 13 = .ok (.iload_n 3, 1) := by decide +kernel
theorem dX5_bestHour_14 : decode cX5_bestHour 14 = .ok (.bipush 24, 2) := by decide +kernel
theorem dX5_bestHour_16 : decode cX5_bestHour 16 = .ok (.if_icmp .ge 30, 3) := by decide +kernel
theorem dX5_bestHour_19 : decode cX5_bestHour 19 = .ok (.aload_n 0, 1) := by decide +kernel
theorem dX5_bestHour_20 : decode cX5_bestHour 20 = .ok (.getfield 10, 3) := by decide +kernel
theorem dX5_bestHour_23 : decode cX5_bestHour 23 = .ok (.iload_n 3, 1) := by decide +kernel
theorem dX5_bestHour_24 : decode cX5_bestHour 24 = .ok (.invokevirtual 263, 3) := by decide +kernel
theorem dX5_bestHour_27 : decode cX5_bestHour 27 = .ok (.istore 4, 2) := by decide +kernel
theorem dX5_bestHour_29 : decode cX5_bestHour 29 = .ok (.iload 4, 2) := by decide +kernel
theorem dX5_bestHour_31 : decode cX5_bestHour 31 = .ok (.iload_n 2, 1) := by decide +kernel
theorem dX5_bestHour_32 : decode cX5_bestHour 32 = .ok (.if_icmp .ge 8, 3) := by decide +kernel
theorem dX5_bestHour_35 : decode cX5_bestHour 35 = .ok (.iload 4, 2) := by decide +kernel
theorem dX5_bestHour_37 : decode cX5_bestHour 37 = .ok (.istore_n 2, 1) := by decide +kernel
theorem dX5_bestHour_38 : decode cX5_bestHour 38 = .ok (.iload_n 3, 1) := by decide +kernel
theorem dX5_bestHour_39 : decode cX5_bestHour 39 = .ok (.istore_n 1, 1) := by decide +kernel
theorem dX5_bestHour_40 : decode cX5_bestHour 40 = .ok (.iinc 3 1, 3) := by decide +kernel
theorem dX5_bestHour_43 : decode cX5_bestHour 43 = .ok (.goto (-30), 3) := by decide +kernel
theorem dX5_bestHour_46 : decode cX5_bestHour 46 = .ok (.iload_n 1, 1) := by decide +kernel
theorem dX5_bestHour_47 : decode cX5_bestHour 47 = .ok (.ireturn, 1) := by decide +kernel
set_option maxRecDepth 20000 in
theorem ggX5_leastList_X5_isWithin : GoodIn wsX5_leastList wsX5_isWithin := goodIn_r _ [7] (by decide +kernel) (by decide +kernel)
set_option maxRecDepth 20000 in
theorem gX5_leastList_X5_isWithin : GoodIn wsX5_leastList (va_wsS RX5 40 yX5_isWithin wsX5_isWithin) := goodIn_app (goodIn_of _ (by decide +kernel)) ggX5_leastList_X5_isWithin
