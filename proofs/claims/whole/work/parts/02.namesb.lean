set_option maxRecDepth 20000 in
theorem ggX0_init_X3_init : GoodIn wsX0_init wsX3_init := goodIn_r _ [12, 13, 2, 3, 14, 15, 16, 17, 18, 19, 20, 21, 22, 23, 24, 25, 26, 27, 28, 29, 30, 31, 32, 33, 34, 35, 36, 37, 38, 39, 40, 41, 42, 43, 44, 45, 46, 47, 48, 49, 50, 51, 52, 53, 54, 58, 59, 60, 61, 62, 63, 64, 65, 66, 67, 68, 69, 70, 71, 72, 73, 74, 75, 76, 77, 78, 79] (by decide +kernel) (by decide +kernel)
set_option maxRecDepth 20000 in
theorem gX0_init_X3_init : GoodIn wsX0_init (wsX3_init) := ggX0_init_X3_init
theorem dX0_init_0 : decode cX0_init 0 = .ok (.aload_n 0, 1) := by decide +kernel
theorem dX0_init_1 : decode cX0_init 1 = .ok (.invokespecial 3, 3) := by decide +kernel
theorem dX0_init_4 : decode cX0_init 4 = .ok (.aload_n 0, 1) := by decide +kernel
theorem dX0_init_5 : decode cX0_init 5 = .ok (.bipush 6, 2) := by decide +kernel
theorem dX0_init_7 : decode cX0_init 7 = .ok (.anewarray 9, 3) := by decide +kernel
theorem dX0_init_10 : decode cX0_init 10 = .ok (.putfield 11, 3) := by decide +kernel
theorem dX0_init_13 : decode cX0_init 13 = .ok (.iconst 0, 1) := by decide +kernel
theorem dX0_init_14 : decode cX0_init 14 = .ok (.istore_n 1, 1) := by decide +kernel
theorem dX0_init_15 : decode cX0_init 15 = .ok (.iload_n 1, 1) := by decide +kernel
theorem dX0_init_16 : decode cX0_init 16 = .ok (.aload_n 0, 1) := by decide +kernel
theorem dX0_init_17 : decode cX0_init 17 = .ok (.getfield 11, 3) := by decide +kernel
theorem dX0_init_20 : decode cX0_init 20 = .ok (.arraylength, 1) := by decide +kernel
theorem dX0_init_21 : decode cX0_init 21 = .ok (.if_icmp .ge 22, 3) := by decide +kernel
theorem dX0_init_24 : decode cX0_init 24 = .ok (.aload_n 0, 1) := by decide +kernel
theorem dX0_init_25 : decode cX0_init 25 = .ok (.getfield 11, 3) := by decide +kernel
theorem dX0_init_28 : decode cX0_init 28 = .ok (.iload_n 1, 1) := by decide +kernel
theorem dX0_init_29 : decode cX0_init 29 = .ok (.new 9, 3) := by decide +kernel
theorem dX0_init_32 : decode cX0_init 32 = .ok (.dup, 1) := by decide +kernel
theorem dX0_init_33 : decode cX0_init 33 = .ok (.invokespecial 17, 3) := by decide +kernel
theorem dX0_init_36 : decode cX0_init 36 = .ok (.aastore, 1) := by decide +kernel
theorem dX0_init_37 : decode cX0_init 37 = .ok (.iinc 1 1, 3) := by decide +kernel
theorem dX0_init_40 : decode cX0_init 40 = .ok (.goto (-25), 3) := by decide +kernel
theorem dX0_init_43 : decode cX0_init 43 = .ok (.aload_n 0, 1) := by decide +kernel
theorem dX0_init_44 : decode cX0_init 44 = .ok (.iconst 0, 1) := by decide +kernel
theorem dX0_init_45 : decode cX0_init 45 = .ok (.putfield 18, 3) := by decide +kernel
theorem dX0_init_48 : decode cX0_init 48 = .ok (.aload_n 0, 1) := by decide +kernel
theorem dX0_init_49 : decode cX0_init 49 = .ok (.iconst 0, 1) := by decide +kernel
theorem dX0_init_50 : decode cX0_init 50 = .ok (.putfield 22, 3) := by decide +kernel
theorem dX0_init_53 : decode cX0_init 53 = .ok (.return_, 1) := by decide +kernel
theorem dX0_size_0 : decode cX0_size 0 = .ok (.aload_n 0, 1) := by decide +kernel
theorem dX0_size_1 : decode cX0_size 1 = .ok (.getfield 22, 3) := by decide +kernel
theorem dX0_size_4 : decode cX0_size 4 = .ok (.ireturn, 1) := by decide +kernel
set_option maxRecDepth 20000 in
theorem ggX0_save_X0_placeOf : GoodIn wsX0_save wsX0_placeOf := goodIn_r _ [7, 2, 8, 9, 10, 11, 12, 61, 62, 63] (by decide +kernel) (by decide +kernel)
set_option maxRecDepth 20000 in
theorem gX0_save_X0_placeOf : GoodIn wsX0_save (wsV RX0 25 RX0 yX0_placeOf wsX0_placeOf) := goodIn_app (goodIn_of _ (by decide +kernel)) ggX0_save_X0_placeOf
set_option maxRecDepth 20000 in
theorem ggX0_save_X3_copyFrom : GoodIn wsX0_save wsX3_copyFrom := goodIn_r _ [17, 18, 19, 20, 21, 22, 23, 24, 25, 26, 27, 28, 29, 30, 31, 32, 33, 34, 35, 36, 37, 38, 39, 40, 41, 42, 43, 44, 45, 46, 47, 48, 49, 50, 51, 52, 53, 54, 55, 56, 57, 58, 59, 60, 64, 65, 66, 67, 68, 69, 70, 71, 72, 73, 74, 75, 76, 77, 78, 79, 80, 81, 82, 83, 84, 85] (by decide +kernel) (by decide +kernel)
set_option maxRecDepth 20000 in
theorem gX0_save_X3_copyFrom : GoodIn wsX0_save (wsV RX0 29 RX3 yX3_copyFrom wsX3_copyFrom) := goodIn_app (goodIn_of _ (by decide +kernel)) ggX0_save_X3_copyFrom
theorem dX0_save_0 : decode cX0_save 0 = .ok (.aload_n 0, 1) := by decide +kernel
theorem dX0_save_1 : decode cX0_save 1 = .ok (.getfield 22, 3) := by decide +kernel
theorem dX0_save_4 : decode cX0_save 4 = .ok (.bipush 6, 2) := by decide +kernel
theorem dX0_save_6 : decode cX0_save 6 = .ok (.if_icmp .ne 26, 3) := by decide +kernel
theorem dX0_save_9 : decode cX0_save 9 = .ok (.aload_n 0, 1) := by decide +kernel
theorem dX0_save_10 : decode cX0_save 10 = .ok (.aload_n 0, 1) := by decide +kernel
theorem dX0_save_11 : decode cX0_save 11 = .ok (.getfield 18, 3) := by decide +kernel
theorem dX0_save_14 : decode cX0_save 14 = .ok (.iconst 1, 1) := by decide +kernel
theorem dX0_save_15 : decode cX0_save 15 = .ok (.iadd, 1) := by decide +kernel
theorem dX0_save_16 : decode cX0_save 16 = .ok (.bipush 6, 2) := by decide +kernel
theorem dX0_save_18 : decode cX0_save 18 = .ok (.irem, 1) := by decide +kernel
theorem dX0_save_19 : decode cX0_save 19 = .ok (.putfield 18, 3) := by decide +kernel
theorem dX0_save_22 : decode cX0_save 22 = .ok (.aload_n 0, 1) := by decide +kernel
theorem dX0_save_23 : decode cX0_save 23 = .ok (.dup, 1) := by decide +kernel
theorem dX0_save_24 : decode cX0_save 24 = .ok (.getfield 22, 3) := by decide +kernel
theorem dX0_save_27 : decode cX0_save 27 = .ok (.iconst 1, 1) := by decide +kernel
theorem dX0_save_28 : decode cX0_save 28 = .ok (.isub, 1) := by decide +kernel
theorem dX0_save_29 : decode cX0_save 29 = .ok (.putfield 22, 3) := by decide +kernel
theorem dX0_save_32 : decode cX0_save 32 = .ok (.aload_n 0, 1) := by decide +kernel
theorem dX0_save_33 : decode cX0_save 33 = .ok (.aload_n 0, 1) := by decide +kernel
theorem dX0_save_34 : decode cX0_save 34 = .ok (.getfield 22, 3) := by decide +kernel
theorem dX0_save_37 : decode cX0_save 37 = .ok (.invokevirtual 25, 3) := by decide +kernel
theorem dX0_save_40 : decode cX0_save 40 = .ok (.astore_n 2, 1) := by decide +kernel
theorem dX0_save_41 : decode cX0_save 41 = .ok (.aload_n 2, 1) := by decide +kernel
theorem dX0_save_42 : decode cX0_save 42 = .ok (.ifnull 18, 3) := by decide +kernel
theorem dX0_save_45 : decode cX0_save 45 = .ok (.aload_n 2, 1) := by decide +kernel
theorem dX0_save_46 : decode cX0_save 46 = .ok (.aload_n 1, 1) := by decide +kernel
theorem dX0_save_47 : decode cX0_save 47 = .ok (.invokevirtual 29, 3) := by decide +kernel
theorem dX0_save_50 : decode cX0_save 50 = .ok (.aload_n 0, 1) := by decide +kernel
theorem dX0_save_51 : decode cX0_save 51 = .ok (.dup, 1) := by decide +kernel
theorem dX0_save_52 : decode cX0_save 52 = .ok (.getfield 22, 3) := by decide +kernel
theorem dX0_save_55 : decode cX0_save 55 = .ok (.iconst 1, 1) := by decide +kernel
theorem dX0_save_56 : decode cX0_save 56 = .ok (.iadd, 1) := by decide +kernel
theorem dX0_save_57 : decode cX0_save 57 = .ok (.putfield 22, 3) := by decide +kernel
theorem dX0_save_60 : decode cX0_save 60 = .ok (.return_, 1) := by decide +kernel
set_option maxRecDepth 20000 in
theorem ggX0_restore_X0_placeOf : GoodIn wsX0_restore wsX0_placeOf := goodIn_r _ [6, 7, 8, 9, 10, 11, 12, 61, 62, 63] (by decide +kernel) (by decide +kernel)
set_option maxRecDepth 20000 in
theorem gX0_restore_X0_placeOf : GoodIn wsX0_restore (wsV RX0 25 RX0 yX0_placeOf wsX0_placeOf) := goodIn_app (goodIn_of _ (by decide +kernel)) ggX0_restore_X0_placeOf
set_option maxRecDepth 20000 in
theorem ggX0_restore_X3_copyFrom : GoodIn wsX0_restore wsX3_copyFrom := goodIn_r _ [17, 18, 19, 20, 21, 22, 23, 24, 25, 26, 27, 28, 29, 30, 31, 32, 33, 34, 35, 36, 37, 38, 39, 40, 41, 42, 43, 44, 45, 46, 47, 48, 49, 50, 51, 52, 53, 54, 55, 56, 57, 58, 59, 60, 64, 65, 66, 67, 68, 69, 70, 71, 72, 73, 74, 75, 76, 77, 78, 79, 80, 81, 82, 83, 84, 85] (by decide +kernel) (by decide +kernel)
set_option maxRecDepth 20000 in
theorem gX0_restore_X3_copyFrom : GoodIn wsX0_restore (wsV RX0 29 RX3 yX3_copyFrom wsX3_copyFrom) := goodIn_app (goodIn_of _ (by decide +kernel)) ggX0_restore_X3_copyFrom
theorem dX0_restore_0 : decode cX0_restore 0 = .ok (.aload_n 0, 1) := by decide +kernel
theorem dX0_restore_1 : decode cX0_restore 1 = .ok (.aload_n 0, 1) := by decide +kernel
theorem dX0_restore_2 : decode cX0_restore 2 = .ok (.getfield 22, 3) := by decide +kernel
theorem dX0_restore_5 : decode cX0_restore 5 = .ok (.iconst 1, 1) := by decide +kernel
theorem dX0_restore_6 : decode cX0_restore 6 = .ok (.isub, 1) := by decide +kernel
theorem dX0_restore_7 : decode cX0_restore 7 = .ok (.invokevirtual 25, 3) := by decide +kernel
theorem dX0_restore_10 : decode cX0_restore 10 = .ok (.astore_n 2, 1) := by decide +kernel
theorem dX0_restore_11 : decode cX0_restore 11 = .ok (.aload_n 2, 1) := by decide +kernel
theorem dX0_restore_12 : decode cX0_restore 12 = .ok (.ifnull 18, 3) := by decide +kernel
theorem dX0_restore_15 : decode cX0_restore 15 = .ok (.aload_n 1, 1) := by decide +kernel
theorem dX0_restore_16 : decode cX0_restore 16 = .ok (.aload_n 2, 1) := by decide +kernel
theorem dX0_restore_17 : decode cX0_restore 17 = .ok (.invokevirtual 29, 3) := by decide +kernel
theorem dX0_restore_20 : decode cX0_restore 20 = .ok (.aload_n 0, 1) := by decide +kernel
theorem dX0_restore_21 : decode cX0_restore 21 = .ok (.dup, 1) := by decide +kernel
theorem dX0_restore_22 : decode cX0_restore 22 = .ok (.getfield 22, 3) := by decide +kernel
theorem dX0_restore_25 : decode cX0_restore 25 = .ok (.iconst 1, 1) := by decide +kernel
theorem dX0_restore_26 : decode cX0_restore 26 = .ok (.isub, 1) := by decide +kernel
theorem dX0_restore_27 : decode cX0_restore 27 = .ok (.putfield 22, 3) := by decide +kernel
theorem dX0_restore_30 : decode cX0_restore 30 = .ok (.return_, 1) := by decide +kernel
set_option maxRecDepth 20000 in
theorem ggX0_placeOf_J9_floorMod_7cf53 : GoodIn wsX0_placeOf wsJ9_floorMod_7cf53 := goodIn_r _ [6] (by decide +kernel) (by decide +kernel)
set_option maxRecDepth 20000 in
theorem gX0_placeOf_J9_floorMod_7cf53 : GoodIn wsX0_placeOf (va_wsS RX0 33 yJ9_floorMod_7cf53 wsJ9_floorMod_7cf53) := goodIn_app (goodIn_of _ (by decide +kernel)) ggX0_placeOf_J9_floorMod_7cf53
theorem dX0_placeOf_0 : decode cX0_placeOf 0 = .ok (.aload_n 0, 1) := by decide +kernel
theorem dX0_placeOf_1 : decode cX0_placeOf 1 = .ok (.getfield 18, 3) := by decide +kernel
theorem dX0_placeOf_4 : decode cX0_placeOf 4 = .ok (.iload_n 1, 1) := by decide +kernel
theorem dX0_placeOf_5 : decode cX0_placeOf 5 = .ok (.iadd, 1) := by decide +kernel
theorem dX0_placeOf_6 : decode cX0_placeOf 6 = .ok (.bipush 6, 2) := by decide +kernel
theorem dX0_placeOf_8 : decode cX0_placeOf 8 = .ok (.invokestatic 33, 3) := by decide +kernel
theorem dX0_placeOf_11 : decode cX0_placeOf 11 = .ok (.istore_n 2, 1) := by decide +kernel
theorem dX0_placeOf_12 : decode cX0_placeOf 12 = .ok (.iload_n 2, 1) := by decide +kernel
theorem dX0_placeOf_13 : decode cX0_placeOf 13 = .ok (.ifCond .lt 21, 3) := by decide +kernel
theorem dX0_placeOf_16 : decode cX0_placeOf 16 = .ok (.iload_n 2, 1) := by decide +kernel
theorem dX0_placeOf_17 : decode cX0_placeOf 17 = .ok (.aload_n 0, 1) := by decide +kernel
theorem dX0_placeOf_18 : decode cX0_placeOf 18 = .ok (.getfield 11, 3) := by decide +kernel
theorem dX0_placeOf_21 : decode cX0_placeOf 21 = .ok (.arraylength, 1) := by decide +kernel
theorem dX0_placeOf_22 : decode cX0_placeOf 22 = .ok (.if_icmp .ge 12, 3) := by decide +kernel
theorem dX0_placeOf_25 : decode cX0_placeOf 25 = .ok (.aload_n 0, 1) := by decide +kernel
theorem dX0_placeOf_26 : decode cX0_placeOf 26 = .ok (.getfield 11, 3) := by decide +kernel
theorem dX0_placeOf_29 : decode cX0_placeOf 29 = .ok (.iload_n 2, 1) := by decide +kernel
theorem dX0_placeOf_30 : decode cX0_placeOf 30 = .ok (.aaload, 1) := by decide +kernel
theorem dX0_placeOf_31 : decode cX0_placeOf 31 = .ok (.goto 4, 3) := by decide +kernel
theorem dX0_placeOf_34 : decode cX0_placeOf 34 = .ok (.aconst_null, 1) := by decide +kernel
theorem dX0_placeOf_35 : decode cX0_placeOf 35 = .ok (.areturn, 1) := by decide +kernel
theorem dX1_init_0 : decode cX1_init 0 = .ok (.aload_n 0, 1) := by decide +kernel
theorem dX1_init_1 : decode cX1_init 1 = .ok (.invokespecial 3, 3) := by decide +kernel
theorem dX1_init_4 : decode cX1_init 4 = .ok (.aload_n 0, 1) := by decide +kernel
theorem dX1_init_5 : decode cX1_init 5 = .ok (.iload_n 1, 1) := by decide +kernel
theorem dX1_init_6 : decode cX1_init 6 = .ok (.newarray .int, 2) := by decide +kernel
theorem dX1_init_8 : decode cX1_init 8 = .ok (.putfield 9, 3) := by decide +kernel
theorem dX1_init_11 : decode cX1_init 11 = .ok (.aload_n 0, 1) := by decide +kernel
theorem dX1_init_12 : decode cX1_init 12 = .ok (.iload_n 1, 1) := by decide +kernel
theorem dX1_init_13 : decode cX1_init 13 = .ok (.newarray .int, 2) := by decide +kernel
theorem dX1_init_15 : decode cX1_init 15 = .ok (.putfield 15, 3) := by decide +kernel
theorem dX1_init_18 : decode cX1_init 18 = .ok (.aload_n 0, 1) := by decide +kernel
theorem dX1_init_19 : decode cX1_init 19 = .ok (.iconst 0, 1) := by decide +kernel
theorem dX1_init_20 : decode cX1_init 20 = .ok (.putfield 18, 3) := by decide +kernel
theorem dX1_init_23 : decode cX1_init 23 = .ok (.aload_n 0, 1) := by decide +kernel
theorem dX1_init_24 : decode cX1_init 24 = .ok (.iconst 0, 1) := by decide +kernel
theorem dX1_init_25 : decode cX1_init 25 = .ok (.putfield 22, 3) := by decide +kernel
theorem dX1_init_28 : decode cX1_init 28 = .ok (.return_, 1) := by decide +kernel
set_option maxRecDepth 20000 in
theorem ggX1_copyFrom_X5_copyRow : GoodIn wsX1_copyFrom wsX5_copyRow := goodIn_r _ [7, 8, 9, 10, 11, 12, 13, 14, 15] (by decide +kernel) (by decide +kernel)
set_option maxRecDepth 20000 in
theorem gX1_copyFrom_X5_copyRow_n25 : GoodIn wsX1_copyFrom (wsX5_copyRow) := ggX1_copyFrom_X5_copyRow
theorem dX1_copyFrom_0 : decode cX1_copyFrom 0 = .ok (.aload_n 1, 1) := by decide +kernel
theorem dX1_copyFrom_1 : decode cX1_copyFrom 1 = .ok (.getfield 9, 3) := by decide +kernel
theorem dX1_copyFrom_4 : decode cX1_copyFrom 4 = .ok (.aload_n 0, 1) := by decide +kernel
theorem dX1_copyFrom_5 : decode cX1_copyFrom 5 = .ok (.getfield 9, 3) := by decide +kernel
theorem dX1_copyFrom_8 : decode cX1_copyFrom 8 = .ok (.invokestatic 25, 3) := by decide +kernel
theorem dX1_copyFrom_11 : decode cX1_copyFrom 11 = .ok (.aload_n 1, 1) := by decide +kernel
theorem dX1_copyFrom_12 : decode cX1_copyFrom 12 = .ok (.getfield 15, 3) := by decide +kernel
theorem dX1_copyFrom_15 : decode cX1_copyFrom 15 = .ok (.aload_n 0, 1) := by decide +kernel
theorem dX1_copyFrom_16 : decode cX1_copyFrom 16 = .ok (.getfield 15, 3) := by decide +kernel
theorem dX1_copyFrom_19 : decode cX1_copyFrom 19 = .ok (.invokestatic 25, 3) := by decide +kernel
theorem dX1_copyFrom_22 : decode cX1_copyFrom 22 = .ok (.aload_n 0, 1) := by decide +kernel
theorem dX1_copyFrom_23 : decode cX1_copyFrom 23 = .ok (.aload_n 1, 1) := by decide +kernel
theorem dX1_copyFrom_24 : decode cX1_copyFrom 24 = .ok (.getfield 18, 3) := by decide +kernel
theorem dX1_copyFrom_27 : decode cX1_copyFrom 27 = .ok (.putfield 18, 3) := by decide +kernel
theorem dX1_copyFrom_30 : decode cX1_copyFrom 30 = .ok (.aload_n 0, 1) := by decide +kernel
theorem dX1_copyFrom_31 : decode cX1_copyFrom 31 = .ok (.aload_n 1, 1) := by decide +kernel
theorem dX1_copyFrom_32 : decode cX1_copyFrom 32 = .ok (.getfield 22, 3) := by decide +kernel
theorem dX1_copyFrom_35 : decode cX1_copyFrom 35 = .ok (.putfield 22, 3) := by decide +kernel
theorem dX1_copyFrom_38 : decode cX1_copyFrom 38 = .ok (.return_, 1) := by decide +kernel
theorem dX1_size_0 : decode cX1_size 0 = .ok (.aload_n 0, 1) := by decide +kernel
theorem dX1_size_1 : decode cX1_size 1 = .ok (.getfield 18, 3) := by decide +kernel
theorem dX1_size_4 : decode cX1_size 4 = .ok (.ireturn, 1) := by decide +kernel
theorem dX1_weight_0 : decode cX1_weight 0 = .ok (.aload_n 0, 1) := by decide +kernel
theorem dX1_weight_1 : decode cX1_weight 1 = .ok (.getfield 22, 3) := by decide +kernel
theorem dX1_weight_4 : decode cX1_weight 4 = .ok (.ireturn, 1) := by decide +kernel
theorem dX1_isFull_0 : decode cX1_isFull 0 = .ok (.aload_n 0, 1) := by decide +kernel
theorem dX1_isFull_1 : decode cX1_isFull 1 = .ok (.getfield 18, 3) := by decide +kernel
theorem dX1_isFull_4 : decode cX1_isFull 4 = .ok (.aload_n 0, 1) := by decide +kernel
theorem dX1_isFull_5 : decode cX1_isFull 5 = .ok (.getfield 9, 3) := by decide +kernel
theorem dX1_isFull_8 : decode cX1_isFull 8 = .ok (.arraylength, 1) := by decide +kernel
theorem dX1_isFull_9 : decode cX1_isFull 9 = .ok (.if_icmp .lt 7, 3) := by decide +kernel
theorem dX1_isFull_12 : decode cX1_isFull 12 = .ok (.iconst 1, 1) := by decide +kernel
theorem dX1_isFull_13 : decode cX1_isFull 13 = .ok (.goto 4, 3) := by decide +kernel
theorem dX1_isFull_16 : decode cX1_isFull 16 = .ok (.iconst 0, 1) := by decide +kernel
theorem dX1_isFull_17 : decode cX1_isFull 17 = .ok (.ireturn, 1) := by decide +kernel
set_option maxRecDepth 20000 in
theorem ggX1_weightOf_X5_at : GoodIn wsX1_weightOf wsX5_at := goodIn_r _ [5] (by decide +kernel) (by decide +kernel)
set_option maxRecDepth 20000 in
theorem gX1_weightOf_X5_at_n29 : GoodIn wsX1_weightOf (wsX5_at) := ggX1_weightOf_X5_at
theorem dX1_weightOf_0 : decode cX1_weightOf 0 = .ok (.iload_n 1, 1) := by decide +kernel
theorem dX1_weightOf_1 : decode cX1_weightOf 1 = .ok (.aload_n 0, 1) := by decide +kernel
theorem dX1_weightOf_2 : decode cX1_weightOf 2 = .ok (.getfield 18, 3) := by decide +kernel
theorem dX1_weightOf_5 : decode cX1_weightOf 5 = .ok (.if_icmp .ge 14, 3) := by decide +kernel
theorem dX1_weightOf_8 : decode cX1_weightOf 8 = .ok (.aload_n 0, 1) := by decide +kernel
theorem dX1_weightOf_9 : decode cX1_weightOf 9 = .ok (.getfield 9, 3) := by decide +kernel
theorem dX1_weightOf_12 : decode cX1_weightOf 12 = .ok (.iload_n 1, 1) := by decide +kernel
theorem dX1_weightOf_13 : decode cX1_weightOf 13 = .ok (.invokestatic 29, 3) := by decide +kernel
theorem dX1_weightOf_16 : decode cX1_weightOf 16 = .ok (.goto 4, 3) := by decide +kernel
theorem dX1_weightOf_19 : decode cX1_weightOf 19 = .ok (.iconst (-1), 1) := by decide +kernel
theorem dX1_weightOf_20 : decode cX1_weightOf 20 = .ok (.ireturn, 1) := by decide +kernel
set_option maxRecDepth 20000 in
theorem ggX1_bankOf_X5_at : GoodIn wsX1_bankOf wsX5_at := goodIn_r _ [5] (by decide +kernel) (by decide +kernel)
set_option maxRecDepth 20000 in
theorem gX1_bankOf_X5_at_n29 : GoodIn wsX1_bankOf (wsX5_at) := ggX1_bankOf_X5_at
theorem dX1_bankOf_0 : decode cX1_bankOf 0 = .ok (.iload_n 1, 1) := by decide +kernel
theorem dX1_bankOf_1 : decode cX1_bankOf 1 = .ok (.aload_n 0, 1) := by decide +kernel
theorem dX1_bankOf_2 : decode cX1_bankOf 2 = .ok (.getfield 18, 3) := by decide +kernel
theorem dX1_bankOf_5 : decode cX1_bankOf 5 = .ok (.if_icmp .ge 14, 3) := by decide +kernel
theorem dX1_bankOf_8 : decode cX1_bankOf 8 = .ok (.aload_n 0, 1) := by decide +kernel
theorem dX1_bankOf_9 : decode cX1_bankOf 9 = .ok (.getfield 15, 3) := by decide +kernel
theorem dX1_bankOf_12 : decode cX1_bankOf 12 = .ok (.iload_n 1, 1) := by decide +kernel
theorem dX1_bankOf_13 : decode cX1_bankOf 13 = .ok (.invokestatic 29, 3) := by decide +kernel
theorem dX1_bankOf_16 : decode cX1_bankOf 16 = .ok (.goto 4, 3) := by decide +kernel
theorem dX1_bankOf_19 : decode cX1_bankOf 19 = .ok (.iconst (-1), 1) := by decide +kernel
theorem dX1_bankOf_20 : decode cX1_bankOf 20 = .ok (.ireturn, 1) := by decide +kernel
set_option maxRecDepth 20000 in
theorem ggX1_countOfBank_X5_at : GoodIn wsX1_countOfBank wsX5_at := goodIn_r _ [5] (by decide +kernel) (by decide +kernel)
set_option maxRecDepth 20000 in
theorem gX1_countOfBank_X5_at_n29 : GoodIn wsX1_countOfBank (wsX5_at) := ggX1_countOfBank_X5_at
theorem dX1_countOfBank_0 : decode cX1_countOfBank 0 = .ok (.iconst 0, 1) := by decide +kernel
theorem dX1_countOfBank_1 : decode cX1_countOfBank 1 = .ok (.istore_n 2, 1) := by decide +kernel
theorem dX1_countOfBank_2 : decode cX1_countOfBank 2 = .ok (.iconst 0, 1) := by decide +kernel
theorem dX1_countOfBank_3 : decode cX1_countOfBank 3 = .ok (.istore_n 3, 1) := by decide +kernel
theorem dX1_countOfBank_4 : decode cX1_countOfBank 4 = .ok (.iload_n 3, 1) := by decide +kernel
theorem dX1_countOfBank_5 : decode cX1_countOfBank 5 = .ok (.aload_n 0, 1) := by decide +kernel
theorem dX1_countOfBank_6 : decode cX1_countOfBank 6 = .ok (.getfield 18, 3) := by decide +kernel
theorem dX1_countOfBank_9 : decode cX1_countOfBank 9 = .ok (.if_icmp .ge 24, 3) := by decide +kernel
theorem dX1_countOfBank_12 : decode cX1_countOfBank 12 = .ok (.aload_n 0, 1) := by decide +kernel
theorem dX1_countOfBank_13 : decode cX1_countOfBank 13 = .ok (.getfield 15, 3) := by decide +kernel
theorem dX1_countOfBank_16 : decode cX1_countOfBank 16 = .ok (.iload_n 3, 1) := by decide +kernel
theorem dX1_countOfBank_17 : decode cX1_countOfBank 17 = .ok (.invokestatic 29, 3) := by decide +kernel
theorem dX1_countOfBank_20 : decode cX1_countOfBank 20 = .ok (.iload_n 1, 1) := by decide +kernel
theorem dX1_countOfBank_21 : decode cX1_countOfBank 21 = .ok (.if_icmp .ne 6, 3) := by decide +kernel
theorem dX1_countOfBank_24 : decode cX1_countOfBank 24 = .ok (.iinc 2 1, 3) := by decide +kernel
theorem dX1_countOfBank_27 : decode cX1_countOfBank 27 = .ok (.iinc 3 1, 3) := by decide +kernel
theorem dX1_countOfBank_30 : decode cX1_countOfBank 30 = .ok (.goto (-26), 3) := by decide +kernel
theorem dX1_countOfBank_33 : decode cX1_countOfBank 33 = .ok (.iload_n 2, 1) := by decide +kernel
theorem dX1_countOfBank_34 : decode cX1_countOfBank 34 = .ok (.ireturn, 1) := by decide +kernel
set_option maxRecDepth 20000 in
theorem ggX1_add_X1_isFull : GoodIn wsX1_add wsX1_isFull := goodIn_r _ [9, 2, 1, 13, 14, 15, 16] (by decide +kernel) (by decide +kernel)
set_option maxRecDepth 20000 in
theorem gX1_add_X1_isFull : GoodIn wsX1_add (wsV RX1 33 RX1 yX1_isFull wsX1_isFull) := goodIn_app (goodIn_of _ (by decide +kernel)) ggX1_add_X1_isFull
set_option maxRecDepth 20000 in
theorem ggX1_add_X5_put : GoodIn wsX1_add wsX5_put := goodIn_r _ [12] (by decide +kernel) (by decide +kernel)
set_option maxRecDepth 20000 in
theorem gX1_add_X5_put_n37 : GoodIn wsX1_add (wsX5_put) := ggX1_add_X5_put
theorem dX1_add_0 : decode cX1_add 0 = .ok (.aload_n 0, 1) := by decide +kernel
theorem dX1_add_1 : decode cX1_add 1 = .ok (.invokevirtual 33, 3) := by decide +kernel
theorem dX1_add_4 : decode cX1_add 4 = .ok (.ifCond .eq 4, 3) := by decide +kernel
theorem dX1_add_7 : decode cX1_add 7 = .ok (.return_, 1) := by decide +kernel
theorem dX1_add_8 : decode cX1_add 8 = .ok (.aload_n 0, 1) := by decide +kernel
theorem dX1_add_9 : decode cX1_add 9 = .ok (.getfield 9, 3) := by decide +kernel
theorem dX1_add_12 : decode cX1_add 12 = .ok (.aload_n 0, 1) := by decide +kernel
theorem dX1_add_13 : decode cX1_add 13 = .ok (.getfield 18, 3) := by decide +kernel
theorem dX1_add_16 : decode cX1_add 16 = .ok (.iload_n 1, 1) := by decide +kernel
theorem dX1_add_17 : decode cX1_add 17 = .ok (.invokestatic 37, 3) := by decide +kernel
theorem dX1_add_20 : decode cX1_add 20 = .ok (.aload_n 0, 1) := by decide +kernel
theorem dX1_add_21 : decode cX1_add 21 = .ok (.getfield 15, 3) := by decide +kernel
theorem dX1_add_24 : decode cX1_add 24 = .ok (.aload_n 0, 1) := by decide +kernel
theorem dX1_add_25 : decode cX1_add 25 = .ok (.getfield 18, 3) := by decide +kernel
theorem dX1_add_28 : decode cX1_add 28 = .ok (.iload_n 2, 1) := by decide +kernel
theorem dX1_add_29 : decode cX1_add 29 = .ok (.invokestatic 37, 3) := by decide +kernel
theorem dX1_add_32 : decode cX1_add 32 = .ok (.aload_n 0, 1) := by decide +kernel
theorem dX1_add_33 : decode cX1_add 33 = .ok (.dup, 1) := by decide +kernel
theorem dX1_add_34 : decode cX1_add 34 = .ok (.getfield 18, 3) := by decide +kernel
theorem dX1_add_37 : decode cX1_add 37 = .ok (.iconst 1, 1) := by decide +kernel
theorem dX1_add_38 : decode cX1_add 38 = .ok (.iadd, 1) := by decide +kernel
theorem dX1_add_39 : decode cX1_add 39 = .ok (.putfield 18, 3) := by decide +kernel
theorem dX1_add_42 : decode cX1_add 42 = .ok (.aload_n 0, 1) := by decide +kernel
theorem dX1_add_43 : decode cX1_add 43 = .ok (.dup, 1) := by decide +kernel
theorem dX1_add_44 : decode cX1_add 44 = .ok (.getfield 22, 3) := by decide +kernel
theorem dX1_add_47 : decode cX1_add 47 = .ok (.iload_n 1, 1) := by decide +kernel
theorem dX1_add_48 : decode cX1_add 48 = .ok (.iadd, 1) := by decide +kernel
theorem dX1_add_49 : decode cX1_add 49 = .ok (.putfield 22, 3) := by decide +kernel
theorem dX1_add_52 : decode cX1_add 52 = .ok (.return_, 1) := by decide +kernel
set_option maxRecDepth 20000 in
theorem ggX1_removeFirst_X5_at : GoodIn wsX1_removeFirst wsX5_at := goodIn_r _ [7] (by decide +kernel) (by decide +kernel)
set_option maxRecDepth 20000 in
theorem gX1_removeFirst_X5_at_n29 : GoodIn wsX1_removeFirst (wsX5_at) := ggX1_removeFirst_X5_at
set_option maxRecDepth 20000 in
theorem ggX1_removeFirst_X5_put : GoodIn wsX1_removeFirst wsX5_put := goodIn_r _ [9] (by decide +kernel) (by decide +kernel)
set_option maxRecDepth 20000 in
theorem gX1_removeFirst_X5_put_n37 : GoodIn wsX1_removeFirst (wsX5_put) := ggX1_removeFirst_X5_put
theorem dX1_removeFirst_0 : decode cX1_removeFirst 0 = .ok (.aload_n 0, 1) := by decide +kernel
theorem dX1_removeFirst_1 : decode cX1_removeFirst 1 = .ok (.getfield 18, 3) := by decide +kernel
theorem dX1_removeFirst_4 : decode cX1_removeFirst 4 = .ok (.ifCond .ne 4, 3) := by decide +kernel
theorem dX1_removeFirst_7 : decode cX1_removeFirst 7 = .ok (.return_, 1) := by decide +kernel
theorem dX1_removeFirst_8 : decode cX1_removeFirst 8 = .ok (.aload_n 0, 1) := by decide +kernel
theorem dX1_removeFirst_9 : decode cX1_removeFirst 9 = .ok (.dup, 1) := by decide +kernel
theorem dX1_removeFirst_10 : decode cX1_removeFirst 10 = .ok (.getfield 22, 3) := by decide +kernel
theorem dX1_removeFirst_13 : decode cX1_removeFirst 13 = .ok (.aload_n 0, 1) := by decide +kernel
theorem dX1_removeFirst_14 : decode cX1_removeFirst 14 = .ok (.getfield 9, 3) := by decide +kernel
theorem dX1_removeFirst_17 : decode cX1_removeFirst 17 = .ok (.iconst 0, 1) := by decide +kernel
theorem dX1_removeFirst_18 : decode cX1_removeFirst 18 = .ok (.invokestatic 29, 3) := by decide +kernel
theorem dX1_removeFirst_21 : decode cX1_removeFirst 21 = .ok (.isub, 1) := by decide +kernel
theorem dX1_removeFirst_22 : decode cX1_removeFirst 22 = .ok (.putfield 22, 3) := by decide +kernel
theorem dX1_removeFirst_25 : decode cX1_removeFirst 25 = .ok (.iconst 1, 1) := by decide +kernel
theorem dX1_removeFirst_26 : decode cX1_removeFirst 26 = .ok (.istore_n 1, 1) := by decide +kernel
theorem dX1_removeFirst_27 : decode cX1_removeFirst 27 = .ok (.iload_n 1, 1) := by decide +kernel
theorem dX1_removeFirst_28 : decode cX1_removeFirst 28 = .ok (.aload_n 0, 1) := by decide +kernel
theorem dX1_removeFirst_29 : decode cX1_removeFirst 29 = .ok (.getfield 18, 3) := by decide +kernel
theorem dX1_removeFirst_32 : decode cX1_removeFirst 32 = .ok (.if_icmp .ge 45, 3) := by decide +kernel
theorem dX1_removeFirst_35 : decode cX1_removeFirst 35 = .ok (.aload_n 0, 1) := by decide +kernel
theorem dX1_removeFirst_36 : decode cX1_removeFirst 36 = .ok (.getfield 9, 3) := by decide +kernel
theorem dX1_removeFirst_39 : decode cX1_removeFirst 39 = .ok (.iload_n 1, 1) := by decide +kernel
theorem dX1_removeFirst_40 : decode cX1_removeFirst 40 = .ok (.iconst 1, 1) := by decide +kernel
theorem dX1_removeFirst_41 : decode cX1_removeFirst 41 = .ok (.isub, 1) := by decide +kernel
theorem dX1_removeFirst_42 : decode cX1_removeFirst 42 = .ok (.aload_n 0, 1) := by decide +kernel
theorem dX1_removeFirst_43 : decode cX1_removeFirst 43 = .ok (.getfield 9, 3) := by decide +kernel
theorem dX1_removeFirst_46 : decode cX1_removeFirst 46 = .ok (.iload_n 1, 1) := by decide +kernel
theorem dX1_removeFirst_47 : decode cX1_removeFirst 47 = .ok (.invokestatic 29, 3) := by decide +kernel
theorem dX1_removeFirst_50 : decode cX1_removeFirst 50 = .ok (.invokestatic 37, 3) := by decide +kernel
theorem dX1_removeFirst_53 : decode cX1_removeFirst 53 = .ok (.aload_n 0, 1) := by decide +kernel
theorem dX1_removeFirst_54 : decode cX1_removeFirst 54 = .ok (.getfield 15, 3) := by decide +kernel
theorem dX1_removeFirst_57 : decode cX1_removeFirst 57 = .ok (.iload_n 1, 1) := by decide +kernel
theorem dX1_removeFirst_58 : decode cX1_removeFirst 58 = .ok (.iconst 1, 1) := by decide +kernel
theorem dX1_removeFirst_59 : decode cX1_removeFirst 59 = .ok (.isub, 1) := by decide +kernel
theorem dX1_removeFirst_60 : decode cX1_removeFirst 60 = .ok (.aload_n 0, 1) := by decide +kernel
theorem dX1_removeFirst_61 : decode cX1_removeFirst 61 = .ok (.getfield 15, 3) := by decide +kernel
theorem dX1_removeFirst_64 : decode cX1_removeFirst 64 = .ok (.iload_n 1, 1) := by decide +kernel
theorem dX1_removeFirst_65 : decode cX1_removeFirst 65 = .ok (.invokestatic 29, 3) := by decide +kernel
theorem dX1_removeFirst_68 : decode cX1_removeFirst 68 = .ok (.invokestatic 37, 3) := by decide +kernel
theorem dX1_removeFirst_71 : decode cX1_removeFirst 71 = .ok (.iinc 1 1, 3) := by decide +kernel
theorem dX1_removeFirst_74 : decode cX1_removeFirst 74 = .ok (.goto (-47), 3) := by decide +kernel
theorem dX1_removeFirst_77 : decode cX1_removeFirst 77 = .ok (.aload_n 0, 1) := by decide +kernel
theorem dX1_removeFirst_78 : decode cX1_removeFirst 78 = .ok (.dup, 1) := by decide +kernel
theorem dX1_removeFirst_79 : decode cX1_removeFirst 79 = .ok (.getfield 18, 3) := by decide +kernel
theorem dX1_removeFirst_82 : decode cX1_removeFirst 82 = .ok (.iconst 1, 1) := by decide +kernel
theorem dX1_removeFirst_83 : decode cX1_removeFirst 83 = .ok (.isub, 1) := by decide +kernel
theorem dX1_removeFirst_84 : decode cX1_removeFirst 84 = .ok (.putfield 18, 3) := by decide +kernel
theorem dX1_removeFirst_87 : decode cX1_removeFirst 87 = .ok (.return_, 1) := by decide +kernel
theorem dX1_clear_0 : decode cX1_clear 0 = .ok (.aload_n 0, 1) := by decide +kernel
theorem dX1_clear_1 : decode cX1_clear 1 = .ok (.iconst 0, 1) := by decide +kernel
theorem dX1_clear_2 : decode cX1_clear 2 = .ok (.putfield 18, 3) := by decide +kernel
theorem dX1_clear_5 : decode cX1_clear 5 = .ok (.aload_n 0, 1) := by decide +kernel
theorem dX1_clear_6 : decode cX1_clear 6 = .ok (.iconst 0, 1) := by decide +kernel
theorem dX1_clear_7 : decode cX1_clear 7 = .ok (.putfield 22, 3) := by decide +kernel
theorem dX1_clear_10 : decode cX1_clear 10 = .ok (.return_, 1) := by decide +kernel
theorem dX2_init_0 : decode cX2_init 0 = .ok (.aload_n 0, 1) := by decide +kernel
theorem dX2_init_1 : decode cX2_init 1 = .ok (.invokespecial 3, 3) := by decide +kernel
theorem dX2_init_4 : decode cX2_init 4 = .ok (.aload_n 0, 1) := by decide +kernel
theorem dX2_init_5 : decode cX2_init 5 = .ok (.bipush 60, 2) := by decide +kernel
theorem dX2_init_7 : decode cX2_init 7 = .ok (.newarray .int, 2) := by decide +kernel
theorem dX2_init_9 : decode cX2_init 9 = .ok (.putfield 9, 3) := by decide +kernel
theorem dX2_init_12 : decode cX2_init 12 = .ok (.aload_n 0, 1) := by decide +kernel
theorem dX2_init_13 : decode cX2_init 13 = .ok (.iconst 0, 1) := by decide +kernel
theorem dX2_init_14 : decode cX2_init 14 = .ok (.putfield 15, 3) := by decide +kernel
theorem dX2_init_17 : decode cX2_init 17 = .ok (.aload_n 0, 1) := by decide +kernel
theorem dX2_init_18 : decode cX2_init 18 = .ok (.iconst 0, 1) := by decide +kernel
theorem dX2_init_19 : decode cX2_init 19 = .ok (.putfield 19, 3) := by decide +kernel
theorem dX2_init_22 : decode cX2_init 22 = .ok (.aload_n 0, 1) := by decide +kernel
theorem dX2_init_23 : decode cX2_init 23 = .ok (.iconst 0, 1) := by decide +kernel
theorem dX2_init_24 : decode cX2_init 24 = .ok (.putfield 22, 3) := by decide +kernel
theorem dX2_init_27 : decode cX2_init 27 = .ok (.return_, 1) := by decide +kernel
theorem dX2_length_0 : decode cX2_length 0 = .ok (.aload_n 0, 1) := by decide +kernel
theorem dX2_length_1 : decode cX2_length 1 = .ok (.getfield 15, 3) := by decide +kernel
theorem dX2_length_4 : decode cX2_length 4 = .ok (.ireturn, 1) := by decide +kernel
set_option maxRecDepth 20000 in
theorem ggX2_codeAt_X5_at : GoodIn wsX2_codeAt wsX5_at := goodIn_r _ [5] (by decide +kernel) (by decide +kernel)
set_option maxRecDepth 20000 in
theorem gX2_codeAt_X5_at_n25 : GoodIn wsX2_codeAt (wsX5_at) := ggX2_codeAt_X5_at
theorem dX2_codeAt_0 : decode cX2_codeAt 0 = .ok (.iload_n 1, 1) := by decide +kernel
theorem dX2_codeAt_1 : decode cX2_codeAt 1 = .ok (.aload_n 0, 1) := by decide +kernel
theorem dX2_codeAt_2 : decode cX2_codeAt 2 = .ok (.getfield 15, 3) := by decide +kernel
theorem dX2_codeAt_5 : decode cX2_codeAt 5 = .ok (.if_icmp .ge 14, 3) := by decide +kernel
theorem dX2_codeAt_8 : decode cX2_codeAt 8 = .ok (.aload_n 0, 1) := by decide +kernel
theorem dX2_codeAt_9 : decode cX2_codeAt 9 = .ok (.getfield 9, 3) := by decide +kernel
theorem dX2_codeAt_12 : decode cX2_codeAt 12 = .ok (.iload_n 1, 1) := by decide +kernel
theorem dX2_codeAt_13 : decode cX2_codeAt 13 = .ok (.invokestatic 25, 3) := by decide +kernel
theorem dX2_codeAt_16 : decode cX2_codeAt 16 = .ok (.goto 4, 3) := by decide +kernel
theorem dX2_codeAt_19 : decode cX2_codeAt 19 = .ok (.iconst (-1), 1) := by decide +kernel
theorem dX2_codeAt_20 : decode cX2_codeAt 20 = .ok (.ireturn, 1) := by decide +kernel
set_option maxRecDepth 20000 in
theorem ggX2_add_X5_put : GoodIn wsX2_add wsX5_put := goodIn_r _ [7] (by decide +kernel) (by decide +kernel)
set_option maxRecDepth 20000 in
theorem gX2_add_X5_put_n29 : GoodIn wsX2_add (wsX5_put) := ggX2_add_X5_put
set_option maxRecDepth 20000 in
theorem ggX2_add_X2_endBehind : GoodIn wsX2_add wsX2_endBehind := goodIn_r _ [11, 12, 13, 10, 14, 15, 6, 16, 17, 18, 19, 20, 21, 22] (by decide +kernel) (by decide +kernel)
set_option maxRecDepth 20000 in
theorem gX2_add_X2_endBehind : GoodIn wsX2_add (va_wsS RX2 33 yX2_endBehind wsX2_endBehind) := goodIn_app (goodIn_of _ (by decide +kernel)) ggX2_add_X2_endBehind
theorem dX2_add_0 : decode cX2_add 0 = .ok (.aload_n 0, 1) := by decide +kernel
theorem dX2_add_1 : decode cX2_add 1 = .ok (.getfield 9, 3) := by decide +kernel
theorem dX2_add_4 : decode cX2_add 4 = .ok (.aload_n 0, 1) := by decide +kernel
theorem dX2_add_5 : decode cX2_add 5 = .ok (.getfield 15, 3) := by decide +kernel
theorem dX2_add_8 : decode cX2_add 8 = .ok (.iload_n 1, 1) := by decide +kernel
theorem dX2_add_9 : decode cX2_add 9 = .ok (.invokestatic 29, 3) := by decide +kernel
theorem dX2_add_12 : decode cX2_add 12 = .ok (.aload_n 0, 1) := by decide +kernel
theorem dX2_add_13 : decode cX2_add 13 = .ok (.dup, 1) := by decide +kernel
theorem dX2_add_14 : decode cX2_add 14 = .ok (.getfield 15, 3) := by decide +kernel
theorem dX2_add_17 : decode cX2_add 17 = .ok (.iconst 1, 1) := by decide +kernel
theorem dX2_add_18 : decode cX2_add 18 = .ok (.iadd, 1) := by decide +kernel
theorem dX2_add_19 : decode cX2_add 19 = .ok (.putfield 15, 3) := by decide +kernel
theorem dX2_add_22 : decode cX2_add 22 = .ok (.aload_n 0, 1) := by decide +kernel
theorem dX2_add_23 : decode cX2_add 23 = .ok (.aload_n 0, 1) := by decide +kernel
theorem dX2_add_24 : decode cX2_add 24 = .ok (.getfield 22, 3) := by decide +kernel
theorem dX2_add_27 : decode cX2_add 27 = .ok (.iload_n 1, 1) := by decide +kernel
theorem dX2_add_28 : decode cX2_add 28 = .ok (.invokestatic 33, 3) := by decide +kernel
theorem dX2_add_31 : decode cX2_add 31 = .ok (.putfield 22, 3) := by decide +kernel
theorem dX2_add_34 : decode cX2_add 34 = .ok (.aload_n 0, 1) := by decide +kernel
theorem dX2_add_35 : decode cX2_add 35 = .ok (.getfield 22, 3) := by decide +kernel
theorem dX2_add_38 : decode cX2_add 38 = .ok (.iconst (-1), 1) := by decide +kernel
theorem dX2_add_39 : decode cX2_add 39 = .ok (.if_icmp .eq 13, 3) := by decide +kernel
theorem dX2_add_42 : decode cX2_add 42 = .ok (.aload_n 0, 1) := by decide +kernel
theorem dX2_add_43 : decode cX2_add 43 = .ok (.dup, 1) := by decide +kernel
theorem dX2_add_44 : decode cX2_add 44 = .ok (.getfield 19, 3) := by decide +kernel
theorem dX2_add_47 : decode cX2_add 47 = .ok (.iconst 1, 1) := by decide +kernel
theorem dX2_add_48 : decode cX2_add 48 = .ok (.iadd, 1) := by decide +kernel
theorem dX2_add_49 : decode cX2_add 49 = .ok (.putfield 19, 3) := by decide +kernel
theorem dX2_add_52 : decode cX2_add 52 = .ok (.return_, 1) := by decide +kernel
theorem dX2_clear_0 : decode cX2_clear 0 = .ok (.aload_n 0, 1) := by decide +kernel
theorem dX2_clear_1 : decode cX2_clear 1 = .ok (.iconst 0, 1) := by decide +kernel
theorem dX2_clear_2 : decode cX2_clear 2 = .ok (.putfield 15, 3) := by decide +kernel
theorem dX2_clear_5 : decode cX2_clear 5 = .ok (.aload_n 0, 1) := by decide +kernel
theorem dX2_clear_6 : decode cX2_clear 6 = .ok (.iconst 0, 1) := by decide +kernel
theorem dX2_clear_7 : decode cX2_clear 7 = .ok (.putfield 19, 3) := by decide +kernel
theorem dX2_clear_10 : decode cX2_clear 10 = .ok (.aload_n 0, 1) := by decide +kernel
theorem dX2_clear_11 : decode cX2_clear 11 = .ok (.iconst 0, 1) := by decide +kernel
theorem dX2_clear_12 : decode cX2_clear 12 = .ok (.putfield 22, 3) := by decide +kernel
theorem dX2_clear_15 : decode cX2_clear 15 = .ok (.return_, 1) := by decide +kernel
theorem dX2_firstWrong_0 : decode cX2_firstWrong 0 = .ok (.aload_n 0, 1) := by decide +kernel
theorem dX2_firstWrong_1 : decode cX2_firstWrong 1 = .ok (.getfield 19, 3) := by decide +kernel
theorem dX2_firstWrong_4 : decode cX2_firstWrong 4 = .ok (.ireturn, 1) := by decide +kernel
theorem dX2_areComplete_0 : decode cX2_areComplete 0 = .ok (.aload_n 0, 1) := by decide +kernel
theorem dX2_areComplete_1 : decode cX2_areComplete 1 = .ok (.getfield 22, 3) := by decide +kernel
theorem dX2_areComplete_4 : decode cX2_areComplete 4 = .ok (.bipush 7, 2) := by decide +kernel
theorem dX2_areComplete_6 : decode cX2_areComplete 6 = .ok (.if_icmp .lt 7, 3) := by decide +kernel
theorem dX2_areComplete_9 : decode cX2_areComplete 9 = .ok (.iconst 1, 1) := by decide +kernel
theorem dX2_areComplete_10 : decode cX2_areComplete 10 = .ok (.goto 4, 3) := by decide +kernel
theorem dX2_areComplete_13 : decode cX2_areComplete 13 = .ok (.iconst 0, 1) := by decide +kernel
theorem dX2_areComplete_14 : decode cX2_areComplete 14 = .ok (.ireturn, 1) := by decide +kernel
set_option maxRecDepth 20000 in
theorem ggX2_isStartOfPart_X2_codeAt : GoodIn wsX2_isStartOfPart wsX2_codeAt := goodIn_r _ [5, 6, 7, 8, 9, 10, 11, 12, 13, 14] (by decide +kernel) (by decide +kernel)
set_option maxRecDepth 20000 in
theorem gX2_isStartOfPart_X2_codeAt : GoodIn wsX2_isStartOfPart (wsV RX2 37 RX2 yX2_codeAt wsX2_codeAt) := goodIn_app (goodIn_of _ (by decide +kernel)) ggX2_isStartOfPart_X2_codeAt
theorem dX2_isStartOfPart_0 : decode cX2_isStartOfPart 0 = .ok (.iload_n 1, 1) := by decide +kernel
theorem dX2_isStartOfPart_1 : decode cX2_isStartOfPart 1 = .ok (.ifCond .eq 15, 3) := by decide +kernel
theorem dX2_isStartOfPart_4 : decode cX2_isStartOfPart 4 = .ok (.aload_n 0, 1) := by decide +kernel
theorem dX2_isStartOfPart_5 : decode cX2_isStartOfPart 5 = .ok (.iload_n 1, 1) := by decide +kernel
theorem dX2_isStartOfPart_6 : decode cX2_isStartOfPart 6 = .ok (.iconst 1, 1) := by decide +kernel
theorem dX2_isStartOfPart_7 : decode cX2_isStartOfPart 7 = .ok (.isub, 1) := by decide +kernel
theorem dX2_isStartOfPart_8 : decode cX2_isStartOfPart 8 = .ok (.invokevirtual 37, 3) := by decide +kernel
theorem dX2_isStartOfPart_11 : decode cX2_isStartOfPart 11 = .ok (.bipush 59, 2) := by decide +kernel
theorem dX2_isStartOfPart_13 : decode cX2_isStartOfPart 13 = .ok (.if_icmp .ne 7, 3) := by decide +kernel
theorem dX2_isStartOfPart_16 : decode cX2_isStartOfPart 16 = .ok (.iconst 1, 1) := by decide +kernel
theorem dX2_isStartOfPart_17 : decode cX2_isStartOfPart 17 = .ok (.goto 4, 3) := by decide +kernel
theorem dX2_isStartOfPart_20 : decode cX2_isStartOfPart 20 = .ok (.iconst 0, 1) := by decide +kernel
theorem dX2_isStartOfPart_21 : decode cX2_isStartOfPart 21 = .ok (.ireturn, 1) := by decide +kernel
set_option maxRecDepth 20000 in
theorem ggX2_numberAt_X2_codeAt : GoodIn wsX2_numberAt wsX2_codeAt := goodIn_r _ [6, 1, 7, 8, 9, 10, 13, 14, 15, 16] (by decide +kernel) (by decide +kernel)
set_option maxRecDepth 20000 in
theorem gX2_numberAt_X2_codeAt : GoodIn wsX2_numberAt (wsV RX2 37 RX2 yX2_codeAt wsX2_codeAt) := goodIn_app (goodIn_of _ (by decide +kernel)) ggX2_numberAt_X2_codeAt
set_option maxRecDepth 20000 in
theorem ggX2_numberAt_X5_isWithin : GoodIn wsX2_numberAt wsX5_isWithin := goodIn_r _ [12] (by decide +kernel) (by decide +kernel)
set_option maxRecDepth 20000 in
theorem gX2_numberAt_X5_isWithin_n41 : GoodIn wsX2_numberAt (wsX5_isWithin) := ggX2_numberAt_X5_isWithin
theorem dX2_numberAt_0 : decode cX2_numberAt 0 = .ok (.iconst 0, 1) := by decide +kernel
theorem dX2_numberAt_1 : decode cX2_numberAt 1 = .ok (.istore_n 2, 1) := by decide +kernel
theorem dX2_numberAt_2 : decode cX2_numberAt 2 = .ok (.iload_n 1, 1) := by decide +kernel
theorem dX2_numberAt_3 : decode cX2_numberAt 3 = .ok (.istore_n 3, 1) := by decide +kernel
theorem dX2_numberAt_4 : decode cX2_numberAt 4 = .ok (.iload_n 3, 1) := by decide +kernel
theorem dX2_numberAt_5 : decode cX2_numberAt 5 = .ok (.aload_n 0, 1) := by decide +kernel
theorem dX2_numberAt_6 : decode cX2_numberAt 6 = .ok (.getfield 15, 3) := by decide +kernel
theorem dX2_numberAt_9 : decode cX2_numberAt 9 = .ok (.if_icmp .ge 38, 3) := by decide +kernel
theorem dX2_numberAt_12 : decode cX2_numberAt 12 = .ok (.aload_n 0, 1) := by decide +kernel
theorem dX2_numberAt_13 : decode cX2_numberAt 13 = .ok (.iload_n 3, 1) := by decide +kernel
theorem dX2_numberAt_14 : decode cX2_numberAt 14 = .ok (.invokevirtual 37, 3) := by decide +kernel
theorem dX2_numberAt_17 : decode cX2_numberAt 17 = .ok (.bipush 48, 2) := by decide +kernel
theorem dX2_numberAt_19 : decode cX2_numberAt 19 = .ok (.bipush 57, 2) := by decide +kernel
theorem dX2_numberAt_21 : decode cX2_numberAt 21 = .ok (.invokestatic 41, 3) := by decide +kernel
theorem dX2_numberAt_24 : decode cX2_numberAt 24 = .ok (.ifCond .eq 23, 3) := by decide +kernel
theorem dX2_numberAt_27 : decode cX2_numberAt 27 = .ok (.bipush 10, 2) := by decide +kernel
theorem dX2_numberAt_29 : decode cX2_numberAt 29 = .ok (.iload_n 2, 1) := by decide +kernel
theorem dX2_numberAt_30 : decode cX2_numberAt 30 = .ok (.imul, 1) := by decide +kernel
theorem dX2_numberAt_31 : decode cX2_numberAt 31 = .ok (.aload_n 0, 1) := by decide +kernel
theorem dX2_numberAt_32 : decode cX2_numberAt 32 = .ok (.iload_n 3, 1) := by decide +kernel
theorem dX2_numberAt_33 : decode cX2_numberAt 33 = .ok (.invokevirtual 37, 3) := by decide +kernel
theorem dX2_numberAt_36 : decode cX2_numberAt 36 = .ok (.iadd, 1) := by decide +kernel
theorem dX2_numberAt_37 : decode cX2_numberAt 37 = .ok (.bipush 48, 2) := by decide +kernel
theorem dX2_numberAt_39 : decode cX2_numberAt 39 = .ok (.isub, 1) := by decide +kernel
theorem dX2_numberAt_40 : decode cX2_numberAt 40 = .ok (.istore_n 2, 1) := by decide +kernel
theorem dX2_numberAt_41 : decode cX2_numberAt 41 = .ok (.iinc 3 1, 3) := by decide +kernel
theorem dX2_numberAt_44 : decode cX2_numberAt 44 = .ok (.goto (-40), 3) := by decide +kernel
theorem dX2_numberAt_47 : decode cX2_numberAt 47 = .ok (.iload_n 2, 1) := by decide +kernel
theorem dX2_numberAt_48 : decode cX2_numberAt 48 = .ok (.ireturn, 1) := by decide +kernel
set_option maxRecDepth 20000 in
theorem ggX2_endBehind_X2_endBehindKind : GoodIn wsX2_endBehind wsX2_endBehindKind := goodIn_r _ [4] (by decide +kernel) (by decide +kernel)
set_option maxRecDepth 20000 in
theorem gX2_endBehind_X2_endBehindKind : GoodIn wsX2_endBehind (va_wsS RX2 45 yX2_endBehindKind wsX2_endBehindKind) := goodIn_app (goodIn_of _ (by decide +kernel)) ggX2_endBehind_X2_endBehindKind
set_option maxRecDepth 20000 in
theorem ggX2_endBehind_X5_isWithin : GoodIn wsX2_endBehind wsX5_isWithin := goodIn_r _ [7] (by decide +kernel) (by decide +kernel)
set_option maxRecDepth 20000 in
theorem gX2_endBehind_X5_isWithin_n41 : GoodIn wsX2_endBehind (wsX5_isWithin) := ggX2_endBehind_X5_isWithin
set_option maxRecDepth 20000 in
theorem ggX2_endBehind_X2_endBehindFirstDigit : GoodIn wsX2_endBehind wsX2_endBehindFirstDigit := goodIn_r _ [10, 5, 6, 7] (by decide +kernel) (by decide +kernel)
set_option maxRecDepth 20000 in
theorem gX2_endBehind_X2_endBehindFirstDigit : GoodIn wsX2_endBehind (va_wsS RX2 48 yX2_endBehindFirstDigit wsX2_endBehindFirstDigit) := goodIn_app (goodIn_of _ (by decide +kernel)) ggX2_endBehind_X2_endBehindFirstDigit
set_option maxRecDepth 20000 in
theorem ggX2_endBehind_X2_endBehindSecondDigit : GoodIn wsX2_endBehind wsX2_endBehindSecondDigit := goodIn_r _ [13, 5, 6, 7] (by decide +kernel) (by decide +kernel)
set_option maxRecDepth 20000 in
theorem gX2_endBehind_X2_endBehindSecondDigit : GoodIn wsX2_endBehind (va_wsS RX2 51 yX2_endBehindSecondDigit wsX2_endBehindSecondDigit) := goodIn_app (goodIn_of _ (by decide +kernel)) ggX2_endBehind_X2_endBehindSecondDigit
theorem dX2_endBehind_0 : decode cX2_endBehind 0 = .ok (.iload_n 0, 1) := by decide +kernel
theorem dX2_endBehind_1 : decode cX2_endBehind 1 = .ok (.tableswitch 166 (-1) 9 #[59, 61, 66, 83, 95, 102, 120, 127, 145, 152, 159], 59) := by decide +kernel
theorem dX2_endBehind_60 : decode cX2_endBehind 60 = .ok (.iconst (-1), 1) := by decide +kernel
theorem dX2_endBehind_61 : decode cX2_endBehind 61 = .ok (.ireturn, 1) := by decide +kernel
theorem dX2_endBehind_62 : decode cX2_endBehind 62 = .ok (.iload_n 1, 1) := by decide +kernel
theorem dX2_endBehind_63 : decode cX2_endBehind 63 = .ok (.invokestatic 45, 3) := by decide +kernel
theorem dX2_endBehind_66 : decode cX2_endBehind 66 = .ok (.ireturn, 1) := by decide +kernel
theorem dX2_endBehind_67 : decode cX2_endBehind 67 = .ok (.iload_n 1, 1) := by decide +kernel
theorem dX2_endBehind_68 : decode cX2_endBehind 68 = .ok (.bipush 48, 2) := by decide +kernel
theorem dX2_endBehind_70 : decode cX2_endBehind 70 = .ok (.bipush 49, 2) := by decide +kernel
theorem dX2_endBehind_72 : decode cX2_endBehind 72 = .ok (.invokestatic 41, 3) := by decide +kernel
theorem dX2_endBehind_75 : decode cX2_endBehind 75 = .ok (.ifCond .eq 7, 3) := by decide +kernel
theorem dX2_endBehind_78 : decode cX2_endBehind 78 = .ok (.iconst 2, 1) := by decide +kernel
theorem dX2_endBehind_79 : decode cX2_endBehind 79 = .ok (.goto 4, 3) := by decide +kernel
theorem dX2_endBehind_82 : decode cX2_endBehind 82 = .ok (.iconst (-1), 1) := by decide +kernel
theorem dX2_endBehind_83 : decode cX2_endBehind 83 = .ok (.ireturn, 1) := by decide +kernel
theorem dX2_endBehind_84 : decode cX2_endBehind 84 = .ok (.iload_n 1, 1) := by decide +kernel
theorem dX2_endBehind_85 : decode cX2_endBehind 85 = .ok (.bipush 58, 2) := by decide +kernel
theorem dX2_endBehind_87 : decode cX2_endBehind 87 = .ok (.if_icmp .ne 7, 3) := by decide +kernel
theorem dX2_endBehind_90 : decode cX2_endBehind 90 = .ok (.iconst 3, 1) := by decide +kernel
theorem dX2_endBehind_91 : decode cX2_endBehind 91 = .ok (.goto 4, 3) := by decide +kernel
theorem dX2_endBehind_94 : decode cX2_endBehind 94 = .ok (.iconst (-1), 1) := by decide +kernel
theorem dX2_endBehind_95 : decode cX2_endBehind 95 = .ok (.ireturn, 1) := by decide +kernel
theorem dX2_endBehind_96 : decode cX2_endBehind 96 = .ok (.iload_n 1, 1) := by decide +kernel
theorem dX2_endBehind_97 : decode cX2_endBehind 97 = .ok (.bipush 8, 2) := by decide +kernel
theorem dX2_endBehind_99 : decode cX2_endBehind 99 = .ok (.invokestatic 48, 3) := by decide +kernel
theorem dX2_endBehind_102 : decode cX2_endBehind 102 = .ok (.ireturn, 1) := by decide +kernel
theorem dX2_endBehind_103 : decode cX2_endBehind 103 = .ok (.iload_n 1, 1) := by decide +kernel
theorem dX2_endBehind_104 : decode cX2_endBehind 104 = .ok (.bipush 48, 2) := by decide +kernel
theorem dX2_endBehind_106 : decode cX2_endBehind 106 = .ok (.bipush 49, 2) := by decide +kernel
theorem dX2_endBehind_108 : decode cX2_endBehind 108 = .ok (.invokestatic 41, 3) := by decide +kernel
theorem dX2_endBehind_111 : decode cX2_endBehind 111 = .ok (.ifCond .eq 8, 3) := by decide +kernel
theorem dX2_endBehind_114 : decode cX2_endBehind 114 = .ok (.bipush 10, 2) := by decide +kernel
theorem dX2_endBehind_116 : decode cX2_endBehind 116 = .ok (.goto 4, 3) := by decide +kernel
theorem dX2_endBehind_119 : decode cX2_endBehind 119 = .ok (.iconst (-1), 1) := by decide +kernel
theorem dX2_endBehind_120 : decode cX2_endBehind 120 = .ok (.ireturn, 1) := by decide +kernel
theorem dX2_endBehind_121 : decode cX2_endBehind 121 = .ok (.iload_n 1, 1) := by decide +kernel
theorem dX2_endBehind_122 : decode cX2_endBehind 122 = .ok (.bipush 9, 2) := by decide +kernel
theorem dX2_endBehind_124 : decode cX2_endBehind 124 = .ok (.invokestatic 48, 3) := by decide +kernel
theorem dX2_endBehind_127 : decode cX2_endBehind 127 = .ok (.ireturn, 1) := by decide +kernel
theorem dX2_endBehind_128 : decode cX2_endBehind 128 = .ok (.iload_n 1, 1) := by decide +kernel
theorem dX2_endBehind_129 : decode cX2_endBehind 129 = .ok (.bipush 49, 2) := by decide +kernel
theorem dX2_endBehind_131 : decode cX2_endBehind 131 = .ok (.bipush 53, 2) := by decide +kernel
theorem dX2_endBehind_133 : decode cX2_endBehind 133 = .ok (.invokestatic 41, 3) := by decide +kernel
theorem dX2_endBehind_136 : decode cX2_endBehind 136 = .ok (.ifCond .eq 8, 3) := by decide +kernel
theorem dX2_endBehind_139 : decode cX2_endBehind 139 = .ok (.bipush 10, 2) := by decide +kernel
theorem dX2_endBehind_141 : decode cX2_endBehind 141 = .ok (.goto 4, 3) := by decide +kernel
theorem dX2_endBehind_144 : decode cX2_endBehind 144 = .ok (.iconst (-1), 1) := by decide +kernel
theorem dX2_endBehind_145 : decode cX2_endBehind 145 = .ok (.ireturn, 1) := by decide +kernel
theorem dX2_endBehind_146 : decode cX2_endBehind 146 = .ok (.iload_n 1, 1) := by decide +kernel
theorem dX2_endBehind_147 : decode cX2_endBehind 147 = .ok (.bipush 57, 2) := by decide +kernel
theorem dX2_endBehind_149 : decode cX2_endBehind 149 = .ok (.invokestatic 51, 3) := by decide +kernel
theorem dX2_endBehind_152 : decode cX2_endBehind 152 = .ok (.ireturn, 1) := by decide +kernel
theorem dX2_endBehind_153 : decode cX2_endBehind 153 = .ok (.iload_n 1, 1) := by decide +kernel
theorem dX2_endBehind_154 : decode cX2_endBehind 154 = .ok (.bipush 48, 2) := by decide +kernel
theorem dX2_endBehind_156 : decode cX2_endBehind 156 = .ok (.invokestatic 51, 3) := by decide +kernel
theorem dX2_endBehind_159 : decode cX2_endBehind 159 = .ok (.ireturn, 1) := by decide +kernel
theorem dX2_endBehind_160 : decode cX2_endBehind 160 = .ok (.iload_n 1, 1) := by decide +kernel
theorem dX2_endBehind_161 : decode cX2_endBehind 161 = .ok (.bipush 52, 2) := by decide +kernel
theorem dX2_endBehind_163 : decode cX2_endBehind 163 = .ok (.invokestatic 51, 3) := by decide +kernel
theorem dX2_endBehind_166 : decode cX2_endBehind 166 = .ok (.ireturn, 1) := by decide +kernel
theorem dX2_endBehind_167 : decode cX2_endBehind 167 = .ok (.iload_n 1, 1) := by decide +kernel
theorem dX2_endBehind_168 : decode cX2_endBehind 168 = .ok (.bipush 59, 2) := by decide +kernel
theorem dX2_endBehind_170 : decode cX2_endBehind 170 = .ok (.if_icmp .ne 7, 3) := by decide +kernel
theorem dX2_endBehind_173 : decode cX2_endBehind 173 = .ok (.iconst 0, 1) := by decide +kernel
theorem dX2_endBehind_174 : decode cX2_endBehind 174 = .ok (.goto 4, 3) := by decide +kernel
theorem dX2_endBehind_177 : decode cX2_endBehind 177 = .ok (.iconst (-1), 1) := by decide +kernel
theorem dX2_endBehind_178 : decode cX2_endBehind 178 = .ok (.ireturn, 1) := by decide +kernel
theorem dX2_endBehindKind_0 : decode cX2_endBehindKind 0 = .ok (.iload_n 0, 1) := by decide +kernel
theorem dX2_endBehindKind_1 : decode cX2_endBehindKind 1 = .ok (.lookupswitch 74 #[(97, 59), (100, 65), (108, 61), (117, 68), (119, 63), (120, 71)], 59) := by decide +kernel
theorem dX2_endBehindKind_60 : decode cX2_endBehindKind 60 = .ok (.iconst 1, 1) := by decide +kernel
theorem dX2_endBehindKind_61 : decode cX2_endBehindKind 61 = .ok (.ireturn, 1) := by decide +kernel
theorem dX2_endBehindKind_62 : decode cX2_endBehindKind 62 = .ok (.iconst 4, 1) := by decide +kernel
theorem dX2_endBehindKind_63 : decode cX2_endBehindKind 63 = .ok (.ireturn, 1) := by decide +kernel
theorem dX2_endBehindKind_64 : decode cX2_endBehindKind 64 = .ok (.iconst 5, 1) := by decide +kernel
theorem dX2_endBehindKind_65 : decode cX2_endBehindKind 65 = .ok (.ireturn, 1) := by decide +kernel
theorem dX2_endBehindKind_66 : decode cX2_endBehindKind 66 = .ok (.bipush 6, 2) := by decide +kernel
theorem dX2_endBehindKind_68 : decode cX2_endBehindKind 68 = .ok (.ireturn, 1) := by decide +kernel
theorem dX2_endBehindKind_69 : decode cX2_endBehindKind 69 = .ok (.bipush 10, 2) := by decide +kernel
theorem dX2_endBehindKind_71 : decode cX2_endBehindKind 71 = .ok (.ireturn, 1) := by decide +kernel
theorem dX2_endBehindKind_72 : decode cX2_endBehindKind 72 = .ok (.bipush 10, 2) := by decide +kernel
theorem dX2_endBehindKind_74 : decode cX2_endBehindKind 74 = .ok (.ireturn, 1) := by decide +kernel
theorem dX2_endBehindKind_75 : decode cX2_endBehindKind 75 = .ok (.iconst (-1), 1) := by decide +kernel
theorem dX2_endBehindKind_76 : decode cX2_endBehindKind 76 = .ok (.ireturn, 1) := by decide +kernel
set_option maxRecDepth 20000 in
theorem ggX2_endBehindFirstDigit_X5_isWithin : GoodIn wsX2_endBehindFirstDigit wsX5_isWithin := goodIn_r _ [3] (by decide +kernel) (by decide +kernel)
set_option maxRecDepth 20000 in
theorem gX2_endBehindFirstDigit_X5_isWithin_n41 : GoodIn wsX2_endBehindFirstDigit (wsX5_isWithin) := ggX2_endBehindFirstDigit_X5_isWithin
theorem dX2_endBehindFirstDigit_0 : decode cX2_endBehindFirstDigit 0 = .ok (.iload_n 0, 1) := by decide +kernel
theorem dX2_endBehindFirstDigit_1 : decode cX2_endBehindFirstDigit 1 = .ok (.bipush 49, 2) := by decide +kernel
theorem dX2_endBehindFirstDigit_3 : decode cX2_endBehindFirstDigit 3 = .ok (.if_icmp .ne 6, 3) := by decide +kernel
theorem dX2_endBehindFirstDigit_6 : decode cX2_endBehindFirstDigit 6 = .ok (.bipush 7, 2) := by decide +kernel
theorem dX2_endBehindFirstDigit_8 : decode cX2_endBehindFirstDigit 8 = .ok (.ireturn, 1) := by decide +kernel
theorem dX2_endBehindFirstDigit_9 : decode cX2_endBehindFirstDigit 9 = .ok (.iload_n 0, 1) := by decide +kernel
theorem dX2_endBehindFirstDigit_10 : decode cX2_endBehindFirstDigit 10 = .ok (.bipush 50, 2) := by decide +kernel
theorem dX2_endBehindFirstDigit_12 : decode cX2_endBehindFirstDigit 12 = .ok (.if_icmp .ne 5, 3) := by decide +kernel
theorem dX2_endBehindFirstDigit_15 : decode cX2_endBehindFirstDigit 15 = .ok (.iload_n 1, 1) := by decide +kernel
theorem dX2_endBehindFirstDigit_16 : decode cX2_endBehindFirstDigit 16 = .ok (.ireturn, 1) := by decide +kernel
theorem dX2_endBehindFirstDigit_17 : decode cX2_endBehindFirstDigit 17 = .ok (.iload_n 0, 1) := by decide +kernel
theorem dX2_endBehindFirstDigit_18 : decode cX2_endBehindFirstDigit 18 = .ok (.bipush 51, 2) := by decide +kernel
theorem dX2_endBehindFirstDigit_20 : decode cX2_endBehindFirstDigit 20 = .ok (.bipush 57, 2) := by decide +kernel
theorem dX2_endBehindFirstDigit_22 : decode cX2_endBehindFirstDigit 22 = .ok (.invokestatic 41, 3) := by decide +kernel
theorem dX2_endBehindFirstDigit_25 : decode cX2_endBehindFirstDigit 25 = .ok (.ifCond .eq 8, 3) := by decide +kernel
theorem dX2_endBehindFirstDigit_28 : decode cX2_endBehindFirstDigit 28 = .ok (.bipush 10, 2) := by decide +kernel
theorem dX2_endBehindFirstDigit_30 : decode cX2_endBehindFirstDigit 30 = .ok (.goto 4, 3) := by decide +kernel
theorem dX2_endBehindFirstDigit_33 : decode cX2_endBehindFirstDigit 33 = .ok (.iconst (-1), 1) := by decide +kernel
theorem dX2_endBehindFirstDigit_34 : decode cX2_endBehindFirstDigit 34 = .ok (.ireturn, 1) := by decide +kernel
set_option maxRecDepth 20000 in
theorem ggX2_endBehindSecondDigit_X5_isWithin : GoodIn wsX2_endBehindSecondDigit wsX5_isWithin := goodIn_r _ [3] (by decide +kernel) (by decide +kernel)
set_option maxRecDepth 20000 in
theorem gX2_endBehindSecondDigit_X5_isWithin_n41 : GoodIn wsX2_endBehindSecondDigit (wsX5_isWithin) := ggX2_endBehindSecondDigit_X5_isWithin
theorem dX2_endBehindSecondDigit_0 : decode cX2_endBehindSecondDigit 0 = .ok (.iload_n 0, 1) := by decide +kernel
theorem dX2_endBehindSecondDigit_1 : decode cX2_endBehindSecondDigit 1 = .ok (.bipush 48, 2) := by decide +kernel
theorem dX2_endBehindSecondDigit_3 : decode cX2_endBehindSecondDigit 3 = .ok (.iload_n 1, 1) := by decide +kernel
theorem dX2_endBehindSecondDigit_4 : decode cX2_endBehindSecondDigit 4 = .ok (.invokestatic 41, 3) := by decide +kernel
theorem dX2_endBehindSecondDigit_7 : decode cX2_endBehindSecondDigit 7 = .ok (.ifCond .eq 6, 3) := by decide +kernel
theorem dX2_endBehindSecondDigit_10 : decode cX2_endBehindSecondDigit 10 = .ok (.bipush 10, 2) := by decide +kernel
theorem dX2_endBehindSecondDigit_12 : decode cX2_endBehindSecondDigit 12 = .ok (.ireturn, 1) := by decide +kernel
theorem dX2_endBehindSecondDigit_13 : decode cX2_endBehindSecondDigit 13 = .ok (.iload_n 0, 1) := by decide +kernel
theorem dX2_endBehindSecondDigit_14 : decode cX2_endBehindSecondDigit 14 = .ok (.bipush 59, 2) := by decide +kernel
theorem dX2_endBehindSecondDigit_16 : decode cX2_endBehindSecondDigit 16 = .ok (.if_icmp .ne 7, 3) := by decide +kernel
theorem dX2_endBehindSecondDigit_19 : decode cX2_endBehindSecondDigit 19 = .ok (.iconst 0, 1) := by decide +kernel
theorem dX2_endBehindSecondDigit_20 : decode cX2_endBehindSecondDigit 20 = .ok (.goto 4, 3) := by decide +kernel
theorem dX2_endBehindSecondDigit_23 : decode cX2_endBehindSecondDigit 23 = .ok (.iconst (-1), 1) := by decide +kernel
theorem dX2_endBehindSecondDigit_24 : decode cX2_endBehindSecondDigit 24 = .ok (.ireturn, 1) := by decide +kernel
set_option maxRecDepth 20000 in
theorem ggX3_init_X5_copyRow : GoodIn wsX3_init wsX5_copyRow := goodIn_r _ [20, 21, 22, 23, 24, 25, 26, 27, 28] (by decide +kernel) (by decide +kernel)
set_option maxRecDepth 20000 in
theorem gX3_init_X5_copyRow_n21 : GoodIn wsX3_init (wsX5_copyRow) := ggX3_init_X5_copyRow
set_option maxRecDepth 20000 in
theorem ggX3_init_X1_init : GoodIn wsX3_init wsX1_init := goodIn_r _ [31, 32, 2, 3, 4, 33, 34, 35, 36, 59, 60, 61, 62] (by decide +kernel) (by decide +kernel)
set_option maxRecDepth 20000 in
theorem gX3_init_X1_init : GoodIn wsX3_init (wsX1_init) := ggX3_init_X1_init
set_option maxRecDepth 20000 in
theorem ggX3_init_X4_init : GoodIn wsX3_init wsX4_init := goodIn_r _ [39, 40, 2, 3, 4, 41, 42, 43, 44, 63, 64, 65, 66] (by decide +kernel) (by decide +kernel)
set_option maxRecDepth 20000 in
theorem gX3_init_X4_init : GoodIn wsX3_init (wsX4_init) := ggX3_init_X4_init
theorem dX3_init_0 : decode cX3_init 0 = .ok (.aload_n 0, 1) := by decide +kernel
theorem dX3_init_1 : decode cX3_init 1 = .ok (.invokespecial 3, 3) := by decide +kernel
theorem dX3_init_4 : decode cX3_init 4 = .ok (.aload_n 0, 1) := by decide +kernel
theorem dX3_init_5 : decode cX3_init 5 = .ok (.bipush 24, 2) := by decide +kernel
theorem dX3_init_7 : decode cX3_init 7 = .ok (.newarray .int, 2) := by decide +kernel
theorem dX3_init_9 : decode cX3_init 9 = .ok (.putfield 9, 3) := by decide +kernel
theorem dX3_init_12 : decode cX3_init 12 = .ok (.iconst 0, 1) := by decide +kernel
theorem dX3_init_13 : decode cX3_init 13 = .ok (.istore_n 1, 1) := by decide +kernel
theorem dX3_init_14 : decode cX3_init 14 = .ok (.iload_n 1, 1) := by decide +kernel
theorem dX3_init_15 : decode cX3_init 15 = .ok (.aload_n 0, 1) := by decide +kernel
theorem dX3_init_16 : decode cX3_init 16 = .ok (.getfield 9, 3) := by decide +kernel
theorem dX3_init_19 : decode cX3_init 19 = .ok (.arraylength, 1) := by decide +kernel
theorem dX3_init_20 : decode cX3_init 20 = .ok (.if_icmp .ge 17, 3) := by decide +kernel
theorem dX3_init_23 : decode cX3_init 23 = .ok (.aload_n 0, 1) := by decide +kernel
theorem dX3_init_24 : decode cX3_init 24 = .ok (.getfield 9, 3) := by decide +kernel
theorem dX3_init_27 : decode cX3_init 27 = .ok (.iload_n 1, 1) := by decide +kernel
theorem dX3_init_28 : decode cX3_init 28 = .ok (.bipush 10, 2) := by decide +kernel
theorem dX3_init_30 : decode cX3_init 30 = .ok (.iastore, 1) := by decide +kernel
theorem dX3_init_31 : decode cX3_init 31 = .ok (.iinc 1 1, 3) := by decide +kernel
theorem dX3_init_34 : decode cX3_init 34 = .ok (.goto (-20), 3) := by decide +kernel
theorem dX3_init_37 : decode cX3_init 37 = .ok (.aload_n 0, 1) := by decide +kernel
theorem dX3_init_38 : decode cX3_init 38 = .ok (.iconst 3, 1) := by decide +kernel
theorem dX3_init_39 : decode cX3_init 39 = .ok (.newarray .int, 2) := by decide +kernel
theorem dX3_init_41 : decode cX3_init 41 = .ok (.putfield 15, 3) := by decide +kernel
theorem dX3_init_44 : decode cX3_init 44 = .ok (.getstatic 18, 3) := by decide +kernel
theorem dX3_init_47 : decode cX3_init 47 = .ok (.aload_n 0, 1) := by decide +kernel
theorem dX3_init_48 : decode cX3_init 48 = .ok (.getfield 15, 3) := by decide +kernel
theorem dX3_init_51 : decode cX3_init 51 = .ok (.invokestatic 21, 3) := by decide +kernel
theorem dX3_init_54 : decode cX3_init 54 = .ok (.aload_n 0, 1) := by decide +kernel
theorem dX3_init_55 : decode cX3_init 55 = .ok (.new 25, 3) := by decide +kernel
theorem dX3_init_58 : decode cX3_init 58 = .ok (.dup, 1) := by decide +kernel
theorem dX3_init_59 : decode cX3_init 59 = .ok (.bipush 10, 2) := by decide +kernel
theorem dX3_init_61 : decode cX3_init 61 = .ok (.invokespecial 27, 3) := by decide +kernel
theorem dX3_init_64 : decode cX3_init 64 = .ok (.putfield 30, 3) := by decide +kernel
theorem dX3_init_67 : decode cX3_init 67 = .ok (.aload_n 0, 1) := by decide +kernel
theorem dX3_init_68 : decode cX3_init 68 = .ok (.new 25, 3) := by decide +kernel
theorem dX3_init_71 : decode cX3_init 71 = .ok (.dup, 1) := by decide +kernel
theorem dX3_init_72 : decode cX3_init 72 = .ok (.bipush 10, 2) := by decide +kernel
theorem dX3_init_74 : decode cX3_init 74 = .ok (.invokespecial 27, 3) := by decide +kernel
theorem dX3_init_77 : decode cX3_init 77 = .ok (.putfield 34, 3) := by decide +kernel
theorem dX3_init_80 : decode cX3_init 80 = .ok (.aload_n 0, 1) := by decide +kernel
theorem dX3_init_81 : decode cX3_init 81 = .ok (.new 25, 3) := by decide +kernel
theorem dX3_init_84 : decode cX3_init 84 = .ok (.dup, 1) := by decide +kernel
theorem dX3_init_85 : decode cX3_init 85 = .ok (.iconst 4, 1) := by decide +kernel
theorem dX3_init_86 : decode cX3_init 86 = .ok (.invokespecial 27, 3) := by decide +kernel
theorem dX3_init_89 : decode cX3_init 89 = .ok (.putfield 37, 3) := by decide +kernel
theorem dX3_init_92 : decode cX3_init 92 = .ok (.aload_n 0, 1) := by decide +kernel
theorem dX3_init_93 : decode cX3_init 93 = .ok (.new 25, 3) := by decide +kernel
theorem dX3_init_96 : decode cX3_init 96 = .ok (.dup, 1) := by decide +kernel
theorem dX3_init_97 : decode cX3_init 97 = .ok (.iconst 4, 1) := by decide +kernel
theorem dX3_init_98 : decode cX3_init 98 = .ok (.invokespecial 27, 3) := by decide +kernel
theorem dX3_init_101 : decode cX3_init 101 = .ok (.putfield 40, 3) := by decide +kernel
theorem dX3_init_104 : decode cX3_init 104 = .ok (.aload_n 0, 1) := by decide +kernel
theorem dX3_init_105 : decode cX3_init 105 = .ok (.new 43, 3) := by decide +kernel
theorem dX3_init_108 : decode cX3_init 108 = .ok (.dup, 1) := by decide +kernel
theorem dX3_init_109 : decode cX3_init 109 = .ok (.invokespecial 45, 3) := by decide +kernel
theorem dX3_init_112 : decode cX3_init 112 = .ok (.putfield 46, 3) := by decide +kernel
theorem dX3_init_115 : decode cX3_init 115 = .ok (.return_, 1) := by decide +kernel
set_option maxRecDepth 20000 in
theorem ggX3_copyFrom_X5_copyRow : GoodIn wsX3_copyFrom wsX5_copyRow := goodIn_r _ [17, 18, 19, 20, 21, 22, 23, 24, 25] (by decide +kernel) (by decide +kernel)
set_option maxRecDepth 20000 in
theorem gX3_copyFrom_X5_copyRow_n21 : GoodIn wsX3_copyFrom (wsX5_copyRow) := ggX3_copyFrom_X5_copyRow
set_option maxRecDepth 20000 in
theorem ggX3_copyFrom_X1_copyFrom : GoodIn wsX3_copyFrom wsX1_copyFrom := goodIn_r _ [30, 31, 32, 33, 34, 15, 16, 17, 18, 19, 20, 21, 22, 23, 24, 25, 58, 59, 60, 61] (by decide +kernel) (by decide +kernel)
set_option maxRecDepth 20000 in
theorem gX3_copyFrom_X1_copyFrom : GoodIn wsX3_copyFrom (wsV RX3 50 RX1 yX1_copyFrom wsX1_copyFrom) := goodIn_app (goodIn_of _ (by decide +kernel)) ggX3_copyFrom_X1_copyFrom
set_option maxRecDepth 20000 in
theorem ggX3_copyFrom_X4_copyFrom : GoodIn wsX3_copyFrom wsX4_copyFrom := goodIn_r _ [39, 40, 41, 42, 43, 15, 16, 17, 18, 19, 20, 21, 22, 23, 24, 25, 62, 63, 64, 65] (by decide +kernel) (by decide +kernel)
set_option maxRecDepth 20000 in
theorem gX3_copyFrom_X4_copyFrom : GoodIn wsX3_copyFrom (wsV RX3 54 RX4 yX4_copyFrom wsX4_copyFrom) := goodIn_app (goodIn_of _ (by decide +kernel)) ggX3_copyFrom_X4_copyFrom
theorem dX3_copyFrom_0 : decode cX3_copyFrom 0 = .ok (.aload_n 1, 1) := by decide +kernel
theorem dX3_copyFrom_1 : decode cX3_copyFrom 1 = .ok (.getfield 9, 3) := by decide +kernel
theorem dX3_copyFrom_4 : decode cX3_copyFrom 4 = .ok (.aload_n 0, 1) := by decide +kernel
theorem dX3_copyFrom_5 : decode cX3_copyFrom 5 = .ok (.getfield 9, 3) := by decide +kernel
theorem dX3_copyFrom_8 : decode cX3_copyFrom 8 = .ok (.invokestatic 21, 3) := by decide +kernel
theorem dX3_copyFrom_11 : decode cX3_copyFrom 11 = .ok (.aload_n 1, 1) := by decide +kernel
theorem dX3_copyFrom_12 : decode cX3_copyFrom 12 = .ok (.getfield 15, 3) := by decide +kernel
theorem dX3_copyFrom_15 : decode cX3_copyFrom 15 = .ok (.aload_n 0, 1) := by decide +kernel
theorem dX3_copyFrom_16 : decode cX3_copyFrom 16 = .ok (.getfield 15, 3) := by decide +kernel
theorem dX3_copyFrom_19 : decode cX3_copyFrom 19 = .ok (.invokestatic 21, 3) := by decide +kernel
theorem dX3_copyFrom_22 : decode cX3_copyFrom 22 = .ok (.aload_n 0, 1) := by decide +kernel
theorem dX3_copyFrom_23 : decode cX3_copyFrom 23 = .ok (.getfield 30, 3) := by decide +kernel
theorem dX3_copyFrom_26 : decode cX3_copyFrom 26 = .ok (.aload_n 1, 1) := by decide +kernel
theorem dX3_copyFrom_27 : decode cX3_copyFrom 27 = .ok (.getfield 30, 3) := by decide +kernel
theorem dX3_copyFrom_30 : decode cX3_copyFrom 30 = .ok (.invokevirtual 50, 3) := by decide +kernel
theorem dX3_copyFrom_33 : decode cX3_copyFrom 33 = .ok (.aload_n 0, 1) := by decide +kernel
theorem dX3_copyFrom_34 : decode cX3_copyFrom 34 = .ok (.getfield 34, 3) := by decide +kernel
theorem dX3_copyFrom_37 : decode cX3_copyFrom 37 = .ok (.aload_n 1, 1) := by decide +kernel
theorem dX3_copyFrom_38 : decode cX3_copyFrom 38 = .ok (.getfield 34, 3) := by decide +kernel
theorem dX3_copyFrom_41 : decode cX3_copyFrom 41 = .ok (.invokevirtual 50, 3) := by decide +kernel
theorem dX3_copyFrom_44 : decode cX3_copyFrom 44 = .ok (.aload_n 0, 1) := by decide +kernel
theorem dX3_copyFrom_45 : decode cX3_copyFrom 45 = .ok (.getfield 37, 3) := by decide +kernel
theorem dX3_copyFrom_48 : decode cX3_copyFrom 48 = .ok (.aload_n 1, 1) := by decide +kernel
theorem dX3_copyFrom_49 : decode cX3_copyFrom 49 = .ok (.getfield 37, 3) := by decide +kernel
theorem dX3_copyFrom_52 : decode cX3_copyFrom 52 = .ok (.invokevirtual 50, 3) := by decide +kernel
theorem dX3_copyFrom_55 : decode cX3_copyFrom 55 = .ok (.aload_n 0, 1) := by decide +kernel
theorem dX3_copyFrom_56 : decode cX3_copyFrom 56 = .ok (.getfield 40, 3) := by decide +kernel
theorem dX3_copyFrom_59 : decode cX3_copyFrom 59 = .ok (.aload_n 1, 1) := by decide +kernel
theorem dX3_copyFrom_60 : decode cX3_copyFrom 60 = .ok (.getfield 40, 3) := by decide +kernel
theorem dX3_copyFrom_63 : decode cX3_copyFrom 63 = .ok (.invokevirtual 50, 3) := by decide +kernel
theorem dX3_copyFrom_66 : decode cX3_copyFrom 66 = .ok (.aload_n 0, 1) := by decide +kernel
theorem dX3_copyFrom_67 : decode cX3_copyFrom 67 = .ok (.getfield 46, 3) := by decide +kernel
theorem dX3_copyFrom_70 : decode cX3_copyFrom 70 = .ok (.aload_n 1, 1) := by decide +kernel
theorem dX3_copyFrom_71 : decode cX3_copyFrom 71 = .ok (.getfield 46, 3) := by decide +kernel
theorem dX3_copyFrom_74 : decode cX3_copyFrom 74 = .ok (.invokevirtual 54, 3) := by decide +kernel
theorem dX3_copyFrom_77 : decode cX3_copyFrom 77 = .ok (.aload_n 0, 1) := by decide +kernel
theorem dX3_copyFrom_78 : decode cX3_copyFrom 78 = .ok (.aload_n 1, 1) := by decide +kernel
theorem dX3_copyFrom_79 : decode cX3_copyFrom 79 = .ok (.getfield 57, 3) := by decide +kernel
theorem dX3_copyFrom_82 : decode cX3_copyFrom 82 = .ok (.putfield 57, 3) := by decide +kernel
theorem dX3_copyFrom_85 : decode cX3_copyFrom 85 = .ok (.aload_n 0, 1) := by decide +kernel
theorem dX3_copyFrom_86 : decode cX3_copyFrom 86 = .ok (.aload_n 1, 1) := by decide +kernel
theorem dX3_copyFrom_87 : decode cX3_copyFrom 87 = .ok (.getfield 61, 3) := by decide +kernel
theorem dX3_copyFrom_90 : decode cX3_copyFrom 90 = .ok (.putfield 61, 3) := by decide +kernel
theorem dX3_copyFrom_93 : decode cX3_copyFrom 93 = .ok (.aload_n 0, 1) := by decide +kernel
theorem dX3_copyFrom_94 : decode cX3_copyFrom 94 = .ok (.aload_n 1, 1) := by decide +kernel
theorem dX3_copyFrom_95 : decode cX3_copyFrom 95 = .ok (.getfield 64, 3) := by decide +kernel
theorem dX3_copyFrom_98 : decode cX3_copyFrom 98 = .ok (.putfield 64, 3) := by decide +kernel
theorem dX3_copyFrom_101 : decode cX3_copyFrom 101 = .ok (.aload_n 0, 1) := by decide +kernel
theorem dX3_copyFrom_102 : decode cX3_copyFrom 102 = .ok (.aload_n 1, 1) := by decide +kernel
theorem dX3_copyFrom_103 : decode cX3_copyFrom 103 = .ok (.getfield 67, 3) := by decide +kernel
theorem dX3_copyFrom_106 : decode cX3_copyFrom 106 = .ok (.putfield 67, 3) := by decide +kernel
theorem dX3_copyFrom_109 : decode cX3_copyFrom 109 = .ok (.aload_n 0, 1) := by decide +kernel
theorem dX3_copyFrom_110 : decode cX3_copyFrom 110 = .ok (.aload_n 1, 1) := by decide +kernel
theorem dX3_copyFrom_111 : decode cX3_copyFrom 111 = .ok (.getfield 70, 3) := by decide +kernel
theorem dX3_copyFrom_114 : decode cX3_copyFrom 114 = .ok (.putfield 70, 3) := by decide +kernel
theorem dX3_copyFrom_117 : decode cX3_copyFrom 117 = .ok (.aload_n 0, 1) := by decide +kernel
theorem dX3_copyFrom_118 : decode cX3_copyFrom 118 = .ok (.aload_n 1, 1) := by decide +kernel
theorem dX3_copyFrom_119 : decode cX3_copyFrom 119 = .ok (.getfield 73, 3) := by decide +kernel
theorem dX3_copyFrom_122 : decode cX3_copyFrom 122 = .ok (.putfield 73, 3) := by decide +kernel
theorem dX3_copyFrom_125 : decode cX3_copyFrom 125 = .ok (.aload_n 0, 1) := by decide +kernel
theorem dX3_copyFrom_126 : decode cX3_copyFrom 126 = .ok (.aload_n 1, 1) := by decide +kernel
theorem dX3_copyFrom_127 : decode cX3_copyFrom 127 = .ok (.getfield 76, 3) := by decide +kernel
theorem dX3_copyFrom_130 : decode cX3_copyFrom 130 = .ok (.putfield 76, 3) := by decide +kernel
theorem dX3_copyFrom_133 : decode cX3_copyFrom 133 = .ok (.return_, 1) := by decide +kernel
theorem dX3_lineAtBank_0 : decode cX3_lineAtBank 0 = .ok (.iload_n 1, 1) := by decide +kernel
theorem dX3_lineAtBank_1 : decode cX3_lineAtBank 1 = .ok (.ifCond .ne 10, 3) := by decide +kernel
theorem dX3_lineAtBank_4 : decode cX3_lineAtBank 4 = .ok (.aload_n 0, 1) := by decide +kernel
theorem dX3_lineAtBank_5 : decode cX3_lineAtBank 5 = .ok (.getfield 30, 3) := by decide +kernel
theorem dX3_lineAtBank_8 : decode cX3_lineAtBank 8 = .ok (.goto 7, 3) := by decide +kernel
theorem dX3_lineAtBank_11 : decode cX3_lineAtBank 11 = .ok (.aload_n 0, 1) := by decide +kernel
theorem dX3_lineAtBank_12 : decode cX3_lineAtBank 12 = .ok (.getfield 34, 3) := by decide +kernel
theorem dX3_lineAtBank_15 : decode cX3_lineAtBank 15 = .ok (.areturn, 1) := by decide +kernel
theorem dX3_lineOnLane_0 : decode cX3_lineOnLane 0 = .ok (.iload_n 1, 1) := by decide +kernel
theorem dX3_lineOnLane_1 : decode cX3_lineOnLane 1 = .ok (.ifCond .ne 10, 3) := by decide +kernel
theorem dX3_lineOnLane_4 : decode cX3_lineOnLane 4 = .ok (.aload_n 0, 1) := by decide +kernel
theorem dX3_lineOnLane_5 : decode cX3_lineOnLane 5 = .ok (.getfield 37, 3) := by decide +kernel
theorem dX3_lineOnLane_8 : decode cX3_lineOnLane 8 = .ok (.goto 7, 3) := by decide +kernel
theorem dX3_lineOnLane_11 : decode cX3_lineOnLane 11 = .ok (.aload_n 0, 1) := by decide +kernel
theorem dX3_lineOnLane_12 : decode cX3_lineOnLane 12 = .ok (.getfield 40, 3) := by decide +kernel
theorem dX3_lineOnLane_15 : decode cX3_lineOnLane 15 = .ok (.areturn, 1) := by decide +kernel
set_option maxRecDepth 20000 in
theorem ggX3_vehiclesOnDeck_X1_size : GoodIn wsX3_vehiclesOnDeck wsX1_size := goodIn_r _ [7, 8, 23, 24, 25, 26] (by decide +kernel) (by decide +kernel)
set_option maxRecDepth 20000 in
theorem gX3_vehiclesOnDeck_X1_size : GoodIn wsX3_vehiclesOnDeck (wsV RX3 79 RX1 yX1_size wsX1_size) := goodIn_app (goodIn_of _ (by decide +kernel)) ggX3_vehiclesOnDeck_X1_size
theorem dX3_vehiclesOnDeck_0 : decode cX3_vehiclesOnDeck 0 = .ok (.aload_n 0, 1) := by decide +kernel
theorem dX3_vehiclesOnDeck_1 : decode cX3_vehiclesOnDeck 1 = .ok (.getfield 37, 3) := by decide +kernel
theorem dX3_vehiclesOnDeck_4 : decode cX3_vehiclesOnDeck 4 = .ok (.invokevirtual 79, 3) := by decide +kernel
theorem dX3_vehiclesOnDeck_7 : decode cX3_vehiclesOnDeck 7 = .ok (.aload_n 0, 1) := by decide +kernel
theorem dX3_vehiclesOnDeck_8 : decode cX3_vehiclesOnDeck 8 = .ok (.getfield 40, 3) := by decide +kernel
theorem dX3_vehiclesOnDeck_11 : decode cX3_vehiclesOnDeck 11 = .ok (.invokevirtual 79, 3) := by decide +kernel
theorem dX3_vehiclesOnDeck_14 : decode cX3_vehiclesOnDeck 14 = .ok (.iadd, 1) := by decide +kernel
theorem dX3_vehiclesOnDeck_15 : decode cX3_vehiclesOnDeck 15 = .ok (.ireturn, 1) := by decide +kernel
set_option maxRecDepth 20000 in
theorem ggX3_weightOnDeck_X1_weight : GoodIn wsX3_weightOnDeck wsX1_weight := goodIn_r _ [7, 8, 23, 24, 25, 26] (by decide +kernel) (by decide +kernel)
set_option maxRecDepth 20000 in
theorem gX3_weightOnDeck_X1_weight : GoodIn wsX3_weightOnDeck (wsV RX3 83 RX1 yX1_weight wsX1_weight) := goodIn_app (goodIn_of _ (by decide +kernel)) ggX3_weightOnDeck_X1_weight
theorem dX3_weightOnDeck_0 : decode cX3_weightOnDeck 0 = .ok (.aload_n 0, 1) := by decide +kernel
theorem dX3_weightOnDeck_1 : decode cX3_weightOnDeck 1 = .ok (.getfield 37, 3) := by decide +kernel
theorem dX3_weightOnDeck_4 : decode cX3_weightOnDeck 4 = .ok (.invokevirtual 83, 3) := by decide +kernel
theorem dX3_weightOnDeck_7 : decode cX3_weightOnDeck 7 = .ok (.aload_n 0, 1) := by decide +kernel
theorem dX3_weightOnDeck_8 : decode cX3_weightOnDeck 8 = .ok (.getfield 40, 3) := by decide +kernel
theorem dX3_weightOnDeck_11 : decode cX3_weightOnDeck 11 = .ok (.invokevirtual 83, 3) := by decide +kernel
theorem dX3_weightOnDeck_14 : decode cX3_weightOnDeck 14 = .ok (.iadd, 1) := by decide +kernel
theorem dX3_weightOnDeck_15 : decode cX3_weightOnDeck 15 = .ok (.ireturn, 1) := by decide +kernel
set_option maxRecDepth 20000 in
theorem ggX3_list_X1_weight : GoodIn wsX3_list wsX1_weight := goodIn_r _ [11, 12, 27, 28, 29, 30] (by decide +kernel) (by decide +kernel)
set_option maxRecDepth 20000 in
theorem gX3_list_X1_weight : GoodIn wsX3_list (wsV RX3 83 RX1 yX1_weight wsX1_weight) := goodIn_app (goodIn_of _ (by decide +kernel)) ggX3_list_X1_weight
theorem dX3_list_0 : decode cX3_list 0 = .ok (.aload_n 0, 1) := by decide +kernel
theorem dX3_list_1 : decode cX3_list 1 = .ok (.getfield 37, 3) := by decide +kernel
theorem dX3_list_4 : decode cX3_list 4 = .ok (.invokevirtual 83, 3) := by decide +kernel
theorem dX3_list_7 : decode cX3_list 7 = .ok (.aload_n 0, 1) := by decide +kernel
theorem dX3_list_8 : decode cX3_list 8 = .ok (.getfield 40, 3) := by decide +kernel
theorem dX3_list_11 : decode cX3_list 11 = .ok (.invokevirtual 83, 3) := by decide +kernel
theorem dX3_list_14 : decode cX3_list 14 = .ok (.isub, 1) := by decide +kernel
theorem dX3_list_15 : decode cX3_list 15 = .ok (.invokestatic 86, 3) := by decide +kernel
theorem dX3_list_18 : decode cX3_list 18 = .ok (.ireturn, 1) := by decide +kernel
set_option maxRecDepth 20000 in
theorem ggX3_currentAhead_J9_floorMod_7cf53 : GoodIn wsX3_currentAhead wsJ9_floorMod_7cf53 := goodIn_r _ [6] (by decide +kernel) (by decide +kernel)
set_option maxRecDepth 20000 in
theorem gX3_currentAhead_J9_floorMod_7cf53 : GoodIn wsX3_currentAhead (va_wsS RX3 92 yJ9_floorMod_7cf53 wsJ9_floorMod_7cf53) := goodIn_app (goodIn_of _ (by decide +kernel)) ggX3_currentAhead_J9_floorMod_7cf53
set_option maxRecDepth 20000 in
theorem ggX3_currentAhead_X5_at : GoodIn wsX3_currentAhead wsX5_at := goodIn_r _ [9] (by decide +kernel) (by decide +kernel)
set_option maxRecDepth 20000 in
theorem gX3_currentAhead_X5_at_n96 : GoodIn wsX3_currentAhead (wsX5_at) := ggX3_currentAhead_X5_at
theorem dX3_currentAhead_0 : decode cX3_currentAhead 0 = .ok (.aload_n 0, 1) := by decide +kernel
theorem dX3_currentAhead_1 : decode cX3_currentAhead 1 = .ok (.getfield 9, 3) := by decide +kernel
theorem dX3_currentAhead_4 : decode cX3_currentAhead 4 = .ok (.aload_n 0, 1) := by decide +kernel
theorem dX3_currentAhead_5 : decode cX3_currentAhead 5 = .ok (.getfield 57, 3) := by decide +kernel
theorem dX3_currentAhead_8 : decode cX3_currentAhead 8 = .ok (.iload_n 1, 1) := by decide +kernel
theorem dX3_currentAhead_9 : decode cX3_currentAhead 9 = .ok (.iadd, 1) := by decide +kernel
theorem dX3_currentAhead_10 : decode cX3_currentAhead 10 = .ok (.bipush 24, 2) := by decide +kernel
theorem dX3_currentAhead_12 : decode cX3_currentAhead 12 = .ok (.invokestatic 92, 3) := by decide +kernel
theorem dX3_currentAhead_15 : decode cX3_currentAhead 15 = .ok (.invokestatic 96, 3) := by decide +kernel
theorem dX3_currentAhead_18 : decode cX3_currentAhead 18 = .ok (.ireturn, 1) := by decide +kernel
set_option maxRecDepth 20000 in
theorem ggX3_strengthOf_X5_at : GoodIn wsX3_strengthOf wsX5_at := goodIn_r _ [5] (by decide +kernel) (by decide +kernel)
set_option maxRecDepth 20000 in
theorem gX3_strengthOf_X5_at_n96 : GoodIn wsX3_strengthOf (wsX5_at) := ggX3_strengthOf_X5_at
set_option maxRecDepth 20000 in
theorem ggX3_strengthOf_X4_strengthOf : GoodIn wsX3_strengthOf wsX4_strengthOf := goodIn_r _ [10, 11, 12, 13, 14, 15, 3, 4, 5, 30, 31, 32, 33] (by decide +kernel) (by decide +kernel)
set_option maxRecDepth 20000 in
theorem gX3_strengthOf_X4_strengthOf : GoodIn wsX3_strengthOf (wsV RX3 100 RX4 yX4_strengthOf wsX4_strengthOf) := goodIn_app (goodIn_of _ (by decide +kernel)) ggX3_strengthOf_X4_strengthOf
theorem dX3_strengthOf_0 : decode cX3_strengthOf 0 = .ok (.aload_n 0, 1) := by decide +kernel
theorem dX3_strengthOf_1 : decode cX3_strengthOf 1 = .ok (.getfield 46, 3) := by decide +kernel
theorem dX3_strengthOf_4 : decode cX3_strengthOf 4 = .ok (.iload_n 1, 1) := by decide +kernel
theorem dX3_strengthOf_5 : decode cX3_strengthOf 5 = .ok (.aload_n 0, 1) := by decide +kernel
theorem dX3_strengthOf_6 : decode cX3_strengthOf 6 = .ok (.getfield 15, 3) := by decide +kernel
theorem dX3_strengthOf_9 : decode cX3_strengthOf 9 = .ok (.iconst 0, 1) := by decide +kernel
theorem dX3_strengthOf_10 : decode cX3_strengthOf 10 = .ok (.invokestatic 96, 3) := by decide +kernel
theorem dX3_strengthOf_13 : decode cX3_strengthOf 13 = .ok (.invokevirtual 100, 3) := by decide +kernel
theorem dX3_strengthOf_16 : decode cX3_strengthOf 16 = .ok (.ireturn, 1) := by decide +kernel
set_option maxRecDepth 20000 in
theorem ggX3_tensionOf_X3_currentAhead : GoodIn wsX3_tensionOf wsX3_currentAhead := goodIn_r _ [6, 7, 8, 9, 10, 11, 12, 13, 14, 15, 48, 49, 50, 51, 52, 53, 54, 55, 56, 57, 58, 59, 60, 61] (by decide +kernel) (by decide +kernel)
set_option maxRecDepth 20000 in
theorem gX3_tensionOf_X3_currentAhead : GoodIn wsX3_tensionOf (wsV RX3 103 RX3 yX3_currentAhead wsX3_currentAhead) := goodIn_app (goodIn_of _ (by decide +kernel)) ggX3_tensionOf_X3_currentAhead
set_option maxRecDepth 20000 in
theorem ggX3_tensionOf_X3_weightOnDeck : GoodIn wsX3_tensionOf wsX3_weightOnDeck := goodIn_r _ [19, 20, 21, 22, 23, 24, 25, 26, 27, 48, 49, 50, 51, 52, 53, 54, 55, 56, 57, 58, 59, 60, 61, 62, 63, 64, 65] (by decide +kernel) (by decide +kernel)
set_option maxRecDepth 20000 in
theorem gX3_tensionOf_X3_weightOnDeck : GoodIn wsX3_tensionOf (wsV RX3 106 RX3 yX3_weightOnDeck wsX3_weightOnDeck) := goodIn_app (goodIn_of _ (by decide +kernel)) ggX3_tensionOf_X3_weightOnDeck
set_option maxRecDepth 20000 in
theorem ggX3_tensionOf_X3_list : GoodIn wsX3_tensionOf wsX3_list := goodIn_r _ [31, 20, 21, 32, 33, 34, 35, 22, 23, 24, 25, 26, 27, 48, 49, 50, 51, 52, 53, 54, 55, 56, 57, 58, 59, 60, 61, 62, 63, 64, 65] (by decide +kernel) (by decide +kernel)
set_option maxRecDepth 20000 in
theorem gX3_tensionOf_X3_list : GoodIn wsX3_tensionOf (wsV RX3 109 RX3 yX3_list wsX3_list) := goodIn_app (goodIn_of _ (by decide +kernel)) ggX3_tensionOf_X3_list
set_option maxRecDepth 20000 in
theorem ggX3_tensionOf_X4_tensionOf : GoodIn wsX3_tensionOf wsX4_tensionOf := goodIn_r _ [40, 41, 42, 34, 43, 44, 45, 46, 47, 66, 67, 68, 69] (by decide +kernel) (by decide +kernel)
set_option maxRecDepth 20000 in
theorem gX3_tensionOf_X4_tensionOf : GoodIn wsX3_tensionOf (wsV RX3 112 RX4 yX4_tensionOf wsX4_tensionOf) := goodIn_app (goodIn_of _ (by decide +kernel)) ggX3_tensionOf_X4_tensionOf
theorem dX3_tensionOf_0 : decode cX3_tensionOf 0 = .ok (.aload_n 0, 1) := by decide +kernel
theorem dX3_tensionOf_1 : decode cX3_tensionOf 1 = .ok (.getfield 46, 3) := by decide +kernel
theorem dX3_tensionOf_4 : decode cX3_tensionOf 4 = .ok (.iload_n 1, 1) := by decide +kernel
theorem dX3_tensionOf_5 : decode cX3_tensionOf 5 = .ok (.aload_n 0, 1) := by decide +kernel
theorem dX3_tensionOf_6 : decode cX3_tensionOf 6 = .ok (.iconst 0, 1) := by decide +kernel
theorem dX3_tensionOf_7 : decode cX3_tensionOf 7 = .ok (.invokevirtual 103, 3) := by decide +kernel
theorem dX3_tensionOf_10 : decode cX3_tensionOf 10 = .ok (.aload_n 0, 1) := by decide +kernel
theorem dX3_tensionOf_11 : decode cX3_tensionOf 11 = .ok (.invokevirtual 106, 3) := by decide +kernel
theorem dX3_tensionOf_14 : decode cX3_tensionOf 14 = .ok (.aload_n 0, 1) := by decide +kernel
theorem dX3_tensionOf_15 : decode cX3_tensionOf 15 = .ok (.invokevirtual 109, 3) := by decide +kernel
theorem dX3_tensionOf_18 : decode cX3_tensionOf 18 = .ok (.invokevirtual 112, 3) := by decide +kernel
theorem dX3_tensionOf_21 : decode cX3_tensionOf 21 = .ok (.ireturn, 1) := by decide +kernel
set_option maxRecDepth 20000 in
theorem ggX3_reserveOf_X3_strengthOf : GoodIn wsX3_reserveOf wsX3_strengthOf := goodIn_r _ [5, 6, 7, 8, 9, 10, 11, 12, 13, 14, 15, 16, 17, 18, 19, 20, 62, 63, 64, 65, 66, 67, 68, 69, 70, 71, 72, 73, 74, 75, 76, 77, 78, 79] (by decide +kernel) (by decide +kernel)
set_option maxRecDepth 20000 in
theorem gX3_reserveOf_X3_strengthOf : GoodIn wsX3_reserveOf (wsV RX3 116 RX3 yX3_strengthOf wsX3_strengthOf) := goodIn_app (goodIn_of _ (by decide +kernel)) ggX3_reserveOf_X3_strengthOf
set_option maxRecDepth 20000 in
theorem ggX3_reserveOf_X3_tensionOf : GoodIn wsX3_reserveOf wsX3_tensionOf := goodIn_r _ [24, 6, 25, 26, 27, 4, 28, 29, 30, 31, 32, 33, 34, 8, 9, 10, 35, 36, 37, 38, 39, 40, 41, 42, 43, 44, 45, 46, 47, 48, 49, 50, 51, 52, 19, 53, 54, 55, 56, 14, 57, 58, 59, 60, 61, 17, 18, 20, 62, 63, 64, 65, 66, 67, 68, 69, 70, 71, 72, 73, 74, 75, 80, 81, 82, 83, 76, 77, 78, 79] (by decide +kernel) (by decide +kernel)
set_option maxRecDepth 20000 in
theorem gX3_reserveOf_X3_tensionOf : GoodIn wsX3_reserveOf (wsV RX3 118 RX3 yX3_tensionOf wsX3_tensionOf) := goodIn_app (goodIn_of _ (by decide +kernel)) ggX3_reserveOf_X3_tensionOf
theorem dX3_reserveOf_0 : decode cX3_reserveOf 0 = .ok (.aload_n 0, 1) := by decide +kernel
theorem dX3_reserveOf_1 : decode cX3_reserveOf 1 = .ok (.iload_n 1, 1) := by decide +kernel
theorem dX3_reserveOf_2 : decode cX3_reserveOf 2 = .ok (.invokevirtual 116, 3) := by decide +kernel
theorem dX3_reserveOf_5 : decode cX3_reserveOf 5 = .ok (.aload_n 0, 1) := by decide +kernel
theorem dX3_reserveOf_6 : decode cX3_reserveOf 6 = .ok (.iload_n 1, 1) := by decide +kernel
theorem dX3_reserveOf_7 : decode cX3_reserveOf 7 = .ok (.invokevirtual 118, 3) := by decide +kernel
theorem dX3_reserveOf_10 : decode cX3_reserveOf 10 = .ok (.isub, 1) := by decide +kernel
theorem dX3_reserveOf_11 : decode cX3_reserveOf 11 = .ok (.ireturn, 1) := by decide +kernel
set_option maxRecDepth 20000 in
theorem ggX3_greatestTension_X3_currentAhead : GoodIn wsX3_greatestTension wsX3_currentAhead := goodIn_r _ [6, 7, 8, 9, 10, 11, 12, 13, 14, 15, 52, 53, 54, 55, 56, 57, 58, 59, 60, 61, 62, 63, 64, 65] (by decide +kernel) (by decide +kernel)
set_option maxRecDepth 20000 in
theorem gX3_greatestTension_X3_currentAhead : GoodIn wsX3_greatestTension (wsV RX3 103 RX3 yX3_currentAhead wsX3_currentAhead) := goodIn_app (goodIn_of _ (by decide +kernel)) ggX3_greatestTension_X3_currentAhead
set_option maxRecDepth 20000 in
theorem ggX3_greatestTension_X3_weightOnDeck : GoodIn wsX3_greatestTension wsX3_weightOnDeck := goodIn_r _ [19, 20, 21, 22, 23, 24, 25, 26, 27, 52, 53, 54, 55, 56, 57, 58, 59, 60, 61, 62, 63, 64, 65, 66, 67, 68, 69] (by decide +kernel) (by decide +kernel)
set_option maxRecDepth 20000 in
theorem gX3_greatestTension_X3_weightOnDeck : GoodIn wsX3_greatestTension (wsV RX3 106 RX3 yX3_weightOnDeck wsX3_weightOnDeck) := goodIn_app (goodIn_of _ (by decide +kernel)) ggX3_greatestTension_X3_weightOnDeck
set_option maxRecDepth 20000 in
theorem ggX3_greatestTension_X3_list : GoodIn wsX3_greatestTension wsX3_list := goodIn_r _ [31, 20, 21, 32, 33, 34, 35, 22, 23, 24, 25, 26, 27, 52, 53, 54, 55, 56, 57, 58, 59, 60, 61, 62, 63, 64, 65, 66, 67, 68, 69] (by decide +kernel) (by decide +kernel)
set_option maxRecDepth 20000 in
theorem gX3_greatestTension_X3_list : GoodIn wsX3_greatestTension (wsV RX3 109 RX3 yX3_list wsX3_list) := goodIn_app (goodIn_of _ (by decide +kernel)) ggX3_greatestTension_X3_list
set_option maxRecDepth 20000 in
theorem ggX3_greatestTension_X4_greatestTension : GoodIn wsX3_greatestTension wsX4_greatestTension := goodIn_r _ [40, 41, 42, 34, 43, 44, 45, 46, 39, 47, 48, 49, 50, 51, 70, 71, 72, 73] (by decide +kernel) (by decide +kernel)
set_option maxRecDepth 20000 in
theorem gX3_greatestTension_X4_greatestTension : GoodIn wsX3_greatestTension (wsV RX3 120 RX4 yX4_greatestTension wsX4_greatestTension) := goodIn_app (goodIn_of _ (by decide +kernel)) ggX3_greatestTension_X4_greatestTension
theorem dX3_greatestTension_0 : decode cX3_greatestTension 0 = .ok (.aload_n 0, 1) := by decide +kernel
theorem dX3_greatestTension_1 : decode cX3_greatestTension 1 = .ok (.getfield 46, 3) := by decide +kernel
theorem dX3_greatestTension_4 : decode cX3_greatestTension 4 = .ok (.aload_n 0, 1) := by decide +kernel
theorem dX3_greatestTension_5 : decode cX3_greatestTension 5 = .ok (.iload_n 1, 1) := by decide +kernel
theorem dX3_greatestTension_6 : decode cX3_greatestTension 6 = .ok (.invokevirtual 103, 3) := by decide +kernel
theorem dX3_greatestTension_9 : decode cX3_greatestTension 9 = .ok (.aload_n 0, 1) := by decide +kernel
theorem dX3_greatestTension_10 : decode cX3_greatestTension 10 = .ok (.invokevirtual 106, 3) := by decide +kernel
theorem dX3_greatestTension_13 : decode cX3_greatestTension 13 = .ok (.aload_n 0, 1) := by decide +kernel
theorem dX3_greatestTension_14 : decode cX3_greatestTension 14 = .ok (.invokevirtual 109, 3) := by decide +kernel
theorem dX3_greatestTension_17 : decode cX3_greatestTension 17 = .ok (.invokevirtual 120, 3) := by decide +kernel
theorem dX3_greatestTension_20 : decode cX3_greatestTension 20 = .ok (.ireturn, 1) := by decide +kernel
set_option maxRecDepth 20000 in
theorem ggX3_reason_X3_list : GoodIn wsX3_reason wsX3_list := goodIn_r _ [8, 9, 10, 11, 12, 13, 14, 15, 16, 17, 18, 19, 20, 59, 60, 61, 62, 63, 64, 65, 66, 67, 68, 69, 70, 71, 72, 77, 78, 79, 80] (by decide +kernel) (by decide +kernel)
set_option maxRecDepth 20000 in
theorem gX3_reason_X3_list : GoodIn wsX3_reason (wsV RX3 109 RX3 yX3_list wsX3_list) := goodIn_app (goodIn_of _ (by decide +kernel)) ggX3_reason_X3_list
set_option maxRecDepth 20000 in
theorem ggX3_reason_X5_at : GoodIn wsX3_reason wsX5_at := goodIn_r _ [23] (by decide +kernel) (by decide +kernel)
set_option maxRecDepth 20000 in
theorem gX3_reason_X5_at_n96 : GoodIn wsX3_reason (wsX5_at) := ggX3_reason_X5_at
set_option maxRecDepth 20000 in
theorem ggX3_reason_X3_currentAhead : GoodIn wsX3_reason wsX3_currentAhead := goodIn_r _ [27, 28, 29, 30, 31, 32, 33, 21, 22, 23, 59, 60, 61, 62, 63, 64, 65, 66, 67, 68, 69, 70, 71, 72] (by decide +kernel) (by decide +kernel)
set_option maxRecDepth 20000 in
theorem gX3_reason_X3_currentAhead : GoodIn wsX3_reason (wsV RX3 103 RX3 yX3_currentAhead wsX3_currentAhead) := goodIn_app (goodIn_of _ (by decide +kernel)) ggX3_reason_X3_currentAhead
set_option maxRecDepth 20000 in
theorem ggX3_reason_X3_weightOnDeck : GoodIn wsX3_reason wsX3_weightOnDeck := goodIn_r _ [37, 9, 10, 15, 16, 17, 18, 19, 20, 59, 60, 61, 62, 63, 64, 65, 66, 67, 68, 69, 70, 71, 72, 77, 78, 79, 80] (by decide +kernel) (by decide +kernel)
set_option maxRecDepth 20000 in
theorem gX3_reason_X3_weightOnDeck : GoodIn wsX3_reason (wsV RX3 106 RX3 yX3_weightOnDeck wsX3_weightOnDeck) := goodIn_app (goodIn_of _ (by decide +kernel)) ggX3_reason_X3_weightOnDeck
set_option maxRecDepth 20000 in
theorem ggX3_reason_X4_canBear : GoodIn wsX3_reason wsX4_canBear := goodIn_r _ [42, 43, 44, 45, 41, 46, 47, 48, 13, 49, 50, 51, 52, 53, 54, 55, 56, 57, 58, 21, 22, 23, 73, 74, 75, 76] (by decide +kernel) (by decide +kernel)
set_option maxRecDepth 20000 in
theorem gX3_reason_X4_canBear : GoodIn wsX3_reason (wsV RX3 127 RX4 yX4_canBear wsX4_canBear) := goodIn_app (goodIn_of _ (by decide +kernel)) ggX3_reason_X4_canBear
theorem dX3_reason_0 : decode cX3_reason 0 = .ok (.aload_n 0, 1) := by decide +kernel
theorem dX3_reason_1 : decode cX3_reason 1 = .ok (.invokevirtual 109, 3) := by decide +kernel
theorem dX3_reason_4 : decode cX3_reason 4 = .ok (.aload_n 0, 1) := by decide +kernel
theorem dX3_reason_5 : decode cX3_reason 5 = .ok (.getfield 15, 3) := by decide +kernel
theorem dX3_reason_8 : decode cX3_reason 8 = .ok (.iconst 1, 1) := by decide +kernel
theorem dX3_reason_9 : decode cX3_reason 9 = .ok (.invokestatic 96, 3) := by decide +kernel
theorem dX3_reason_12 : decode cX3_reason 12 = .ok (.if_icmp .le 5, 3) := by decide +kernel
theorem dX3_reason_15 : decode cX3_reason 15 = .ok (.iconst 1, 1) := by decide +kernel
theorem dX3_reason_16 : decode cX3_reason 16 = .ok (.ireturn, 1) := by decide +kernel
theorem dX3_reason_17 : decode cX3_reason 17 = .ok (.aload_n 0, 1) := by decide +kernel
theorem dX3_reason_18 : decode cX3_reason 18 = .ok (.getfield 46, 3) := by decide +kernel
theorem dX3_reason_21 : decode cX3_reason 21 = .ok (.getfield 124, 3) := by decide +kernel
theorem dX3_reason_24 : decode cX3_reason 24 = .ok (.bipush 25, 2) := by decide +kernel
theorem dX3_reason_26 : decode cX3_reason 26 = .ok (.if_icmp .le 5, 3) := by decide +kernel
theorem dX3_reason_29 : decode cX3_reason 29 = .ok (.iconst 2, 1) := by decide +kernel
theorem dX3_reason_30 : decode cX3_reason 30 = .ok (.ireturn, 1) := by decide +kernel
theorem dX3_reason_31 : decode cX3_reason 31 = .ok (.aload_n 0, 1) := by decide +kernel
theorem dX3_reason_32 : decode cX3_reason 32 = .ok (.getfield 46, 3) := by decide +kernel
theorem dX3_reason_35 : decode cX3_reason 35 = .ok (.aload_n 0, 1) := by decide +kernel
theorem dX3_reason_36 : decode cX3_reason 36 = .ok (.iconst 0, 1) := by decide +kernel
theorem dX3_reason_37 : decode cX3_reason 37 = .ok (.invokevirtual 103, 3) := by decide +kernel
theorem dX3_reason_40 : decode cX3_reason 40 = .ok (.aload_n 0, 1) := by decide +kernel
theorem dX3_reason_41 : decode cX3_reason 41 = .ok (.invokevirtual 106, 3) := by decide +kernel
theorem dX3_reason_44 : decode cX3_reason 44 = .ok (.aload_n 0, 1) := by decide +kernel
theorem dX3_reason_45 : decode cX3_reason 45 = .ok (.invokevirtual 109, 3) := by decide +kernel
theorem dX3_reason_48 : decode cX3_reason 48 = .ok (.aload_n 0, 1) := by decide +kernel
theorem dX3_reason_49 : decode cX3_reason 49 = .ok (.getfield 15, 3) := by decide +kernel
theorem dX3_reason_52 : decode cX3_reason 52 = .ok (.iconst 0, 1) := by decide +kernel
theorem dX3_reason_53 : decode cX3_reason 53 = .ok (.invokestatic 96, 3) := by decide +kernel
theorem dX3_reason_56 : decode cX3_reason 56 = .ok (.invokevirtual 127, 3) := by decide +kernel
theorem dX3_reason_59 : decode cX3_reason 59 = .ok (.istore_n 1, 1) := by decide +kernel
theorem dX3_reason_60 : decode cX3_reason 60 = .ok (.iload_n 1, 1) := by decide +kernel
theorem dX3_reason_61 : decode cX3_reason 61 = .ok (.ifCond .eq 7, 3) := by decide +kernel
theorem dX3_reason_64 : decode cX3_reason 64 = .ok (.iconst 0, 1) := by decide +kernel
theorem dX3_reason_65 : decode cX3_reason 65 = .ok (.goto 4, 3) := by decide +kernel
theorem dX3_reason_68 : decode cX3_reason 68 = .ok (.iconst 3, 1) := by decide +kernel
theorem dX3_reason_69 : decode cX3_reason 69 = .ok (.ireturn, 1) := by decide +kernel
set_option maxRecDepth 20000 in
theorem ggX3_canArrive_X3_lineAtBank : GoodIn wsX3_canArrive wsX3_lineAtBank := goodIn_r _ [5, 6, 7, 15, 16, 17, 18, 19, 20, 21, 22, 23, 24, 25, 26, 27, 28] (by decide +kernel) (by decide +kernel)
set_option maxRecDepth 20000 in
theorem gX3_canArrive_X3_lineAtBank : GoodIn wsX3_canArrive (wsV RX3 131 RX3 yX3_lineAtBank wsX3_lineAtBank) := goodIn_app (goodIn_of _ (by decide +kernel)) ggX3_canArrive_X3_lineAtBank
set_option maxRecDepth 20000 in
theorem ggX3_canArrive_X1_isFull : GoodIn wsX3_canArrive wsX1_isFull := goodIn_r _ [12, 13, 14, 29, 30, 31, 32] (by decide +kernel) (by decide +kernel)
set_option maxRecDepth 20000 in
theorem gX3_canArrive_X1_isFull : GoodIn wsX3_canArrive (wsV RX3 135 RX1 yX1_isFull wsX1_isFull) := goodIn_app (goodIn_of _ (by decide +kernel)) ggX3_canArrive_X1_isFull
theorem dX3_canArrive_0 : decode cX3_canArrive 0 = .ok (.aload_n 0, 1) := by decide +kernel
theorem dX3_canArrive_1 : decode cX3_canArrive 1 = .ok (.iload_n 1, 1) := by decide +kernel
theorem dX3_canArrive_2 : decode cX3_canArrive 2 = .ok (.invokevirtual 131, 3) := by decide +kernel
theorem dX3_canArrive_5 : decode cX3_canArrive 5 = .ok (.invokevirtual 135, 3) := by decide +kernel
theorem dX3_canArrive_8 : decode cX3_canArrive 8 = .ok (.ifCond .ne 7, 3) := by decide +kernel
theorem dX3_canArrive_11 : decode cX3_canArrive 11 = .ok (.iconst 1, 1) := by decide +kernel
theorem dX3_canArrive_12 : decode cX3_canArrive 12 = .ok (.goto 4, 3) := by decide +kernel
theorem dX3_canArrive_15 : decode cX3_canArrive 15 = .ok (.iconst 0, 1) := by decide +kernel
theorem dX3_canArrive_16 : decode cX3_canArrive 16 = .ok (.ireturn, 1) := by decide +kernel
set_option maxRecDepth 20000 in
theorem ggX3_letArrive_X3_lineAtBank : GoodIn wsX3_letArrive wsX3_lineAtBank := goodIn_r _ [6, 7, 8, 25, 26, 27, 28, 29, 30, 31, 32, 33, 34, 35, 36, 37, 38] (by decide +kernel) (by decide +kernel)
set_option maxRecDepth 20000 in
theorem gX3_letArrive_X3_lineAtBank : GoodIn wsX3_letArrive (wsV RX3 131 RX3 yX3_lineAtBank wsX3_lineAtBank) := goodIn_app (goodIn_of _ (by decide +kernel)) ggX3_letArrive_X3_lineAtBank
set_option maxRecDepth 20000 in
theorem ggX3_letArrive_X1_add : GoodIn wsX3_letArrive wsX1_add := goodIn_r _ [13, 14, 15, 16, 17, 18, 19, 20, 12, 21, 22, 23, 24, 39, 40, 41, 42] (by decide +kernel) (by decide +kernel)
set_option maxRecDepth 20000 in
theorem gX3_letArrive_X1_add : GoodIn wsX3_letArrive (wsV RX3 139 RX1 yX1_add wsX1_add) := goodIn_app (goodIn_of _ (by decide +kernel)) ggX3_letArrive_X1_add
theorem dX3_letArrive_0 : decode cX3_letArrive 0 = .ok (.aload_n 0, 1) := by decide +kernel
theorem dX3_letArrive_1 : decode cX3_letArrive 1 = .ok (.iload_n 1, 1) := by decide +kernel
theorem dX3_letArrive_2 : decode cX3_letArrive 2 = .ok (.invokevirtual 131, 3) := by decide +kernel
theorem dX3_letArrive_5 : decode cX3_letArrive 5 = .ok (.iload_n 2, 1) := by decide +kernel
theorem dX3_letArrive_6 : decode cX3_letArrive 6 = .ok (.iload_n 1, 1) := by decide +kernel
theorem dX3_letArrive_7 : decode cX3_letArrive 7 = .ok (.invokevirtual 139, 3) := by decide +kernel
theorem dX3_letArrive_10 : decode cX3_letArrive 10 = .ok (.aload_n 0, 1) := by decide +kernel
theorem dX3_letArrive_11 : decode cX3_letArrive 11 = .ok (.dup, 1) := by decide +kernel
theorem dX3_letArrive_12 : decode cX3_letArrive 12 = .ok (.getfield 67, 3) := by decide +kernel
theorem dX3_letArrive_15 : decode cX3_letArrive 15 = .ok (.iconst 1, 1) := by decide +kernel
theorem dX3_letArrive_16 : decode cX3_letArrive 16 = .ok (.iadd, 1) := by decide +kernel
theorem dX3_letArrive_17 : decode cX3_letArrive 17 = .ok (.putfield 67, 3) := by decide +kernel
theorem dX3_letArrive_20 : decode cX3_letArrive 20 = .ok (.return_, 1) := by decide +kernel
set_option maxRecDepth 20000 in
theorem ggX3_canDriveOn_X3_lineAtBank : GoodIn wsX3_canDriveOn wsX3_lineAtBank := goodIn_r _ [6, 7, 8, 26, 27, 28, 29, 30, 31, 32, 33, 34, 35, 36, 37, 38, 39] (by decide +kernel) (by decide +kernel)
set_option maxRecDepth 20000 in
theorem gX3_canDriveOn_X3_lineAtBank : GoodIn wsX3_canDriveOn (wsV RX3 131 RX3 yX3_lineAtBank wsX3_lineAtBank) := goodIn_app (goodIn_of _ (by decide +kernel)) ggX3_canDriveOn_X3_lineAtBank
set_option maxRecDepth 20000 in
theorem ggX3_canDriveOn_X1_size : GoodIn wsX3_canDriveOn wsX1_size := goodIn_r _ [13, 14, 40, 41, 42, 43] (by decide +kernel) (by decide +kernel)
set_option maxRecDepth 20000 in
theorem gX3_canDriveOn_X1_size : GoodIn wsX3_canDriveOn (wsV RX3 79 RX1 yX1_size wsX1_size) := goodIn_app (goodIn_of _ (by decide +kernel)) ggX3_canDriveOn_X1_size
set_option maxRecDepth 20000 in
theorem ggX3_canDriveOn_X3_lineOnLane : GoodIn wsX3_canDriveOn wsX3_lineOnLane := goodIn_r _ [18, 19, 20, 26, 27, 28, 29, 30, 31, 32, 33, 34, 35, 36, 37, 38, 39] (by decide +kernel) (by decide +kernel)
set_option maxRecDepth 20000 in
theorem gX3_canDriveOn_X3_lineOnLane : GoodIn wsX3_canDriveOn (wsV RX3 143 RX3 yX3_lineOnLane wsX3_lineOnLane) := goodIn_app (goodIn_of _ (by decide +kernel)) ggX3_canDriveOn_X3_lineOnLane
set_option maxRecDepth 20000 in
theorem ggX3_canDriveOn_X1_isFull : GoodIn wsX3_canDriveOn wsX1_isFull := goodIn_r _ [24, 14, 25, 40, 41, 42, 43] (by decide +kernel) (by decide +kernel)
set_option maxRecDepth 20000 in
theorem gX3_canDriveOn_X1_isFull : GoodIn wsX3_canDriveOn (wsV RX3 135 RX1 yX1_isFull wsX1_isFull) := goodIn_app (goodIn_of _ (by decide +kernel)) ggX3_canDriveOn_X1_isFull
theorem dX3_canDriveOn_0 : decode cX3_canDriveOn 0 = .ok (.aload_n 0, 1) := by decide +kernel
theorem dX3_canDriveOn_1 : decode cX3_canDriveOn 1 = .ok (.aload_n 0, 1) := by decide +kernel
theorem dX3_canDriveOn_2 : decode cX3_canDriveOn 2 = .ok (.getfield 61, 3) := by decide +kernel
theorem dX3_canDriveOn_5 : decode cX3_canDriveOn 5 = .ok (.invokevirtual 131, 3) := by decide +kernel
theorem dX3_canDriveOn_8 : decode cX3_canDriveOn 8 = .ok (.invokevirtual 79, 3) := by decide +kernel
theorem dX3_canDriveOn_11 : decode cX3_canDriveOn 11 = .ok (.ifCond .le 18, 3) := by decide +kernel
theorem dX3_canDriveOn_14 : decode cX3_canDriveOn 14 = .ok (.aload_n 0, 1) := by decide +kernel
theorem dX3_canDriveOn_15 : decode cX3_canDriveOn 15 = .ok (.iload_n 1, 1) := by decide +kernel
theorem dX3_canDriveOn_16 : decode cX3_canDriveOn 16 = .ok (.invokevirtual 143, 3) := by decide +kernel
theorem dX3_canDriveOn_19 : decode cX3_canDriveOn 19 = .ok (.invokevirtual 135, 3) := by decide +kernel
theorem dX3_canDriveOn_22 : decode cX3_canDriveOn 22 = .ok (.ifCond .ne 7, 3) := by decide +kernel
theorem dX3_canDriveOn_25 : decode cX3_canDriveOn 25 = .ok (.iconst 1, 1) := by decide +kernel
theorem dX3_canDriveOn_26 : decode cX3_canDriveOn 26 = .ok (.goto 4, 3) := by decide +kernel
theorem dX3_canDriveOn_29 : decode cX3_canDriveOn 29 = .ok (.iconst 0, 1) := by decide +kernel
theorem dX3_canDriveOn_30 : decode cX3_canDriveOn 30 = .ok (.ireturn, 1) := by decide +kernel
set_option maxRecDepth 20000 in
theorem ggX3_driveOn_X3_lineAtBank : GoodIn wsX3_driveOn wsX3_lineAtBank := goodIn_r _ [6, 7, 8, 41, 42, 43, 44, 45, 46, 47, 48, 49, 50, 51, 52, 53, 54] (by decide +kernel) (by decide +kernel)
set_option maxRecDepth 20000 in
theorem gX3_driveOn_X3_lineAtBank : GoodIn wsX3_driveOn (wsV RX3 131 RX3 yX3_lineAtBank wsX3_lineAtBank) := goodIn_app (goodIn_of _ (by decide +kernel)) ggX3_driveOn_X3_lineAtBank
set_option maxRecDepth 20000 in
theorem ggX3_driveOn_X1_weightOf : GoodIn wsX3_driveOn wsX1_weightOf := goodIn_r _ [13, 14, 15, 16, 17, 18, 55, 56, 57, 58] (by decide +kernel) (by decide +kernel)
set_option maxRecDepth 20000 in
theorem gX3_driveOn_X1_weightOf : GoodIn wsX3_driveOn (wsV RX3 146 RX1 yX1_weightOf wsX1_weightOf) := goodIn_app (goodIn_of _ (by decide +kernel)) ggX3_driveOn_X1_weightOf
set_option maxRecDepth 20000 in
theorem ggX3_driveOn_X1_removeFirst : GoodIn wsX3_driveOn wsX1_removeFirst := goodIn_r _ [22, 14, 23, 15, 24, 16, 17, 18, 25, 26, 55, 56, 57, 58] (by decide +kernel) (by decide +kernel)
set_option maxRecDepth 20000 in
theorem gX3_driveOn_X1_removeFirst : GoodIn wsX3_driveOn (wsV RX3 149 RX1 yX1_removeFirst wsX1_removeFirst) := goodIn_app (goodIn_of _ (by decide +kernel)) ggX3_driveOn_X1_removeFirst
set_option maxRecDepth 20000 in
theorem ggX3_driveOn_X3_lineOnLane : GoodIn wsX3_driveOn wsX3_lineOnLane := goodIn_r _ [30, 31, 32, 41, 42, 43, 44, 45, 46, 47, 48, 49, 50, 51, 52, 53, 54] (by decide +kernel) (by decide +kernel)
set_option maxRecDepth 20000 in
theorem gX3_driveOn_X3_lineOnLane : GoodIn wsX3_driveOn (wsV RX3 143 RX3 yX3_lineOnLane wsX3_lineOnLane) := goodIn_app (goodIn_of _ (by decide +kernel)) ggX3_driveOn_X3_lineOnLane
set_option maxRecDepth 20000 in
theorem ggX3_driveOn_X1_add : GoodIn wsX3_driveOn wsX1_add := goodIn_r _ [36, 15, 14, 24, 23, 37, 38, 39, 12, 40, 25, 17, 26, 55, 56, 57, 58] (by decide +kernel) (by decide +kernel)
set_option maxRecDepth 20000 in
theorem gX3_driveOn_X1_add : GoodIn wsX3_driveOn (wsV RX3 139 RX1 yX1_add wsX1_add) := goodIn_app (goodIn_of _ (by decide +kernel)) ggX3_driveOn_X1_add
theorem dX3_driveOn_0 : decode cX3_driveOn 0 = .ok (.aload_n 0, 1) := by decide +kernel
theorem dX3_driveOn_1 : decode cX3_driveOn 1 = .ok (.aload_n 0, 1) := by decide +kernel
theorem dX3_driveOn_2 : decode cX3_driveOn 2 = .ok (.getfield 61, 3) := by decide +kernel
theorem dX3_driveOn_5 : decode cX3_driveOn 5 = .ok (.invokevirtual 131, 3) := by decide +kernel
theorem dX3_driveOn_8 : decode cX3_driveOn 8 = .ok (.astore_n 2, 1) := by decide +kernel
theorem dX3_driveOn_9 : decode cX3_driveOn 9 = .ok (.aload_n 2, 1) := by decide +kernel
theorem dX3_driveOn_10 : decode cX3_driveOn 10 = .ok (.iconst 0, 1) := by decide +kernel
theorem dX3_driveOn_11 : decode cX3_driveOn 11 = .ok (.invokevirtual 146, 3) := by decide +kernel
theorem dX3_driveOn_14 : decode cX3_driveOn 14 = .ok (.istore_n 3, 1) := by decide +kernel
theorem dX3_driveOn_15 : decode cX3_driveOn 15 = .ok (.aload_n 2, 1) := by decide +kernel
theorem dX3_driveOn_16 : decode cX3_driveOn 16 = .ok (.invokevirtual 149, 3) := by decide +kernel
theorem dX3_driveOn_19 : decode cX3_driveOn 19 = .ok (.aload_n 0, 1) := by decide +kernel
theorem dX3_driveOn_20 : decode cX3_driveOn 20 = .ok (.iload_n 1, 1) := by decide +kernel
theorem dX3_driveOn_21 : decode cX3_driveOn 21 = .ok (.invokevirtual 143, 3) := by decide +kernel
theorem dX3_driveOn_24 : decode cX3_driveOn 24 = .ok (.iload_n 3, 1) := by decide +kernel
theorem dX3_driveOn_25 : decode cX3_driveOn 25 = .ok (.aload_n 0, 1) := by decide +kernel
theorem dX3_driveOn_26 : decode cX3_driveOn 26 = .ok (.getfield 61, 3) := by decide +kernel
theorem dX3_driveOn_29 : decode cX3_driveOn 29 = .ok (.invokevirtual 139, 3) := by decide +kernel
theorem dX3_driveOn_32 : decode cX3_driveOn 32 = .ok (.iload_n 3, 1) := by decide +kernel
theorem dX3_driveOn_33 : decode cX3_driveOn 33 = .ok (.ireturn, 1) := by decide +kernel
set_option maxRecDepth 20000 in
theorem ggX3_driveOff_X1_countOfBank : GoodIn wsX3_driveOff wsX1_countOfBank := goodIn_r _ [10, 11, 12, 13, 14, 15, 44, 45, 46, 47] (by decide +kernel) (by decide +kernel)
set_option maxRecDepth 20000 in
theorem gX3_driveOff_X1_countOfBank : GoodIn wsX3_driveOff (wsV RX3 152 RX1 yX1_countOfBank wsX1_countOfBank) := goodIn_app (goodIn_of _ (by decide +kernel)) ggX3_driveOff_X1_countOfBank
set_option maxRecDepth 20000 in
theorem ggX3_driveOff_X3_vehiclesOnDeck : GoodIn wsX3_driveOff wsX3_vehiclesOnDeck := goodIn_r _ [20, 1, 3, 21, 22, 23, 9, 24, 11, 30, 31, 32, 33, 34, 35, 36, 37, 38, 39, 40, 41, 42, 43, 44, 45, 46, 47] (by decide +kernel) (by decide +kernel)
set_option maxRecDepth 20000 in
theorem gX3_driveOff_X3_vehiclesOnDeck : GoodIn wsX3_driveOff (wsV RX3 155 RX3 yX3_vehiclesOnDeck wsX3_vehiclesOnDeck) := goodIn_app (goodIn_of _ (by decide +kernel)) ggX3_driveOff_X3_vehiclesOnDeck
set_option maxRecDepth 20000 in
theorem ggX3_driveOff_X1_clear : GoodIn wsX3_driveOff wsX1_clear := goodIn_r _ [28, 11, 29, 44, 45, 46, 47] (by decide +kernel) (by decide +kernel)
set_option maxRecDepth 20000 in
theorem gX3_driveOff_X1_clear : GoodIn wsX3_driveOff (wsV RX3 158 RX1 yX1_clear wsX1_clear) := goodIn_app (goodIn_of _ (by decide +kernel)) ggX3_driveOff_X1_clear
theorem dX3_driveOff_0 : decode cX3_driveOff 0 = .ok (.aload_n 0, 1) := by decide +kernel
theorem dX3_driveOff_1 : decode cX3_driveOff 1 = .ok (.getfield 37, 3) := by decide +kernel
theorem dX3_driveOff_4 : decode cX3_driveOff 4 = .ok (.aload_n 0, 1) := by decide +kernel
