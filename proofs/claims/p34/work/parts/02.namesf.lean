set_option maxRecDepth 20000 in
theorem ggX5_leastList_X3_leastListWith : GoodIn wsX5_leastList wsX3_leastListWith := goodIn_r _ [12, 13, 14, 15, 16, 17, 18, 19, 20, 11, 21, 22, 23, 24, 25, 26, 27, 28, 29, 30, 31, 32, 33, 34, 35, 36, 37, 38, 39, 40, 41, 42, 43, 44, 45, 46, 47, 48, 49, 50, 51, 52, 53, 54, 55, 56, 57, 58, 59, 60, 6, 61, 68, 69, 70, 71, 72, 73, 74, 75, 76, 77, 78, 79, 80, 81, 82, 83, 84, 85] (by decide +kernel) (by decide +kernel)
set_option maxRecDepth 20000 in
theorem gX5_leastList_X3_leastListWith : GoodIn wsX5_leastList (wsV RX5 268 RX3 yX3_leastListWith wsX3_leastListWith) := goodIn_app (goodIn_of _ (by decide +kernel)) ggX5_leastList_X3_leastListWith
theorem dX5_leastList_0 : decode cX5_leastList 0 = .ok (.iload_n 1, 1) := by decide +kernel
theorem dX5_leastList_1 : decode cX5_leastList 1 = .ok (.iconst 0, 1) := by decide +kernel
theorem dX5_leastList_2 : decode cX5_leastList 2 = .ok (.bipush 8, 2) := by decide +kernel
theorem dX5_leastList_4 : decode cX5_leastList 4 = .ok (.invokestatic 40, 3) := by decide +kernel
theorem dX5_leastList_7 : decode cX5_leastList 7 = .ok (.ifCond .ne 14, 3) := by decide +kernel
theorem dX5_leastList_10 : decode cX5_leastList 10 = .ok (.new 51, 3) := by decide +kernel
theorem dX5_leastList_13 : decode cX5_leastList 13 = .ok (.dup, 1) := by decide +kernel
theorem dX5_leastList_14 : decode cX5_leastList 14 = .ok (.ldc_w 266, 3) := by decide +kernel
theorem dX5_leastList_17 : decode cX5_leastList 17 = .ok (.invokespecial 55, 3) := by decide +kernel
theorem dX5_leastList_20 : decode cX5_leastList 20 = .ok (.athrow, 1) := by decide +kernel
theorem dX5_leastList_21 : decode cX5_leastList 21 = .ok (.aload_n 0, 1) := by decide +kernel
theorem dX5_leastList_22 : decode cX5_leastList 22 = .ok (.getfield 10, 3) := by decide +kernel
theorem dX5_leastList_25 : decode cX5_leastList 25 = .ok (.iload_n 1, 1) := by decide +kernel
theorem dX5_leastList_26 : decode cX5_leastList 26 = .ok (.invokevirtual 268, 3) := by decide +kernel
theorem dX5_leastList_29 : decode cX5_leastList 29 = .ok (.ireturn, 1) := by decide +kernel
set_option maxRecDepth 20000 in
theorem ggX5_lasts_X3_copyFrom : GoodIn wsX5_lasts wsX3_copyFrom := goodIn_r _ [7, 8, 9, 10, 11, 12, 13, 14, 15, 16, 17, 18, 19, 20, 21, 22, 23, 24, 25, 26, 27, 28, 29, 30, 31, 32, 33, 34, 35, 36, 37, 38, 39, 40, 41, 42, 43, 44, 45, 46, 47, 48, 49, 50, 121, 122, 123, 124, 125, 126, 127, 128, 129, 130, 131, 132, 133, 134, 135, 136, 137, 138, 139, 140, 141, 142] (by decide +kernel) (by decide +kernel)
set_option maxRecDepth 20000 in
theorem gX5_lasts_X3_copyFrom : GoodIn wsX5_lasts (wsV RX5 188 RX3 yX3_copyFrom wsX3_copyFrom) := goodIn_app (goodIn_of _ (by decide +kernel)) ggX5_lasts_X3_copyFrom
set_option maxRecDepth 20000 in
theorem ggX5_lasts_X3_reason : GoodIn wsX5_lasts wsX3_reason := goodIn_r _ [54, 9, 14, 55, 56, 57, 58, 6, 59, 12, 13, 60, 61, 27, 62, 63, 64, 65, 36, 66, 41, 67, 23, 68, 69, 70, 71, 72, 8, 15, 73, 74, 75, 76, 77, 78, 79, 80, 81, 82, 83, 45, 84, 85, 86, 87, 88, 89, 26, 28, 48, 90, 91, 92, 93, 94, 95, 96, 47, 121, 122, 123, 124, 125, 126, 127, 128, 129, 130, 131, 132, 133, 134, 139, 140, 141, 142, 135, 136, 137, 138] (by decide +kernel) (by decide +kernel)
set_option maxRecDepth 20000 in
theorem gX5_lasts_X3_reason : GoodIn wsX5_lasts (wsV RX5 113 RX3 yX3_reason wsX3_reason) := goodIn_app (goodIn_of _ (by decide +kernel)) ggX5_lasts_X3_reason
set_option maxRecDepth 20000 in
theorem ggX5_lasts_X3_crossRiver : GoodIn wsX5_lasts wsX3_crossRiver := goodIn_r _ [100, 14, 9, 55, 16, 17, 69, 70, 71, 6, 72, 8, 15, 73, 74, 75, 76, 67, 23, 68, 77, 78, 79, 80, 12, 13, 63, 64, 65, 36, 66, 41, 56, 57, 58, 59, 60, 61, 27, 62, 101, 102, 103, 45, 104, 49, 47, 90, 91, 92, 89, 26, 28, 48, 85, 86, 87, 88, 105, 106, 107, 108, 109, 110, 21, 10, 11, 111, 112, 113, 114, 40, 121, 122, 123, 124, 125, 126, 127, 128, 129, 130, 131, 132, 133, 134, 139, 140, 141, 142, 135, 136, 137, 138] (by decide +kernel) (by decide +kernel)
set_option maxRecDepth 20000 in
theorem gX5_lasts_X3_crossRiver : GoodIn wsX5_lasts (wsV RX5 118 RX3 yX3_crossRiver wsX3_crossRiver) := goodIn_app (goodIn_of _ (by decide +kernel)) ggX5_lasts_X3_crossRiver
theorem dX5_lasts_0 : decode cX5_lasts 0 = .ok (.aload_n 0, 1) := by decide +kernel
theorem dX5_lasts_1 : decode cX5_lasts 1 = .ok (.getfield 16, 3) := by decide +kernel
theorem dX5_lasts_4 : decode cX5_lasts 4 = .ok (.aload_n 0, 1) := by decide +kernel
theorem dX5_lasts_5 : decode cX5_lasts 5 = .ok (.getfield 10, 3) := by decide +kernel
theorem dX5_lasts_8 : decode cX5_lasts 8 = .ok (.invokevirtual 188, 3) := by decide +kernel
theorem dX5_lasts_11 : decode cX5_lasts 11 = .ok (.iconst 0, 1) := by decide +kernel
theorem dX5_lasts_12 : decode cX5_lasts 12 = .ok (.istore_n 1, 1) := by decide +kernel
theorem dX5_lasts_13 : decode cX5_lasts 13 = .ok (.iload_n 1, 1) := by decide +kernel
theorem dX5_lasts_14 : decode cX5_lasts 14 = .ok (.bipush 100, 2) := by decide +kernel
theorem dX5_lasts_16 : decode cX5_lasts 16 = .ok (.if_icmp .ge 27, 3) := by decide +kernel
theorem dX5_lasts_19 : decode cX5_lasts 19 = .ok (.aload_n 0, 1) := by decide +kernel
theorem dX5_lasts_20 : decode cX5_lasts 20 = .ok (.getfield 16, 3) := by decide +kernel
theorem dX5_lasts_23 : decode cX5_lasts 23 = .ok (.invokevirtual 113, 3) := by decide +kernel
theorem dX5_lasts_26 : decode cX5_lasts 26 = .ok (.ifCond .ne 17, 3) := by decide +kernel
theorem dX5_lasts_29 : decode cX5_lasts 29 = .ok (.aload_n 0, 1) := by decide +kernel
theorem dX5_lasts_30 : decode cX5_lasts 30 = .ok (.getfield 16, 3) := by decide +kernel
theorem dX5_lasts_33 : decode cX5_lasts 33 = .ok (.invokevirtual 118, 3) := by decide +kernel
theorem dX5_lasts_36 : decode cX5_lasts 36 = .ok (.pop, 1) := by decide +kernel
theorem dX5_lasts_37 : decode cX5_lasts 37 = .ok (.iinc 1 1, 3) := by decide +kernel
theorem dX5_lasts_40 : decode cX5_lasts 40 = .ok (.goto (-27), 3) := by decide +kernel
theorem dX5_lasts_43 : decode cX5_lasts 43 = .ok (.iload_n 1, 1) := by decide +kernel
theorem dX5_lasts_44 : decode cX5_lasts 44 = .ok (.ireturn, 1) := by decide +kernel
set_option maxRecDepth 20000 in
theorem ggX5_needed_X3_reason : GoodIn wsX5_needed wsX3_reason := goodIn_r _ [7, 8, 9, 10, 11, 12, 13, 6, 14, 15, 16, 17, 18, 19, 20, 21, 22, 23, 24, 25, 26, 27, 28, 29, 30, 31, 32, 33, 34, 35, 36, 37, 38, 39, 40, 41, 42, 43, 44, 45, 46, 47, 48, 49, 50, 51, 52, 53, 54, 55, 56, 57, 58, 59, 60, 61, 62, 63, 64, 126, 127, 128, 129, 130, 131, 132, 133, 134, 135, 136, 137, 138, 139, 140, 141, 142, 143, 144, 145, 146, 147] (by decide +kernel) (by decide +kernel)
set_option maxRecDepth 20000 in
theorem gX5_needed_X3_reason : GoodIn wsX5_needed (wsV RX5 113 RX3 yX3_reason wsX3_reason) := goodIn_app (goodIn_of _ (by decide +kernel)) ggX5_needed_X3_reason
set_option maxRecDepth 20000 in
theorem ggX5_needed_X3_canDrawThrough : GoodIn wsX5_needed wsX3_canDrawThrough := goodIn_r _ [68, 9, 69, 126, 127, 128, 129, 130, 131, 132, 133, 134, 135, 136, 137, 138, 139, 140, 141, 142, 143] (by decide +kernel) (by decide +kernel)
set_option maxRecDepth 20000 in
theorem gX5_needed_X3_canDrawThrough : GoodIn wsX5_needed (wsV RX5 133 RX3 yX3_canDrawThrough wsX3_canDrawThrough) := goodIn_app (goodIn_of _ (by decide +kernel)) ggX5_needed_X3_canDrawThrough
set_option maxRecDepth 20000 in
theorem ggX5_needed_X3_copyFrom : GoodIn wsX5_needed wsX3_copyFrom := goodIn_r _ [73, 34, 8, 74, 75, 15, 16, 9, 35, 76, 77, 78, 79, 80, 81, 82, 28, 83, 84, 54, 19, 55, 85, 86, 87, 88, 89, 90, 91, 24, 92, 93, 94, 95, 26, 96, 97, 98, 47, 99, 64, 56, 100, 101, 126, 127, 128, 129, 130, 131, 132, 133, 134, 135, 136, 137, 138, 139, 144, 145, 146, 147, 140, 141, 142, 143] (by decide +kernel) (by decide +kernel)
set_option maxRecDepth 20000 in
theorem gX5_needed_X3_copyFrom : GoodIn wsX5_needed (wsV RX5 188 RX3 yX3_copyFrom wsX3_copyFrom) := goodIn_app (goodIn_of _ (by decide +kernel)) ggX5_needed_X3_copyFrom
set_option maxRecDepth 20000 in
theorem ggX5_needed_X3_drawThrough : GoodIn wsX5_needed wsX3_drawThrough := goodIn_r _ [105, 9, 106, 107, 108, 47, 109, 64, 101, 56, 100, 27, 28, 29, 110, 111, 112, 113, 114, 6, 115, 35, 81, 74, 75, 116, 117, 118, 24, 119, 95, 126, 127, 128, 129, 130, 131, 132, 133, 134, 135, 136, 137, 138, 139, 140, 141, 142, 143, 144, 145, 146, 147] (by decide +kernel) (by decide +kernel)
set_option maxRecDepth 20000 in
theorem gX5_needed_X3_drawThrough : GoodIn wsX5_needed (wsV RX5 138 RX3 yX3_drawThrough wsX3_drawThrough) := goodIn_app (goodIn_of _ (by decide +kernel)) ggX5_needed_X3_drawThrough
theorem dX5_needed_0 : decode cX5_needed 0 = .ok (.aload_n 0, 1) := by decide +kernel
theorem dX5_needed_1 : decode cX5_needed 1 = .ok (.getfield 10, 3) := by decide +kernel
theorem dX5_needed_4 : decode cX5_needed 4 = .ok (.invokevirtual 113, 3) := by decide +kernel
theorem dX5_needed_7 : decode cX5_needed 7 = .ok (.ifCond .ne 5, 3) := by decide +kernel
theorem dX5_needed_10 : decode cX5_needed 10 = .ok (.iconst 0, 1) := by decide +kernel
theorem dX5_needed_11 : decode cX5_needed 11 = .ok (.ireturn, 1) := by decide +kernel
theorem dX5_needed_12 : decode cX5_needed 12 = .ok (.iconst 1, 1) := by decide +kernel
theorem dX5_needed_13 : decode cX5_needed 13 = .ok (.istore_n 1, 1) := by decide +kernel
theorem dX5_needed_14 : decode cX5_needed 14 = .ok (.iload_n 1, 1) := by decide +kernel
theorem dX5_needed_15 : decode cX5_needed 15 = .ok (.iconst 5, 1) := by decide +kernel
theorem dX5_needed_16 : decode cX5_needed 16 = .ok (.if_icmp .gt 51, 3) := by decide +kernel
theorem dX5_needed_19 : decode cX5_needed 19 = .ok (.aload_n 0, 1) := by decide +kernel
theorem dX5_needed_20 : decode cX5_needed 20 = .ok (.getfield 10, 3) := by decide +kernel
theorem dX5_needed_23 : decode cX5_needed 23 = .ok (.iload_n 1, 1) := by decide +kernel
theorem dX5_needed_24 : decode cX5_needed 24 = .ok (.invokevirtual 133, 3) := by decide +kernel
theorem dX5_needed_27 : decode cX5_needed 27 = .ok (.ifCond .eq 40, 3) := by decide +kernel
theorem dX5_needed_30 : decode cX5_needed 30 = .ok (.aload_n 0, 1) := by decide +kernel
theorem dX5_needed_31 : decode cX5_needed 31 = .ok (.getfield 16, 3) := by decide +kernel
theorem dX5_needed_34 : decode cX5_needed 34 = .ok (.aload_n 0, 1) := by decide +kernel
theorem dX5_needed_35 : decode cX5_needed 35 = .ok (.getfield 10, 3) := by decide +kernel
theorem dX5_needed_38 : decode cX5_needed 38 = .ok (.invokevirtual 188, 3) := by decide +kernel
theorem dX5_needed_41 : decode cX5_needed 41 = .ok (.aload_n 0, 1) := by decide +kernel
theorem dX5_needed_42 : decode cX5_needed 42 = .ok (.getfield 16, 3) := by decide +kernel
theorem dX5_needed_45 : decode cX5_needed 45 = .ok (.iload_n 1, 1) := by decide +kernel
theorem dX5_needed_46 : decode cX5_needed 46 = .ok (.invokevirtual 138, 3) := by decide +kernel
theorem dX5_needed_49 : decode cX5_needed 49 = .ok (.aload_n 0, 1) := by decide +kernel
theorem dX5_needed_50 : decode cX5_needed 50 = .ok (.getfield 16, 3) := by decide +kernel
theorem dX5_needed_53 : decode cX5_needed 53 = .ok (.invokevirtual 113, 3) := by decide +kernel
theorem dX5_needed_56 : decode cX5_needed 56 = .ok (.ifCond .ne 5, 3) := by decide +kernel
theorem dX5_needed_59 : decode cX5_needed 59 = .ok (.iload_n 1, 1) := by decide +kernel
theorem dX5_needed_60 : decode cX5_needed 60 = .ok (.ireturn, 1) := by decide +kernel
theorem dX5_needed_61 : decode cX5_needed 61 = .ok (.iinc 1 1, 3) := by decide +kernel
theorem dX5_needed_64 : decode cX5_needed 64 = .ok (.goto (-50), 3) := by decide +kernel
theorem dX5_needed_67 : decode cX5_needed 67 = .ok (.iconst (-1), 1) := by decide +kernel
theorem dX5_needed_68 : decode cX5_needed 68 = .ok (.ireturn, 1) := by decide +kernel
set_option maxRecDepth 20000 in
theorem ggX5_wornShare_X4_wearTogether : GoodIn wsX5_wornShare wsX4_wearTogether := goodIn_r _ [8, 9, 10, 11, 12, 33, 34, 35, 36] (by decide +kernel) (by decide +kernel)
set_option maxRecDepth 20000 in
theorem gX5_wornShare_X4_wearTogether : GoodIn wsX5_wornShare (wsV RX5 271 RX4 yX4_wearTogether wsX4_wearTogether) := goodIn_app (goodIn_of _ (by decide +kernel)) ggX5_wornShare_X4_wearTogether
theorem dX5_wornShare_0 : decode cX5_wornShare 0 = .ok (.aload_n 0, 1) := by decide +kernel
theorem dX5_wornShare_1 : decode cX5_wornShare 1 = .ok (.getfield 10, 3) := by decide +kernel
theorem dX5_wornShare_4 : decode cX5_wornShare 4 = .ok (.getfield 141, 3) := by decide +kernel
theorem dX5_wornShare_7 : decode cX5_wornShare 7 = .ok (.invokevirtual 271, 3) := by decide +kernel
theorem dX5_wornShare_10 : decode cX5_wornShare 10 = .ok (.i2f, 1) := by decide +kernel
theorem dX5_wornShare_11 : decode cX5_wornShare 11 = .ok (.ldc_w 274, 3) := by decide +kernel
theorem dX5_wornShare_14 : decode cX5_wornShare 14 = .ok (.fdiv, 1) := by decide +kernel
theorem dX5_wornShare_15 : decode cX5_wornShare 15 = .ok (.freturn, 1) := by decide +kernel
theorem dX5_carriedShare_0 : decode cX5_carriedShare 0 = .ok (.aload_n 0, 1) := by decide +kernel
theorem dX5_carriedShare_1 : decode cX5_carriedShare 1 = .ok (.getfield 10, 3) := by decide +kernel
theorem dX5_carriedShare_4 : decode cX5_carriedShare 4 = .ok (.getfield 249, 3) := by decide +kernel
theorem dX5_carriedShare_7 : decode cX5_carriedShare 7 = .ok (.aload_n 0, 1) := by decide +kernel
theorem dX5_carriedShare_8 : decode cX5_carriedShare 8 = .ok (.getfield 10, 3) := by decide +kernel
theorem dX5_carriedShare_11 : decode cX5_carriedShare 11 = .ok (.getfield 252, 3) := by decide +kernel
theorem dX5_carriedShare_14 : decode cX5_carriedShare 14 = .ok (.iadd, 1) := by decide +kernel
theorem dX5_carriedShare_15 : decode cX5_carriedShare 15 = .ok (.istore_n 1, 1) := by decide +kernel
theorem dX5_carriedShare_16 : decode cX5_carriedShare 16 = .ok (.iload_n 1, 1) := by decide +kernel
theorem dX5_carriedShare_17 : decode cX5_carriedShare 17 = .ok (.ifCond .ne 5, 3) := by decide +kernel
theorem dX5_carriedShare_20 : decode cX5_carriedShare 20 = .ok (.dconst 1, 1) := by decide +kernel
theorem dX5_carriedShare_21 : decode cX5_carriedShare 21 = .ok (.dreturn, 1) := by decide +kernel
theorem dX5_carriedShare_22 : decode cX5_carriedShare 22 = .ok (.aload_n 0, 1) := by decide +kernel
theorem dX5_carriedShare_23 : decode cX5_carriedShare 23 = .ok (.getfield 10, 3) := by decide +kernel
theorem dX5_carriedShare_26 : decode cX5_carriedShare 26 = .ok (.getfield 249, 3) := by decide +kernel
theorem dX5_carriedShare_29 : decode cX5_carriedShare 29 = .ok (.i2d, 1) := by decide +kernel
theorem dX5_carriedShare_30 : decode cX5_carriedShare 30 = .ok (.iload_n 1, 1) := by decide +kernel
theorem dX5_carriedShare_31 : decode cX5_carriedShare 31 = .ok (.i2d, 1) := by decide +kernel
theorem dX5_carriedShare_32 : decode cX5_carriedShare 32 = .ok (.ddiv, 1) := by decide +kernel
theorem dX5_carriedShare_33 : decode cX5_carriedShare 33 = .ok (.dreturn, 1) := by decide +kernel
set_option maxRecDepth 20000 in
theorem ggX5_digest_X5_mixCounts : GoodIn wsX5_digest wsX5_mixCounts := goodIn_ca (goodIn_r _ [7, 8, 9, 10, 6, 11, 12, 13, 14, 15, 16, 17, 18, 19, 20, 21, 22, 23, 24, 25, 26, 27, 28, 29, 30, 31, 32, 33, 34, 35, 36, 37, 38, 39, 40, 41, 42, 43, 44, 45, 46, 47, 48, 49, 50, 51, 52, 53, 54, 55, 56, 57, 58, 59, 60, 61, 62, 63, 64, 65, 66, 356, 357, 358, 359, 360, 361, 362, 363, 364, 365, 366, 367, 368, 369, 370, 371, 372, 373, 374, 375, 376, 377, 378, 379, 380, 381, 382, 383, 384, 385, 386] (by decide +kernel) (by decide +kernel)) (goodIn_sub (fun _ h => List.mem_cons_of_mem _ (List.mem_append_left _ (List.mem_append_right _ h))) (by decide +kernel))
set_option maxRecDepth 20000 in
theorem gX5_digest_X5_mixCounts : GoodIn wsX5_digest (wsV RX5 277 RX5 yX5_mixCounts wsX5_mixCounts) := goodIn_app (goodIn_of _ (by decide +kernel)) ggX5_digest_X5_mixCounts
set_option maxRecDepth 20000 in
theorem ggX5_digest_X5_mixRiverAndWire : GoodIn wsX5_digest wsX5_mixRiverAndWire := goodIn_ca (goodIn_ca (goodIn_r _ [70, 71, 72, 73, 6, 74, 75, 76, 14, 77, 78, 79, 80, 81, 82, 83, 63, 64, 65, 66, 84, 85, 86, 87, 88, 89, 90, 91, 92, 12, 13, 17, 93, 94, 95, 96, 97, 98, 99, 100, 101, 30, 102, 103, 104, 105, 106, 107, 108, 109, 110, 55, 111, 112, 113, 114, 115, 116, 117, 118, 119, 120, 121, 122, 123, 124, 125, 126, 41, 42, 43, 32, 33, 44, 45, 46, 37, 47, 48, 127, 50, 51, 52, 53, 54, 56, 128, 129, 130, 131, 132, 133, 134, 135, 356, 357, 358, 359, 360, 361, 362, 363, 364, 365, 366, 367, 368, 369, 370, 371, 372, 373, 374, 375, 376, 377, 378, 379, 380, 381, 382, 383] (by decide +kernel) (by decide +kernel)) (goodIn_sub (fun _ h => List.mem_cons_of_mem _ (List.mem_append_right _ h)) (by decide +kernel))) (goodIn_sub (fun _ h => List.mem_cons_of_mem _ (List.mem_append_left _ (List.mem_append_right _ h))) (by decide +kernel))
set_option maxRecDepth 20000 in
theorem gX5_digest_X5_mixRiverAndWire : GoodIn wsX5_digest (wsV RX5 281 RX5 yX5_mixRiverAndWire wsX5_mixRiverAndWire) := goodIn_app (goodIn_of _ (by decide +kernel)) ggX5_digest_X5_mixRiverAndWire
set_option maxRecDepth 20000 in
theorem ggX5_digest_X5_mixVehicles : GoodIn wsX5_digest wsX5_mixVehicles := goodIn_r _ [139, 14, 140, 141, 142, 30, 143, 144, 145, 146, 35, 36, 37, 38, 39, 63, 64, 6, 65, 66, 147, 148, 149, 150, 151, 82, 83, 152, 153, 154, 155, 32, 33, 156, 157, 158, 159, 160, 356, 357, 358, 359, 360, 361, 362, 363, 364, 365, 366, 367, 368, 369, 370, 371, 372, 373, 374, 375, 380, 381, 382, 383] (by decide +kernel) (by decide +kernel)
set_option maxRecDepth 20000 in
theorem gX5_digest_X5_mixVehicles : GoodIn wsX5_digest (wsV RX5 284 RX5 yX5_mixVehicles wsX5_mixVehicles) := goodIn_app (goodIn_of _ (by decide +kernel)) ggX5_digest_X5_mixVehicles
set_option maxRecDepth 20000 in
theorem ggX5_digest_X5_mixOutlook : GoodIn wsX5_digest wsX5_mixOutlook := goodIn_ca (goodIn_ca (goodIn_r _ [164, 165, 166, 167, 6, 168, 14, 169, 170, 171, 30, 172, 104, 103, 173, 127, 50, 51, 52, 32, 33, 53, 54, 55, 56, 44, 45, 46, 37, 47, 48, 82, 83, 116, 117, 118, 119, 120, 121, 122, 123, 124, 125, 126, 41, 42, 43, 174, 175, 176, 96, 177, 178, 129, 130, 131, 132, 133, 134, 135, 109, 110, 111, 179, 106, 107, 108, 98, 63, 64, 65, 66, 180, 181, 182, 183, 184, 185, 186, 187, 188, 100, 101, 102, 105, 189, 113, 114, 115, 128, 190, 191, 192, 193, 75, 76, 194, 78, 79, 80, 195, 196, 197, 198, 199, 200, 141, 142, 143, 144, 145, 34, 35, 36, 38, 39, 201, 153, 154, 155, 202, 203, 204, 205, 151, 206, 207, 208, 209, 210, 211, 212, 213, 214, 215, 216, 217, 218, 219, 220, 221, 222, 223, 224, 225, 160, 226, 227, 228, 229, 230, 231, 232, 233, 234, 235, 236, 148, 149, 150, 237, 238, 239, 240, 241, 242, 243, 244, 245, 246, 247, 248, 249, 250, 251, 252, 253, 254, 255, 256, 257, 258, 259, 260, 261, 262, 263, 12, 13, 264, 265, 266, 267, 268, 269, 270, 271, 272, 273, 274, 275, 276, 277, 278, 279, 280, 281, 282, 283, 284, 285, 286, 287, 288, 289, 290, 291, 292, 293, 294, 295, 296, 297, 298, 299, 300, 301, 302, 303, 304, 305, 306, 307, 308, 309, 310, 311, 312, 313, 314, 315, 316, 356, 357, 358, 359, 360, 361, 362, 363, 364, 365, 366, 367, 368, 369, 370, 371, 372, 373, 374, 375, 376, 377, 378, 379, 380, 381, 382, 383] (by decide +kernel) (by decide +kernel)) (goodIn_sub (fun _ h => List.mem_cons_of_mem _ (List.mem_append_right _ h)) (by decide +kernel))) (goodIn_sub (fun _ h => List.mem_cons_of_mem _ (List.mem_append_left _ (List.mem_append_right _ h))) (by decide +kernel))
set_option maxRecDepth 20000 in
theorem gX5_digest_X5_mixOutlook : GoodIn wsX5_digest (wsV RX5 287 RX5 yX5_mixOutlook wsX5_mixOutlook) := goodIn_app (goodIn_of _ (by decide +kernel)) ggX5_digest_X5_mixOutlook
set_option maxRecDepth 20000 in
theorem ggX5_digest_X5_wornShare : GoodIn wsX5_digest wsX5_wornShare := goodIn_r _ [320, 14, 17, 321, 322, 323, 324, 96, 325, 98, 82, 6, 83, 356, 357, 358, 359, 360, 361, 362, 363, 364, 365, 366, 367, 368, 369, 370, 371, 372, 373, 374, 375, 376, 377, 378, 379] (by decide +kernel) (by decide +kernel)
set_option maxRecDepth 20000 in
theorem gX5_digest_X5_wornShare : GoodIn wsX5_digest (wsV RX5 290 RX5 yX5_wornShare wsX5_wornShare) := goodIn_app (goodIn_of _ (by decide +kernel)) ggX5_digest_X5_wornShare
set_option maxRecDepth 20000 in
theorem ggX5_digest_X5_floatBits : GoodIn wsX5_digest wsX5_floatBits := goodIn_r _ [328, 329] (by decide +kernel) (by decide +kernel)
set_option maxRecDepth 20000 in
theorem gX5_digest_X5_floatBits : GoodIn wsX5_digest (va_wsS RX5 294 yX5_floatBits wsX5_floatBits) := goodIn_app (goodIn_of _ (by decide +kernel)) ggX5_digest_X5_floatBits
set_option maxRecDepth 20000 in
theorem ggX5_digest_X5_mix : GoodIn wsX5_digest wsX5_mix := goodIn_r _ [65, 66] (by decide +kernel) (by decide +kernel)
set_option maxRecDepth 20000 in
theorem gX5_digest_X5_mix : GoodIn wsX5_digest (va_wsS RX5 298 yX5_mix wsX5_mix) := goodIn_app (goodIn_of _ (by decide +kernel)) ggX5_digest_X5_mix
set_option maxRecDepth 20000 in
theorem ggX5_digest_X5_carriedShare : GoodIn wsX5_digest wsX5_carriedShare := goodIn_r _ [333, 14, 23, 24, 356, 357, 358, 359, 360, 361, 362, 363, 364, 365, 366, 367, 368, 369, 370, 371, 372, 373, 374, 375] (by decide +kernel) (by decide +kernel)
set_option maxRecDepth 20000 in
theorem gX5_digest_X5_carriedShare : GoodIn wsX5_digest (wsV RX5 302 RX5 yX5_carriedShare wsX5_carriedShare) := goodIn_app (goodIn_of _ (by decide +kernel)) ggX5_digest_X5_carriedShare
set_option maxRecDepth 20000 in
theorem ggX5_digest_X5_doubleBits : GoodIn wsX5_digest wsX5_doubleBits := goodIn_r _ [336, 337, 338, 339] (by decide +kernel) (by decide +kernel)
set_option maxRecDepth 20000 in
theorem gX5_digest_X5_doubleBits : GoodIn wsX5_digest (va_wsS RX5 306 yX5_doubleBits wsX5_doubleBits) := goodIn_app (goodIn_of _ (by decide +kernel)) ggX5_digest_X5_doubleBits
set_option maxRecDepth 20000 in
theorem ggX5_digest_X5_mixBuffer : GoodIn wsX5_digest wsX5_mixBuffer := goodIn_r _ [343, 344, 345, 346, 347, 348, 349, 350, 63, 64, 6, 65, 66, 351, 352, 353, 354, 355, 82, 83, 356, 357, 358, 359, 360, 361, 387, 388, 389, 390] (by decide +kernel) (by decide +kernel)
set_option maxRecDepth 20000 in
theorem gX5_digest_X5_mixBuffer : GoodIn wsX5_digest (wsV RX5 310 RX5 yX5_mixBuffer wsX5_mixBuffer) := goodIn_app (goodIn_of _ (by decide +kernel)) ggX5_digest_X5_mixBuffer
theorem dX5_digest_0 : decode cX5_digest 0 = .ok (.ldc2_w 275, 3) := by decide +kernel
theorem dX5_digest_3 : decode cX5_digest 3 = .ok (.lstore_n 1, 1) := by decide +kernel
theorem dX5_digest_4 : decode cX5_digest 4 = .ok (.aload_n 0, 1) := by decide +kernel
theorem dX5_digest_5 : decode cX5_digest 5 = .ok (.lload_n 1, 1) := by decide +kernel
theorem dX5_digest_6 : decode cX5_digest 6 = .ok (.invokevirtual 277, 3) := by decide +kernel
theorem dX5_digest_9 : decode cX5_digest 9 = .ok (.lstore_n 1, 1) := by decide +kernel
theorem dX5_digest_10 : decode cX5_digest 10 = .ok (.aload_n 0, 1) := by decide +kernel
theorem dX5_digest_11 : decode cX5_digest 11 = .ok (.lload_n 1, 1) := by decide +kernel
theorem dX5_digest_12 : decode cX5_digest 12 = .ok (.invokevirtual 281, 3) := by decide +kernel
theorem dX5_digest_15 : decode cX5_digest 15 = .ok (.lstore_n 1, 1) := by decide +kernel
theorem dX5_digest_16 : decode cX5_digest 16 = .ok (.aload_n 0, 1) := by decide +kernel
theorem dX5_digest_17 : decode cX5_digest 17 = .ok (.lload_n 1, 1) := by decide +kernel
theorem dX5_digest_18 : decode cX5_digest 18 = .ok (.invokevirtual 284, 3) := by decide +kernel
theorem dX5_digest_21 : decode cX5_digest 21 = .ok (.lstore_n 1, 1) := by decide +kernel
theorem dX5_digest_22 : decode cX5_digest 22 = .ok (.aload_n 0, 1) := by decide +kernel
theorem dX5_digest_23 : decode cX5_digest 23 = .ok (.lload_n 1, 1) := by decide +kernel
theorem dX5_digest_24 : decode cX5_digest 24 = .ok (.invokevirtual 287, 3) := by decide +kernel
theorem dX5_digest_27 : decode cX5_digest 27 = .ok (.lstore_n 1, 1) := by decide +kernel
theorem dX5_digest_28 : decode cX5_digest 28 = .ok (.lload_n 1, 1) := by decide +kernel
theorem dX5_digest_29 : decode cX5_digest 29 = .ok (.aload_n 0, 1) := by decide +kernel
theorem dX5_digest_30 : decode cX5_digest 30 = .ok (.invokevirtual 290, 3) := by decide +kernel
theorem dX5_digest_33 : decode cX5_digest 33 = .ok (.invokestatic 294, 3) := by decide +kernel
theorem dX5_digest_36 : decode cX5_digest 36 = .ok (.i2l, 1) := by decide +kernel
theorem dX5_digest_37 : decode cX5_digest 37 = .ok (.invokestatic 298, 3) := by decide +kernel
theorem dX5_digest_40 : decode cX5_digest 40 = .ok (.lstore_n 1, 1) := by decide +kernel
theorem dX5_digest_41 : decode cX5_digest 41 = .ok (.lload_n 1, 1) := by decide +kernel
theorem dX5_digest_42 : decode cX5_digest 42 = .ok (.aload_n 0, 1) := by decide +kernel
theorem dX5_digest_43 : decode cX5_digest 43 = .ok (.invokevirtual 302, 3) := by decide +kernel
theorem dX5_digest_46 : decode cX5_digest 46 = .ok (.invokestatic 306, 3) := by decide +kernel
theorem dX5_digest_49 : decode cX5_digest 49 = .ok (.invokestatic 298, 3) := by decide +kernel
theorem dX5_digest_52 : decode cX5_digest 52 = .ok (.lstore_n 1, 1) := by decide +kernel
theorem dX5_digest_53 : decode cX5_digest 53 = .ok (.lload_n 1, 1) := by decide +kernel
theorem dX5_digest_54 : decode cX5_digest 54 = .ok (.aload_n 0, 1) := by decide +kernel
theorem dX5_digest_55 : decode cX5_digest 55 = .ok (.getfield 36, 3) := by decide +kernel
theorem dX5_digest_58 : decode cX5_digest 58 = .ok (.ifCond .eq 7, 3) := by decide +kernel
theorem dX5_digest_61 : decode cX5_digest 61 = .ok (.lconst 1, 1) := by decide +kernel
theorem dX5_digest_62 : decode cX5_digest 62 = .ok (.goto 4, 3) := by decide +kernel
theorem dX5_digest_65 : decode cX5_digest 65 = .ok (.lconst 0, 1) := by decide +kernel
theorem dX5_digest_66 : decode cX5_digest 66 = .ok (.invokestatic 298, 3) := by decide +kernel
theorem dX5_digest_69 : decode cX5_digest 69 = .ok (.lstore_n 1, 1) := by decide +kernel
theorem dX5_digest_70 : decode cX5_digest 70 = .ok (.aload_n 0, 1) := by decide +kernel
theorem dX5_digest_71 : decode cX5_digest 71 = .ok (.lload_n 1, 1) := by decide +kernel
theorem dX5_digest_72 : decode cX5_digest 72 = .ok (.invokevirtual 310, 3) := by decide +kernel
theorem dX5_digest_75 : decode cX5_digest 75 = .ok (.lreturn, 1) := by decide +kernel
theorem dX5_isWithin_0 : decode cX5_isWithin 0 = .ok (.iload_n 0, 1) := by decide +kernel
theorem dX5_isWithin_1 : decode cX5_isWithin 1 = .ok (.iload_n 1, 1) := by decide +kernel
theorem dX5_isWithin_2 : decode cX5_isWithin 2 = .ok (.if_icmp .lt 12, 3) := by decide +kernel
theorem dX5_isWithin_5 : decode cX5_isWithin 5 = .ok (.iload_n 0, 1) := by decide +kernel
theorem dX5_isWithin_6 : decode cX5_isWithin 6 = .ok (.iload_n 2, 1) := by decide +kernel
theorem dX5_isWithin_7 : decode cX5_isWithin 7 = .ok (.if_icmp .gt 7, 3) := by decide +kernel
theorem dX5_isWithin_10 : decode cX5_isWithin 10 = .ok (.iconst 1, 1) := by decide +kernel
theorem dX5_isWithin_11 : decode cX5_isWithin 11 = .ok (.goto 4, 3) := by decide +kernel
theorem dX5_isWithin_14 : decode cX5_isWithin 14 = .ok (.iconst 0, 1) := by decide +kernel
theorem dX5_isWithin_15 : decode cX5_isWithin 15 = .ok (.ireturn, 1) := by decide +kernel
theorem dX5_at_0 : decode cX5_at 0 = .ok (.iload_n 1, 1) := by decide +kernel
theorem dX5_at_1 : decode cX5_at 1 = .ok (.ifCond .lt 15, 3) := by decide +kernel
theorem dX5_at_4 : decode cX5_at 4 = .ok (.iload_n 1, 1) := by decide +kernel
theorem dX5_at_5 : decode cX5_at 5 = .ok (.aload_n 0, 1) := by decide +kernel
theorem dX5_at_6 : decode cX5_at 6 = .ok (.arraylength, 1) := by decide +kernel
theorem dX5_at_7 : decode cX5_at 7 = .ok (.if_icmp .ge 9, 3) := by decide +kernel
theorem dX5_at_10 : decode cX5_at 10 = .ok (.aload_n 0, 1) := by decide +kernel
theorem dX5_at_11 : decode cX5_at 11 = .ok (.iload_n 1, 1) := by decide +kernel
theorem dX5_at_12 : decode cX5_at 12 = .ok (.iaload, 1) := by decide +kernel
theorem dX5_at_13 : decode cX5_at 13 = .ok (.goto 4, 3) := by decide +kernel
theorem dX5_at_16 : decode cX5_at 16 = .ok (.iconst (-1), 1) := by decide +kernel
theorem dX5_at_17 : decode cX5_at 17 = .ok (.ireturn, 1) := by decide +kernel
theorem dX5_put_0 : decode cX5_put 0 = .ok (.iload_n 1, 1) := by decide +kernel
theorem dX5_put_1 : decode cX5_put 1 = .ok (.ifCond .lt 13, 3) := by decide +kernel
theorem dX5_put_4 : decode cX5_put 4 = .ok (.iload_n 1, 1) := by decide +kernel
theorem dX5_put_5 : decode cX5_put 5 = .ok (.aload_n 0, 1) := by decide +kernel
theorem dX5_put_6 : decode cX5_put 6 = .ok (.arraylength, 1) := by decide +kernel
theorem dX5_put_7 : decode cX5_put 7 = .ok (.if_icmp .ge 7, 3) := by decide +kernel
theorem dX5_put_10 : decode cX5_put 10 = .ok (.aload_n 0, 1) := by decide +kernel
theorem dX5_put_11 : decode cX5_put 11 = .ok (.iload_n 1, 1) := by decide +kernel
theorem dX5_put_12 : decode cX5_put 12 = .ok (.iload_n 2, 1) := by decide +kernel
theorem dX5_put_13 : decode cX5_put 13 = .ok (.iastore, 1) := by decide +kernel
theorem dX5_put_14 : decode cX5_put 14 = .ok (.return_, 1) := by decide +kernel
theorem dX5_copyRow_0 : decode cX5_copyRow 0 = .ok (.aload_n 0, 1) := by decide +kernel
theorem dX5_copyRow_1 : decode cX5_copyRow 1 = .ok (.iconst 0, 1) := by decide +kernel
theorem dX5_copyRow_2 : decode cX5_copyRow 2 = .ok (.aload_n 1, 1) := by decide +kernel
theorem dX5_copyRow_3 : decode cX5_copyRow 3 = .ok (.iconst 0, 1) := by decide +kernel
theorem dX5_copyRow_4 : decode cX5_copyRow 4 = .ok (.aload_n 0, 1) := by decide +kernel
theorem dX5_copyRow_5 : decode cX5_copyRow 5 = .ok (.arraylength, 1) := by decide +kernel
theorem dX5_copyRow_6 : decode cX5_copyRow 6 = .ok (.aload_n 1, 1) := by decide +kernel
theorem dX5_copyRow_7 : decode cX5_copyRow 7 = .ok (.arraylength, 1) := by decide +kernel
theorem dX5_copyRow_8 : decode cX5_copyRow 8 = .ok (.invokestatic 313, 3) := by decide +kernel
theorem dX5_copyRow_11 : decode cX5_copyRow 11 = .ok (.invokestatic 319, 3) := by decide +kernel
theorem dX5_copyRow_14 : decode cX5_copyRow 14 = .ok (.return_, 1) := by decide +kernel
set_option maxRecDepth 20000 in
theorem ggX5_doOrders_X2_length : GoodIn wsX5_doOrders wsX2_length := goodIn_r _ [6, 7, 199, 200, 201, 202] (by decide +kernel) (by decide +kernel)
set_option maxRecDepth 20000 in
theorem gX5_doOrders_X2_length : GoodIn wsX5_doOrders (wsV RX5 165 RX2 yX2_length wsX2_length) := goodIn_app (goodIn_of _ (by decide +kernel)) ggX5_doOrders_X2_length
set_option maxRecDepth 20000 in
theorem ggX5_doOrders_X2_isStartOfPart : GoodIn wsX5_doOrders wsX2_isStartOfPart := goodIn_r _ [11, 12, 13, 14, 5, 15, 7, 16, 17, 18, 19, 199, 200, 201, 202] (by decide +kernel) (by decide +kernel)
set_option maxRecDepth 20000 in
theorem gX5_doOrders_X2_isStartOfPart : GoodIn wsX5_doOrders (wsV RX5 325 RX2 yX2_isStartOfPart wsX2_isStartOfPart) := goodIn_app (goodIn_of _ (by decide +kernel)) ggX5_doOrders_X2_isStartOfPart
set_option maxRecDepth 20000 in
theorem ggX5_doOrders_X5_doOrder : GoodIn wsX5_doOrders wsX5_doOrder := goodIn_r _ [23, 1, 24, 25, 26, 27, 5, 28, 7, 12, 13, 14, 15, 16, 17, 18, 19, 29, 30, 31, 32, 33, 34, 35, 36, 37, 38, 39, 40, 41, 42, 43, 44, 45, 46, 47, 48, 49, 50, 51, 52, 53, 54, 55, 56, 57, 58, 59, 60, 61, 62, 63, 64, 65, 66, 67, 68, 69, 70, 71, 72, 73, 74, 75, 76, 77, 78, 79, 80, 81, 82, 83, 84, 85, 86, 87, 88, 89, 90, 91, 92, 93, 94, 95, 96, 97, 98, 99, 100, 101, 102, 103, 104, 105, 106, 107, 108, 109, 110, 111, 112, 113, 114, 115, 116, 117, 118, 119, 120, 121, 122, 123, 124, 125, 126, 127, 128, 129, 130, 131, 132, 133, 134, 135, 136, 137, 138, 139, 140, 141, 142, 143, 144, 145, 146, 147, 148, 149, 150, 151, 152, 153, 154, 155, 156, 157, 158, 159, 160, 161, 162, 163, 164, 165, 166, 167, 168, 169, 170, 171, 172, 173, 174, 175, 176, 177, 178, 179, 180, 181, 182, 183, 184, 185, 186, 187, 188, 189, 190, 191, 192, 193, 194, 195, 196, 197, 198, 199, 200, 201, 202, 203, 204, 205, 206, 207, 208, 209, 210, 211, 212, 213, 214, 215, 216, 217, 218, 219, 220, 221, 222, 223, 224] (by decide +kernel) (by decide +kernel)
set_option maxRecDepth 20000 in
theorem gX5_doOrders_X5_doOrder : GoodIn wsX5_doOrders (wsV RX5 328 RX5 yX5_doOrder wsX5_doOrder) := goodIn_app (goodIn_of _ (by decide +kernel)) ggX5_doOrders_X5_doOrder
theorem dX5_doOrders_0 : decode cX5_doOrders 0 = .ok (.iconst 0, 1) := by decide +kernel
theorem dX5_doOrders_1 : decode cX5_doOrders 1 = .ok (.istore_n 1, 1) := by decide +kernel
theorem dX5_doOrders_2 : decode cX5_doOrders 2 = .ok (.iconst 0, 1) := by decide +kernel
theorem dX5_doOrders_3 : decode cX5_doOrders 3 = .ok (.istore_n 2, 1) := by decide +kernel
theorem dX5_doOrders_4 : decode cX5_doOrders 4 = .ok (.iload_n 2, 1) := by decide +kernel
theorem dX5_doOrders_5 : decode cX5_doOrders 5 = .ok (.aload_n 0, 1) := by decide +kernel
theorem dX5_doOrders_6 : decode cX5_doOrders 6 = .ok (.getfield 32, 3) := by decide +kernel
theorem dX5_doOrders_9 : decode cX5_doOrders 9 = .ok (.invokevirtual 165, 3) := by decide +kernel
theorem dX5_doOrders_12 : decode cX5_doOrders 12 = .ok (.if_icmp .ge 33, 3) := by decide +kernel
theorem dX5_doOrders_15 : decode cX5_doOrders 15 = .ok (.aload_n 0, 1) := by decide +kernel
theorem dX5_doOrders_16 : decode cX5_doOrders 16 = .ok (.getfield 32, 3) := by decide +kernel
theorem dX5_doOrders_19 : decode cX5_doOrders 19 = .ok (.iload_n 2, 1) := by decide +kernel
theorem dX5_doOrders_20 : decode cX5_doOrders 20 = .ok (.invokevirtual 325, 3) := by decide +kernel
theorem dX5_doOrders_23 : decode cX5_doOrders 23 = .ok (.ifCond .eq 16, 3) := by decide +kernel
theorem dX5_doOrders_26 : decode cX5_doOrders 26 = .ok (.aload_n 0, 1) := by decide +kernel
theorem dX5_doOrders_27 : decode cX5_doOrders 27 = .ok (.iload_n 2, 1) := by decide +kernel
theorem dX5_doOrders_28 : decode cX5_doOrders 28 = .ok (.invokevirtual 328, 3) := by decide +kernel
theorem dX5_doOrders_31 : decode cX5_doOrders 31 = .ok (.ifCond .ne 5, 3) := by decide +kernel
theorem dX5_doOrders_34 : decode cX5_doOrders 34 = .ok (.iload_n 1, 1) := by decide +kernel
theorem dX5_doOrders_35 : decode cX5_doOrders 35 = .ok (.ireturn, 1) := by decide +kernel
theorem dX5_doOrders_36 : decode cX5_doOrders 36 = .ok (.iinc 1 1, 3) := by decide +kernel
theorem dX5_doOrders_39 : decode cX5_doOrders 39 = .ok (.iinc 2 1, 3) := by decide +kernel
theorem dX5_doOrders_42 : decode cX5_doOrders 42 = .ok (.goto (-38), 3) := by decide +kernel
theorem dX5_doOrders_45 : decode cX5_doOrders 45 = .ok (.iload_n 1, 1) := by decide +kernel
theorem dX5_doOrders_46 : decode cX5_doOrders 46 = .ok (.ireturn, 1) := by decide +kernel
set_option maxRecDepth 20000 in
theorem ggX5_doOrder_X2_numberAt : GoodIn wsX5_doOrder wsX2_numberAt := goodIn_r _ [7, 8, 9, 10, 11, 6, 12, 13, 14, 15, 16, 17, 18, 187, 188, 189, 190] (by decide +kernel) (by decide +kernel)
set_option maxRecDepth 20000 in
theorem gX5_doOrder_X2_numberAt : GoodIn wsX5_doOrder (wsV RX5 331 RX2 yX2_numberAt wsX2_numberAt) := goodIn_app (goodIn_of _ (by decide +kernel)) ggX5_doOrder_X2_numberAt
set_option maxRecDepth 20000 in
theorem ggX5_doOrder_X2_codeAt : GoodIn wsX5_doOrder wsX2_codeAt := goodIn_r _ [12, 8, 13, 14, 15, 16, 187, 188, 189, 190] (by decide +kernel) (by decide +kernel)
set_option maxRecDepth 20000 in
theorem gX5_doOrder_X2_codeAt : GoodIn wsX5_doOrder (wsV RX5 334 RX2 yX2_codeAt wsX2_codeAt) := goodIn_app (goodIn_of _ (by decide +kernel)) ggX5_doOrder_X2_codeAt
set_option maxRecDepth 20000 in
theorem ggX5_doOrder_X3_canArrive : GoodIn wsX5_doOrder wsX3_canArrive := goodIn_r _ [24, 25, 26, 27, 23, 28, 29, 30, 31, 32, 33, 34, 35, 36, 37, 191, 192, 193, 194, 195, 196, 197, 198, 199, 200, 201, 202, 203, 204, 205, 206, 207, 208] (by decide +kernel) (by decide +kernel)
set_option maxRecDepth 20000 in
theorem gX5_doOrder_X3_canArrive : GoodIn wsX5_doOrder (wsV RX5 76 RX3 yX3_canArrive wsX3_canArrive) := goodIn_app (goodIn_of _ (by decide +kernel)) ggX5_doOrder_X3_canArrive
set_option maxRecDepth 20000 in
theorem ggX5_doOrder_X3_letArrive : GoodIn wsX5_doOrder wsX3_letArrive := goodIn_r _ [41, 42, 25, 26, 27, 23, 28, 29, 30, 43, 44, 45, 34, 46, 37, 36, 47, 48, 49, 32, 33, 35, 50, 15, 51, 191, 192, 193, 194, 195, 196, 197, 198, 199, 200, 201, 202, 203, 204, 205, 206, 207, 208] (by decide +kernel) (by decide +kernel)
set_option maxRecDepth 20000 in
theorem gX5_doOrder_X3_letArrive : GoodIn wsX5_doOrder (wsV RX5 85 RX3 yX3_letArrive wsX3_letArrive) := goodIn_app (goodIn_of _ (by decide +kernel)) ggX5_doOrder_X3_letArrive
set_option maxRecDepth 20000 in
theorem ggX5_doOrder_X3_canDriveOn : GoodIn wsX5_doOrder wsX3_canDriveOn := goodIn_r _ [55, 56, 25, 26, 27, 23, 28, 29, 30, 57, 58, 59, 34, 60, 36, 61, 62, 63, 64, 65, 66, 31, 32, 33, 35, 37, 191, 192, 193, 194, 195, 196, 197, 198, 199, 200, 201, 202, 203, 204, 205, 206, 207, 208] (by decide +kernel) (by decide +kernel)
set_option maxRecDepth 20000 in
theorem gX5_doOrder_X3_canDriveOn : GoodIn wsX5_doOrder (wsV RX5 101 RX3 yX3_canDriveOn wsX3_canDriveOn) := goodIn_app (goodIn_of _ (by decide +kernel)) ggX5_doOrder_X3_canDriveOn
set_option maxRecDepth 20000 in
theorem ggX5_doOrder_X3_driveOn : GoodIn wsX5_doOrder wsX3_driveOn := goodIn_r _ [70, 56, 25, 26, 27, 23, 28, 29, 30, 71, 72, 73, 34, 74, 36, 37, 14, 15, 16, 75, 76, 77, 78, 48, 47, 50, 51, 61, 62, 63, 64, 65, 66, 43, 44, 45, 46, 49, 32, 33, 35, 191, 192, 193, 194, 195, 196, 197, 198, 199, 200, 201, 202, 203, 204, 205, 206, 207, 208] (by decide +kernel) (by decide +kernel)
set_option maxRecDepth 20000 in
theorem gX5_doOrder_X3_driveOn : GoodIn wsX5_doOrder (wsV RX5 106 RX3 yX3_driveOn wsX3_driveOn) := goodIn_app (goodIn_of _ (by decide +kernel)) ggX5_doOrder_X3_driveOn
set_option maxRecDepth 20000 in
theorem ggX5_doOrder_X3_reason : GoodIn wsX5_doOrder wsX3_reason := goodIn_r _ [82, 83, 84, 85, 86, 87, 88, 23, 89, 65, 66, 90, 91, 92, 93, 94, 95, 96, 34, 97, 48, 14, 15, 16, 98, 99, 100, 101, 102, 103, 104, 105, 106, 107, 108, 109, 110, 111, 112, 113, 114, 115, 116, 117, 118, 119, 120, 121, 122, 123, 124, 125, 126, 127, 128, 129, 130, 131, 132, 191, 192, 193, 194, 195, 196, 197, 198, 199, 200, 201, 202, 203, 204, 209, 210, 211, 212, 205, 206, 207, 208] (by decide +kernel) (by decide +kernel)
set_option maxRecDepth 20000 in
theorem gX5_doOrder_X3_reason : GoodIn wsX5_doOrder (wsV RX5 113 RX3 yX3_reason wsX3_reason) := goodIn_app (goodIn_of _ (by decide +kernel)) ggX5_doOrder_X3_reason
set_option maxRecDepth 20000 in
theorem ggX5_doOrder_X3_crossRiver : GoodIn wsX5_doOrder wsX3_crossRiver := goodIn_r _ [136, 84, 83, 85, 56, 137, 98, 99, 100, 23, 101, 102, 103, 104, 105, 106, 107, 14, 15, 16, 108, 109, 110, 111, 65, 66, 94, 95, 96, 34, 97, 48, 86, 87, 88, 89, 90, 91, 92, 93, 138, 139, 140, 115, 141, 142, 132, 125, 126, 127, 121, 122, 123, 124, 117, 118, 119, 120, 50, 51, 143, 144, 145, 146, 147, 29, 30, 57, 58, 59, 60, 36, 191, 192, 193, 194, 195, 196, 197, 198, 199, 200, 201, 202, 203, 204, 209, 210, 211, 212, 205, 206, 207, 208] (by decide +kernel) (by decide +kernel)
set_option maxRecDepth 20000 in
theorem gX5_doOrder_X3_crossRiver : GoodIn wsX5_doOrder (wsV RX5 118 RX3 yX3_crossRiver wsX3_crossRiver) := goodIn_app (goodIn_of _ (by decide +kernel)) ggX5_doOrder_X3_crossRiver
set_option maxRecDepth 20000 in
theorem ggX5_doOrder_X3_canDrawThrough : GoodIn wsX5_doOrder wsX3_canDrawThrough := goodIn_r _ [151, 84, 152, 191, 192, 193, 194, 195, 196, 197, 198, 199, 200, 201, 202, 203, 204, 209, 210, 211, 212] (by decide +kernel) (by decide +kernel)
set_option maxRecDepth 20000 in
theorem gX5_doOrder_X3_canDrawThrough : GoodIn wsX5_doOrder (wsV RX5 133 RX3 yX3_canDrawThrough wsX3_canDrawThrough) := goodIn_app (goodIn_of _ (by decide +kernel)) ggX5_doOrder_X3_canDrawThrough
set_option maxRecDepth 20000 in
theorem ggX5_doOrder_X3_drawThrough : GoodIn wsX5_doOrder wsX3_drawThrough := goodIn_r _ [156, 84, 157, 158, 159, 115, 160, 132, 161, 124, 142, 14, 15, 16, 50, 51, 143, 144, 145, 23, 146, 103, 147, 29, 30, 57, 58, 59, 34, 60, 36, 191, 192, 193, 194, 195, 196, 197, 198, 199, 200, 201, 202, 203, 204, 209, 210, 211, 212, 205, 206, 207, 208] (by decide +kernel) (by decide +kernel)
set_option maxRecDepth 20000 in
theorem gX5_doOrder_X3_drawThrough : GoodIn wsX5_doOrder (wsV RX5 138 RX3 yX3_drawThrough wsX3_drawThrough) := goodIn_app (goodIn_of _ (by decide +kernel)) ggX5_doOrder_X3_drawThrough
set_option maxRecDepth 20000 in
theorem ggX5_doOrder_X3_letPass : GoodIn wsX5_doOrder wsX3_letPass := goodIn_r _ [146, 103, 147, 29, 30, 57, 58, 59, 34, 60, 36, 191, 192, 193, 194, 195, 196, 197, 198, 199, 200, 201, 202, 203, 204, 205, 206, 207, 208] (by decide +kernel) (by decide +kernel)
set_option maxRecDepth 20000 in
theorem gX5_doOrder_X3_letPass : GoodIn wsX5_doOrder (wsV RX5 123 RX3 yX3_letPass wsX3_letPass) := goodIn_app (goodIn_of _ (by decide +kernel)) ggX5_doOrder_X3_letPass
set_option maxRecDepth 20000 in
theorem ggX5_doOrder_X3_driveOff : GoodIn wsX5_doOrder wsX3_driveOff := goodIn_r _ [166, 65, 56, 66, 167, 168, 169, 170, 171, 34, 172, 36, 47, 14, 15, 16, 173, 174, 175, 23, 176, 57, 58, 59, 60, 177, 178, 179, 180, 48, 191, 192, 193, 194, 195, 196, 197, 198, 199, 200, 201, 202, 203, 204, 205, 206, 207, 208] (by decide +kernel) (by decide +kernel)
set_option maxRecDepth 20000 in
theorem gX5_doOrder_X3_driveOff : GoodIn wsX5_doOrder (wsV RX5 110 RX3 yX3_driveOff wsX3_driveOff) := goodIn_app (goodIn_of _ (by decide +kernel)) ggX5_doOrder_X3_driveOff
theorem dX5_doOrder_0 : decode cX5_doOrder 0 = .ok (.aload_n 0, 1) := by decide +kernel
theorem dX5_doOrder_1 : decode cX5_doOrder 1 = .ok (.getfield 32, 3) := by decide +kernel
theorem dX5_doOrder_4 : decode cX5_doOrder 4 = .ok (.iload_n 1, 1) := by decide +kernel
theorem dX5_doOrder_5 : decode cX5_doOrder 5 = .ok (.iconst 1, 1) := by decide +kernel
theorem dX5_doOrder_6 : decode cX5_doOrder 6 = .ok (.iadd, 1) := by decide +kernel
theorem dX5_doOrder_7 : decode cX5_doOrder 7 = .ok (.invokevirtual 331, 3) := by decide +kernel
theorem dX5_doOrder_10 : decode cX5_doOrder 10 = .ok (.istore_n 2, 1) := by decide +kernel
theorem dX5_doOrder_11 : decode cX5_doOrder 11 = .ok (.aload_n 0, 1) := by decide +kernel
theorem dX5_doOrder_12 : decode cX5_doOrder 12 = .ok (.getfield 32, 3) := by decide +kernel
theorem dX5_doOrder_15 : decode cX5_doOrder 15 = .ok (.iload_n 1, 1) := by decide +kernel
theorem dX5_doOrder_16 : decode cX5_doOrder 16 = .ok (.invokevirtual 334, 3) := by decide +kernel
theorem dX5_doOrder_19 : decode cX5_doOrder 19 = .ok (.lookupswitch 161 #[(97, 49), (100, 128), (108, 82), (119, 151), (120, 106)], 49) := by decide +kernel
theorem dX5_doOrder_68 : decode cX5_doOrder 68 = .ok (.aload_n 0, 1) := by decide +kernel
theorem dX5_doOrder_69 : decode cX5_doOrder 69 = .ok (.getfield 10, 3) := by decide +kernel
theorem dX5_doOrder_72 : decode cX5_doOrder 72 = .ok (.iload_n 2, 1) := by decide +kernel
theorem dX5_doOrder_73 : decode cX5_doOrder 73 = .ok (.invokevirtual 76, 3) := by decide +kernel
theorem dX5_doOrder_76 : decode cX5_doOrder 76 = .ok (.ifCond .ne 5, 3) := by decide +kernel
theorem dX5_doOrder_79 : decode cX5_doOrder 79 = .ok (.iconst 0, 1) := by decide +kernel
theorem dX5_doOrder_80 : decode cX5_doOrder 80 = .ok (.ireturn, 1) := by decide +kernel
theorem dX5_doOrder_81 : decode cX5_doOrder 81 = .ok (.aload_n 0, 1) := by decide +kernel
theorem dX5_doOrder_82 : decode cX5_doOrder 82 = .ok (.getfield 10, 3) := by decide +kernel
theorem dX5_doOrder_85 : decode cX5_doOrder 85 = .ok (.iload_n 2, 1) := by decide +kernel
theorem dX5_doOrder_86 : decode cX5_doOrder 86 = .ok (.aload_n 0, 1) := by decide +kernel
theorem dX5_doOrder_87 : decode cX5_doOrder 87 = .ok (.getfield 32, 3) := by decide +kernel
theorem dX5_doOrder_90 : decode cX5_doOrder 90 = .ok (.iload_n 1, 1) := by decide +kernel
theorem dX5_doOrder_91 : decode cX5_doOrder 91 = .ok (.iconst 3, 1) := by decide +kernel
theorem dX5_doOrder_92 : decode cX5_doOrder 92 = .ok (.iadd, 1) := by decide +kernel
theorem dX5_doOrder_93 : decode cX5_doOrder 93 = .ok (.invokevirtual 331, 3) := by decide +kernel
theorem dX5_doOrder_96 : decode cX5_doOrder 96 = .ok (.invokevirtual 85, 3) := by decide +kernel
theorem dX5_doOrder_99 : decode cX5_doOrder 99 = .ok (.iconst 1, 1) := by decide +kernel
theorem dX5_doOrder_100 : decode cX5_doOrder 100 = .ok (.ireturn, 1) := by decide +kernel
theorem dX5_doOrder_101 : decode cX5_doOrder 101 = .ok (.aload_n 0, 1) := by decide +kernel
theorem dX5_doOrder_102 : decode cX5_doOrder 102 = .ok (.getfield 10, 3) := by decide +kernel
theorem dX5_doOrder_105 : decode cX5_doOrder 105 = .ok (.iload_n 2, 1) := by decide +kernel
theorem dX5_doOrder_106 : decode cX5_doOrder 106 = .ok (.invokevirtual 101, 3) := by decide +kernel
theorem dX5_doOrder_109 : decode cX5_doOrder 109 = .ok (.ifCond .ne 5, 3) := by decide +kernel
theorem dX5_doOrder_112 : decode cX5_doOrder 112 = .ok (.iconst 0, 1) := by decide +kernel
theorem dX5_doOrder_113 : decode cX5_doOrder 113 = .ok (.ireturn, 1) := by decide +kernel
theorem dX5_doOrder_114 : decode cX5_doOrder 114 = .ok (.aload_n 0, 1) := by decide +kernel
theorem dX5_doOrder_115 : decode cX5_doOrder 115 = .ok (.getfield 10, 3) := by decide +kernel
theorem dX5_doOrder_118 : decode cX5_doOrder 118 = .ok (.iload_n 2, 1) := by decide +kernel
theorem dX5_doOrder_119 : decode cX5_doOrder 119 = .ok (.invokevirtual 106, 3) := by decide +kernel
theorem dX5_doOrder_122 : decode cX5_doOrder 122 = .ok (.pop, 1) := by decide +kernel
theorem dX5_doOrder_123 : decode cX5_doOrder 123 = .ok (.iconst 1, 1) := by decide +kernel
theorem dX5_doOrder_124 : decode cX5_doOrder 124 = .ok (.ireturn, 1) := by decide +kernel
theorem dX5_doOrder_125 : decode cX5_doOrder 125 = .ok (.aload_n 0, 1) := by decide +kernel
theorem dX5_doOrder_126 : decode cX5_doOrder 126 = .ok (.getfield 10, 3) := by decide +kernel
theorem dX5_doOrder_129 : decode cX5_doOrder 129 = .ok (.invokevirtual 113, 3) := by decide +kernel
theorem dX5_doOrder_132 : decode cX5_doOrder 132 = .ok (.ifCond .eq 5, 3) := by decide +kernel
theorem dX5_doOrder_135 : decode cX5_doOrder 135 = .ok (.iconst 0, 1) := by decide +kernel
theorem dX5_doOrder_136 : decode cX5_doOrder 136 = .ok (.ireturn, 1) := by decide +kernel
theorem dX5_doOrder_137 : decode cX5_doOrder 137 = .ok (.aload_n 0, 1) := by decide +kernel
theorem dX5_doOrder_138 : decode cX5_doOrder 138 = .ok (.getfield 10, 3) := by decide +kernel
theorem dX5_doOrder_141 : decode cX5_doOrder 141 = .ok (.invokevirtual 118, 3) := by decide +kernel
theorem dX5_doOrder_144 : decode cX5_doOrder 144 = .ok (.pop, 1) := by decide +kernel
theorem dX5_doOrder_145 : decode cX5_doOrder 145 = .ok (.iconst 1, 1) := by decide +kernel
theorem dX5_doOrder_146 : decode cX5_doOrder 146 = .ok (.ireturn, 1) := by decide +kernel
theorem dX5_doOrder_147 : decode cX5_doOrder 147 = .ok (.aload_n 0, 1) := by decide +kernel
theorem dX5_doOrder_148 : decode cX5_doOrder 148 = .ok (.getfield 10, 3) := by decide +kernel
theorem dX5_doOrder_151 : decode cX5_doOrder 151 = .ok (.iload_n 2, 1) := by decide +kernel
theorem dX5_doOrder_152 : decode cX5_doOrder 152 = .ok (.invokevirtual 133, 3) := by decide +kernel
theorem dX5_doOrder_155 : decode cX5_doOrder 155 = .ok (.ifCond .ne 5, 3) := by decide +kernel
theorem dX5_doOrder_158 : decode cX5_doOrder 158 = .ok (.iconst 0, 1) := by decide +kernel
theorem dX5_doOrder_159 : decode cX5_doOrder 159 = .ok (.ireturn, 1) := by decide +kernel
theorem dX5_doOrder_160 : decode cX5_doOrder 160 = .ok (.aload_n 0, 1) := by decide +kernel
theorem dX5_doOrder_161 : decode cX5_doOrder 161 = .ok (.getfield 10, 3) := by decide +kernel
theorem dX5_doOrder_164 : decode cX5_doOrder 164 = .ok (.iload_n 2, 1) := by decide +kernel
theorem dX5_doOrder_165 : decode cX5_doOrder 165 = .ok (.invokevirtual 138, 3) := by decide +kernel
theorem dX5_doOrder_168 : decode cX5_doOrder 168 = .ok (.iconst 1, 1) := by decide +kernel
theorem dX5_doOrder_169 : decode cX5_doOrder 169 = .ok (.ireturn, 1) := by decide +kernel
theorem dX5_doOrder_170 : decode cX5_doOrder 170 = .ok (.aload_n 0, 1) := by decide +kernel
theorem dX5_doOrder_171 : decode cX5_doOrder 171 = .ok (.getfield 10, 3) := by decide +kernel
theorem dX5_doOrder_174 : decode cX5_doOrder 174 = .ok (.iload_n 2, 1) := by decide +kernel
theorem dX5_doOrder_175 : decode cX5_doOrder 175 = .ok (.invokevirtual 123, 3) := by decide +kernel
theorem dX5_doOrder_178 : decode cX5_doOrder 178 = .ok (.iconst 1, 1) := by decide +kernel
theorem dX5_doOrder_179 : decode cX5_doOrder 179 = .ok (.ireturn, 1) := by decide +kernel
theorem dX5_doOrder_180 : decode cX5_doOrder 180 = .ok (.aload_n 0, 1) := by decide +kernel
theorem dX5_doOrder_181 : decode cX5_doOrder 181 = .ok (.getfield 10, 3) := by decide +kernel
theorem dX5_doOrder_184 : decode cX5_doOrder 184 = .ok (.invokevirtual 110, 3) := by decide +kernel
theorem dX5_doOrder_187 : decode cX5_doOrder 187 = .ok (.pop, 1) := by decide +kernel
theorem dX5_doOrder_188 : decode cX5_doOrder 188 = .ok (.iconst 1, 1) := by decide +kernel
theorem dX5_doOrder_189 : decode cX5_doOrder 189 = .ok (.ireturn, 1) := by decide +kernel
theorem dX5_mix_0 : decode cX5_mix 0 = .ok (.ldc2_w 337, 3) := by decide +kernel
theorem dX5_mix_3 : decode cX5_mix 3 = .ok (.lload_n 0, 1) := by decide +kernel
theorem dX5_mix_4 : decode cX5_mix 4 = .ok (.lmul, 1) := by decide +kernel
theorem dX5_mix_5 : decode cX5_mix 5 = .ok (.lload_n 2, 1) := by decide +kernel
theorem dX5_mix_6 : decode cX5_mix 6 = .ok (.ladd, 1) := by decide +kernel
theorem dX5_mix_7 : decode cX5_mix 7 = .ok (.lreturn, 1) := by decide +kernel
set_option maxRecDepth 20000 in
theorem ggX5_mixCounts_X5_count : GoodIn wsX5_mixCounts wsX5_count := goodIn_ca (goodIn_r _ [5, 6, 7, 8, 9, 10, 11, 12, 13, 14, 15, 16, 17, 18, 19, 20, 21, 22, 23, 24, 25, 26, 27, 28, 29, 30, 31, 32, 33, 34, 35, 36, 37, 38, 39, 40, 41, 42, 43, 44, 45, 46, 47, 48, 49, 50, 51, 52, 53, 54, 55, 56, 61, 62, 63, 64, 65, 66, 67, 68, 69, 70, 71, 72, 73, 74, 75, 76, 77, 78, 79, 80, 81, 82, 83, 84, 85, 86, 87, 88, 89, 90, 91] (by decide +kernel) (by decide +kernel)) (goodIn_sub (fun _ h => List.mem_cons_of_mem _ (List.mem_append_right _ h)) (by decide +kernel))
set_option maxRecDepth 20000 in
theorem gX5_mixCounts_X5_count : GoodIn wsX5_mixCounts (wsV RX5 339 RX5 yX5_count wsX5_count) := goodIn_app (goodIn_of _ (by decide +kernel)) ggX5_mixCounts_X5_count
set_option maxRecDepth 20000 in
theorem ggX5_mixCounts_X5_mix : GoodIn wsX5_mixCounts wsX5_mix := goodIn_r _ [59, 60] (by decide +kernel) (by decide +kernel)
set_option maxRecDepth 20000 in
theorem gX5_mixCounts_X5_mix : GoodIn wsX5_mixCounts (va_wsS RX5 298 yX5_mix wsX5_mix) := goodIn_app (goodIn_of _ (by decide +kernel)) ggX5_mixCounts_X5_mix
theorem dX5_mixCounts_0 : decode cX5_mixCounts 0 = .ok (.lload_n 1, 1) := by decide +kernel
theorem dX5_mixCounts_1 : decode cX5_mixCounts 1 = .ok (.lstore_n 3, 1) := by decide +kernel
theorem dX5_mixCounts_2 : decode cX5_mixCounts 2 = .ok (.iconst 0, 1) := by decide +kernel
theorem dX5_mixCounts_3 : decode cX5_mixCounts 3 = .ok (.istore 5, 2) := by decide +kernel
theorem dX5_mixCounts_5 : decode cX5_mixCounts 5 = .ok (.iload 5, 2) := by decide +kernel
theorem dX5_mixCounts_7 : decode cX5_mixCounts 7 = .ok (.bipush 13, 2) := by decide +kernel
theorem dX5_mixCounts_9 : decode cX5_mixCounts 9 = .ok (.if_icmp .gt 21, 3) := by decide +kernel
theorem dX5_mixCounts_12 : decode cX5_mixCounts 12 = .ok (.lload_n 3, 1) := by decide +kernel
theorem dX5_mixCounts_13 : decode cX5_mixCounts 13 = .ok (.aload_n 0, 1) := by decide +kernel
theorem dX5_mixCounts_14 : decode cX5_mixCounts 14 = .ok (.iload 5, 2) := by decide +kernel
theorem dX5_mixCounts_16 : decode cX5_mixCounts 16 = .ok (.invokevirtual 339, 3) := by decide +kernel
theorem dX5_mixCounts_19 : decode cX5_mixCounts 19 = .ok (.i2l, 1) := by decide +kernel
theorem dX5_mixCounts_20 : decode cX5_mixCounts 20 = .ok (.invokestatic 298, 3) := by decide +kernel
theorem dX5_mixCounts_23 : decode cX5_mixCounts 23 = .ok (.lstore_n 3, 1) := by decide +kernel
theorem dX5_mixCounts_24 : decode cX5_mixCounts 24 = .ok (.iinc 5 1, 3) := by decide +kernel
theorem dX5_mixCounts_27 : decode cX5_mixCounts 27 = .ok (.goto (-22), 3) := by decide +kernel
theorem dX5_mixCounts_30 : decode cX5_mixCounts 30 = .ok (.lload_n 3, 1) := by decide +kernel
theorem dX5_mixCounts_31 : decode cX5_mixCounts 31 = .ok (.lreturn, 1) := by decide +kernel
set_option maxRecDepth 20000 in
theorem ggX5_mixRiverAndWire_X5_setting : GoodIn wsX5_mixRiverAndWire wsX5_setting := goodIn_ca (goodIn_r _ [5, 6, 7, 8, 9, 10, 11, 4, 12, 13, 14, 15, 94, 95, 96, 97, 98, 99, 100, 101, 102, 103, 104, 105, 106, 107, 108, 109, 110, 111, 112, 113] (by decide +kernel) (by decide +kernel)) (goodIn_sub (fun _ h => List.mem_cons_of_mem _ (List.mem_append_left _ (List.mem_append_right _ h))) (by decide +kernel))
set_option maxRecDepth 20000 in
theorem gX5_mixRiverAndWire_X5_setting : GoodIn wsX5_mixRiverAndWire (wsV RX5 342 RX5 yX5_setting wsX5_setting) := goodIn_app (goodIn_of _ (by decide +kernel)) ggX5_mixRiverAndWire_X5_setting
set_option maxRecDepth 20000 in
theorem ggX5_mixRiverAndWire_X5_mix : GoodIn wsX5_mixRiverAndWire wsX5_mix := goodIn_r _ [18, 19] (by decide +kernel) (by decide +kernel)
set_option maxRecDepth 20000 in
theorem gX5_mixRiverAndWire_X5_mix : GoodIn wsX5_mixRiverAndWire (va_wsS RX5 298 yX5_mix wsX5_mix) := goodIn_app (goodIn_of _ (by decide +kernel)) ggX5_mixRiverAndWire_X5_mix
set_option maxRecDepth 20000 in
theorem ggX5_mixRiverAndWire_X5_currentOf : GoodIn wsX5_mixRiverAndWire wsX5_currentOf := goodIn_ca (goodIn_r _ [23, 6, 7, 8, 24, 10, 11, 4, 12, 13, 14, 15, 94, 95, 96, 97, 98, 99, 100, 101, 102, 103, 104, 105, 106, 107, 108, 109, 110, 111, 112, 113] (by decide +kernel) (by decide +kernel)) (goodIn_sub (fun _ h => List.mem_cons_of_mem _ (List.mem_append_left _ (List.mem_append_right _ h))) (by decide +kernel))
set_option maxRecDepth 20000 in
theorem gX5_mixRiverAndWire_X5_currentOf : GoodIn wsX5_mixRiverAndWire (wsV RX5 345 RX5 yX5_currentOf wsX5_currentOf) := goodIn_app (goodIn_of _ (by decide +kernel)) ggX5_mixRiverAndWire_X5_currentOf
set_option maxRecDepth 20000 in
theorem ggX5_mixRiverAndWire_X5_section : GoodIn wsX5_mixRiverAndWire wsX5_section := goodIn_ca (goodIn_ca (goodIn_r _ [28, 6, 7, 29, 30, 8, 31, 10, 11, 4, 12, 32, 33, 34, 35, 36, 37, 14, 15, 38, 39, 40, 41, 42, 43, 44, 45, 46, 47, 48, 49, 50, 51, 52, 53, 54, 55, 56, 57, 58, 59, 60, 61, 62, 63, 64, 65, 66, 67, 68, 69, 70, 71, 72, 73, 74, 75, 76, 77, 78, 79, 80, 81, 82, 83, 84, 85, 86, 87, 88, 89, 90, 91, 92, 93, 94, 95, 96, 97, 98, 99, 100, 101, 102, 103, 104, 105, 106, 107, 108, 109, 110, 111, 112, 113, 114, 115, 116, 117, 118, 119, 120, 121] (by decide +kernel) (by decide +kernel)) (goodIn_sub (fun _ h => List.mem_cons_of_mem _ (List.mem_append_left _ (List.mem_append_right _ h))) (by decide +kernel))) (goodIn_sub (fun _ h => List.mem_cons_of_mem _ (List.mem_append_right _ h)) (by decide +kernel))
set_option maxRecDepth 20000 in
theorem gX5_mixRiverAndWire_X5_section : GoodIn wsX5_mixRiverAndWire (wsV RX5 348 RX5 yX5_section wsX5_section) := goodIn_app (goodIn_of _ (by decide +kernel)) ggX5_mixRiverAndWire_X5_section
theorem dX5_mixRiverAndWire_0 : decode cX5_mixRiverAndWire 0 = .ok (.lload_n 1, 1) := by decide +kernel
theorem dX5_mixRiverAndWire_1 : decode cX5_mixRiverAndWire 1 = .ok (.lstore_n 3, 1) := by decide +kernel
theorem dX5_mixRiverAndWire_2 : decode cX5_mixRiverAndWire 2 = .ok (.iconst 0, 1) := by decide +kernel
theorem dX5_mixRiverAndWire_3 : decode cX5_mixRiverAndWire 3 = .ok (.istore 5, 2) := by decide +kernel
theorem dX5_mixRiverAndWire_5 : decode cX5_mixRiverAndWire 5 = .ok (.iload 5, 2) := by decide +kernel
theorem dX5_mixRiverAndWire_7 : decode cX5_mixRiverAndWire 7 = .ok (.iconst 3, 1) := by decide +kernel
theorem dX5_mixRiverAndWire_8 : decode cX5_mixRiverAndWire 8 = .ok (.if_icmp .ge 21, 3) := by decide +kernel
theorem dX5_mixRiverAndWire_11 : decode cX5_mixRiverAndWire 11 = .ok (.lload_n 3, 1) := by decide +kernel
theorem dX5_mixRiverAndWire_12 : decode cX5_mixRiverAndWire 12 = .ok (.aload_n 0, 1) := by decide +kernel
theorem dX5_mixRiverAndWire_13 : decode cX5_mixRiverAndWire 13 = .ok (.iload 5, 2) := by decide +kernel
theorem dX5_mixRiverAndWire_15 : decode cX5_mixRiverAndWire 15 = .ok (.invokevirtual 342, 3) := by decide +kernel
theorem dX5_mixRiverAndWire_18 : decode cX5_mixRiverAndWire 18 = .ok (.i2l, 1) := by decide +kernel
theorem dX5_mixRiverAndWire_19 : decode cX5_mixRiverAndWire 19 = .ok (.invokestatic 298, 3) := by decide +kernel
theorem dX5_mixRiverAndWire_22 : decode cX5_mixRiverAndWire 22 = .ok (.lstore_n 3, 1) := by decide +kernel
theorem dX5_mixRiverAndWire_23 : decode cX5_mixRiverAndWire 23 = .ok (.iinc 5 1, 3) := by decide +kernel
theorem dX5_mixRiverAndWire_26 : decode cX5_mixRiverAndWire 26 = .ok (.goto (-21), 3) := by decide +kernel
theorem dX5_mixRiverAndWire_29 : decode cX5_mixRiverAndWire 29 = .ok (.iconst 0, 1) := by decide +kernel
theorem dX5_mixRiverAndWire_30 : decode cX5_mixRiverAndWire 30 = .ok (.istore 5, 2) := by decide +kernel
theorem dX5_mixRiverAndWire_32 : decode cX5_mixRiverAndWire 32 = .ok (.iload 5, 2) := by decide +kernel
theorem dX5_mixRiverAndWire_34 : decode cX5_mixRiverAndWire 34 = .ok (.bipush 24, 2) := by decide +kernel
theorem dX5_mixRiverAndWire_36 : decode cX5_mixRiverAndWire 36 = .ok (.if_icmp .ge 21, 3) := by decide +kernel
theorem dX5_mixRiverAndWire_39 : decode cX5_mixRiverAndWire 39 = .ok (.lload_n 3, 1) := by decide +kernel
theorem dX5_mixRiverAndWire_40 : decode cX5_mixRiverAndWire 40 = .ok (.aload_n 0, 1) := by decide +kernel
theorem dX5_mixRiverAndWire_41 : decode cX5_mixRiverAndWire 41 = .ok (.iload 5, 2) := by decide +kernel
theorem dX5_mixRiverAndWire_43 : decode cX5_mixRiverAndWire 43 = .ok (.invokevirtual 345, 3) := by decide +kernel
theorem dX5_mixRiverAndWire_46 : decode cX5_mixRiverAndWire 46 = .ok (.i2l, 1) := by decide +kernel
theorem dX5_mixRiverAndWire_47 : decode cX5_mixRiverAndWire 47 = .ok (.invokestatic 298, 3) := by decide +kernel
theorem dX5_mixRiverAndWire_50 : decode cX5_mixRiverAndWire 50 = .ok (.lstore_n 3, 1) := by decide +kernel
theorem dX5_mixRiverAndWire_51 : decode cX5_mixRiverAndWire 51 = .ok (.iinc 5 1, 3) := by decide +kernel
theorem dX5_mixRiverAndWire_54 : decode cX5_mixRiverAndWire 54 = .ok (.goto (-22), 3) := by decide +kernel
theorem dX5_mixRiverAndWire_57 : decode cX5_mixRiverAndWire 57 = .ok (.iconst 0, 1) := by decide +kernel
theorem dX5_mixRiverAndWire_58 : decode cX5_mixRiverAndWire 58 = .ok (.istore 5, 2) := by decide +kernel
theorem dX5_mixRiverAndWire_60 : decode cX5_mixRiverAndWire 60 = .ok (.iload 5, 2) := by decide +kernel
theorem dX5_mixRiverAndWire_62 : decode cX5_mixRiverAndWire 62 = .ok (.bipush 20, 2) := by decide +kernel
theorem dX5_mixRiverAndWire_64 : decode cX5_mixRiverAndWire 64 = .ok (.if_icmp .ge 38, 3) := by decide +kernel
theorem dX5_mixRiverAndWire_67 : decode cX5_mixRiverAndWire 67 = .ok (.iconst 0, 1) := by decide +kernel
theorem dX5_mixRiverAndWire_68 : decode cX5_mixRiverAndWire 68 = .ok (.istore 6, 2) := by decide +kernel
theorem dX5_mixRiverAndWire_70 : decode cX5_mixRiverAndWire 70 = .ok (.iload 6, 2) := by decide +kernel
theorem dX5_mixRiverAndWire_72 : decode cX5_mixRiverAndWire 72 = .ok (.iconst 2, 1) := by decide +kernel
theorem dX5_mixRiverAndWire_73 : decode cX5_mixRiverAndWire 73 = .ok (.if_icmp .gt 23, 3) := by decide +kernel
theorem dX5_mixRiverAndWire_76 : decode cX5_mixRiverAndWire 76 = .ok (.lload_n 3, 1) := by decide +kernel
theorem dX5_mixRiverAndWire_77 : decode cX5_mixRiverAndWire 77 = .ok (.aload_n 0, 1) := by decide +kernel
theorem dX5_mixRiverAndWire_78 : decode cX5_mixRiverAndWire 78 = .ok (.iload 5, 2) := by decide +kernel
theorem dX5_mixRiverAndWire_80 : decode cX5_mixRiverAndWire 80 = .ok (.iload 6, 2) := by decide +kernel
theorem dX5_mixRiverAndWire_82 : decode cX5_mixRiverAndWire 82 = .ok (.invokevirtual 348, 3) := by decide +kernel
theorem dX5_mixRiverAndWire_85 : decode cX5_mixRiverAndWire 85 = .ok (.i2l, 1) := by decide +kernel
theorem dX5_mixRiverAndWire_86 : decode cX5_mixRiverAndWire 86 = .ok (.invokestatic 298, 3) := by decide +kernel
theorem dX5_mixRiverAndWire_89 : decode cX5_mixRiverAndWire 89 = .ok (.lstore_n 3, 1) := by decide +kernel
theorem dX5_mixRiverAndWire_90 : decode cX5_mixRiverAndWire 90 = .ok (.iinc 6 1, 3) := by decide +kernel
theorem dX5_mixRiverAndWire_93 : decode cX5_mixRiverAndWire 93 = .ok (.goto (-23), 3) := by decide +kernel
theorem dX5_mixRiverAndWire_96 : decode cX5_mixRiverAndWire 96 = .ok (.iinc 5 1, 3) := by decide +kernel
theorem dX5_mixRiverAndWire_99 : decode cX5_mixRiverAndWire 99 = .ok (.goto (-39), 3) := by decide +kernel
theorem dX5_mixRiverAndWire_102 : decode cX5_mixRiverAndWire 102 = .ok (.lload_n 3, 1) := by decide +kernel
theorem dX5_mixRiverAndWire_103 : decode cX5_mixRiverAndWire 103 = .ok (.lreturn, 1) := by decide +kernel
set_option maxRecDepth 20000 in
theorem ggX5_mixVehicles_X3_lineAtBank : GoodIn wsX5_mixVehicles wsX3_lineAtBank := goodIn_r _ [6, 7, 8, 44, 45, 46, 47, 48, 49, 50, 51, 52, 53, 54, 55, 56, 57] (by decide +kernel) (by decide +kernel)
set_option maxRecDepth 20000 in
theorem gX5_mixVehicles_X3_lineAtBank : GoodIn wsX5_mixVehicles (wsV RX5 89 RX3 yX3_lineAtBank wsX3_lineAtBank) := goodIn_app (goodIn_of _ (by decide +kernel)) ggX5_mixVehicles_X3_lineAtBank
set_option maxRecDepth 20000 in
theorem ggX5_mixVehicles_X1_size : GoodIn wsX5_mixVehicles wsX1_size := goodIn_r _ [13, 14, 58, 59, 60, 61] (by decide +kernel) (by decide +kernel)
set_option maxRecDepth 20000 in
theorem gX5_mixVehicles_X1_size : GoodIn wsX5_mixVehicles (wsV RX5 93 RX1 yX1_size wsX1_size) := goodIn_app (goodIn_of _ (by decide +kernel)) ggX5_mixVehicles_X1_size
set_option maxRecDepth 20000 in
theorem ggX5_mixVehicles_X5_mix : GoodIn wsX5_mixVehicles wsX5_mix := goodIn_r _ [18, 19] (by decide +kernel) (by decide +kernel)
set_option maxRecDepth 20000 in
theorem gX5_mixVehicles_X5_mix : GoodIn wsX5_mixVehicles (va_wsS RX5 298 yX5_mix wsX5_mix) := goodIn_app (goodIn_of _ (by decide +kernel)) ggX5_mixVehicles_X5_mix
set_option maxRecDepth 20000 in
theorem ggX5_mixVehicles_X1_weightOf : GoodIn wsX5_mixVehicles wsX1_weightOf := goodIn_r _ [23, 14, 24, 25, 17, 26, 58, 59, 60, 61] (by decide +kernel) (by decide +kernel)
set_option maxRecDepth 20000 in
theorem gX5_mixVehicles_X1_weightOf : GoodIn wsX5_mixVehicles (wsV RX5 214 RX1 yX1_weightOf wsX1_weightOf) := goodIn_app (goodIn_of _ (by decide +kernel)) ggX5_mixVehicles_X1_weightOf
set_option maxRecDepth 20000 in
theorem ggX5_mixVehicles_X3_lineOnLane : GoodIn wsX5_mixVehicles wsX3_lineOnLane := goodIn_r _ [30, 31, 32, 44, 45, 46, 47, 48, 49, 50, 51, 52, 53, 54, 55, 56, 57] (by decide +kernel) (by decide +kernel)
set_option maxRecDepth 20000 in
theorem gX5_mixVehicles_X3_lineOnLane : GoodIn wsX5_mixVehicles (wsV RX5 219 RX3 yX3_lineOnLane wsX3_lineOnLane) := goodIn_app (goodIn_of _ (by decide +kernel)) ggX5_mixVehicles_X3_lineOnLane
set_option maxRecDepth 20000 in
theorem ggX5_mixVehicles_X1_bankOf : GoodIn wsX5_mixVehicles wsX1_bankOf := goodIn_r _ [36, 14, 37, 25, 17, 26, 58, 59, 60, 61] (by decide +kernel) (by decide +kernel)
set_option maxRecDepth 20000 in
theorem gX5_mixVehicles_X1_bankOf : GoodIn wsX5_mixVehicles (wsV RX5 222 RX1 yX1_bankOf wsX1_bankOf) := goodIn_app (goodIn_of _ (by decide +kernel)) ggX5_mixVehicles_X1_bankOf
theorem dX5_mixVehicles_0 : decode cX5_mixVehicles 0 = .ok (.lload_n 1, 1) := by decide +kernel
theorem dX5_mixVehicles_1 : decode cX5_mixVehicles 1 = .ok (.lstore_n 3, 1) := by decide +kernel
theorem dX5_mixVehicles_2 : decode cX5_mixVehicles 2 = .ok (.iconst 0, 1) := by decide +kernel
theorem dX5_mixVehicles_3 : decode cX5_mixVehicles 3 = .ok (.istore 5, 2) := by decide +kernel
theorem dX5_mixVehicles_5 : decode cX5_mixVehicles 5 = .ok (.iload 5, 2) := by decide +kernel
theorem dX5_mixVehicles_7 : decode cX5_mixVehicles 7 = .ok (.iconst 2, 1) := by decide +kernel
theorem dX5_mixVehicles_8 : decode cX5_mixVehicles 8 = .ok (.if_icmp .ge 63, 3) := by decide +kernel
theorem dX5_mixVehicles_11 : decode cX5_mixVehicles 11 = .ok (.aload_n 0, 1) := by decide +kernel
theorem dX5_mixVehicles_12 : decode cX5_mixVehicles 12 = .ok (.getfield 10, 3) := by decide +kernel
theorem dX5_mixVehicles_15 : decode cX5_mixVehicles 15 = .ok (.iload 5, 2) := by decide +kernel
theorem dX5_mixVehicles_17 : decode cX5_mixVehicles 17 = .ok (.invokevirtual 89, 3) := by decide +kernel
theorem dX5_mixVehicles_20 : decode cX5_mixVehicles 20 = .ok (.astore 6, 2) := by decide +kernel
theorem dX5_mixVehicles_22 : decode cX5_mixVehicles 22 = .ok (.lload_n 3, 1) := by decide +kernel
theorem dX5_mixVehicles_23 : decode cX5_mixVehicles 23 = .ok (.aload 6, 2) := by decide +kernel
theorem dX5_mixVehicles_25 : decode cX5_mixVehicles 25 = .ok (.invokevirtual 93, 3) := by decide +kernel
theorem dX5_mixVehicles_28 : decode cX5_mixVehicles 28 = .ok (.i2l, 1) := by decide +kernel
theorem dX5_mixVehicles_29 : decode cX5_mixVehicles 29 = .ok (.invokestatic 298, 3) := by decide +kernel
theorem dX5_mixVehicles_32 : decode cX5_mixVehicles 32 = .ok (.lstore_n 3, 1) := by decide +kernel
theorem dX5_mixVehicles_33 : decode cX5_mixVehicles 33 = .ok (.iconst 0, 1) := by decide +kernel
theorem dX5_mixVehicles_34 : decode cX5_mixVehicles 34 = .ok (.istore 7, 2) := by decide +kernel
theorem dX5_mixVehicles_36 : decode cX5_mixVehicles 36 = .ok (.iload 7, 2) := by decide +kernel
theorem dX5_mixVehicles_38 : decode cX5_mixVehicles 38 = .ok (.aload 6, 2) := by decide +kernel
theorem dX5_mixVehicles_40 : decode cX5_mixVehicles 40 = .ok (.invokevirtual 93, 3) := by decide +kernel
theorem dX5_mixVehicles_43 : decode cX5_mixVehicles 43 = .ok (.if_icmp .ge 22, 3) := by decide +kernel
theorem dX5_mixVehicles_46 : decode cX5_mixVehicles 46 = .ok (.lload_n 3, 1) := by decide +kernel
theorem dX5_mixVehicles_47 : decode cX5_mixVehicles 47 = .ok (.aload 6, 2) := by decide +kernel
theorem dX5_mixVehicles_49 : decode cX5_mixVehicles 49 = .ok (.iload 7, 2) := by decide +kernel
theorem dX5_mixVehicles_51 : decode cX5_mixVehicles 51 = .ok (.invokevirtual 214, 3) := by decide +kernel
theorem dX5_mixVehicles_54 : decode cX5_mixVehicles 54 = .ok (.i2l, 1) := by decide +kernel
theorem dX5_mixVehicles_55 : decode cX5_mixVehicles 55 = .ok (.invokestatic 298, 3) := by decide +kernel
theorem dX5_mixVehicles_58 : decode cX5_mixVehicles 58 = .ok (.lstore_n 3, 1) := by decide +kernel
theorem dX5_mixVehicles_59 : decode cX5_mixVehicles 59 = .ok (.iinc 7 1, 3) := by decide +kernel
theorem dX5_mixVehicles_62 : decode cX5_mixVehicles 62 = .ok (.goto (-26), 3) := by decide +kernel
theorem dX5_mixVehicles_65 : decode cX5_mixVehicles 65 = .ok (.iinc 5 1, 3) := by decide +kernel
theorem dX5_mixVehicles_68 : decode cX5_mixVehicles 68 = .ok (.goto (-63), 3) := by decide +kernel
theorem dX5_mixVehicles_71 : decode cX5_mixVehicles 71 = .ok (.iconst 0, 1) := by decide +kernel
theorem dX5_mixVehicles_72 : decode cX5_mixVehicles 72 = .ok (.istore 5, 2) := by decide +kernel
theorem dX5_mixVehicles_74 : decode cX5_mixVehicles 74 = .ok (.iload 5, 2) := by decide +kernel
theorem dX5_mixVehicles_76 : decode cX5_mixVehicles 76 = .ok (.iconst 2, 1) := by decide +kernel
theorem dX5_mixVehicles_77 : decode cX5_mixVehicles 77 = .ok (.if_icmp .ge 76, 3) := by decide +kernel
theorem dX5_mixVehicles_80 : decode cX5_mixVehicles 80 = .ok (.aload_n 0, 1) := by decide +kernel
theorem dX5_mixVehicles_81 : decode cX5_mixVehicles 81 = .ok (.getfield 10, 3) := by decide +kernel
theorem dX5_mixVehicles_84 : decode cX5_mixVehicles 84 = .ok (.iload 5, 2) := by decide +kernel
theorem dX5_mixVehicles_86 : decode cX5_mixVehicles 86 = .ok (.invokevirtual 219, 3) := by decide +kernel
theorem dX5_mixVehicles_89 : decode cX5_mixVehicles 89 = .ok (.astore 6, 2) := by decide +kernel
theorem dX5_mixVehicles_91 : decode cX5_mixVehicles 91 = .ok (.lload_n 3, 1) := by decide +kernel
theorem dX5_mixVehicles_92 : decode cX5_mixVehicles 92 = .ok (.aload 6, 2) := by decide +kernel
theorem dX5_mixVehicles_94 : decode cX5_mixVehicles 94 = .ok (.invokevirtual 93, 3) := by decide +kernel
theorem dX5_mixVehicles_97 : decode cX5_mixVehicles 97 = .ok (.i2l, 1) := by decide +kernel
theorem dX5_mixVehicles_98 : decode cX5_mixVehicles 98 = .ok (.invokestatic 298, 3) := by decide +kernel
theorem dX5_mixVehicles_101 : decode cX5_mixVehicles 101 = .ok (.lstore_n 3, 1) := by decide +kernel
theorem dX5_mixVehicles_102 : decode cX5_mixVehicles 102 = .ok (.iconst 0, 1) := by decide +kernel
theorem dX5_mixVehicles_103 : decode cX5_mixVehicles 103 = .ok (.istore 7, 2) := by decide +kernel
theorem dX5_mixVehicles_105 : decode cX5_mixVehicles 105 = .ok (.iload 7, 2) := by decide +kernel
theorem dX5_mixVehicles_107 : decode cX5_mixVehicles 107 = .ok (.aload 6, 2) := by decide +kernel
theorem dX5_mixVehicles_109 : decode cX5_mixVehicles 109 = .ok (.invokevirtual 93, 3) := by decide +kernel
theorem dX5_mixVehicles_112 : decode cX5_mixVehicles 112 = .ok (.if_icmp .ge 35, 3) := by decide +kernel
theorem dX5_mixVehicles_115 : decode cX5_mixVehicles 115 = .ok (.lload_n 3, 1) := by decide +kernel
theorem dX5_mixVehicles_116 : decode cX5_mixVehicles 116 = .ok (.aload 6, 2) := by decide +kernel
theorem dX5_mixVehicles_118 : decode cX5_mixVehicles 118 = .ok (.iload 7, 2) := by decide +kernel
theorem dX5_mixVehicles_120 : decode cX5_mixVehicles 120 = .ok (.invokevirtual 214, 3) := by decide +kernel
theorem dX5_mixVehicles_123 : decode cX5_mixVehicles 123 = .ok (.i2l, 1) := by decide +kernel
theorem dX5_mixVehicles_124 : decode cX5_mixVehicles 124 = .ok (.invokestatic 298, 3) := by decide +kernel
theorem dX5_mixVehicles_127 : decode cX5_mixVehicles 127 = .ok (.lstore_n 3, 1) := by decide +kernel
theorem dX5_mixVehicles_128 : decode cX5_mixVehicles 128 = .ok (.lload_n 3, 1) := by decide +kernel
theorem dX5_mixVehicles_129 : decode cX5_mixVehicles 129 = .ok (.aload 6, 2) := by decide +kernel
theorem dX5_mixVehicles_131 : decode cX5_mixVehicles 131 = .ok (.iload 7, 2) := by decide +kernel
theorem dX5_mixVehicles_133 : decode cX5_mixVehicles 133 = .ok (.invokevirtual 222, 3) := by decide +kernel
theorem dX5_mixVehicles_136 : decode cX5_mixVehicles 136 = .ok (.i2l, 1) := by decide +kernel
theorem dX5_mixVehicles_137 : decode cX5_mixVehicles 137 = .ok (.invokestatic 298, 3) := by decide +kernel
theorem dX5_mixVehicles_140 : decode cX5_mixVehicles 140 = .ok (.lstore_n 3, 1) := by decide +kernel
theorem dX5_mixVehicles_141 : decode cX5_mixVehicles 141 = .ok (.iinc 7 1, 3) := by decide +kernel
theorem dX5_mixVehicles_144 : decode cX5_mixVehicles 144 = .ok (.goto (-39), 3) := by decide +kernel
theorem dX5_mixVehicles_147 : decode cX5_mixVehicles 147 = .ok (.iinc 5 1, 3) := by decide +kernel
theorem dX5_mixVehicles_150 : decode cX5_mixVehicles 150 = .ok (.goto (-76), 3) := by decide +kernel
theorem dX5_mixVehicles_153 : decode cX5_mixVehicles 153 = .ok (.lload_n 3, 1) := by decide +kernel
theorem dX5_mixVehicles_154 : decode cX5_mixVehicles 154 = .ok (.lreturn, 1) := by decide +kernel
set_option maxRecDepth 20000 in
theorem ggX5_mixOutlook_X5_why : GoodIn wsX5_mixOutlook wsX5_why := goodIn_r _ [5, 6, 7, 8, 9, 10, 11, 12, 13, 14, 15, 16, 17, 18, 19, 20, 21, 22, 23, 24, 25, 26, 27, 28, 29, 30, 31, 4, 32, 33, 34, 35, 36, 37, 38, 39, 40, 41, 42, 43, 44, 45, 46, 47, 48, 49, 50, 51, 52, 53, 54, 55, 56, 57, 58, 59, 60, 61, 62, 63, 64, 65, 66, 67, 242, 243, 244, 245, 246, 247, 248, 249, 250, 251, 252, 253, 254, 255, 256, 257, 258, 259, 260, 261, 262, 263, 264, 265, 266, 267, 268, 269] (by decide +kernel) (by decide +kernel)
set_option maxRecDepth 20000 in
theorem gX5_mixOutlook_X5_why : GoodIn wsX5_mixOutlook (wsV RX5 351 RX5 yX5_why wsX5_why) := goodIn_app (goodIn_of _ (by decide +kernel)) ggX5_mixOutlook_X5_why
set_option maxRecDepth 20000 in
theorem ggX5_mixOutlook_X5_mix : GoodIn wsX5_mixOutlook wsX5_mix := goodIn_r _ [70, 71] (by decide +kernel) (by decide +kernel)
set_option maxRecDepth 20000 in
theorem gX5_mixOutlook_X5_mix : GoodIn wsX5_mixOutlook (va_wsS RX5 298 yX5_mix wsX5_mix) := goodIn_app (goodIn_of _ (by decide +kernel)) ggX5_mixOutlook_X5_mix
set_option maxRecDepth 20000 in
theorem ggX5_mixOutlook_X5_weakest : GoodIn wsX5_mixOutlook wsX5_weakest := goodIn_r _ [75, 6, 76, 77, 78, 10, 79, 80, 81, 82, 83, 13, 12, 31, 4, 32, 84, 64, 65, 50, 66, 67, 60, 61, 23, 62, 85, 86, 87, 88, 33, 34, 35, 36, 37, 38, 39, 40, 41, 42, 43, 44, 45, 46, 19, 20, 25, 26, 27, 28, 29, 30, 15, 16, 17, 18, 21, 22, 24, 89, 53, 54, 55, 56, 57, 58, 59, 242, 243, 244, 245, 246, 247, 248, 249, 250, 251, 252, 253, 254, 255, 256, 257, 258, 259, 260, 261, 262, 263, 264, 265, 266, 267, 268, 269] (by decide +kernel) (by decide +kernel)
set_option maxRecDepth 20000 in
theorem gX5_mixOutlook_X5_weakest : GoodIn wsX5_mixOutlook (wsV RX5 354 RX5 yX5_weakest wsX5_weakest) := goodIn_app (goodIn_of _ (by decide +kernel)) ggX5_mixOutlook_X5_weakest
set_option maxRecDepth 20000 in
theorem ggX5_mixOutlook_X5_ifLoaded : GoodIn wsX5_mixOutlook wsX5_ifLoaded := goodIn_ca (goodIn_r _ [93, 94, 95, 6, 96, 97, 98, 4, 99, 100, 101, 102, 10, 103, 104, 105, 106, 107, 108, 109, 110, 111, 112, 113, 28, 114, 115, 116, 117, 118, 119, 19, 20, 120, 121, 122, 123, 124, 125, 126, 127, 128, 37, 12, 13, 38, 129, 130, 131, 132, 133, 134, 135, 136, 57, 23, 58, 137, 138, 139, 140, 141, 142, 143, 144, 145, 30, 146, 147, 148, 50, 149, 67, 59, 150, 151, 152, 153, 154, 155, 156, 157, 158, 159, 31, 32, 160, 161, 162, 163, 164, 165, 166, 167, 168, 169, 170, 171, 172, 173, 174, 33, 34, 35, 36, 39, 40, 41, 42, 43, 44, 45, 46, 25, 26, 27, 29, 15, 16, 17, 18, 21, 22, 24, 175, 176, 177, 178, 60, 61, 62, 52, 53, 54, 55, 56, 242, 243, 244, 245, 246, 247, 248, 249, 250, 251, 252, 253, 254, 255, 256, 257, 258, 259, 260, 261, 266, 267, 268, 269, 262, 263, 264, 265] (by decide +kernel) (by decide +kernel)) (goodIn_sub (fun _ h => List.mem_cons_of_mem _ (List.mem_append_left _ (List.mem_append_right _ h))) (by decide +kernel))
set_option maxRecDepth 20000 in
theorem gX5_mixOutlook_X5_ifLoaded : GoodIn wsX5_mixOutlook (wsV RX5 357 RX5 yX5_ifLoaded wsX5_ifLoaded) := goodIn_app (goodIn_of _ (by decide +kernel)) ggX5_mixOutlook_X5_ifLoaded
set_option maxRecDepth 20000 in
theorem ggX5_mixOutlook_X5_bestHour : GoodIn wsX5_mixOutlook wsX5_bestHour := goodIn_r _ [182, 6, 171, 172, 173, 10, 174, 13, 33, 34, 35, 36, 37, 38, 39, 40, 41, 42, 31, 4, 32, 43, 44, 45, 46, 19, 20, 25, 26, 27, 28, 29, 30, 15, 16, 17, 18, 21, 22, 23, 24, 175, 176, 177, 50, 178, 60, 61, 62, 52, 53, 54, 55, 56, 57, 58, 59, 242, 243, 244, 245, 246, 247, 248, 249, 250, 251, 252, 253, 254, 255, 256, 257, 258, 259, 260, 261, 266, 267, 268, 269, 262, 263, 264, 265] (by decide +kernel) (by decide +kernel)
set_option maxRecDepth 20000 in
theorem gX5_mixOutlook_X5_bestHour : GoodIn wsX5_mixOutlook (wsV RX5 360 RX5 yX5_bestHour wsX5_bestHour) := goodIn_app (goodIn_of _ (by decide +kernel)) ggX5_mixOutlook_X5_bestHour
set_option maxRecDepth 20000 in
theorem ggX5_mixOutlook_X5_leastList : GoodIn wsX5_mixOutlook wsX5_leastList := goodIn_ca (goodIn_r _ [186, 187, 188, 6, 97, 98, 4, 99, 189, 190, 191, 10, 192, 104, 193, 57, 23, 58, 105, 106, 107, 108, 109, 110, 111, 112, 113, 28, 114, 115, 194, 195, 196, 197, 19, 20, 198, 199, 200, 201, 202, 203, 204, 205, 206, 207, 208, 21, 22, 24, 25, 26, 27, 29, 30, 156, 157, 158, 159, 124, 31, 32, 242, 243, 244, 245, 246, 247, 248, 249, 250, 251, 252, 253, 254, 255, 256, 257, 258, 259, 260, 261, 266, 267, 268, 269] (by decide +kernel) (by decide +kernel)) (goodIn_sub (fun _ h => List.mem_cons_of_mem _ (List.mem_append_right _ h)) (by decide +kernel))
set_option maxRecDepth 20000 in
theorem gX5_mixOutlook_X5_leastList : GoodIn wsX5_mixOutlook (wsV RX5 363 RX5 yX5_leastList wsX5_leastList) := goodIn_app (goodIn_of _ (by decide +kernel)) ggX5_mixOutlook_X5_leastList
set_option maxRecDepth 20000 in
theorem ggX5_mixOutlook_X5_lasts : GoodIn wsX5_mixOutlook wsX5_lasts := goodIn_r _ [212, 96, 6, 125, 126, 127, 10, 128, 37, 12, 109, 110, 19, 20, 13, 38, 104, 129, 130, 131, 132, 133, 134, 4, 135, 136, 57, 23, 58, 137, 138, 139, 140, 141, 142, 143, 28, 144, 124, 145, 115, 30, 146, 147, 148, 50, 149, 67, 59, 150, 151, 7, 8, 9, 11, 14, 15, 16, 17, 18, 21, 22, 24, 25, 26, 27, 29, 31, 32, 33, 34, 35, 36, 39, 40, 41, 42, 43, 44, 45, 46, 47, 48, 49, 51, 52, 53, 54, 55, 56, 60, 61, 62, 63, 64, 65, 66, 213, 214, 215, 216, 217, 218, 219, 220, 164, 165, 221, 222, 223, 224, 111, 112, 113, 114, 242, 243, 244, 245, 246, 247, 248, 249, 250, 251, 252, 253, 254, 255, 256, 257, 258, 259, 260, 261, 266, 267, 268, 269, 262, 263, 264, 265] (by decide +kernel) (by decide +kernel)
set_option maxRecDepth 20000 in
theorem gX5_mixOutlook_X5_lasts : GoodIn wsX5_mixOutlook (wsV RX5 366 RX5 yX5_lasts wsX5_lasts) := goodIn_app (goodIn_of _ (by decide +kernel)) ggX5_mixOutlook_X5_lasts
set_option maxRecDepth 20000 in
theorem ggX5_mixOutlook_X5_needed : GoodIn wsX5_mixOutlook wsX5_needed := goodIn_r _ [228, 6, 96, 7, 8, 9, 10, 11, 12, 13, 14, 15, 16, 17, 18, 19, 20, 21, 22, 23, 24, 25, 26, 27, 28, 29, 30, 31, 4, 32, 33, 34, 35, 36, 37, 38, 39, 40, 41, 42, 43, 44, 45, 46, 47, 48, 49, 50, 51, 52, 53, 54, 55, 56, 57, 58, 59, 60, 61, 62, 63, 64, 65, 66, 67, 229, 230, 231, 232, 233, 125, 126, 127, 128, 109, 110, 104, 129, 130, 131, 132, 133, 134, 135, 136, 137, 138, 139, 140, 141, 142, 143, 144, 124, 145, 115, 146, 147, 148, 149, 150, 151, 234, 235, 236, 237, 238, 239, 240, 241, 164, 165, 221, 222, 223, 224, 111, 112, 113, 114, 242, 243, 244, 245, 246, 247, 248, 249, 250, 251, 252, 253, 254, 255, 256, 257, 258, 259, 260, 261, 262, 263, 264, 265, 266, 267, 268, 269] (by decide +kernel) (by decide +kernel)
set_option maxRecDepth 20000 in
theorem gX5_mixOutlook_X5_needed : GoodIn wsX5_mixOutlook (wsV RX5 369 RX5 yX5_needed wsX5_needed) := goodIn_app (goodIn_of _ (by decide +kernel)) ggX5_mixOutlook_X5_needed
theorem dX5_mixOutlook_0 : decode cX5_mixOutlook 0 = .ok (.lload_n 1, 1) := by decide +kernel
theorem dX5_mixOutlook_1 : decode cX5_mixOutlook 1 = .ok (.lstore_n 3, 1) := by decide +kernel
theorem dX5_mixOutlook_2 : decode cX5_mixOutlook 2 = .ok (.lload_n 3, 1) := by decide +kernel
theorem dX5_mixOutlook_3 : decode cX5_mixOutlook 3 = .ok (.aload_n 0, 1) := by decide +kernel
theorem dX5_mixOutlook_4 : decode cX5_mixOutlook 4 = .ok (.invokevirtual 351, 3) := by decide +kernel
theorem dX5_mixOutlook_7 : decode cX5_mixOutlook 7 = .ok (.i2l, 1) := by decide +kernel
theorem dX5_mixOutlook_8 : decode cX5_mixOutlook 8 = .ok (.invokestatic 298, 3) := by decide +kernel
theorem dX5_mixOutlook_11 : decode cX5_mixOutlook 11 = .ok (.lstore_n 3, 1) := by decide +kernel
theorem dX5_mixOutlook_12 : decode cX5_mixOutlook 12 = .ok (.lload_n 3, 1) := by decide +kernel
theorem dX5_mixOutlook_13 : decode cX5_mixOutlook 13 = .ok (.aload_n 0, 1) := by decide +kernel
theorem dX5_mixOutlook_14 : decode cX5_mixOutlook 14 = .ok (.invokevirtual 354, 3) := by decide +kernel
theorem dX5_mixOutlook_17 : decode cX5_mixOutlook 17 = .ok (.i2l, 1) := by decide +kernel
theorem dX5_mixOutlook_18 : decode cX5_mixOutlook 18 = .ok (.invokestatic 298, 3) := by decide +kernel
theorem dX5_mixOutlook_21 : decode cX5_mixOutlook 21 = .ok (.lstore_n 3, 1) := by decide +kernel
theorem dX5_mixOutlook_22 : decode cX5_mixOutlook 22 = .ok (.lload_n 3, 1) := by decide +kernel
theorem dX5_mixOutlook_23 : decode cX5_mixOutlook 23 = .ok (.aload_n 0, 1) := by decide +kernel
theorem dX5_mixOutlook_24 : decode cX5_mixOutlook 24 = .ok (.iconst 0, 1) := by decide +kernel
theorem dX5_mixOutlook_25 : decode cX5_mixOutlook 25 = .ok (.invokevirtual 357, 3) := by decide +kernel
theorem dX5_mixOutlook_28 : decode cX5_mixOutlook 28 = .ok (.i2l, 1) := by decide +kernel
theorem dX5_mixOutlook_29 : decode cX5_mixOutlook 29 = .ok (.invokestatic 298, 3) := by decide +kernel
theorem dX5_mixOutlook_32 : decode cX5_mixOutlook 32 = .ok (.lstore_n 3, 1) := by decide +kernel
theorem dX5_mixOutlook_33 : decode cX5_mixOutlook 33 = .ok (.lload_n 3, 1) := by decide +kernel
theorem dX5_mixOutlook_34 : decode cX5_mixOutlook 34 = .ok (.aload_n 0, 1) := by decide +kernel
theorem dX5_mixOutlook_35 : decode cX5_mixOutlook 35 = .ok (.iconst 1, 1) := by decide +kernel
theorem dX5_mixOutlook_36 : decode cX5_mixOutlook 36 = .ok (.invokevirtual 357, 3) := by decide +kernel
theorem dX5_mixOutlook_39 : decode cX5_mixOutlook 39 = .ok (.i2l, 1) := by decide +kernel
theorem dX5_mixOutlook_40 : decode cX5_mixOutlook 40 = .ok (.invokestatic 298, 3) := by decide +kernel
theorem dX5_mixOutlook_43 : decode cX5_mixOutlook 43 = .ok (.lstore_n 3, 1) := by decide +kernel
theorem dX5_mixOutlook_44 : decode cX5_mixOutlook 44 = .ok (.lload_n 3, 1) := by decide +kernel
theorem dX5_mixOutlook_45 : decode cX5_mixOutlook 45 = .ok (.aload_n 0, 1) := by decide +kernel
theorem dX5_mixOutlook_46 : decode cX5_mixOutlook 46 = .ok (.invokevirtual 360, 3) := by decide +kernel
theorem dX5_mixOutlook_49 : decode cX5_mixOutlook 49 = .ok (.i2l, 1) := by decide +kernel
theorem dX5_mixOutlook_50 : decode cX5_mixOutlook 50 = .ok (.invokestatic 298, 3) := by decide +kernel
theorem dX5_mixOutlook_53 : decode cX5_mixOutlook 53 = .ok (.lstore_n 3, 1) := by decide +kernel
theorem dX5_mixOutlook_54 : decode cX5_mixOutlook 54 = .ok (.iconst 1, 1) := by decide +kernel
theorem dX5_mixOutlook_55 : decode cX5_mixOutlook 55 = .ok (.istore 5, 2) := by decide +kernel
theorem dX5_mixOutlook_57 : decode cX5_mixOutlook 57 = .ok (.iload 5, 2) := by decide +kernel
theorem dX5_mixOutlook_59 : decode cX5_mixOutlook 59 = .ok (.iconst 4, 1) := by decide +kernel
theorem dX5_mixOutlook_60 : decode cX5_mixOutlook 60 = .ok (.if_icmp .gt 21, 3) := by decide +kernel
theorem dX5_mixOutlook_63 : decode cX5_mixOutlook 63 = .ok (.lload_n 3, 1) := by decide +kernel
theorem dX5_mixOutlook_64 : decode cX5_mixOutlook 64 = .ok (.aload_n 0, 1) := by decide +kernel
theorem dX5_mixOutlook_65 : decode cX5_mixOutlook 65 = .ok (.iload 5, 2) := by decide +kernel
theorem dX5_mixOutlook_67 : decode cX5_mixOutlook 67 = .ok (.invokevirtual 363, 3) := by decide +kernel
theorem dX5_mixOutlook_70 : decode cX5_mixOutlook 70 = .ok (.i2l, 1) := by decide +kernel
theorem dX5_mixOutlook_71 : decode cX5_mixOutlook 71 = .ok (.invokestatic 298, 3) := by decide +kernel
theorem dX5_mixOutlook_74 : decode cX5_mixOutlook 74 = .ok (.lstore_n 3, 1) := by decide +kernel
theorem dX5_mixOutlook_75 : decode cX5_mixOutlook 75 = .ok (.iinc 5 1, 3) := by decide +kernel
theorem dX5_mixOutlook_78 : decode cX5_mixOutlook 78 = .ok (.goto (-21), 3) := by decide +kernel
theorem dX5_mixOutlook_81 : decode cX5_mixOutlook 81 = .ok (.lload_n 3, 1) := by decide +kernel
theorem dX5_mixOutlook_82 : decode cX5_mixOutlook 82 = .ok (.aload_n 0, 1) := by decide +kernel
theorem dX5_mixOutlook_83 : decode cX5_mixOutlook 83 = .ok (.invokevirtual 366, 3) := by decide +kernel
theorem dX5_mixOutlook_86 : decode cX5_mixOutlook 86 = .ok (.i2l, 1) := by decide +kernel
theorem dX5_mixOutlook_87 : decode cX5_mixOutlook 87 = .ok (.invokestatic 298, 3) := by decide +kernel
theorem dX5_mixOutlook_90 : decode cX5_mixOutlook 90 = .ok (.lstore_n 3, 1) := by decide +kernel
theorem dX5_mixOutlook_91 : decode cX5_mixOutlook 91 = .ok (.lload_n 3, 1) := by decide +kernel
theorem dX5_mixOutlook_92 : decode cX5_mixOutlook 92 = .ok (.aload_n 0, 1) := by decide +kernel
theorem dX5_mixOutlook_93 : decode cX5_mixOutlook 93 = .ok (.invokevirtual 369, 3) := by decide +kernel
theorem dX5_mixOutlook_96 : decode cX5_mixOutlook 96 = .ok (.i2l, 1) := by decide +kernel
theorem dX5_mixOutlook_97 : decode cX5_mixOutlook 97 = .ok (.invokestatic 298, 3) := by decide +kernel
theorem dX5_mixOutlook_100 : decode cX5_mixOutlook 100 = .ok (.lreturn, 1) := by decide +kernel
set_option maxRecDepth 20000 in
theorem ggX5_mixBuffer_X2_length : GoodIn wsX5_mixBuffer wsX2_length := goodIn_r _ [6, 7, 26, 27, 28, 29] (by decide +kernel) (by decide +kernel)
set_option maxRecDepth 20000 in
theorem gX5_mixBuffer_X2_length : GoodIn wsX5_mixBuffer (wsV RX5 165 RX2 yX2_length wsX2_length) := goodIn_app (goodIn_of _ (by decide +kernel)) ggX5_mixBuffer_X2_length
set_option maxRecDepth 20000 in
theorem ggX5_mixBuffer_X5_mix : GoodIn wsX5_mixBuffer wsX5_mix := goodIn_r _ [11, 12] (by decide +kernel) (by decide +kernel)
set_option maxRecDepth 20000 in
theorem gX5_mixBuffer_X5_mix : GoodIn wsX5_mixBuffer (va_wsS RX5 298 yX5_mix wsX5_mix) := goodIn_app (goodIn_of _ (by decide +kernel)) ggX5_mixBuffer_X5_mix
set_option maxRecDepth 20000 in
theorem ggX5_mixBuffer_X2_codeAt : GoodIn wsX5_mixBuffer wsX2_codeAt := goodIn_r _ [16, 7, 17, 18, 10, 19, 26, 27, 28, 29] (by decide +kernel) (by decide +kernel)
set_option maxRecDepth 20000 in
theorem gX5_mixBuffer_X2_codeAt : GoodIn wsX5_mixBuffer (wsV RX5 334 RX2 yX2_codeAt wsX2_codeAt) := goodIn_app (goodIn_of _ (by decide +kernel)) ggX5_mixBuffer_X2_codeAt
theorem dX5_mixBuffer_0 : decode cX5_mixBuffer 0 = .ok (.lload_n 1, 1) := by decide +kernel
theorem dX5_mixBuffer_1 : decode cX5_mixBuffer 1 = .ok (.aload_n 0, 1) := by decide +kernel
theorem dX5_mixBuffer_2 : decode cX5_mixBuffer 2 = .ok (.getfield 32, 3) := by decide +kernel
theorem dX5_mixBuffer_5 : decode cX5_mixBuffer 5 = .ok (.invokevirtual 165, 3) := by decide +kernel
theorem dX5_mixBuffer_8 : decode cX5_mixBuffer 8 = .ok (.i2l, 1) := by decide +kernel
theorem dX5_mixBuffer_9 : decode cX5_mixBuffer 9 = .ok (.invokestatic 298, 3) := by decide +kernel
theorem dX5_mixBuffer_12 : decode cX5_mixBuffer 12 = .ok (.lstore_n 3, 1) := by decide +kernel
theorem dX5_mixBuffer_13 : decode cX5_mixBuffer 13 = .ok (.iconst 0, 1) := by decide +kernel
theorem dX5_mixBuffer_14 : decode cX5_mixBuffer 14 = .ok (.istore 5, 2) := by decide +kernel
theorem dX5_mixBuffer_16 : decode cX5_mixBuffer 16 = .ok (.iload 5, 2) := by decide +kernel
theorem dX5_mixBuffer_18 : decode cX5_mixBuffer 18 = .ok (.aload_n 0, 1) := by decide +kernel
theorem dX5_mixBuffer_19 : decode cX5_mixBuffer 19 = .ok (.getfield 32, 3) := by decide +kernel
theorem dX5_mixBuffer_22 : decode cX5_mixBuffer 22 = .ok (.invokevirtual 165, 3) := by decide +kernel
theorem dX5_mixBuffer_25 : decode cX5_mixBuffer 25 = .ok (.if_icmp .ge 24, 3) := by decide +kernel
theorem dX5_mixBuffer_28 : decode cX5_mixBuffer 28 = .ok (.lload_n 3, 1) := by decide +kernel
theorem dX5_mixBuffer_29 : decode cX5_mixBuffer 29 = .ok (.aload_n 0, 1) := by decide +kernel
theorem dX5_mixBuffer_30 : decode cX5_mixBuffer 30 = .ok (.getfield 32, 3) := by decide +kernel
theorem dX5_mixBuffer_33 : decode cX5_mixBuffer 33 = .ok (.iload 5, 2) := by decide +kernel
theorem dX5_mixBuffer_35 : decode cX5_mixBuffer 35 = .ok (.invokevirtual 334, 3) := by decide +kernel
theorem dX5_mixBuffer_38 : decode cX5_mixBuffer 38 = .ok (.i2l, 1) := by decide +kernel
theorem dX5_mixBuffer_39 : decode cX5_mixBuffer 39 = .ok (.invokestatic 298, 3) := by decide +kernel
theorem dX5_mixBuffer_42 : decode cX5_mixBuffer 42 = .ok (.lstore_n 3, 1) := by decide +kernel
theorem dX5_mixBuffer_43 : decode cX5_mixBuffer 43 = .ok (.iinc 5 1, 3) := by decide +kernel
theorem dX5_mixBuffer_46 : decode cX5_mixBuffer 46 = .ok (.goto (-30), 3) := by decide +kernel
theorem dX5_mixBuffer_49 : decode cX5_mixBuffer 49 = .ok (.lload_n 3, 1) := by decide +kernel
theorem dX5_mixBuffer_50 : decode cX5_mixBuffer 50 = .ok (.lreturn, 1) := by decide +kernel
theorem dX5_floatBits_0 : decode cX5_floatBits 0 = .ok (.fload_n 0, 1) := by decide +kernel
theorem dX5_floatBits_1 : decode cX5_floatBits 1 = .ok (.fconst 0, 1) := by decide +kernel
theorem dX5_floatBits_2 : decode cX5_floatBits 2 = .ok (.fcmp .g, 1) := by decide +kernel
theorem dX5_floatBits_3 : decode cX5_floatBits 3 = .ok (.ifCond .gt 5, 3) := by decide +kernel
theorem dX5_floatBits_6 : decode cX5_floatBits 6 = .ok (.iconst 0, 1) := by decide +kernel
theorem dX5_floatBits_7 : decode cX5_floatBits 7 = .ok (.ireturn, 1) := by decide +kernel
theorem dX5_floatBits_8 : decode cX5_floatBits 8 = .ok (.fload_n 0, 1) := by decide +kernel
theorem dX5_floatBits_9 : decode cX5_floatBits 9 = .ok (.fstore_n 1, 1) := by decide +kernel
theorem dX5_floatBits_10 : decode cX5_floatBits 10 = .ok (.bipush 127, 2) := by decide +kernel
theorem dX5_floatBits_12 : decode cX5_floatBits 12 = .ok (.istore_n 2, 1) := by decide +kernel
theorem dX5_floatBits_13 : decode cX5_floatBits 13 = .ok (.fload_n 1, 1) := by decide +kernel
theorem dX5_floatBits_14 : decode cX5_floatBits 14 = .ok (.fconst 1, 1) := by decide +kernel
theorem dX5_floatBits_15 : decode cX5_floatBits 15 = .ok (.fcmp .g, 1) := by decide +kernel
theorem dX5_floatBits_16 : decode cX5_floatBits 16 = .ok (.ifCond .ge 18, 3) := by decide +kernel
theorem dX5_floatBits_19 : decode cX5_floatBits 19 = .ok (.iload_n 2, 1) := by decide +kernel
theorem dX5_floatBits_20 : decode cX5_floatBits 20 = .ok (.iconst 1, 1) := by decide +kernel
theorem dX5_floatBits_21 : decode cX5_floatBits 21 = .ok (.if_icmp .le 13, 3) := by decide +kernel
theorem dX5_floatBits_24 : decode cX5_floatBits 24 = .ok (.fload_n 1, 1) := by decide +kernel
theorem dX5_floatBits_25 : decode cX5_floatBits 25 = .ok (.fconst 2, 1) := by decide +kernel
theorem dX5_floatBits_26 : decode cX5_floatBits 26 = .ok (.fmul, 1) := by decide +kernel
theorem dX5_floatBits_27 : decode cX5_floatBits 27 = .ok (.fstore_n 1, 1) := by decide +kernel
theorem dX5_floatBits_28 : decode cX5_floatBits 28 = .ok (.iinc 2 (-1), 3) := by decide +kernel
theorem dX5_floatBits_31 : decode cX5_floatBits 31 = .ok (.goto (-18), 3) := by decide +kernel
theorem dX5_floatBits_34 : decode cX5_floatBits 34 = .ok (.iload_n 2, 1) := by decide +kernel
theorem dX5_floatBits_35 : decode cX5_floatBits 35 = .ok (.bipush 23, 2) := by decide +kernel
theorem dX5_floatBits_37 : decode cX5_floatBits 37 = .ok (.ishl, 1) := by decide +kernel
theorem dX5_floatBits_38 : decode cX5_floatBits 38 = .ok (.fload_n 1, 1) := by decide +kernel
theorem dX5_floatBits_39 : decode cX5_floatBits 39 = .ok (.fconst 1, 1) := by decide +kernel
theorem dX5_floatBits_40 : decode cX5_floatBits 40 = .ok (.fsub, 1) := by decide +kernel
theorem dX5_floatBits_41 : decode cX5_floatBits 41 = .ok (.ldc_w 372, 3) := by decide +kernel
theorem dX5_floatBits_44 : decode cX5_floatBits 44 = .ok (.fmul, 1) := by decide +kernel
theorem dX5_floatBits_45 : decode cX5_floatBits 45 = .ok (.f2i, 1) := by decide +kernel
theorem dX5_floatBits_46 : decode cX5_floatBits 46 = .ok (.iadd, 1) := by decide +kernel
theorem dX5_floatBits_47 : decode cX5_floatBits 47 = .ok (.ireturn, 1) := by decide +kernel
theorem dX5_doubleBits_0 : decode cX5_doubleBits 0 = .ok (.dload_n 0, 1) := by decide +kernel
theorem dX5_doubleBits_1 : decode cX5_doubleBits 1 = .ok (.dconst 0, 1) := by decide +kernel
theorem dX5_doubleBits_2 : decode cX5_doubleBits 2 = .ok (.dcmp .g, 1) := by decide +kernel
theorem dX5_doubleBits_3 : decode cX5_doubleBits 3 = .ok (.ifCond .gt 5, 3) := by decide +kernel
theorem dX5_doubleBits_6 : decode cX5_doubleBits 6 = .ok (.lconst 0, 1) := by decide +kernel
theorem dX5_doubleBits_7 : decode cX5_doubleBits 7 = .ok (.lreturn, 1) := by decide +kernel
theorem dX5_doubleBits_8 : decode cX5_doubleBits 8 = .ok (.dload_n 0, 1) := by decide +kernel
theorem dX5_doubleBits_9 : decode cX5_doubleBits 9 = .ok (.dstore_n 2, 1) := by decide +kernel
theorem dX5_doubleBits_10 : decode cX5_doubleBits 10 = .ok (.ldc2_w 373, 3) := by decide +kernel
theorem dX5_doubleBits_13 : decode cX5_doubleBits 13 = .ok (.lstore 4, 2) := by decide +kernel
theorem dX5_doubleBits_15 : decode cX5_doubleBits 15 = .ok (.dload_n 2, 1) := by decide +kernel
theorem dX5_doubleBits_16 : decode cX5_doubleBits 16 = .ok (.dconst 1, 1) := by decide +kernel
theorem dX5_doubleBits_17 : decode cX5_doubleBits 17 = .ok (.dcmp .g, 1) := by decide +kernel
theorem dX5_doubleBits_18 : decode cX5_doubleBits 18 = .ok (.ifCond .ge 25, 3) := by decide +kernel
theorem dX5_doubleBits_21 : decode cX5_doubleBits 21 = .ok (.lload 4, 2) := by decide +kernel
theorem dX5_doubleBits_23 : decode cX5_doubleBits 23 = .ok (.lconst 1, 1) := by decide +kernel
theorem dX5_doubleBits_24 : decode cX5_doubleBits 24 = .ok (.lcmp, 1) := by decide +kernel
theorem dX5_doubleBits_25 : decode cX5_doubleBits 25 = .ok (.ifCond .le 18, 3) := by decide +kernel
theorem dX5_doubleBits_28 : decode cX5_doubleBits 28 = .ok (.dload_n 2, 1) := by decide +kernel
theorem dX5_doubleBits_29 : decode cX5_doubleBits 29 = .ok (.ldc2_w 375, 3) := by decide +kernel
theorem dX5_doubleBits_32 : decode cX5_doubleBits 32 = .ok (.dmul, 1) := by decide +kernel
theorem dX5_doubleBits_33 : decode cX5_doubleBits 33 = .ok (.dstore_n 2, 1) := by decide +kernel
theorem dX5_doubleBits_34 : decode cX5_doubleBits 34 = .ok (.lload 4, 2) := by decide +kernel
theorem dX5_doubleBits_36 : decode cX5_doubleBits 36 = .ok (.lconst 1, 1) := by decide +kernel
theorem dX5_doubleBits_37 : decode cX5_doubleBits 37 = .ok (.lsub, 1) := by decide +kernel
theorem dX5_doubleBits_38 : decode cX5_doubleBits 38 = .ok (.lstore 4, 2) := by decide +kernel
theorem dX5_doubleBits_40 : decode cX5_doubleBits 40 = .ok (.goto (-25), 3) := by decide +kernel
theorem dX5_doubleBits_43 : decode cX5_doubleBits 43 = .ok (.lload 4, 2) := by decide +kernel
theorem dX5_doubleBits_45 : decode cX5_doubleBits 45 = .ok (.bipush 52, 2) := by decide +kernel
theorem dX5_doubleBits_47 : decode cX5_doubleBits 47 = .ok (.lshl, 1) := by decide +kernel
theorem dX5_doubleBits_48 : decode cX5_doubleBits 48 = .ok (.dload_n 2, 1) := by decide +kernel
theorem dX5_doubleBits_49 : decode cX5_doubleBits 49 = .ok (.dconst 1, 1) := by decide +kernel
theorem dX5_doubleBits_50 : decode cX5_doubleBits 50 = .ok (.dsub, 1) := by decide +kernel
theorem dX5_doubleBits_51 : decode cX5_doubleBits 51 = .ok (.ldc2_w 377, 3) := by decide +kernel
theorem dX5_doubleBits_54 : decode cX5_doubleBits 54 = .ok (.dmul, 1) := by decide +kernel
theorem dX5_doubleBits_55 : decode cX5_doubleBits 55 = .ok (.d2l, 1) := by decide +kernel
theorem dX5_doubleBits_56 : decode cX5_doubleBits 56 = .ok (.ladd, 1) := by decide +kernel
theorem dX5_doubleBits_57 : decode cX5_doubleBits 57 = .ok (.lreturn, 1) := by decide +kernel
theorem dJ6_bitCount_0f7a4_0 : decode cJ6_bitCount_0f7a4 0 = .ok (.iload_n 0, 1) := by decide +kernel
theorem dJ6_bitCount_0f7a4_1 : decode cJ6_bitCount_0f7a4 1 = .ok (.iload_n 0, 1) := by decide +kernel
theorem dJ6_bitCount_0f7a4_2 : decode cJ6_bitCount_0f7a4 2 = .ok (.iconst 1, 1) := by decide +kernel
theorem dJ6_bitCount_0f7a4_3 : decode cJ6_bitCount_0f7a4 3 = .ok (.iushr, 1) := by decide +kernel
theorem dJ6_bitCount_0f7a4_4 : decode cJ6_bitCount_0f7a4 4 = .ok (.ldc_w 265, 3) := by decide +kernel
theorem dJ6_bitCount_0f7a4_7 : decode cJ6_bitCount_0f7a4 7 = .ok (.iand, 1) := by decide +kernel
theorem dJ6_bitCount_0f7a4_8 : decode cJ6_bitCount_0f7a4 8 = .ok (.isub, 1) := by decide +kernel
theorem dJ6_bitCount_0f7a4_9 : decode cJ6_bitCount_0f7a4 9 = .ok (.istore_n 0, 1) := by decide +kernel
theorem dJ6_bitCount_0f7a4_10 : decode cJ6_bitCount_0f7a4 10 = .ok (.iload_n 0, 1) := by decide +kernel
theorem dJ6_bitCount_0f7a4_11 : decode cJ6_bitCount_0f7a4 11 = .ok (.ldc_w 266, 3) := by decide +kernel
theorem dJ6_bitCount_0f7a4_14 : decode cJ6_bitCount_0f7a4 14 = .ok (.iand, 1) := by decide +kernel
theorem dJ6_bitCount_0f7a4_15 : decode cJ6_bitCount_0f7a4 15 = .ok (.iload_n 0, 1) := by decide +kernel
theorem dJ6_bitCount_0f7a4_16 : decode cJ6_bitCount_0f7a4 16 = .ok (.iconst 2, 1) := by decide +kernel
theorem dJ6_bitCount_0f7a4_17 : decode cJ6_bitCount_0f7a4 17 = .ok (.iushr, 1) := by decide +kernel
theorem dJ6_bitCount_0f7a4_18 : decode cJ6_bitCount_0f7a4 18 = .ok (.ldc_w 266, 3) := by decide +kernel
theorem dJ6_bitCount_0f7a4_21 : decode cJ6_bitCount_0f7a4 21 = .ok (.iand, 1) := by decide +kernel
theorem dJ6_bitCount_0f7a4_22 : decode cJ6_bitCount_0f7a4 22 = .ok (.iadd, 1) := by decide +kernel
theorem dJ6_bitCount_0f7a4_23 : decode cJ6_bitCount_0f7a4 23 = .ok (.istore_n 0, 1) := by decide +kernel
theorem dJ6_bitCount_0f7a4_24 : decode cJ6_bitCount_0f7a4 24 = .ok (.iload_n 0, 1) := by decide +kernel
theorem dJ6_bitCount_0f7a4_25 : decode cJ6_bitCount_0f7a4 25 = .ok (.iload_n 0, 1) := by decide +kernel
theorem dJ6_bitCount_0f7a4_26 : decode cJ6_bitCount_0f7a4 26 = .ok (.iconst 4, 1) := by decide +kernel
theorem dJ6_bitCount_0f7a4_27 : decode cJ6_bitCount_0f7a4 27 = .ok (.iushr, 1) := by decide +kernel
theorem dJ6_bitCount_0f7a4_28 : decode cJ6_bitCount_0f7a4 28 = .ok (.iadd, 1) := by decide +kernel
theorem dJ6_bitCount_0f7a4_29 : decode cJ6_bitCount_0f7a4 29 = .ok (.ldc_w 267, 3) := by decide +kernel
theorem dJ6_bitCount_0f7a4_32 : decode cJ6_bitCount_0f7a4 32 = .ok (.iand, 1) := by decide +kernel
theorem dJ6_bitCount_0f7a4_33 : decode cJ6_bitCount_0f7a4 33 = .ok (.istore_n 0, 1) := by decide +kernel
theorem dJ6_bitCount_0f7a4_34 : decode cJ6_bitCount_0f7a4 34 = .ok (.iload_n 0, 1) := by decide +kernel
theorem dJ6_bitCount_0f7a4_35 : decode cJ6_bitCount_0f7a4 35 = .ok (.iload_n 0, 1) := by decide +kernel
theorem dJ6_bitCount_0f7a4_36 : decode cJ6_bitCount_0f7a4 36 = .ok (.bipush 8, 2) := by decide +kernel
theorem dJ6_bitCount_0f7a4_38 : decode cJ6_bitCount_0f7a4 38 = .ok (.iushr, 1) := by decide +kernel
theorem dJ6_bitCount_0f7a4_39 : decode cJ6_bitCount_0f7a4 39 = .ok (.iadd, 1) := by decide +kernel
theorem dJ6_bitCount_0f7a4_40 : decode cJ6_bitCount_0f7a4 40 = .ok (.istore_n 0, 1) := by decide +kernel
theorem dJ6_bitCount_0f7a4_41 : decode cJ6_bitCount_0f7a4 41 = .ok (.iload_n 0, 1) := by decide +kernel
theorem dJ6_bitCount_0f7a4_42 : decode cJ6_bitCount_0f7a4 42 = .ok (.iload_n 0, 1) := by decide +kernel
theorem dJ6_bitCount_0f7a4_43 : decode cJ6_bitCount_0f7a4 43 = .ok (.bipush 16, 2) := by decide +kernel
theorem dJ6_bitCount_0f7a4_45 : decode cJ6_bitCount_0f7a4 45 = .ok (.iushr, 1) := by decide +kernel
theorem dJ6_bitCount_0f7a4_46 : decode cJ6_bitCount_0f7a4 46 = .ok (.iadd, 1) := by decide +kernel
theorem dJ6_bitCount_0f7a4_47 : decode cJ6_bitCount_0f7a4 47 = .ok (.istore_n 0, 1) := by decide +kernel
theorem dJ6_bitCount_0f7a4_48 : decode cJ6_bitCount_0f7a4 48 = .ok (.iload_n 0, 1) := by decide +kernel
theorem dJ6_bitCount_0f7a4_49 : decode cJ6_bitCount_0f7a4 49 = .ok (.bipush 63, 2) := by decide +kernel
theorem dJ6_bitCount_0f7a4_51 : decode cJ6_bitCount_0f7a4 51 = .ok (.iand, 1) := by decide +kernel
theorem dJ6_bitCount_0f7a4_52 : decode cJ6_bitCount_0f7a4 52 = .ok (.ireturn, 1) := by decide +kernel
theorem dJ9_floorMod_7cf53_0 : decode cJ9_floorMod_7cf53 0 = .ok (.iload_n 0, 1) := by decide +kernel
theorem dJ9_floorMod_7cf53_1 : decode cJ9_floorMod_7cf53 1 = .ok (.iload_n 1, 1) := by decide +kernel
theorem dJ9_floorMod_7cf53_2 : decode cJ9_floorMod_7cf53 2 = .ok (.irem, 1) := by decide +kernel
theorem dJ9_floorMod_7cf53_3 : decode cJ9_floorMod_7cf53 3 = .ok (.istore_n 2, 1) := by decide +kernel
theorem dJ9_floorMod_7cf53_4 : decode cJ9_floorMod_7cf53 4 = .ok (.iload_n 0, 1) := by decide +kernel
theorem dJ9_floorMod_7cf53_5 : decode cJ9_floorMod_7cf53 5 = .ok (.iload_n 1, 1) := by decide +kernel
theorem dJ9_floorMod_7cf53_6 : decode cJ9_floorMod_7cf53 6 = .ok (.ixor, 1) := by decide +kernel
theorem dJ9_floorMod_7cf53_7 : decode cJ9_floorMod_7cf53 7 = .ok (.ifCond .ge 11, 3) := by decide +kernel
theorem dJ9_floorMod_7cf53_10 : decode cJ9_floorMod_7cf53 10 = .ok (.iload_n 2, 1) := by decide +kernel
theorem dJ9_floorMod_7cf53_11 : decode cJ9_floorMod_7cf53 11 = .ok (.ifCond .eq 7, 3) := by decide +kernel
theorem dJ9_floorMod_7cf53_14 : decode cJ9_floorMod_7cf53 14 = .ok (.iload_n 2, 1) := by decide +kernel
theorem dJ9_floorMod_7cf53_15 : decode cJ9_floorMod_7cf53 15 = .ok (.iload_n 1, 1) := by decide +kernel
theorem dJ9_floorMod_7cf53_16 : decode cJ9_floorMod_7cf53 16 = .ok (.iadd, 1) := by decide +kernel
theorem dJ9_floorMod_7cf53_17 : decode cJ9_floorMod_7cf53 17 = .ok (.ireturn, 1) := by decide +kernel
theorem dJ9_floorMod_7cf53_18 : decode cJ9_floorMod_7cf53 18 = .ok (.iload_n 2, 1) := by decide +kernel
theorem dJ9_floorMod_7cf53_19 : decode cJ9_floorMod_7cf53 19 = .ok (.ireturn, 1) := by decide +kernel
theorem dJ9_abs_0f7a4_0 : decode cJ9_abs_0f7a4 0 = .ok (.iload_n 0, 1) := by decide +kernel
theorem dJ9_abs_0f7a4_1 : decode cJ9_abs_0f7a4 1 = .ok (.ifCond .ge 8, 3) := by decide +kernel
theorem dJ9_abs_0f7a4_4 : decode cJ9_abs_0f7a4 4 = .ok (.iload_n 0, 1) := by decide +kernel
theorem dJ9_abs_0f7a4_5 : decode cJ9_abs_0f7a4 5 = .ok (.ineg, 1) := by decide +kernel
theorem dJ9_abs_0f7a4_6 : decode cJ9_abs_0f7a4 6 = .ok (.goto 4, 3) := by decide +kernel
theorem dJ9_abs_0f7a4_9 : decode cJ9_abs_0f7a4 9 = .ok (.iload_n 0, 1) := by decide +kernel
