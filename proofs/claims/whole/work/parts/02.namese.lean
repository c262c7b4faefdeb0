set_option maxRecDepth 20000 in
theorem ggX5_mixOutlook_X5_ifLoaded : GoodIn wsX5_mixOutlook wsX5_ifLoaded := goodIn_ca (goodIn_r _ [93, 94, 95, 6, 96, 97, 98, 4, 99, 100, 101, 102, 10, 103, 104, 105, 106, 107, 108, 109, 110, 111, 112, 113, 28, 114, 115, 116, 117, 118, 119, 19, 20, 120, 121, 122, 123, 124, 125, 126, 127, 128, 37, 12, 13, 38, 129, 130, 131, 132, 133, 134, 135, 136, 57, 23, 58, 137, 138, 139, 140, 141, 142, 143, 144, 145, 30, 146, 147, 148, 50, 149, 67, 59, 150, 151, 152, 153, 154, 155, 156, 157, 158, 159, 31, 32, 160, 161, 162, 163, 164, 165, 166, 167, 168, 169, 170, 171, 172, 173, 174, 33, 34, 35, 36, 39, 40, 41, 42, 43, 44, 45, 46, 25, 26, 27, 29, 15, 16, 17, 18, 21, 22, 24, 175, 176, 177, 178, 60, 61, 62, 52, 53, 54, 55, 56, 242, 243, 244, 245, 246, 247, 248, 249, 250, 251, 252, 253, 254, 255, 256, 257, 258, 259, 260, 261, 266, 267, 268, 269, 262, 263, 264, 265] (by decide +kernel) (by decide +kernel)) (goodIn_sub (fun _ h => List.mem_cons_of_mem _ (List.mem_append_left _ (List.mem_append_right _ h))) (by decide +kernel))
set_option maxRecDepth 20000 in
theorem gX5_mixOutlook_X5_ifLoaded : GoodIn wsX5_mixOutlook (wsV RX5 357 RX5 yX5_ifLoaded wsX5_ifLoaded) := goodIn_app (goodIn_of _ (by decide +kernel)) ggX5_mixOutlook_X5_ifLoaded
set_option maxRecDepth 20000 in
theorem ggX5_mixOutlook_X5_bestHour : GoodIn wsX5_mixOutlook wsX5_bestHour := goodIn_r _ [182, 6, 171, 172, 173, 10, 174, 13, 33, 34, 35, 36, 37, 38, 39, 40, 41, 42, 31, 4, 32, 43, 44, 45, 46, 19, 20, 25, 26, 27, 28, 29, 30, 15, 16, 17, 18, 21, 22, 23, 24, 175, 176, 177, 50, 178, 60, 61, 62, 52, 53, 54, 55, 56, 57, 58, 59, 242, 243, 244, 245, 246, 247, 248, 249, 250, 251, 252, 253, 254, 255, 256, 257, 258, 259, 260, 261, 266, 267, 268, 269, 262, 263, 264, 265] (by decide +kernel) (by decide +kernel)
set_option maxRecDepth 20000 in
theorem gX5_mixOutlook_X5_bestHour : GoodIn wsX5_mixOutlook (wsV RX5 360 RX5 yX5_bestHour wsX5_bestHour) := goodIn_app (goodIn_of _ (by decide +kernel)) ggX5_mixOutlook_X5_bestHour
set_option maxRecDepth 20000 in
theorem ggX5_mixOutlook_X5_leastList : GoodIn wsX5_mixOutlook wsX5_leastList := goodIn_ca (goodIn_r _ [186, 187, 188, 6, 97, 98, 4, 99, 189, 190, 191, 10, 192, 104, 193, 57, 23, 58, 105, 106, 107, 108, 109, 110, 111, 112, 113, 28, 114, 115, 194, 195, 196, 197, 19, 20, 198, 199, 200, 201, 202, 203, 204, 205, 206, 207, 208, 21, 22, 24, 25, 26, 27, 29, 30, 156, 157, 158, 159, 124, 31, 32, 242, 243, 244, 245, 246, 247, 248, 249, 250, 251, 252, 253, 254, 255, 256, 257, 258, 259, 260, 261, 266, 267, 268, 269] (by decide +kernel) (by decide +kernel)) (goodIn_sub (fun _ h => List.mem_cons_of_mem _ (List.mem_append_right _ h)) (by decide +kernel))
set_option maxRecDepth 20000 in
theorem gX5_mixOutlook_X5_leastList : GoodIn wsX5_mixOutlook (wsV RX5 363 RX5 yX5_leastList wsX5_leastList) := goodIn_app (goodIn_of _ (by decide +kernel)) ggX5_mixOutlook_X5_leastList
set_option maxRecDepth 20000 in
theorem ggX5_mixOutlook_X5_lasts : GoodIn wsX5_mixOutlook wsX5_lasts := goodIn_r _ [212, 96, 6, 125, 126, 127, 10, 128, 37, 12, 109, 110, 19, 20, 13, 38, 104, 129, 130, 131, 132, 133, 134, 4, 135, 136, 57, 23, 58, 137, 138, 139, 140, 141, 142, 143, 28, 144, 124, 145, 115, 30, 146, 147, 148, 50, 149, 67, 59, 150, 151, 7, 8, 9, 11, 14, 15, 16, 17, 18, 21, 22, 24, 25, 26, 27, 29, 31, 32, 33, 34, 35, 36, 39, 40, 41, 42, 43, 44, 45, 46, 47, 48, 49, 51, 52, 53, 54, 55, 56, 60, 61, 62, 63, 64, 65, 66, 213, 214, 215, 216, 217, 218, 219, 220, 164, 165, 221, 222, 223, 224, 111, 112, 113, 114, 242, 243, 244, 245, 246, 247, 248, 249, 250, 251, 252, 253, 254, 255, 256, 257, 258, 259, 260, 261, 266, 267, 268, 269, 262, 263, 264, 265] (by decide +kernel) (by decide +kernel)
set_option maxRecDepth 20000 in
theorem gX5_mixOutlook_X5_lasts : GoodIn wsX5_mixOutlook (wsV RX5 366 RX5 yX5_lasts wsX5_lasts) := goodIn_app (goodIn_of _ (by decide +kernel)) ggX5_mixOutlook_X5_lasts
set_option maxRecDepth 20000 in
theorem ggX5_mixOutlook_X5_needed : GoodIn wsX5_mixOutlook wsX5_needed := goodIn_r _ [228, 6, 96, 7, 8, 9, 10, 11, 12, 13, 14, 15, 16, 17, 18, 19, 20, 21, 22, 23, 24, 25, 26, 27, 28, 29, 30, 31, 4, 32, 33, 34, 35, 36, 37, 38, 39, 40, 41, 42, 43, 44, 45, 46, 47, 48, 49, 50, 51, 52, 53, 54, 55, 56, 57, 58, 59, 60, 61, 62, 63, 64, 65, 66, 67, 229, 230, 231, 232, 233, 125, 126, 127, 128, 109, 110, 104, 129, 130, 131, 132, 133, 134, 135, 136, 137, 138, 139, 140, 141, 142, 143, 144, 124, 145, 115, 146, 147, 148, 149, 150, 151, 234, 235, 236, 237, 238, 239, 240, 241, 164, 165, 221, 222, 223, 224, 111, 112, 113, 114, 242, 243, 244, 245, 246, 247, 248, 249, 250, 251, 252, 253, 254, 255, 256, 257, 258, 259, 260, 261, 262, 263, 264, 265, 266, 267, 268, 269] (by decide +kernel) (by decide +kernel)
set_option maxRecDepth 20000 in
theorem gX5_mixOutlook_X5_needed : GoodIn wsX5_mixOutlook (wsV RX5 369 RX5 yX5_needed wsX5_needed) := goodIn_app (goodIn_of _ (by decide +kernel)) ggX5_mixOutlook_X5_needed
theorem dX5_mixOutlook_0 : decode cX5_mixOutlook 0 = .ok (.lload_n 1, 1) := by decide +kernel
theorem dX5_mixOutlook_1 : decode cX5_mixOutlook 1 = .ok (.lstore_n 3, 1) := by decide +kernel
theorem dX5_mixOutlook_2 : decode cX5_mixOutlook 2 = .ok (.lload_n 3, 1) := by decide +kernel
theorem dX5_mixOutlook_3 : decode cX5_mixOutlook 3 = .ok (.aload_n 0, 1) := by decide +kernel
theorem dX5_mixOutlook_4 : decode cX5_mixOutlook 4 = .ok (.invokevirtual 351, 3) := by decide +kernel
theorem dX5_mixOutlook_7 : decode cX5_mixOutlook 7 = .ok (.i2l, 1) := by decide +kernel
theorem dX5_mixOutlook_8 : decode cX5_mixOutlook 8 = .ok (.invokestatic 298, 3) := by decide +kernel
theorem dX5_mixOutlook_11 : decode cX5_mixOutlook 11 = .ok (.lstore_n 3, 1) := by decide +kernel
theorem dX5_mixOutlook_12 : decode cX5_mixOutlook 12 = .ok (.lload_n 3, 1) := by decide +kernel
theorem dX5_mixOutlook_13 : decode cX5_mixOutlook 13 = .ok (.aload_n 0, 1) := by decide +kernel
theorem dX5_mixOutlook_14 : decode cX5_mixOutlook 14 = .ok (.invokevirtual 354, 3) := by decide +kernel
theorem dX5_mixOutlook_17 : decode cX5_mixOutlook 17 = .ok (.i2l, 1) := by decide +kernel
theorem dX5_mixOutlook_18 : decode cX5_mixOutlook 18 = .ok (.invokestatic 298, 3) := by decide +kernel
theorem dX5_mixOutlook_21 : decode cX5_mixOutlook 21 = .ok (.lstore_n 3, 1) := by decide +kernel
theorem dX5_mixOutlook_22 : decode cX5_mixOutlook 22 = .ok (.lload_n 3, 1) := by decide +kernel
theorem dX5_mixOutlook_23 : decode cX5_mixOutlook 23 = .ok (.aload_n 0, 1) := by decide +kernel
theorem dX5_mixOutlook_24 : decode cX5_mixOutlook 24 = .ok (.iconst 0, 1) := by decide +kernel
theorem dX5_mixOutlook_25 : decode cX5_mixOutlook 25 = .ok (.invokevirtual 357, 3) := by decide +kernel
theorem dX5_mixOutlook_28 : decode cX5_mixOutlook 28 = .ok (.i2l, 1) := by decide +kernel
theorem dX5_mixOutlook_29 : decode cX5_mixOutlook 29 = .ok (.invokestatic 298, 3) := by decide +kernel
theorem dX5_mixOutlook_32 : decode cX5_mixOutlook 32 = .ok (.lstore_n 3, 1) := by decide +kernel
theorem dX5_mixOutlook_33 : decode cX5_mixOutlook 33 = .ok (.lload_n 3, 1) := by decide +kernel
theorem dX5_mixOutlook_34 : decode cX5_mixOutlook 34 = .ok (.aload_n 0, 1) := by decide +kernel
theorem dX5_mixOutlook_35 : decode cX5_mixOutlook 35 = .ok (.iconst 1, 1) := by decide +kernel
theorem dX5_mixOutlook_36 : decode cX5_mixOutlook 36 = .ok (.invokevirtual 357, 3) := by decide +kernel
theorem dX5_mixOutlook_39 : decode cX5_mixOutlook 39 = .ok (.i2l, 1) := by decide +kernel
theorem dX5_mixOutlook_40 : decode cX5_mixOutlook 40 = .ok (.invokestatic 298, 3) := by decide +kernel
theorem dX5_mixOutlook_43 : decode cX5_mixOutlook 43 = .ok (.lstore_n 3, 1) := by decide +kernel
theorem dX5_mixOutlook_44 : decode cX5_mixOutlook 44 = .ok (.lload_n 3, 1) := by decide +kernel
theorem dX5_mixOutlook_45 : decode cX5_mixOutlook 45 = .ok (.aload_n 0, 1) := by decide +kernel
theorem dX5_mixOutlook_46 : decode cX5_mixOutlook 46 = .ok (.invokevirtual 360, 3) := by decide +kernel
theorem dX5_mixOutlook_49 : decode cX5_mixOutlook 49 = .ok (.i2l, 1) := by decide +kernel
theorem dX5_mixOutlook_50 : decode cX5_mixOutlook 50 = .ok (.invokestatic 298, 3) := by decide +kernel
theorem dX5_mixOutlook_53 : decode cX5_mixOutlook 53 = .ok (.lstore_n 3, 1) := by decide +kernel
theorem dX5_mixOutlook_54 : decode cX5_mixOutlook 54 = .ok (.iconst 1, 1) := by decide +kernel
theorem dX5_mixOutlook_55 : decode cX5_mixOutlook 55 = .ok (.istore 5, 2) := by decide +kernel
theorem dX5_mixOutlook_57 : decode cX5_mixOutlook 57 = .ok (.iload 5, 2) := by decide +kernel
theorem dX5_mixOutlook_59 : decode cX5_mixOutlook 59 = .ok (.iconst 4, 1) := by decide +kernel
theorem dX5_mixOutlook_60 : decode cX5_mixOutlook 60 = .ok (.if_icmp .gt 21, 3) := by decide +kernel
theorem dX5_mixOutlook_63 : decode cX5_mixOutlook 63 = .ok (.lload_n 3, 1) := by decide +kernel
theorem dX5_mixOutlook_64 : decode cX5_mixOutlook 64 = .ok (.aload_n 0, 1) := by decide +kernel
theorem dX5_mixOutlook_65 : decode cX5_mixOutlook 65 = .ok (.iload 5, 2) := by decide +kernel
theorem dX5_mixOutlook_67 : decode cX5_mixOutlook 67 = .ok (.invokevirtual 363, 3) := by decide +kernel
theorem dX5_mixOutlook_70 : decode cX5_mixOutlook 70 = .ok (.i2l, 1) := by decide +kernel
theorem dX5_mixOutlook_71 : decode cX5_mixOutlook 71 = .ok (.invokestatic 298, 3) := by decide +kernel
theorem dX5_mixOutlook_74 : decode cX5_mixOutlook 74 = .ok (.lstore_n 3, 1) := by decide +kernel
theorem dX5_mixOutlook_75 : decode cX5_mixOutlook 75 = .ok (.iinc 5 1, 3) := by decide +kernel
theorem dX5_mixOutlook_78 : decode cX5_mixOutlook 78 = .ok (.goto (-21), 3) := by decide +kernel
theorem dX5_mixOutlook_81 : decode cX5_mixOutlook 81 = .ok (.lload_n 3, 1) := by decide +kernel
theorem dX5_mixOutlook_82 : decode cX5_mixOutlook 82 = .ok (.aload_n 0, 1) := by decide +kernel
theorem dX5_mixOutlook_83 : decode cX5_mixOutlook 83 = .ok (.invokevirtual 366, 3) := by decide +kernel
theorem dX5_mixOutlook_86 : decode cX5_mixOutlook 86 = .ok (.i2l, 1) := by decide +kernel
theorem dX5_mixOutlook_87 : decode cX5_mixOutlook 87 = .ok (.invokestatic 298, 3) := by decide +kernel
theorem dX5_mixOutlook_90 : decode cX5_mixOutlook 90 = .ok (.lstore_n 3, 1) := by decide +kernel
theorem dX5_mixOutlook_91 : decode cX5_mixOutlook 91 = .ok (.lload_n 3, 1) := by decide +kernel
theorem dX5_mixOutlook_92 : decode cX5_mixOutlook 92 = .ok (.aload_n 0, 1) := by decide +kernel
theorem dX5_mixOutlook_93 : decode cX5_mixOutlook 93 = .ok (.invokevirtual 369, 3) := by decide +kernel
theorem dX5_mixOutlook_96 : decode cX5_mixOutlook 96 = .ok (.i2l, 1) := by decide +kernel
theorem dX5_mixOutlook_97 : decode cX5_mixOutlook 97 = .ok (.invokestatic 298, 3) := by decide +kernel
theorem dX5_mixOutlook_100 : decode cX5_mixOutlook 100 = .ok (.lreturn, 1) := by decide +kernel
set_option maxRecDepth 20000 in
theorem ggX5_mixBuffer_X2_length : GoodIn wsX5_mixBuffer wsX2_length := goodIn_r _ [6, 7, 26, 27, 28, 29] (by decide +kernel) (by decide +kernel)
set_option maxRecDepth 20000 in
theorem gX5_mixBuffer_X2_length : GoodIn wsX5_mixBuffer (wsV RX5 165 RX2 yX2_length wsX2_length) := goodIn_app (goodIn_of _ (by decide +kernel)) ggX5_mixBuffer_X2_length
set_option maxRecDepth 20000 in
theorem ggX5_mixBuffer_X5_mix : GoodIn wsX5_mixBuffer wsX5_mix := goodIn_r _ [11, 12] (by decide +kernel) (by decide +kernel)
set_option maxRecDepth 20000 in
theorem gX5_mixBuffer_X5_mix : GoodIn wsX5_mixBuffer (va_wsS RX5 298 yX5_mix wsX5_mix) := goodIn_app (goodIn_of _ (by decide +kernel)) ggX5_mixBuffer_X5_mix
set_option maxRecDepth 20000 in
theorem ggX5_mixBuffer_X2_codeAt : GoodIn wsX5_mixBuffer wsX2_codeAt := goodIn_r _ [16, 7, 17, 18, 10, 19, 26, 27, 28, 29] (by decide +kernel) (by decide +kernel)
set_option maxRecDepth 20000 in
theorem gX5_mixBuffer_X2_codeAt : GoodIn wsX5_mixBuffer (wsV RX5 334 RX2 yX2_codeAt wsX2_codeAt) := goodIn_app (goodIn_of _ (by decide +kernel)) ggX5_mixBuffer_X2_codeAt
theorem dX5_mixBuffer_0 : decode cX5_mixBuffer 0 = .ok (.lload_n 1, 1) := by decide +kernel
theorem dX5_mixBuffer_1 : decode cX5_mixBuffer 1 = .ok (.aload_n 0, 1) := by decide +kernel
theorem dX5_mixBuffer_2 : decode cX5_mixBuffer 2 = .ok (.getfield 32, 3) := by decide +kernel
theorem dX5_mixBuffer_5 : decode cX5_mixBuffer 5 = .ok (.invokevirtual 165, 3) := by decide +kernel
theorem dX5_mixBuffer_8 : decode cX5_mixBuffer 8 = .ok (.i2l, 1) := by decide +kernel
theorem dX5_mixBuffer_9 : decode cX5_mixBuffer 9 = .ok (.invokestatic 298, 3) := by decide +kernel
theorem dX5_mixBuffer_12 : decode cX5_mixBuffer 12 = .ok (.lstore_n 3, 1) := by decide +kernel
theorem dX5_mixBuffer_13 : decode cX5_mixBuffer 13 = .ok (.iconst 0, 1) := by decide +kernel
theorem dX5_mixBuffer_14 : decode cX5_mixBuffer 14 = .ok (.istore 5, 2) := by decide +kernel
theorem dX5_mixBuffer_16 : decode cX5_mixBuffer 16 = .ok (.iload 5, 2) := by decide +kernel
theorem dX5_mixBuffer_18 : decode cX5_mixBuffer 18 = .ok (.aload_n 0, 1) := by decide +kernel
theorem dX5_mixBuffer_19 : decode cX5_mixBuffer 19 = .ok (.getfield 32, 3) := by decide +kernel
theorem dX5_mixBuffer_22 : decode cX5_mixBuffer 22 = .ok (.invokevirtual 165, 3) := by decide +kernel
theorem dX5_mixBuffer_25 : decode cX5_mixBuffer 25 = .ok (.if_icmp .ge 24, 3) := by decide +kernel
theorem dX5_mixBuffer_28 : decode cX5_mixBuffer 28 = .ok (.lload_n 3, 1) := by decide +kernel
theorem dX5_mixBuffer_29 : decode cX5_mixBuffer 29 = .ok (.aload_n 0, 1) := by decide +kernel
theorem dX5_mixBuffer_30 : decode cX5_mixBuffer 30 = .ok (.getfield 32, 3) := by decide +kernel
theorem dX5_mixBuffer_33 : decode cX5_mixBuffer 33 = .ok (.iload 5, 2) := by decide +kernel
theorem dX5_mixBuffer_35 : decode cX5_mixBuffer 35 = .ok (.invokevirtual 334, 3) := by decide +kernel
theorem dX5_mixBuffer_38 : decode cX5_mixBuffer 38 = .ok (.i2l, 1) := by decide +kernel
theorem dX5_mixBuffer_39 : decode cX5_mixBuffer 39 = .ok (.invokestatic 298, 3) := by decide +kernel
theorem dX5_mixBuffer_42 : decode cX5_mixBuffer 42 = .ok (.lstore_n 3, 1) := by decide +kernel
theorem dX5_mixBuffer_43 : decode cX5_mixBuffer 43 = .ok (.iinc 5 1, 3) := by decide +kernel
theorem dX5_mixBuffer_46 : decode cX5_mixBuffer 46 = .ok (.goto (-30), 3) := by decide +kernel
theorem dX5_mixBuffer_49 : decode cX5_mixBuffer 49 = .ok (.lload_n 3, 1) := by decide +kernel
theorem dX5_mixBuffer_50 : decode cX5_mixBuffer 50 = .ok (.lreturn, 1) := by decide +kernel
theorem dX5_floatBits_0 : decode cX5_floatBits 0 = .ok (.fload_n 0, 1) := by decide +kernel
theorem dX5_floatBits_1 : decode cX5_floatBits 1 = .ok (.fconst 0, 1) := by decide +kernel
theorem dX5_floatBits_2 : decode cX5_floatBits 2 = .ok (.fcmp .g, 1) := by decide +kernel
theorem dX5_floatBits_3 : decode cX5_floatBits 3 = .ok (.ifCond .gt 5, 3) := by decide +kernel
theorem dX5_floatBits_6 : decode cX5_floatBits 6 = .ok (.iconst 0, 1) := by decide +kernel
theorem dX5_floatBits_7 : decode cX5_floatBits 7 = .ok (.ireturn, 1) := by decide +kernel
theorem dX5_floatBits_8 : decode cX5_floatBits 8 = .ok (.fload_n 0, 1) := by decide +kernel
theorem dX5_floatBits_9 : decode cX5_floatBits 9 = .ok (.fstore_n 1, 1) := by decide +kernel
theorem dX5_floatBits_10 : decode cX5_floatBits 10 = .ok (.bipush 127, 2) := by decide +kernel
theorem dX5_floatBits_12 : decode cX5_floatBits 12 = .ok (.istore_n 2, 1) := by decide +kernel
theorem dX5_floatBits_13 : decode cX5_floatBits 13 = .ok (.fload_n 1, 1) := by decide +kernel
theorem dX5_floatBits_14 : decode cX5_floatBits 14 = .ok (.fconst 1, 1) := by decide +kernel
theorem dX5_floatBits_15 : decode cX5_floatBits 15 = .ok (.fcmp .g, 1) := by decide +kernel
theorem dX5_floatBits_16 : decode cX5_floatBits 16 = .ok (.ifCond .ge 18, 3) := by decide +kernel
theorem dX5_floatBits_19 : decode cX5_floatBits 19 = .ok (.iload_n 2, 1) := by decide +kernel
theorem dX5_floatBits_20 : decode cX5_floatBits 20 = .ok (.iconst 1, 1) := by decide +kernel
theorem dX5_floatBits_21 : decode cX5_floatBits 21 = .ok (.if_icmp .le 13, 3) := by decide +kernel
theorem dX5_floatBits_24 : decode cX5_floatBits 24 = .ok (.fload_n 1, 1) := by decide +kernel
theorem dX5_floatBits_25 : decode cX5_floatBits 25 = .ok (.fconst 2, 1) := by decide +kernel
theorem dX5_floatBits_26 : decode cX5_floatBits 26 = .ok (.fmul, 1) := by decide +kernel
theorem dX5_floatBits_27 : decode cX5_floatBits 27 = .ok (.fstore_n 1, 1) := by decide +kernel
theorem dX5_floatBits_28 : decode cX5_floatBits 28 = .ok (.iinc 2 (-1), 3) := by decide +kernel
theorem dX5_floatBits_31 : decode cX5_floatBits 31 = .ok (.goto (-18), 3) := by decide +kernel
theorem dX5_floatBits_34 : decode cX5_floatBits 34 = .ok (.iload_n 2, 1) := by decide +kernel
theorem dX5_floatBits_35 : decode cX5_floatBits 35 = .ok (.bipush 23, 2) := by decide +kernel
theorem dX5_floatBits_37 : decode cX5_floatBits 37 = .ok (.ishl, 1) := by decide +kernel
theorem dX5_floatBits_38 : decode cX5_floatBits 38 = .ok (.fload_n 1, 1) := by decide +kernel
theorem dX5_floatBits_39 : decode cX5_floatBits 39 = .ok (.fconst 1, 1) := by decide +kernel
theorem dX5_floatBits_40 : decode cX5_floatBits 40 = .ok (.fsub, 1) := by decide +kernel
theorem dX5_floatBits_41 : decode cX5_floatBits 41 = .ok (.ldc_w 372, 3) := by decide +kernel
theorem dX5_floatBits_44 : decode cX5_floatBits 44 = .ok (.fmul, 1) := by decide +kernel
theorem dX5_floatBits_45 : decode cX5_floatBits 45 = .ok (.f2i, 1) := by decide +kernel
theorem dX5_floatBits_46 : decode cX5_floatBits 46 = .ok (.iadd, 1) := by decide +kernel
theorem dX5_floatBits_47 : decode cX5_floatBits 47 = .ok (.ireturn, 1) := by decide +kernel
theorem dX5_doubleBits_0 : decode cX5_doubleBits 0 = .ok (.dload_n 0, 1) := by decide +kernel
theorem dX5_doubleBits_1 : decode cX5_doubleBits 1 = .ok (.dconst 0, 1) := by decide +kernel
theorem dX5_doubleBits_2 : decode cX5_doubleBits 2 = .ok (.dcmp .g, 1) := by decide +kernel
theorem dX5_doubleBits_3 : decode cX5_doubleBits 3 = .ok (.ifCond .gt 5, 3) := by decide +kernel
theorem dX5_doubleBits_6 : decode cX5_doubleBits 6 = .ok (.lconst 0, 1) := by decide +kernel
theorem dX5_doubleBits_7 : decode cX5_doubleBits 7 = .ok (.lreturn, 1) := by decide +kernel
theorem dX5_doubleBits_8 : decode cX5_doubleBits 8 = .ok (.dload_n 0, 1) := by decide +kernel
theorem dX5_doubleBits_9 : decode cX5_doubleBits 9 = .ok (.dstore_n 2, 1) := by decide +kernel
theorem dX5_doubleBits_10 : decode cX5_doubleBits 10 = .ok (.ldc2_w 373, 3) := by decide +kernel
theorem dX5_doubleBits_13 : decode cX5_doubleBits 13 = .ok (.lstore 4, 2) := by decide +kernel
theorem dX5_doubleBits_15 : decode cX5_doubleBits 15 = .ok (.dload_n 2, 1) := by decide +kernel
theorem dX5_doubleBits_16 : decode cX5_doubleBits 16 = .ok (.dconst 1, 1) := by decide +kernel
theorem dX5_doubleBits_17 : decode cX5_doubleBits 17 = .ok (.dcmp .g, 1) := by decide +kernel
theorem dX5_doubleBits_18 : decode cX5_doubleBits 18 = .ok (.ifCond .ge 25, 3) := by decide +kernel
theorem dX5_doubleBits_21 : decode cX5_doubleBits 21 = .ok (.lload 4, 2) := by decide +kernel
theorem dX5_doubleBits_23 : decode cX5_doubleBits 23 = .ok (.lconst 1, 1) := by decide +kernel
theorem dX5_doubleBits_24 : decode cX5_doubleBits 24 = .ok (.lcmp, 1) := by decide +kernel
theorem dX5_doubleBits_25 : decode cX5_doubleBits 25 = .ok (.ifCond .le 18, 3) := by decide +kernel
theorem dX5_doubleBits_28 : decode cX5_doubleBits 28 = .ok (.dload_n 2, 1) := by decide +kernel
theorem dX5_doubleBits_29 : decode cX5_doubleBits 29 = .ok (.ldc2_w 375, 3) := by decide +kernel
theorem dX5_doubleBits_32 : decode cX5_doubleBits 32 = .ok (.dmul, 1) := by decide +kernel
theorem dX5_doubleBits_33 : decode cX5_doubleBits 33 = .ok (.dstore_n 2, 1) := by decide +kernel
theorem dX5_doubleBits_34 : decode cX5_doubleBits 34 = .ok (.lload 4, 2) := by decide +kernel
theorem dX5_doubleBits_36 : decode cX5_doubleBits 36 = .ok (.lconst 1, 1) := by decide +kernel
theorem dX5_doubleBits_37 : decode cX5_doubleBits 37 = .ok (.lsub, 1) := by decide +kernel
theorem dX5_doubleBits_38 : decode cX5_doubleBits 38 = .ok (.lstore 4, 2) := by decide +kernel
theorem dX5_doubleBits_40 : decode cX5_doubleBits 40 = .ok (.goto (-25), 3) := by decide +kernel
theorem dX5_doubleBits_43 : decode cX5_doubleBits 43 = .ok (.lload 4, 2) := by decide +kernel
theorem dX5_doubleBits_45 : decode cX5_doubleBits 45 = .ok (.bipush 52, 2) := by decide +kernel
theorem dX5_doubleBits_47 : decode cX5_doubleBits 47 = .ok (.lshl, 1) := by decide +kernel
theorem dX5_doubleBits_48 : decode cX5_doubleBits 48 = .ok (.dload_n 2, 1) := by decide +kernel
theorem dX5_doubleBits_49 : decode cX5_doubleBits 49 = .ok (.dconst 1, 1) := by decide +kernel
theorem dX5_doubleBits_50 : decode cX5_doubleBits 50 = .ok (.dsub, 1) := by decide +kernel
theorem dX5_doubleBits_51 : decode cX5_doubleBits 51 = .ok (.ldc2_w 377, 3) := by decide +kernel
theorem dX5_doubleBits_54 : decode cX5_doubleBits 54 = .ok (.dmul, 1) := by decide +kernel
theorem dX5_doubleBits_55 : decode cX5_doubleBits 55 = .ok (.d2l, 1) := by decide +kernel
theorem dX5_doubleBits_56 : decode cX5_doubleBits 56 = .ok (.ladd, 1) := by decide +kernel
theorem dX5_doubleBits_57 : decode cX5_doubleBits 57 = .ok (.lreturn, 1) := by decide +kernel
theorem dX6_init_0 : decode cX6_init 0 = .ok (.aload_n 0, 1) := by decide +kernel
theorem dX6_init_1 : decode cX6_init 1 = .ok (.invokespecial 1, 3) := by decide +kernel
theorem dX6_init_4 : decode cX6_init 4 = .ok (.aload_n 0, 1) := by decide +kernel
theorem dX6_init_5 : decode cX6_init 5 = .ok (.bipush 97, 2) := by decide +kernel
theorem dX6_init_7 : decode cX6_init 7 = .ok (.newarray .int, 2) := by decide +kernel
theorem dX6_init_9 : decode cX6_init 9 = .ok (.putfield 7, 3) := by decide +kernel
theorem dX6_init_12 : decode cX6_init 12 = .ok (.aload_n 0, 1) := by decide +kernel
theorem dX6_init_13 : decode cX6_init 13 = .ok (.bipush 97, 2) := by decide +kernel
theorem dX6_init_15 : decode cX6_init 15 = .ok (.newarray .int, 2) := by decide +kernel
theorem dX6_init_17 : decode cX6_init 17 = .ok (.putfield 13, 3) := by decide +kernel
theorem dX6_init_20 : decode cX6_init 20 = .ok (.aload_n 0, 1) := by decide +kernel
theorem dX6_init_21 : decode cX6_init 21 = .ok (.sipush 582, 3) := by decide +kernel
theorem dX6_init_24 : decode cX6_init 24 = .ok (.newarray .int, 2) := by decide +kernel
theorem dX6_init_26 : decode cX6_init 26 = .ok (.putfield 16, 3) := by decide +kernel
theorem dX6_init_29 : decode cX6_init 29 = .ok (.aload_n 0, 1) := by decide +kernel
theorem dX6_init_30 : decode cX6_init 30 = .ok (.bipush 97, 2) := by decide +kernel
theorem dX6_init_32 : decode cX6_init 32 = .ok (.newarray .int, 2) := by decide +kernel
theorem dX6_init_34 : decode cX6_init 34 = .ok (.putfield 19, 3) := by decide +kernel
theorem dX6_init_37 : decode cX6_init 37 = .ok (.aload_n 0, 1) := by decide +kernel
theorem dX6_init_38 : decode cX6_init 38 = .ok (.bipush 60, 2) := by decide +kernel
theorem dX6_init_40 : decode cX6_init 40 = .ok (.newarray .int, 2) := by decide +kernel
theorem dX6_init_42 : decode cX6_init 42 = .ok (.putfield 22, 3) := by decide +kernel
theorem dX6_init_45 : decode cX6_init 45 = .ok (.aload_n 0, 1) := by decide +kernel
theorem dX6_init_46 : decode cX6_init 46 = .ok (.getfield 7, 3) := by decide +kernel
theorem dX6_init_49 : decode cX6_init 49 = .ok (.iconst 0, 1) := by decide +kernel
theorem dX6_init_50 : decode cX6_init 50 = .ok (.sipush 300, 3) := by decide +kernel
theorem dX6_init_53 : decode cX6_init 53 = .ok (.iastore, 1) := by decide +kernel
theorem dX6_init_54 : decode cX6_init 54 = .ok (.aload_n 0, 1) := by decide +kernel
theorem dX6_init_55 : decode cX6_init 55 = .ok (.getfield 7, 3) := by decide +kernel
theorem dX6_init_58 : decode cX6_init 58 = .ok (.iconst 1, 1) := by decide +kernel
theorem dX6_init_59 : decode cX6_init 59 = .ok (.bipush 12, 2) := by decide +kernel
theorem dX6_init_61 : decode cX6_init 61 = .ok (.iastore, 1) := by decide +kernel
theorem dX6_init_62 : decode cX6_init 62 = .ok (.aload_n 0, 1) := by decide +kernel
theorem dX6_init_63 : decode cX6_init 63 = .ok (.getfield 7, 3) := by decide +kernel
theorem dX6_init_66 : decode cX6_init 66 = .ok (.iconst 2, 1) := by decide +kernel
theorem dX6_init_67 : decode cX6_init 67 = .ok (.bipush 10, 2) := by decide +kernel
theorem dX6_init_69 : decode cX6_init 69 = .ok (.iastore, 1) := by decide +kernel
theorem dX6_init_70 : decode cX6_init 70 = .ok (.aload_n 0, 1) := by decide +kernel
theorem dX6_init_71 : decode cX6_init 71 = .ok (.getfield 7, 3) := by decide +kernel
theorem dX6_init_74 : decode cX6_init 74 = .ok (.bipush 49, 2) := by decide +kernel
theorem dX6_init_76 : decode cX6_init 76 = .ok (.bipush 40, 2) := by decide +kernel
theorem dX6_init_78 : decode cX6_init 78 = .ok (.iastore, 1) := by decide +kernel
theorem dX6_init_79 : decode cX6_init 79 = .ok (.iconst 0, 1) := by decide +kernel
theorem dX6_init_80 : decode cX6_init 80 = .ok (.istore_n 1, 1) := by decide +kernel
theorem dX6_init_81 : decode cX6_init 81 = .ok (.iload_n 1, 1) := by decide +kernel
theorem dX6_init_82 : decode cX6_init 82 = .ok (.bipush 24, 2) := by decide +kernel
theorem dX6_init_84 : decode cX6_init 84 = .ok (.if_icmp .ge 19, 3) := by decide +kernel
theorem dX6_init_87 : decode cX6_init 87 = .ok (.aload_n 0, 1) := by decide +kernel
theorem dX6_init_88 : decode cX6_init 88 = .ok (.getfield 7, 3) := by decide +kernel
theorem dX6_init_91 : decode cX6_init 91 = .ok (.iconst 3, 1) := by decide +kernel
theorem dX6_init_92 : decode cX6_init 92 = .ok (.iload_n 1, 1) := by decide +kernel
theorem dX6_init_93 : decode cX6_init 93 = .ok (.iadd, 1) := by decide +kernel
theorem dX6_init_94 : decode cX6_init 94 = .ok (.bipush 10, 2) := by decide +kernel
theorem dX6_init_96 : decode cX6_init 96 = .ok (.iastore, 1) := by decide +kernel
theorem dX6_init_97 : decode cX6_init 97 = .ok (.iinc 1 1, 3) := by decide +kernel
theorem dX6_init_100 : decode cX6_init 100 = .ok (.goto (-19), 3) := by decide +kernel
theorem dX6_init_103 : decode cX6_init 103 = .ok (.return_, 1) := by decide +kernel
theorem dX6_thrown_0 : decode cX6_thrown 0 = .ok (.aload_n 0, 1) := by decide +kernel
theorem dX6_thrown_1 : decode cX6_thrown 1 = .ok (.getfield 25, 3) := by decide +kernel
theorem dX6_thrown_4 : decode cX6_thrown 4 = .ok (.ireturn, 1) := by decide +kernel
theorem dX6_refuses_0 : decode cX6_refuses 0 = .ok (.aload_n 0, 1) := by decide +kernel
theorem dX6_refuses_1 : decode cX6_refuses 1 = .ok (.iload_n 1, 1) := by decide +kernel
theorem dX6_refuses_2 : decode cX6_refuses 2 = .ok (.putfield 25, 3) := by decide +kernel
theorem dX6_refuses_5 : decode cX6_refuses 5 = .ok (.iconst 0, 1) := by decide +kernel
theorem dX6_refuses_6 : decode cX6_refuses 6 = .ok (.ireturn, 1) := by decide +kernel
theorem dX6_in_0 : decode cX6_in 0 = .ok (.iload_n 0, 1) := by decide +kernel
theorem dX6_in_1 : decode cX6_in 1 = .ok (.iload_n 1, 1) := by decide +kernel
theorem dX6_in_2 : decode cX6_in 2 = .ok (.if_icmp .lt 12, 3) := by decide +kernel
theorem dX6_in_5 : decode cX6_in 5 = .ok (.iload_n 0, 1) := by decide +kernel
theorem dX6_in_6 : decode cX6_in 6 = .ok (.iload_n 2, 1) := by decide +kernel
theorem dX6_in_7 : decode cX6_in 7 = .ok (.if_icmp .gt 7, 3) := by decide +kernel
theorem dX6_in_10 : decode cX6_in 10 = .ok (.iconst 1, 1) := by decide +kernel
theorem dX6_in_11 : decode cX6_in 11 = .ok (.goto 4, 3) := by decide +kernel
theorem dX6_in_14 : decode cX6_in 14 = .ok (.iconst 0, 1) := by decide +kernel
theorem dX6_in_15 : decode cX6_in 15 = .ok (.ireturn, 1) := by decide +kernel
theorem dX6_lays_0 : decode cX6_lays 0 = .ok (.iconst 0, 1) := by decide +kernel
theorem dX6_lays_1 : decode cX6_lays 1 = .ok (.istore 4, 2) := by decide +kernel
theorem dX6_lays_3 : decode cX6_lays 3 = .ok (.iload 4, 2) := by decide +kernel
theorem dX6_lays_5 : decode cX6_lays 5 = .ok (.bipush 97, 2) := by decide +kernel
theorem dX6_lays_7 : decode cX6_lays 7 = .ok (.if_icmp .ge 21, 3) := by decide +kernel
theorem dX6_lays_10 : decode cX6_lays 10 = .ok (.aload_n 2, 1) := by decide +kernel
theorem dX6_lays_11 : decode cX6_lays 11 = .ok (.iload_n 3, 1) := by decide +kernel
theorem dX6_lays_12 : decode cX6_lays 12 = .ok (.iload 4, 2) := by decide +kernel
theorem dX6_lays_14 : decode cX6_lays 14 = .ok (.iadd, 1) := by decide +kernel
theorem dX6_lays_15 : decode cX6_lays 15 = .ok (.aload_n 0, 1) := by decide +kernel
theorem dX6_lays_16 : decode cX6_lays 16 = .ok (.iload_n 1, 1) := by decide +kernel
theorem dX6_lays_17 : decode cX6_lays 17 = .ok (.iload 4, 2) := by decide +kernel
theorem dX6_lays_19 : decode cX6_lays 19 = .ok (.iadd, 1) := by decide +kernel
theorem dX6_lays_20 : decode cX6_lays 20 = .ok (.iaload, 1) := by decide +kernel
theorem dX6_lays_21 : decode cX6_lays 21 = .ok (.iastore, 1) := by decide +kernel
theorem dX6_lays_22 : decode cX6_lays 22 = .ok (.iinc 4 1, 3) := by decide +kernel
theorem dX6_lays_25 : decode cX6_lays 25 = .ok (.goto (-22), 3) := by decide +kernel
theorem dX6_lays_28 : decode cX6_lays 28 = .ok (.return_, 1) := by decide +kernel
set_option maxRecDepth 20000 in
theorem ggX6_saves_X6_lays : GoodIn wsX6_saves wsX6_lays := goodIn_r _ [7] (by decide +kernel) (by decide +kernel)
set_option maxRecDepth 20000 in
theorem gX6_saves_X6_lays : GoodIn wsX6_saves (va_wsS RX6 32 yX6_lays wsX6_lays) := goodIn_app (goodIn_of _ (by decide +kernel)) ggX6_saves_X6_lays
theorem dX6_saves_0 : decode cX6_saves 0 = .ok (.aload_n 0, 1) := by decide +kernel
theorem dX6_saves_1 : decode cX6_saves 1 = .ok (.getfield 29, 3) := by decide +kernel
theorem dX6_saves_4 : decode cX6_saves 4 = .ok (.bipush 6, 2) := by decide +kernel
theorem dX6_saves_6 : decode cX6_saves 6 = .ok (.if_icmp .ne 43, 3) := by decide +kernel
theorem dX6_saves_9 : decode cX6_saves 9 = .ok (.iconst 0, 1) := by decide +kernel
theorem dX6_saves_10 : decode cX6_saves 10 = .ok (.istore_n 1, 1) := by decide +kernel
theorem dX6_saves_11 : decode cX6_saves 11 = .ok (.iload_n 1, 1) := by decide +kernel
theorem dX6_saves_12 : decode cX6_saves 12 = .ok (.sipush 485, 3) := by decide +kernel
theorem dX6_saves_15 : decode cX6_saves 15 = .ok (.if_icmp .ge 24, 3) := by decide +kernel
theorem dX6_saves_18 : decode cX6_saves 18 = .ok (.aload_n 0, 1) := by decide +kernel
theorem dX6_saves_19 : decode cX6_saves 19 = .ok (.getfield 16, 3) := by decide +kernel
theorem dX6_saves_22 : decode cX6_saves 22 = .ok (.iload_n 1, 1) := by decide +kernel
theorem dX6_saves_23 : decode cX6_saves 23 = .ok (.aload_n 0, 1) := by decide +kernel
theorem dX6_saves_24 : decode cX6_saves 24 = .ok (.getfield 16, 3) := by decide +kernel
theorem dX6_saves_27 : decode cX6_saves 27 = .ok (.iload_n 1, 1) := by decide +kernel
theorem dX6_saves_28 : decode cX6_saves 28 = .ok (.bipush 97, 2) := by decide +kernel
theorem dX6_saves_30 : decode cX6_saves 30 = .ok (.iadd, 1) := by decide +kernel
theorem dX6_saves_31 : decode cX6_saves 31 = .ok (.iaload, 1) := by decide +kernel
theorem dX6_saves_32 : decode cX6_saves 32 = .ok (.iastore, 1) := by decide +kernel
theorem dX6_saves_33 : decode cX6_saves 33 = .ok (.iinc 1 1, 3) := by decide +kernel
theorem dX6_saves_36 : decode cX6_saves 36 = .ok (.goto (-25), 3) := by decide +kernel
theorem dX6_saves_39 : decode cX6_saves 39 = .ok (.aload_n 0, 1) := by decide +kernel
theorem dX6_saves_40 : decode cX6_saves 40 = .ok (.dup, 1) := by decide +kernel
theorem dX6_saves_41 : decode cX6_saves 41 = .ok (.getfield 29, 3) := by decide +kernel
theorem dX6_saves_44 : decode cX6_saves 44 = .ok (.iconst 1, 1) := by decide +kernel
theorem dX6_saves_45 : decode cX6_saves 45 = .ok (.isub, 1) := by decide +kernel
theorem dX6_saves_46 : decode cX6_saves 46 = .ok (.putfield 29, 3) := by decide +kernel
theorem dX6_saves_49 : decode cX6_saves 49 = .ok (.aload_n 0, 1) := by decide +kernel
theorem dX6_saves_50 : decode cX6_saves 50 = .ok (.getfield 7, 3) := by decide +kernel
theorem dX6_saves_53 : decode cX6_saves 53 = .ok (.iconst 0, 1) := by decide +kernel
theorem dX6_saves_54 : decode cX6_saves 54 = .ok (.aload_n 0, 1) := by decide +kernel
theorem dX6_saves_55 : decode cX6_saves 55 = .ok (.getfield 16, 3) := by decide +kernel
theorem dX6_saves_58 : decode cX6_saves 58 = .ok (.bipush 97, 2) := by decide +kernel
theorem dX6_saves_60 : decode cX6_saves 60 = .ok (.aload_n 0, 1) := by decide +kernel
theorem dX6_saves_61 : decode cX6_saves 61 = .ok (.getfield 29, 3) := by decide +kernel
theorem dX6_saves_64 : decode cX6_saves 64 = .ok (.imul, 1) := by decide +kernel
theorem dX6_saves_65 : decode cX6_saves 65 = .ok (.invokestatic 32, 3) := by decide +kernel
theorem dX6_saves_68 : decode cX6_saves 68 = .ok (.aload_n 0, 1) := by decide +kernel
theorem dX6_saves_69 : decode cX6_saves 69 = .ok (.dup, 1) := by decide +kernel
theorem dX6_saves_70 : decode cX6_saves 70 = .ok (.getfield 29, 3) := by decide +kernel
theorem dX6_saves_73 : decode cX6_saves 73 = .ok (.iconst 1, 1) := by decide +kernel
theorem dX6_saves_74 : decode cX6_saves 74 = .ok (.iadd, 1) := by decide +kernel
theorem dX6_saves_75 : decode cX6_saves 75 = .ok (.putfield 29, 3) := by decide +kernel
theorem dX6_saves_78 : decode cX6_saves 78 = .ok (.return_, 1) := by decide +kernel
theorem dX6_waitingAt_0 : decode cX6_waitingAt 0 = .ok (.aload_n 0, 1) := by decide +kernel
theorem dX6_waitingAt_1 : decode cX6_waitingAt 1 = .ok (.bipush 57, 2) := by decide +kernel
theorem dX6_waitingAt_3 : decode cX6_waitingAt 3 = .ok (.bipush 11, 2) := by decide +kernel
theorem dX6_waitingAt_5 : decode cX6_waitingAt 5 = .ok (.iload_n 1, 1) := by decide +kernel
theorem dX6_waitingAt_6 : decode cX6_waitingAt 6 = .ok (.imul, 1) := by decide +kernel
theorem dX6_waitingAt_7 : decode cX6_waitingAt 7 = .ok (.iadd, 1) := by decide +kernel
theorem dX6_waitingAt_8 : decode cX6_waitingAt 8 = .ok (.iaload, 1) := by decide +kernel
theorem dX6_waitingAt_9 : decode cX6_waitingAt 9 = .ok (.ireturn, 1) := by decide +kernel
theorem dX6_weightOf_0 : decode cX6_weightOf 0 = .ok (.aload_n 0, 1) := by decide +kernel
theorem dX6_weightOf_1 : decode cX6_weightOf 1 = .ok (.bipush 57, 2) := by decide +kernel
theorem dX6_weightOf_3 : decode cX6_weightOf 3 = .ok (.bipush 11, 2) := by decide +kernel
theorem dX6_weightOf_5 : decode cX6_weightOf 5 = .ok (.iload_n 1, 1) := by decide +kernel
theorem dX6_weightOf_6 : decode cX6_weightOf 6 = .ok (.imul, 1) := by decide +kernel
theorem dX6_weightOf_7 : decode cX6_weightOf 7 = .ok (.iadd, 1) := by decide +kernel
theorem dX6_weightOf_8 : decode cX6_weightOf 8 = .ok (.iconst 1, 1) := by decide +kernel
theorem dX6_weightOf_9 : decode cX6_weightOf 9 = .ok (.iadd, 1) := by decide +kernel
theorem dX6_weightOf_10 : decode cX6_weightOf 10 = .ok (.iload_n 2, 1) := by decide +kernel
theorem dX6_weightOf_11 : decode cX6_weightOf 11 = .ok (.iadd, 1) := by decide +kernel
theorem dX6_weightOf_12 : decode cX6_weightOf 12 = .ok (.iaload, 1) := by decide +kernel
theorem dX6_weightOf_13 : decode cX6_weightOf 13 = .ok (.ireturn, 1) := by decide +kernel
theorem dX6_onLane_0 : decode cX6_onLane 0 = .ok (.aload_n 0, 1) := by decide +kernel
theorem dX6_onLane_1 : decode cX6_onLane 1 = .ok (.bipush 79, 2) := by decide +kernel
theorem dX6_onLane_3 : decode cX6_onLane 3 = .ok (.bipush 9, 2) := by decide +kernel
theorem dX6_onLane_5 : decode cX6_onLane 5 = .ok (.iload_n 1, 1) := by decide +kernel
theorem dX6_onLane_6 : decode cX6_onLane 6 = .ok (.imul, 1) := by decide +kernel
theorem dX6_onLane_7 : decode cX6_onLane 7 = .ok (.iadd, 1) := by decide +kernel
theorem dX6_onLane_8 : decode cX6_onLane 8 = .ok (.iaload, 1) := by decide +kernel
theorem dX6_onLane_9 : decode cX6_onLane 9 = .ok (.ireturn, 1) := by decide +kernel
theorem dX6_ofDeck_0 : decode cX6_ofDeck 0 = .ok (.aload_n 0, 1) := by decide +kernel
theorem dX6_ofDeck_1 : decode cX6_ofDeck 1 = .ok (.bipush 79, 2) := by decide +kernel
theorem dX6_ofDeck_3 : decode cX6_ofDeck 3 = .ok (.bipush 9, 2) := by decide +kernel
theorem dX6_ofDeck_5 : decode cX6_ofDeck 5 = .ok (.iload_n 1, 1) := by decide +kernel
theorem dX6_ofDeck_6 : decode cX6_ofDeck 6 = .ok (.imul, 1) := by decide +kernel
theorem dX6_ofDeck_7 : decode cX6_ofDeck 7 = .ok (.iadd, 1) := by decide +kernel
theorem dX6_ofDeck_8 : decode cX6_ofDeck 8 = .ok (.iconst 1, 1) := by decide +kernel
theorem dX6_ofDeck_9 : decode cX6_ofDeck 9 = .ok (.iadd, 1) := by decide +kernel
theorem dX6_ofDeck_10 : decode cX6_ofDeck 10 = .ok (.iconst 2, 1) := by decide +kernel
theorem dX6_ofDeck_11 : decode cX6_ofDeck 11 = .ok (.iload_n 2, 1) := by decide +kernel
theorem dX6_ofDeck_12 : decode cX6_ofDeck 12 = .ok (.imul, 1) := by decide +kernel
theorem dX6_ofDeck_13 : decode cX6_ofDeck 13 = .ok (.iadd, 1) := by decide +kernel
theorem dX6_ofDeck_14 : decode cX6_ofDeck 14 = .ok (.iload_n 3, 1) := by decide +kernel
theorem dX6_ofDeck_15 : decode cX6_ofDeck 15 = .ok (.iadd, 1) := by decide +kernel
theorem dX6_ofDeck_16 : decode cX6_ofDeck 16 = .ok (.iaload, 1) := by decide +kernel
theorem dX6_ofDeck_17 : decode cX6_ofDeck 17 = .ok (.ireturn, 1) := by decide +kernel
set_option maxRecDepth 20000 in
theorem ggX6_laneWeight_X6_onLane : GoodIn wsX6_laneWeight wsX6_onLane := goodIn_r _ [4] (by decide +kernel) (by decide +kernel)
set_option maxRecDepth 20000 in
theorem gX6_laneWeight_X6_onLane : GoodIn wsX6_laneWeight (va_wsS RX6 36 yX6_onLane wsX6_onLane) := goodIn_app (goodIn_of _ (by decide +kernel)) ggX6_laneWeight_X6_onLane
set_option maxRecDepth 20000 in
theorem ggX6_laneWeight_X6_ofDeck : GoodIn wsX6_laneWeight wsX6_ofDeck := goodIn_r _ [7] (by decide +kernel) (by decide +kernel)
set_option maxRecDepth 20000 in
theorem gX6_laneWeight_X6_ofDeck : GoodIn wsX6_laneWeight (va_wsS RX6 40 yX6_ofDeck wsX6_ofDeck) := goodIn_app (goodIn_of _ (by decide +kernel)) ggX6_laneWeight_X6_ofDeck
theorem dX6_laneWeight_0 : decode cX6_laneWeight 0 = .ok (.iconst 0, 1) := by decide +kernel
theorem dX6_laneWeight_1 : decode cX6_laneWeight 1 = .ok (.istore_n 2, 1) := by decide +kernel
theorem dX6_laneWeight_2 : decode cX6_laneWeight 2 = .ok (.iconst 0, 1) := by decide +kernel
theorem dX6_laneWeight_3 : decode cX6_laneWeight 3 = .ok (.istore_n 3, 1) := by decide +kernel
theorem dX6_laneWeight_4 : decode cX6_laneWeight 4 = .ok (.iload_n 3, 1) := by decide +kernel
theorem dX6_laneWeight_5 : decode cX6_laneWeight 5 = .ok (.aload_n 0, 1) := by decide +kernel
theorem dX6_laneWeight_6 : decode cX6_laneWeight 6 = .ok (.iload_n 1, 1) := by decide +kernel
theorem dX6_laneWeight_7 : decode cX6_laneWeight 7 = .ok (.invokestatic 36, 3) := by decide +kernel
theorem dX6_laneWeight_10 : decode cX6_laneWeight 10 = .ok (.if_icmp .ge 19, 3) := by decide +kernel
theorem dX6_laneWeight_13 : decode cX6_laneWeight 13 = .ok (.iload_n 2, 1) := by decide +kernel
theorem dX6_laneWeight_14 : decode cX6_laneWeight 14 = .ok (.aload_n 0, 1) := by decide +kernel
theorem dX6_laneWeight_15 : decode cX6_laneWeight 15 = .ok (.iload_n 1, 1) := by decide +kernel
theorem dX6_laneWeight_16 : decode cX6_laneWeight 16 = .ok (.iload_n 3, 1) := by decide +kernel
theorem dX6_laneWeight_17 : decode cX6_laneWeight 17 = .ok (.iconst 0, 1) := by decide +kernel
theorem dX6_laneWeight_18 : decode cX6_laneWeight 18 = .ok (.invokestatic 40, 3) := by decide +kernel
theorem dX6_laneWeight_21 : decode cX6_laneWeight 21 = .ok (.iadd, 1) := by decide +kernel
theorem dX6_laneWeight_22 : decode cX6_laneWeight 22 = .ok (.istore_n 2, 1) := by decide +kernel
theorem dX6_laneWeight_23 : decode cX6_laneWeight 23 = .ok (.iinc 3 1, 3) := by decide +kernel
theorem dX6_laneWeight_26 : decode cX6_laneWeight 26 = .ok (.goto (-22), 3) := by decide +kernel
theorem dX6_laneWeight_29 : decode cX6_laneWeight 29 = .ok (.iload_n 2, 1) := by decide +kernel
theorem dX6_laneWeight_30 : decode cX6_laneWeight 30 = .ok (.ireturn, 1) := by decide +kernel
theorem dX6_size_0 : decode cX6_size 0 = .ok (.iload_n 0, 1) := by decide +kernel
theorem dX6_size_1 : decode cX6_size 1 = .ok (.ifCond .ge 8, 3) := by decide +kernel
theorem dX6_size_4 : decode cX6_size 4 = .ok (.iload_n 0, 1) := by decide +kernel
theorem dX6_size_5 : decode cX6_size 5 = .ok (.ineg, 1) := by decide +kernel
theorem dX6_size_6 : decode cX6_size 6 = .ok (.goto 4, 3) := by decide +kernel
theorem dX6_size_9 : decode cX6_size 9 = .ok (.iload_n 0, 1) := by decide +kernel
theorem dX6_size_10 : decode cX6_size 10 = .ok (.ireturn, 1) := by decide +kernel
set_option maxRecDepth 20000 in
theorem ggX6_list_X6_laneWeight : GoodIn wsX6_list wsX6_laneWeight := goodIn_r _ [4, 5, 6, 3, 7, 8, 9, 10] (by decide +kernel) (by decide +kernel)
set_option maxRecDepth 20000 in
theorem gX6_list_X6_laneWeight : GoodIn wsX6_list (va_wsS RX6 44 yX6_laneWeight wsX6_laneWeight) := goodIn_app (goodIn_of _ (by decide +kernel)) ggX6_list_X6_laneWeight
set_option maxRecDepth 20000 in
theorem ggX6_list_X6_size : GoodIn wsX6_list wsX6_size := goodIn_r _ [13] (by decide +kernel) (by decide +kernel)
set_option maxRecDepth 20000 in
theorem gX6_list_X6_size : GoodIn wsX6_list (va_wsS RX6 47 yX6_size wsX6_size) := goodIn_app (goodIn_of _ (by decide +kernel)) ggX6_list_X6_size
theorem dX6_list_0 : decode cX6_list 0 = .ok (.aload_n 0, 1) := by decide +kernel
theorem dX6_list_1 : decode cX6_list 1 = .ok (.iconst 0, 1) := by decide +kernel
theorem dX6_list_2 : decode cX6_list 2 = .ok (.invokestatic 44, 3) := by decide +kernel
theorem dX6_list_5 : decode cX6_list 5 = .ok (.aload_n 0, 1) := by decide +kernel
theorem dX6_list_6 : decode cX6_list 6 = .ok (.iconst 1, 1) := by decide +kernel
theorem dX6_list_7 : decode cX6_list 7 = .ok (.invokestatic 44, 3) := by decide +kernel
theorem dX6_list_10 : decode cX6_list 10 = .ok (.isub, 1) := by decide +kernel
theorem dX6_list_11 : decode cX6_list 11 = .ok (.invokestatic 47, 3) := by decide +kernel
theorem dX6_list_14 : decode cX6_list 14 = .ok (.ireturn, 1) := by decide +kernel
set_option maxRecDepth 20000 in
theorem ggX6_passes_X6_waitingAt : GoodIn wsX6_passes wsX6_waitingAt := goodIn_r _ [4] (by decide +kernel) (by decide +kernel)
set_option maxRecDepth 20000 in
theorem gX6_passes_X6_waitingAt : GoodIn wsX6_passes (va_wsS RX6 51 yX6_waitingAt wsX6_waitingAt) := goodIn_app (goodIn_of _ (by decide +kernel)) ggX6_passes_X6_waitingAt
theorem dX6_passes_0 : decode cX6_passes 0 = .ok (.aload_n 0, 1) := by decide +kernel
theorem dX6_passes_1 : decode cX6_passes 1 = .ok (.bipush 50, 2) := by decide +kernel
theorem dX6_passes_3 : decode cX6_passes 3 = .ok (.dup2, 1) := by decide +kernel
theorem dX6_passes_4 : decode cX6_passes 4 = .ok (.iaload, 1) := by decide +kernel
theorem dX6_passes_5 : decode cX6_passes 5 = .ok (.iload_n 1, 1) := by decide +kernel
theorem dX6_passes_6 : decode cX6_passes 6 = .ok (.iadd, 1) := by decide +kernel
theorem dX6_passes_7 : decode cX6_passes 7 = .ok (.iastore, 1) := by decide +kernel
theorem dX6_passes_8 : decode cX6_passes 8 = .ok (.aload_n 0, 1) := by decide +kernel
theorem dX6_passes_9 : decode cX6_passes 9 = .ok (.bipush 56, 2) := by decide +kernel
theorem dX6_passes_11 : decode cX6_passes 11 = .ok (.dup2, 1) := by decide +kernel
theorem dX6_passes_12 : decode cX6_passes 12 = .ok (.iaload, 1) := by decide +kernel
theorem dX6_passes_13 : decode cX6_passes 13 = .ok (.iload_n 1, 1) := by decide +kernel
theorem dX6_passes_14 : decode cX6_passes 14 = .ok (.aload_n 0, 1) := by decide +kernel
theorem dX6_passes_15 : decode cX6_passes 15 = .ok (.iconst 0, 1) := by decide +kernel
theorem dX6_passes_16 : decode cX6_passes 16 = .ok (.invokestatic 51, 3) := by decide +kernel
theorem dX6_passes_19 : decode cX6_passes 19 = .ok (.aload_n 0, 1) := by decide +kernel
theorem dX6_passes_20 : decode cX6_passes 20 = .ok (.iconst 1, 1) := by decide +kernel
theorem dX6_passes_21 : decode cX6_passes 21 = .ok (.invokestatic 51, 3) := by decide +kernel
theorem dX6_passes_24 : decode cX6_passes 24 = .ok (.iadd, 1) := by decide +kernel
theorem dX6_passes_25 : decode cX6_passes 25 = .ok (.imul, 1) := by decide +kernel
theorem dX6_passes_26 : decode cX6_passes 26 = .ok (.iadd, 1) := by decide +kernel
theorem dX6_passes_27 : decode cX6_passes 27 = .ok (.iastore, 1) := by decide +kernel
theorem dX6_passes_28 : decode cX6_passes 28 = .ok (.return_, 1) := by decide +kernel
theorem dX6_strength_0 : decode cX6_strength 0 = .ok (.aload_n 0, 1) := by decide +kernel
theorem dX6_strength_1 : decode cX6_strength 1 = .ok (.iconst 0, 1) := by decide +kernel
theorem dX6_strength_2 : decode cX6_strength 2 = .ok (.iaload, 1) := by decide +kernel
theorem dX6_strength_3 : decode cX6_strength 3 = .ok (.aload_n 0, 1) := by decide +kernel
theorem dX6_strength_4 : decode cX6_strength 4 = .ok (.bipush 27, 2) := by decide +kernel
theorem dX6_strength_6 : decode cX6_strength 6 = .ok (.iload_n 1, 1) := by decide +kernel
theorem dX6_strength_7 : decode cX6_strength 7 = .ok (.iadd, 1) := by decide +kernel
theorem dX6_strength_8 : decode cX6_strength 8 = .ok (.iaload, 1) := by decide +kernel
theorem dX6_strength_9 : decode cX6_strength 9 = .ok (.iconst 2, 1) := by decide +kernel
theorem dX6_strength_10 : decode cX6_strength 10 = .ok (.idiv, 1) := by decide +kernel
theorem dX6_strength_11 : decode cX6_strength 11 = .ok (.isub, 1) := by decide +kernel
theorem dX6_strength_12 : decode cX6_strength 12 = .ok (.istore_n 2, 1) := by decide +kernel
theorem dX6_strength_13 : decode cX6_strength 13 = .ok (.iload_n 2, 1) := by decide +kernel
theorem dX6_strength_14 : decode cX6_strength 14 = .ok (.ifCond .ge 7, 3) := by decide +kernel
theorem dX6_strength_17 : decode cX6_strength 17 = .ok (.iconst 0, 1) := by decide +kernel
theorem dX6_strength_18 : decode cX6_strength 18 = .ok (.goto 4, 3) := by decide +kernel
theorem dX6_strength_21 : decode cX6_strength 21 = .ok (.iload_n 2, 1) := by decide +kernel
theorem dX6_strength_22 : decode cX6_strength 22 = .ok (.ireturn, 1) := by decide +kernel
theorem dX6_tensionBy_0 : decode cX6_tensionBy 0 = .ok (.iload_n 1, 1) := by decide +kernel
theorem dX6_tensionBy_1 : decode cX6_tensionBy 1 = .ok (.iconst 1, 1) := by decide +kernel
theorem dX6_tensionBy_2 : decode cX6_tensionBy 2 = .ok (.iadd, 1) := by decide +kernel
theorem dX6_tensionBy_3 : decode cX6_tensionBy 3 = .ok (.bipush 20, 2) := by decide +kernel
theorem dX6_tensionBy_5 : decode cX6_tensionBy 5 = .ok (.iload_n 1, 1) := by decide +kernel
theorem dX6_tensionBy_6 : decode cX6_tensionBy 6 = .ok (.isub, 1) := by decide +kernel
theorem dX6_tensionBy_7 : decode cX6_tensionBy 7 = .ok (.if_icmp .ge 9, 3) := by decide +kernel
theorem dX6_tensionBy_10 : decode cX6_tensionBy 10 = .ok (.iload_n 1, 1) := by decide +kernel
theorem dX6_tensionBy_11 : decode cX6_tensionBy 11 = .ok (.iconst 1, 1) := by decide +kernel
theorem dX6_tensionBy_12 : decode cX6_tensionBy 12 = .ok (.iadd, 1) := by decide +kernel
theorem dX6_tensionBy_13 : decode cX6_tensionBy 13 = .ok (.goto 7, 3) := by decide +kernel
theorem dX6_tensionBy_16 : decode cX6_tensionBy 16 = .ok (.bipush 20, 2) := by decide +kernel
theorem dX6_tensionBy_18 : decode cX6_tensionBy 18 = .ok (.iload_n 1, 1) := by decide +kernel
theorem dX6_tensionBy_19 : decode cX6_tensionBy 19 = .ok (.isub, 1) := by decide +kernel
theorem dX6_tensionBy_20 : decode cX6_tensionBy 20 = .ok (.istore 5, 2) := by decide +kernel
theorem dX6_tensionBy_22 : decode cX6_tensionBy 22 = .ok (.iload_n 2, 1) := by decide +kernel
theorem dX6_tensionBy_23 : decode cX6_tensionBy 23 = .ok (.iload 5, 2) := by decide +kernel
theorem dX6_tensionBy_25 : decode cX6_tensionBy 25 = .ok (.imul, 1) := by decide +kernel
theorem dX6_tensionBy_26 : decode cX6_tensionBy 26 = .ok (.bipush 10, 2) := by decide +kernel
theorem dX6_tensionBy_28 : decode cX6_tensionBy 28 = .ok (.idiv, 1) := by decide +kernel
theorem dX6_tensionBy_29 : decode cX6_tensionBy 29 = .ok (.bipush 20, 2) := by decide +kernel
theorem dX6_tensionBy_31 : decode cX6_tensionBy 31 = .ok (.iload 4, 2) := by decide +kernel
theorem dX6_tensionBy_33 : decode cX6_tensionBy 33 = .ok (.iadd, 1) := by decide +kernel
theorem dX6_tensionBy_34 : decode cX6_tensionBy 34 = .ok (.imul, 1) := by decide +kernel
theorem dX6_tensionBy_35 : decode cX6_tensionBy 35 = .ok (.bipush 10, 2) := by decide +kernel
theorem dX6_tensionBy_37 : decode cX6_tensionBy 37 = .ok (.idiv, 1) := by decide +kernel
theorem dX6_tensionBy_38 : decode cX6_tensionBy 38 = .ok (.iconst 3, 1) := by decide +kernel
theorem dX6_tensionBy_39 : decode cX6_tensionBy 39 = .ok (.iload_n 3, 1) := by decide +kernel
theorem dX6_tensionBy_40 : decode cX6_tensionBy 40 = .ok (.imul, 1) := by decide +kernel
theorem dX6_tensionBy_41 : decode cX6_tensionBy 41 = .ok (.iadd, 1) := by decide +kernel
theorem dX6_tensionBy_42 : decode cX6_tensionBy 42 = .ok (.iconst 4, 1) := by decide +kernel
theorem dX6_tensionBy_43 : decode cX6_tensionBy 43 = .ok (.aload_n 0, 1) := by decide +kernel
theorem dX6_tensionBy_44 : decode cX6_tensionBy 44 = .ok (.bipush 47, 2) := by decide +kernel
theorem dX6_tensionBy_46 : decode cX6_tensionBy 46 = .ok (.iaload, 1) := by decide +kernel
theorem dX6_tensionBy_47 : decode cX6_tensionBy 47 = .ok (.imul, 1) := by decide +kernel
theorem dX6_tensionBy_48 : decode cX6_tensionBy 48 = .ok (.isub, 1) := by decide +kernel
theorem dX6_tensionBy_49 : decode cX6_tensionBy 49 = .ok (.istore 6, 2) := by decide +kernel
theorem dX6_tensionBy_51 : decode cX6_tensionBy 51 = .ok (.iload 6, 2) := by decide +kernel
theorem dX6_tensionBy_53 : decode cX6_tensionBy 53 = .ok (.ifCond .ge 7, 3) := by decide +kernel
theorem dX6_tensionBy_56 : decode cX6_tensionBy 56 = .ok (.iconst 0, 1) := by decide +kernel
theorem dX6_tensionBy_57 : decode cX6_tensionBy 57 = .ok (.goto 5, 3) := by decide +kernel
theorem dX6_tensionBy_60 : decode cX6_tensionBy 60 = .ok (.iload 6, 2) := by decide +kernel
theorem dX6_tensionBy_62 : decode cX6_tensionBy 62 = .ok (.ireturn, 1) := by decide +kernel
set_option maxRecDepth 20000 in
theorem ggX6_tension_X6_list : GoodIn wsX6_tension wsX6_list := goodIn_r _ [4, 5, 6, 3, 7, 8, 9, 10, 11, 12, 13, 14, 15, 16] (by decide +kernel) (by decide +kernel)
set_option maxRecDepth 20000 in
theorem gX6_tension_X6_list : GoodIn wsX6_tension (va_wsS RX6 54 yX6_list wsX6_list) := goodIn_app (goodIn_of _ (by decide +kernel)) ggX6_tension_X6_list
set_option maxRecDepth 20000 in
theorem ggX6_tension_X6_laneWeight : GoodIn wsX6_tension wsX6_laneWeight := goodIn_r _ [7, 8, 9, 3, 10, 11, 12, 13] (by decide +kernel) (by decide +kernel)
set_option maxRecDepth 20000 in
theorem gX6_tension_X6_laneWeight : GoodIn wsX6_tension (va_wsS RX6 44 yX6_laneWeight wsX6_laneWeight) := goodIn_app (goodIn_of _ (by decide +kernel)) ggX6_tension_X6_laneWeight
set_option maxRecDepth 20000 in
theorem ggX6_tension_X6_tensionBy : GoodIn wsX6_tension wsX6_tensionBy := goodIn_r _ [19] (by decide +kernel) (by decide +kernel)
set_option maxRecDepth 20000 in
theorem gX6_tension_X6_tensionBy : GoodIn wsX6_tension (va_wsS RX6 58 yX6_tensionBy wsX6_tensionBy) := goodIn_app (goodIn_of _ (by decide +kernel)) ggX6_tension_X6_tensionBy
theorem dX6_tension_0 : decode cX6_tension 0 = .ok (.aload_n 0, 1) := by decide +kernel
theorem dX6_tension_1 : decode cX6_tension 1 = .ok (.iload_n 1, 1) := by decide +kernel
theorem dX6_tension_2 : decode cX6_tension 2 = .ok (.aload_n 0, 1) := by decide +kernel
theorem dX6_tension_3 : decode cX6_tension 3 = .ok (.iconst 3, 1) := by decide +kernel
theorem dX6_tension_4 : decode cX6_tension 4 = .ok (.aload_n 0, 1) := by decide +kernel
theorem dX6_tension_5 : decode cX6_tension 5 = .ok (.bipush 50, 2) := by decide +kernel
theorem dX6_tension_7 : decode cX6_tension 7 = .ok (.iaload, 1) := by decide +kernel
theorem dX6_tension_8 : decode cX6_tension 8 = .ok (.bipush 24, 2) := by decide +kernel
theorem dX6_tension_10 : decode cX6_tension 10 = .ok (.irem, 1) := by decide +kernel
theorem dX6_tension_11 : decode cX6_tension 11 = .ok (.iadd, 1) := by decide +kernel
theorem dX6_tension_12 : decode cX6_tension 12 = .ok (.iaload, 1) := by decide +kernel
theorem dX6_tension_13 : decode cX6_tension 13 = .ok (.aload_n 0, 1) := by decide +kernel
theorem dX6_tension_14 : decode cX6_tension 14 = .ok (.invokestatic 54, 3) := by decide +kernel
theorem dX6_tension_17 : decode cX6_tension 17 = .ok (.aload_n 0, 1) := by decide +kernel
theorem dX6_tension_18 : decode cX6_tension 18 = .ok (.iconst 0, 1) := by decide +kernel
theorem dX6_tension_19 : decode cX6_tension 19 = .ok (.invokestatic 44, 3) := by decide +kernel
theorem dX6_tension_22 : decode cX6_tension 22 = .ok (.aload_n 0, 1) := by decide +kernel
theorem dX6_tension_23 : decode cX6_tension 23 = .ok (.iconst 1, 1) := by decide +kernel
theorem dX6_tension_24 : decode cX6_tension 24 = .ok (.invokestatic 44, 3) := by decide +kernel
theorem dX6_tension_27 : decode cX6_tension 27 = .ok (.iadd, 1) := by decide +kernel
theorem dX6_tension_28 : decode cX6_tension 28 = .ok (.invokestatic 58, 3) := by decide +kernel
theorem dX6_tension_31 : decode cX6_tension 31 = .ok (.ireturn, 1) := by decide +kernel
set_option maxRecDepth 20000 in
theorem ggX6_greatest_X6_tensionBy : GoodIn wsX6_greatest wsX6_tensionBy := goodIn_r _ [4] (by decide +kernel) (by decide +kernel)
set_option maxRecDepth 20000 in
theorem gX6_greatest_X6_tensionBy : GoodIn wsX6_greatest (va_wsS RX6 58 yX6_tensionBy wsX6_tensionBy) := goodIn_app (goodIn_of _ (by decide +kernel)) ggX6_greatest_X6_tensionBy
theorem dX6_greatest_0 : decode cX6_greatest 0 = .ok (.iconst 0, 1) := by decide +kernel
theorem dX6_greatest_1 : decode cX6_greatest 1 = .ok (.istore 4, 2) := by decide +kernel
theorem dX6_greatest_3 : decode cX6_greatest 3 = .ok (.iconst 0, 1) := by decide +kernel
theorem dX6_greatest_4 : decode cX6_greatest 4 = .ok (.istore 5, 2) := by decide +kernel
theorem dX6_greatest_6 : decode cX6_greatest 6 = .ok (.iload 5, 2) := by decide +kernel
theorem dX6_greatest_8 : decode cX6_greatest 8 = .ok (.bipush 20, 2) := by decide +kernel
theorem dX6_greatest_10 : decode cX6_greatest 10 = .ok (.if_icmp .ge 36, 3) := by decide +kernel
theorem dX6_greatest_13 : decode cX6_greatest 13 = .ok (.aload_n 0, 1) := by decide +kernel
theorem dX6_greatest_14 : decode cX6_greatest 14 = .ok (.iload 5, 2) := by decide +kernel
theorem dX6_greatest_16 : decode cX6_greatest 16 = .ok (.iload_n 1, 1) := by decide +kernel
theorem dX6_greatest_17 : decode cX6_greatest 17 = .ok (.iload_n 2, 1) := by decide +kernel
theorem dX6_greatest_18 : decode cX6_greatest 18 = .ok (.iload_n 3, 1) := by decide +kernel
theorem dX6_greatest_19 : decode cX6_greatest 19 = .ok (.invokestatic 58, 3) := by decide +kernel
theorem dX6_greatest_22 : decode cX6_greatest 22 = .ok (.istore 6, 2) := by decide +kernel
theorem dX6_greatest_24 : decode cX6_greatest 24 = .ok (.iload 6, 2) := by decide +kernel
theorem dX6_greatest_26 : decode cX6_greatest 26 = .ok (.iload 4, 2) := by decide +kernel
theorem dX6_greatest_28 : decode cX6_greatest 28 = .ok (.if_icmp .le 8, 3) := by decide +kernel
theorem dX6_greatest_31 : decode cX6_greatest 31 = .ok (.iload 6, 2) := by decide +kernel
theorem dX6_greatest_33 : decode cX6_greatest 33 = .ok (.goto 5, 3) := by decide +kernel
theorem dX6_greatest_36 : decode cX6_greatest 36 = .ok (.iload 4, 2) := by decide +kernel
theorem dX6_greatest_38 : decode cX6_greatest 38 = .ok (.istore 4, 2) := by decide +kernel
theorem dX6_greatest_40 : decode cX6_greatest 40 = .ok (.iinc 5 1, 3) := by decide +kernel
theorem dX6_greatest_43 : decode cX6_greatest 43 = .ok (.goto (-37), 3) := by decide +kernel
theorem dX6_greatest_46 : decode cX6_greatest 46 = .ok (.iload 4, 2) := by decide +kernel
theorem dX6_greatest_48 : decode cX6_greatest 48 = .ok (.ireturn, 1) := by decide +kernel
set_option maxRecDepth 20000 in
theorem ggX6_isTooTense_X6_tension : GoodIn wsX6_isTooTense wsX6_tension := goodIn_r _ [4, 5, 6, 3, 7, 8, 9, 10, 11, 12, 13, 14, 15, 16, 17, 18, 19, 20, 21, 22] (by decide +kernel) (by decide +kernel)
set_option maxRecDepth 20000 in
theorem gX6_isTooTense_X6_tension : GoodIn wsX6_isTooTense (va_wsS RX6 62 yX6_tension wsX6_tension) := goodIn_app (goodIn_of _ (by decide +kernel)) ggX6_isTooTense_X6_tension
set_option maxRecDepth 20000 in
theorem ggX6_isTooTense_X6_strength : GoodIn wsX6_isTooTense wsX6_strength := goodIn_r _ [25] (by decide +kernel) (by decide +kernel)
set_option maxRecDepth 20000 in
theorem gX6_isTooTense_X6_strength : GoodIn wsX6_isTooTense (va_wsS RX6 65 yX6_strength wsX6_strength) := goodIn_app (goodIn_of _ (by decide +kernel)) ggX6_isTooTense_X6_strength
theorem dX6_isTooTense_0 : decode cX6_isTooTense 0 = .ok (.iconst 0, 1) := by decide +kernel
theorem dX6_isTooTense_1 : decode cX6_isTooTense 1 = .ok (.istore_n 1, 1) := by decide +kernel
theorem dX6_isTooTense_2 : decode cX6_isTooTense 2 = .ok (.iconst 0, 1) := by decide +kernel
theorem dX6_isTooTense_3 : decode cX6_isTooTense 3 = .ok (.istore_n 2, 1) := by decide +kernel
theorem dX6_isTooTense_4 : decode cX6_isTooTense 4 = .ok (.iload_n 2, 1) := by decide +kernel
theorem dX6_isTooTense_5 : decode cX6_isTooTense 5 = .ok (.bipush 20, 2) := by decide +kernel
theorem dX6_isTooTense_7 : decode cX6_isTooTense 7 = .ok (.if_icmp .ge 32, 3) := by decide +kernel
theorem dX6_isTooTense_10 : decode cX6_isTooTense 10 = .ok (.iload_n 1, 1) := by decide +kernel
theorem dX6_isTooTense_11 : decode cX6_isTooTense 11 = .ok (.ifCond .ne 16, 3) := by decide +kernel
theorem dX6_isTooTense_14 : decode cX6_isTooTense 14 = .ok (.aload_n 0, 1) := by decide +kernel
theorem dX6_isTooTense_15 : decode cX6_isTooTense 15 = .ok (.iload_n 2, 1) := by decide +kernel
theorem dX6_isTooTense_16 : decode cX6_isTooTense 16 = .ok (.invokestatic 62, 3) := by decide +kernel
theorem dX6_isTooTense_19 : decode cX6_isTooTense 19 = .ok (.aload_n 0, 1) := by decide +kernel
theorem dX6_isTooTense_20 : decode cX6_isTooTense 20 = .ok (.iload_n 2, 1) := by decide +kernel
theorem dX6_isTooTense_21 : decode cX6_isTooTense 21 = .ok (.invokestatic 65, 3) := by decide +kernel
theorem dX6_isTooTense_24 : decode cX6_isTooTense 24 = .ok (.if_icmp .le 7, 3) := by decide +kernel
theorem dX6_isTooTense_27 : decode cX6_isTooTense 27 = .ok (.iconst 1, 1) := by decide +kernel
theorem dX6_isTooTense_28 : decode cX6_isTooTense 28 = .ok (.goto 4, 3) := by decide +kernel
theorem dX6_isTooTense_31 : decode cX6_isTooTense 31 = .ok (.iconst 0, 1) := by decide +kernel
theorem dX6_isTooTense_32 : decode cX6_isTooTense 32 = .ok (.istore_n 1, 1) := by decide +kernel
theorem dX6_isTooTense_33 : decode cX6_isTooTense 33 = .ok (.iinc 2 1, 3) := by decide +kernel
theorem dX6_isTooTense_36 : decode cX6_isTooTense 36 = .ok (.goto (-32), 3) := by decide +kernel
theorem dX6_isTooTense_39 : decode cX6_isTooTense 39 = .ok (.iload_n 1, 1) := by decide +kernel
theorem dX6_isTooTense_40 : decode cX6_isTooTense 40 = .ok (.ireturn, 1) := by decide +kernel
set_option maxRecDepth 20000 in
theorem ggX6_reason_X6_list : GoodIn wsX6_reason wsX6_list := goodIn_r _ [4, 5, 6, 3, 7, 8, 9, 10, 11, 12, 13, 14, 15, 16] (by decide +kernel) (by decide +kernel)
set_option maxRecDepth 20000 in
theorem gX6_reason_X6_list : GoodIn wsX6_reason (va_wsS RX6 54 yX6_list wsX6_list) := goodIn_app (goodIn_of _ (by decide +kernel)) ggX6_reason_X6_list
set_option maxRecDepth 20000 in
theorem ggX6_reason_X6_isTooTense : GoodIn wsX6_reason wsX6_isTooTense := goodIn_r _ [19, 20, 21, 3, 22, 1, 2, 4, 5, 6, 7, 8, 9, 10, 11, 12, 13, 14, 15, 16, 23, 24, 25, 26, 27, 28] (by decide +kernel) (by decide +kernel)
set_option maxRecDepth 20000 in
theorem gX6_reason_X6_isTooTense : GoodIn wsX6_reason (va_wsS RX6 68 yX6_isTooTense wsX6_isTooTense) := goodIn_app (goodIn_of _ (by decide +kernel)) ggX6_reason_X6_isTooTense
theorem dX6_reason_0 : decode cX6_reason 0 = .ok (.aload_n 0, 1) := by decide +kernel
theorem dX6_reason_1 : decode cX6_reason 1 = .ok (.invokestatic 54, 3) := by decide +kernel
theorem dX6_reason_4 : decode cX6_reason 4 = .ok (.aload_n 0, 1) := by decide +kernel
theorem dX6_reason_5 : decode cX6_reason 5 = .ok (.iconst 1, 1) := by decide +kernel
theorem dX6_reason_6 : decode cX6_reason 6 = .ok (.iaload, 1) := by decide +kernel
theorem dX6_reason_7 : decode cX6_reason 7 = .ok (.if_icmp .le 7, 3) := by decide +kernel
theorem dX6_reason_10 : decode cX6_reason 10 = .ok (.iconst 1, 1) := by decide +kernel
theorem dX6_reason_11 : decode cX6_reason 11 = .ok (.goto 28, 3) := by decide +kernel
theorem dX6_reason_14 : decode cX6_reason 14 = .ok (.aload_n 0, 1) := by decide +kernel
theorem dX6_reason_15 : decode cX6_reason 15 = .ok (.bipush 47, 2) := by decide +kernel
theorem dX6_reason_17 : decode cX6_reason 17 = .ok (.iaload, 1) := by decide +kernel
theorem dX6_reason_18 : decode cX6_reason 18 = .ok (.bipush 25, 2) := by decide +kernel
theorem dX6_reason_20 : decode cX6_reason 20 = .ok (.if_icmp .le 7, 3) := by decide +kernel
theorem dX6_reason_23 : decode cX6_reason 23 = .ok (.iconst 2, 1) := by decide +kernel
theorem dX6_reason_24 : decode cX6_reason 24 = .ok (.goto 15, 3) := by decide +kernel
theorem dX6_reason_27 : decode cX6_reason 27 = .ok (.aload_n 0, 1) := by decide +kernel
theorem dX6_reason_28 : decode cX6_reason 28 = .ok (.invokestatic 68, 3) := by decide +kernel
theorem dX6_reason_31 : decode cX6_reason 31 = .ok (.ifCond .eq 7, 3) := by decide +kernel
theorem dX6_reason_34 : decode cX6_reason 34 = .ok (.iconst 3, 1) := by decide +kernel
theorem dX6_reason_35 : decode cX6_reason 35 = .ok (.goto 4, 3) := by decide +kernel
theorem dX6_reason_38 : decode cX6_reason 38 = .ok (.iconst 0, 1) := by decide +kernel
theorem dX6_reason_39 : decode cX6_reason 39 = .ok (.ireturn, 1) := by decide +kernel
theorem dX6_stretches_0 : decode cX6_stretches 0 = .ok (.aload_n 0, 1) := by decide +kernel
theorem dX6_stretches_1 : decode cX6_stretches 1 = .ok (.bipush 48, 2) := by decide +kernel
theorem dX6_stretches_3 : decode cX6_stretches 3 = .ok (.dup2, 1) := by decide +kernel
theorem dX6_stretches_4 : decode cX6_stretches 4 = .ok (.iaload, 1) := by decide +kernel
theorem dX6_stretches_5 : decode cX6_stretches 5 = .ok (.iload_n 1, 1) := by decide +kernel
theorem dX6_stretches_6 : decode cX6_stretches 6 = .ok (.iadd, 1) := by decide +kernel
theorem dX6_stretches_7 : decode cX6_stretches 7 = .ok (.iastore, 1) := by decide +kernel
theorem dX6_stretches_8 : decode cX6_stretches 8 = .ok (.aload_n 0, 1) := by decide +kernel
theorem dX6_stretches_9 : decode cX6_stretches 9 = .ok (.bipush 48, 2) := by decide +kernel
theorem dX6_stretches_11 : decode cX6_stretches 11 = .ok (.iaload, 1) := by decide +kernel
theorem dX6_stretches_12 : decode cX6_stretches 12 = .ok (.sipush 500, 3) := by decide +kernel
theorem dX6_stretches_15 : decode cX6_stretches 15 = .ok (.if_icmp .lt 37, 3) := by decide +kernel
theorem dX6_stretches_18 : decode cX6_stretches 18 = .ok (.aload_n 0, 1) := by decide +kernel
theorem dX6_stretches_19 : decode cX6_stretches 19 = .ok (.bipush 48, 2) := by decide +kernel
theorem dX6_stretches_21 : decode cX6_stretches 21 = .ok (.dup2, 1) := by decide +kernel
theorem dX6_stretches_22 : decode cX6_stretches 22 = .ok (.iaload, 1) := by decide +kernel
theorem dX6_stretches_23 : decode cX6_stretches 23 = .ok (.sipush 500, 3) := by decide +kernel
theorem dX6_stretches_26 : decode cX6_stretches 26 = .ok (.isub, 1) := by decide +kernel
theorem dX6_stretches_27 : decode cX6_stretches 27 = .ok (.iastore, 1) := by decide +kernel
theorem dX6_stretches_28 : decode cX6_stretches 28 = .ok (.aload_n 0, 1) := by decide +kernel
theorem dX6_stretches_29 : decode cX6_stretches 29 = .ok (.bipush 47, 2) := by decide +kernel
theorem dX6_stretches_31 : decode cX6_stretches 31 = .ok (.dup2, 1) := by decide +kernel
theorem dX6_stretches_32 : decode cX6_stretches 32 = .ok (.iaload, 1) := by decide +kernel
theorem dX6_stretches_33 : decode cX6_stretches 33 = .ok (.aload_n 0, 1) := by decide +kernel
theorem dX6_stretches_34 : decode cX6_stretches 34 = .ok (.bipush 47, 2) := by decide +kernel
theorem dX6_stretches_36 : decode cX6_stretches 36 = .ok (.iaload, 1) := by decide +kernel
theorem dX6_stretches_37 : decode cX6_stretches 37 = .ok (.bipush 30, 2) := by decide +kernel
theorem dX6_stretches_39 : decode cX6_stretches 39 = .ok (.if_icmp .ge 7, 3) := by decide +kernel
theorem dX6_stretches_42 : decode cX6_stretches 42 = .ok (.iconst 1, 1) := by decide +kernel
theorem dX6_stretches_43 : decode cX6_stretches 43 = .ok (.goto 4, 3) := by decide +kernel
theorem dX6_stretches_46 : decode cX6_stretches 46 = .ok (.iconst 0, 1) := by decide +kernel
theorem dX6_stretches_47 : decode cX6_stretches 47 = .ok (.iadd, 1) := by decide +kernel
theorem dX6_stretches_48 : decode cX6_stretches 48 = .ok (.iastore, 1) := by decide +kernel
theorem dX6_stretches_49 : decode cX6_stretches 49 = .ok (.goto (-41), 3) := by decide +kernel
theorem dX6_stretches_52 : decode cX6_stretches 52 = .ok (.return_, 1) := by decide +kernel
set_option maxRecDepth 20000 in
theorem ggX6_crosses_X6_tension : GoodIn wsX6_crosses wsX6_tension := goodIn_r _ [4, 5, 6, 3, 7, 8, 9, 10, 11, 12, 13, 14, 15, 16, 17, 18, 19, 20, 21, 22] (by decide +kernel) (by decide +kernel)
set_option maxRecDepth 20000 in
theorem gX6_crosses_X6_tension : GoodIn wsX6_crosses (va_wsS RX6 62 yX6_tension wsX6_tension) := goodIn_app (goodIn_of _ (by decide +kernel)) ggX6_crosses_X6_tension
set_option maxRecDepth 20000 in
theorem ggX6_crosses_X6_stretches : GoodIn wsX6_crosses wsX6_stretches := goodIn_r _ [25] (by decide +kernel) (by decide +kernel)
set_option maxRecDepth 20000 in
theorem gX6_crosses_X6_stretches : GoodIn wsX6_crosses (va_wsS RX6 72 yX6_stretches wsX6_stretches) := goodIn_app (goodIn_of _ (by decide +kernel)) ggX6_crosses_X6_stretches
set_option maxRecDepth 20000 in
theorem ggX6_crosses_X6_passes : GoodIn wsX6_crosses wsX6_passes := goodIn_r _ [28, 29, 30, 3, 31] (by decide +kernel) (by decide +kernel)
set_option maxRecDepth 20000 in
theorem gX6_crosses_X6_passes : GoodIn wsX6_crosses (va_wsS RX6 76 yX6_passes wsX6_passes) := goodIn_app (goodIn_of _ (by decide +kernel)) ggX6_crosses_X6_passes
theorem dX6_crosses_0 : decode cX6_crosses 0 = .ok (.iconst 0, 1) := by decide +kernel
theorem dX6_crosses_1 : decode cX6_crosses 1 = .ok (.istore_n 1, 1) := by decide +kernel
theorem dX6_crosses_2 : decode cX6_crosses 2 = .ok (.iconst 0, 1) := by decide +kernel
theorem dX6_crosses_3 : decode cX6_crosses 3 = .ok (.istore_n 2, 1) := by decide +kernel
theorem dX6_crosses_4 : decode cX6_crosses 4 = .ok (.iload_n 2, 1) := by decide +kernel
theorem dX6_crosses_5 : decode cX6_crosses 5 = .ok (.bipush 20, 2) := by decide +kernel
theorem dX6_crosses_7 : decode cX6_crosses 7 = .ok (.if_icmp .ge 55, 3) := by decide +kernel
theorem dX6_crosses_10 : decode cX6_crosses 10 = .ok (.aload_n 0, 1) := by decide +kernel
theorem dX6_crosses_11 : decode cX6_crosses 11 = .ok (.iload_n 2, 1) := by decide +kernel
theorem dX6_crosses_12 : decode cX6_crosses 12 = .ok (.invokestatic 62, 3) := by decide +kernel
theorem dX6_crosses_15 : decode cX6_crosses 15 = .ok (.istore_n 3, 1) := by decide +kernel
theorem dX6_crosses_16 : decode cX6_crosses 16 = .ok (.aload_n 0, 1) := by decide +kernel
theorem dX6_crosses_17 : decode cX6_crosses 17 = .ok (.bipush 27, 2) := by decide +kernel
theorem dX6_crosses_19 : decode cX6_crosses 19 = .ok (.iload_n 2, 1) := by decide +kernel
theorem dX6_crosses_20 : decode cX6_crosses 20 = .ok (.iadd, 1) := by decide +kernel
theorem dX6_crosses_21 : decode cX6_crosses 21 = .ok (.iaload, 1) := by decide +kernel
theorem dX6_crosses_22 : decode cX6_crosses 22 = .ok (.iload_n 3, 1) := by decide +kernel
theorem dX6_crosses_23 : decode cX6_crosses 23 = .ok (.aload_n 0, 1) := by decide +kernel
theorem dX6_crosses_24 : decode cX6_crosses 24 = .ok (.iconst 2, 1) := by decide +kernel
theorem dX6_crosses_25 : decode cX6_crosses 25 = .ok (.iaload, 1) := by decide +kernel
theorem dX6_crosses_26 : decode cX6_crosses 26 = .ok (.idiv, 1) := by decide +kernel
theorem dX6_crosses_27 : decode cX6_crosses 27 = .ok (.iadd, 1) := by decide +kernel
theorem dX6_crosses_28 : decode cX6_crosses 28 = .ok (.istore 4, 2) := by decide +kernel
theorem dX6_crosses_30 : decode cX6_crosses 30 = .ok (.aload_n 0, 1) := by decide +kernel
theorem dX6_crosses_31 : decode cX6_crosses 31 = .ok (.bipush 27, 2) := by decide +kernel
theorem dX6_crosses_33 : decode cX6_crosses 33 = .ok (.iload_n 2, 1) := by decide +kernel
theorem dX6_crosses_34 : decode cX6_crosses 34 = .ok (.iadd, 1) := by decide +kernel
theorem dX6_crosses_35 : decode cX6_crosses 35 = .ok (.iload 4, 2) := by decide +kernel
theorem dX6_crosses_37 : decode cX6_crosses 37 = .ok (.sipush 1000, 3) := by decide +kernel
theorem dX6_crosses_40 : decode cX6_crosses 40 = .ok (.if_icmp .le 9, 3) := by decide +kernel
theorem dX6_crosses_43 : decode cX6_crosses 43 = .ok (.sipush 1000, 3) := by decide +kernel
theorem dX6_crosses_46 : decode cX6_crosses 46 = .ok (.goto 5, 3) := by decide +kernel
theorem dX6_crosses_49 : decode cX6_crosses 49 = .ok (.iload 4, 2) := by decide +kernel
theorem dX6_crosses_51 : decode cX6_crosses 51 = .ok (.iastore, 1) := by decide +kernel
theorem dX6_crosses_52 : decode cX6_crosses 52 = .ok (.iload_n 1, 1) := by decide +kernel
theorem dX6_crosses_53 : decode cX6_crosses 53 = .ok (.iload_n 3, 1) := by decide +kernel
theorem dX6_crosses_54 : decode cX6_crosses 54 = .ok (.iadd, 1) := by decide +kernel
theorem dX6_crosses_55 : decode cX6_crosses 55 = .ok (.istore_n 1, 1) := by decide +kernel
theorem dX6_crosses_56 : decode cX6_crosses 56 = .ok (.iinc 2 1, 3) := by decide +kernel
theorem dX6_crosses_59 : decode cX6_crosses 59 = .ok (.goto (-55), 3) := by decide +kernel
theorem dX6_crosses_62 : decode cX6_crosses 62 = .ok (.aload_n 0, 1) := by decide +kernel
theorem dX6_crosses_63 : decode cX6_crosses 63 = .ok (.iload_n 1, 1) := by decide +kernel
theorem dX6_crosses_64 : decode cX6_crosses 64 = .ok (.invokestatic 72, 3) := by decide +kernel
theorem dX6_crosses_67 : decode cX6_crosses 67 = .ok (.iconst 1, 1) := by decide +kernel
theorem dX6_crosses_68 : decode cX6_crosses 68 = .ok (.aload_n 0, 1) := by decide +kernel
theorem dX6_crosses_69 : decode cX6_crosses 69 = .ok (.bipush 47, 2) := by decide +kernel
theorem dX6_crosses_71 : decode cX6_crosses 71 = .ok (.iaload, 1) := by decide +kernel
theorem dX6_crosses_72 : decode cX6_crosses 72 = .ok (.bipush 10, 2) := by decide +kernel
theorem dX6_crosses_74 : decode cX6_crosses 74 = .ok (.idiv, 1) := by decide +kernel
theorem dX6_crosses_75 : decode cX6_crosses 75 = .ok (.iadd, 1) := by decide +kernel
theorem dX6_crosses_76 : decode cX6_crosses 76 = .ok (.istore_n 2, 1) := by decide +kernel
theorem dX6_crosses_77 : decode cX6_crosses 77 = .ok (.aload_n 0, 1) := by decide +kernel
theorem dX6_crosses_78 : decode cX6_crosses 78 = .ok (.iload_n 2, 1) := by decide +kernel
theorem dX6_crosses_79 : decode cX6_crosses 79 = .ok (.invokestatic 76, 3) := by decide +kernel
theorem dX6_crosses_82 : decode cX6_crosses 82 = .ok (.aload_n 0, 1) := by decide +kernel
theorem dX6_crosses_83 : decode cX6_crosses 83 = .ok (.bipush 51, 2) := by decide +kernel
theorem dX6_crosses_85 : decode cX6_crosses 85 = .ok (.iconst 1, 1) := by decide +kernel
theorem dX6_crosses_86 : decode cX6_crosses 86 = .ok (.aload_n 0, 1) := by decide +kernel
theorem dX6_crosses_87 : decode cX6_crosses 87 = .ok (.bipush 51, 2) := by decide +kernel
theorem dX6_crosses_89 : decode cX6_crosses 89 = .ok (.iaload, 1) := by decide +kernel
theorem dX6_crosses_90 : decode cX6_crosses 90 = .ok (.isub, 1) := by decide +kernel
theorem dX6_crosses_91 : decode cX6_crosses 91 = .ok (.iastore, 1) := by decide +kernel
theorem dX6_crosses_92 : decode cX6_crosses 92 = .ok (.aload_n 0, 1) := by decide +kernel
theorem dX6_crosses_93 : decode cX6_crosses 93 = .ok (.bipush 52, 2) := by decide +kernel
theorem dX6_crosses_95 : decode cX6_crosses 95 = .ok (.dup2, 1) := by decide +kernel
theorem dX6_crosses_96 : decode cX6_crosses 96 = .ok (.iaload, 1) := by decide +kernel
theorem dX6_crosses_97 : decode cX6_crosses 97 = .ok (.iconst 1, 1) := by decide +kernel
theorem dX6_crosses_98 : decode cX6_crosses 98 = .ok (.iadd, 1) := by decide +kernel
theorem dX6_crosses_99 : decode cX6_crosses 99 = .ok (.iastore, 1) := by decide +kernel
theorem dX6_crosses_100 : decode cX6_crosses 100 = .ok (.iload_n 2, 1) := by decide +kernel
theorem dX6_crosses_101 : decode cX6_crosses 101 = .ok (.ireturn, 1) := by decide +kernel
set_option maxRecDepth 20000 in
theorem ggX6_draws_X6_passes : GoodIn wsX6_draws wsX6_passes := goodIn_r _ [4, 5, 6, 3, 7] (by decide +kernel) (by decide +kernel)
set_option maxRecDepth 20000 in
theorem gX6_draws_X6_passes : GoodIn wsX6_draws (va_wsS RX6 76 yX6_passes wsX6_passes) := goodIn_app (goodIn_of _ (by decide +kernel)) ggX6_draws_X6_passes
theorem dX6_draws_0 : decode cX6_draws 0 = .ok (.iconst 0, 1) := by decide +kernel
theorem dX6_draws_1 : decode cX6_draws 1 = .ok (.istore_n 2, 1) := by decide +kernel
theorem dX6_draws_2 : decode cX6_draws 2 = .ok (.iload_n 2, 1) := by decide +kernel
theorem dX6_draws_3 : decode cX6_draws 3 = .ok (.bipush 20, 2) := by decide +kernel
theorem dX6_draws_5 : decode cX6_draws 5 = .ok (.if_icmp .ge 35, 3) := by decide +kernel
theorem dX6_draws_8 : decode cX6_draws 8 = .ok (.aload_n 0, 1) := by decide +kernel
theorem dX6_draws_9 : decode cX6_draws 9 = .ok (.bipush 27, 2) := by decide +kernel
theorem dX6_draws_11 : decode cX6_draws 11 = .ok (.iload_n 2, 1) := by decide +kernel
theorem dX6_draws_12 : decode cX6_draws 12 = .ok (.iadd, 1) := by decide +kernel
theorem dX6_draws_13 : decode cX6_draws 13 = .ok (.iload_n 2, 1) := by decide +kernel
theorem dX6_draws_14 : decode cX6_draws 14 = .ok (.iload_n 1, 1) := by decide +kernel
theorem dX6_draws_15 : decode cX6_draws 15 = .ok (.iadd, 1) := by decide +kernel
theorem dX6_draws_16 : decode cX6_draws 16 = .ok (.bipush 20, 2) := by decide +kernel
theorem dX6_draws_18 : decode cX6_draws 18 = .ok (.if_icmp .ge 14, 3) := by decide +kernel
theorem dX6_draws_21 : decode cX6_draws 21 = .ok (.aload_n 0, 1) := by decide +kernel
theorem dX6_draws_22 : decode cX6_draws 22 = .ok (.bipush 27, 2) := by decide +kernel
theorem dX6_draws_24 : decode cX6_draws 24 = .ok (.iload_n 2, 1) := by decide +kernel
theorem dX6_draws_25 : decode cX6_draws 25 = .ok (.iadd, 1) := by decide +kernel
theorem dX6_draws_26 : decode cX6_draws 26 = .ok (.iload_n 1, 1) := by decide +kernel
theorem dX6_draws_27 : decode cX6_draws 27 = .ok (.iadd, 1) := by decide +kernel
theorem dX6_draws_28 : decode cX6_draws 28 = .ok (.iaload, 1) := by decide +kernel
theorem dX6_draws_29 : decode cX6_draws 29 = .ok (.goto 4, 3) := by decide +kernel
theorem dX6_draws_32 : decode cX6_draws 32 = .ok (.iconst 0, 1) := by decide +kernel
theorem dX6_draws_33 : decode cX6_draws 33 = .ok (.iastore, 1) := by decide +kernel
theorem dX6_draws_34 : decode cX6_draws 34 = .ok (.iinc 2 1, 3) := by decide +kernel
theorem dX6_draws_37 : decode cX6_draws 37 = .ok (.goto (-35), 3) := by decide +kernel
theorem dX6_draws_40 : decode cX6_draws 40 = .ok (.aload_n 0, 1) := by decide +kernel
theorem dX6_draws_41 : decode cX6_draws 41 = .ok (.bipush 49, 2) := by decide +kernel
theorem dX6_draws_43 : decode cX6_draws 43 = .ok (.dup2, 1) := by decide +kernel
theorem dX6_draws_44 : decode cX6_draws 44 = .ok (.iaload, 1) := by decide +kernel
theorem dX6_draws_45 : decode cX6_draws 45 = .ok (.iload_n 1, 1) := by decide +kernel
theorem dX6_draws_46 : decode cX6_draws 46 = .ok (.isub, 1) := by decide +kernel
theorem dX6_draws_47 : decode cX6_draws 47 = .ok (.iastore, 1) := by decide +kernel
theorem dX6_draws_48 : decode cX6_draws 48 = .ok (.aload_n 0, 1) := by decide +kernel
theorem dX6_draws_49 : decode cX6_draws 49 = .ok (.bipush 47, 2) := by decide +kernel
theorem dX6_draws_51 : decode cX6_draws 51 = .ok (.iconst 0, 1) := by decide +kernel
theorem dX6_draws_52 : decode cX6_draws 52 = .ok (.iastore, 1) := by decide +kernel
theorem dX6_draws_53 : decode cX6_draws 53 = .ok (.aload_n 0, 1) := by decide +kernel
theorem dX6_draws_54 : decode cX6_draws 54 = .ok (.bipush 48, 2) := by decide +kernel
theorem dX6_draws_56 : decode cX6_draws 56 = .ok (.iconst 0, 1) := by decide +kernel
theorem dX6_draws_57 : decode cX6_draws 57 = .ok (.iastore, 1) := by decide +kernel
theorem dX6_draws_58 : decode cX6_draws 58 = .ok (.aload_n 0, 1) := by decide +kernel
theorem dX6_draws_59 : decode cX6_draws 59 = .ok (.iload_n 1, 1) := by decide +kernel
theorem dX6_draws_60 : decode cX6_draws 60 = .ok (.invokestatic 76, 3) := by decide +kernel
theorem dX6_draws_63 : decode cX6_draws 63 = .ok (.aload_n 0, 1) := by decide +kernel
theorem dX6_draws_64 : decode cX6_draws 64 = .ok (.bipush 49, 2) := by decide +kernel
theorem dX6_draws_66 : decode cX6_draws 66 = .ok (.iaload, 1) := by decide +kernel
theorem dX6_draws_67 : decode cX6_draws 67 = .ok (.ireturn, 1) := by decide +kernel
set_option maxRecDepth 20000 in
theorem ggX6_becomes_X6_saves : GoodIn wsX6_becomes wsX6_saves := goodIn_r _ [6, 7, 8, 1, 9, 10, 5, 11, 12, 13, 14, 15, 16, 17, 18, 19, 20, 21, 22, 23, 24, 25, 26, 27] (by decide +kernel) (by decide +kernel)
set_option maxRecDepth 20000 in
theorem gX6_becomes_X6_saves : GoodIn wsX6_becomes (wsV RX6 79 RX6 yX6_saves wsX6_saves) := goodIn_app (goodIn_of _ (by decide +kernel)) ggX6_becomes_X6_saves
theorem dX6_becomes_0 : decode cX6_becomes 0 = .ok (.aload_n 0, 1) := by decide +kernel
theorem dX6_becomes_1 : decode cX6_becomes 1 = .ok (.invokevirtual 79, 3) := by decide +kernel
theorem dX6_becomes_4 : decode cX6_becomes 4 = .ok (.aload_n 0, 1) := by decide +kernel
theorem dX6_becomes_5 : decode cX6_becomes 5 = .ok (.getfield 7, 3) := by decide +kernel
theorem dX6_becomes_8 : decode cX6_becomes 8 = .ok (.iload_n 1, 1) := by decide +kernel
theorem dX6_becomes_9 : decode cX6_becomes 9 = .ok (.iaload, 1) := by decide +kernel
theorem dX6_becomes_10 : decode cX6_becomes 10 = .ok (.istore_n 3, 1) := by decide +kernel
theorem dX6_becomes_11 : decode cX6_becomes 11 = .ok (.aload_n 0, 1) := by decide +kernel
theorem dX6_becomes_12 : decode cX6_becomes 12 = .ok (.getfield 7, 3) := by decide +kernel
theorem dX6_becomes_15 : decode cX6_becomes 15 = .ok (.iload_n 1, 1) := by decide +kernel
theorem dX6_becomes_16 : decode cX6_becomes 16 = .ok (.iload_n 2, 1) := by decide +kernel
theorem dX6_becomes_17 : decode cX6_becomes 17 = .ok (.iastore, 1) := by decide +kernel
theorem dX6_becomes_18 : decode cX6_becomes 18 = .ok (.iload_n 3, 1) := by decide +kernel
theorem dX6_becomes_19 : decode cX6_becomes 19 = .ok (.ireturn, 1) := by decide +kernel
set_option maxRecDepth 20000 in
theorem ggX6_current_X6_in : GoodIn wsX6_current wsX6_in := goodIn_r _ [5] (by decide +kernel) (by decide +kernel)
set_option maxRecDepth 20000 in
theorem gX6_current_X6_in : GoodIn wsX6_current (va_wsS RX6 82 yX6_in wsX6_in) := goodIn_app (goodIn_of _ (by decide +kernel)) ggX6_current_X6_in
set_option maxRecDepth 20000 in
theorem ggX6_current_X6_refuses : GoodIn wsX6_current wsX6_refuses := goodIn_r _ [9, 1, 24, 25, 26, 27, 28, 29, 30, 31, 32, 33, 34, 35, 36, 37, 38, 39] (by decide +kernel) (by decide +kernel)
set_option maxRecDepth 20000 in
theorem gX6_current_X6_refuses : GoodIn wsX6_current (wsV RX6 86 RX6 yX6_refuses wsX6_refuses) := goodIn_app (goodIn_of _ (by decide +kernel)) ggX6_current_X6_refuses
set_option maxRecDepth 20000 in
theorem ggX6_current_X6_becomes : GoodIn wsX6_current wsX6_becomes := goodIn_r _ [13, 14, 15, 16, 17, 4, 18, 19, 20, 21, 22, 23, 24, 25, 26, 27, 28, 29, 30, 31, 32, 33, 34, 35, 36, 37, 38, 39] (by decide +kernel) (by decide +kernel)
set_option maxRecDepth 20000 in
theorem gX6_current_X6_becomes : GoodIn wsX6_current (wsV RX6 89 RX6 yX6_becomes wsX6_becomes) := goodIn_app (goodIn_of _ (by decide +kernel)) ggX6_current_X6_becomes
theorem dX6_current_0 : decode cX6_current 0 = .ok (.aload_n 0, 1) := by decide +kernel
theorem dX6_current_1 : decode cX6_current 1 = .ok (.iconst 0, 1) := by decide +kernel
theorem dX6_current_2 : decode cX6_current 2 = .ok (.putfield 25, 3) := by decide +kernel
theorem dX6_current_5 : decode cX6_current 5 = .ok (.iload_n 1, 1) := by decide +kernel
theorem dX6_current_6 : decode cX6_current 6 = .ok (.iconst 0, 1) := by decide +kernel
theorem dX6_current_7 : decode cX6_current 7 = .ok (.bipush 23, 2) := by decide +kernel
theorem dX6_current_9 : decode cX6_current 9 = .ok (.invokestatic 82, 3) := by decide +kernel
theorem dX6_current_12 : decode cX6_current 12 = .ok (.ifCond .ne 9, 3) := by decide +kernel
theorem dX6_current_15 : decode cX6_current 15 = .ok (.aload_n 0, 1) := by decide +kernel
theorem dX6_current_16 : decode cX6_current 16 = .ok (.iconst 1, 1) := by decide +kernel
theorem dX6_current_17 : decode cX6_current 17 = .ok (.invokevirtual 86, 3) := by decide +kernel
theorem dX6_current_20 : decode cX6_current 20 = .ok (.ireturn, 1) := by decide +kernel
theorem dX6_current_21 : decode cX6_current 21 = .ok (.iload_n 2, 1) := by decide +kernel
theorem dX6_current_22 : decode cX6_current 22 = .ok (.iconst 0, 1) := by decide +kernel
theorem dX6_current_23 : decode cX6_current 23 = .ok (.bipush 40, 2) := by decide +kernel
theorem dX6_current_25 : decode cX6_current 25 = .ok (.invokestatic 82, 3) := by decide +kernel
theorem dX6_current_28 : decode cX6_current 28 = .ok (.ifCond .eq 14, 3) := by decide +kernel
theorem dX6_current_31 : decode cX6_current 31 = .ok (.aload_n 0, 1) := by decide +kernel
theorem dX6_current_32 : decode cX6_current 32 = .ok (.iconst 3, 1) := by decide +kernel
theorem dX6_current_33 : decode cX6_current 33 = .ok (.iload_n 1, 1) := by decide +kernel
theorem dX6_current_34 : decode cX6_current 34 = .ok (.iadd, 1) := by decide +kernel
theorem dX6_current_35 : decode cX6_current 35 = .ok (.iload_n 2, 1) := by decide +kernel
theorem dX6_current_36 : decode cX6_current 36 = .ok (.invokevirtual 89, 3) := by decide +kernel
theorem dX6_current_39 : decode cX6_current 39 = .ok (.goto 8, 3) := by decide +kernel
theorem dX6_current_42 : decode cX6_current 42 = .ok (.aload_n 0, 1) := by decide +kernel
theorem dX6_current_43 : decode cX6_current 43 = .ok (.iconst 2, 1) := by decide +kernel
theorem dX6_current_44 : decode cX6_current 44 = .ok (.invokevirtual 86, 3) := by decide +kernel
theorem dX6_current_47 : decode cX6_current 47 = .ok (.ireturn, 1) := by decide +kernel
theorem dX6_arrives_0 : decode cX6_arrives 0 = .ok (.bipush 57, 2) := by decide +kernel
theorem dX6_arrives_2 : decode cX6_arrives 2 = .ok (.bipush 11, 2) := by decide +kernel
theorem dX6_arrives_4 : decode cX6_arrives 4 = .ok (.iload_n 1, 1) := by decide +kernel
theorem dX6_arrives_5 : decode cX6_arrives 5 = .ok (.imul, 1) := by decide +kernel
theorem dX6_arrives_6 : decode cX6_arrives 6 = .ok (.iadd, 1) := by decide +kernel
theorem dX6_arrives_7 : decode cX6_arrives 7 = .ok (.istore_n 3, 1) := by decide +kernel
theorem dX6_arrives_8 : decode cX6_arrives 8 = .ok (.aload_n 0, 1) := by decide +kernel
theorem dX6_arrives_9 : decode cX6_arrives 9 = .ok (.getfield 7, 3) := by decide +kernel
theorem dX6_arrives_12 : decode cX6_arrives 12 = .ok (.iload_n 3, 1) := by decide +kernel
theorem dX6_arrives_13 : decode cX6_arrives 13 = .ok (.iconst 1, 1) := by decide +kernel
theorem dX6_arrives_14 : decode cX6_arrives 14 = .ok (.iadd, 1) := by decide +kernel
theorem dX6_arrives_15 : decode cX6_arrives 15 = .ok (.aload_n 0, 1) := by decide +kernel
theorem dX6_arrives_16 : decode cX6_arrives 16 = .ok (.getfield 7, 3) := by decide +kernel
theorem dX6_arrives_19 : decode cX6_arrives 19 = .ok (.iload_n 3, 1) := by decide +kernel
theorem dX6_arrives_20 : decode cX6_arrives 20 = .ok (.iaload, 1) := by decide +kernel
theorem dX6_arrives_21 : decode cX6_arrives 21 = .ok (.iadd, 1) := by decide +kernel
theorem dX6_arrives_22 : decode cX6_arrives 22 = .ok (.iload_n 2, 1) := by decide +kernel
theorem dX6_arrives_23 : decode cX6_arrives 23 = .ok (.iastore, 1) := by decide +kernel
theorem dX6_arrives_24 : decode cX6_arrives 24 = .ok (.aload_n 0, 1) := by decide +kernel
theorem dX6_arrives_25 : decode cX6_arrives 25 = .ok (.getfield 7, 3) := by decide +kernel
theorem dX6_arrives_28 : decode cX6_arrives 28 = .ok (.iload_n 3, 1) := by decide +kernel
theorem dX6_arrives_29 : decode cX6_arrives 29 = .ok (.dup2, 1) := by decide +kernel
theorem dX6_arrives_30 : decode cX6_arrives 30 = .ok (.iaload, 1) := by decide +kernel
theorem dX6_arrives_31 : decode cX6_arrives 31 = .ok (.iconst 1, 1) := by decide +kernel
theorem dX6_arrives_32 : decode cX6_arrives 32 = .ok (.iadd, 1) := by decide +kernel
theorem dX6_arrives_33 : decode cX6_arrives 33 = .ok (.iastore, 1) := by decide +kernel
theorem dX6_arrives_34 : decode cX6_arrives 34 = .ok (.aload_n 0, 1) := by decide +kernel
theorem dX6_arrives_35 : decode cX6_arrives 35 = .ok (.getfield 7, 3) := by decide +kernel
theorem dX6_arrives_38 : decode cX6_arrives 38 = .ok (.bipush 53, 2) := by decide +kernel
theorem dX6_arrives_40 : decode cX6_arrives 40 = .ok (.dup2, 1) := by decide +kernel
theorem dX6_arrives_41 : decode cX6_arrives 41 = .ok (.iaload, 1) := by decide +kernel
theorem dX6_arrives_42 : decode cX6_arrives 42 = .ok (.iconst 1, 1) := by decide +kernel
theorem dX6_arrives_43 : decode cX6_arrives 43 = .ok (.iadd, 1) := by decide +kernel
theorem dX6_arrives_44 : decode cX6_arrives 44 = .ok (.iastore, 1) := by decide +kernel
theorem dX6_arrives_45 : decode cX6_arrives 45 = .ok (.aload_n 0, 1) := by decide +kernel
theorem dX6_arrives_46 : decode cX6_arrives 46 = .ok (.getfield 7, 3) := by decide +kernel
theorem dX6_arrives_49 : decode cX6_arrives 49 = .ok (.iload_n 3, 1) := by decide +kernel
theorem dX6_arrives_50 : decode cX6_arrives 50 = .ok (.iaload, 1) := by decide +kernel
theorem dX6_arrives_51 : decode cX6_arrives 51 = .ok (.ireturn, 1) := by decide +kernel
set_option maxRecDepth 20000 in
theorem ggX6_isTwo_X6_in : GoodIn wsX6_isTwo wsX6_in := goodIn_r _ [4] (by decide +kernel) (by decide +kernel)
set_option maxRecDepth 20000 in
theorem gX6_isTwo_X6_in : GoodIn wsX6_isTwo (va_wsS RX6 82 yX6_in wsX6_in) := goodIn_app (goodIn_of _ (by decide +kernel)) ggX6_isTwo_X6_in
theorem dX6_isTwo_0 : decode cX6_isTwo 0 = .ok (.iload_n 0, 1) := by decide +kernel
theorem dX6_isTwo_1 : decode cX6_isTwo 1 = .ok (.iconst 0, 1) := by decide +kernel
theorem dX6_isTwo_2 : decode cX6_isTwo 2 = .ok (.iconst 1, 1) := by decide +kernel
theorem dX6_isTwo_3 : decode cX6_isTwo 3 = .ok (.invokestatic 82, 3) := by decide +kernel
theorem dX6_isTwo_6 : decode cX6_isTwo 6 = .ok (.ireturn, 1) := by decide +kernel
set_option maxRecDepth 20000 in
theorem ggX6_arrive_X6_isTwo : GoodIn wsX6_arrive wsX6_isTwo := goodIn_r _ [6, 7, 8, 5, 9] (by decide +kernel) (by decide +kernel)
set_option maxRecDepth 20000 in
theorem gX6_arrive_X6_isTwo : GoodIn wsX6_arrive (va_wsS RX6 93 yX6_isTwo wsX6_isTwo) := goodIn_app (goodIn_of _ (by decide +kernel)) ggX6_arrive_X6_isTwo
set_option maxRecDepth 20000 in
theorem ggX6_arrive_X6_refuses : GoodIn wsX6_arrive wsX6_refuses := goodIn_r _ [13, 1, 30, 31, 32, 33, 34, 35, 36, 37, 38, 39, 40, 41, 42, 43, 44, 45] (by decide +kernel) (by decide +kernel)
set_option maxRecDepth 20000 in
theorem gX6_arrive_X6_refuses : GoodIn wsX6_arrive (wsV RX6 86 RX6 yX6_refuses wsX6_refuses) := goodIn_app (goodIn_of _ (by decide +kernel)) ggX6_arrive_X6_refuses
set_option maxRecDepth 20000 in
theorem ggX6_arrive_X6_in : GoodIn wsX6_arrive wsX6_in := goodIn_r _ [9] (by decide +kernel) (by decide +kernel)
set_option maxRecDepth 20000 in
theorem gX6_arrive_X6_in : GoodIn wsX6_arrive (va_wsS RX6 82 yX6_in wsX6_in) := goodIn_app (goodIn_of _ (by decide +kernel)) ggX6_arrive_X6_in
set_option maxRecDepth 20000 in
theorem ggX6_arrive_X6_waitingAt : GoodIn wsX6_arrive wsX6_waitingAt := goodIn_r _ [16] (by decide +kernel) (by decide +kernel)
set_option maxRecDepth 20000 in
theorem gX6_arrive_X6_waitingAt : GoodIn wsX6_arrive (va_wsS RX6 51 yX6_waitingAt wsX6_waitingAt) := goodIn_app (goodIn_of _ (by decide +kernel)) ggX6_arrive_X6_waitingAt
set_option maxRecDepth 20000 in
theorem ggX6_arrive_X6_saves : GoodIn wsX6_arrive wsX6_saves := goodIn_r _ [20, 21, 22, 2, 23, 24, 5, 25, 30, 31, 32, 33, 34, 35, 36, 37, 38, 39, 40, 41, 42, 43, 44, 45] (by decide +kernel) (by decide +kernel)
set_option maxRecDepth 20000 in
theorem gX6_arrive_X6_saves : GoodIn wsX6_arrive (wsV RX6 79 RX6 yX6_saves wsX6_saves) := goodIn_app (goodIn_of _ (by decide +kernel)) ggX6_arrive_X6_saves
set_option maxRecDepth 20000 in
theorem ggX6_arrive_X6_arrives : GoodIn wsX6_arrive wsX6_arrives := goodIn_r _ [29, 2, 30, 31, 32, 33, 34, 35, 36, 37, 38, 39, 40, 41, 42, 43, 44, 45] (by decide +kernel) (by decide +kernel)
set_option maxRecDepth 20000 in
theorem gX6_arrive_X6_arrives : GoodIn wsX6_arrive (wsV RX6 97 RX6 yX6_arrives wsX6_arrives) := goodIn_app (goodIn_of _ (by decide +kernel)) ggX6_arrive_X6_arrives
theorem dX6_arrive_0 : decode cX6_arrive 0 = .ok (.aload_n 0, 1) := by decide +kernel
theorem dX6_arrive_1 : decode cX6_arrive 1 = .ok (.iconst 0, 1) := by decide +kernel
theorem dX6_arrive_2 : decode cX6_arrive 2 = .ok (.putfield 25, 3) := by decide +kernel
theorem dX6_arrive_5 : decode cX6_arrive 5 = .ok (.iload_n 1, 1) := by decide +kernel
theorem dX6_arrive_6 : decode cX6_arrive 6 = .ok (.invokestatic 93, 3) := by decide +kernel
theorem dX6_arrive_9 : decode cX6_arrive 9 = .ok (.ifCond .ne 9, 3) := by decide +kernel
theorem dX6_arrive_12 : decode cX6_arrive 12 = .ok (.aload_n 0, 1) := by decide +kernel
theorem dX6_arrive_13 : decode cX6_arrive 13 = .ok (.iconst 1, 1) := by decide +kernel
theorem dX6_arrive_14 : decode cX6_arrive 14 = .ok (.invokevirtual 86, 3) := by decide +kernel
theorem dX6_arrive_17 : decode cX6_arrive 17 = .ok (.ireturn, 1) := by decide +kernel
theorem dX6_arrive_18 : decode cX6_arrive 18 = .ok (.iload_n 2, 1) := by decide +kernel
theorem dX6_arrive_19 : decode cX6_arrive 19 = .ok (.iconst 1, 1) := by decide +kernel
theorem dX6_arrive_20 : decode cX6_arrive 20 = .ok (.bipush 20, 2) := by decide +kernel
theorem dX6_arrive_22 : decode cX6_arrive 22 = .ok (.invokestatic 82, 3) := by decide +kernel
theorem dX6_arrive_25 : decode cX6_arrive 25 = .ok (.ifCond .ne 9, 3) := by decide +kernel
theorem dX6_arrive_28 : decode cX6_arrive 28 = .ok (.aload_n 0, 1) := by decide +kernel
theorem dX6_arrive_29 : decode cX6_arrive 29 = .ok (.iconst 2, 1) := by decide +kernel
theorem dX6_arrive_30 : decode cX6_arrive 30 = .ok (.invokevirtual 86, 3) := by decide +kernel
theorem dX6_arrive_33 : decode cX6_arrive 33 = .ok (.ireturn, 1) := by decide +kernel
theorem dX6_arrive_34 : decode cX6_arrive 34 = .ok (.aload_n 0, 1) := by decide +kernel
theorem dX6_arrive_35 : decode cX6_arrive 35 = .ok (.getfield 7, 3) := by decide +kernel
theorem dX6_arrive_38 : decode cX6_arrive 38 = .ok (.iload_n 1, 1) := by decide +kernel
theorem dX6_arrive_39 : decode cX6_arrive 39 = .ok (.invokestatic 51, 3) := by decide +kernel
theorem dX6_arrive_42 : decode cX6_arrive 42 = .ok (.bipush 10, 2) := by decide +kernel
theorem dX6_arrive_44 : decode cX6_arrive 44 = .ok (.if_icmp .ne 9, 3) := by decide +kernel
theorem dX6_arrive_47 : decode cX6_arrive 47 = .ok (.aload_n 0, 1) := by decide +kernel
theorem dX6_arrive_48 : decode cX6_arrive 48 = .ok (.iconst 3, 1) := by decide +kernel
theorem dX6_arrive_49 : decode cX6_arrive 49 = .ok (.invokevirtual 86, 3) := by decide +kernel
theorem dX6_arrive_52 : decode cX6_arrive 52 = .ok (.ireturn, 1) := by decide +kernel
theorem dX6_arrive_53 : decode cX6_arrive 53 = .ok (.aload_n 0, 1) := by decide +kernel
theorem dX6_arrive_54 : decode cX6_arrive 54 = .ok (.invokevirtual 79, 3) := by decide +kernel
theorem dX6_arrive_57 : decode cX6_arrive 57 = .ok (.aload_n 0, 1) := by decide +kernel
theorem dX6_arrive_58 : decode cX6_arrive 58 = .ok (.iload_n 1, 1) := by decide +kernel
theorem dX6_arrive_59 : decode cX6_arrive 59 = .ok (.iload_n 2, 1) := by decide +kernel
theorem dX6_arrive_60 : decode cX6_arrive 60 = .ok (.invokevirtual 97, 3) := by decide +kernel
theorem dX6_arrive_63 : decode cX6_arrive 63 = .ok (.ireturn, 1) := by decide +kernel
set_option maxRecDepth 20000 in
theorem ggX6_canLoad_X6_waitingAt : GoodIn wsX6_canLoad wsX6_waitingAt := goodIn_r _ [5] (by decide +kernel) (by decide +kernel)
set_option maxRecDepth 20000 in
theorem gX6_canLoad_X6_waitingAt : GoodIn wsX6_canLoad (va_wsS RX6 51 yX6_waitingAt wsX6_waitingAt) := goodIn_app (goodIn_of _ (by decide +kernel)) ggX6_canLoad_X6_waitingAt
set_option maxRecDepth 20000 in
theorem ggX6_canLoad_X6_onLane : GoodIn wsX6_canLoad wsX6_onLane := goodIn_r _ [8] (by decide +kernel) (by decide +kernel)
set_option maxRecDepth 20000 in
theorem gX6_canLoad_X6_onLane : GoodIn wsX6_canLoad (va_wsS RX6 36 yX6_onLane wsX6_onLane) := goodIn_app (goodIn_of _ (by decide +kernel)) ggX6_canLoad_X6_onLane
theorem dX6_canLoad_0 : decode cX6_canLoad 0 = .ok (.aload_n 0, 1) := by decide +kernel
theorem dX6_canLoad_1 : decode cX6_canLoad 1 = .ok (.getfield 7, 3) := by decide +kernel
theorem dX6_canLoad_4 : decode cX6_canLoad 4 = .ok (.aload_n 0, 1) := by decide +kernel
theorem dX6_canLoad_5 : decode cX6_canLoad 5 = .ok (.getfield 7, 3) := by decide +kernel
theorem dX6_canLoad_8 : decode cX6_canLoad 8 = .ok (.bipush 51, 2) := by decide +kernel
theorem dX6_canLoad_10 : decode cX6_canLoad 10 = .ok (.iaload, 1) := by decide +kernel
theorem dX6_canLoad_11 : decode cX6_canLoad 11 = .ok (.invokestatic 51, 3) := by decide +kernel
theorem dX6_canLoad_14 : decode cX6_canLoad 14 = .ok (.ifCond .le 19, 3) := by decide +kernel
theorem dX6_canLoad_17 : decode cX6_canLoad 17 = .ok (.aload_n 0, 1) := by decide +kernel
theorem dX6_canLoad_18 : decode cX6_canLoad 18 = .ok (.getfield 7, 3) := by decide +kernel
theorem dX6_canLoad_21 : decode cX6_canLoad 21 = .ok (.iload_n 1, 1) := by decide +kernel
theorem dX6_canLoad_22 : decode cX6_canLoad 22 = .ok (.invokestatic 36, 3) := by decide +kernel
theorem dX6_canLoad_25 : decode cX6_canLoad 25 = .ok (.iconst 4, 1) := by decide +kernel
theorem dX6_canLoad_26 : decode cX6_canLoad 26 = .ok (.if_icmp .ge 7, 3) := by decide +kernel
theorem dX6_canLoad_29 : decode cX6_canLoad 29 = .ok (.iconst 1, 1) := by decide +kernel
theorem dX6_canLoad_30 : decode cX6_canLoad 30 = .ok (.goto 4, 3) := by decide +kernel
theorem dX6_canLoad_33 : decode cX6_canLoad 33 = .ok (.iconst 0, 1) := by decide +kernel
theorem dX6_canLoad_34 : decode cX6_canLoad 34 = .ok (.ireturn, 1) := by decide +kernel
theorem dX6_loads_0 : decode cX6_loads 0 = .ok (.bipush 57, 2) := by decide +kernel
theorem dX6_loads_2 : decode cX6_loads 2 = .ok (.bipush 11, 2) := by decide +kernel
theorem dX6_loads_4 : decode cX6_loads 4 = .ok (.aload_n 0, 1) := by decide +kernel
theorem dX6_loads_5 : decode cX6_loads 5 = .ok (.getfield 7, 3) := by decide +kernel
theorem dX6_loads_8 : decode cX6_loads 8 = .ok (.bipush 51, 2) := by decide +kernel
theorem dX6_loads_10 : decode cX6_loads 10 = .ok (.iaload, 1) := by decide +kernel
theorem dX6_loads_11 : decode cX6_loads 11 = .ok (.imul, 1) := by decide +kernel
theorem dX6_loads_12 : decode cX6_loads 12 = .ok (.iadd, 1) := by decide +kernel
theorem dX6_loads_13 : decode cX6_loads 13 = .ok (.istore_n 2, 1) := by decide +kernel
theorem dX6_loads_14 : decode cX6_loads 14 = .ok (.aload_n 0, 1) := by decide +kernel
theorem dX6_loads_15 : decode cX6_loads 15 = .ok (.getfield 7, 3) := by decide +kernel
theorem dX6_loads_18 : decode cX6_loads 18 = .ok (.iload_n 2, 1) := by decide +kernel
theorem dX6_loads_19 : decode cX6_loads 19 = .ok (.iconst 1, 1) := by decide +kernel
theorem dX6_loads_20 : decode cX6_loads 20 = .ok (.iadd, 1) := by decide +kernel
theorem dX6_loads_21 : decode cX6_loads 21 = .ok (.iaload, 1) := by decide +kernel
theorem dX6_loads_22 : decode cX6_loads 22 = .ok (.istore_n 3, 1) := by decide +kernel
theorem dX6_loads_23 : decode cX6_loads 23 = .ok (.aload_n 0, 1) := by decide +kernel
theorem dX6_loads_24 : decode cX6_loads 24 = .ok (.getfield 7, 3) := by decide +kernel
theorem dX6_loads_27 : decode cX6_loads 27 = .ok (.iload_n 2, 1) := by decide +kernel
theorem dX6_loads_28 : decode cX6_loads 28 = .ok (.dup2, 1) := by decide +kernel
theorem dX6_loads_29 : decode cX6_loads 29 = .ok (.iaload, 1) := by decide +kernel
theorem dX6_loads_30 : decode cX6_loads 30 = .ok (.iconst 1, 1) := by decide +kernel
theorem dX6_loads_31 : decode cX6_loads 31 = .ok (.isub, 1) := by decide +kernel
theorem dX6_loads_32 : decode cX6_loads 32 = .ok (.iastore, 1) := by decide +kernel
theorem dX6_loads_33 : decode cX6_loads 33 = .ok (.iconst 1, 1) := by decide +kernel
theorem dX6_loads_34 : decode cX6_loads 34 = .ok (.istore 4, 2) := by decide +kernel
theorem dX6_loads_36 : decode cX6_loads 36 = .ok (.iload 4, 2) := by decide +kernel
theorem dX6_loads_38 : decode cX6_loads 38 = .ok (.bipush 9, 2) := by decide +kernel
theorem dX6_loads_40 : decode cX6_loads 40 = .ok (.if_icmp .gt 29, 3) := by decide +kernel
theorem dX6_loads_43 : decode cX6_loads 43 = .ok (.aload_n 0, 1) := by decide +kernel
theorem dX6_loads_44 : decode cX6_loads 44 = .ok (.getfield 7, 3) := by decide +kernel
theorem dX6_loads_47 : decode cX6_loads 47 = .ok (.iload_n 2, 1) := by decide +kernel
theorem dX6_loads_48 : decode cX6_loads 48 = .ok (.iload 4, 2) := by decide +kernel
theorem dX6_loads_50 : decode cX6_loads 50 = .ok (.iadd, 1) := by decide +kernel
theorem dX6_loads_51 : decode cX6_loads 51 = .ok (.aload_n 0, 1) := by decide +kernel
theorem dX6_loads_52 : decode cX6_loads 52 = .ok (.getfield 7, 3) := by decide +kernel
theorem dX6_loads_55 : decode cX6_loads 55 = .ok (.iload_n 2, 1) := by decide +kernel
theorem dX6_loads_56 : decode cX6_loads 56 = .ok (.iload 4, 2) := by decide +kernel
theorem dX6_loads_58 : decode cX6_loads 58 = .ok (.iadd, 1) := by decide +kernel
theorem dX6_loads_59 : decode cX6_loads 59 = .ok (.iconst 1, 1) := by decide +kernel
theorem dX6_loads_60 : decode cX6_loads 60 = .ok (.iadd, 1) := by decide +kernel
theorem dX6_loads_61 : decode cX6_loads 61 = .ok (.iaload, 1) := by decide +kernel
theorem dX6_loads_62 : decode cX6_loads 62 = .ok (.iastore, 1) := by decide +kernel
theorem dX6_loads_63 : decode cX6_loads 63 = .ok (.iinc 4 1, 3) := by decide +kernel
theorem dX6_loads_66 : decode cX6_loads 66 = .ok (.goto (-30), 3) := by decide +kernel
theorem dX6_loads_69 : decode cX6_loads 69 = .ok (.aload_n 0, 1) := by decide +kernel
theorem dX6_loads_70 : decode cX6_loads 70 = .ok (.getfield 7, 3) := by decide +kernel
theorem dX6_loads_73 : decode cX6_loads 73 = .ok (.iload_n 2, 1) := by decide +kernel
theorem dX6_loads_74 : decode cX6_loads 74 = .ok (.bipush 10, 2) := by decide +kernel
theorem dX6_loads_76 : decode cX6_loads 76 = .ok (.iadd, 1) := by decide +kernel
theorem dX6_loads_77 : decode cX6_loads 77 = .ok (.iconst 0, 1) := by decide +kernel
theorem dX6_loads_78 : decode cX6_loads 78 = .ok (.iastore, 1) := by decide +kernel
theorem dX6_loads_79 : decode cX6_loads 79 = .ok (.bipush 79, 2) := by decide +kernel
theorem dX6_loads_81 : decode cX6_loads 81 = .ok (.bipush 9, 2) := by decide +kernel
theorem dX6_loads_83 : decode cX6_loads 83 = .ok (.iload_n 1, 1) := by decide +kernel
theorem dX6_loads_84 : decode cX6_loads 84 = .ok (.imul, 1) := by decide +kernel
theorem dX6_loads_85 : decode cX6_loads 85 = .ok (.iadd, 1) := by decide +kernel
theorem dX6_loads_86 : decode cX6_loads 86 = .ok (.istore 4, 2) := by decide +kernel
theorem dX6_loads_88 : decode cX6_loads 88 = .ok (.aload_n 0, 1) := by decide +kernel
theorem dX6_loads_89 : decode cX6_loads 89 = .ok (.getfield 7, 3) := by decide +kernel
theorem dX6_loads_92 : decode cX6_loads 92 = .ok (.iload 4, 2) := by decide +kernel
theorem dX6_loads_94 : decode cX6_loads 94 = .ok (.iconst 1, 1) := by decide +kernel
theorem dX6_loads_95 : decode cX6_loads 95 = .ok (.iadd, 1) := by decide +kernel
theorem dX6_loads_96 : decode cX6_loads 96 = .ok (.iconst 2, 1) := by decide +kernel
theorem dX6_loads_97 : decode cX6_loads 97 = .ok (.aload_n 0, 1) := by decide +kernel
theorem dX6_loads_98 : decode cX6_loads 98 = .ok (.getfield 7, 3) := by decide +kernel
theorem dX6_loads_101 : decode cX6_loads 101 = .ok (.iload 4, 2) := by decide +kernel
theorem dX6_loads_103 : decode cX6_loads 103 = .ok (.iaload, 1) := by decide +kernel
theorem dX6_loads_104 : decode cX6_loads 104 = .ok (.imul, 1) := by decide +kernel
theorem dX6_loads_105 : decode cX6_loads 105 = .ok (.iadd, 1) := by decide +kernel
theorem dX6_loads_106 : decode cX6_loads 106 = .ok (.iload_n 3, 1) := by decide +kernel
theorem dX6_loads_107 : decode cX6_loads 107 = .ok (.iastore, 1) := by decide +kernel
theorem dX6_loads_108 : decode cX6_loads 108 = .ok (.aload_n 0, 1) := by decide +kernel
theorem dX6_loads_109 : decode cX6_loads 109 = .ok (.getfield 7, 3) := by decide +kernel
theorem dX6_loads_112 : decode cX6_loads 112 = .ok (.iload 4, 2) := by decide +kernel
theorem dX6_loads_114 : decode cX6_loads 114 = .ok (.iconst 2, 1) := by decide +kernel
theorem dX6_loads_115 : decode cX6_loads 115 = .ok (.iadd, 1) := by decide +kernel
theorem dX6_loads_116 : decode cX6_loads 116 = .ok (.iconst 2, 1) := by decide +kernel
theorem dX6_loads_117 : decode cX6_loads 117 = .ok (.aload_n 0, 1) := by decide +kernel
theorem dX6_loads_118 : decode cX6_loads 118 = .ok (.getfield 7, 3) := by decide +kernel
theorem dX6_loads_121 : decode cX6_loads 121 = .ok (.iload 4, 2) := by decide +kernel
theorem dX6_loads_123 : decode cX6_loads 123 = .ok (.iaload, 1) := by decide +kernel
theorem dX6_loads_124 : decode cX6_loads 124 = .ok (.imul, 1) := by decide +kernel
theorem dX6_loads_125 : decode cX6_loads 125 = .ok (.iadd, 1) := by decide +kernel
theorem dX6_loads_126 : decode cX6_loads 126 = .ok (.aload_n 0, 1) := by decide +kernel
theorem dX6_loads_127 : decode cX6_loads 127 = .ok (.getfield 7, 3) := by decide +kernel
theorem dX6_loads_130 : decode cX6_loads 130 = .ok (.bipush 51, 2) := by decide +kernel
theorem dX6_loads_132 : decode cX6_loads 132 = .ok (.iaload, 1) := by decide +kernel
theorem dX6_loads_133 : decode cX6_loads 133 = .ok (.iastore, 1) := by decide +kernel
theorem dX6_loads_134 : decode cX6_loads 134 = .ok (.aload_n 0, 1) := by decide +kernel
theorem dX6_loads_135 : decode cX6_loads 135 = .ok (.getfield 7, 3) := by decide +kernel
theorem dX6_loads_138 : decode cX6_loads 138 = .ok (.iload 4, 2) := by decide +kernel
theorem dX6_loads_140 : decode cX6_loads 140 = .ok (.dup2, 1) := by decide +kernel
theorem dX6_loads_141 : decode cX6_loads 141 = .ok (.iaload, 1) := by decide +kernel
theorem dX6_loads_142 : decode cX6_loads 142 = .ok (.iconst 1, 1) := by decide +kernel
theorem dX6_loads_143 : decode cX6_loads 143 = .ok (.iadd, 1) := by decide +kernel
theorem dX6_loads_144 : decode cX6_loads 144 = .ok (.iastore, 1) := by decide +kernel
