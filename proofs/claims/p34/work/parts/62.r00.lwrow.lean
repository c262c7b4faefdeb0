theorem dL_part_0 : decode cL_part 0 = .ok (.iload_n 0, 1) := by decide +kernel
theorem dL_part_1 : decode cL_part 1 = .ok (.ldc 7, 2) := by decide +kernel
theorem dL_part_3 : decode cL_part 3 = .ok (.iand, 1) := by decide +kernel
theorem dL_part_4 : decode cL_part 4 = .ok (.iload_n 1, 1) := by decide +kernel
theorem dL_part_5 : decode cL_part 5 = .ok (.irem, 1) := by decide +kernel
theorem dL_part_6 : decode cL_part 6 = .ok (.ireturn, 1) := by decide +kernel
theorem dL_drawn_0 : decode cL_drawn 0 = .ok (.aload_n 0, 1) := by decide +kernel
theorem dL_drawn_1 : decode cL_drawn 1 = .ok (.arraylength, 1) := by decide +kernel
theorem dL_drawn_2 : decode cL_drawn 2 = .ok (.ifCond .ne 13, 3) := by decide +kernel
theorem dL_drawn_5 : decode cL_drawn 5 = .ok (.sipush 7919, 3) := by decide +kernel
theorem dL_drawn_8 : decode cL_drawn 8 = .ok (.iload_n 1, 1) := by decide +kernel
theorem dL_drawn_9 : decode cL_drawn 9 = .ok (.imul, 1) := by decide +kernel
theorem dL_drawn_10 : decode cL_drawn 10 = .ok (.iconst 3, 1) := by decide +kernel
theorem dL_drawn_11 : decode cL_drawn 11 = .ok (.iadd, 1) := by decide +kernel
theorem dL_drawn_12 : decode cL_drawn 12 = .ok (.goto 27, 3) := by decide +kernel
theorem dL_drawn_15 : decode cL_drawn 15 = .ok (.aload_n 0, 1) := by decide +kernel
theorem dL_drawn_16 : decode cL_drawn 16 = .ok (.iload_n 1, 1) := by decide +kernel
theorem dL_drawn_17 : decode cL_drawn 17 = .ok (.aload_n 0, 1) := by decide +kernel
theorem dL_drawn_18 : decode cL_drawn 18 = .ok (.arraylength, 1) := by decide +kernel
theorem dL_drawn_19 : decode cL_drawn 19 = .ok (.irem, 1) := by decide +kernel
theorem dL_drawn_20 : decode cL_drawn 20 = .ok (.iaload, 1) := by decide +kernel
theorem dL_drawn_21 : decode cL_drawn 21 = .ok (.iload_n 1, 1) := by decide +kernel
theorem dL_drawn_22 : decode cL_drawn 22 = .ok (.bipush 7, 2) := by decide +kernel
theorem dL_drawn_24 : decode cL_drawn 24 = .ok (.irem, 1) := by decide +kernel
theorem dL_drawn_25 : decode cL_drawn 25 = .ok (.ishr, 1) := by decide +kernel
theorem dL_drawn_26 : decode cL_drawn 26 = .ok (.iload_n 1, 1) := by decide +kernel
theorem dL_drawn_27 : decode cL_drawn 27 = .ok (.aload_n 0, 1) := by decide +kernel
theorem dL_drawn_28 : decode cL_drawn 28 = .ok (.arraylength, 1) := by decide +kernel
theorem dL_drawn_29 : decode cL_drawn 29 = .ok (.idiv, 1) := by decide +kernel
theorem dL_drawn_30 : decode cL_drawn 30 = .ok (.bipush 31, 2) := by decide +kernel
theorem dL_drawn_32 : decode cL_drawn 32 = .ok (.imul, 1) := by decide +kernel
theorem dL_drawn_33 : decode cL_drawn 33 = .ok (.ixor, 1) := by decide +kernel
theorem dL_drawn_34 : decode cL_drawn 34 = .ok (.iload_n 1, 1) := by decide +kernel
theorem dL_drawn_35 : decode cL_drawn 35 = .ok (.ldc 8, 2) := by decide +kernel
theorem dL_drawn_37 : decode cL_drawn 37 = .ok (.imul, 1) := by decide +kernel
theorem dL_drawn_38 : decode cL_drawn 38 = .ok (.ixor, 1) := by decide +kernel
theorem dL_drawn_39 : decode cL_drawn 39 = .ok (.ireturn, 1) := by decide +kernel
set_option maxRecDepth 20000 in
theorem ggL_call_X5_arrive : GoodIn wsL_call wsX5_arrive := goodIn_ca (goodIn_ca (goodIn_ca (goodIn_r _ [8, 9, 10, 11, 12, 13, 14, 15, 16, 17, 18, 7, 19, 20, 21, 22, 23, 24, 25, 26, 27, 28, 29, 30, 31, 32, 33, 34, 35, 36, 37, 38, 39, 40, 41, 42, 43, 44, 45, 46, 47, 48, 49, 50, 51, 52, 53, 54, 55, 56, 57, 58, 59, 60, 61, 62, 63, 64, 65, 66, 67, 68, 69, 70, 71, 72, 73, 74, 75, 76, 77, 78, 79, 80, 81, 82, 83, 84, 85, 86, 87, 88, 89, 90, 91, 92, 93, 94, 95, 96, 97, 98, 99, 100, 101, 102, 103, 104, 105, 106, 107, 108, 109, 110, 428, 429, 430, 431, 432, 433, 434, 435, 436, 437, 438, 439, 440, 441, 442, 443, 444, 445, 446, 447, 448, 449, 450, 451, 452, 453, 454, 455, 456, 457, 458] (by decide +kernel) (by decide +kernel)) (goodIn_sub (fun _ h => List.mem_cons_of_mem _ (List.mem_append_left _ (List.mem_append_left _ (List.mem_append_right _ h)))) (by decide +kernel))) (goodIn_sub (fun _ h => List.mem_cons_of_mem _ (List.mem_append_left _ (List.mem_append_right _ h))) (by decide +kernel))) (goodIn_sub (fun _ h => List.mem_cons_of_mem _ (List.mem_append_right _ h)) (by decide +kernel))
set_option maxRecDepth 20000 in
theorem gL_call_X5_arrive : GoodIn wsL_call (wsV RL 9 RX5 yX5_arrive wsX5_arrive) := goodIn_app (goodIn_of _ (by decide +kernel)) ggL_call_X5_arrive
set_option maxRecDepth 20000 in
theorem ggL_call_X5_load : GoodIn wsL_call wsX5_load := goodIn_ca (goodIn_ca (goodIn_r _ [114, 9, 10, 13, 14, 15, 16, 17, 18, 7, 19, 115, 116, 117, 23, 118, 64, 25, 26, 27, 28, 29, 30, 119, 108, 109, 34, 110, 36, 120, 121, 122, 123, 60, 61, 31, 32, 33, 35, 37, 38, 39, 40, 41, 42, 43, 44, 45, 46, 47, 48, 49, 50, 51, 52, 53, 54, 55, 56, 57, 58, 59, 62, 63, 65, 66, 67, 68, 69, 70, 71, 72, 73, 74, 75, 76, 77, 78, 79, 80, 81, 82, 83, 84, 85, 86, 87, 88, 89, 90, 91, 92, 93, 94, 124, 125, 126, 127, 128, 129, 130, 131, 132, 133, 134, 135, 136, 137, 104, 105, 99, 100, 101, 102, 103, 428, 429, 430, 431, 432, 433, 434, 435, 436, 437, 438, 439, 440, 441, 442, 443, 444, 445, 446, 447, 448, 449, 450, 451, 452, 453, 454, 455, 456, 457, 458] (by decide +kernel) (by decide +kernel)) (goodIn_sub (fun _ h => List.mem_cons_of_mem _ (List.mem_append_left _ (List.mem_append_left _ (List.mem_append_right _ h)))) (by decide +kernel))) (goodIn_sub (fun _ h => List.mem_cons_of_mem _ (List.mem_append_right _ h)) (by decide +kernel))
set_option maxRecDepth 20000 in
theorem gL_call_X5_load : GoodIn wsL_call (wsV RL 15 RX5 yX5_load wsX5_load) := goodIn_app (goodIn_of _ (by decide +kernel)) ggL_call_X5_load
set_option maxRecDepth 20000 in
theorem ggL_call_X5_unload : GoodIn wsL_call wsX5_unload := goodIn_r _ [141, 16, 15, 38, 39, 40, 41, 42, 43, 44, 45, 46, 47, 48, 49, 50, 51, 52, 53, 54, 55, 56, 23, 57, 58, 59, 29, 30, 60, 61, 62, 63, 64, 65, 66, 67, 68, 69, 70, 7, 71, 72, 73, 74, 75, 76, 77, 78, 79, 80, 81, 82, 34, 83, 37, 84, 36, 85, 86, 87, 88, 89, 90, 91, 92, 93, 94, 142, 143, 144, 145, 146, 147, 148, 149, 132, 133, 150, 151, 152, 153, 119, 108, 109, 110, 154, 155, 156, 157, 428, 429, 430, 431, 432, 433, 452, 453, 454, 434, 435, 436, 437, 438, 439, 440, 441, 442, 443, 444, 445, 446, 447, 448, 449, 450, 451, 455, 456, 457, 458] (by decide +kernel) (by decide +kernel)
set_option maxRecDepth 20000 in
theorem gL_call_X5_unload : GoodIn wsL_call (wsV RL 19 RX5 yX5_unload wsX5_unload) := goodIn_app (goodIn_of _ (by decide +kernel)) ggL_call_X5_unload
set_option maxRecDepth 20000 in
theorem ggL_call_X5_cross : GoodIn wsL_call wsX5_cross := goodIn_ca (goodIn_r _ [161, 13, 14, 15, 16, 162, 163, 164, 23, 165, 59, 62, 166, 167, 168, 169, 170, 60, 61, 171, 172, 74, 173, 174, 175, 176, 34, 177, 85, 132, 7, 133, 178, 179, 180, 181, 58, 63, 182, 51, 52, 53, 183, 184, 185, 186, 187, 188, 189, 89, 190, 191, 192, 193, 194, 195, 73, 75, 92, 196, 197, 198, 199, 200, 201, 202, 91, 38, 39, 40, 41, 42, 43, 44, 45, 46, 47, 48, 49, 50, 54, 55, 56, 57, 29, 30, 64, 65, 66, 67, 68, 69, 70, 71, 72, 76, 77, 78, 79, 80, 81, 82, 83, 37, 84, 36, 86, 87, 88, 90, 93, 94, 203, 204, 205, 206, 207, 208, 209, 210, 104, 105, 211, 212, 213, 214, 119, 108, 109, 110, 428, 429, 430, 431, 432, 433, 434, 435, 436, 437, 438, 439, 440, 441, 442, 443, 444, 445, 446, 447, 455, 456, 457, 458, 448, 449, 450, 451, 452, 453, 454] (by decide +kernel) (by decide +kernel)) (goodIn_sub (fun _ h => List.mem_cons_of_mem _ (List.mem_append_right _ h)) (by decide +kernel))
set_option maxRecDepth 20000 in
theorem gL_call_X5_cross : GoodIn wsL_call (wsV RL 23 RX5 yX5_cross wsX5_cross) := goodIn_app (goodIn_of _ (by decide +kernel)) ggL_call_X5_cross
set_option maxRecDepth 20000 in
theorem ggL_call_X5_pass : GoodIn wsL_call wsX5_pass := goodIn_ca (goodIn_r _ [218, 11, 12, 16, 15, 219, 17, 18, 7, 19, 38, 39, 40, 41, 42, 43, 44, 45, 46, 47, 48, 49, 50, 51, 52, 53, 54, 55, 56, 23, 57, 58, 59, 29, 30, 60, 61, 62, 63, 64, 65, 66, 67, 68, 69, 70, 71, 72, 73, 74, 75, 76, 77, 78, 79, 80, 81, 82, 34, 83, 37, 84, 36, 85, 86, 87, 88, 89, 90, 91, 92, 93, 94, 220, 212, 213, 214, 119, 108, 109, 110, 428, 429, 430, 431, 432, 433, 434, 435, 436, 437, 438, 439, 440, 441, 442, 443, 444, 445, 446, 447, 452, 453, 454, 448, 449, 450, 451, 455, 456, 457, 458] (by decide +kernel) (by decide +kernel)) (goodIn_sub (fun _ h => List.mem_cons_of_mem _ (List.mem_append_left _ (List.mem_append_right _ h))) (by decide +kernel))
set_option maxRecDepth 20000 in
theorem gL_call_X5_pass : GoodIn wsL_call (wsV RL 26 RX5 yX5_pass wsX5_pass) := goodIn_app (goodIn_of _ (by decide +kernel)) ggL_call_X5_pass
set_option maxRecDepth 20000 in
theorem ggL_call_X5_draw : GoodIn wsL_call wsX5_draw := goodIn_ca (goodIn_ca (goodIn_r _ [224, 11, 12, 13, 14, 15, 16, 225, 226, 17, 18, 7, 19, 227, 228, 229, 23, 230, 62, 231, 38, 39, 40, 41, 42, 43, 44, 45, 46, 47, 48, 49, 50, 51, 52, 53, 54, 55, 56, 57, 58, 59, 29, 30, 60, 61, 63, 64, 65, 66, 67, 68, 69, 70, 71, 72, 73, 74, 75, 76, 77, 78, 79, 80, 81, 82, 34, 83, 37, 84, 36, 85, 86, 87, 88, 89, 90, 91, 92, 93, 94, 232, 233, 234, 235, 236, 237, 238, 239, 132, 133, 104, 105, 211, 212, 213, 214, 119, 108, 109, 110, 428, 429, 430, 431, 432, 433, 434, 435, 436, 437, 438, 439, 440, 441, 442, 443, 444, 445, 446, 447, 455, 456, 457, 458, 452, 453, 454, 448, 449, 450, 451] (by decide +kernel) (by decide +kernel)) (goodIn_sub (fun _ h => List.mem_cons_of_mem _ (List.mem_append_left _ (List.mem_append_right _ h))) (by decide +kernel))) (goodIn_sub (fun _ h => List.mem_cons_of_mem _ (List.mem_append_right _ h)) (by decide +kernel))
set_option maxRecDepth 20000 in
theorem gL_call_X5_draw : GoodIn wsL_call (wsV RL 29 RX5 yX5_draw wsX5_draw) := goodIn_app (goodIn_of _ (by decide +kernel)) ggL_call_X5_draw
set_option maxRecDepth 20000 in
theorem ggL_call_X5_current : GoodIn wsL_call wsX5_current := goodIn_ca (goodIn_ca (goodIn_r _ [243, 9, 10, 11, 12, 16, 15, 244, 17, 18, 7, 19, 38, 39, 40, 41, 42, 43, 44, 45, 46, 47, 48, 49, 50, 51, 52, 53, 54, 55, 56, 23, 57, 58, 59, 29, 30, 60, 61, 62, 63, 64, 65, 66, 67, 68, 69, 70, 71, 72, 73, 74, 75, 76, 77, 78, 79, 80, 81, 82, 34, 83, 37, 84, 36, 85, 86, 87, 88, 89, 90, 91, 92, 93, 94, 245, 132, 133, 246, 104, 105, 428, 429, 430, 431, 432, 433, 434, 435, 436, 437, 438, 439, 440, 441, 442, 443, 444, 445, 446, 447, 452, 453, 454, 448, 449, 450, 451, 455, 456, 457, 458] (by decide +kernel) (by decide +kernel)) (goodIn_sub (fun _ h => List.mem_cons_of_mem _ (List.mem_append_left _ (List.mem_append_left _ (List.mem_append_right _ h)))) (by decide +kernel))) (goodIn_sub (fun _ h => List.mem_cons_of_mem _ (List.mem_append_left _ (List.mem_append_right _ h))) (by decide +kernel))
set_option maxRecDepth 20000 in
theorem gL_call_X5_current : GoodIn wsL_call (wsV RL 32 RX5 yX5_current wsX5_current) := goodIn_app (goodIn_of _ (by decide +kernel)) ggL_call_X5_current
set_option maxRecDepth 20000 in
theorem ggL_call_X5_set : GoodIn wsL_call wsX5_set := goodIn_ca (goodIn_ca (goodIn_r _ [250, 9, 10, 11, 12, 251, 252, 16, 15, 253, 17, 18, 7, 19, 245, 132, 133, 38, 39, 40, 41, 42, 43, 44, 45, 46, 47, 48, 49, 50, 51, 52, 53, 54, 55, 56, 23, 57, 58, 59, 29, 30, 60, 61, 62, 63, 64, 65, 66, 67, 68, 69, 70, 71, 72, 73, 74, 75, 76, 77, 78, 79, 80, 81, 82, 34, 83, 37, 84, 36, 85, 86, 87, 88, 89, 90, 91, 92, 93, 94, 246, 104, 105, 428, 429, 430, 431, 432, 433, 434, 435, 436, 437, 438, 439, 440, 441, 442, 443, 444, 445, 446, 447, 452, 453, 454, 448, 449, 450, 451, 455, 456, 457, 458] (by decide +kernel) (by decide +kernel)) (goodIn_sub (fun _ h => List.mem_cons_of_mem _ (List.mem_append_left _ (List.mem_append_left _ (List.mem_append_right _ h)))) (by decide +kernel))) (goodIn_sub (fun _ h => List.mem_cons_of_mem _ (List.mem_append_left _ (List.mem_append_right _ h))) (by decide +kernel))
set_option maxRecDepth 20000 in
theorem gL_call_X5_set : GoodIn wsL_call (wsV RL 35 RX5 yX5_set wsX5_set) := goodIn_app (goodIn_of _ (by decide +kernel)) ggL_call_X5_set
set_option maxRecDepth 20000 in
theorem ggL_call_X5_append : GoodIn wsL_call wsX5_append := goodIn_ca (goodIn_ca (goodIn_r _ [257, 11, 12, 13, 14, 258, 17, 18, 7, 19, 259, 260, 261, 262, 263, 264, 265, 266, 267, 268, 269, 270, 271, 104, 105, 272, 273, 274, 275, 276, 277, 278, 279, 280, 281, 282, 283, 428, 429, 430, 431, 432, 433, 459, 460, 461, 462] (by decide +kernel) (by decide +kernel)) (goodIn_sub (fun _ h => List.mem_cons_of_mem _ (List.mem_append_left _ (List.mem_append_right _ h))) (by decide +kernel))) (goodIn_sub (fun _ h => List.mem_cons_of_mem _ (List.mem_append_right _ h)) (by decide +kernel))
set_option maxRecDepth 20000 in
theorem gL_call_X5_append : GoodIn wsL_call (wsV RL 38 RX5 yX5_append wsX5_append) := goodIn_app (goodIn_of _ (by decide +kernel)) ggL_call_X5_append
set_option maxRecDepth 20000 in
theorem ggL_call_X5_obey_p0 : GoodIn wsL_call wsX5_obey_r1 := goodIn_r _ [11, 12, 258, 16, 15, 288, 289, 290, 262, 291, 270, 38, 39, 40, 41, 42, 43, 44, 45, 46, 47, 48, 49, 50] (by decide +kernel) (by decide +kernel)
set_option maxRecDepth 20000 in
theorem ggL_call_X5_obey_p1 : GoodIn wsL_call wsX5_obey_r2 := goodIn_r _ [51, 52, 53, 54, 55, 56, 23, 57, 58, 59, 29, 30, 60, 61, 62, 63, 64, 65, 66, 67, 68, 69, 70, 7] (by decide +kernel) (by decide +kernel)
