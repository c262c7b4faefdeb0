theorem dL_part_0 : decode cL_part 0 = .ok (.iload_n 0, 1) := by decide +kernel
theorem dL_part_1 : decode cL_part 1 = .ok (.ldc 7, 2) := by decide +kernel
theorem dL_part_3 : decode cL_part 3 = .ok (.iand, 1) := by decide +kernel
theorem dL_part_4 : decode cL_part 4 = .ok (.iload_n 1, 1) := by decide +kernel
theorem dL_part_5 : decode cL_part 5 = .ok (.irem, 1) := by decide +kernel
theorem dL_part_6 : decode cL_part 6 = .ok (.ireturn, 1) := by decide +kernel
theorem dL_drawn_0 : decode cL_drawn 0 = .ok (.aload_n 0, 1) := by decide +kernel
theorem dL_drawn_1 : decode cL_drawn 1 = .ok (.arraylength, 1) := by decide +kernel
theorem dL_drawn_2 : decode cL_drawn 2 = .ok (.ifCond .ne 13, 3) := by decide +kernel
theorem dL_drawn_5 : decode cL_drawn 5 = .ok (.sipush 7919, 3) := by decide +kernel
theorem dL_drawn_8 : decode cL_drawn 8 = .ok (.iload_n 1, 1) := by decide +kernel
theorem dL_drawn_9 : decode cL_drawn 9 = .ok (.imul, 1) := by decide +kernel
theorem dL_drawn_10 : decode cL_drawn 10 = .ok (.iconst 3, 1) := by decide +kernel
theorem dL_drawn_11 : decode cL_drawn 11 = .ok (.iadd, 1) := by decide +kernel
theorem dL_drawn_12 : decode cL_drawn 12 = .ok (.goto 27, 3) := by decide +kernel
theorem dL_drawn_15 : decode cL_drawn 15 = .ok (.aload_n 0, 1) := by decide +kernel
theorem dL_drawn_16 : decode cL_drawn 16 = .ok (.iload_n 1, 1) := by decide +kernel
theorem dL_drawn_17 : decode cL_drawn 17 = .ok (.aload_n 0, 1) := by decide +kernel
theorem dL_drawn_18 : decode cL_drawn 18 = .ok (.arraylength, 1) := by decide +kernel
theorem dL_drawn_19 : decode cL_drawn 19 = .ok (.irem, 1) := by decide +kernel
theorem dL_drawn_20 : decode cL_drawn 20 = .ok (.iaload, 1) := by decide +kernel
theorem dL_drawn_21 : decode cL_drawn 21 = .ok (.iload_n 1, 1) := by decide +kernel
theorem dL_drawn_22 : decode cL_drawn 22 = .ok (.bipush 7, 2) := by decide +kernel
theorem dL_drawn_24 : decode cL_drawn 24 = .ok (.irem, 1) := by decide +kernel
theorem dL_drawn_25 : decode cL_drawn 25 = .ok (.ishr, 1) := by decide +kernel
theorem dL_drawn_26 : decode cL_drawn 26 = .ok (.iload_n 1, 1) := by decide +kernel
theorem dL_drawn_27 : decode cL_drawn 27 = .ok (.aload_n 0, 1) := by decide +kernel
theorem dL_drawn_28 : decode cL_drawn 28 = .ok (.arraylength, 1) := by decide +kernel
theorem dL_drawn_29 : decode cL_drawn 29 = .ok (.idiv, 1) := by decide +kernel
theorem dL_drawn_30 : decode cL_drawn 30 = .ok (.bipush 31, 2) := by decide +kernel
theorem dL_drawn_32 : decode cL_drawn 32 = .ok (.imul, 1) := by decide +kernel
theorem dL_drawn_33 : decode cL_drawn 33 = .ok (.ixor, 1) := by decide +kernel
theorem dL_drawn_34 : decode cL_drawn 34 = .ok (.iload_n 1, 1) := by decide +kernel
theorem dL_drawn_35 : decode cL_drawn 35 = .ok (.ldc 8, 2) := by decide +kernel
theorem dL_drawn_37 : decode cL_drawn 37 = .ok (.imul, 1) := by decide +kernel
theorem dL_drawn_38 : decode cL_drawn 38 = .ok (.ixor, 1) := by decide +kernel
theorem dL_drawn_39 : decode cL_drawn 39 = .ok (.ireturn, 1) := by decide +kernel
set_option maxRecDepth 20000 in
theorem ggL_call_X5_arrive : GoodIn wsL_call wsX5_arrive := goodIn_ca (goodIn_ca (goodIn_ca (goodIn_r _ [8, 9, 10, 11, 12, 13, 14, 15, 16, 17, 18, 7, 19, 20, 21, 22, 23, 24, 25, 26, 27, 28, 29, 30, 31, 32, 33, 34, 35, 36, 37, 38, 39, 40, 41, 42, 43, 44, 45, 46, 47, 48, 49, 50, 51, 52, 53, 54, 55, 56, 57, 58, 59, 60, 61, 62, 63, 64, 65, 66, 67, 68, 69, 70, 71, 72, 73, 74, 75, 76, 77, 78, 79, 80, 81, 82, 83, 84, 85, 86, 87, 88, 89, 90, 91, 92, 93, 94, 95, 96, 97, 98, 99, 100, 101, 102, 103, 104, 105, 106, 107, 108, 109, 110, 428, 429, 430, 431, 432, 433, 434, 435, 436, 437, 438, 439, 440, 441, 442, 443, 444, 445, 446, 447, 448, 449, 450, 451, 452, 453, 454, 455, 456, 457, 458] (by decide +kernel) (by decide +kernel)) (goodIn_sub (fun _ h => List.mem_cons_of_mem _ (List.mem_append_left _ (List.mem_append_left _ (List.mem_append_right _ h)))) (by decide +kernel))) (goodIn_sub (fun _ h => List.mem_cons_of_mem _ (List.mem_append_left _ (List.mem_append_right _ h))) (by decide +kernel))) (goodIn_sub (fun _ h => List.mem_cons_of_mem _ (List.mem_append_right _ h)) (by decide +kernel))
set_option maxRecDepth 20000 in
theorem gL_call_X5_arrive : GoodIn wsL_call (wsV RL 9 RX5 yX5_arrive wsX5_arrive) := goodIn_app (goodIn_of _ (by decide +kernel)) ggL_call_X5_arrive
set_option maxRecDepth 20000 in
theorem ggL_call_X5_load : GoodIn wsL_call wsX5_load := goodIn_ca (goodIn_ca (goodIn_r _ [114, 9, 10, 13, 14, 15, 16, 17, 18, 7, 19, 115, 116, 117, 23, 118, 64, 25, 26, 27, 28, 29, 30, 119, 108, 109, 34, 110, 36, 120, 121, 122, 123, 60, 61, 31, 32, 33, 35, 37, 38, 39, 40, 41, 42, 43, 44, 45, 46, 47, 48, 49, 50, 51, 52, 53, 54, 55, 56, 57, 58, 59, 62, 63, 65, 66, 67, 68, 69, 70, 71, 72, 73, 74, 75, 76, 77, 78, 79, 80, 81, 82, 83, 84, 85, 86, 87, 88, 89, 90, 91, 92, 93, 94, 124, 125, 126, 127, 128, 129, 130, 131, 132, 133, 134, 135, 136, 137, 104, 105, 99, 100, 101, 102, 103, 428, 429, 430, 431, 432, 433, 434, 435, 436, 437, 438, 439, 440, 441, 442, 443, 444, 445, 446, 447, 448, 449, 450, 451, 452, 453, 454, 455, 456, 457, 458] (by decide +kernel) (by decide +kernel)) (goodIn_sub (fun _ h => List.mem_cons_of_mem _ (List.mem_append_left _ (List.mem_append_left _ (List.mem_append_right _ h)))) (by decide +kernel))) (goodIn_sub (fun _ h => List.mem_cons_of_mem _ (List.mem_append_right _ h)) (by decide +kernel))
set_option maxRecDepth 20000 in
theorem gL_call_X5_load : GoodIn wsL_call (wsV RL 15 RX5 yX5_load wsX5_load) := goodIn_app (goodIn_of _ (by decide +kernel)) ggL_call_X5_load
set_option maxRecDepth 20000 in
theorem ggL_call_X5_unload : GoodIn wsL_call wsX5_unload := goodIn_r _ [141, 16, 15, 38, 39, 40, 41, 42, 43, 44, 45, 46, 47, 48, 49, 50, 51, 52, 53, 54, 55, 56, 23, 57, 58, 59, 29, 30, 60, 61, 62, 63, 64, 65, 66, 67, 68, 69, 70, 7, 71, 72, 73, 74, 75, 76, 77, 78, 79, 80, 81, 82, 34, 83, 37, 84, 36, 85, 86, 87, 88, 89, 90, 91, 92, 93, 94, 142, 143, 144, 145, 146, 147, 148, 149, 132, 133, 150, 151, 152, 153, 119, 108, 109, 110, 154, 155, 156, 157, 428, 429, 430, 431, 432, 433, 452, 453, 454, 434, 435, 436, 437, 438, 439, 440, 441, 442, 443, 444, 445, 446, 447, 448, 449, 450, 451, 455, 456, 457, 458] (by decide +kernel) (by decide +kernel)
set_option maxRecDepth 20000 in
theorem gL_call_X5_unload : GoodIn wsL_call (wsV RL 19 RX5 yX5_unload wsX5_unload) := goodIn_app (goodIn_of _ (by decide +kernel)) ggL_call_X5_unload
set_option maxRecDepth 20000 in
theorem ggL_call_X5_cross : GoodIn wsL_call wsX5_cross := goodIn_ca (goodIn_r _ [161, 13, 14, 15, 16, 162, 163, 164, 23, 165, 59, 62, 166, 167, 168, 169, 170, 60, 61, 171, 172, 74, 173, 174, 175, 176, 34, 177, 85, 132, 7, 133, 178, 179, 180, 181, 58, 63, 182, 51, 52, 53, 183, 184, 185, 186, 187, 188, 189, 89, 190, 191, 192, 193, 194, 195, 73, 75, 92, 196, 197, 198, 199, 200, 201, 202, 91, 38, 39, 40, 41, 42, 43, 44, 45, 46, 47, 48, 49, 50, 54, 55, 56, 57, 29, 30, 64, 65, 66, 67, 68, 69, 70, 71, 72, 76, 77, 78, 79, 80, 81, 82, 83, 37, 84, 36, 86, 87, 88, 90, 93, 94, 203, 204, 205, 206, 207, 208, 209, 210, 104, 105, 211, 212, 213, 214, 119, 108, 109, 110, 428, 429, 430, 431, 432, 433, 434, 435, 436, 437, 438, 439, 440, 441, 442, 443, 444, 445, 446, 447, 455, 456, 457, 458, 448, 449, 450, 451, 452, 453, 454] (by decide +kernel) (by decide +kernel)) (goodIn_sub (fun _ h => List.mem_cons_of_mem _ (List.mem_append_right _ h)) (by decide +kernel))
set_option maxRecDepth 20000 in
theorem gL_call_X5_cross : GoodIn wsL_call (wsV RL 23 RX5 yX5_cross wsX5_cross) := goodIn_app (goodIn_of _ (by decide +kernel)) ggL_call_X5_cross
set_option maxRecDepth 20000 in
theorem ggL_call_X5_pass : GoodIn wsL_call wsX5_pass := goodIn_ca (goodIn_r _ [218, 11, 12, 16, 15, 219, 17, 18, 7, 19, 38, 39, 40, 41, 42, 43, 44, 45, 46, 47, 48, 49, 50, 51, 52, 53, 54, 55, 56, 23, 57, 58, 59, 29, 30, 60, 61, 62, 63, 64, 65, 66, 67, 68, 69, 70, 71, 72, 73, 74, 75, 76, 77, 78, 79, 80, 81, 82, 34, 83, 37, 84, 36, 85, 86, 87, 88, 89, 90, 91, 92, 93, 94, 220, 212, 213, 214, 119, 108, 109, 110, 428, 429, 430, 431, 432, 433, 434, 435, 436, 437, 438, 439, 440, 441, 442, 443, 444, 445, 446, 447, 452, 453, 454, 448, 449, 450, 451, 455, 456, 457, 458] (by decide +kernel) (by decide +kernel)) (goodIn_sub (fun _ h => List.mem_cons_of_mem _ (List.mem_append_left _ (List.mem_append_right _ h))) (by decide +kernel))
set_option maxRecDepth 20000 in
theorem gL_call_X5_pass : GoodIn wsL_call (wsV RL 26 RX5 yX5_pass wsX5_pass) := goodIn_app (goodIn_of _ (by decide +kernel)) ggL_call_X5_pass
set_option maxRecDepth 20000 in
theorem ggL_call_X5_draw : GoodIn wsL_call wsX5_draw := goodIn_ca (goodIn_ca (goodIn_r _ [224, 11, 12, 13, 14, 15, 16, 225, 226, 17, 18, 7, 19, 227, 228, 229, 23, 230, 62, 231, 38, 39, 40, 41, 42, 43, 44, 45, 46, 47, 48, 49, 50, 51, 52, 53, 54, 55, 56, 57, 58, 59, 29, 30, 60, 61, 63, 64, 65, 66, 67, 68, 69, 70, 71, 72, 73, 74, 75, 76, 77, 78, 79, 80, 81, 82, 34, 83, 37, 84, 36, 85, 86, 87, 88, 89, 90, 91, 92, 93, 94, 232, 233, 234, 235, 236, 237, 238, 239, 132, 133, 104, 105, 211, 212, 213, 214, 119, 108, 109, 110, 428, 429, 430, 431, 432, 433, 434, 435, 436, 437, 438, 439, 440, 441, 442, 443, 444, 445, 446, 447, 455, 456, 457, 458, 452, 453, 454, 448, 449, 450, 451] (by decide +kernel) (by decide +kernel)) (goodIn_sub (fun _ h => List.mem_cons_of_mem _ (List.mem_append_left _ (List.mem_append_right _ h))) (by decide +kernel))) (goodIn_sub (fun _ h => List.mem_cons_of_mem _ (List.mem_append_right _ h)) (by decide +kernel))
set_option maxRecDepth 20000 in
theorem gL_call_X5_draw : GoodIn wsL_call (wsV RL 29 RX5 yX5_draw wsX5_draw) := goodIn_app (goodIn_of _ (by decide +kernel)) ggL_call_X5_draw
set_option maxRecDepth 20000 in
theorem ggL_call_X5_current : GoodIn wsL_call wsX5_current := goodIn_ca (goodIn_ca (goodIn_r _ [243, 9, 10, 11, 12, 16, 15, 244, 17, 18, 7, 19, 38, 39, 40, 41, 42, 43, 44, 45, 46, 47, 48, 49, 50, 51, 52, 53, 54, 55, 56, 23, 57, 58, 59, 29, 30, 60, 61, 62, 63, 64, 65, 66, 67, 68, 69, 70, 71, 72, 73, 74, 75, 76, 77, 78, 79, 80, 81, 82, 34, 83, 37, 84, 36, 85, 86, 87, 88, 89, 90, 91, 92, 93, 94, 245, 132, 133, 246, 104, 105, 428, 429, 430, 431, 432, 433, 434, 435, 436, 437, 438, 439, 440, 441, 442, 443, 444, 445, 446, 447, 452, 453, 454, 448, 449, 450, 451, 455, 456, 457, 458] (by decide +kernel) (by decide +kernel)) (goodIn_sub (fun _ h => List.mem_cons_of_mem _ (List.mem_append_left _ (List.mem_append_left _ (List.mem_append_right _ h)))) (by decide +kernel))) (goodIn_sub (fun _ h => List.mem_cons_of_mem _ (List.mem_append_left _ (List.mem_append_right _ h))) (by decide +kernel))
set_option maxRecDepth 20000 in
theorem gL_call_X5_current : GoodIn wsL_call (wsV RL 32 RX5 yX5_current wsX5_current) := goodIn_app (goodIn_of _ (by decide +kernel)) ggL_call_X5_current
set_option maxRecDepth 20000 in
theorem ggL_call_X5_set : GoodIn wsL_call wsX5_set := goodIn_ca (goodIn_ca (goodIn_r _ [250, 9, 10, 11, 12, 251, 252, 16, 15, 253, 17, 18, 7, 19, 245, 132, 133, 38, 39, 40, 41, 42, 43, 44, 45, 46, 47, 48, 49, 50, 51, 52, 53, 54, 55, 56, 23, 57, 58, 59, 29, 30, 60, 61, 62, 63, 64, 65, 66, 67, 68, 69, 70, 71, 72, 73, 74, 75, 76, 77, 78, 79, 80, 81, 82, 34, 83, 37, 84, 36, 85, 86, 87, 88, 89, 90, 91, 92, 93, 94, 246, 104, 105, 428, 429, 430, 431, 432, 433, 434, 435, 436, 437, 438, 439, 440, 441, 442, 443, 444, 445, 446, 447, 452, 453, 454, 448, 449, 450, 451, 455, 456, 457, 458] (by decide +kernel) (by decide +kernel)) (goodIn_sub (fun _ h => List.mem_cons_of_mem _ (List.mem_append_left _ (List.mem_append_left _ (List.mem_append_right _ h)))) (by decide +kernel))) (goodIn_sub (fun _ h => List.mem_cons_of_mem _ (List.mem_append_left _ (List.mem_append_right _ h))) (by decide +kernel))
set_option maxRecDepth 20000 in
theorem gL_call_X5_set : GoodIn wsL_call (wsV RL 35 RX5 yX5_set wsX5_set) := goodIn_app (goodIn_of _ (by decide +kernel)) ggL_call_X5_set
set_option maxRecDepth 20000 in
theorem ggL_call_X5_append : GoodIn wsL_call wsX5_append := goodIn_ca (goodIn_ca (goodIn_r _ [257, 11, 12, 13, 14, 258, 17, 18, 7, 19, 259, 260, 261, 262, 263, 264, 265, 266, 267, 268, 269, 270, 271, 104, 105, 272, 273, 274, 275, 276, 277, 278, 279, 280, 281, 282, 283, 428, 429, 430, 431, 432, 433, 459, 460, 461, 462] (by decide +kernel) (by decide +kernel)) (goodIn_sub (fun _ h => List.mem_cons_of_mem _ (List.mem_append_left _ (List.mem_append_right _ h))) (by decide +kernel))) (goodIn_sub (fun _ h => List.mem_cons_of_mem _ (List.mem_append_right _ h)) (by decide +kernel))
set_option maxRecDepth 20000 in
theorem gL_call_X5_append : GoodIn wsL_call (wsV RL 38 RX5 yX5_append wsX5_append) := goodIn_app (goodIn_of _ (by decide +kernel)) ggL_call_X5_append
set_option maxRecDepth 20000 in
theorem ggL_call_X5_obey : GoodIn wsL_call wsX5_obey := goodIn_ca (goodIn_r _ [287, 11, 12, 258, 16, 15, 288, 289, 290, 262, 291, 270, 38, 39, 40, 41, 42, 43, 44, 45, 46, 47, 48, 49, 50, 51, 52, 53, 54, 55, 56, 23, 57, 58, 59, 29, 30, 60, 61, 62, 63, 64, 65, 66, 67, 68, 69, 70, 7, 71, 72, 73, 74, 75, 76, 77, 78, 79, 80, 81, 82, 34, 83, 37, 84, 36, 85, 86, 87, 88, 89, 90, 91, 92, 93, 94, 292, 293, 294, 295, 259, 260, 261, 263, 264, 296, 297, 298, 299, 300, 301, 302, 303, 269, 132, 133, 304, 305, 306, 307, 308, 309, 310, 311, 18, 19, 312, 20, 21, 22, 24, 25, 26, 27, 28, 31, 32, 33, 35, 95, 96, 97, 98, 99, 100, 101, 102, 103, 104, 105, 115, 116, 117, 118, 119, 108, 109, 110, 120, 121, 122, 123, 124, 125, 126, 127, 128, 129, 130, 131, 134, 135, 136, 137, 162, 163, 164, 165, 166, 167, 168, 169, 170, 171, 172, 173, 174, 175, 176, 177, 178, 179, 180, 181, 182, 183, 184, 185, 186, 187, 188, 189, 190, 191, 192, 193, 194, 195, 196, 197, 198, 199, 200, 201, 202, 203, 204, 205, 206, 207, 208, 209, 210, 211, 212, 213, 214, 227, 228, 229, 230, 231, 232, 233, 234, 235, 236, 237, 238, 239, 220, 142, 143, 144, 145, 146, 147, 148, 149, 150, 151, 152, 153, 154, 155, 156, 157, 313, 314, 315, 316, 271, 428, 429, 430, 431, 432, 433, 459, 460, 461, 462, 452, 453, 454, 434, 435, 436, 437, 438, 439, 440, 441, 442, 443, 444, 445, 446, 447, 448, 449, 450, 451, 455, 456, 457, 458] (by decide +kernel) (by decide +kernel)) (goodIn_sub (fun _ h => List.mem_cons_of_mem _ (List.mem_append_left _ (List.mem_append_right _ h))) (by decide +kernel))
set_option maxRecDepth 20000 in
theorem gL_call_X5_obey : GoodIn wsL_call (wsV RL 41 RX5 yX5_obey wsX5_obey) := goodIn_app (goodIn_of _ (by decide +kernel)) ggL_call_X5_obey
set_option maxRecDepth 20000 in
theorem ggL_call_X5_goBack : GoodIn wsL_call wsX5_goBack := goodIn_ca (goodIn_r _ [320, 13, 14, 321, 16, 15, 322, 219, 38, 39, 40, 41, 42, 43, 44, 45, 46, 47, 48, 49, 50, 51, 52, 53, 54, 55, 56, 23, 57, 58, 59, 29, 30, 60, 61, 62, 63, 64, 65, 66, 67, 68, 69, 70, 7, 71, 72, 73, 74, 75, 76, 77, 78, 79, 80, 81, 82, 34, 83, 37, 84, 36, 85, 86, 87, 88, 89, 90, 91, 92, 93, 94, 323, 428, 429, 430, 431, 432, 433, 434, 435, 436, 437, 438, 439, 440, 441, 442, 443, 444, 445, 446, 447, 452, 453, 454, 448, 449, 450, 451, 455, 456, 457, 458] (by decide +kernel) (by decide +kernel)) (goodIn_sub (fun _ h => List.mem_cons_of_mem _ (List.mem_append_right _ h)) (by decide +kernel))
set_option maxRecDepth 20000 in
theorem gL_call_X5_goBack : GoodIn wsL_call (wsV RL 44 RX5 yX5_goBack wsX5_goBack) := goodIn_app (goodIn_of _ (by decide +kernel)) ggL_call_X5_goBack
set_option maxRecDepth 20000 in
theorem ggL_call_X5_undo : GoodIn wsL_call wsX5_undo := goodIn_ca (goodIn_r _ [327, 13, 14, 16, 15, 328, 329, 330, 41, 331, 43, 332, 333, 334, 335, 45, 46, 47, 48, 44, 49, 50, 51, 52, 53, 54, 55, 56, 23, 57, 58, 59, 29, 30, 60, 61, 62, 63, 64, 65, 66, 67, 68, 69, 70, 7, 71, 72, 73, 74, 75, 76, 77, 78, 79, 80, 81, 82, 34, 83, 37, 84, 36, 85, 86, 87, 88, 89, 90, 91, 92, 93, 94, 428, 429, 430, 431, 432, 433, 452, 453, 454, 434, 435, 436, 437, 438, 439, 440, 441, 442, 443, 444, 445, 446, 447, 448, 449, 450, 451, 455, 456, 457, 458] (by decide +kernel) (by decide +kernel)) (goodIn_sub (fun _ h => List.mem_cons_of_mem _ (List.mem_append_right _ h)) (by decide +kernel))
set_option maxRecDepth 20000 in
theorem gL_call_X5_undo : GoodIn wsL_call (wsV RL 47 RX5 yX5_undo wsX5_undo) := goodIn_app (goodIn_of _ (by decide +kernel)) ggL_call_X5_undo
set_option maxRecDepth 20000 in
theorem ggL_call_X5_section : GoodIn wsL_call wsX5_section := goodIn_ca (goodIn_ca (goodIn_r _ [339, 9, 10, 11, 12, 15, 225, 17, 18, 7, 19, 340, 341, 342, 89, 343, 91, 132, 133, 344, 345, 346, 23, 347, 62, 59, 348, 200, 201, 202, 196, 197, 74, 198, 349, 350, 351, 352, 178, 179, 180, 181, 58, 63, 182, 51, 52, 53, 183, 184, 185, 186, 60, 61, 174, 175, 176, 34, 177, 85, 167, 168, 169, 170, 171, 172, 173, 353, 192, 193, 194, 195, 73, 75, 92, 428, 429, 430, 431, 432, 433, 434, 435, 436, 437, 438, 439, 440, 441, 442, 443, 444, 445, 446, 447, 455, 456, 457, 458, 448, 449, 450, 451] (by decide +kernel) (by decide +kernel)) (goodIn_sub (fun _ h => List.mem_cons_of_mem _ (List.mem_append_left _ (List.mem_append_left _ (List.mem_append_right _ h)))) (by decide +kernel))) (goodIn_sub (fun _ h => List.mem_cons_of_mem _ (List.mem_append_left _ (List.mem_append_right _ h))) (by decide +kernel))
set_option maxRecDepth 20000 in
theorem gL_call_X5_section : GoodIn wsL_call (wsV RL 50 RX5 yX5_section wsX5_section) := goodIn_app (goodIn_of _ (by decide +kernel)) ggL_call_X5_section
set_option maxRecDepth 20000 in
theorem ggL_call_X5_waiting : GoodIn wsL_call wsX5_waiting := goodIn_ca (goodIn_ca (goodIn_r _ [357, 9, 10, 11, 12, 15, 17, 18, 7, 19, 106, 26, 27, 23, 28, 29, 30, 358, 129, 130, 34, 131, 36, 37, 132, 133, 428, 429, 430, 431, 432, 433, 434, 435, 436, 437, 438, 439, 440, 441, 442, 443, 444, 445, 446, 447, 448, 449, 450, 451] (by decide +kernel) (by decide +kernel)) (goodIn_sub (fun _ h => List.mem_cons_of_mem _ (List.mem_append_left _ (List.mem_append_left _ (List.mem_append_right _ h)))) (by decide +kernel))) (goodIn_sub (fun _ h => List.mem_cons_of_mem _ (List.mem_append_left _ (List.mem_append_right _ h))) (by decide +kernel))
set_option maxRecDepth 20000 in
theorem gL_call_X5_waiting : GoodIn wsL_call (wsV RL 53 RX5 yX5_waiting wsX5_waiting) := goodIn_app (goodIn_of _ (by decide +kernel)) ggL_call_X5_waiting
set_option maxRecDepth 20000 in
theorem ggL_call_X5_deck : GoodIn wsL_call wsX5_deck := goodIn_ca (goodIn_ca (goodIn_r _ [362, 9, 10, 11, 12, 15, 17, 18, 7, 19, 363, 121, 122, 23, 123, 60, 61, 358, 129, 130, 34, 131, 36, 37, 132, 133, 364, 365, 366, 367, 84, 428, 429, 430, 431, 432, 433, 434, 435, 436, 437, 438, 439, 440, 441, 442, 443, 444, 445, 446, 447, 448, 449, 450, 451] (by decide +kernel) (by decide +kernel)) (goodIn_sub (fun _ h => List.mem_cons_of_mem _ (List.mem_append_left _ (List.mem_append_left _ (List.mem_append_right _ h)))) (by decide +kernel))) (goodIn_sub (fun _ h => List.mem_cons_of_mem _ (List.mem_append_left _ (List.mem_append_right _ h))) (by decide +kernel))
set_option maxRecDepth 20000 in
theorem gL_call_X5_deck : GoodIn wsL_call (wsV RL 56 RX5 yX5_deck wsX5_deck) := goodIn_app (goodIn_of _ (by decide +kernel)) ggL_call_X5_deck
set_option maxRecDepth 20000 in
theorem ggL_call_X5_count : GoodIn wsL_call wsX5_count := goodIn_ca (goodIn_r _ [371, 11, 12, 15, 219, 372, 225, 373, 374, 226, 375, 376, 377, 378, 379, 16, 380, 151, 152, 23, 153, 60, 61, 119, 108, 109, 34, 110, 36, 381, 184, 185, 186, 174, 175, 176, 177, 85, 382, 168, 169, 170, 171, 172, 74, 173, 328, 329, 330, 41, 331, 43, 428, 429, 430, 431, 432, 433, 434, 435, 436, 437, 438, 439, 440, 441, 442, 443, 444, 445, 446, 447, 455, 456, 457, 458, 448, 449, 450, 451, 452, 453, 454] (by decide +kernel) (by decide +kernel)) (goodIn_sub (fun _ h => List.mem_cons_of_mem _ (List.mem_append_left _ (List.mem_append_right _ h))) (by decide +kernel))
set_option maxRecDepth 20000 in
theorem gL_call_X5_count : GoodIn wsL_call (wsV RL 60 RX5 yX5_count wsX5_count) := goodIn_app (goodIn_of _ (by decide +kernel)) ggL_call_X5_count
set_option maxRecDepth 20000 in
theorem ggL_call_X5_currentOf : GoodIn wsL_call wsX5_currentOf := goodIn_ca (goodIn_r _ [386, 9, 10, 15, 244, 17, 18, 7, 19, 245, 132, 133, 428, 429, 430, 431, 432, 433, 434, 435, 436, 437, 438, 439, 440, 441, 442, 443, 444, 445, 446, 447] (by decide +kernel) (by decide +kernel)) (goodIn_sub (fun _ h => List.mem_cons_of_mem _ (List.mem_append_left _ (List.mem_append_left _ (List.mem_append_right _ h)))) (by decide +kernel))
set_option maxRecDepth 20000 in
theorem gL_call_X5_currentOf : GoodIn wsL_call (wsV RL 63 RX5 yX5_currentOf wsX5_currentOf) := goodIn_app (goodIn_of _ (by decide +kernel)) ggL_call_X5_currentOf
set_option maxRecDepth 20000 in
theorem ggL_call_X5_setting : GoodIn wsL_call wsX5_setting := goodIn_ca (goodIn_r _ [390, 9, 10, 15, 253, 17, 18, 7, 19, 245, 132, 133, 428, 429, 430, 431, 432, 433, 434, 435, 436, 437, 438, 439, 440, 441, 442, 443, 444, 445, 446, 447] (by decide +kernel) (by decide +kernel)) (goodIn_sub (fun _ h => List.mem_cons_of_mem _ (List.mem_append_left _ (List.mem_append_left _ (List.mem_append_right _ h)))) (by decide +kernel))
set_option maxRecDepth 20000 in
theorem gL_call_X5_setting : GoodIn wsL_call (wsV RL 66 RX5 yX5_setting wsX5_setting) := goodIn_app (goodIn_of _ (by decide +kernel)) ggL_call_X5_setting
set_option maxRecDepth 20000 in
theorem ggL_call_X5_ifLoaded : GoodIn wsL_call wsX5_ifLoaded := goodIn_ca (goodIn_r _ [394, 9, 10, 15, 395, 17, 18, 7, 19, 115, 116, 117, 23, 118, 64, 25, 26, 27, 28, 29, 30, 119, 108, 109, 34, 110, 36, 120, 121, 122, 123, 60, 61, 31, 32, 33, 35, 37, 323, 55, 56, 57, 58, 59, 62, 63, 65, 66, 67, 68, 69, 70, 71, 72, 73, 74, 75, 76, 77, 78, 79, 80, 81, 82, 83, 84, 85, 86, 87, 88, 89, 90, 91, 92, 93, 94, 124, 125, 126, 127, 128, 129, 130, 131, 132, 133, 134, 135, 136, 137, 104, 105, 99, 100, 101, 102, 103, 396, 397, 398, 399, 178, 179, 180, 181, 182, 51, 52, 53, 183, 184, 185, 186, 174, 175, 176, 177, 167, 168, 169, 170, 171, 172, 173, 400, 401, 402, 403, 196, 197, 198, 191, 192, 193, 194, 195, 428, 429, 430, 431, 432, 433, 434, 435, 436, 437, 438, 439, 440, 441, 442, 443, 444, 445, 446, 447, 448, 449, 450, 451, 455, 456, 457, 458] (by decide +kernel) (by decide +kernel)) (goodIn_sub (fun _ h => List.mem_cons_of_mem _ (List.mem_append_left _ (List.mem_append_left _ (List.mem_append_right _ h)))) (by decide +kernel))
set_option maxRecDepth 20000 in
theorem gL_call_X5_ifLoaded : GoodIn wsL_call (wsV RL 69 RX5 yX5_ifLoaded wsX5_ifLoaded) := goodIn_app (goodIn_of _ (by decide +kernel)) ggL_call_X5_ifLoaded
set_option maxRecDepth 20000 in
theorem ggL_call_X5_leastList : GoodIn wsL_call wsX5_leastList := goodIn_ca (goodIn_r _ [407, 11, 12, 15, 17, 18, 7, 19, 408, 409, 410, 23, 411, 64, 412, 73, 74, 75, 25, 26, 27, 28, 29, 30, 119, 108, 109, 34, 110, 36, 413, 414, 415, 416, 60, 61, 417, 418, 419, 420, 421, 422, 423, 424, 425, 426, 427, 171, 172, 173, 174, 175, 176, 177, 85, 128, 129, 130, 131, 37, 132, 133, 428, 429, 430, 431, 432, 433, 434, 435, 436, 437, 438, 439, 440, 441, 442, 443, 444, 445, 446, 447, 448, 449, 450, 451] (by decide +kernel) (by decide +kernel)) (goodIn_sub (fun _ h => List.mem_cons_of_mem _ (List.mem_append_left _ (List.mem_append_right _ h))) (by decide +kernel))
set_option maxRecDepth 20000 in
theorem gL_call_X5_leastList : GoodIn wsL_call (wsV RL 72 RX5 yX5_leastList wsX5_leastList) := goodIn_app (goodIn_of _ (by decide +kernel)) ggL_call_X5_leastList
theorem dL_call_0 : decode cL_call 0 = .ok (.iload_n 1, 1) := by decide +kernel
theorem dL_call_1 : decode cL_call 1 = .ok (.ifCond .ne 12, 3) := by decide +kernel
theorem dL_call_4 : decode cL_call 4 = .ok (.aload_n 0, 1) := by decide +kernel
theorem dL_call_5 : decode cL_call 5 = .ok (.iload_n 2, 1) := by decide +kernel
theorem dL_call_6 : decode cL_call 6 = .ok (.iload_n 3, 1) := by decide +kernel
theorem dL_call_7 : decode cL_call 7 = .ok (.invokevirtual 9, 3) := by decide +kernel
theorem dL_call_10 : decode cL_call 10 = .ok (.goto 262, 3) := by decide +kernel
theorem dL_call_13 : decode cL_call 13 = .ok (.iload_n 1, 1) := by decide +kernel
theorem dL_call_14 : decode cL_call 14 = .ok (.iconst 1, 1) := by decide +kernel
theorem dL_call_15 : decode cL_call 15 = .ok (.if_icmp .ne 11, 3) := by decide +kernel
theorem dL_call_18 : decode cL_call 18 = .ok (.aload_n 0, 1) := by decide +kernel
theorem dL_call_19 : decode cL_call 19 = .ok (.iload_n 2, 1) := by decide +kernel
theorem dL_call_20 : decode cL_call 20 = .ok (.invokevirtual 15, 3) := by decide +kernel
theorem dL_call_23 : decode cL_call 23 = .ok (.goto 249, 3) := by decide +kernel
theorem dL_call_26 : decode cL_call 26 = .ok (.iload_n 1, 1) := by decide +kernel
theorem dL_call_27 : decode cL_call 27 = .ok (.iconst 2, 1) := by decide +kernel
theorem dL_call_28 : decode cL_call 28 = .ok (.if_icmp .ne 10, 3) := by decide +kernel
theorem dL_call_31 : decode cL_call 31 = .ok (.aload_n 0, 1) := by decide +kernel
theorem dL_call_32 : decode cL_call 32 = .ok (.invokevirtual 19, 3) := by decide +kernel
theorem dL_call_35 : decode cL_call 35 = .ok (.goto 237, 3) := by decide +kernel
theorem dL_call_38 : decode cL_call 38 = .ok (.iload_n 1, 1) := by decide +kernel
theorem dL_call_39 : decode cL_call 39 = .ok (.iconst 3, 1) := by decide +kernel
theorem dL_call_40 : decode cL_call 40 = .ok (.if_icmp .ne 10, 3) := by decide +kernel
theorem dL_call_43 : decode cL_call 43 = .ok (.aload_n 0, 1) := by decide +kernel
theorem dL_call_44 : decode cL_call 44 = .ok (.invokevirtual 23, 3) := by decide +kernel
theorem dL_call_47 : decode cL_call 47 = .ok (.goto 225, 3) := by decide +kernel
theorem dL_call_50 : decode cL_call 50 = .ok (.iload_n 1, 1) := by decide +kernel
theorem dL_call_51 : decode cL_call 51 = .ok (.iconst 4, 1) := by decide +kernel
theorem dL_call_52 : decode cL_call 52 = .ok (.if_icmp .ne 11, 3) := by decide +kernel
theorem dL_call_55 : decode cL_call 55 = .ok (.aload_n 0, 1) := by decide +kernel
theorem dL_call_56 : decode cL_call 56 = .ok (.iload_n 2, 1) := by decide +kernel
theorem dL_call_57 : decode cL_call 57 = .ok (.invokevirtual 26, 3) := by decide +kernel
theorem dL_call_60 : decode cL_call 60 = .ok (.goto 212, 3) := by decide +kernel
theorem dL_call_63 : decode cL_call 63 = .ok (.iload_n 1, 1) := by decide +kernel
theorem dL_call_64 : decode cL_call 64 = .ok (.iconst 5, 1) := by decide +kernel
theorem dL_call_65 : decode cL_call 65 = .ok (.if_icmp .ne 11, 3) := by decide +kernel
theorem dL_call_68 : decode cL_call 68 = .ok (.aload_n 0, 1) := by decide +kernel
theorem dL_call_69 : decode cL_call 69 = .ok (.iload_n 2, 1) := by decide +kernel
theorem dL_call_70 : decode cL_call 70 = .ok (.invokevirtual 29, 3) := by decide +kernel
theorem dL_call_73 : decode cL_call 73 = .ok (.goto 199, 3) := by decide +kernel
theorem dL_call_76 : decode cL_call 76 = .ok (.iload_n 1, 1) := by decide +kernel
theorem dL_call_77 : decode cL_call 77 = .ok (.bipush 6, 2) := by decide +kernel
theorem dL_call_79 : decode cL_call 79 = .ok (.if_icmp .ne 12, 3) := by decide +kernel
theorem dL_call_82 : decode cL_call 82 = .ok (.aload_n 0, 1) := by decide +kernel
theorem dL_call_83 : decode cL_call 83 = .ok (.iload_n 2, 1) := by decide +kernel
theorem dL_call_84 : decode cL_call 84 = .ok (.iload_n 3, 1) := by decide +kernel
theorem dL_call_85 : decode cL_call 85 = .ok (.invokevirtual 32, 3) := by decide +kernel
theorem dL_call_88 : decode cL_call 88 = .ok (.goto 184, 3) := by decide +kernel
theorem dL_call_91 : decode cL_call 91 = .ok (.iload_n 1, 1) := by decide +kernel
theorem dL_call_92 : decode cL_call 92 = .ok (.bipush 7, 2) := by decide +kernel
theorem dL_call_94 : decode cL_call 94 = .ok (.if_icmp .ne 12, 3) := by decide +kernel
theorem dL_call_97 : decode cL_call 97 = .ok (.aload_n 0, 1) := by decide +kernel
theorem dL_call_98 : decode cL_call 98 = .ok (.iload_n 2, 1) := by decide +kernel
theorem dL_call_99 : decode cL_call 99 = .ok (.iload_n 3, 1) := by decide +kernel
theorem dL_call_100 : decode cL_call 100 = .ok (.invokevirtual 35, 3) := by decide +kernel
theorem dL_call_103 : decode cL_call 103 = .ok (.goto 169, 3) := by decide +kernel
theorem dL_call_106 : decode cL_call 106 = .ok (.iload_n 1, 1) := by decide +kernel
theorem dL_call_107 : decode cL_call 107 = .ok (.bipush 8, 2) := by decide +kernel
theorem dL_call_109 : decode cL_call 109 = .ok (.if_icmp .ne 11, 3) := by decide +kernel
theorem dL_call_112 : decode cL_call 112 = .ok (.aload_n 0, 1) := by decide +kernel
theorem dL_call_113 : decode cL_call 113 = .ok (.iload_n 2, 1) := by decide +kernel
theorem dL_call_114 : decode cL_call 114 = .ok (.invokevirtual 38, 3) := by decide +kernel
theorem dL_call_117 : decode cL_call 117 = .ok (.goto 155, 3) := by decide +kernel
theorem dL_call_120 : decode cL_call 120 = .ok (.iload_n 1, 1) := by decide +kernel
theorem dL_call_121 : decode cL_call 121 = .ok (.bipush 9, 2) := by decide +kernel
theorem dL_call_123 : decode cL_call 123 = .ok (.if_icmp .ne 10, 3) := by decide +kernel
theorem dL_call_126 : decode cL_call 126 = .ok (.aload_n 0, 1) := by decide +kernel
theorem dL_call_127 : decode cL_call 127 = .ok (.invokevirtual 41, 3) := by decide +kernel
theorem dL_call_130 : decode cL_call 130 = .ok (.goto 142, 3) := by decide +kernel
theorem dL_call_133 : decode cL_call 133 = .ok (.iload_n 1, 1) := by decide +kernel
theorem dL_call_134 : decode cL_call 134 = .ok (.bipush 10, 2) := by decide +kernel
theorem dL_call_136 : decode cL_call 136 = .ok (.if_icmp .ne 10, 3) := by decide +kernel
theorem dL_call_139 : decode cL_call 139 = .ok (.aload_n 0, 1) := by decide +kernel
theorem dL_call_140 : decode cL_call 140 = .ok (.invokevirtual 44, 3) := by decide +kernel
theorem dL_call_143 : decode cL_call 143 = .ok (.goto 129, 3) := by decide +kernel
theorem dL_call_146 : decode cL_call 146 = .ok (.iload_n 1, 1) := by decide +kernel
theorem dL_call_147 : decode cL_call 147 = .ok (.bipush 11, 2) := by decide +kernel
theorem dL_call_149 : decode cL_call 149 = .ok (.if_icmp .ne 10, 3) := by decide +kernel
theorem dL_call_152 : decode cL_call 152 = .ok (.aload_n 0, 1) := by decide +kernel
theorem dL_call_153 : decode cL_call 153 = .ok (.invokevirtual 47, 3) := by decide +kernel
theorem dL_call_156 : decode cL_call 156 = .ok (.goto 116, 3) := by decide +kernel
theorem dL_call_159 : decode cL_call 159 = .ok (.iload_n 1, 1) := by decide +kernel
theorem dL_call_160 : decode cL_call 160 = .ok (.bipush 12, 2) := by decide +kernel
theorem dL_call_162 : decode cL_call 162 = .ok (.if_icmp .ne 12, 3) := by decide +kernel
theorem dL_call_165 : decode cL_call 165 = .ok (.aload_n 0, 1) := by decide +kernel
theorem dL_call_166 : decode cL_call 166 = .ok (.iload_n 2, 1) := by decide +kernel
theorem dL_call_167 : decode cL_call 167 = .ok (.iload_n 3, 1) := by decide +kernel
theorem dL_call_168 : decode cL_call 168 = .ok (.invokevirtual 50, 3) := by decide +kernel
theorem dL_call_171 : decode cL_call 171 = .ok (.goto 101, 3) := by decide +kernel
theorem dL_call_174 : decode cL_call 174 = .ok (.iload_n 1, 1) := by decide +kernel
theorem dL_call_175 : decode cL_call 175 = .ok (.bipush 13, 2) := by decide +kernel
theorem dL_call_177 : decode cL_call 177 = .ok (.if_icmp .ne 12, 3) := by decide +kernel
theorem dL_call_180 : decode cL_call 180 = .ok (.aload_n 0, 1) := by decide +kernel
theorem dL_call_181 : decode cL_call 181 = .ok (.iload_n 2, 1) := by decide +kernel
theorem dL_call_182 : decode cL_call 182 = .ok (.iload_n 3, 1) := by decide +kernel
theorem dL_call_183 : decode cL_call 183 = .ok (.invokevirtual 53, 3) := by decide +kernel
theorem dL_call_186 : decode cL_call 186 = .ok (.goto 86, 3) := by decide +kernel
theorem dL_call_189 : decode cL_call 189 = .ok (.iload_n 1, 1) := by decide +kernel
theorem dL_call_190 : decode cL_call 190 = .ok (.bipush 14, 2) := by decide +kernel
theorem dL_call_192 : decode cL_call 192 = .ok (.if_icmp .ne 19, 3) := by decide +kernel
theorem dL_call_195 : decode cL_call 195 = .ok (.aload_n 0, 1) := by decide +kernel
theorem dL_call_196 : decode cL_call 196 = .ok (.iload_n 2, 1) := by decide +kernel
theorem dL_call_197 : decode cL_call 197 = .ok (.iload_n 3, 1) := by decide +kernel
theorem dL_call_198 : decode cL_call 198 = .ok (.bipush 10, 2) := by decide +kernel
theorem dL_call_200 : decode cL_call 200 = .ok (.idiv, 1) := by decide +kernel
theorem dL_call_201 : decode cL_call 201 = .ok (.iload_n 3, 1) := by decide +kernel
theorem dL_call_202 : decode cL_call 202 = .ok (.bipush 10, 2) := by decide +kernel
theorem dL_call_204 : decode cL_call 204 = .ok (.irem, 1) := by decide +kernel
theorem dL_call_205 : decode cL_call 205 = .ok (.invokevirtual 56, 3) := by decide +kernel
theorem dL_call_208 : decode cL_call 208 = .ok (.goto 64, 3) := by decide +kernel
theorem dL_call_211 : decode cL_call 211 = .ok (.iload_n 1, 1) := by decide +kernel
theorem dL_call_212 : decode cL_call 212 = .ok (.bipush 15, 2) := by decide +kernel
theorem dL_call_214 : decode cL_call 214 = .ok (.if_icmp .ne 11, 3) := by decide +kernel
theorem dL_call_217 : decode cL_call 217 = .ok (.aload_n 0, 1) := by decide +kernel
theorem dL_call_218 : decode cL_call 218 = .ok (.iload_n 2, 1) := by decide +kernel
theorem dL_call_219 : decode cL_call 219 = .ok (.invokevirtual 60, 3) := by decide +kernel
theorem dL_call_222 : decode cL_call 222 = .ok (.goto 50, 3) := by decide +kernel
theorem dL_call_225 : decode cL_call 225 = .ok (.iload_n 1, 1) := by decide +kernel
theorem dL_call_226 : decode cL_call 226 = .ok (.bipush 16, 2) := by decide +kernel
theorem dL_call_228 : decode cL_call 228 = .ok (.if_icmp .ne 11, 3) := by decide +kernel
theorem dL_call_231 : decode cL_call 231 = .ok (.aload_n 0, 1) := by decide +kernel
theorem dL_call_232 : decode cL_call 232 = .ok (.iload_n 2, 1) := by decide +kernel
theorem dL_call_233 : decode cL_call 233 = .ok (.invokevirtual 63, 3) := by decide +kernel
theorem dL_call_236 : decode cL_call 236 = .ok (.goto 36, 3) := by decide +kernel
theorem dL_call_239 : decode cL_call 239 = .ok (.iload_n 1, 1) := by decide +kernel
theorem dL_call_240 : decode cL_call 240 = .ok (.bipush 17, 2) := by decide +kernel
theorem dL_call_242 : decode cL_call 242 = .ok (.if_icmp .ne 11, 3) := by decide +kernel
theorem dL_call_245 : decode cL_call 245 = .ok (.aload_n 0, 1) := by decide +kernel
theorem dL_call_246 : decode cL_call 246 = .ok (.iload_n 2, 1) := by decide +kernel
theorem dL_call_247 : decode cL_call 247 = .ok (.invokevirtual 66, 3) := by decide +kernel
theorem dL_call_250 : decode cL_call 250 = .ok (.goto 22, 3) := by decide +kernel
theorem dL_call_253 : decode cL_call 253 = .ok (.iload_n 1, 1) := by decide +kernel
theorem dL_call_254 : decode cL_call 254 = .ok (.bipush 18, 2) := by decide +kernel
theorem dL_call_256 : decode cL_call 256 = .ok (.if_icmp .ne 11, 3) := by decide +kernel
theorem dL_call_259 : decode cL_call 259 = .ok (.aload_n 0, 1) := by decide +kernel
theorem dL_call_260 : decode cL_call 260 = .ok (.iload_n 2, 1) := by decide +kernel
theorem dL_call_261 : decode cL_call 261 = .ok (.invokevirtual 69, 3) := by decide +kernel
theorem dL_call_264 : decode cL_call 264 = .ok (.goto 8, 3) := by decide +kernel
theorem dL_call_267 : decode cL_call 267 = .ok (.aload_n 0, 1) := by decide +kernel
theorem dL_call_268 : decode cL_call 268 = .ok (.iload_n 2, 1) := by decide +kernel
theorem dL_call_269 : decode cL_call 269 = .ok (.invokevirtual 72, 3) := by decide +kernel
theorem dL_call_272 : decode cL_call 272 = .ok (.ireturn, 1) := by decide +kernel
theorem dL_call_273 : decode cL_call 273 = .ok (.astore 4, 2) := by decide +kernel
theorem dL_call_275 : decode cL_call 275 = .ok (.bipush (-11), 2) := by decide +kernel
theorem dL_call_277 : decode cL_call 277 = .ok (.ireturn, 1) := by decide +kernel
theorem dL_call_278 : decode cL_call 278 = .ok (.astore 4, 2) := by decide +kernel
theorem dL_call_280 : decode cL_call 280 = .ok (.bipush (-12), 2) := by decide +kernel
theorem dL_call_282 : decode cL_call 282 = .ok (.ireturn, 1) := by decide +kernel
theorem dL_call_283 : decode cL_call 283 = .ok (.astore 4, 2) := by decide +kernel
theorem dL_call_285 : decode cL_call 285 = .ok (.bipush (-13), 2) := by decide +kernel
theorem dL_call_287 : decode cL_call 287 = .ok (.ireturn, 1) := by decide +kernel
set_option maxRecDepth 20000 in
theorem ggL_seen_X5_count : GoodIn wsL_seen wsX5_count := goodIn_ca (goodIn_r _ [7, 8, 9, 10, 11, 12, 13, 14, 15, 16, 17, 18, 19, 20, 21, 22, 23, 24, 25, 26, 27, 28, 29, 30, 31, 32, 33, 34, 35, 36, 37, 38, 39, 40, 41, 42, 43, 44, 45, 46, 47, 48, 49, 50, 51, 52, 53, 54, 55, 56, 57, 58, 226, 227, 228, 229, 230, 231, 232, 233, 234, 235, 236, 237, 238, 239, 240, 241, 242, 243, 244, 245, 246, 247, 248, 249, 250, 251, 252, 253, 254, 255, 256] (by decide +kernel) (by decide +kernel)) (goodIn_sub (fun _ h => List.mem_cons_of_mem _ (List.mem_append_left _ (List.mem_append_right _ h))) (by decide +kernel))
set_option maxRecDepth 20000 in
theorem gL_seen_X5_count : GoodIn wsL_seen (wsV RL 60 RX5 yX5_count wsX5_count) := goodIn_app (goodIn_of _ (by decide +kernel)) ggL_seen_X5_count
set_option maxRecDepth 20000 in
theorem ggL_seen_X5_section : GoodIn wsL_seen wsX5_section := goodIn_ca (goodIn_ca (goodIn_r _ [62, 63, 64, 8, 9, 10, 13, 65, 66, 6, 67, 68, 69, 70, 71, 72, 73, 74, 75, 76, 77, 78, 26, 79, 80, 81, 82, 83, 84, 85, 86, 87, 51, 88, 89, 90, 91, 92, 93, 94, 95, 96, 97, 98, 99, 100, 101, 102, 103, 37, 38, 39, 28, 29, 40, 41, 42, 33, 43, 44, 104, 46, 47, 48, 49, 50, 52, 105, 106, 107, 108, 109, 110, 111, 112, 226, 227, 228, 229, 230, 231, 232, 233, 234, 235, 236, 237, 238, 239, 240, 241, 242, 243, 244, 245, 246, 247, 248, 249, 250, 251, 252, 253] (by decide +kernel) (by decide +kernel)) (goodIn_sub (fun _ h => List.mem_cons_of_mem _ (List.mem_append_right _ h)) (by decide +kernel))) (goodIn_sub (fun _ h => List.mem_cons_of_mem _ (List.mem_append_left _ (List.mem_append_right _ h))) (by decide +kernel))
set_option maxRecDepth 20000 in
theorem gL_seen_X5_section : GoodIn wsL_seen (wsV RL 50 RX5 yX5_section wsX5_section) := goodIn_app (goodIn_of _ (by decide +kernel)) ggL_seen_X5_section
set_option maxRecDepth 20000 in
theorem ggL_seen_X5_currentOf : GoodIn wsL_seen wsX5_currentOf := goodIn_ca (goodIn_r _ [116, 63, 64, 10, 117, 65, 66, 6, 67, 118, 74, 75, 226, 227, 228, 229, 230, 231, 232, 233, 234, 235, 236, 237, 238, 239, 240, 241, 242, 243, 244, 245] (by decide +kernel) (by decide +kernel)) (goodIn_sub (fun _ h => List.mem_cons_of_mem _ (List.mem_append_right _ h)) (by decide +kernel))
set_option maxRecDepth 20000 in
theorem gL_seen_X5_currentOf : GoodIn wsL_seen (wsV RL 63 RX5 yX5_currentOf wsX5_currentOf) := goodIn_app (goodIn_of _ (by decide +kernel)) ggL_seen_X5_currentOf
set_option maxRecDepth 20000 in
theorem ggL_seen_X5_waiting : GoodIn wsL_seen wsX5_waiting := goodIn_ca (goodIn_ca (goodIn_r _ [122, 63, 64, 8, 9, 10, 65, 66, 6, 67, 123, 124, 125, 26, 126, 127, 128, 129, 130, 131, 33, 132, 35, 133, 74, 75, 226, 227, 228, 229, 230, 231, 232, 233, 234, 235, 236, 237, 238, 239, 240, 241, 242, 243, 244, 245, 250, 251, 252, 253] (by decide +kernel) (by decide +kernel)) (goodIn_sub (fun _ h => List.mem_cons_of_mem _ (List.mem_append_right _ h)) (by decide +kernel))) (goodIn_sub (fun _ h => List.mem_cons_of_mem _ (List.mem_append_left _ (List.mem_append_right _ h))) (by decide +kernel))
set_option maxRecDepth 20000 in
theorem gL_seen_X5_waiting : GoodIn wsL_seen (wsV RL 53 RX5 yX5_waiting wsX5_waiting) := goodIn_app (goodIn_of _ (by decide +kernel)) ggL_seen_X5_waiting
set_option maxRecDepth 20000 in
theorem ggL_seen_X5_deck : GoodIn wsL_seen wsX5_deck := goodIn_ca (goodIn_ca (goodIn_r _ [137, 63, 64, 8, 9, 10, 65, 66, 6, 67, 138, 139, 140, 26, 141, 28, 29, 129, 130, 131, 33, 132, 35, 133, 74, 75, 142, 143, 144, 145, 146, 226, 227, 228, 229, 230, 231, 232, 233, 234, 235, 236, 237, 238, 239, 240, 241, 242, 243, 244, 245, 250, 251, 252, 253] (by decide +kernel) (by decide +kernel)) (goodIn_sub (fun _ h => List.mem_cons_of_mem _ (List.mem_append_right _ h)) (by decide +kernel))) (goodIn_sub (fun _ h => List.mem_cons_of_mem _ (List.mem_append_left _ (List.mem_append_right _ h))) (by decide +kernel))
set_option maxRecDepth 20000 in
theorem gL_seen_X5_deck : GoodIn wsL_seen (wsV RL 56 RX5 yX5_deck wsX5_deck) := goodIn_app (goodIn_of _ (by decide +kernel)) ggL_seen_X5_deck
set_option maxRecDepth 20000 in
theorem ggL_seen_X5_setting : GoodIn wsL_seen wsX5_setting := goodIn_ca (goodIn_r _ [150, 63, 64, 10, 151, 65, 66, 6, 67, 118, 74, 75, 226, 227, 228, 229, 230, 231, 232, 233, 234, 235, 236, 237, 238, 239, 240, 241, 242, 243, 244, 245] (by decide +kernel) (by decide +kernel)) (goodIn_sub (fun _ h => List.mem_cons_of_mem _ (List.mem_append_right _ h)) (by decide +kernel))
set_option maxRecDepth 20000 in
theorem gL_seen_X5_setting : GoodIn wsL_seen (wsV RL 66 RX5 yX5_setting wsX5_setting) := goodIn_app (goodIn_of _ (by decide +kernel)) ggL_seen_X5_setting
set_option maxRecDepth 20000 in
theorem ggL_seen_X5_lasts : GoodIn wsL_seen wsX5_lasts := goodIn_r _ [155, 156, 10, 157, 158, 159, 26, 160, 97, 81, 127, 128, 28, 29, 80, 98, 161, 162, 163, 164, 165, 166, 167, 6, 168, 169, 110, 51, 111, 170, 171, 172, 173, 174, 175, 176, 33, 177, 133, 146, 35, 44, 178, 179, 180, 71, 181, 73, 112, 182, 183, 184, 185, 186, 187, 188, 104, 46, 47, 48, 49, 50, 52, 40, 41, 42, 43, 74, 75, 93, 94, 95, 96, 99, 100, 101, 102, 103, 37, 38, 39, 189, 190, 191, 192, 193, 106, 107, 108, 109, 86, 87, 88, 194, 83, 84, 85, 195, 196, 197, 198, 199, 200, 201, 202, 203, 204, 205, 206, 207, 208, 30, 31, 32, 34, 226, 227, 228, 229, 230, 231, 232, 233, 234, 235, 236, 237, 238, 239, 240, 241, 242, 243, 244, 245, 250, 251, 252, 253, 246, 247, 248, 249] (by decide +kernel) (by decide +kernel)
set_option maxRecDepth 20000 in
theorem gL_seen_X5_lasts : GoodIn wsL_seen (wsV RL 85 RX5 yX5_lasts wsX5_lasts) := goodIn_app (goodIn_of _ (by decide +kernel)) ggL_seen_X5_lasts
set_option maxRecDepth 20000 in
theorem ggL_seen_X5_needed : GoodIn wsL_seen wsX5_needed := goodIn_r _ [212, 10, 156, 184, 185, 186, 26, 187, 81, 80, 188, 104, 46, 47, 48, 28, 29, 49, 50, 51, 52, 40, 41, 42, 33, 43, 44, 74, 6, 75, 93, 94, 95, 96, 97, 98, 99, 100, 101, 102, 103, 37, 38, 39, 189, 190, 191, 71, 192, 193, 106, 107, 108, 109, 110, 111, 112, 86, 87, 88, 194, 83, 84, 85, 73, 213, 214, 215, 216, 217, 157, 158, 159, 160, 127, 128, 161, 162, 163, 164, 165, 166, 167, 168, 169, 170, 171, 172, 173, 174, 175, 176, 177, 133, 146, 35, 178, 179, 180, 181, 182, 183, 218, 219, 220, 221, 222, 223, 224, 225, 203, 204, 205, 206, 207, 208, 30, 31, 32, 34, 226, 227, 228, 229, 230, 231, 232, 233, 234, 235, 236, 237, 238, 239, 240, 241, 242, 243, 244, 245, 246, 247, 248, 249, 250, 251, 252, 253] (by decide +kernel) (by decide +kernel)
set_option maxRecDepth 20000 in
theorem gL_seen_X5_needed : GoodIn wsL_seen (wsV RL 88 RX5 yX5_needed wsX5_needed) := goodIn_app (goodIn_of _ (by decide +kernel)) ggL_seen_X5_needed
theorem dL_seen_0 : decode cL_seen 0 = .ok (.ldc2_w 81, 3) := by decide +kernel
theorem dL_seen_3 : decode cL_seen 3 = .ok (.lstore_n 1, 1) := by decide +kernel
theorem dL_seen_4 : decode cL_seen 4 = .ok (.iconst 0, 1) := by decide +kernel
theorem dL_seen_5 : decode cL_seen 5 = .ok (.istore_n 3, 1) := by decide +kernel
theorem dL_seen_6 : decode cL_seen 6 = .ok (.iload_n 3, 1) := by decide +kernel
theorem dL_seen_7 : decode cL_seen 7 = .ok (.bipush 13, 2) := by decide +kernel
theorem dL_seen_9 : decode cL_seen 9 = .ok (.if_icmp .ge 22, 3) := by decide +kernel
theorem dL_seen_12 : decode cL_seen 12 = .ok (.ldc2_w 83, 3) := by decide +kernel
theorem dL_seen_15 : decode cL_seen 15 = .ok (.lload_n 1, 1) := by decide +kernel
theorem dL_seen_16 : decode cL_seen 16 = .ok (.lmul, 1) := by decide +kernel
theorem dL_seen_17 : decode cL_seen 17 = .ok (.aload_n 0, 1) := by decide +kernel
theorem dL_seen_18 : decode cL_seen 18 = .ok (.iload_n 3, 1) := by decide +kernel
theorem dL_seen_19 : decode cL_seen 19 = .ok (.invokevirtual 60, 3) := by decide +kernel
theorem dL_seen_22 : decode cL_seen 22 = .ok (.i2l, 1) := by decide +kernel
theorem dL_seen_23 : decode cL_seen 23 = .ok (.ladd, 1) := by decide +kernel
theorem dL_seen_24 : decode cL_seen 24 = .ok (.lstore_n 1, 1) := by decide +kernel
theorem dL_seen_25 : decode cL_seen 25 = .ok (.iinc 3 1, 3) := by decide +kernel
theorem dL_seen_28 : decode cL_seen 28 = .ok (.goto (-22), 3) := by decide +kernel
theorem dL_seen_31 : decode cL_seen 31 = .ok (.iconst 0, 1) := by decide +kernel
theorem dL_seen_32 : decode cL_seen 32 = .ok (.istore_n 3, 1) := by decide +kernel
theorem dL_seen_33 : decode cL_seen 33 = .ok (.iload_n 3, 1) := by decide +kernel
theorem dL_seen_34 : decode cL_seen 34 = .ok (.bipush 60, 2) := by decide +kernel
theorem dL_seen_36 : decode cL_seen 36 = .ok (.if_icmp .ge 27, 3) := by decide +kernel
theorem dL_seen_39 : decode cL_seen 39 = .ok (.ldc2_w 83, 3) := by decide +kernel
theorem dL_seen_42 : decode cL_seen 42 = .ok (.lload_n 1, 1) := by decide +kernel
theorem dL_seen_43 : decode cL_seen 43 = .ok (.lmul, 1) := by decide +kernel
theorem dL_seen_44 : decode cL_seen 44 = .ok (.aload_n 0, 1) := by decide +kernel
theorem dL_seen_45 : decode cL_seen 45 = .ok (.iload_n 3, 1) := by decide +kernel
theorem dL_seen_46 : decode cL_seen 46 = .ok (.iconst 3, 1) := by decide +kernel
theorem dL_seen_47 : decode cL_seen 47 = .ok (.idiv, 1) := by decide +kernel
theorem dL_seen_48 : decode cL_seen 48 = .ok (.iload_n 3, 1) := by decide +kernel
theorem dL_seen_49 : decode cL_seen 49 = .ok (.iconst 3, 1) := by decide +kernel
theorem dL_seen_50 : decode cL_seen 50 = .ok (.irem, 1) := by decide +kernel
theorem dL_seen_51 : decode cL_seen 51 = .ok (.invokevirtual 50, 3) := by decide +kernel
theorem dL_seen_54 : decode cL_seen 54 = .ok (.i2l, 1) := by decide +kernel
theorem dL_seen_55 : decode cL_seen 55 = .ok (.ladd, 1) := by decide +kernel
theorem dL_seen_56 : decode cL_seen 56 = .ok (.lstore_n 1, 1) := by decide +kernel
theorem dL_seen_57 : decode cL_seen 57 = .ok (.iinc 3 1, 3) := by decide +kernel
theorem dL_seen_60 : decode cL_seen 60 = .ok (.goto (-27), 3) := by decide +kernel
theorem dL_seen_63 : decode cL_seen 63 = .ok (.iconst 0, 1) := by decide +kernel
theorem dL_seen_64 : decode cL_seen 64 = .ok (.istore_n 3, 1) := by decide +kernel
theorem dL_seen_65 : decode cL_seen 65 = .ok (.iload_n 3, 1) := by decide +kernel
theorem dL_seen_66 : decode cL_seen 66 = .ok (.bipush 24, 2) := by decide +kernel
theorem dL_seen_68 : decode cL_seen 68 = .ok (.if_icmp .ge 22, 3) := by decide +kernel
theorem dL_seen_71 : decode cL_seen 71 = .ok (.ldc2_w 83, 3) := by decide +kernel
theorem dL_seen_74 : decode cL_seen 74 = .ok (.lload_n 1, 1) := by decide +kernel
theorem dL_seen_75 : decode cL_seen 75 = .ok (.lmul, 1) := by decide +kernel
theorem dL_seen_76 : decode cL_seen 76 = .ok (.aload_n 0, 1) := by decide +kernel
theorem dL_seen_77 : decode cL_seen 77 = .ok (.iload_n 3, 1) := by decide +kernel
theorem dL_seen_78 : decode cL_seen 78 = .ok (.invokevirtual 63, 3) := by decide +kernel
theorem dL_seen_81 : decode cL_seen 81 = .ok (.i2l, 1) := by decide +kernel
theorem dL_seen_82 : decode cL_seen 82 = .ok (.ladd, 1) := by decide +kernel
theorem dL_seen_83 : decode cL_seen 83 = .ok (.lstore_n 1, 1) := by decide +kernel
theorem dL_seen_84 : decode cL_seen 84 = .ok (.iinc 3 1, 3) := by decide +kernel
theorem dL_seen_87 : decode cL_seen 87 = .ok (.goto (-22), 3) := by decide +kernel
theorem dL_seen_90 : decode cL_seen 90 = .ok (.iconst 0, 1) := by decide +kernel
theorem dL_seen_91 : decode cL_seen 91 = .ok (.istore_n 3, 1) := by decide +kernel
theorem dL_seen_92 : decode cL_seen 92 = .ok (.iload_n 3, 1) := by decide +kernel
theorem dL_seen_93 : decode cL_seen 93 = .ok (.bipush 20, 2) := by decide +kernel
theorem dL_seen_95 : decode cL_seen 95 = .ok (.if_icmp .ge 52, 3) := by decide +kernel
theorem dL_seen_98 : decode cL_seen 98 = .ok (.ldc2_w 83, 3) := by decide +kernel
theorem dL_seen_101 : decode cL_seen 101 = .ok (.ldc2_w 83, 3) := by decide +kernel
theorem dL_seen_104 : decode cL_seen 104 = .ok (.lload_n 1, 1) := by decide +kernel
theorem dL_seen_105 : decode cL_seen 105 = .ok (.lmul, 1) := by decide +kernel
theorem dL_seen_106 : decode cL_seen 106 = .ok (.aload_n 0, 1) := by decide +kernel
theorem dL_seen_107 : decode cL_seen 107 = .ok (.iload_n 3, 1) := by decide +kernel
theorem dL_seen_108 : decode cL_seen 108 = .ok (.bipush 10, 2) := by decide +kernel
theorem dL_seen_110 : decode cL_seen 110 = .ok (.idiv, 1) := by decide +kernel
theorem dL_seen_111 : decode cL_seen 111 = .ok (.iload_n 3, 1) := by decide +kernel
theorem dL_seen_112 : decode cL_seen 112 = .ok (.bipush 10, 2) := by decide +kernel
theorem dL_seen_114 : decode cL_seen 114 = .ok (.irem, 1) := by decide +kernel
theorem dL_seen_115 : decode cL_seen 115 = .ok (.invokevirtual 53, 3) := by decide +kernel
theorem dL_seen_118 : decode cL_seen 118 = .ok (.i2l, 1) := by decide +kernel
theorem dL_seen_119 : decode cL_seen 119 = .ok (.ladd, 1) := by decide +kernel
theorem dL_seen_120 : decode cL_seen 120 = .ok (.lmul, 1) := by decide +kernel
theorem dL_seen_121 : decode cL_seen 121 = .ok (.aload_n 0, 1) := by decide +kernel
theorem dL_seen_122 : decode cL_seen 122 = .ok (.iload_n 3, 1) := by decide +kernel
theorem dL_seen_123 : decode cL_seen 123 = .ok (.bipush 10, 2) := by decide +kernel
theorem dL_seen_125 : decode cL_seen 125 = .ok (.idiv, 1) := by decide +kernel
theorem dL_seen_126 : decode cL_seen 126 = .ok (.iload_n 3, 1) := by decide +kernel
theorem dL_seen_127 : decode cL_seen 127 = .ok (.bipush 10, 2) := by decide +kernel
theorem dL_seen_129 : decode cL_seen 129 = .ok (.irem, 1) := by decide +kernel
theorem dL_seen_130 : decode cL_seen 130 = .ok (.iconst 2, 1) := by decide +kernel
theorem dL_seen_131 : decode cL_seen 131 = .ok (.idiv, 1) := by decide +kernel
theorem dL_seen_132 : decode cL_seen 132 = .ok (.iload_n 3, 1) := by decide +kernel
theorem dL_seen_133 : decode cL_seen 133 = .ok (.iconst 2, 1) := by decide +kernel
theorem dL_seen_134 : decode cL_seen 134 = .ok (.irem, 1) := by decide +kernel
theorem dL_seen_135 : decode cL_seen 135 = .ok (.invokevirtual 56, 3) := by decide +kernel
theorem dL_seen_138 : decode cL_seen 138 = .ok (.i2l, 1) := by decide +kernel
theorem dL_seen_139 : decode cL_seen 139 = .ok (.ladd, 1) := by decide +kernel
theorem dL_seen_140 : decode cL_seen 140 = .ok (.lstore_n 1, 1) := by decide +kernel
theorem dL_seen_141 : decode cL_seen 141 = .ok (.iinc 3 1, 3) := by decide +kernel
theorem dL_seen_144 : decode cL_seen 144 = .ok (.goto (-52), 3) := by decide +kernel
theorem dL_seen_147 : decode cL_seen 147 = .ok (.iconst 0, 1) := by decide +kernel
theorem dL_seen_148 : decode cL_seen 148 = .ok (.istore_n 3, 1) := by decide +kernel
theorem dL_seen_149 : decode cL_seen 149 = .ok (.iload_n 3, 1) := by decide +kernel
theorem dL_seen_150 : decode cL_seen 150 = .ok (.iconst 3, 1) := by decide +kernel
theorem dL_seen_151 : decode cL_seen 151 = .ok (.if_icmp .ge 22, 3) := by decide +kernel
theorem dL_seen_154 : decode cL_seen 154 = .ok (.ldc2_w 83, 3) := by decide +kernel
theorem dL_seen_157 : decode cL_seen 157 = .ok (.lload_n 1, 1) := by decide +kernel
theorem dL_seen_158 : decode cL_seen 158 = .ok (.lmul, 1) := by decide +kernel
theorem dL_seen_159 : decode cL_seen 159 = .ok (.aload_n 0, 1) := by decide +kernel
theorem dL_seen_160 : decode cL_seen 160 = .ok (.iload_n 3, 1) := by decide +kernel
theorem dL_seen_161 : decode cL_seen 161 = .ok (.invokevirtual 66, 3) := by decide +kernel
theorem dL_seen_164 : decode cL_seen 164 = .ok (.i2l, 1) := by decide +kernel
theorem dL_seen_165 : decode cL_seen 165 = .ok (.ladd, 1) := by decide +kernel
theorem dL_seen_166 : decode cL_seen 166 = .ok (.lstore_n 1, 1) := by decide +kernel
theorem dL_seen_167 : decode cL_seen 167 = .ok (.iinc 3 1, 3) := by decide +kernel
theorem dL_seen_170 : decode cL_seen 170 = .ok (.goto (-21), 3) := by decide +kernel
theorem dL_seen_173 : decode cL_seen 173 = .ok (.ldc2_w 83, 3) := by decide +kernel
theorem dL_seen_176 : decode cL_seen 176 = .ok (.ldc2_w 83, 3) := by decide +kernel
theorem dL_seen_179 : decode cL_seen 179 = .ok (.lload_n 1, 1) := by decide +kernel
theorem dL_seen_180 : decode cL_seen 180 = .ok (.lmul, 1) := by decide +kernel
theorem dL_seen_181 : decode cL_seen 181 = .ok (.aload_n 0, 1) := by decide +kernel
theorem dL_seen_182 : decode cL_seen 182 = .ok (.invokevirtual 85, 3) := by decide +kernel
theorem dL_seen_185 : decode cL_seen 185 = .ok (.i2l, 1) := by decide +kernel
theorem dL_seen_186 : decode cL_seen 186 = .ok (.ladd, 1) := by decide +kernel
theorem dL_seen_187 : decode cL_seen 187 = .ok (.lmul, 1) := by decide +kernel
theorem dL_seen_188 : decode cL_seen 188 = .ok (.aload_n 0, 1) := by decide +kernel
theorem dL_seen_189 : decode cL_seen 189 = .ok (.invokevirtual 88, 3) := by decide +kernel
theorem dL_seen_192 : decode cL_seen 192 = .ok (.i2l, 1) := by decide +kernel
theorem dL_seen_193 : decode cL_seen 193 = .ok (.ladd, 1) := by decide +kernel
theorem dL_seen_194 : decode cL_seen 194 = .ok (.lreturn, 1) := by decide +kernel
set_option maxRecDepth 20000 in
theorem ggL_refusesAny_L_call : GoodIn wsL_refusesAny wsL_call := goodIn_ca (goodIn_ca (goodIn_ca (goodIn_r _ [4, 5, 6, 7, 8, 9, 10, 11, 12, 13, 14, 15, 16, 17, 18, 19, 20, 21, 22, 23, 24, 25, 26, 27, 28, 29, 30, 31, 32, 33, 34, 35, 36, 37, 38, 39, 40, 41, 42, 43, 44, 45, 46, 47, 48, 49, 50, 51, 52, 53, 54, 55, 56, 57, 58, 59, 60, 61, 62, 63, 64, 65, 66, 67, 68, 69, 70, 71, 72, 73, 74, 75, 76, 77, 78, 79, 80, 81, 82, 83, 84, 85, 86, 87, 88, 89, 90, 91, 92, 93, 94, 95, 96, 97, 98, 99, 100, 101, 102, 103, 104, 105, 106, 107, 108, 109, 110, 111, 112, 113, 114, 115, 116, 117, 118, 119, 120, 121, 122, 123, 124, 125, 126, 127, 128, 129, 130, 131, 132, 133, 134, 135, 136, 137, 138, 139, 140, 141, 142, 143, 144, 145, 146, 147, 148, 149, 150, 151, 152, 153, 154, 155, 156, 157, 158, 159, 160, 161, 162, 163, 164, 165, 166, 167, 168, 169, 170, 171, 172, 173, 174, 175, 176, 177, 178, 179, 180, 181, 182, 183, 184, 185, 186, 187, 188, 189, 190, 191, 192, 193, 194, 195, 196, 197, 198, 199, 200, 201, 202, 203, 204, 205, 206, 207, 208, 209, 210, 211, 212, 213, 214, 215, 216, 217, 218, 219, 220, 221, 222, 223, 224, 225, 226, 227, 228, 229, 230, 231, 232, 233, 234, 235, 236, 237, 238, 239, 240, 241, 242, 243, 244, 245, 246, 247, 248, 249, 250, 251, 252, 253, 254, 255, 256, 257, 258, 259, 260, 261, 262, 263, 264, 265, 266, 267, 268, 269, 270, 271, 272, 273, 274, 275, 276, 277, 278, 279, 280, 281, 282, 283, 284, 285, 286, 287, 288, 289, 290, 291, 292, 293, 294, 295, 296, 297, 298, 299, 300, 301, 302, 303, 304, 305, 306, 307, 308, 309, 310, 311, 312, 313, 314, 315, 316, 317, 318, 319, 320, 321, 322, 323, 324, 325, 326, 327, 328, 329, 330, 331, 332, 333, 334, 335, 336, 337, 338, 339, 340, 341, 342, 343, 344, 345, 346, 347, 348, 349, 350, 351, 352, 353, 354, 355, 356, 357, 358, 359, 360, 361, 362, 363, 364, 365, 366, 367, 368, 369, 370, 371, 372, 373, 374, 375, 376, 377, 378, 379, 380, 381, 382, 383, 384, 385, 386, 387, 388, 389, 390, 391, 392, 393, 394, 395, 396, 397, 398, 399, 400, 401, 402, 403, 404, 405, 406, 407, 408, 409, 410, 411, 412, 413, 414, 415, 416, 417, 418, 419, 420, 421, 422, 423, 424, 425, 426, 427, 428, 429, 430, 431, 432, 433, 434, 435, 436, 437, 438, 439, 440, 441, 442, 443, 444, 445, 446, 447, 448, 449, 450, 451, 452, 453, 454, 455, 456, 457, 458, 459, 460, 461, 462, 463, 464, 465, 466] (by decide +kernel) (by decide +kernel)) (goodIn_sub (fun _ h => List.mem_cons_of_mem _ (List.mem_append_left _ (List.mem_append_left _ (List.mem_append_right _ h)))) (by decide +kernel))) (goodIn_sub (fun _ h => List.mem_cons_of_mem _ (List.mem_append_left _ (List.mem_append_right _ h))) (by decide +kernel))) (goodIn_sub (fun _ h => List.mem_cons_of_mem _ (List.mem_append_right _ h)) (by decide +kernel))
set_option maxRecDepth 20000 in
theorem gL_refusesAny_L_call : GoodIn wsL_refusesAny (va_wsS RL 91 yL_call wsL_call) := goodIn_app (goodIn_of _ (by decide +kernel)) ggL_refusesAny_L_call
theorem dL_refusesAny_0 : decode cL_refusesAny 0 = .ok (.iload_n 1, 1) := by decide +kernel
theorem dL_refusesAny_1 : decode cL_refusesAny 1 = .ok (.ifCond .ne 7, 3) := by decide +kernel
theorem dL_refusesAny_4 : decode cL_refusesAny 4 = .ok (.iconst (-1), 1) := by decide +kernel
theorem dL_refusesAny_5 : decode cL_refusesAny 5 = .ok (.goto 4, 3) := by decide +kernel
theorem dL_refusesAny_8 : decode cL_refusesAny 8 = .ok (.iconst 2, 1) := by decide +kernel
theorem dL_refusesAny_9 : decode cL_refusesAny 9 = .ok (.istore_n 2, 1) := by decide +kernel
theorem dL_refusesAny_10 : decode cL_refusesAny 10 = .ok (.aload_n 0, 1) := by decide +kernel
theorem dL_refusesAny_11 : decode cL_refusesAny 11 = .ok (.iconst 0, 1) := by decide +kernel
theorem dL_refusesAny_12 : decode cL_refusesAny 12 = .ok (.iload_n 2, 1) := by decide +kernel
theorem dL_refusesAny_13 : decode cL_refusesAny 13 = .ok (.bipush 99, 2) := by decide +kernel
theorem dL_refusesAny_15 : decode cL_refusesAny 15 = .ok (.invokestatic 91, 3) := by decide +kernel
theorem dL_refusesAny_18 : decode cL_refusesAny 18 = .ok (.bipush (-11), 2) := by decide +kernel
theorem dL_refusesAny_20 : decode cL_refusesAny 20 = .ok (.if_icmp .ne 250, 3) := by decide +kernel
theorem dL_refusesAny_23 : decode cL_refusesAny 23 = .ok (.aload_n 0, 1) := by decide +kernel
theorem dL_refusesAny_24 : decode cL_refusesAny 24 = .ok (.iconst 0, 1) := by decide +kernel
theorem dL_refusesAny_25 : decode cL_refusesAny 25 = .ok (.iconst 0, 1) := by decide +kernel
theorem dL_refusesAny_26 : decode cL_refusesAny 26 = .ok (.iload_n 1, 1) := by decide +kernel
theorem dL_refusesAny_27 : decode cL_refusesAny 27 = .ok (.ifCond .ne 7, 3) := by decide +kernel
theorem dL_refusesAny_30 : decode cL_refusesAny 30 = .ok (.iconst 0, 1) := by decide +kernel
theorem dL_refusesAny_31 : decode cL_refusesAny 31 = .ok (.goto 5, 3) := by decide +kernel
theorem dL_refusesAny_34 : decode cL_refusesAny 34 = .ok (.bipush 21, 2) := by decide +kernel
theorem dL_refusesAny_36 : decode cL_refusesAny 36 = .ok (.invokestatic 91, 3) := by decide +kernel
theorem dL_refusesAny_39 : decode cL_refusesAny 39 = .ok (.bipush (-12), 2) := by decide +kernel
theorem dL_refusesAny_41 : decode cL_refusesAny 41 = .ok (.if_icmp .ne 229, 3) := by decide +kernel
theorem dL_refusesAny_44 : decode cL_refusesAny 44 = .ok (.aload_n 0, 1) := by decide +kernel
theorem dL_refusesAny_45 : decode cL_refusesAny 45 = .ok (.iconst 1, 1) := by decide +kernel
theorem dL_refusesAny_46 : decode cL_refusesAny 46 = .ok (.iload_n 2, 1) := by decide +kernel
theorem dL_refusesAny_47 : decode cL_refusesAny 47 = .ok (.iconst 0, 1) := by decide +kernel
theorem dL_refusesAny_48 : decode cL_refusesAny 48 = .ok (.invokestatic 91, 3) := by decide +kernel
theorem dL_refusesAny_51 : decode cL_refusesAny 51 = .ok (.bipush (-11), 2) := by decide +kernel
theorem dL_refusesAny_53 : decode cL_refusesAny 53 = .ok (.if_icmp .ne 217, 3) := by decide +kernel
theorem dL_refusesAny_56 : decode cL_refusesAny 56 = .ok (.aload_n 0, 1) := by decide +kernel
theorem dL_refusesAny_57 : decode cL_refusesAny 57 = .ok (.iconst 4, 1) := by decide +kernel
theorem dL_refusesAny_58 : decode cL_refusesAny 58 = .ok (.iload_n 1, 1) := by decide +kernel
theorem dL_refusesAny_59 : decode cL_refusesAny 59 = .ok (.ifCond .ne 7, 3) := by decide +kernel
theorem dL_refusesAny_62 : decode cL_refusesAny 62 = .ok (.iconst 0, 1) := by decide +kernel
theorem dL_refusesAny_63 : decode cL_refusesAny 63 = .ok (.goto 5, 3) := by decide +kernel
theorem dL_refusesAny_66 : decode cL_refusesAny 66 = .ok (.bipush 101, 2) := by decide +kernel
theorem dL_refusesAny_68 : decode cL_refusesAny 68 = .ok (.iconst 0, 1) := by decide +kernel
theorem dL_refusesAny_69 : decode cL_refusesAny 69 = .ok (.invokestatic 91, 3) := by decide +kernel
theorem dL_refusesAny_72 : decode cL_refusesAny 72 = .ok (.bipush (-12), 2) := by decide +kernel
theorem dL_refusesAny_74 : decode cL_refusesAny 74 = .ok (.if_icmp .ne 196, 3) := by decide +kernel
theorem dL_refusesAny_77 : decode cL_refusesAny 77 = .ok (.aload_n 0, 1) := by decide +kernel
theorem dL_refusesAny_78 : decode cL_refusesAny 78 = .ok (.iconst 5, 1) := by decide +kernel
theorem dL_refusesAny_79 : decode cL_refusesAny 79 = .ok (.iload_n 1, 1) := by decide +kernel
theorem dL_refusesAny_80 : decode cL_refusesAny 80 = .ok (.ifCond .ne 7, 3) := by decide +kernel
theorem dL_refusesAny_83 : decode cL_refusesAny 83 = .ok (.iconst 0, 1) := by decide +kernel
theorem dL_refusesAny_84 : decode cL_refusesAny 84 = .ok (.goto 5, 3) := by decide +kernel
theorem dL_refusesAny_87 : decode cL_refusesAny 87 = .ok (.bipush 6, 2) := by decide +kernel
theorem dL_refusesAny_89 : decode cL_refusesAny 89 = .ok (.iconst 0, 1) := by decide +kernel
theorem dL_refusesAny_90 : decode cL_refusesAny 90 = .ok (.invokestatic 91, 3) := by decide +kernel
theorem dL_refusesAny_93 : decode cL_refusesAny 93 = .ok (.bipush (-12), 2) := by decide +kernel
theorem dL_refusesAny_95 : decode cL_refusesAny 95 = .ok (.if_icmp .ne 175, 3) := by decide +kernel
theorem dL_refusesAny_98 : decode cL_refusesAny 98 = .ok (.aload_n 0, 1) := by decide +kernel
theorem dL_refusesAny_99 : decode cL_refusesAny 99 = .ok (.bipush 6, 2) := by decide +kernel
theorem dL_refusesAny_101 : decode cL_refusesAny 101 = .ok (.iload_n 1, 1) := by decide +kernel
theorem dL_refusesAny_102 : decode cL_refusesAny 102 = .ok (.ifCond .ne 7, 3) := by decide +kernel
theorem dL_refusesAny_105 : decode cL_refusesAny 105 = .ok (.iconst (-1), 1) := by decide +kernel
theorem dL_refusesAny_106 : decode cL_refusesAny 106 = .ok (.goto 5, 3) := by decide +kernel
theorem dL_refusesAny_109 : decode cL_refusesAny 109 = .ok (.bipush 24, 2) := by decide +kernel
theorem dL_refusesAny_111 : decode cL_refusesAny 111 = .ok (.bipush 99, 2) := by decide +kernel
theorem dL_refusesAny_113 : decode cL_refusesAny 113 = .ok (.invokestatic 91, 3) := by decide +kernel
theorem dL_refusesAny_116 : decode cL_refusesAny 116 = .ok (.bipush (-11), 2) := by decide +kernel
theorem dL_refusesAny_118 : decode cL_refusesAny 118 = .ok (.if_icmp .ne 152, 3) := by decide +kernel
theorem dL_refusesAny_121 : decode cL_refusesAny 121 = .ok (.aload_n 0, 1) := by decide +kernel
theorem dL_refusesAny_122 : decode cL_refusesAny 122 = .ok (.bipush 6, 2) := by decide +kernel
theorem dL_refusesAny_124 : decode cL_refusesAny 124 = .ok (.iconst 0, 1) := by decide +kernel
theorem dL_refusesAny_125 : decode cL_refusesAny 125 = .ok (.iload_n 1, 1) := by decide +kernel
theorem dL_refusesAny_126 : decode cL_refusesAny 126 = .ok (.ifCond .ne 7, 3) := by decide +kernel
theorem dL_refusesAny_129 : decode cL_refusesAny 129 = .ok (.iconst (-1), 1) := by decide +kernel
theorem dL_refusesAny_130 : decode cL_refusesAny 130 = .ok (.goto 5, 3) := by decide +kernel
theorem dL_refusesAny_133 : decode cL_refusesAny 133 = .ok (.bipush 41, 2) := by decide +kernel
theorem dL_refusesAny_135 : decode cL_refusesAny 135 = .ok (.invokestatic 91, 3) := by decide +kernel
theorem dL_refusesAny_138 : decode cL_refusesAny 138 = .ok (.bipush (-12), 2) := by decide +kernel
theorem dL_refusesAny_140 : decode cL_refusesAny 140 = .ok (.if_icmp .ne 130, 3) := by decide +kernel
theorem dL_refusesAny_143 : decode cL_refusesAny 143 = .ok (.aload_n 0, 1) := by decide +kernel
theorem dL_refusesAny_144 : decode cL_refusesAny 144 = .ok (.bipush 7, 2) := by decide +kernel
theorem dL_refusesAny_146 : decode cL_refusesAny 146 = .ok (.iload_n 1, 1) := by decide +kernel
theorem dL_refusesAny_147 : decode cL_refusesAny 147 = .ok (.ifCond .ne 7, 3) := by decide +kernel
theorem dL_refusesAny_150 : decode cL_refusesAny 150 = .ok (.iconst (-1), 1) := by decide +kernel
theorem dL_refusesAny_151 : decode cL_refusesAny 151 = .ok (.goto 4, 3) := by decide +kernel
theorem dL_refusesAny_154 : decode cL_refusesAny 154 = .ok (.iconst 3, 1) := by decide +kernel
theorem dL_refusesAny_155 : decode cL_refusesAny 155 = .ok (.sipush 9999, 3) := by decide +kernel
theorem dL_refusesAny_158 : decode cL_refusesAny 158 = .ok (.invokestatic 91, 3) := by decide +kernel
theorem dL_refusesAny_161 : decode cL_refusesAny 161 = .ok (.bipush (-11), 2) := by decide +kernel
theorem dL_refusesAny_163 : decode cL_refusesAny 163 = .ok (.if_icmp .ne 107, 3) := by decide +kernel
theorem dL_refusesAny_166 : decode cL_refusesAny 166 = .ok (.aload_n 0, 1) := by decide +kernel
theorem dL_refusesAny_167 : decode cL_refusesAny 167 = .ok (.bipush 7, 2) := by decide +kernel
theorem dL_refusesAny_169 : decode cL_refusesAny 169 = .ok (.iconst 0, 1) := by decide +kernel
theorem dL_refusesAny_170 : decode cL_refusesAny 170 = .ok (.iload_n 1, 1) := by decide +kernel
theorem dL_refusesAny_171 : decode cL_refusesAny 171 = .ok (.ifCond .ne 8, 3) := by decide +kernel
theorem dL_refusesAny_174 : decode cL_refusesAny 174 = .ok (.bipush 49, 2) := by decide +kernel
theorem dL_refusesAny_176 : decode cL_refusesAny 176 = .ok (.goto 6, 3) := by decide +kernel
theorem dL_refusesAny_179 : decode cL_refusesAny 179 = .ok (.sipush 1000, 3) := by decide +kernel
theorem dL_refusesAny_182 : decode cL_refusesAny 182 = .ok (.invokestatic 91, 3) := by decide +kernel
theorem dL_refusesAny_185 : decode cL_refusesAny 185 = .ok (.bipush (-12), 2) := by decide +kernel
theorem dL_refusesAny_187 : decode cL_refusesAny 187 = .ok (.if_icmp .ne 83, 3) := by decide +kernel
theorem dL_refusesAny_190 : decode cL_refusesAny 190 = .ok (.aload_n 0, 1) := by decide +kernel
theorem dL_refusesAny_191 : decode cL_refusesAny 191 = .ok (.bipush 7, 2) := by decide +kernel
theorem dL_refusesAny_193 : decode cL_refusesAny 193 = .ok (.iconst 1, 1) := by decide +kernel
theorem dL_refusesAny_194 : decode cL_refusesAny 194 = .ok (.iload_n 1, 1) := by decide +kernel
theorem dL_refusesAny_195 : decode cL_refusesAny 195 = .ok (.ifCond .ne 7, 3) := by decide +kernel
theorem dL_refusesAny_198 : decode cL_refusesAny 198 = .ok (.iconst (-1), 1) := by decide +kernel
theorem dL_refusesAny_199 : decode cL_refusesAny 199 = .ok (.goto 5, 3) := by decide +kernel
theorem dL_refusesAny_202 : decode cL_refusesAny 202 = .ok (.bipush 81, 2) := by decide +kernel
theorem dL_refusesAny_204 : decode cL_refusesAny 204 = .ok (.invokestatic 91, 3) := by decide +kernel
theorem dL_refusesAny_207 : decode cL_refusesAny 207 = .ok (.bipush (-12), 2) := by decide +kernel
theorem dL_refusesAny_209 : decode cL_refusesAny 209 = .ok (.if_icmp .ne 61, 3) := by decide +kernel
theorem dL_refusesAny_212 : decode cL_refusesAny 212 = .ok (.aload_n 0, 1) := by decide +kernel
theorem dL_refusesAny_213 : decode cL_refusesAny 213 = .ok (.bipush 7, 2) := by decide +kernel
theorem dL_refusesAny_215 : decode cL_refusesAny 215 = .ok (.iconst 2, 1) := by decide +kernel
theorem dL_refusesAny_216 : decode cL_refusesAny 216 = .ok (.iload_n 1, 1) := by decide +kernel
theorem dL_refusesAny_217 : decode cL_refusesAny 217 = .ok (.ifCond .ne 7, 3) := by decide +kernel
theorem dL_refusesAny_220 : decode cL_refusesAny 220 = .ok (.iconst 0, 1) := by decide +kernel
theorem dL_refusesAny_221 : decode cL_refusesAny 221 = .ok (.goto 5, 3) := by decide +kernel
theorem dL_refusesAny_224 : decode cL_refusesAny 224 = .ok (.bipush 51, 2) := by decide +kernel
theorem dL_refusesAny_226 : decode cL_refusesAny 226 = .ok (.invokestatic 91, 3) := by decide +kernel
theorem dL_refusesAny_229 : decode cL_refusesAny 229 = .ok (.bipush (-12), 2) := by decide +kernel
theorem dL_refusesAny_231 : decode cL_refusesAny 231 = .ok (.if_icmp .ne 39, 3) := by decide +kernel
theorem dL_refusesAny_234 : decode cL_refusesAny 234 = .ok (.aload_n 0, 1) := by decide +kernel
theorem dL_refusesAny_235 : decode cL_refusesAny 235 = .ok (.bipush 8, 2) := by decide +kernel
theorem dL_refusesAny_237 : decode cL_refusesAny 237 = .ok (.iload_n 1, 1) := by decide +kernel
theorem dL_refusesAny_238 : decode cL_refusesAny 238 = .ok (.ifCond .ne 8, 3) := by decide +kernel
theorem dL_refusesAny_241 : decode cL_refusesAny 241 = .ok (.bipush 32, 2) := by decide +kernel
theorem dL_refusesAny_243 : decode cL_refusesAny 243 = .ok (.goto 5, 3) := by decide +kernel
theorem dL_refusesAny_246 : decode cL_refusesAny 246 = .ok (.bipush 127, 2) := by decide +kernel
theorem dL_refusesAny_248 : decode cL_refusesAny 248 = .ok (.iconst 0, 1) := by decide +kernel
theorem dL_refusesAny_249 : decode cL_refusesAny 249 = .ok (.invokestatic 91, 3) := by decide +kernel
theorem dL_refusesAny_252 : decode cL_refusesAny 252 = .ok (.bipush (-12), 2) := by decide +kernel
theorem dL_refusesAny_254 : decode cL_refusesAny 254 = .ok (.if_icmp .ne 16, 3) := by decide +kernel
theorem dL_refusesAny_257 : decode cL_refusesAny 257 = .ok (.aload_n 0, 1) := by decide +kernel
theorem dL_refusesAny_258 : decode cL_refusesAny 258 = .ok (.bipush 9, 2) := by decide +kernel
theorem dL_refusesAny_260 : decode cL_refusesAny 260 = .ok (.iconst 0, 1) := by decide +kernel
theorem dL_refusesAny_261 : decode cL_refusesAny 261 = .ok (.iconst 0, 1) := by decide +kernel
theorem dL_refusesAny_262 : decode cL_refusesAny 262 = .ok (.invokestatic 91, 3) := by decide +kernel
theorem dL_refusesAny_265 : decode cL_refusesAny 265 = .ok (.bipush (-12), 2) := by decide +kernel
theorem dL_refusesAny_267 : decode cL_refusesAny 267 = .ok (.if_icmp .eq 5, 3) := by decide +kernel
theorem dL_refusesAny_270 : decode cL_refusesAny 270 = .ok (.iconst 0, 1) := by decide +kernel
theorem dL_refusesAny_271 : decode cL_refusesAny 271 = .ok (.ireturn, 1) := by decide +kernel
theorem dL_refusesAny_272 : decode cL_refusesAny 272 = .ok (.aload_n 0, 1) := by decide +kernel
theorem dL_refusesAny_273 : decode cL_refusesAny 273 = .ok (.bipush 12, 2) := by decide +kernel
theorem dL_refusesAny_275 : decode cL_refusesAny 275 = .ok (.iload_n 1, 1) := by decide +kernel
theorem dL_refusesAny_276 : decode cL_refusesAny 276 = .ok (.ifCond .ne 7, 3) := by decide +kernel
theorem dL_refusesAny_279 : decode cL_refusesAny 279 = .ok (.iconst (-1), 1) := by decide +kernel
theorem dL_refusesAny_280 : decode cL_refusesAny 280 = .ok (.goto 5, 3) := by decide +kernel
theorem dL_refusesAny_283 : decode cL_refusesAny 283 = .ok (.bipush 20, 2) := by decide +kernel
theorem dL_refusesAny_285 : decode cL_refusesAny 285 = .ok (.bipush 9, 2) := by decide +kernel
theorem dL_refusesAny_287 : decode cL_refusesAny 287 = .ok (.invokestatic 91, 3) := by decide +kernel
theorem dL_refusesAny_290 : decode cL_refusesAny 290 = .ok (.bipush (-11), 2) := by decide +kernel
theorem dL_refusesAny_292 : decode cL_refusesAny 292 = .ok (.if_icmp .ne 192, 3) := by decide +kernel
theorem dL_refusesAny_295 : decode cL_refusesAny 295 = .ok (.aload_n 0, 1) := by decide +kernel
theorem dL_refusesAny_296 : decode cL_refusesAny 296 = .ok (.bipush 12, 2) := by decide +kernel
theorem dL_refusesAny_298 : decode cL_refusesAny 298 = .ok (.iconst 0, 1) := by decide +kernel
theorem dL_refusesAny_299 : decode cL_refusesAny 299 = .ok (.iload_n 1, 1) := by decide +kernel
theorem dL_refusesAny_300 : decode cL_refusesAny 300 = .ok (.ifCond .ne 7, 3) := by decide +kernel
theorem dL_refusesAny_303 : decode cL_refusesAny 303 = .ok (.iconst (-1), 1) := by decide +kernel
theorem dL_refusesAny_304 : decode cL_refusesAny 304 = .ok (.goto 4, 3) := by decide +kernel
theorem dL_refusesAny_307 : decode cL_refusesAny 307 = .ok (.iconst 3, 1) := by decide +kernel
theorem dL_refusesAny_308 : decode cL_refusesAny 308 = .ok (.invokestatic 91, 3) := by decide +kernel
theorem dL_refusesAny_311 : decode cL_refusesAny 311 = .ok (.bipush (-12), 2) := by decide +kernel
theorem dL_refusesAny_313 : decode cL_refusesAny 313 = .ok (.if_icmp .ne 171, 3) := by decide +kernel
theorem dL_refusesAny_316 : decode cL_refusesAny 316 = .ok (.aload_n 0, 1) := by decide +kernel
theorem dL_refusesAny_317 : decode cL_refusesAny 317 = .ok (.bipush 13, 2) := by decide +kernel
theorem dL_refusesAny_319 : decode cL_refusesAny 319 = .ok (.iload_n 2, 1) := by decide +kernel
theorem dL_refusesAny_320 : decode cL_refusesAny 320 = .ok (.iconst (-1), 1) := by decide +kernel
theorem dL_refusesAny_321 : decode cL_refusesAny 321 = .ok (.invokestatic 91, 3) := by decide +kernel
theorem dL_refusesAny_324 : decode cL_refusesAny 324 = .ok (.bipush (-11), 2) := by decide +kernel
theorem dL_refusesAny_326 : decode cL_refusesAny 326 = .ok (.if_icmp .ne 158, 3) := by decide +kernel
theorem dL_refusesAny_329 : decode cL_refusesAny 329 = .ok (.aload_n 0, 1) := by decide +kernel
theorem dL_refusesAny_330 : decode cL_refusesAny 330 = .ok (.bipush 13, 2) := by decide +kernel
theorem dL_refusesAny_332 : decode cL_refusesAny 332 = .ok (.iconst 0, 1) := by decide +kernel
theorem dL_refusesAny_333 : decode cL_refusesAny 333 = .ok (.iconst (-1), 1) := by decide +kernel
theorem dL_refusesAny_334 : decode cL_refusesAny 334 = .ok (.iload_n 1, 1) := by decide +kernel
theorem dL_refusesAny_335 : decode cL_refusesAny 335 = .ok (.isub, 1) := by decide +kernel
theorem dL_refusesAny_336 : decode cL_refusesAny 336 = .ok (.invokestatic 91, 3) := by decide +kernel
theorem dL_refusesAny_339 : decode cL_refusesAny 339 = .ok (.bipush (-12), 2) := by decide +kernel
theorem dL_refusesAny_341 : decode cL_refusesAny 341 = .ok (.if_icmp .ne 143, 3) := by decide +kernel
theorem dL_refusesAny_344 : decode cL_refusesAny 344 = .ok (.aload_n 0, 1) := by decide +kernel
theorem dL_refusesAny_345 : decode cL_refusesAny 345 = .ok (.bipush 14, 2) := by decide +kernel
theorem dL_refusesAny_347 : decode cL_refusesAny 347 = .ok (.iload_n 2, 1) := by decide +kernel
theorem dL_refusesAny_348 : decode cL_refusesAny 348 = .ok (.bipush (-19), 2) := by decide +kernel
theorem dL_refusesAny_350 : decode cL_refusesAny 350 = .ok (.invokestatic 91, 3) := by decide +kernel
theorem dL_refusesAny_353 : decode cL_refusesAny 353 = .ok (.bipush (-11), 2) := by decide +kernel
theorem dL_refusesAny_355 : decode cL_refusesAny 355 = .ok (.if_icmp .ne 129, 3) := by decide +kernel
theorem dL_refusesAny_358 : decode cL_refusesAny 358 = .ok (.aload_n 0, 1) := by decide +kernel
theorem dL_refusesAny_359 : decode cL_refusesAny 359 = .ok (.bipush 14, 2) := by decide +kernel
theorem dL_refusesAny_361 : decode cL_refusesAny 361 = .ok (.iconst 0, 1) := by decide +kernel
theorem dL_refusesAny_362 : decode cL_refusesAny 362 = .ok (.iload_n 1, 1) := by decide +kernel
theorem dL_refusesAny_363 : decode cL_refusesAny 363 = .ok (.ifCond .ne 8, 3) := by decide +kernel
theorem dL_refusesAny_366 : decode cL_refusesAny 366 = .ok (.bipush (-10), 2) := by decide +kernel
theorem dL_refusesAny_368 : decode cL_refusesAny 368 = .ok (.goto 4, 3) := by decide +kernel
theorem dL_refusesAny_371 : decode cL_refusesAny 371 = .ok (.iconst 2, 1) := by decide +kernel
theorem dL_refusesAny_372 : decode cL_refusesAny 372 = .ok (.invokestatic 91, 3) := by decide +kernel
theorem dL_refusesAny_375 : decode cL_refusesAny 375 = .ok (.bipush (-12), 2) := by decide +kernel
theorem dL_refusesAny_377 : decode cL_refusesAny 377 = .ok (.if_icmp .ne 107, 3) := by decide +kernel
theorem dL_refusesAny_380 : decode cL_refusesAny 380 = .ok (.aload_n 0, 1) := by decide +kernel
theorem dL_refusesAny_381 : decode cL_refusesAny 381 = .ok (.bipush 15, 2) := by decide +kernel
theorem dL_refusesAny_383 : decode cL_refusesAny 383 = .ok (.iload_n 1, 1) := by decide +kernel
theorem dL_refusesAny_384 : decode cL_refusesAny 384 = .ok (.ifCond .ne 7, 3) := by decide +kernel
theorem dL_refusesAny_387 : decode cL_refusesAny 387 = .ok (.iconst (-1), 1) := by decide +kernel
theorem dL_refusesAny_388 : decode cL_refusesAny 388 = .ok (.goto 5, 3) := by decide +kernel
theorem dL_refusesAny_391 : decode cL_refusesAny 391 = .ok (.bipush 14, 2) := by decide +kernel
theorem dL_refusesAny_393 : decode cL_refusesAny 393 = .ok (.iconst 0, 1) := by decide +kernel
theorem dL_refusesAny_394 : decode cL_refusesAny 394 = .ok (.invokestatic 91, 3) := by decide +kernel
theorem dL_refusesAny_397 : decode cL_refusesAny 397 = .ok (.bipush (-12), 2) := by decide +kernel
theorem dL_refusesAny_399 : decode cL_refusesAny 399 = .ok (.if_icmp .ne 85, 3) := by decide +kernel
theorem dL_refusesAny_402 : decode cL_refusesAny 402 = .ok (.aload_n 0, 1) := by decide +kernel
theorem dL_refusesAny_403 : decode cL_refusesAny 403 = .ok (.bipush 16, 2) := by decide +kernel
theorem dL_refusesAny_405 : decode cL_refusesAny 405 = .ok (.iload_n 1, 1) := by decide +kernel
theorem dL_refusesAny_406 : decode cL_refusesAny 406 = .ok (.ifCond .ne 7, 3) := by decide +kernel
theorem dL_refusesAny_409 : decode cL_refusesAny 409 = .ok (.iconst (-1), 1) := by decide +kernel
theorem dL_refusesAny_410 : decode cL_refusesAny 410 = .ok (.goto 5, 3) := by decide +kernel
theorem dL_refusesAny_413 : decode cL_refusesAny 413 = .ok (.bipush 24, 2) := by decide +kernel
theorem dL_refusesAny_415 : decode cL_refusesAny 415 = .ok (.iconst 0, 1) := by decide +kernel
theorem dL_refusesAny_416 : decode cL_refusesAny 416 = .ok (.invokestatic 91, 3) := by decide +kernel
theorem dL_refusesAny_419 : decode cL_refusesAny 419 = .ok (.bipush (-11), 2) := by decide +kernel
theorem dL_refusesAny_421 : decode cL_refusesAny 421 = .ok (.if_icmp .ne 63, 3) := by decide +kernel
theorem dL_refusesAny_424 : decode cL_refusesAny 424 = .ok (.aload_n 0, 1) := by decide +kernel
theorem dL_refusesAny_425 : decode cL_refusesAny 425 = .ok (.bipush 17, 2) := by decide +kernel
theorem dL_refusesAny_427 : decode cL_refusesAny 427 = .ok (.iload_n 1, 1) := by decide +kernel
theorem dL_refusesAny_428 : decode cL_refusesAny 428 = .ok (.ifCond .ne 7, 3) := by decide +kernel
theorem dL_refusesAny_431 : decode cL_refusesAny 431 = .ok (.iconst (-1), 1) := by decide +kernel
theorem dL_refusesAny_432 : decode cL_refusesAny 432 = .ok (.goto 4, 3) := by decide +kernel
theorem dL_refusesAny_435 : decode cL_refusesAny 435 = .ok (.iconst 3, 1) := by decide +kernel
theorem dL_refusesAny_436 : decode cL_refusesAny 436 = .ok (.iconst 0, 1) := by decide +kernel
theorem dL_refusesAny_437 : decode cL_refusesAny 437 = .ok (.invokestatic 91, 3) := by decide +kernel
theorem dL_refusesAny_440 : decode cL_refusesAny 440 = .ok (.bipush (-11), 2) := by decide +kernel
theorem dL_refusesAny_442 : decode cL_refusesAny 442 = .ok (.if_icmp .ne 42, 3) := by decide +kernel
theorem dL_refusesAny_445 : decode cL_refusesAny 445 = .ok (.aload_n 0, 1) := by decide +kernel
theorem dL_refusesAny_446 : decode cL_refusesAny 446 = .ok (.bipush 18, 2) := by decide +kernel
theorem dL_refusesAny_448 : decode cL_refusesAny 448 = .ok (.iload_n 2, 1) := by decide +kernel
theorem dL_refusesAny_449 : decode cL_refusesAny 449 = .ok (.iconst 0, 1) := by decide +kernel
theorem dL_refusesAny_450 : decode cL_refusesAny 450 = .ok (.invokestatic 91, 3) := by decide +kernel
theorem dL_refusesAny_453 : decode cL_refusesAny 453 = .ok (.bipush (-11), 2) := by decide +kernel
theorem dL_refusesAny_455 : decode cL_refusesAny 455 = .ok (.if_icmp .ne 29, 3) := by decide +kernel
theorem dL_refusesAny_458 : decode cL_refusesAny 458 = .ok (.aload_n 0, 1) := by decide +kernel
theorem dL_refusesAny_459 : decode cL_refusesAny 459 = .ok (.bipush 19, 2) := by decide +kernel
theorem dL_refusesAny_461 : decode cL_refusesAny 461 = .ok (.iload_n 1, 1) := by decide +kernel
theorem dL_refusesAny_462 : decode cL_refusesAny 462 = .ok (.ifCond .ne 7, 3) := by decide +kernel
theorem dL_refusesAny_465 : decode cL_refusesAny 465 = .ok (.iconst (-1), 1) := by decide +kernel
theorem dL_refusesAny_466 : decode cL_refusesAny 466 = .ok (.goto 5, 3) := by decide +kernel
theorem dL_refusesAny_469 : decode cL_refusesAny 469 = .ok (.bipush 9, 2) := by decide +kernel
theorem dL_refusesAny_471 : decode cL_refusesAny 471 = .ok (.iconst 0, 1) := by decide +kernel
theorem dL_refusesAny_472 : decode cL_refusesAny 472 = .ok (.invokestatic 91, 3) := by decide +kernel
theorem dL_refusesAny_475 : decode cL_refusesAny 475 = .ok (.bipush (-12), 2) := by decide +kernel
theorem dL_refusesAny_477 : decode cL_refusesAny 477 = .ok (.if_icmp .ne 7, 3) := by decide +kernel
theorem dL_refusesAny_480 : decode cL_refusesAny 480 = .ok (.iconst 1, 1) := by decide +kernel
theorem dL_refusesAny_481 : decode cL_refusesAny 481 = .ok (.goto 4, 3) := by decide +kernel
theorem dL_refusesAny_484 : decode cL_refusesAny 484 = .ok (.iconst 0, 1) := by decide +kernel
theorem dL_refusesAny_485 : decode cL_refusesAny 485 = .ok (.ireturn, 1) := by decide +kernel
set_option maxRecDepth 20000 in
theorem ggL_refused_X5_digest : GoodIn wsL_refused wsX5_digest := goodIn_ca (goodIn_ca (goodIn_r _ [5, 6, 7, 8, 9, 10, 4, 11, 12, 13, 14, 15, 16, 17, 18, 19, 20, 21, 22, 23, 24, 25, 26, 27, 28, 29, 30, 31, 32, 33, 34, 35, 36, 37, 38, 39, 40, 41, 42, 43, 44, 45, 46, 47, 48, 49, 50, 51, 52, 53, 54, 55, 56, 57, 58, 59, 60, 61, 62, 63, 64, 65, 66, 67, 68, 69, 70, 71, 72, 73, 74, 75, 76, 77, 78, 79, 80, 81, 82, 83, 84, 85, 86, 87, 88, 89, 90, 91, 92, 93, 94, 95, 96, 97, 98, 99, 100, 101, 102, 103, 104, 105, 106, 107, 108, 109, 110, 111, 112, 113, 114, 115, 116, 117, 118, 119, 120, 121, 122, 123, 124, 125, 126, 127, 128, 129, 130, 131, 132, 133, 134, 135, 136, 137, 138, 139, 140, 141, 142, 143, 144, 145, 146, 147, 148, 149, 150, 151, 152, 153, 154, 155, 156, 157, 158, 159, 160, 161, 162, 163, 164, 165, 166, 167, 168, 169, 170, 171, 172, 173, 174, 175, 176, 177, 178, 179, 180, 181, 182, 183, 184, 185, 186, 187, 188, 189, 190, 191, 192, 193, 194, 195, 196, 197, 198, 199, 200, 201, 202, 203, 204, 205, 206, 207, 208, 209, 210, 211, 212, 213, 214, 215, 216, 217, 218, 219, 220, 221, 222, 223, 224, 225, 226, 227, 228, 229, 230, 231, 232, 233, 234, 235, 236, 237, 238, 239, 240, 241, 242, 243, 244, 245, 246, 247, 248, 249, 250, 251, 252, 253, 254, 255, 256, 257, 258, 259, 260, 261, 262, 263, 264, 265, 266, 267, 268, 269, 270, 271, 272, 273, 274, 275, 276, 277, 278, 279, 280, 281, 282, 283, 284, 285, 286, 287, 288, 289, 290, 291, 292, 293, 294, 295, 296, 297, 298, 299, 300, 301, 302, 303, 304, 305, 306, 307, 308, 309, 310, 311, 312, 313, 314, 315, 316, 317, 318, 319, 320, 321, 322, 323, 324, 325, 326, 327, 328, 329, 330, 331, 332, 333, 334, 335, 336, 337, 338, 339, 340, 341, 342, 343, 344, 345, 346, 347, 348, 349, 350, 351, 352, 353, 354, 355, 356, 357, 358, 359, 519, 520, 521, 522, 523, 524, 525, 526, 527, 528, 529, 530, 531, 532, 533, 534, 535, 536, 537, 538, 539, 540, 541, 542, 543, 544, 545, 546, 547, 548, 549, 550, 551, 552, 553] (by decide +kernel) (by decide +kernel)) (goodIn_sub (fun _ h => List.mem_cons_of_mem _ (List.mem_append_left _ (List.mem_append_left _ (List.mem_append_right _ h)))) (by decide +kernel))) (goodIn_sub (fun _ h => List.mem_cons_of_mem _ (List.mem_append_left _ (List.mem_append_right _ h))) (by decide +kernel))
set_option maxRecDepth 20000 in
theorem gL_refused_X5_digest : GoodIn wsL_refused (wsV RL 97 RX5 yX5_digest wsX5_digest) := goodIn_app (goodIn_of _ (by decide +kernel)) ggL_refused_X5_digest
set_option maxRecDepth 20000 in
theorem ggL_refused_L_refusesAny : GoodIn wsL_refused wsL_refusesAny := goodIn_ca (goodIn_ca (goodIn_ca (goodIn_r _ [363, 364, 365, 362, 366, 367, 368, 369, 370, 371, 372, 4, 373, 79, 80, 16, 17, 374, 375, 18, 30, 82, 83, 84, 376, 377, 378, 34, 379, 204, 145, 146, 147, 148, 149, 206, 207, 208, 41, 209, 43, 155, 380, 381, 382, 64, 383, 66, 384, 385, 386, 387, 388, 389, 390, 127, 128, 129, 391, 211, 212, 213, 124, 108, 36, 37, 107, 125, 203, 214, 215, 216, 217, 218, 219, 220, 221, 137, 59, 138, 222, 223, 224, 225, 226, 227, 228, 229, 164, 52, 230, 231, 232, 100, 233, 102, 139, 234, 235, 392, 393, 394, 395, 247, 248, 249, 250, 251, 245, 246, 144, 150, 39, 40, 42, 396, 397, 398, 399, 199, 200, 201, 202, 38, 205, 157, 158, 159, 236, 237, 238, 239, 240, 152, 153, 154, 86, 87, 241, 242, 243, 244, 400, 401, 402, 403, 404, 405, 406, 407, 408, 409, 410, 411, 412, 32, 33, 35, 413, 414, 415, 416, 417, 418, 419, 420, 173, 174, 175, 176, 177, 131, 54, 55, 56, 57, 58, 60, 48, 49, 50, 51, 120, 121, 122, 123, 126, 130, 45, 46, 47, 178, 179, 180, 181, 182, 133, 134, 135, 136, 113, 114, 115, 183, 110, 111, 112, 292, 293, 294, 295, 296, 297, 298, 299, 300, 301, 302, 303, 421, 422, 423, 424, 19, 425, 426, 427, 428, 429, 21, 24, 308, 309, 310, 311, 312, 313, 314, 315, 316, 317, 318, 319, 320, 430, 431, 432, 433, 92, 85, 434, 435, 436, 437, 438, 439, 440, 81, 441, 442, 443, 444, 348, 349, 350, 351, 352, 353, 354, 445, 446, 447, 448, 359, 449, 450, 451, 452, 453, 454, 455, 456, 457, 458, 459, 460, 461, 462, 463, 464, 465, 466, 467, 468, 469, 470, 471, 472, 473, 474, 475, 476, 477, 478, 479, 356, 357, 358, 480, 481, 482, 483, 484, 485, 486, 487, 355, 488, 489, 490, 491, 492, 493, 494, 495, 7, 496, 210, 497, 498, 499, 500, 61, 62, 63, 65, 501, 502, 503, 504, 505, 94, 95, 96, 97, 98, 99, 101, 103, 104, 105, 106, 109, 116, 117, 118, 119, 132, 506, 507, 508, 509, 151, 510, 511, 512, 513, 156, 160, 161, 162, 163, 514, 13, 14, 15, 20, 22, 23, 25, 26, 27, 28, 29, 31, 44, 53, 515, 89, 90, 91, 516, 76, 77, 78, 517, 195, 196, 197, 198, 252, 253, 254, 255, 256, 257, 258, 259, 518, 265, 266, 267, 268, 269, 270, 271, 272, 273, 274, 275, 276, 277, 278, 279, 280, 281, 282, 283, 284, 285, 286, 287, 519, 520, 521, 522, 523, 524, 525, 526, 527, 528, 529, 530, 531, 532, 533, 534, 535, 536, 537, 538, 543, 544, 545, 546, 547, 548, 549, 539, 540, 541, 542, 550, 551, 552, 553] (by decide +kernel) (by decide +kernel)) (goodIn_sub (fun _ h => List.mem_cons_of_mem _ (List.mem_append_left _ (List.mem_append_right _ h))) (by decide +kernel))) (goodIn_sub (fun _ h => List.mem_cons_of_mem _ (List.mem_append_left _ (List.mem_append_left _ (List.mem_append_right _ h)))) (by decide +kernel))) (goodIn_sub (fun _ h => List.mem_cons_of_mem _ (List.mem_append_right _ h)) (by decide +kernel))
set_option maxRecDepth 20000 in
theorem gL_refused_L_refusesAny : GoodIn wsL_refused (va_wsS RL 101 yL_refusesAny wsL_refusesAny) := goodIn_app (goodIn_of _ (by decide +kernel)) ggL_refused_L_refusesAny
theorem dL_refused_0 : decode cL_refused 0 = .ok (.aload_n 0, 1) := by decide +kernel
theorem dL_refused_1 : decode cL_refused 1 = .ok (.invokevirtual 97, 3) := by decide +kernel
theorem dL_refused_4 : decode cL_refused 4 = .ok (.lstore_n 1, 1) := by decide +kernel
theorem dL_refused_5 : decode cL_refused 5 = .ok (.aload_n 0, 1) := by decide +kernel
theorem dL_refused_6 : decode cL_refused 6 = .ok (.iconst 0, 1) := by decide +kernel
theorem dL_refused_7 : decode cL_refused 7 = .ok (.invokestatic 101, 3) := by decide +kernel
theorem dL_refused_10 : decode cL_refused 10 = .ok (.ifCond .eq 24, 3) := by decide +kernel
theorem dL_refused_13 : decode cL_refused 13 = .ok (.aload_n 0, 1) := by decide +kernel
theorem dL_refused_14 : decode cL_refused 14 = .ok (.iconst 1, 1) := by decide +kernel
theorem dL_refused_15 : decode cL_refused 15 = .ok (.invokestatic 101, 3) := by decide +kernel
theorem dL_refused_18 : decode cL_refused 18 = .ok (.ifCond .eq 16, 3) := by decide +kernel
theorem dL_refused_21 : decode cL_refused 21 = .ok (.aload_n 0, 1) := by decide +kernel
theorem dL_refused_22 : decode cL_refused 22 = .ok (.invokevirtual 97, 3) := by decide +kernel
theorem dL_refused_25 : decode cL_refused 25 = .ok (.lload_n 1, 1) := by decide +kernel
theorem dL_refused_26 : decode cL_refused 26 = .ok (.lcmp, 1) := by decide +kernel
theorem dL_refused_27 : decode cL_refused 27 = .ok (.ifCond .ne 7, 3) := by decide +kernel
theorem dL_refused_30 : decode cL_refused 30 = .ok (.iconst 1, 1) := by decide +kernel
theorem dL_refused_31 : decode cL_refused 31 = .ok (.goto 4, 3) := by decide +kernel
theorem dL_refused_34 : decode cL_refused 34 = .ok (.iconst 0, 1) := by decide +kernel
theorem dL_refused_35 : decode cL_refused 35 = .ok (.ireturn, 1) := by decide +kernel
set_option maxRecDepth 20000 in
theorem ggL_crossings_X5_init : GoodIn wsL_crossings wsX5_init := goodIn_r _ [8, 9, 10, 11, 12, 13, 14, 15, 16, 17, 18, 19, 20, 21, 22, 23, 24, 25, 26, 27, 28, 29, 30, 31, 32, 33, 34, 35, 36, 37, 38, 39, 40, 41, 42, 43, 44, 45, 3, 46, 47, 48, 49, 50, 51, 52, 53, 54, 55, 56, 57, 58, 59, 60, 61, 62, 63, 64, 65, 66, 67, 68, 69, 70, 71, 72, 73, 74, 75, 76, 77, 78, 79, 80, 81, 82, 83, 84, 85, 86, 87, 578, 579, 580, 581, 582, 583, 584, 585, 586, 587, 588, 589, 590, 591, 572, 573, 574, 575, 576, 577, 592, 593, 594, 595, 596, 597, 598, 599, 600, 601, 602, 603, 604, 605, 606] (by decide +kernel) (by decide +kernel)
set_option maxRecDepth 20000 in
theorem gL_crossings_X5_init : GoodIn wsL_crossings (wsX5_init) := ggL_crossings_X5_init
set_option maxRecDepth 20000 in
theorem ggL_crossings_L_call : GoodIn wsL_crossings wsL_call := goodIn_ca (goodIn_ca (goodIn_ca (goodIn_r _ [91, 92, 93, 94, 95, 96, 97, 3, 98, 99, 100, 101, 102, 103, 104, 15, 21, 105, 106, 107, 108, 109, 110, 14, 111, 112, 113, 114, 115, 37, 38, 116, 117, 118, 36, 119, 61, 59, 120, 121, 122, 20, 123, 78, 77, 124, 125, 126, 127, 76, 128, 129, 130, 131, 132, 133, 134, 135, 32, 33, 39, 40, 44, 136, 137, 138, 139, 140, 141, 142, 45, 46, 47, 48, 49, 50, 51, 52, 53, 54, 143, 144, 145, 146, 60, 62, 147, 148, 149, 43, 150, 67, 68, 69, 70, 151, 152, 153, 154, 155, 156, 157, 158, 159, 160, 161, 162, 163, 164, 165, 166, 167, 168, 169, 170, 171, 172, 173, 174, 175, 176, 177, 178, 179, 180, 181, 182, 183, 184, 185, 186, 187, 188, 189, 190, 191, 192, 193, 194, 195, 196, 197, 198, 199, 200, 201, 202, 203, 204, 205, 206, 207, 208, 209, 210, 211, 212, 213, 214, 215, 216, 217, 218, 219, 220, 221, 222, 223, 224, 225, 226, 227, 228, 229, 230, 231, 232, 233, 234, 235, 236, 237, 238, 239, 240, 241, 242, 243, 244, 245, 246, 247, 248, 249, 250, 251, 252, 253, 254, 255, 256, 257, 258, 259, 260, 261, 262, 263, 264, 265, 266, 267, 268, 269, 270, 271, 272, 273, 274, 275, 276, 277, 278, 279, 280, 281, 282, 283, 284, 285, 286, 287, 288, 289, 290, 291, 292, 293, 294, 295, 296, 297, 298, 299, 300, 301, 302, 303, 304, 305, 306, 307, 308, 309, 310, 311, 312, 313, 25, 314, 315, 316, 24, 317, 85, 318, 319, 320, 321, 84, 87, 86, 322, 323, 324, 325, 326, 327, 328, 329, 330, 331, 332, 333, 334, 335, 336, 337, 338, 339, 340, 341, 342, 343, 344, 345, 346, 347, 348, 349, 350, 351, 352, 353, 354, 355, 356, 357, 358, 359, 360, 361, 362, 363, 364, 365, 366, 367, 368, 369, 370, 26, 17, 371, 372, 373, 374, 375, 376, 377, 378, 379, 380, 381, 382, 383, 384, 385, 386, 387, 388, 389, 390, 391, 392, 393, 394, 395, 396, 397, 398, 399, 400, 401, 402, 403, 404, 405, 406, 407, 408, 409, 410, 411, 412, 413, 414, 415, 416, 417, 418, 419, 420, 421, 422, 423, 424, 425, 426, 427, 428, 429, 430, 431, 432, 433, 434, 435, 436, 437, 438, 439, 440, 441, 442, 16, 443, 444, 445, 446, 447, 448, 449, 450, 451, 452, 453, 454, 455, 456, 457, 458, 459, 460, 461, 462, 463, 464, 465, 466, 467, 468, 469, 470, 471, 472, 473, 474, 572, 573, 574, 575, 576, 577, 578, 579, 580, 581, 582, 583, 584, 585, 586, 587, 588, 589, 590, 591, 599, 600, 601, 602, 592, 593, 594, 603, 604, 605, 606, 595, 596, 597, 598] (by decide +kernel) (by decide +kernel)) (goodIn_sub (fun _ h => List.mem_cons_of_mem _ (List.mem_append_left _ (List.mem_append_left _ (List.mem_append_right _ h)))) (by decide +kernel))) (goodIn_sub (fun _ h => List.mem_cons_of_mem _ (List.mem_append_left _ (List.mem_append_right _ h))) (by decide +kernel))) (goodIn_sub (fun _ h => List.mem_cons_of_mem _ (List.mem_append_right _ h)) (by decide +kernel))
