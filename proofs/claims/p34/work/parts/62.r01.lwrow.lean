set_option maxRecDepth 20000 in
theorem ggL_call_X5_obey_p2 : GoodIn wsL_call wsX5_obey_r3 := goodIn_r _ [71, 72, 73, 74, 75, 76, 77, 78, 79, 80, 81, 82, 34, 83, 37, 84, 36, 85, 86, 87, 88, 89, 90, 91] (by decide +kernel) (by decide +kernel)
set_option maxRecDepth 20000 in
theorem ggL_call_X5_obey_p3 : GoodIn wsL_call wsX5_obey_r4 := goodIn_r _ [92, 93, 94, 292, 293, 294, 295, 259, 260, 261, 263, 264, 296, 297, 298, 299, 300, 301, 302, 303, 269, 132, 133, 304] (by decide +kernel) (by decide +kernel)
set_option maxRecDepth 20000 in
theorem ggL_call_X5_obey_p4 : GoodIn wsL_call wsX5_obey_r5 := goodIn_r _ [305, 306, 307, 308, 309, 310, 311, 18, 19, 312, 20, 21, 22, 24, 25, 26, 27, 28, 31, 32, 33, 35, 95, 96] (by decide +kernel) (by decide +kernel)
set_option maxRecDepth 20000 in
theorem ggL_call_X5_obey_p5 : GoodIn wsL_call wsX5_obey_r6 := goodIn_r _ [97, 98, 99, 100, 101, 102, 103, 104, 105, 115, 116, 117, 118, 119, 108, 109, 110, 120, 121, 122, 123, 124, 125, 126] (by decide +kernel) (by decide +kernel)
set_option maxRecDepth 20000 in
theorem ggL_call_X5_obey_p6 : GoodIn wsL_call wsX5_obey_r7 := goodIn_r _ [127, 128, 129, 130, 131, 134, 135, 136, 137, 162, 163, 164, 165, 166, 167, 168, 169, 170, 171, 172, 173, 174, 175, 176] (by decide +kernel) (by decide +kernel)
set_option maxRecDepth 20000 in
theorem ggL_call_X5_obey_p7 : GoodIn wsL_call wsX5_obey_r8 := goodIn_r _ [177, 178, 179, 180, 181, 182, 183, 184, 185, 186, 187, 188, 189, 190, 191, 192, 193, 194, 195, 196, 197, 198, 199, 200] (by decide +kernel) (by decide +kernel)
set_option maxRecDepth 20000 in
theorem ggL_call_X5_obey_p8 : GoodIn wsL_call wsX5_obey_r9 := goodIn_r _ [201, 202, 203, 204, 205, 206, 207, 208, 209, 210, 211, 212, 213, 214, 227, 228, 229, 230, 231, 232, 233, 234, 235, 236] (by decide +kernel) (by decide +kernel)
set_option maxRecDepth 20000 in
theorem ggL_call_X5_obey_p9 : GoodIn wsL_call wsX5_obey_r10 := goodIn_r _ [237, 238, 239, 220, 142, 143, 144, 145, 146, 147, 148, 149, 150, 151, 152, 153, 154, 155, 156, 157, 313, 314, 315, 316] (by decide +kernel) (by decide +kernel)
set_option maxRecDepth 20000 in
theorem ggL_call_X5_obey_p10 : GoodIn wsL_call wsX5_obey_r11 := goodIn_r _ [271] (by decide +kernel) (by decide +kernel)
set_option maxRecDepth 20000 in
theorem ggL_call_X5_obey_p11 : GoodIn wsL_call wsX50 := goodIn_r _ [428, 429, 430, 431, 432, 433] (by decide +kernel) (by decide +kernel)
set_option maxRecDepth 20000 in
theorem ggL_call_X5_obey_p12 : GoodIn wsL_call wsX20 := goodIn_r _ [459, 460, 461, 462] (by decide +kernel) (by decide +kernel)
set_option maxRecDepth 20000 in
theorem ggL_call_X5_obey_p13 : GoodIn wsL_call wsX00 := goodIn_r _ [452, 453, 454] (by decide +kernel) (by decide +kernel)
set_option maxRecDepth 20000 in
theorem ggL_call_X5_obey_p14 : GoodIn wsL_call wsX30 := goodIn_r _ [434, 435, 436, 437, 438, 439, 440, 441, 442, 443, 444, 445, 446, 447] (by decide +kernel) (by decide +kernel)
set_option maxRecDepth 20000 in
theorem ggL_call_X5_obey_p15 : GoodIn wsL_call wsX10 := goodIn_r _ [448, 449, 450, 451] (by decide +kernel) (by decide +kernel)
set_option maxRecDepth 20000 in
theorem ggL_call_X5_obey_p16 : GoodIn wsL_call wsX40 := goodIn_r _ [455, 456, 457, 458] (by decide +kernel) (by decide +kernel)
set_option maxRecDepth 20000 in
theorem ggL_call_X5_obey : GoodIn wsL_call wsX5_obey := goodIn_ca (goodIn_app (goodIn_r [.code yX5_obey cX5_obey 2 (some .int)] [287] (by decide +kernel) (by decide +kernel)) (goodIn_app (goodIn_app (goodIn_app (goodIn_app (goodIn_app (goodIn_app (goodIn_app ggL_call_X5_obey_p0 (goodIn_app ggL_call_X5_obey_p1 (goodIn_app ggL_call_X5_obey_p2 (goodIn_app ggL_call_X5_obey_p3 (goodIn_app ggL_call_X5_obey_p4 (goodIn_app ggL_call_X5_obey_p5 (goodIn_app ggL_call_X5_obey_p6 (goodIn_app ggL_call_X5_obey_p7 (goodIn_app ggL_call_X5_obey_p8 (goodIn_app ggL_call_X5_obey_p9 ggL_call_X5_obey_p10)))))))))) ggL_call_X5_obey_p11) ggL_call_X5_obey_p12) ggL_call_X5_obey_p13) ggL_call_X5_obey_p14) ggL_call_X5_obey_p15) ggL_call_X5_obey_p16)) (goodIn_sub (fun _ h => List.mem_cons_of_mem _ (List.mem_append_left _ (List.mem_append_right _ h))) (by decide +kernel))
set_option maxRecDepth 20000 in
theorem gL_call_X5_obey : GoodIn wsL_call (wsV RL 41 RX5 yX5_obey wsX5_obey) := goodIn_app (goodIn_of _ (by decide +kernel)) ggL_call_X5_obey
set_option maxRecDepth 20000 in
theorem ggL_call_X5_goBack : GoodIn wsL_call wsX5_goBack := goodIn_ca (goodIn_r _ [320, 13, 14, 321, 16, 15, 322, 219, 38, 39, 40, 41, 42, 43, 44, 45, 46, 47, 48, 49, 50, 51, 52, 53, 54, 55, 56, 23, 57, 58, 59, 29, 30, 60, 61, 62, 63, 64, 65, 66, 67, 68, 69, 70, 7, 71, 72, 73, 74, 75, 76, 77, 78, 79, 80, 81, 82, 34, 83, 37, 84, 36, 85, 86, 87, 88, 89, 90, 91, 92, 93, 94, 323, 428, 429, 430, 431, 432, 433, 434, 435, 436, 437, 438, 439, 440, 441, 442, 443, 444, 445, 446, 447, 452, 453, 454, 448, 449, 450, 451, 455, 456, 457, 458] (by decide +kernel) (by decide +kernel)) (goodIn_sub (fun _ h => List.mem_cons_of_mem _ (List.mem_append_right _ h)) (by decide +kernel))
set_option maxRecDepth 20000 in
theorem gL_call_X5_goBack : GoodIn wsL_call (wsV RL 44 RX5 yX5_goBack wsX5_goBack) := goodIn_app (goodIn_of _ (by decide +kernel)) ggL_call_X5_goBack
set_option maxRecDepth 20000 in
theorem ggL_call_X5_undo : GoodIn wsL_call wsX5_undo := goodIn_ca (goodIn_r _ [327, 13, 14, 16, 15, 328, 329, 330, 41, 331, 43, 332, 333, 334, 335, 45, 46, 47, 48, 44, 49, 50, 51, 52, 53, 54, 55, 56, 23, 57, 58, 59, 29, 30, 60, 61, 62, 63, 64, 65, 66, 67, 68, 69, 70, 7, 71, 72, 73, 74, 75, 76, 77, 78, 79, 80, 81, 82, 34, 83, 37, 84, 36, 85, 86, 87, 88, 89, 90, 91, 92, 93, 94, 428, 429, 430, 431, 432, 433, 452, 453, 454, 434, 435, 436, 437, 438, 439, 440, 441, 442, 443, 444, 445, 446, 447, 448, 449, 450, 451, 455, 456, 457, 458] (by decide +kernel) (by decide +kernel)) (goodIn_sub (fun _ h => List.mem_cons_of_mem _ (List.mem_append_right _ h)) (by decide +kernel))
set_option maxRecDepth 20000 in
theorem gL_call_X5_undo : GoodIn wsL_call (wsV RL 47 RX5 yX5_undo wsX5_undo) := goodIn_app (goodIn_of _ (by decide +kernel)) ggL_call_X5_undo
set_option maxRecDepth 20000 in
theorem ggL_call_X5_section : GoodIn wsL_call wsX5_section := goodIn_ca (goodIn_ca (goodIn_r _ [339, 9, 10, 11, 12, 15, 225, 17, 18, 7, 19, 340, 341, 342, 89, 343, 91, 132, 133, 344, 345, 346, 23, 347, 62, 59, 348, 200, 201, 202, 196, 197, 74, 198, 349, 350, 351, 352, 178, 179, 180, 181, 58, 63, 182, 51, 52, 53, 183, 184, 185, 186, 60, 61, 174, 175, 176, 34, 177, 85, 167, 168, 169, 170, 171, 172, 173, 353, 192, 193, 194, 195, 73, 75, 92, 428, 429, 430, 431, 432, 433, 434, 435, 436, 437, 438, 439, 440, 441, 442, 443, 444, 445, 446, 447, 455, 456, 457, 458, 448, 449, 450, 451] (by decide +kernel) (by decide +kernel)) (goodIn_sub (fun _ h => List.mem_cons_of_mem _ (List.mem_append_left _ (List.mem_append_left _ (List.mem_append_right _ h)))) (by decide +kernel))) (goodIn_sub (fun _ h => List.mem_cons_of_mem _ (List.mem_append_left _ (List.mem_append_right _ h))) (by decide +kernel))
set_option maxRecDepth 20000 in
theorem gL_call_X5_section : GoodIn wsL_call (wsV RL 50 RX5 yX5_section wsX5_section) := goodIn_app (goodIn_of _ (by decide +kernel)) ggL_call_X5_section
set_option maxRecDepth 20000 in
theorem ggL_call_X5_waiting : GoodIn wsL_call wsX5_waiting := goodIn_ca (goodIn_ca (goodIn_r _ [357, 9, 10, 11, 12, 15, 17, 18, 7, 19, 106, 26, 27, 23, 28, 29, 30, 358, 129, 130, 34, 131, 36, 37, 132, 133, 428, 429, 430, 431, 432, 433, 434, 435, 436, 437, 438, 439, 440, 441, 442, 443, 444, 445, 446, 447, 448, 449, 450, 451] (by decide +kernel) (by decide +kernel)) (goodIn_sub (fun _ h => List.mem_cons_of_mem _ (List.mem_append_left _ (List.mem_append_left _ (List.mem_append_right _ h)))) (by decide +kernel))) (goodIn_sub (fun _ h => List.mem_cons_of_mem _ (List.mem_append_left _ (List.mem_append_right _ h))) (by decide +kernel))
set_option maxRecDepth 20000 in
theorem gL_call_X5_waiting : GoodIn wsL_call (wsV RL 53 RX5 yX5_waiting wsX5_waiting) := goodIn_app (goodIn_of _ (by decide +kernel)) ggL_call_X5_waiting
set_option maxRecDepth 20000 in
theorem ggL_call_X5_deck : GoodIn wsL_call wsX5_deck := goodIn_ca (goodIn_ca (goodIn_r _ [362, 9, 10, 11, 12, 15, 17, 18, 7, 19, 363, 121, 122, 23, 123, 60, 61, 358, 129, 130, 34, 131, 36, 37, 132, 133, 364, 365, 366, 367, 84, 428, 429, 430, 431, 432, 433, 434, 435, 436, 437, 438, 439, 440, 441, 442, 443, 444, 445, 446, 447, 448, 449, 450, 451] (by decide +kernel) (by decide +kernel)) (goodIn_sub (fun _ h => List.mem_cons_of_mem _ (List.mem_append_left _ (List.mem_append_left _ (List.mem_append_right _ h)))) (by decide +kernel))) (goodIn_sub (fun _ h => List.mem_cons_of_mem _ (List.mem_append_left _ (List.mem_append_right _ h))) (by decide +kernel))
set_option maxRecDepth 20000 in
theorem gL_call_X5_deck : GoodIn wsL_call (wsV RL 56 RX5 yX5_deck wsX5_deck) := goodIn_app (goodIn_of _ (by decide +kernel)) ggL_call_X5_deck
set_option maxRecDepth 20000 in
theorem ggL_call_X5_count : GoodIn wsL_call wsX5_count := goodIn_ca (goodIn_r _ [371, 11, 12, 15, 219, 372, 225, 373, 374, 226, 375, 376, 377, 378, 379, 16, 380, 151, 152, 23, 153, 60, 61, 119, 108, 109, 34, 110, 36, 381, 184, 185, 186, 174, 175, 176, 177, 85, 382, 168, 169, 170, 171, 172, 74, 173, 328, 329, 330, 41, 331, 43, 428, 429, 430, 431, 432, 433, 434, 435, 436, 437, 438, 439, 440, 441, 442, 443, 444, 445, 446, 447, 455, 456, 457, 458, 448, 449, 450, 451, 452, 453, 454] (by decide +kernel) (by decide +kernel)) (goodIn_sub (fun _ h => List.mem_cons_of_mem _ (List.mem_append_left _ (List.mem_append_right _ h))) (by decide +kernel))
set_option maxRecDepth 20000 in
theorem gL_call_X5_count : GoodIn wsL_call (wsV RL 60 RX5 yX5_count wsX5_count) := goodIn_app (goodIn_of _ (by decide +kernel)) ggL_call_X5_count
set_option maxRecDepth 20000 in
theorem ggL_call_X5_currentOf : GoodIn wsL_call wsX5_currentOf := goodIn_ca (goodIn_r _ [386, 9, 10, 15, 244, 17, 18, 7, 19, 245, 132, 133, 428, 429, 430, 431, 432, 433, 434, 435, 436, 437, 438, 439, 440, 441, 442, 443, 444, 445, 446, 447] (by decide +kernel) (by decide +kernel)) (goodIn_sub (fun _ h => List.mem_cons_of_mem _ (List.mem_append_left _ (List.mem_append_left _ (List.mem_append_right _ h)))) (by decide +kernel))
set_option maxRecDepth 20000 in
theorem gL_call_X5_currentOf : GoodIn wsL_call (wsV RL 63 RX5 yX5_currentOf wsX5_currentOf) := goodIn_app (goodIn_of _ (by decide +kernel)) ggL_call_X5_currentOf
set_option maxRecDepth 20000 in
theorem ggL_call_X5_setting : GoodIn wsL_call wsX5_setting := goodIn_ca (goodIn_r _ [390, 9, 10, 15, 253, 17, 18, 7, 19, 245, 132, 133, 428, 429, 430, 431, 432, 433, 434, 435, 436, 437, 438, 439, 440, 441, 442, 443, 444, 445, 446, 447] (by decide +kernel) (by decide +kernel)) (goodIn_sub (fun _ h => List.mem_cons_of_mem _ (List.mem_append_left _ (List.mem_append_left _ (List.mem_append_right _ h)))) (by decide +kernel))
set_option maxRecDepth 20000 in
theorem gL_call_X5_setting : GoodIn wsL_call (wsV RL 66 RX5 yX5_setting wsX5_setting) := goodIn_app (goodIn_of _ (by decide +kernel)) ggL_call_X5_setting
set_option maxRecDepth 20000 in
theorem ggL_call_X5_ifLoaded : GoodIn wsL_call wsX5_ifLoaded := goodIn_ca (goodIn_r _ [394, 9, 10, 15, 395, 17, 18, 7, 19, 115, 116, 117, 23, 118, 64, 25, 26, 27, 28, 29, 30, 119, 108, 109, 34, 110, 36, 120, 121, 122, 123, 60, 61, 31, 32, 33, 35, 37, 323, 55, 56, 57, 58, 59, 62, 63, 65, 66, 67, 68, 69, 70, 71, 72, 73, 74, 75, 76, 77, 78, 79, 80, 81, 82, 83, 84, 85, 86, 87, 88, 89, 90, 91, 92, 93, 94, 124, 125, 126, 127, 128, 129, 130, 131, 132, 133, 134, 135, 136, 137, 104, 105, 99, 100, 101, 102, 103, 396, 397, 398, 399, 178, 179, 180, 181, 182, 51, 52, 53, 183, 184, 185, 186, 174, 175, 176, 177, 167, 168, 169, 170, 171, 172, 173, 400, 401, 402, 403, 196, 197, 198, 191, 192, 193, 194, 195, 428, 429, 430, 431, 432, 433, 434, 435, 436, 437, 438, 439, 440, 441, 442, 443, 444, 445, 446, 447, 448, 449, 450, 451, 455, 456, 457, 458] (by decide +kernel) (by decide +kernel)) (goodIn_sub (fun _ h => List.mem_cons_of_mem _ (List.mem_append_left _ (List.mem_append_left _ (List.mem_append_right _ h)))) (by decide +kernel))
set_option maxRecDepth 20000 in
theorem gL_call_X5_ifLoaded : GoodIn wsL_call (wsV RL 69 RX5 yX5_ifLoaded wsX5_ifLoaded) := goodIn_app (goodIn_of _ (by decide +kernel)) ggL_call_X5_ifLoaded
set_option maxRecDepth 20000 in
theorem ggL_call_X5_leastList : GoodIn wsL_call wsX5_leastList := goodIn_ca (goodIn_r _ [407, 11, 12, 15, 17, 18, 7, 19, 408, 409, 410, 23, 411, 64, 412, 73, 74, 75, 25, 26, 27, 28, 29, 30, 119, 108, 109, 34, 110, 36, 413, 414, 415, 416, 60, 61, 417, 418, 419, 420, 421, 422, 423, 424, 425, 426, 427, 171, 172, 173, 174, 175, 176, 177, 85, 128, 129, 130, 131, 37, 132, 133, 428, 429, 430, 431, 432, 433, 434, 435, 436, 437, 438, 439, 440, 441, 442, 443, 444, 445, 446, 447, 448, 449, 450, 451] (by decide +kernel) (by decide +kernel)) (goodIn_sub (fun _ h => List.mem_cons_of_mem _ (List.mem_append_left _ (List.mem_append_right _ h))) (by decide +kernel))
set_option maxRecDepth 20000 in
theorem gL_call_X5_leastList : GoodIn wsL_call (wsV RL 72 RX5 yX5_leastList wsX5_leastList) := goodIn_app (goodIn_of _ (by decide +kernel)) ggL_call_X5_leastList
theorem dL_call_0 : decode cL_call 0 = .ok (.iload_n 1, 1) := by decide +kernel
theorem dL_call_1 : decode cL_call 1 = .ok (.ifCond .ne 12, 3) := by decide +kernel
theorem dL_call_4 : decode cL_call 4 = .ok (.aload_n 0, 1) := by decide +kernel
theorem dL_call_5 : decode cL_call 5 = .ok (.iload_n 2, 1) := by decide +kernel
theorem dL_call_6 : decode cL_call 6 = .ok (.iload_n 3, 1) := by decide +kernel
theorem dL_call_7 : decode cL_call 7 = .ok (.invokevirtual 9, 3) := by decide +kernel
theorem dL_call_10 : decode cL_call 10 = .ok (.goto 262, 3) := by decide +kernel
theorem dL_call_13 : decode cL_call 13 = .ok (.iload_n 1, 1) := by decide +kernel
theorem dL_call_14 : decode cL_call 14 = .ok (.iconst 1, 1) := by decide +kernel
theorem dL_call_15 : decode cL_call 15 = .ok (.if_icmp .ne 11, 3) := by decide +kernel
theorem dL_call_18 : decode cL_call 18 = .ok (.aload_n 0, 1) := by decide +kernel
theorem dL_call_19 : decode cL_call 19 = .ok (.iload_n 2, 1) := by decide +kernel
theorem dL_call_20 : decode cL_call 20 = .ok (.invokevirtual 15, 3) := by decide +kernel
theorem dL_call_23 : decode cL_call 23 = .ok (.goto 249, 3) := by decide +kernel
theorem dL_call_26 : decode cL_call 26 = .ok (.iload_n 1, 1) := by decide +kernel
theorem dL_call_27 : decode cL_call 27 = .ok (.iconst 2, 1) := by decide +kernel
