set_option maxRecDepth 20000 in
theorem ggL_limits_X5_draw : GoodIn wsL_limits wsX5_draw := goodIn_ca (goodIn_ca (goodIn_r _ [279, 92, 93, 280, 281, 13, 19, 204, 282, 97, 98, 3, 99, 250, 251, 252, 12, 253, 42, 254, 103, 104, 105, 18, 106, 76, 75, 107, 108, 109, 110, 74, 111, 112, 113, 114, 115, 116, 117, 118, 30, 31, 35, 36, 37, 38, 119, 120, 121, 122, 123, 124, 125, 43, 44, 45, 46, 47, 48, 49, 50, 51, 52, 126, 127, 128, 34, 129, 57, 58, 59, 60, 130, 131, 132, 41, 133, 65, 66, 67, 68, 255, 256, 257, 258, 259, 260, 261, 262, 101, 102, 135, 136, 263, 193, 194, 195, 196, 197, 198, 199, 572, 573, 574, 575, 576, 577, 578, 579, 580, 581, 582, 583, 584, 585, 586, 587, 588, 589, 590, 591, 603, 604, 605, 606, 592, 593, 594, 599, 600, 601, 602] (by decide +kernel) (by decide +kernel)) (goodIn_sub (fun _ h => List.mem_cons_of_mem _ (List.mem_append_left _ (List.mem_append_right _ h))) (by decide +kernel))) (goodIn_sub (fun _ h => List.mem_cons_of_mem _ (List.mem_append_right _ h)) (by decide +kernel))
set_option maxRecDepth 20000 in
theorem gL_limits_X5_draw : GoodIn wsL_limits (wsV RL 29 RX5 yX5_draw wsX5_draw) := goodIn_app (goodIn_of _ (by decide +kernel)) ggL_limits_X5_draw
set_option maxRecDepth 20000 in
theorem ggL_limits_X5_goBack : GoodIn wsL_limits wsX5_goBack := goodIn_ca (goodIn_r _ [286, 280, 281, 24, 19, 13, 15, 186, 103, 104, 105, 18, 106, 76, 75, 107, 108, 109, 110, 74, 111, 112, 113, 114, 115, 116, 117, 12, 118, 30, 31, 35, 36, 37, 38, 42, 119, 120, 121, 122, 123, 124, 125, 43, 3, 44, 45, 46, 47, 48, 49, 50, 51, 52, 126, 127, 128, 34, 129, 57, 58, 59, 60, 130, 131, 132, 41, 133, 65, 66, 67, 68, 187, 572, 573, 574, 575, 576, 577, 578, 579, 580, 581, 582, 583, 584, 585, 586, 587, 588, 589, 590, 591, 592, 593, 594, 599, 600, 601, 602, 603, 604, 605, 606] (by decide +kernel) (by decide +kernel)) (goodIn_sub (fun _ h => List.mem_cons_of_mem _ (List.mem_append_right _ h)) (by decide +kernel))
set_option maxRecDepth 20000 in
theorem gL_limits_X5_goBack : GoodIn wsL_limits (wsV RL 44 RX5 yX5_goBack wsX5_goBack) := goodIn_app (goodIn_of _ (by decide +kernel)) ggL_limits_X5_goBack
set_option maxRecDepth 20000 in
theorem ggL_limits_X5_count : GoodIn wsL_limits wsX5_count := goodIn_ca (goodIn_r _ [290, 92, 93, 13, 186, 291, 204, 292, 293, 282, 294, 295, 296, 297, 298, 19, 299, 300, 301, 12, 302, 37, 38, 196, 197, 198, 34, 199, 59, 303, 156, 157, 158, 159, 160, 161, 162, 60, 304, 164, 165, 166, 167, 168, 47, 169, 305, 306, 307, 18, 308, 76, 572, 573, 574, 575, 576, 577, 578, 579, 580, 581, 582, 583, 584, 585, 586, 587, 588, 589, 590, 591, 603, 604, 605, 606, 599, 600, 601, 602, 592, 593, 594] (by decide +kernel) (by decide +kernel)) (goodIn_sub (fun _ h => List.mem_cons_of_mem _ (List.mem_append_left _ (List.mem_append_right _ h))) (by decide +kernel))
set_option maxRecDepth 20000 in
theorem gL_limits_X5_count : GoodIn wsL_limits (wsV RL 60 RX5 yX5_count wsX5_count) := goodIn_app (goodIn_of _ (by decide +kernel)) ggL_limits_X5_count
set_option maxRecDepth 20000 in
theorem ggL_limits_X5_cross : GoodIn wsL_limits wsX5_cross := goodIn_ca (goodIn_r _ [312, 280, 281, 13, 19, 226, 227, 228, 12, 229, 31, 42, 230, 163, 164, 165, 166, 37, 38, 167, 168, 47, 169, 159, 160, 161, 34, 162, 60, 101, 3, 102, 150, 151, 152, 153, 30, 119, 154, 112, 113, 114, 155, 156, 157, 158, 231, 232, 233, 41, 234, 177, 178, 179, 180, 181, 46, 48, 66, 174, 175, 176, 235, 214, 215, 216, 65, 103, 104, 105, 18, 106, 76, 75, 107, 108, 109, 110, 74, 111, 115, 116, 117, 118, 35, 36, 120, 121, 122, 123, 124, 125, 43, 44, 45, 49, 50, 51, 52, 126, 127, 128, 129, 57, 58, 59, 130, 131, 132, 133, 67, 68, 268, 269, 270, 271, 272, 273, 274, 275, 135, 136, 263, 193, 194, 195, 196, 197, 198, 199, 572, 573, 574, 575, 576, 577, 578, 579, 580, 581, 582, 583, 584, 585, 586, 587, 588, 589, 590, 591, 603, 604, 605, 606, 599, 600, 601, 602, 592, 593, 594] (by decide +kernel) (by decide +kernel)) (goodIn_sub (fun _ h => List.mem_cons_of_mem _ (List.mem_append_right _ h)) (by decide +kernel))
set_option maxRecDepth 20000 in
theorem gL_limits_X5_cross : GoodIn wsL_limits (wsV RL 23 RX5 yX5_cross wsX5_cross) := goodIn_app (goodIn_of _ (by decide +kernel)) ggL_limits_X5_cross
set_option maxRecDepth 20000 in
theorem ggL_limits_X5_arrive : GoodIn wsL_limits wsX5_arrive := goodIn_ca (goodIn_ca (goodIn_ca (goodIn_r _ [316, 90, 91, 92, 93, 280, 281, 13, 19, 97, 98, 3, 99, 317, 318, 319, 12, 320, 321, 322, 323, 324, 35, 36, 325, 326, 327, 34, 328, 59, 57, 103, 104, 105, 18, 106, 76, 75, 107, 108, 109, 110, 74, 111, 112, 113, 114, 115, 116, 117, 118, 30, 31, 37, 38, 42, 119, 120, 121, 122, 123, 124, 125, 43, 44, 45, 46, 47, 48, 49, 50, 51, 52, 126, 127, 128, 129, 58, 60, 130, 131, 132, 41, 133, 65, 66, 67, 68, 329, 330, 331, 332, 333, 334, 335, 336, 337, 135, 136, 338, 339, 197, 198, 199, 572, 573, 574, 575, 576, 577, 578, 579, 580, 581, 582, 583, 584, 585, 586, 587, 588, 589, 590, 591, 599, 600, 601, 602, 592, 593, 594, 603, 604, 605, 606] (by decide +kernel) (by decide +kernel)) (goodIn_sub (fun _ h => List.mem_cons_of_mem _ (List.mem_append_left _ (List.mem_append_left _ (List.mem_append_right _ h)))) (by decide +kernel))) (goodIn_sub (fun _ h => List.mem_cons_of_mem _ (List.mem_append_left _ (List.mem_append_right _ h))) (by decide +kernel))) (goodIn_sub (fun _ h => List.mem_cons_of_mem _ (List.mem_append_right _ h)) (by decide +kernel))
set_option maxRecDepth 20000 in
theorem gL_limits_X5_arrive : GoodIn wsL_limits (wsV RL 9 RX5 yX5_arrive wsX5_arrive) := goodIn_app (goodIn_of _ (by decide +kernel)) ggL_limits_X5_arrive
set_option maxRecDepth 20000 in
theorem ggL_limits_L_call_p0 : GoodIn wsL_limits wsL_call_r1 := goodIn_r _ [344, 345, 346, 313, 314, 315, 3, 316, 90, 91, 92, 93, 280, 281, 13, 19, 97, 98, 99, 317, 318, 319, 12, 320] (by decide +kernel) (by decide +kernel)
set_option maxRecDepth 20000 in
theorem ggL_limits_L_call_p1 : GoodIn wsL_limits wsL_call_r2 := goodIn_r _ [321, 322, 323, 324, 35, 36, 325, 326, 327, 34, 328, 59, 57, 103, 104, 105, 18, 106, 76, 75, 107, 108, 109, 110] (by decide +kernel) (by decide +kernel)
set_option maxRecDepth 20000 in
theorem ggL_limits_L_call_p2 : GoodIn wsL_limits wsL_call_r3 := goodIn_r _ [74, 111, 112, 113, 114, 115, 116, 117, 118, 30, 31, 37, 38, 42, 119, 120, 121, 122, 123, 124, 125, 43, 44, 45] (by decide +kernel) (by decide +kernel)
set_option maxRecDepth 20000 in
theorem ggL_limits_L_call_p3 : GoodIn wsL_limits wsL_call_r4 := goodIn_r _ [46, 47, 48, 49, 50, 51, 52, 126, 127, 128, 129, 58, 60, 130, 131, 132, 41, 133, 65, 66, 67, 68, 329, 330] (by decide +kernel) (by decide +kernel)
set_option maxRecDepth 20000 in
theorem ggL_limits_L_call_p4 : GoodIn wsL_limits wsL_call_r5 := goodIn_r _ [331, 332, 333, 334, 335, 336, 337, 135, 136, 338, 339, 197, 198, 199, 347, 348, 349, 350, 351, 352, 353, 354, 196, 355] (by decide +kernel) (by decide +kernel)
set_option maxRecDepth 20000 in
theorem ggL_limits_L_call_p5 : GoodIn wsL_limits wsL_call_r6 := goodIn_r _ [356, 357, 358, 359, 360, 361, 362, 363, 364, 365, 366, 101, 102, 367, 368, 369, 370, 371, 372, 373, 374, 375, 376, 377] (by decide +kernel) (by decide +kernel)
set_option maxRecDepth 20000 in
theorem ggL_limits_L_call_p6 : GoodIn wsL_limits wsL_call_r7 := goodIn_r _ [378, 379, 380, 381, 382, 383, 300, 301, 302, 384, 385, 386, 387, 309, 310, 311, 312, 226, 227, 228, 229, 230, 163, 164] (by decide +kernel) (by decide +kernel)
set_option maxRecDepth 20000 in
theorem ggL_limits_L_call_p7 : GoodIn wsL_limits wsL_call_r8 := goodIn_r _ [165, 166, 167, 168, 169, 159, 160, 161, 162, 150, 151, 152, 153, 154, 155, 156, 157, 158, 231, 232, 233, 234, 177, 178] (by decide +kernel) (by decide +kernel)
set_option maxRecDepth 20000 in
theorem ggL_limits_L_call_p8 : GoodIn wsL_limits wsL_call_r9 := goodIn_r _ [179, 180, 181, 174, 175, 176, 235, 214, 215, 216, 268, 269, 270, 271, 272, 273, 274, 275, 263, 193, 194, 195, 188, 189] (by decide +kernel) (by decide +kernel)
set_option maxRecDepth 20000 in
theorem ggL_limits_L_call_p9 : GoodIn wsL_limits wsL_call_r10 := goodIn_r _ [190, 191, 186, 192, 276, 277, 278, 279, 204, 282, 250, 251, 252, 253, 254, 255, 256, 257, 258, 259, 260, 261, 262, 137] (by decide +kernel) (by decide +kernel)
set_option maxRecDepth 20000 in
theorem ggL_limits_L_call_p10 : GoodIn wsL_limits wsL_call_r11 := goodIn_r _ [138, 139, 140, 141, 100, 134, 86, 87, 88, 89, 94, 95, 96, 388, 389, 390, 391, 23, 392, 393, 394, 22, 395, 83] (by decide +kernel) (by decide +kernel)
set_option maxRecDepth 20000 in
theorem ggL_limits_L_call_p11 : GoodIn wsL_limits wsL_call_r12 := goodIn_r _ [396, 397, 398, 399, 82, 85, 84, 400, 401, 402, 403, 404, 405, 406, 407, 408, 409, 410, 411, 412, 413, 414, 415, 416] (by decide +kernel) (by decide +kernel)
set_option maxRecDepth 20000 in
theorem ggL_limits_L_call_p12 : GoodIn wsL_limits wsL_call_r13 := goodIn_r _ [417, 418, 419, 420, 421, 422, 423, 424, 425, 426, 427, 428, 429, 430, 431, 432, 433, 434, 435, 436, 437, 438, 439, 440] (by decide +kernel) (by decide +kernel)
set_option maxRecDepth 20000 in
theorem ggL_limits_L_call_p13 : GoodIn wsL_limits wsL_call_r14 := goodIn_r _ [441, 442, 443, 444, 283, 284, 285, 286, 24, 15, 187, 445, 446, 447, 448, 305, 306, 307, 308, 449, 450, 451, 452, 200] (by decide +kernel) (by decide +kernel)
set_option maxRecDepth 20000 in
theorem ggL_limits_L_call_p14 : GoodIn wsL_limits wsL_call_r15 := goodIn_r _ [201, 202, 203, 205, 206, 207, 208, 209, 210, 211, 212, 213, 217, 218, 219, 220, 221, 453, 454, 455, 456, 457, 458, 459] (by decide +kernel) (by decide +kernel)
set_option maxRecDepth 20000 in
theorem ggL_limits_L_call_p15 : GoodIn wsL_limits wsL_call_r16 := goodIn_r _ [460, 461, 462, 463, 464, 465, 466, 287, 288, 289, 290, 291, 292, 293, 294, 295, 296, 297, 298, 299, 303, 304, 467, 468] (by decide +kernel) (by decide +kernel)
set_option maxRecDepth 20000 in
theorem ggL_limits_L_call_p16 : GoodIn wsL_limits wsL_call_r17 := goodIn_r _ [469, 470, 471, 472, 473, 474, 475, 476, 477, 478, 14, 146, 147, 148, 149, 170, 171, 172, 173, 479, 480, 481, 482, 483] (by decide +kernel) (by decide +kernel)
set_option maxRecDepth 20000 in
theorem ggL_limits_L_call_p17 : GoodIn wsL_limits wsL_call_r18 := goodIn_r _ [484, 485, 486, 487, 488, 489, 490, 491, 492, 493, 494, 495, 496, 497, 498, 499, 500, 501, 502] (by decide +kernel) (by decide +kernel)
set_option maxRecDepth 20000 in
theorem ggL_limits_L_call_p18 : GoodIn wsL_limits wsX50 := goodIn_r _ [572, 573, 574, 575, 576, 577] (by decide +kernel) (by decide +kernel)
set_option maxRecDepth 20000 in
theorem ggL_limits_L_call_p19 : GoodIn wsL_limits wsX30 := goodIn_r _ [578, 579, 580, 581, 582, 583, 584, 585, 586, 587, 588, 589, 590, 591] (by decide +kernel) (by decide +kernel)
set_option maxRecDepth 20000 in
theorem ggL_limits_L_call_p20 : GoodIn wsL_limits wsX10 := goodIn_r _ [599, 600, 601, 602] (by decide +kernel) (by decide +kernel)
set_option maxRecDepth 20000 in
theorem ggL_limits_L_call_p21 : GoodIn wsL_limits wsX00 := goodIn_r _ [592, 593, 594] (by decide +kernel) (by decide +kernel)
set_option maxRecDepth 20000 in
theorem ggL_limits_L_call_p22 : GoodIn wsL_limits wsX40 := goodIn_r _ [603, 604, 605, 606] (by decide +kernel) (by decide +kernel)
set_option maxRecDepth 20000 in
theorem ggL_limits_L_call_p23 : GoodIn wsL_limits wsX20 := goodIn_r _ [595, 596, 597, 598] (by decide +kernel) (by decide +kernel)
set_option maxRecDepth 20000 in
theorem ggL_limits_L_call : GoodIn wsL_limits wsL_call := goodIn_ca (goodIn_ca (goodIn_ca (goodIn_app (goodIn_r [.codeWith yL_call cL_call 5 (some .int) [(0, 272, 273, 75), (0, 272, 278, 77), (0, 272, 283, 79)]] [343] (by decide +kernel) (by decide +kernel)) (goodIn_app (goodIn_app (goodIn_app (goodIn_app (goodIn_app (goodIn_app (goodIn_app ggL_limits_L_call_p0 (goodIn_app ggL_limits_L_call_p1 (goodIn_app ggL_limits_L_call_p2 (goodIn_app ggL_limits_L_call_p3 (goodIn_app ggL_limits_L_call_p4 (goodIn_app ggL_limits_L_call_p5 (goodIn_app ggL_limits_L_call_p6 (goodIn_app ggL_limits_L_call_p7 (goodIn_app ggL_limits_L_call_p8 (goodIn_app ggL_limits_L_call_p9 (goodIn_app ggL_limits_L_call_p10 (goodIn_app ggL_limits_L_call_p11 (goodIn_app ggL_limits_L_call_p12 (goodIn_app ggL_limits_L_call_p13 (goodIn_app ggL_limits_L_call_p14 (goodIn_app ggL_limits_L_call_p15 (goodIn_app ggL_limits_L_call_p16 ggL_limits_L_call_p17))))))))))))))))) ggL_limits_L_call_p18) ggL_limits_L_call_p19) ggL_limits_L_call_p20) ggL_limits_L_call_p21) ggL_limits_L_call_p22) ggL_limits_L_call_p23)) (goodIn_sub (fun _ h => List.mem_cons_of_mem _ (List.mem_append_left _ (List.mem_append_left _ (List.mem_append_right _ h)))) (by decide +kernel))) (goodIn_sub (fun _ h => List.mem_cons_of_mem _ (List.mem_append_left _ (List.mem_append_right _ h))) (by decide +kernel))) (goodIn_sub (fun _ h => List.mem_cons_of_mem _ (List.mem_append_right _ h)) (by decide +kernel))
set_option maxRecDepth 20000 in
theorem gL_limits_L_call : GoodIn wsL_limits (va_wsS RL 91 yL_call wsL_call) := goodIn_app (goodIn_of _ (by decide +kernel)) ggL_limits_L_call
