set_option maxRecDepth 20000 in
theorem ggL_crossings_X5_ifLoaded : GoodIn wsL_crossings wsX5_ifLoaded := goodIn_ca (goodIn_r _ [442, 99, 100, 15, 16, 105, 106, 3, 107, 171, 172, 173, 14, 174, 137, 112, 113, 114, 115, 37, 38, 175, 164, 165, 36, 166, 61, 176, 177, 178, 179, 39, 40, 116, 117, 118, 119, 59, 371, 133, 134, 135, 32, 33, 44, 136, 138, 139, 140, 141, 142, 45, 46, 47, 48, 49, 50, 51, 52, 53, 54, 143, 144, 145, 146, 60, 62, 147, 148, 149, 43, 150, 67, 68, 69, 70, 180, 181, 182, 183, 184, 185, 186, 187, 188, 189, 190, 191, 192, 193, 160, 161, 155, 156, 157, 158, 159, 443, 444, 445, 446, 234, 235, 236, 237, 238, 129, 130, 131, 239, 240, 241, 242, 230, 231, 232, 233, 223, 224, 225, 226, 227, 228, 229, 447, 448, 449, 450, 252, 253, 254, 247, 248, 249, 250, 251, 572, 573, 574, 575, 576, 577, 578, 579, 580, 581, 582, 583, 584, 585, 586, 587, 588, 589, 590, 591, 599, 600, 601, 602, 603, 604, 605, 606] (by decide +kernel) (by decide +kernel)) (goodIn_sub (fun _ h => List.mem_cons_of_mem _ (List.mem_append_left _ (List.mem_append_left _ (List.mem_append_right _ h)))) (by decide +kernel))
set_option maxRecDepth 20000 in
theorem gL_crossings_X5_ifLoaded : GoodIn wsL_crossings (wsV RL 69 RX5 yX5_ifLoaded wsX5_ifLoaded) := goodIn_app (goodIn_of _ (by decide +kernel)) ggL_crossings_X5_ifLoaded
set_option maxRecDepth 20000 in
theorem ggL_crossings_X5_leastList : GoodIn wsL_crossings wsX5_leastList := goodIn_ca (goodIn_r _ [454, 101, 102, 15, 105, 106, 3, 107, 455, 456, 457, 14, 458, 137, 459, 48, 49, 50, 112, 113, 114, 115, 37, 38, 175, 164, 165, 36, 166, 61, 460, 461, 462, 463, 39, 40, 464, 465, 466, 467, 468, 469, 470, 471, 472, 473, 474, 227, 228, 229, 230, 231, 232, 233, 62, 184, 185, 186, 187, 59, 188, 189, 572, 573, 574, 575, 576, 577, 578, 579, 580, 581, 582, 583, 584, 585, 586, 587, 588, 589, 590, 591, 599, 600, 601, 602] (by decide +kernel) (by decide +kernel)) (goodIn_sub (fun _ h => List.mem_cons_of_mem _ (List.mem_append_left _ (List.mem_append_right _ h))) (by decide +kernel))
set_option maxRecDepth 20000 in
theorem gL_crossings_X5_leastList : GoodIn wsL_crossings (wsV RL 72 RX5 yX5_leastList wsX5_leastList) := goodIn_app (goodIn_of _ (by decide +kernel)) ggL_crossings_X5_leastList
set_option maxRecDepth 20000 in
theorem ggL_crossings_X5_wornShare : GoodIn wsL_crossings wsX5_wornShare := goodIn_r _ [500, 15, 281, 501, 502, 503, 504, 43, 505, 67, 188, 3, 189, 572, 573, 574, 575, 576, 577, 578, 579, 580, 581, 582, 583, 584, 585, 586, 587, 588, 589, 590, 591, 603, 604, 605, 606] (by decide +kernel) (by decide +kernel)
set_option maxRecDepth 20000 in
theorem gL_crossings_X5_wornShare : GoodIn wsL_crossings (wsV RL 115 RX5 yX5_wornShare wsX5_wornShare) := goodIn_app (goodIn_of _ (by decide +kernel)) ggL_crossings_X5_wornShare
set_option maxRecDepth 20000 in
theorem ggL_crossings_X5_carriedShare : GoodIn wsL_crossings wsX5_carriedShare := goodIn_r _ [509, 15, 425, 426, 572, 573, 574, 575, 576, 577, 578, 579, 580, 581, 582, 583, 584, 585, 586, 587, 588, 589, 590, 591] (by decide +kernel) (by decide +kernel)
set_option maxRecDepth 20000 in
theorem gL_crossings_X5_carriedShare : GoodIn wsL_crossings (wsV RL 119 RX5 yX5_carriedShare wsX5_carriedShare) := goodIn_app (goodIn_of _ (by decide +kernel)) ggL_crossings_X5_carriedShare
set_option maxRecDepth 20000 in
theorem ggL_crossings_L_refused_p0 : GoodIn wsL_crossings wsL_refused_r1 := goodIn_r _ [513, 514, 515, 3, 516, 517, 26, 518, 519, 520, 521, 522, 417, 418, 419, 101, 102, 15, 275, 420, 281, 421, 422, 282] (by decide +kernel) (by decide +kernel)
set_option maxRecDepth 20000 in
theorem ggL_crossings_L_refused_p1 : GoodIn wsL_crossings wsL_refused_r2 := goodIn_r _ [423, 424, 425, 426, 427, 21, 428, 207, 208, 14, 209, 39, 40, 175, 164, 165, 36, 166, 61, 429, 240, 241, 242, 230] (by decide +kernel) (by decide +kernel)
set_option maxRecDepth 20000 in
theorem ggL_crossings_L_refused_p2 : GoodIn wsL_crossings wsL_refused_r3 := goodIn_r _ [231, 232, 233, 62, 430, 224, 225, 226, 227, 228, 49, 229, 376, 377, 378, 20, 379, 78, 523, 524, 525, 526, 527, 528] (by decide +kernel) (by decide +kernel)
set_option maxRecDepth 20000 in
theorem ggL_crossings_L_refused_p3 : GoodIn wsL_crossings wsL_refused_r4 := goodIn_r _ [529, 530, 531, 436, 437, 438, 99, 100, 309, 105, 106, 107, 301, 188, 189, 532, 432, 433, 434, 300, 533, 385, 386, 387] (by decide +kernel) (by decide +kernel)
set_option maxRecDepth 20000 in
theorem ggL_crossings_L_refused_p4 : GoodIn wsL_crossings wsL_refused_r5 := goodIn_r _ [388, 389, 390, 43, 391, 67, 392, 393, 394, 395, 44, 33, 396, 256, 257, 258, 252, 253, 254, 397, 398, 399, 400, 234] (by decide +kernel) (by decide +kernel)
set_option maxRecDepth 20000 in
theorem ggL_crossings_L_refused_p5 : GoodIn wsL_crossings wsL_refused_r6 := goodIn_r _ [235, 236, 237, 32, 136, 238, 129, 130, 131, 239, 223, 401, 248, 249, 250, 251, 48, 50, 68, 534, 535, 536, 537, 162] (by decide +kernel) (by decide +kernel)
set_option maxRecDepth 20000 in
theorem ggL_crossings_L_refused_p6 : GoodIn wsL_crossings wsL_refused_r7 := goodIn_r _ [113, 114, 115, 37, 38, 163, 406, 185, 186, 187, 59, 411, 177, 178, 179, 412, 413, 414, 415, 60, 538, 539, 540, 541] (by decide +kernel) (by decide +kernel)
set_option maxRecDepth 20000 in
theorem ggL_crossings_L_refused_p7 : GoodIn wsL_crossings wsL_refused_r8 := goodIn_r _ [542, 476, 477, 478, 218, 219, 220, 221, 222, 243, 244, 245, 246, 247, 255, 543, 480, 481, 482, 483, 484, 485, 486, 487] (by decide +kernel) (by decide +kernel)
set_option maxRecDepth 20000 in
theorem ggL_crossings_L_refused_p8 : GoodIn wsL_crossings wsL_refused_r9 := goodIn_r _ [488, 544, 440, 441, 442, 16, 171, 172, 173, 174, 137, 112, 176, 116, 117, 118, 119, 371, 133, 134, 135, 138, 139, 140] (by decide +kernel) (by decide +kernel)
set_option maxRecDepth 20000 in
theorem ggL_crossings_L_refused_p9 : GoodIn wsL_crossings wsL_refused_r10 := goodIn_r _ [141, 142, 45, 46, 47, 51, 52, 53, 54, 143, 144, 145, 146, 147, 148, 149, 150, 69, 70, 180, 181, 182, 183, 184] (by decide +kernel) (by decide +kernel)
set_option maxRecDepth 20000 in
theorem ggL_crossings_L_refused_p10 : GoodIn wsL_crossings wsL_refused_r11 := goodIn_r _ [190, 191, 192, 193, 160, 161, 155, 156, 157, 158, 159, 443, 444, 445, 446, 447, 448, 449, 450, 545, 490, 491, 492, 546] (by decide +kernel) (by decide +kernel)
set_option maxRecDepth 20000 in
theorem ggL_crossings_L_refused_p11 : GoodIn wsL_crossings wsL_refused_r12 := goodIn_r _ [452, 453, 454, 455, 456, 457, 458, 459, 460, 461, 462, 463, 464, 465, 466, 467, 468, 469, 470, 471, 472, 473, 474, 547] (by decide +kernel) (by decide +kernel)
set_option maxRecDepth 20000 in
theorem ggL_crossings_L_refused_p12 : GoodIn wsL_crossings wsL_refused_r13 := goodIn_r _ [548, 549, 550, 259, 260, 261, 262, 263, 264, 265, 266, 267, 268, 269, 270, 551, 494, 495, 496, 283, 284, 285, 286, 287] (by decide +kernel) (by decide +kernel)
set_option maxRecDepth 20000 in
theorem ggL_crossings_L_refused_p13 : GoodIn wsL_crossings wsL_refused_r14 := goodIn_r _ [288, 289, 290, 291, 292, 293, 294, 295, 552, 498, 499, 500, 501, 502, 503, 504, 505, 553, 554, 555, 556, 557, 507, 508] (by decide +kernel) (by decide +kernel)
set_option maxRecDepth 20000 in
theorem ggL_crossings_L_refused_p14 : GoodIn wsL_crossings wsL_refused_r15 := goodIn_r _ [509, 558, 559, 560, 561, 562, 563, 564, 565, 566, 567, 25, 314, 315, 316, 24, 317, 85, 362, 351, 352, 353, 84, 568] (by decide +kernel) (by decide +kernel)
set_option maxRecDepth 20000 in
theorem ggL_crossings_L_refused_p15 : GoodIn wsL_crossings wsL_refused_r16 := show GoodIn wsL_crossings (([Cond.static yL_refusesAny, Cond.initialized RL] : List Cond) ++ ((Cond.code yL_refusesAny cL_refusesAny 3 (some .boolean)) :: ([Cond.methodLink RL 91 yL_call, Cond.static yL_call, Cond.codeWith yL_call cL_call 5 (some .int) [(0, 272, 273, 75), (0, 272, 278, 77), (0, 272, 283, 79)], Cond.classLink RL 75 "java/lang/IndexOutOfBoundsException", Cond.classLink RL 77 "java/lang/IllegalArgumentException", Cond.classLink RL 79 "java/lang/IllegalStateException", Cond.methodLink RL 9 yX5_arrive, Cond.instanceMethod yX5_arrive, Cond.selects RX5 yX5_arrive yX5_arrive, Cond.code yX5_arrive cX5_arrive 3 (some .int), Cond.classLink RX5 80 "java/lang/IllegalStateException", Cond.initialized "java/lang/IllegalStateException", Cond.methodLink RX5 76 yX3_canArrive, Cond.instanceMethod yX3_canArrive, Cond.selects RX3 yX3_canArrive yX3_canArrive, Cond.code yX3_canArrive cX3_canArrive 2 (some .boolean), Cond.methodLink RX5 56 yX0_save, Cond.instanceMethod yX0_save, Cond.selects RX0 yX0_save yX0_save, Cond.code yX0_save cX0_save 3 none, Cond.fieldLink RX0 18 "CableFerry$History" "oldest" "I"]))) from goodIn_app (goodIn_r _ [569, 90] (by decide +kernel) (by decide +kernel)) (goodIn_c7 (List.mem_of_getElem? (i := 570) rfl) (goodIn_r _ [88, 89, 91, 92, 93, 94, 95, 96, 97, 98, 103, 104, 108, 109, 110, 111, 120, 121, 122, 123, 77] (by decide +kernel) (by decide +kernel)))
set_option maxRecDepth 20000 in
theorem ggL_crossings_L_refused_p16 : GoodIn wsL_crossings wsL_refused_r17 := goodIn_r _ [124, 125, 126, 127, 76, 128, 132, 151, 152, 153, 154, 167, 168, 169, 170, 194, 195, 196, 197, 198, 199, 200, 201, 202] (by decide +kernel) (by decide +kernel)
set_option maxRecDepth 20000 in
theorem ggL_crossings_L_refused_p17 : GoodIn wsL_crossings wsL_refused_r18 := goodIn_r _ [203, 204, 205, 206, 210, 211, 212, 213, 214, 215, 216, 217, 271, 272, 273, 274, 276, 277, 278, 279, 280, 296, 297, 298] (by decide +kernel) (by decide +kernel)
set_option maxRecDepth 20000 in
theorem ggL_crossings_L_refused_p18 : GoodIn wsL_crossings wsL_refused_r19 := goodIn_r _ [299, 302, 303, 304, 305, 306, 307, 308, 310, 311, 312, 313, 318, 319, 320, 321, 87, 86, 322, 323, 324, 325, 326, 327] (by decide +kernel) (by decide +kernel)
set_option maxRecDepth 20000 in
theorem ggL_crossings_L_refused_p19 : GoodIn wsL_crossings wsL_refused_r20 := goodIn_r _ [328, 329, 330, 331, 332, 333, 334, 335, 336, 337, 338, 339, 340, 341, 342, 343, 344, 345, 346, 347, 348, 349, 350, 354] (by decide +kernel) (by decide +kernel)
set_option maxRecDepth 20000 in
theorem ggL_crossings_L_refused_p20 : GoodIn wsL_crossings wsL_refused_r21 := goodIn_r _ [355, 356, 357, 358, 359, 360, 361, 363, 364, 365, 366, 367, 368, 369, 370, 17, 372, 373, 374, 375, 380, 381, 382, 383] (by decide +kernel) (by decide +kernel)
set_option maxRecDepth 20000 in
theorem ggL_crossings_L_refused_p21 : GoodIn wsL_crossings wsL_refused_r22 := goodIn_r _ [384, 402, 403, 404, 405, 407, 408, 409, 410, 416, 431, 435, 439, 451] (by decide +kernel) (by decide +kernel)
set_option maxRecDepth 20000 in
theorem ggL_crossings_L_refused_p22 : GoodIn wsL_crossings wsX50 := goodIn_r _ [572, 573, 574, 575, 576, 577] (by decide +kernel) (by decide +kernel)
set_option maxRecDepth 20000 in
theorem ggL_crossings_L_refused_p23 : GoodIn wsL_crossings wsX30 := goodIn_r _ [578, 579, 580, 581, 582, 583, 584, 585, 586, 587, 588, 589, 590, 591] (by decide +kernel) (by decide +kernel)
set_option maxRecDepth 20000 in
theorem ggL_crossings_L_refused_p24 : GoodIn wsL_crossings wsX40 := goodIn_r _ [603, 604, 605, 606] (by decide +kernel) (by decide +kernel)
set_option maxRecDepth 20000 in
theorem ggL_crossings_L_refused_p25 : GoodIn wsL_crossings wsX10 := goodIn_r _ [599, 600, 601, 602] (by decide +kernel) (by decide +kernel)
set_option maxRecDepth 20000 in
theorem ggL_crossings_L_refused_p26 : GoodIn wsL_crossings wsX00 := goodIn_r _ [592, 593, 594] (by decide +kernel) (by decide +kernel)
set_option maxRecDepth 20000 in
theorem ggL_crossings_L_refused_p27 : GoodIn wsL_crossings wsX20 := goodIn_r _ [595, 596, 597, 598] (by decide +kernel) (by decide +kernel)
set_option maxRecDepth 20000 in
theorem ggL_crossings_L_refused : GoodIn wsL_crossings wsL_refused := goodIn_ca (goodIn_ca (goodIn_ca (goodIn_app (goodIn_r [.code yL_refused cL_refused 3 (some .boolean)] [512] (by decide +kernel) (by decide +kernel)) (goodIn_app (goodIn_app (goodIn_app (goodIn_app (goodIn_app (goodIn_app (goodIn_app ggL_crossings_L_refused_p0 (goodIn_app ggL_crossings_L_refused_p1 (goodIn_app ggL_crossings_L_refused_p2 (goodIn_app ggL_crossings_L_refused_p3 (goodIn_app ggL_crossings_L_refused_p4 (goodIn_app ggL_crossings_L_refused_p5 (goodIn_app ggL_crossings_L_refused_p6 (goodIn_app ggL_crossings_L_refused_p7 (goodIn_app ggL_crossings_L_refused_p8 (goodIn_app ggL_crossings_L_refused_p9 (goodIn_app ggL_crossings_L_refused_p10 (goodIn_app ggL_crossings_L_refused_p11 (goodIn_app ggL_crossings_L_refused_p12 (goodIn_app ggL_crossings_L_refused_p13 (goodIn_app ggL_crossings_L_refused_p14 (goodIn_app ggL_crossings_L_refused_p15 (goodIn_app ggL_crossings_L_refused_p16 (goodIn_app ggL_crossings_L_refused_p17 (goodIn_app ggL_crossings_L_refused_p18 (goodIn_app ggL_crossings_L_refused_p19 (goodIn_app ggL_crossings_L_refused_p20 ggL_crossings_L_refused_p21))))))))))))))))))))) ggL_crossings_L_refused_p22) ggL_crossings_L_refused_p23) ggL_crossings_L_refused_p24) ggL_crossings_L_refused_p25) ggL_crossings_L_refused_p26) ggL_crossings_L_refused_p27)) (goodIn_sub (fun _ h => List.mem_cons_of_mem _ (List.mem_append_left _ (List.mem_append_right _ h))) (by decide +kernel))) (goodIn_sub (fun _ h => List.mem_cons_of_mem _ (List.mem_append_left _ (List.mem_append_left _ (List.mem_append_right _ h)))) (by decide +kernel))) (goodIn_sub (fun _ h => List.mem_cons_of_mem _ (List.mem_append_right _ h)) (by decide +kernel))
set_option maxRecDepth 20000 in
theorem gL_crossings_L_refused : GoodIn wsL_crossings (va_wsS RL 123 yL_refused wsL_refused) := goodIn_app (goodIn_of _ (by decide +kernel)) ggL_crossings_L_refused
set_option maxRecDepth 20000 in
theorem ggL_crossings_X5_cross : GoodIn wsL_crossings wsX5_cross := goodIn_ca (goodIn_r _ [217, 103, 104, 15, 21, 218, 219, 220, 14, 221, 33, 44, 222, 223, 224, 225, 226, 39, 40, 227, 228, 49, 229, 230, 231, 232, 36, 233, 62, 188, 3, 189, 234, 235, 236, 237, 32, 136, 238, 129, 130, 131, 239, 240, 241, 242, 243, 244, 245, 43, 246, 247, 248, 249, 250, 251, 48, 50, 68, 252, 253, 254, 255, 256, 257, 258, 67, 120, 121, 122, 20, 123, 78, 77, 124, 125, 126, 127, 76, 128, 132, 133, 134, 135, 37, 38, 137, 138, 139, 140, 141, 142, 45, 46, 47, 51, 52, 53, 54, 143, 144, 145, 146, 59, 60, 61, 147, 148, 149, 150, 69, 70, 259, 260, 261, 262, 263, 264, 265, 266, 160, 161, 267, 268, 269, 270, 175, 164, 165, 166, 572, 573, 574, 575, 576, 577, 578, 579, 580, 581, 582, 583, 584, 585, 586, 587, 588, 589, 590, 591, 603, 604, 605, 606, 599, 600, 601, 602, 592, 593, 594] (by decide +kernel) (by decide +kernel)) (goodIn_sub (fun _ h => List.mem_cons_of_mem _ (List.mem_append_right _ h)) (by decide +kernel))
set_option maxRecDepth 20000 in
theorem gL_crossings_X5_cross : GoodIn wsL_crossings (wsV RL 23 RX5 yX5_cross wsX5_cross) := goodIn_app (goodIn_of _ (by decide +kernel)) ggL_crossings_X5_cross
set_option maxRecDepth 20000 in
theorem ggL_crossings_X5_count : GoodIn wsL_crossings wsX5_count := goodIn_ca (goodIn_r _ [419, 101, 102, 15, 275, 420, 281, 421, 422, 282, 423, 424, 425, 426, 427, 21, 428, 207, 208, 14, 209, 39, 40, 175, 164, 165, 36, 166, 61, 429, 240, 241, 242, 230, 231, 232, 233, 62, 430, 224, 225, 226, 227, 228, 49, 229, 376, 377, 378, 20, 379, 78, 572, 573, 574, 575, 576, 577, 578, 579, 580, 581, 582, 583, 584, 585, 586, 587, 588, 589, 590, 591, 603, 604, 605, 606, 599, 600, 601, 602, 592, 593, 594] (by decide +kernel) (by decide +kernel)) (goodIn_sub (fun _ h => List.mem_cons_of_mem _ (List.mem_append_left _ (List.mem_append_right _ h))) (by decide +kernel))
set_option maxRecDepth 20000 in
theorem gL_crossings_X5_count : GoodIn wsL_crossings (wsV RL 60 RX5 yX5_count wsX5_count) := goodIn_app (goodIn_of _ (by decide +kernel)) ggL_crossings_X5_count
