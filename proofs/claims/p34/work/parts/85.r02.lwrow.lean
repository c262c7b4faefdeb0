set_option maxRecDepth 20000 in
theorem ggL_limits_X5_load : GoodIn wsL_limits wsX5_load := goodIn_ca (goodIn_ca (goodIn_r _ [350, 90, 91, 280, 281, 13, 19, 97, 98, 3, 99, 351, 352, 353, 12, 354, 120, 321, 322, 323, 324, 35, 36, 196, 197, 198, 34, 199, 59, 355, 356, 357, 358, 37, 38, 325, 326, 327, 328, 57, 103, 104, 105, 18, 106, 76, 75, 107, 108, 109, 110, 74, 111, 112, 113, 114, 115, 116, 117, 118, 30, 31, 42, 119, 121, 122, 123, 124, 125, 43, 44, 45, 46, 47, 48, 49, 50, 51, 52, 126, 127, 128, 129, 58, 60, 130, 131, 132, 41, 133, 65, 66, 67, 68, 359, 360, 361, 362, 363, 364, 365, 366, 101, 102, 367, 368, 369, 370, 135, 136, 333, 334, 335, 336, 337, 572, 573, 574, 575, 576, 577, 578, 579, 580, 581, 582, 583, 584, 585, 586, 587, 588, 589, 590, 591, 599, 600, 601, 602, 592, 593, 594, 603, 604, 605, 606] (by decide +kernel) (by decide +kernel)) (goodIn_sub (fun _ h => List.mem_cons_of_mem _ (List.mem_append_left _ (List.mem_append_left _ (List.mem_append_right _ h)))) (by decide +kernel))) (goodIn_sub (fun _ h => List.mem_cons_of_mem _ (List.mem_append_right _ h)) (by decide +kernel))
set_option maxRecDepth 20000 in
theorem gL_limits_X5_load : GoodIn wsL_limits (wsV RL 15 RX5 yX5_load wsX5_load) := goodIn_app (goodIn_of _ (by decide +kernel)) ggL_limits_X5_load
set_option maxRecDepth 20000 in
theorem ggL_limits_X5_ifLoaded : GoodIn wsL_limits wsX5_ifLoaded := goodIn_ca (goodIn_r _ [478, 90, 91, 13, 14, 97, 98, 3, 99, 351, 352, 353, 12, 354, 120, 321, 322, 323, 324, 35, 36, 196, 197, 198, 34, 199, 59, 355, 356, 357, 358, 37, 38, 325, 326, 327, 328, 57, 187, 116, 117, 118, 30, 31, 42, 119, 121, 122, 123, 124, 125, 43, 44, 45, 46, 47, 48, 49, 50, 51, 52, 126, 127, 128, 129, 58, 60, 130, 131, 132, 41, 133, 65, 66, 67, 68, 359, 360, 361, 362, 363, 364, 365, 366, 101, 102, 367, 368, 369, 370, 135, 136, 333, 334, 335, 336, 337, 146, 147, 148, 149, 150, 151, 152, 153, 154, 112, 113, 114, 155, 156, 157, 158, 159, 160, 161, 162, 163, 164, 165, 166, 167, 168, 169, 170, 171, 172, 173, 174, 175, 176, 177, 178, 179, 180, 181, 572, 573, 574, 575, 576, 577, 578, 579, 580, 581, 582, 583, 584, 585, 586, 587, 588, 589, 590, 591, 599, 600, 601, 602, 603, 604, 605, 606] (by decide +kernel) (by decide +kernel)) (goodIn_sub (fun _ h => List.mem_cons_of_mem _ (List.mem_append_left _ (List.mem_append_left _ (List.mem_append_right _ h)))) (by decide +kernel))
set_option maxRecDepth 20000 in
theorem gL_limits_X5_ifLoaded : GoodIn wsL_limits (wsV RL 69 RX5 yX5_ifLoaded wsX5_ifLoaded) := goodIn_app (goodIn_of _ (by decide +kernel)) ggL_limits_X5_ifLoaded
set_option maxRecDepth 20000 in
theorem ggL_limits_X5_leastList : GoodIn wsL_limits wsX5_leastList := goodIn_ca (goodIn_r _ [482, 92, 93, 13, 97, 98, 3, 99, 483, 484, 485, 12, 486, 120, 487, 46, 47, 48, 321, 322, 323, 324, 35, 36, 196, 197, 198, 34, 199, 59, 488, 489, 490, 491, 37, 38, 492, 493, 494, 495, 496, 497, 498, 499, 500, 501, 502, 167, 168, 169, 159, 160, 161, 162, 60, 363, 364, 365, 366, 57, 101, 102, 572, 573, 574, 575, 576, 577, 578, 579, 580, 581, 582, 583, 584, 585, 586, 587, 588, 589, 590, 591, 599, 600, 601, 602] (by decide +kernel) (by decide +kernel)) (goodIn_sub (fun _ h => List.mem_cons_of_mem _ (List.mem_append_left _ (List.mem_append_right _ h))) (by decide +kernel))
set_option maxRecDepth 20000 in
theorem gL_limits_X5_leastList : GoodIn wsL_limits (wsV RL 72 RX5 yX5_leastList wsX5_leastList) := goodIn_app (goodIn_of _ (by decide +kernel)) ggL_limits_X5_leastList
set_option maxRecDepth 20000 in
theorem ggL_limits_X5_waiting : GoodIn wsL_limits wsX5_waiting := goodIn_ca (goodIn_ca (goodIn_r _ [456, 90, 91, 92, 93, 13, 97, 98, 3, 99, 338, 322, 323, 12, 324, 35, 36, 457, 364, 365, 34, 366, 59, 57, 101, 102, 572, 573, 574, 575, 576, 577, 578, 579, 580, 581, 582, 583, 584, 585, 586, 587, 588, 589, 590, 591, 599, 600, 601, 602] (by decide +kernel) (by decide +kernel)) (goodIn_sub (fun _ h => List.mem_cons_of_mem _ (List.mem_append_left _ (List.mem_append_left _ (List.mem_append_right _ h)))) (by decide +kernel))) (goodIn_sub (fun _ h => List.mem_cons_of_mem _ (List.mem_append_left _ (List.mem_append_right _ h))) (by decide +kernel))
set_option maxRecDepth 20000 in
theorem gL_limits_X5_waiting : GoodIn wsL_limits (wsV RL 53 RX5 yX5_waiting wsX5_waiting) := goodIn_app (goodIn_of _ (by decide +kernel)) ggL_limits_X5_waiting
set_option maxRecDepth 20000 in
theorem ggL_limits_X5_deck : GoodIn wsL_limits wsX5_deck := goodIn_ca (goodIn_ca (goodIn_r _ [461, 90, 91, 92, 93, 13, 97, 98, 3, 99, 462, 356, 357, 12, 358, 37, 38, 457, 364, 365, 34, 366, 59, 57, 101, 102, 463, 464, 465, 466, 58, 572, 573, 574, 575, 576, 577, 578, 579, 580, 581, 582, 583, 584, 585, 586, 587, 588, 589, 590, 591, 599, 600, 601, 602] (by decide +kernel) (by decide +kernel)) (goodIn_sub (fun _ h => List.mem_cons_of_mem _ (List.mem_append_left _ (List.mem_append_left _ (List.mem_append_right _ h)))) (by decide +kernel))) (goodIn_sub (fun _ h => List.mem_cons_of_mem _ (List.mem_append_left _ (List.mem_append_right _ h))) (by decide +kernel))
set_option maxRecDepth 20000 in
theorem gL_limits_X5_deck : GoodIn wsL_limits (wsV RL 56 RX5 yX5_deck wsX5_deck) := goodIn_app (goodIn_of _ (by decide +kernel)) ggL_limits_X5_deck
set_option maxRecDepth 20000 in
theorem ggL_limits_L_refused_p0 : GoodIn wsL_limits wsL_refused_r1 := goodIn_r _ [506, 507, 508, 3, 509, 510, 24, 511, 512, 513, 514, 515, 288, 289, 290, 92, 93, 13, 186, 291, 204, 292, 293, 282] (by decide +kernel) (by decide +kernel)
set_option maxRecDepth 20000 in
theorem ggL_limits_L_refused_p1 : GoodIn wsL_limits wsL_refused_r2 := goodIn_r _ [294, 295, 296, 297, 298, 19, 299, 300, 301, 12, 302, 37, 38, 196, 197, 198, 34, 199, 59, 303, 156, 157, 158, 159] (by decide +kernel) (by decide +kernel)
set_option maxRecDepth 20000 in
theorem ggL_limits_L_refused_p2 : GoodIn wsL_limits wsL_refused_r3 := goodIn_r _ [160, 161, 162, 60, 304, 164, 165, 166, 167, 168, 47, 169, 305, 306, 307, 18, 308, 76, 516, 517, 518, 519, 520, 521] (by decide +kernel) (by decide +kernel)
set_option maxRecDepth 20000 in
theorem ggL_limits_L_refused_p3 : GoodIn wsL_limits wsL_refused_r4 := goodIn_r _ [522, 523, 524, 472, 473, 474, 90, 91, 96, 97, 98, 99, 100, 101, 102, 525, 468, 469, 470, 141, 526, 201, 202, 203] (by decide +kernel) (by decide +kernel)
set_option maxRecDepth 20000 in
theorem ggL_limits_L_refused_p4 : GoodIn wsL_limits wsL_refused_r5 := goodIn_r _ [205, 206, 207, 41, 208, 65, 209, 210, 211, 212, 42, 31, 213, 214, 215, 216, 174, 175, 176, 217, 218, 219, 220, 150] (by decide +kernel) (by decide +kernel)
set_option maxRecDepth 20000 in
theorem ggL_limits_L_refused_p5 : GoodIn wsL_limits wsL_refused_r6 := goodIn_r _ [151, 152, 153, 30, 119, 154, 112, 113, 114, 155, 163, 221, 178, 179, 180, 181, 46, 48, 66, 527, 528, 529, 530, 338] (by decide +kernel) (by decide +kernel)
set_option maxRecDepth 20000 in
theorem ggL_limits_L_refused_p6 : GoodIn wsL_limits wsL_refused_r7 := goodIn_r _ [322, 323, 324, 35, 36, 339, 457, 364, 365, 366, 57, 462, 356, 357, 358, 463, 464, 465, 466, 58, 531, 532, 533, 534] (by decide +kernel) (by decide +kernel)
set_option maxRecDepth 20000 in
theorem ggL_limits_L_refused_p7 : GoodIn wsL_limits wsL_refused_r8 := goodIn_r _ [535, 223, 224, 225, 226, 227, 228, 229, 230, 231, 232, 233, 234, 177, 235, 536, 237, 238, 239, 240, 241, 242, 243, 244] (by decide +kernel) (by decide +kernel)
set_option maxRecDepth 20000 in
theorem ggL_limits_L_refused_p8 : GoodIn wsL_limits wsL_refused_r9 := goodIn_r _ [245, 537, 476, 477, 478, 14, 351, 352, 353, 354, 120, 321, 355, 325, 326, 327, 328, 187, 116, 117, 118, 121, 122, 123] (by decide +kernel) (by decide +kernel)
set_option maxRecDepth 20000 in
theorem ggL_limits_L_refused_p9 : GoodIn wsL_limits wsL_refused_r10 := goodIn_r _ [124, 125, 43, 44, 45, 49, 50, 51, 52, 126, 127, 128, 129, 130, 131, 132, 133, 67, 68, 359, 360, 361, 362, 363] (by decide +kernel) (by decide +kernel)
set_option maxRecDepth 20000 in
theorem ggL_limits_L_refused_p10 : GoodIn wsL_limits wsL_refused_r11 := goodIn_r _ [367, 368, 369, 370, 135, 136, 333, 334, 335, 336, 337, 146, 147, 148, 149, 170, 171, 172, 173, 538, 143, 144, 145, 539] (by decide +kernel) (by decide +kernel)
set_option maxRecDepth 20000 in
theorem ggL_limits_L_refused_p11 : GoodIn wsL_limits wsL_refused_r12 := goodIn_r _ [480, 481, 482, 483, 484, 485, 486, 487, 488, 489, 490, 491, 492, 493, 494, 495, 496, 497, 498, 499, 500, 501, 502, 540] (by decide +kernel) (by decide +kernel)
set_option maxRecDepth 20000 in
theorem ggL_limits_L_refused_p12 : GoodIn wsL_limits wsL_refused_r13 := goodIn_r _ [265, 266, 267, 268, 269, 270, 271, 272, 273, 274, 275, 263, 193, 194, 195, 541, 247, 248, 249, 250, 251, 252, 253, 254] (by decide +kernel) (by decide +kernel)
set_option maxRecDepth 20000 in
theorem ggL_limits_L_refused_p13 : GoodIn wsL_limits wsL_refused_r14 := goodIn_r _ [255, 256, 257, 258, 259, 260, 261, 262, 542, 543, 544, 545, 546, 547, 548, 549, 550, 551, 552, 553, 554, 555, 556, 557] (by decide +kernel) (by decide +kernel)
set_option maxRecDepth 20000 in
theorem ggL_limits_L_refused_p14 : GoodIn wsL_limits wsL_refused_r15 := goodIn_r _ [558, 559, 560, 561, 562, 563, 564, 565, 566, 567, 568, 23, 392, 393, 394, 22, 395, 83, 440, 429, 430, 431, 82, 569] (by decide +kernel) (by decide +kernel)
set_option maxRecDepth 20000 in
theorem ggL_limits_L_refused_p15 : GoodIn wsL_limits wsL_refused_r16 := show GoodIn wsL_limits (([Cond.static yL_refusesAny, Cond.initialized RL] : List Cond) ++ ((Cond.code yL_refusesAny cL_refusesAny 3 (some .boolean)) :: ([Cond.methodLink RL 91 yL_call, Cond.static yL_call, Cond.codeWith yL_call cL_call 5 (some .int) [(0, 272, 273, 75), (0, 272, 278, 77), (0, 272, 283, 79)], Cond.classLink RL 75 "java/lang/IndexOutOfBoundsException", Cond.classLink RL 77 "java/lang/IllegalArgumentException", Cond.classLink RL 79 "java/lang/IllegalStateException", Cond.methodLink RL 9 yX5_arrive, Cond.instanceMethod yX5_arrive, Cond.selects RX5 yX5_arrive yX5_arrive, Cond.code yX5_arrive cX5_arrive 3 (some .int), Cond.classLink RX5 80 "java/lang/IllegalStateException", Cond.initialized "java/lang/IllegalStateException", Cond.methodLink RX5 76 yX3_canArrive, Cond.instanceMethod yX3_canArrive, Cond.selects RX3 yX3_canArrive yX3_canArrive, Cond.code yX3_canArrive cX3_canArrive 2 (some .boolean), Cond.methodLink RX5 56 yX0_save, Cond.instanceMethod yX0_save, Cond.selects RX0 yX0_save yX0_save, Cond.code yX0_save cX0_save 3 none, Cond.fieldLink RX0 18 "CableFerry$History" "oldest" "I"]))) from goodIn_app (goodIn_r _ [570, 342] (by decide +kernel) (by decide +kernel)) (goodIn_c7 (List.mem_of_getElem? (i := 571) rfl) (goodIn_r _ [340, 341, 343, 344, 345, 346, 313, 314, 315, 316, 280, 281, 317, 318, 319, 320, 103, 104, 105, 106, 75] (by decide +kernel) (by decide +kernel)))
set_option maxRecDepth 20000 in
theorem ggL_limits_L_refused_p16 : GoodIn wsL_limits wsL_refused_r17 := goodIn_r _ [107, 108, 109, 110, 74, 111, 115, 329, 330, 331, 332, 347, 348, 349, 350, 371, 372, 373, 374, 375, 376, 377, 378, 379] (by decide +kernel) (by decide +kernel)
set_option maxRecDepth 20000 in
theorem ggL_limits_L_refused_p17 : GoodIn wsL_limits wsL_refused_r18 := goodIn_r _ [380, 381, 382, 383, 384, 385, 386, 387, 309, 310, 311, 312, 188, 189, 190, 191, 192, 276, 277, 278, 279, 137, 138, 139] (by decide +kernel) (by decide +kernel)
set_option maxRecDepth 20000 in
theorem ggL_limits_L_refused_p18 : GoodIn wsL_limits wsL_refused_r19 := goodIn_r _ [140, 134, 86, 87, 88, 89, 94, 95, 388, 389, 390, 391, 396, 397, 398, 399, 85, 84, 400, 401, 402, 403, 404, 405] (by decide +kernel) (by decide +kernel)
set_option maxRecDepth 20000 in
theorem ggL_limits_L_refused_p19 : GoodIn wsL_limits wsL_refused_r20 := goodIn_r _ [406, 407, 408, 409, 410, 411, 412, 413, 414, 415, 416, 417, 418, 419, 420, 421, 422, 423, 424, 425, 426, 427, 428, 432] (by decide +kernel) (by decide +kernel)
set_option maxRecDepth 20000 in
theorem ggL_limits_L_refused_p20 : GoodIn wsL_limits wsL_refused_r21 := goodIn_r _ [433, 434, 435, 436, 437, 438, 439, 441, 442, 443, 444, 283, 284, 285, 286, 15, 445, 446, 447, 448, 449, 450, 451, 452] (by decide +kernel) (by decide +kernel)
set_option maxRecDepth 20000 in
theorem ggL_limits_L_refused_p21 : GoodIn wsL_limits wsL_refused_r22 := goodIn_r _ [200, 453, 454, 455, 456, 458, 459, 460, 461, 287, 467, 471, 475, 479] (by decide +kernel) (by decide +kernel)
set_option maxRecDepth 20000 in
theorem ggL_limits_L_refused_p22 : GoodIn wsL_limits wsX50 := goodIn_r _ [572, 573, 574, 575, 576, 577] (by decide +kernel) (by decide +kernel)
set_option maxRecDepth 20000 in
theorem ggL_limits_L_refused_p23 : GoodIn wsL_limits wsX30 := goodIn_r _ [578, 579, 580, 581, 582, 583, 584, 585, 586, 587, 588, 589, 590, 591] (by decide +kernel) (by decide +kernel)
set_option maxRecDepth 20000 in
theorem ggL_limits_L_refused_p24 : GoodIn wsL_limits wsX40 := goodIn_r _ [603, 604, 605, 606] (by decide +kernel) (by decide +kernel)
set_option maxRecDepth 20000 in
theorem ggL_limits_L_refused_p25 : GoodIn wsL_limits wsX10 := goodIn_r _ [599, 600, 601, 602] (by decide +kernel) (by decide +kernel)
set_option maxRecDepth 20000 in
theorem ggL_limits_L_refused_p26 : GoodIn wsL_limits wsX00 := goodIn_r _ [592, 593, 594] (by decide +kernel) (by decide +kernel)
set_option maxRecDepth 20000 in
theorem ggL_limits_L_refused_p27 : GoodIn wsL_limits wsX20 := goodIn_r _ [595, 596, 597, 598] (by decide +kernel) (by decide +kernel)
set_option maxRecDepth 20000 in
theorem ggL_limits_L_refused : GoodIn wsL_limits wsL_refused := goodIn_ca (goodIn_ca (goodIn_ca (goodIn_app (goodIn_r [.code yL_refused cL_refused 3 (some .boolean)] [505] (by decide +kernel) (by decide +kernel)) (goodIn_app (goodIn_app (goodIn_app (goodIn_app (goodIn_app (goodIn_app (goodIn_app ggL_limits_L_refused_p0 (goodIn_app ggL_limits_L_refused_p1 (goodIn_app ggL_limits_L_refused_p2 (goodIn_app ggL_limits_L_refused_p3 (goodIn_app ggL_limits_L_refused_p4 (goodIn_app ggL_limits_L_refused_p5 (goodIn_app ggL_limits_L_refused_p6 (goodIn_app ggL_limits_L_refused_p7 (goodIn_app ggL_limits_L_refused_p8 (goodIn_app ggL_limits_L_refused_p9 (goodIn_app ggL_limits_L_refused_p10 (goodIn_app ggL_limits_L_refused_p11 (goodIn_app ggL_limits_L_refused_p12 (goodIn_app ggL_limits_L_refused_p13 (goodIn_app ggL_limits_L_refused_p14 (goodIn_app ggL_limits_L_refused_p15 (goodIn_app ggL_limits_L_refused_p16 (goodIn_app ggL_limits_L_refused_p17 (goodIn_app ggL_limits_L_refused_p18 (goodIn_app ggL_limits_L_refused_p19 (goodIn_app ggL_limits_L_refused_p20 ggL_limits_L_refused_p21))))))))))))))))))))) ggL_limits_L_refused_p22) ggL_limits_L_refused_p23) ggL_limits_L_refused_p24) ggL_limits_L_refused_p25) ggL_limits_L_refused_p26) ggL_limits_L_refused_p27)) (goodIn_sub (fun _ h => List.mem_cons_of_mem _ (List.mem_append_left _ (List.mem_append_right _ h))) (by decide +kernel))) (goodIn_sub (fun _ h => List.mem_cons_of_mem _ (List.mem_append_left _ (List.mem_append_left _ (List.mem_append_right _ h)))) (by decide +kernel))) (goodIn_sub (fun _ h => List.mem_cons_of_mem _ (List.mem_append_right _ h)) (by decide +kernel))
set_option maxRecDepth 20000 in
theorem gL_limits_L_refused : GoodIn wsL_limits (va_wsS RL 123 yL_refused wsL_refused) := goodIn_app (goodIn_of _ (by decide +kernel)) ggL_limits_L_refused
theorem dL_limits_0 : decode cL_limits 0 = .ok (.new 10, 3) := by decide +kernel
theorem dL_limits_3 : decode cL_limits 3 = .ok (.dup, 1) := by decide +kernel
theorem dL_limits_4 : decode cL_limits 4 = .ok (.invokespecial 105, 3) := by decide +kernel
theorem dL_limits_7 : decode cL_limits 7 = .ok (.astore_n 0, 1) := by decide +kernel
theorem dL_limits_8 : decode cL_limits 8 = .ok (.aload_n 0, 1) := by decide +kernel
theorem dL_limits_9 : decode cL_limits 9 = .ok (.iconst 0, 1) := by decide +kernel
