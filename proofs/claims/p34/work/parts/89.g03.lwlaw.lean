set_option maxRecDepth 20000 in
theorem ggL_law_L_refused_p7 : GoodIn wsL_law wsL_refused_r8 := goodIn_r _ [545, 479, 480, 481, 221, 222, 223, 224, 225, 246, 247, 248, 249, 250, 258, 546, 483, 484, 485, 486, 487, 488, 489, 490] (by decide +kernel) (by decide +kernel)
set_option maxRecDepth 20000 in
theorem ggL_law_L_refused_p8 : GoodIn wsL_law wsL_refused_r9 := goodIn_r _ [491, 547, 443, 444, 445, 20, 174, 175, 176, 177, 140, 115, 179, 119, 120, 121, 122, 374, 136, 137, 138, 141, 142, 143] (by decide +kernel) (by decide +kernel)
set_option maxRecDepth 20000 in
theorem ggL_law_L_refused_p9 : GoodIn wsL_law wsL_refused_r10 := goodIn_r _ [144, 145, 49, 50, 51, 55, 56, 57, 58, 146, 147, 148, 149, 150, 151, 152, 153, 73, 74, 183, 184, 185, 186, 187] (by decide +kernel) (by decide +kernel)
set_option maxRecDepth 20000 in
theorem ggL_law_L_refused_p10 : GoodIn wsL_law wsL_refused_r11 := goodIn_r _ [193, 194, 195, 196, 163, 164, 158, 159, 160, 161, 162, 446, 447, 448, 449, 450, 451, 452, 453, 548, 493, 494, 495, 549] (by decide +kernel) (by decide +kernel)
set_option maxRecDepth 20000 in
theorem ggL_law_L_refused_p11 : GoodIn wsL_law wsL_refused_r12 := goodIn_r _ [455, 456, 457, 458, 459, 460, 461, 462, 463, 464, 465, 466, 467, 468, 469, 470, 471, 472, 473, 474, 475, 476, 477, 550] (by decide +kernel) (by decide +kernel)
set_option maxRecDepth 20000 in
theorem ggL_law_L_refused_p12 : GoodIn wsL_law wsL_refused_r13 := goodIn_r _ [551, 552, 553, 262, 263, 264, 265, 266, 267, 268, 269, 270, 271, 272, 273, 554, 497, 498, 499, 286, 287, 288, 289, 290] (by decide +kernel) (by decide +kernel)
set_option maxRecDepth 20000 in
theorem ggL_law_L_refused_p13 : GoodIn wsL_law wsL_refused_r14 := goodIn_r _ [291, 292, 293, 294, 295, 296, 297, 298, 555, 501, 502, 503, 504, 505, 506, 507, 508, 556, 557, 558, 559, 560, 510, 511] (by decide +kernel) (by decide +kernel)
set_option maxRecDepth 20000 in
theorem ggL_law_L_refused_p14 : GoodIn wsL_law wsL_refused_r15 := goodIn_r _ [512, 561, 562, 563, 564, 565, 566, 567, 568, 569, 570, 29, 317, 318, 319, 28, 320, 89, 365, 354, 355, 356, 88, 571] (by decide +kernel) (by decide +kernel)
set_option maxRecDepth 20000 in
theorem ggL_law_L_refused_p15 : GoodIn wsL_law wsL_refused_r16 := show GoodIn wsL_law (([Cond.static yL_refusesAny, Cond.initialized RL] : List Cond) ++ ((Cond.code yL_refusesAny cL_refusesAny 3 (some .boolean)) :: ([Cond.methodLink RL 91 yL_call, Cond.static yL_call, Cond.codeWith yL_call cL_call 5 (some .int) [(0, 272, 273, 75), (0, 272, 278, 77), (0, 272, 283, 79)], Cond.classLink RL 75 "java/lang/IndexOutOfBoundsException", Cond.classLink RL 77 "java/lang/IllegalArgumentException", Cond.classLink RL 79 "java/lang/IllegalStateException", Cond.methodLink RL 9 yX5_arrive, Cond.instanceMethod yX5_arrive, Cond.selects RX5 yX5_arrive yX5_arrive, Cond.code yX5_arrive cX5_arrive 3 (some .int), Cond.classLink RX5 80 "java/lang/IllegalStateException", Cond.initialized "java/lang/IllegalStateException", Cond.methodLink RX5 76 yX3_canArrive, Cond.instanceMethod yX3_canArrive, Cond.selects RX3 yX3_canArrive yX3_canArrive, Cond.code yX3_canArrive cX3_canArrive 2 (some .boolean), Cond.methodLink RX5 56 yX0_save, Cond.instanceMethod yX0_save, Cond.selects RX0 yX0_save yX0_save, Cond.code yX0_save cX0_save 3 none, Cond.fieldLink RX0 18 "CableFerry$History" "oldest" "I"]))) from goodIn_app (goodIn_r _ [572, 6] (by decide +kernel) (by decide +kernel)) (goodIn_c7 (List.mem_of_getElem? (i := 573) rfl) (goodIn_r _ [92, 93, 94, 95, 96, 97, 98, 99, 100, 101, 106, 107, 111, 112, 113, 114, 123, 124, 125, 126, 81] (by decide +kernel) (by decide +kernel)))
set_option maxRecDepth 20000 in
theorem ggL_law_L_refused_p16 : GoodIn wsL_law wsL_refused_r17 := goodIn_r _ [127, 128, 129, 130, 80, 131, 135, 154, 155, 156, 157, 170, 171, 172, 173, 197, 198, 199, 200, 201, 202, 203, 204, 205] (by decide +kernel) (by decide +kernel)
set_option maxRecDepth 20000 in
theorem ggL_law_L_refused_p17 : GoodIn wsL_law wsL_refused_r18 := goodIn_r _ [206, 207, 208, 209, 213, 214, 215, 216, 217, 218, 219, 220, 274, 275, 276, 277, 279, 280, 281, 282, 283, 299, 300, 301] (by decide +kernel) (by decide +kernel)
set_option maxRecDepth 20000 in
theorem ggL_law_L_refused_p18 : GoodIn wsL_law wsL_refused_r19 := goodIn_r _ [302, 305, 306, 307, 308, 309, 310, 311, 313, 314, 315, 316, 321, 322, 323, 324, 91, 90, 325, 326, 327, 328, 329, 330] (by decide +kernel) (by decide +kernel)
set_option maxRecDepth 20000 in
theorem ggL_law_L_refused_p19 : GoodIn wsL_law wsL_refused_r20 := goodIn_r _ [331, 332, 333, 334, 335, 336, 337, 338, 339, 340, 341, 342, 343, 344, 345, 346, 347, 348, 349, 350, 351, 352, 353, 357] (by decide +kernel) (by decide +kernel)
set_option maxRecDepth 20000 in
theorem ggL_law_L_refused_p20 : GoodIn wsL_law wsL_refused_r21 := goodIn_r _ [358, 359, 360, 361, 362, 363, 364, 366, 367, 368, 369, 370, 371, 372, 373, 21, 375, 376, 377, 378, 383, 384, 385, 386] (by decide +kernel) (by decide +kernel)
set_option maxRecDepth 20000 in
theorem ggL_law_L_refused_p21 : GoodIn wsL_law wsL_refused_r22 := goodIn_r _ [387, 405, 406, 407, 408, 410, 411, 412, 413, 419, 434, 438, 442, 454] (by decide +kernel) (by decide +kernel)
set_option maxRecDepth 20000 in
theorem ggL_law_L_refused_p22 : GoodIn wsL_law wsX50 := goodIn_r _ [638, 639, 640, 641, 642, 643] (by decide +kernel) (by decide +kernel)
set_option maxRecDepth 20000 in
theorem ggL_law_L_refused_p23 : GoodIn wsL_law wsX30 := goodIn_r _ [644, 645, 646, 647, 648, 649, 650, 651, 652, 653, 654, 655, 656, 657] (by decide +kernel) (by decide +kernel)
set_option maxRecDepth 20000 in
theorem ggL_law_L_refused_p24 : GoodIn wsL_law wsX40 := goodIn_r _ [669, 670, 671, 672] (by decide +kernel) (by decide +kernel)
set_option maxRecDepth 20000 in
theorem ggL_law_L_refused_p25 : GoodIn wsL_law wsX10 := goodIn_r _ [665, 666, 667, 668] (by decide +kernel) (by decide +kernel)
set_option maxRecDepth 20000 in
theorem ggL_law_L_refused_p26 : GoodIn wsL_law wsX00 := goodIn_r _ [658, 659, 660] (by decide +kernel) (by decide +kernel)
set_option maxRecDepth 20000 in
theorem ggL_law_L_refused_p27 : GoodIn wsL_law wsX20 := goodIn_r _ [661, 662, 663, 664] (by decide +kernel) (by decide +kernel)
set_option maxRecDepth 20000 in
theorem ggL_law_L_refused : GoodIn wsL_law wsL_refused := goodIn_ca (goodIn_ca (goodIn_ca (goodIn_app (goodIn_r [.code yL_refused cL_refused 3 (some .boolean)] [515] (by decide +kernel) (by decide +kernel)) (goodIn_app (goodIn_app (goodIn_app (goodIn_app (goodIn_app (goodIn_app (goodIn_app ggL_law_L_refused_p0 (goodIn_app ggL_law_L_refused_p1 (goodIn_app ggL_law_L_refused_p2 (goodIn_app ggL_law_L_refused_p3 (goodIn_app ggL_law_L_refused_p4 (goodIn_app ggL_law_L_refused_p5 (goodIn_app ggL_law_L_refused_p6 (goodIn_app ggL_law_L_refused_p7 (goodIn_app ggL_law_L_refused_p8 (goodIn_app ggL_law_L_refused_p9 (goodIn_app ggL_law_L_refused_p10 (goodIn_app ggL_law_L_refused_p11 (goodIn_app ggL_law_L_refused_p12 (goodIn_app ggL_law_L_refused_p13 (goodIn_app ggL_law_L_refused_p14 (goodIn_app ggL_law_L_refused_p15 (goodIn_app ggL_law_L_refused_p16 (goodIn_app ggL_law_L_refused_p17 (goodIn_app ggL_law_L_refused_p18 (goodIn_app ggL_law_L_refused_p19 (goodIn_app ggL_law_L_refused_p20 ggL_law_L_refused_p21))))))))))))))))))))) ggL_law_L_refused_p22) ggL_law_L_refused_p23) ggL_law_L_refused_p24) ggL_law_L_refused_p25) ggL_law_L_refused_p26) ggL_law_L_refused_p27)) (goodIn_sub (fun _ h => List.mem_append_left _ (List.mem_append_right _ h)) (by decide +kernel))) (goodIn_sub (fun _ h => List.mem_append_left _ (List.mem_append_left _ (List.mem_append_right _ h))) (by decide +kernel))) (goodIn_sub (fun _ h => List.mem_append_right _ h) (by decide +kernel))
set_option maxRecDepth 20000 in
theorem gL_law_L_refused : GoodIn wsL_law (va_wsS RL 123 yL_refused wsL_refused) := goodIn_app (goodIn_of _ (by decide +kernel)) ggL_law_L_refused
set_option maxRecDepth 20000 in
theorem ggL_law_X5_undo : GoodIn wsL_law wsX5_undo := goodIn_ca (goodIn_r _ [378, 106, 107, 25, 19, 379, 380, 381, 24, 382, 82, 383, 384, 385, 386, 127, 128, 129, 130, 81, 80, 131, 132, 133, 134, 135, 136, 137, 18, 138, 36, 37, 41, 42, 43, 44, 48, 139, 140, 141, 142, 143, 144, 145, 49, 2, 50, 51, 52, 53, 54, 55, 56, 57, 58, 146, 147, 148, 40, 149, 63, 64, 65, 66, 150, 151, 152, 47, 153, 71, 72, 73, 74, 638, 639, 640, 641, 642, 643, 658, 659, 660, 644, 645, 646, 647, 648, 649, 650, 651, 652, 653, 654, 655, 656, 657, 665, 666, 667, 668, 669, 670, 671, 672] (by decide +kernel) (by decide +kernel)) (goodIn_sub (fun _ h => List.mem_append_right _ h) (by decide +kernel))
set_option maxRecDepth 20000 in
theorem gL_law_X5_undo : GoodIn wsL_law (wsV RL 47 RX5 yX5_undo wsX5_undo) := goodIn_app (goodIn_of _ (by decide +kernel)) ggL_law_X5_undo
set_option maxRecDepth 20000 in
theorem ggL_law_X5_goBack : GoodIn wsL_law wsX5_goBack := goodIn_ca (goodIn_r _ [373, 106, 107, 30, 25, 19, 21, 278, 123, 124, 125, 24, 126, 82, 81, 127, 128, 129, 130, 80, 131, 132, 133, 134, 135, 136, 137, 18, 138, 36, 37, 41, 42, 43, 44, 48, 139, 140, 141, 142, 143, 144, 145, 49, 2, 50, 51, 52, 53, 54, 55, 56, 57, 58, 146, 147, 148, 40, 149, 63, 64, 65, 66, 150, 151, 152, 47, 153, 71, 72, 73, 74, 374, 638, 639, 640, 641, 642, 643, 644, 645, 646, 647, 648, 649, 650, 651, 652, 653, 654, 655, 656, 657, 658, 659, 660, 665, 666, 667, 668, 669, 670, 671, 672] (by decide +kernel) (by decide +kernel)) (goodIn_sub (fun _ h => List.mem_append_right _ h) (by decide +kernel))
set_option maxRecDepth 20000 in
theorem gL_law_X5_goBack : GoodIn wsL_law (wsV RL 44 RX5 yX5_goBack wsX5_goBack) := goodIn_app (goodIn_of _ (by decide +kernel)) ggL_law_X5_goBack
set_option maxRecDepth 20000 in
theorem ggL_law_X5_waiting : GoodIn wsL_law wsX5_waiting := goodIn_ca (goodIn_ca (goodIn_r _ [408, 102, 103, 104, 105, 19, 108, 109, 2, 110, 165, 116, 117, 18, 118, 41, 42, 409, 188, 189, 40, 190, 65, 63, 191, 192, 638, 639, 640, 641, 642, 643, 644, 645, 646, 647, 648, 649, 650, 651, 652, 653, 654, 655, 656, 657, 665, 666, 667, 668] (by decide +kernel) (by decide +kernel)) (goodIn_sub (fun _ h => List.mem_append_left _ (List.mem_append_left _ (List.mem_append_right _ h))) (by decide +kernel))) (goodIn_sub (fun _ h => List.mem_append_left _ (List.mem_append_right _ h)) (by decide +kernel))
set_option maxRecDepth 20000 in
theorem gL_law_X5_waiting : GoodIn wsL_law (wsV RL 53 RX5 yX5_waiting wsX5_waiting) := goodIn_app (goodIn_of _ (by decide +kernel)) ggL_law_X5_waiting
theorem dL_law_0 : decode cL_law 0 = .ok (.invokestatic 191, 3) := by decide +kernel
theorem dL_law_3 : decode cL_law 3 = .ok (.ifCond .eq 15, 3) := by decide +kernel
theorem dL_law_6 : decode cL_law 6 = .ok (.invokestatic 195, 3) := by decide +kernel
theorem dL_law_9 : decode cL_law 9 = .ok (.ifCond .eq 9, 3) := by decide +kernel
theorem dL_law_12 : decode cL_law 12 = .ok (.invokestatic 198, 3) := by decide +kernel
theorem dL_law_15 : decode cL_law 15 = .ok (.ifCond .ne 5, 3) := by decide +kernel
theorem dL_law_18 : decode cL_law 18 = .ok (.iconst 0, 1) := by decide +kernel
theorem dL_law_19 : decode cL_law 19 = .ok (.ireturn, 1) := by decide +kernel
theorem dL_law_20 : decode cL_law 20 = .ok (.new 10, 3) := by decide +kernel
theorem dL_law_23 : decode cL_law 23 = .ok (.dup, 1) := by decide +kernel
theorem dL_law_24 : decode cL_law 24 = .ok (.invokespecial 105, 3) := by decide +kernel
theorem dL_law_27 : decode cL_law 27 = .ok (.astore_n 1, 1) := by decide +kernel
theorem dL_law_28 : decode cL_law 28 = .ok (.bipush 64, 2) := by decide +kernel
theorem dL_law_30 : decode cL_law 30 = .ok (.newarray .long, 2) := by decide +kernel
theorem dL_law_32 : decode cL_law 32 = .ok (.astore_n 2, 1) := by decide +kernel
theorem dL_law_33 : decode cL_law 33 = .ok (.iconst 0, 1) := by decide +kernel
theorem dL_law_34 : decode cL_law 34 = .ok (.istore_n 3, 1) := by decide +kernel
theorem dL_law_35 : decode cL_law 35 = .ok (.aload_n 1, 1) := by decide +kernel
theorem dL_law_36 : decode cL_law 36 = .ok (.iconst 0, 1) := by decide +kernel
theorem dL_law_37 : decode cL_law 37 = .ok (.bipush 9, 2) := by decide +kernel
theorem dL_law_39 : decode cL_law 39 = .ok (.invokevirtual 9, 3) := by decide +kernel
theorem dL_law_42 : decode cL_law 42 = .ok (.iconst 1, 1) := by decide +kernel
theorem dL_law_43 : decode cL_law 43 = .ok (.if_icmp .ne 30, 3) := by decide +kernel
theorem dL_law_46 : decode cL_law 46 = .ok (.aload_n 1, 1) := by decide +kernel
theorem dL_law_47 : decode cL_law 47 = .ok (.iconst 1, 1) := by decide +kernel
theorem dL_law_48 : decode cL_law 48 = .ok (.iconst 4, 1) := by decide +kernel
theorem dL_law_49 : decode cL_law 49 = .ok (.invokevirtual 9, 3) := by decide +kernel
theorem dL_law_52 : decode cL_law 52 = .ok (.iconst 1, 1) := by decide +kernel
theorem dL_law_53 : decode cL_law 53 = .ok (.if_icmp .ne 20, 3) := by decide +kernel
theorem dL_law_56 : decode cL_law 56 = .ok (.aload_n 1, 1) := by decide +kernel
theorem dL_law_57 : decode cL_law 57 = .ok (.iconst 0, 1) := by decide +kernel
theorem dL_law_58 : decode cL_law 58 = .ok (.invokevirtual 15, 3) := by decide +kernel
theorem dL_law_61 : decode cL_law 61 = .ok (.bipush 9, 2) := by decide +kernel
theorem dL_law_63 : decode cL_law 63 = .ok (.if_icmp .ne 10, 3) := by decide +kernel
theorem dL_law_66 : decode cL_law 66 = .ok (.aload_n 1, 1) := by decide +kernel
theorem dL_law_67 : decode cL_law 67 = .ok (.invokevirtual 130, 3) := by decide +kernel
