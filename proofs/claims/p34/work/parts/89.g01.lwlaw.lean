set_option maxRecDepth 20000 in
theorem ggL_law_L_limits_p19 : GoodIn wsL_law wsL_limits_r20 := goodIn_r _ [409, 410, 411, 412, 413, 414, 415, 416, 417, 418, 434, 435, 436, 437, 438, 439, 440, 441, 442, 443, 444, 445, 454, 455] (by decide +kernel) (by decide +kernel)
set_option maxRecDepth 20000 in
theorem ggL_law_L_limits_p20 : GoodIn wsL_law wsL_limits_r21 := goodIn_r _ [456, 457, 458, 459, 460, 461, 462, 463, 464, 465, 466, 467, 468, 469, 470, 471, 472, 473, 474, 475, 476, 477, 513, 514] (by decide +kernel) (by decide +kernel)
set_option maxRecDepth 20000 in
theorem ggL_law_L_limits_p21 : GoodIn wsL_law wsL_limits_r22 := goodIn_r _ [515, 516, 517, 518, 519, 520, 521, 522, 523, 524, 525, 526, 527, 528, 529, 530, 531, 532, 533, 534, 535, 536, 537, 538] (by decide +kernel) (by decide +kernel)
set_option maxRecDepth 20000 in
theorem ggL_law_L_limits_p22 : GoodIn wsL_law wsL_limits_r23 := goodIn_r _ [539, 540, 541, 542, 543, 544, 545, 546, 547, 548, 549, 550, 554, 555, 501, 502, 503, 504, 505, 506, 507, 508, 556, 557] (by decide +kernel) (by decide +kernel)
set_option maxRecDepth 20000 in
theorem ggL_law_L_limits_p23 : GoodIn wsL_law wsL_limits_r24 := show GoodIn wsL_law (([Cond.code yX5_floatBits cX5_floatBits 3 (some .int), Cond.constantFloat RX5 372 (1258291200), Cond.methodLink RX5 302 yX5_carriedShare, Cond.instanceMethod yX5_carriedShare, Cond.selects RX5 yX5_carriedShare yX5_carriedShare, Cond.code yX5_carriedShare cX5_carriedShare 2 (some .double), Cond.methodLink RX5 306 yX5_doubleBits, Cond.static yX5_doubleBits, Cond.code yX5_doubleBits cX5_doubleBits 6 (some .long), Cond.constantLong RX5 373 (1023), Cond.constantDouble RX5 375 (4611686018427387904), Cond.constantDouble RX5 377 (4841369599423283200), Cond.methodLink RX5 310 yX5_mixBuffer, Cond.instanceMethod yX5_mixBuffer, Cond.selects RX5 yX5_mixBuffer yX5_mixBuffer, Cond.code yX5_mixBuffer cX5_mixBuffer 6 (some .long), Cond.methodLink RL 101 yL_refusesAny, Cond.static yL_refusesAny] : List Cond) ++ ((Cond.code yL_refusesAny cL_refusesAny 3 (some .boolean)) :: ([]))) from goodIn_app (goodIn_r _ [558, 559, 560, 510, 511, 512, 561, 562, 563, 564, 565, 566, 567, 568, 569, 570, 571, 572] (by decide +kernel) (by decide +kernel)) (goodIn_c7 (List.mem_of_getElem? (i := 573) rfl) (goodIn_r _ [] (by decide +kernel) (by decide +kernel)))
set_option maxRecDepth 20000 in
theorem ggL_law_L_limits_p24 : GoodIn wsL_law wsX50 := goodIn_r _ [638, 639, 640, 641, 642, 643] (by decide +kernel) (by decide +kernel)
set_option maxRecDepth 20000 in
theorem ggL_law_L_limits_p25 : GoodIn wsL_law wsX30 := goodIn_r _ [644, 645, 646, 647, 648, 649, 650, 651, 652, 653, 654, 655, 656, 657] (by decide +kernel) (by decide +kernel)
set_option maxRecDepth 20000 in
theorem ggL_law_L_limits_p26 : GoodIn wsL_law wsX00 := goodIn_r _ [658, 659, 660] (by decide +kernel) (by decide +kernel)
set_option maxRecDepth 20000 in
theorem ggL_law_L_limits_p27 : GoodIn wsL_law wsX20 := goodIn_r _ [661, 662, 663, 664] (by decide +kernel) (by decide +kernel)
set_option maxRecDepth 20000 in
theorem ggL_law_L_limits_p28 : GoodIn wsL_law wsX10 := goodIn_r _ [665, 666, 667, 668] (by decide +kernel) (by decide +kernel)
set_option maxRecDepth 20000 in
theorem ggL_law_L_limits_p29 : GoodIn wsL_law wsX40 := goodIn_r _ [669, 670, 671, 672] (by decide +kernel) (by decide +kernel)
set_option maxRecDepth 20000 in
theorem ggL_law_L_limits : GoodIn wsL_law wsL_limits := goodIn_ca (goodIn_ca (goodIn_ca (goodIn_c7 (List.mem_of_getElem? (i := 577) rfl) (goodIn_app (goodIn_app (goodIn_app (goodIn_app (goodIn_app (goodIn_app (goodIn_app ggL_law_L_limits_p0 (goodIn_app ggL_law_L_limits_p1 (goodIn_app ggL_law_L_limits_p2 (goodIn_app ggL_law_L_limits_p3 (goodIn_app ggL_law_L_limits_p4 (goodIn_app ggL_law_L_limits_p5 (goodIn_app ggL_law_L_limits_p6 (goodIn_app ggL_law_L_limits_p7 (goodIn_app ggL_law_L_limits_p8 (goodIn_app ggL_law_L_limits_p9 (goodIn_app ggL_law_L_limits_p10 (goodIn_app ggL_law_L_limits_p11 (goodIn_app ggL_law_L_limits_p12 (goodIn_app ggL_law_L_limits_p13 (goodIn_app ggL_law_L_limits_p14 (goodIn_app ggL_law_L_limits_p15 (goodIn_app ggL_law_L_limits_p16 (goodIn_app ggL_law_L_limits_p17 (goodIn_app ggL_law_L_limits_p18 (goodIn_app ggL_law_L_limits_p19 (goodIn_app ggL_law_L_limits_p20 (goodIn_app ggL_law_L_limits_p21 (goodIn_app ggL_law_L_limits_p22 ggL_law_L_limits_p23))))))))))))))))))))))) ggL_law_L_limits_p24) ggL_law_L_limits_p25) ggL_law_L_limits_p26) ggL_law_L_limits_p27) ggL_law_L_limits_p28) ggL_law_L_limits_p29)) (goodIn_sub (fun _ h => List.mem_append_left _ (List.mem_append_left _ (List.mem_append_right _ h))) (by decide +kernel))) (goodIn_sub (fun _ h => List.mem_append_left _ (List.mem_append_right _ h)) (by decide +kernel))) (goodIn_sub (fun _ h => List.mem_append_right _ h) (by decide +kernel))
set_option maxRecDepth 20000 in
theorem gL_law_L_limits : GoodIn wsL_law (va_wsS RL 195 yL_limits wsL_limits) := goodIn_app (goodIn_of _ (by decide +kernel)) ggL_law_L_limits
set_option maxRecDepth 20000 in
theorem ggL_law_L_texts_p0 : GoodIn wsL_law wsL_texts_r1 := goodIn_r _ [0, 1, 2, 585, 586, 587, 588, 589, 590, 591, 592, 593, 594, 595, 596, 597, 598, 599, 600, 601, 602, 603, 604, 605] (by decide +kernel) (by decide +kernel)
set_option maxRecDepth 20000 in
theorem ggL_law_L_texts_p1 : GoodIn wsL_law wsL_texts_r2 := goodIn_r _ [10, 11, 12, 13, 14, 15, 16, 17, 18, 19, 20, 21, 22, 23, 24, 25, 26, 27, 28, 29, 30, 31, 32, 33] (by decide +kernel) (by decide +kernel)
set_option maxRecDepth 20000 in
theorem ggL_law_L_texts_p2 : GoodIn wsL_law wsL_texts_r3 := goodIn_r _ [34, 35, 36, 37, 38, 39, 40, 41, 42, 43, 44, 45, 46, 47, 48, 49, 50, 51, 52, 53, 54, 55, 56, 57] (by decide +kernel) (by decide +kernel)
set_option maxRecDepth 20000 in
theorem ggL_law_L_texts_p3 : GoodIn wsL_law wsL_texts_r4 := goodIn_r _ [58, 59, 60, 61, 62, 63, 64, 65, 66, 67, 68, 69, 70, 71, 72, 73, 74, 75, 76, 77, 78, 79, 80, 81] (by decide +kernel) (by decide +kernel)
set_option maxRecDepth 20000 in
theorem ggL_law_L_texts_p4 : GoodIn wsL_law wsL_texts_r5 := goodIn_r _ [82, 83, 84, 85, 86, 87, 88, 89, 90, 91, 606, 607, 6, 608, 609, 610, 611, 612, 317, 318, 319, 320, 366, 367] (by decide +kernel) (by decide +kernel)
set_option maxRecDepth 20000 in
theorem ggL_law_L_texts_p5 : GoodIn wsL_law wsL_texts_r6 := goodIn_r _ [368, 369, 613, 614, 615, 616, 313, 314, 315, 316, 104, 105, 106, 107, 108, 109, 110, 321, 322, 323, 324, 163, 164, 325] (by decide +kernel) (by decide +kernel)
set_option maxRecDepth 20000 in
theorem ggL_law_L_texts_p6 : GoodIn wsL_law wsL_texts_r7 := goodIn_r _ [326, 327, 328, 329, 330, 331, 332, 333, 334, 335, 336, 617, 618, 619, 620, 621, 622, 623, 624, 92, 93, 94, 95, 96] (by decide +kernel) (by decide +kernel)
set_option maxRecDepth 20000 in
theorem ggL_law_L_texts_p7 : GoodIn wsL_law wsL_texts_r8 := goodIn_r _ [97, 98, 99, 100, 101, 102, 103, 111, 112, 113, 114, 115, 116, 117, 118, 119, 120, 121, 122, 123, 124, 125, 126, 127] (by decide +kernel) (by decide +kernel)
set_option maxRecDepth 20000 in
theorem ggL_law_L_texts_p8 : GoodIn wsL_law wsL_texts_r9 := goodIn_r _ [128, 129, 130, 131, 132, 133, 134, 135, 136, 137, 138, 139, 140, 141, 142, 143, 144, 145, 146, 147, 148, 149, 150, 151] (by decide +kernel) (by decide +kernel)
set_option maxRecDepth 20000 in
theorem ggL_law_L_texts_p9 : GoodIn wsL_law wsL_texts_r10 := goodIn_r _ [152, 153, 154, 155, 156, 157, 158, 159, 160, 161, 162, 165, 166, 167, 168, 169, 170, 171, 172, 173, 174, 175, 176, 177] (by decide +kernel) (by decide +kernel)
set_option maxRecDepth 20000 in
theorem ggL_law_L_texts_p10 : GoodIn wsL_law wsL_texts_r11 := goodIn_r _ [178, 179, 180, 181, 182, 183, 184, 185, 186, 187, 188, 189, 190, 191, 192, 193, 194, 195, 196, 197, 198, 199, 200, 201] (by decide +kernel) (by decide +kernel)
set_option maxRecDepth 20000 in
theorem ggL_law_L_texts_p11 : GoodIn wsL_law wsL_texts_r12 := goodIn_r _ [202, 203, 204, 205, 206, 207, 208, 209, 210, 211, 212, 213, 214, 215, 216, 217, 218, 219, 220, 221, 222, 223, 224, 225] (by decide +kernel) (by decide +kernel)
set_option maxRecDepth 20000 in
theorem ggL_law_L_texts_p12 : GoodIn wsL_law wsL_texts_r13 := goodIn_r _ [226, 227, 228, 229, 230, 231, 232, 233, 234, 235, 236, 237, 238, 239, 240, 241, 242, 243, 244, 245, 246, 247, 248, 249] (by decide +kernel) (by decide +kernel)
set_option maxRecDepth 20000 in
theorem ggL_law_L_texts_p13 : GoodIn wsL_law wsL_texts_r14 := goodIn_r _ [250, 251, 252, 253, 254, 255, 256, 257, 258, 259, 260, 261, 262, 263, 264, 265, 266, 267, 268, 269, 270, 271, 272, 273] (by decide +kernel) (by decide +kernel)
set_option maxRecDepth 20000 in
theorem ggL_law_L_texts_p14 : GoodIn wsL_law wsL_texts_r15 := goodIn_r _ [274, 275, 276, 277, 278, 279, 280, 281, 282, 283, 284, 285, 286, 287, 288, 289, 290, 291, 292, 293, 294, 295, 296, 297] (by decide +kernel) (by decide +kernel)
set_option maxRecDepth 20000 in
theorem ggL_law_L_texts_p15 : GoodIn wsL_law wsL_texts_r16 := goodIn_r _ [298, 299, 300, 301, 302, 303, 304, 305, 306, 307, 308, 309, 310, 311, 312, 337, 338, 339, 340, 341, 342, 343, 344, 345] (by decide +kernel) (by decide +kernel)
set_option maxRecDepth 20000 in
theorem ggL_law_L_texts_p16 : GoodIn wsL_law wsL_texts_r17 := goodIn_r _ [346, 347, 348, 349, 350, 351, 352, 353, 354, 355, 356, 357, 358, 359, 360, 361, 362, 363, 364, 365, 370, 371, 372, 373] (by decide +kernel) (by decide +kernel)
set_option maxRecDepth 20000 in
theorem ggL_law_L_texts_p17 : GoodIn wsL_law wsL_texts_r18 := goodIn_r _ [374, 375, 376, 377, 378, 379, 380, 381, 382, 383, 384, 385, 386, 387, 388, 389, 390, 391, 392, 393, 394, 395, 396, 397] (by decide +kernel) (by decide +kernel)
set_option maxRecDepth 20000 in
theorem ggL_law_L_texts_p18 : GoodIn wsL_law wsL_texts_r19 := goodIn_r _ [398, 399, 400, 401, 402, 403, 404, 405, 406, 407, 408, 409, 410, 411, 412, 413, 414, 415, 416, 417, 418, 419, 420, 421] (by decide +kernel) (by decide +kernel)
set_option maxRecDepth 20000 in
theorem ggL_law_L_texts_p19 : GoodIn wsL_law wsL_texts_r20 := goodIn_r _ [422, 423, 424, 425, 426, 427, 428, 429, 430, 431, 432, 433, 434, 435, 436, 437, 438, 439, 440, 441, 442, 443, 444, 445] (by decide +kernel) (by decide +kernel)
set_option maxRecDepth 20000 in
theorem ggL_law_L_texts_p20 : GoodIn wsL_law wsL_texts_r21 := goodIn_r _ [446, 447, 448, 449, 450, 451, 452, 453, 454, 455, 456, 457, 458, 459, 460, 461, 462, 463, 464, 465, 466, 467, 468, 469] (by decide +kernel) (by decide +kernel)
set_option maxRecDepth 20000 in
theorem ggL_law_L_texts_p21 : GoodIn wsL_law wsL_texts_r22 := goodIn_r _ [470, 471, 472, 473, 474, 475, 476, 477] (by decide +kernel) (by decide +kernel)
set_option maxRecDepth 20000 in
theorem ggL_law_L_texts_p22 : GoodIn wsL_law wsX50 := goodIn_r _ [638, 639, 640, 641, 642, 643] (by decide +kernel) (by decide +kernel)
set_option maxRecDepth 20000 in
theorem ggL_law_L_texts_p23 : GoodIn wsL_law wsX30 := goodIn_r _ [644, 645, 646, 647, 648, 649, 650, 651, 652, 653, 654, 655, 656, 657] (by decide +kernel) (by decide +kernel)
set_option maxRecDepth 20000 in
theorem ggL_law_L_texts_p24 : GoodIn wsL_law wsX00 := goodIn_r _ [658, 659, 660] (by decide +kernel) (by decide +kernel)
set_option maxRecDepth 20000 in
theorem ggL_law_L_texts_p25 : GoodIn wsL_law wsX20 := goodIn_r _ [661, 662, 663, 664] (by decide +kernel) (by decide +kernel)
set_option maxRecDepth 20000 in
theorem ggL_law_L_texts_p26 : GoodIn wsL_law wsX10 := goodIn_r _ [665, 666, 667, 668] (by decide +kernel) (by decide +kernel)
set_option maxRecDepth 20000 in
theorem ggL_law_L_texts_p27 : GoodIn wsL_law wsX40 := goodIn_r _ [669, 670, 671, 672] (by decide +kernel) (by decide +kernel)
set_option maxRecDepth 20000 in
theorem ggL_law_L_texts : GoodIn wsL_law wsL_texts := goodIn_ca (goodIn_ca (goodIn_ca (goodIn_c7 (List.mem_of_getElem? (i := 584) rfl) (goodIn_app (goodIn_app (goodIn_app (goodIn_app (goodIn_app (goodIn_app (goodIn_app ggL_law_L_texts_p0 (goodIn_app ggL_law_L_texts_p1 (goodIn_app ggL_law_L_texts_p2 (goodIn_app ggL_law_L_texts_p3 (goodIn_app ggL_law_L_texts_p4 (goodIn_app ggL_law_L_texts_p5 (goodIn_app ggL_law_L_texts_p6 (goodIn_app ggL_law_L_texts_p7 (goodIn_app ggL_law_L_texts_p8 (goodIn_app ggL_law_L_texts_p9 (goodIn_app ggL_law_L_texts_p10 (goodIn_app ggL_law_L_texts_p11 (goodIn_app ggL_law_L_texts_p12 (goodIn_app ggL_law_L_texts_p13 (goodIn_app ggL_law_L_texts_p14 (goodIn_app ggL_law_L_texts_p15 (goodIn_app ggL_law_L_texts_p16 (goodIn_app ggL_law_L_texts_p17 (goodIn_app ggL_law_L_texts_p18 (goodIn_app ggL_law_L_texts_p19 (goodIn_app ggL_law_L_texts_p20 ggL_law_L_texts_p21))))))))))))))))))))) ggL_law_L_texts_p22) ggL_law_L_texts_p23) ggL_law_L_texts_p24) ggL_law_L_texts_p25) ggL_law_L_texts_p26) ggL_law_L_texts_p27)) (goodIn_sub (fun _ h => List.mem_append_left _ (List.mem_append_right _ h)) (by decide +kernel))) (goodIn_sub (fun _ h => List.mem_append_right _ h) (by decide +kernel))) (goodIn_sub (fun _ h => List.mem_append_left _ (List.mem_append_left _ (List.mem_append_right _ h))) (by decide +kernel))
set_option maxRecDepth 20000 in
theorem gL_law_L_texts : GoodIn wsL_law (va_wsS RL 198 yL_texts wsL_texts) := goodIn_app (goodIn_of _ (by decide +kernel)) ggL_law_L_texts
set_option maxRecDepth 20000 in
theorem ggL_law_X5_init : GoodIn wsL_law wsX5_init := goodIn_r _ [12, 13, 14, 15, 16, 17, 18, 19, 20, 21, 22, 23, 24, 25, 26, 27, 28, 29, 30, 31, 32, 33, 34, 35, 36, 37, 38, 39, 40, 41, 42, 43, 44, 45, 46, 47, 48, 49, 2, 50, 51, 52, 53, 54, 55, 56, 57, 58, 59, 60, 61, 62, 63, 64, 65, 66, 67, 68, 69, 70, 71, 72, 73, 74, 75, 76, 77, 78, 79, 80, 81, 82, 83, 84, 85, 86, 87, 88, 89, 90, 91, 644, 645, 646, 647, 648, 649, 650, 651, 652, 653, 654, 655, 656, 657, 638, 639, 640, 641, 642, 643, 658, 659, 660, 661, 662, 663, 664, 665, 666, 667, 668, 669, 670, 671, 672] (by decide +kernel) (by decide +kernel)
set_option maxRecDepth 20000 in
theorem gL_law_X5_init : GoodIn wsL_law (wsX5_init) := ggL_law_X5_init
set_option maxRecDepth 20000 in
theorem ggL_law_X5_arrive : GoodIn wsL_law wsX5_arrive := goodIn_ca (goodIn_ca (goodIn_ca (goodIn_r _ [101, 102, 103, 104, 105, 106, 107, 19, 25, 108, 109, 2, 110, 111, 112, 113, 18, 114, 115, 116, 117, 118, 41, 42, 119, 120, 121, 40, 122, 65, 63, 123, 124, 125, 24, 126, 82, 81, 127, 128, 129, 130, 80, 131, 132, 133, 134, 135, 136, 137, 138, 36, 37, 43, 44, 48, 139, 140, 141, 142, 143, 144, 145, 49, 50, 51, 52, 53, 54, 55, 56, 57, 58, 146, 147, 148, 149, 64, 66, 150, 151, 152, 47, 153, 71, 72, 73, 74, 154, 155, 156, 157, 158, 159, 160, 161, 162, 163, 164, 165, 166, 167, 168, 169, 638, 639, 640, 641, 642, 643, 644, 645, 646, 647, 648, 649, 650, 651, 652, 653, 654, 655, 656, 657, 665, 666, 667, 668, 658, 659, 660, 669, 670, 671, 672] (by decide +kernel) (by decide +kernel)) (goodIn_sub (fun _ h => List.mem_append_left _ (List.mem_append_left _ (List.mem_append_right _ h))) (by decide +kernel))) (goodIn_sub (fun _ h => List.mem_append_left _ (List.mem_append_right _ h)) (by decide +kernel))) (goodIn_sub (fun _ h => List.mem_append_right _ h) (by decide +kernel))
set_option maxRecDepth 20000 in
theorem gL_law_X5_arrive : GoodIn wsL_law (wsV RL 9 RX5 yX5_arrive wsX5_arrive) := goodIn_app (goodIn_of _ (by decide +kernel)) ggL_law_X5_arrive
set_option maxRecDepth 20000 in
theorem ggL_law_X5_load : GoodIn wsL_law wsX5_load := goodIn_ca (goodIn_ca (goodIn_r _ [173, 102, 103, 106, 107, 19, 25, 108, 109, 2, 110, 174, 175, 176, 18, 177, 140, 115, 116, 117, 118, 41, 42, 178, 167, 168, 40, 169, 65, 179, 180, 181, 182, 43, 44, 119, 120, 121, 122, 63, 123, 124, 125, 24, 126, 82, 81, 127, 128, 129, 130, 80, 131, 132, 133, 134, 135, 136, 137, 138, 36, 37, 48, 139, 141, 142, 143, 144, 145, 49, 50, 51, 52, 53, 54, 55, 56, 57, 58, 146, 147, 148, 149, 64, 66, 150, 151, 152, 47, 153, 71, 72, 73, 74, 183, 184, 185, 186, 187, 188, 189, 190, 191, 192, 193, 194, 195, 196, 163, 164, 158, 159, 160, 161, 162, 638, 639, 640, 641, 642, 643, 644, 645, 646, 647, 648, 649, 650, 651, 652, 653, 654, 655, 656, 657, 665, 666, 667, 668, 658, 659, 660, 669, 670, 671, 672] (by decide +kernel) (by decide +kernel)) (goodIn_sub (fun _ h => List.mem_append_left _ (List.mem_append_left _ (List.mem_append_right _ h))) (by decide +kernel))) (goodIn_sub (fun _ h => List.mem_append_right _ h) (by decide +kernel))
set_option maxRecDepth 20000 in
theorem gL_law_X5_load : GoodIn wsL_law (wsV RL 15 RX5 yX5_load wsX5_load) := goodIn_app (goodIn_of _ (by decide +kernel)) ggL_law_X5_load
