set_option maxRecDepth 20000 in
theorem ggL_law_X5_keep : GoodIn wsL_law wsX5_keep := goodIn_r _ [581, 21, 19, 30, 278, 374, 136, 137, 18, 138, 36, 37, 41, 42, 43, 44, 48, 139, 140, 141, 142, 143, 144, 145, 49, 2, 50, 51, 52, 53, 54, 55, 56, 57, 58, 146, 147, 148, 40, 149, 63, 64, 65, 66, 150, 151, 152, 47, 153, 71, 72, 73, 74, 638, 639, 640, 641, 642, 643, 644, 645, 646, 647, 648, 649, 650, 651, 652, 653, 654, 655, 656, 657, 665, 666, 667, 668, 669, 670, 671, 672] (by decide +kernel) (by decide +kernel)
set_option maxRecDepth 20000 in
theorem gL_law_X5_keep : GoodIn wsL_law (wsV RL 130 RX5 yX5_keep wsX5_keep) := goodIn_app (goodIn_of _ (by decide +kernel)) ggL_law_X5_keep
set_option maxRecDepth 20000 in
theorem ggL_law_L_seen_p0 : GoodIn wsL_law wsL_seen_r1 := goodIn_r _ [628, 629, 419, 420, 421, 2, 422, 104, 105, 19, 278, 423, 284, 424, 425, 285, 426, 427, 428, 429, 430, 25, 431, 210] (by decide +kernel) (by decide +kernel)
set_option maxRecDepth 20000 in
theorem ggL_law_L_seen_p1 : GoodIn wsL_law wsL_seen_r2 := goodIn_r _ [211, 18, 212, 43, 44, 178, 167, 168, 40, 169, 65, 432, 243, 244, 245, 233, 234, 235, 236, 66, 433, 227, 228, 229] (by decide +kernel) (by decide +kernel)
set_option maxRecDepth 20000 in
theorem ggL_law_L_seen_p2 : GoodIn wsL_law wsL_seen_r3 := goodIn_r _ [230, 231, 53, 232, 379, 380, 381, 24, 382, 82, 387, 388, 389, 390, 102, 103, 108, 109, 110, 391, 392, 393, 47, 394] (by decide +kernel) (by decide +kernel)
set_option maxRecDepth 20000 in
theorem ggL_law_L_seen_p3 : GoodIn wsL_law wsL_seen_r4 := goodIn_r _ [71, 191, 192, 395, 396, 397, 398, 48, 37, 399, 259, 260, 261, 255, 256, 257, 400, 401, 402, 403, 237, 238, 239, 240] (by decide +kernel) (by decide +kernel)
set_option maxRecDepth 20000 in
theorem ggL_law_L_seen_p4 : GoodIn wsL_law wsL_seen_r5 := goodIn_r _ [36, 139, 241, 132, 133, 134, 242, 226, 404, 251, 252, 253, 254, 52, 54, 72, 434, 435, 436, 437, 303, 304, 405, 406] (by decide +kernel) (by decide +kernel)
set_option maxRecDepth 20000 in
theorem ggL_law_L_seen_p5 : GoodIn wsL_law wsL_seen_r6 := goodIn_r _ [407, 408, 165, 116, 117, 118, 41, 42, 409, 188, 189, 190, 63, 410, 411, 412, 413, 414, 180, 181, 182, 415, 416, 417] (by decide +kernel) (by decide +kernel)
set_option maxRecDepth 20000 in
theorem ggL_law_L_seen_p6 : GoodIn wsL_law wsL_seen_r7 := goodIn_r _ [418, 64, 438, 439, 440, 441, 312, 574, 551, 552, 553, 20, 374, 136, 137, 138, 140, 141, 142, 143, 144, 145, 49, 50] (by decide +kernel) (by decide +kernel)
set_option maxRecDepth 20000 in
theorem ggL_law_L_seen_p7 : GoodIn wsL_law wsL_seen_r8 := goodIn_r _ [51, 55, 56, 57, 58, 146, 147, 148, 149, 150, 151, 152, 153, 73, 74, 221, 222, 223, 224, 225, 246, 247, 248, 249] (by decide +kernel) (by decide +kernel)
set_option maxRecDepth 20000 in
theorem ggL_law_L_seen_p8 : GoodIn wsL_law wsL_seen_r9 := goodIn_r _ [250, 258, 262, 263, 264, 265, 266, 267, 268, 269, 163, 164, 270, 271, 272, 273, 496, 497, 498, 499, 286, 287, 288, 289] (by decide +kernel) (by decide +kernel)
set_option maxRecDepth 20000 in
theorem ggL_law_L_seen_p9 : GoodIn wsL_law wsL_seen_r10 := goodIn_r _ [290, 291, 292, 293, 294, 295, 296, 297, 298] (by decide +kernel) (by decide +kernel)
set_option maxRecDepth 20000 in
theorem ggL_law_L_seen_p10 : GoodIn wsL_law wsX50 := goodIn_r _ [638, 639, 640, 641, 642, 643] (by decide +kernel) (by decide +kernel)
set_option maxRecDepth 20000 in
theorem ggL_law_L_seen_p11 : GoodIn wsL_law wsX30 := goodIn_r _ [644, 645, 646, 647, 648, 649, 650, 651, 652, 653, 654, 655, 656, 657] (by decide +kernel) (by decide +kernel)
set_option maxRecDepth 20000 in
theorem ggL_law_L_seen_p12 : GoodIn wsL_law wsX40 := goodIn_r _ [669, 670, 671, 672] (by decide +kernel) (by decide +kernel)
set_option maxRecDepth 20000 in
theorem ggL_law_L_seen_p13 : GoodIn wsL_law wsX10 := goodIn_r _ [665, 666, 667, 668] (by decide +kernel) (by decide +kernel)
set_option maxRecDepth 20000 in
theorem ggL_law_L_seen_p14 : GoodIn wsL_law wsX00 := goodIn_r _ [658, 659, 660] (by decide +kernel) (by decide +kernel)
set_option maxRecDepth 20000 in
theorem ggL_law_L_seen : GoodIn wsL_law wsL_seen := goodIn_ca (goodIn_ca (goodIn_app (goodIn_r [.code yL_seen cL_seen 4 (some .long)] [627] (by decide +kernel) (by decide +kernel)) (goodIn_app (goodIn_app (goodIn_app (goodIn_app (goodIn_app (goodIn_app ggL_law_L_seen_p0 (goodIn_app ggL_law_L_seen_p1 (goodIn_app ggL_law_L_seen_p2 (goodIn_app ggL_law_L_seen_p3 (goodIn_app ggL_law_L_seen_p4 (goodIn_app ggL_law_L_seen_p5 (goodIn_app ggL_law_L_seen_p6 (goodIn_app ggL_law_L_seen_p7 (goodIn_app ggL_law_L_seen_p8 ggL_law_L_seen_p9))))))))) ggL_law_L_seen_p10) ggL_law_L_seen_p11) ggL_law_L_seen_p12) ggL_law_L_seen_p13) ggL_law_L_seen_p14)) (goodIn_sub (fun _ h => List.mem_append_left _ (List.mem_append_right _ h)) (by decide +kernel))) (goodIn_sub (fun _ h => List.mem_append_left _ (List.mem_append_left _ (List.mem_append_right _ h))) (by decide +kernel))
set_option maxRecDepth 20000 in
theorem gL_law_L_seen : GoodIn wsL_law (va_wsS RL 201 yL_seen wsL_seen) := goodIn_app (goodIn_of _ (by decide +kernel)) ggL_law_L_seen
set_option maxRecDepth 20000 in
theorem ggL_law_L_drawn : GoodIn wsL_law wsL_drawn := goodIn_r _ [632, 633] (by decide +kernel) (by decide +kernel)
set_option maxRecDepth 20000 in
theorem gL_law_L_drawn : GoodIn wsL_law (va_wsS RL 205 yL_drawn wsL_drawn) := goodIn_app (goodIn_of _ (by decide +kernel)) ggL_law_L_drawn
set_option maxRecDepth 20000 in
theorem ggL_law_L_part : GoodIn wsL_law wsL_part := goodIn_r _ [636, 637] (by decide +kernel) (by decide +kernel)
set_option maxRecDepth 20000 in
theorem gL_law_L_part : GoodIn wsL_law (va_wsS RL 209 yL_part wsL_part) := goodIn_app (goodIn_of _ (by decide +kernel)) ggL_law_L_part
set_option maxRecDepth 20000 in
theorem ggL_law_X5_count : GoodIn wsL_law wsX5_count := goodIn_ca (goodIn_r _ [422, 104, 105, 19, 278, 423, 284, 424, 425, 285, 426, 427, 428, 429, 430, 25, 431, 210, 211, 18, 212, 43, 44, 178, 167, 168, 40, 169, 65, 432, 243, 244, 245, 233, 234, 235, 236, 66, 433, 227, 228, 229, 230, 231, 53, 232, 379, 380, 381, 24, 382, 82, 638, 639, 640, 641, 642, 643, 644, 645, 646, 647, 648, 649, 650, 651, 652, 653, 654, 655, 656, 657, 669, 670, 671, 672, 665, 666, 667, 668, 658, 659, 660] (by decide +kernel) (by decide +kernel)) (goodIn_sub (fun _ h => List.mem_append_left _ (List.mem_append_right _ h)) (by decide +kernel))
set_option maxRecDepth 20000 in
theorem gL_law_X5_count : GoodIn wsL_law (wsV RL 60 RX5 yX5_count wsX5_count) := goodIn_app (goodIn_of _ (by decide +kernel)) ggL_law_X5_count
set_option maxRecDepth 20000 in
theorem ggL_law_L_call_p0 : GoodIn wsL_law wsL_call_r1 := goodIn_r _ [95, 96, 97, 98, 99, 100, 2, 101, 102, 103, 104, 105, 106, 107, 19, 25, 108, 109, 110, 111, 112, 113, 18, 114] (by decide +kernel) (by decide +kernel)
set_option maxRecDepth 20000 in
theorem ggL_law_L_call_p1 : GoodIn wsL_law wsL_call_r2 := goodIn_r _ [115, 116, 117, 118, 41, 42, 119, 120, 121, 40, 122, 65, 63, 123, 124, 125, 24, 126, 82, 81, 127, 128, 129, 130] (by decide +kernel) (by decide +kernel)
set_option maxRecDepth 20000 in
theorem ggL_law_L_call_p2 : GoodIn wsL_law wsL_call_r3 := goodIn_r _ [80, 131, 132, 133, 134, 135, 136, 137, 138, 36, 37, 43, 44, 48, 139, 140, 141, 142, 143, 144, 145, 49, 50, 51] (by decide +kernel) (by decide +kernel)
set_option maxRecDepth 20000 in
theorem ggL_law_L_call_p3 : GoodIn wsL_law wsL_call_r4 := goodIn_r _ [52, 53, 54, 55, 56, 57, 58, 146, 147, 148, 149, 64, 66, 150, 151, 152, 47, 153, 71, 72, 73, 74, 154, 155] (by decide +kernel) (by decide +kernel)
set_option maxRecDepth 20000 in
theorem ggL_law_L_call_p4 : GoodIn wsL_law wsL_call_r5 := goodIn_r _ [156, 157, 158, 159, 160, 161, 162, 163, 164, 165, 166, 167, 168, 169, 170, 171, 172, 173, 174, 175, 176, 177, 178, 179] (by decide +kernel) (by decide +kernel)
set_option maxRecDepth 20000 in
theorem ggL_law_L_call_p5 : GoodIn wsL_law wsL_call_r6 := goodIn_r _ [180, 181, 182, 183, 184, 185, 186, 187, 188, 189, 190, 191, 192, 193, 194, 195, 196, 197, 198, 199, 200, 201, 202, 203] (by decide +kernel) (by decide +kernel)
set_option maxRecDepth 20000 in
theorem ggL_law_L_call_p6 : GoodIn wsL_law wsL_call_r7 := goodIn_r _ [204, 205, 206, 207, 208, 209, 210, 211, 212, 213, 214, 215, 216, 217, 218, 219, 220, 221, 222, 223, 224, 225, 226, 227] (by decide +kernel) (by decide +kernel)
set_option maxRecDepth 20000 in
theorem ggL_law_L_call_p7 : GoodIn wsL_law wsL_call_r8 := goodIn_r _ [228, 229, 230, 231, 232, 233, 234, 235, 236, 237, 238, 239, 240, 241, 242, 243, 244, 245, 246, 247, 248, 249, 250, 251] (by decide +kernel) (by decide +kernel)
set_option maxRecDepth 20000 in
theorem ggL_law_L_call_p8 : GoodIn wsL_law wsL_call_r9 := goodIn_r _ [252, 253, 254, 255, 256, 257, 258, 259, 260, 261, 262, 263, 264, 265, 266, 267, 268, 269, 270, 271, 272, 273, 274, 275] (by decide +kernel) (by decide +kernel)
set_option maxRecDepth 20000 in
theorem ggL_law_L_call_p9 : GoodIn wsL_law wsL_call_r10 := goodIn_r _ [276, 277, 278, 279, 280, 281, 282, 283, 284, 285, 286, 287, 288, 289, 290, 291, 292, 293, 294, 295, 296, 297, 298, 299] (by decide +kernel) (by decide +kernel)
set_option maxRecDepth 20000 in
theorem ggL_law_L_call_p10 : GoodIn wsL_law wsL_call_r11 := goodIn_r _ [300, 301, 302, 303, 304, 305, 306, 307, 308, 309, 310, 311, 312, 313, 314, 315, 316, 29, 317, 318, 319, 28, 320, 89] (by decide +kernel) (by decide +kernel)
set_option maxRecDepth 20000 in
theorem ggL_law_L_call_p11 : GoodIn wsL_law wsL_call_r12 := goodIn_r _ [321, 322, 323, 324, 88, 91, 90, 325, 326, 327, 328, 329, 330, 331, 332, 333, 334, 335, 336, 337, 338, 339, 340, 341] (by decide +kernel) (by decide +kernel)
set_option maxRecDepth 20000 in
theorem ggL_law_L_call_p12 : GoodIn wsL_law wsL_call_r13 := goodIn_r _ [342, 343, 344, 345, 346, 347, 348, 349, 350, 351, 352, 353, 354, 355, 356, 357, 358, 359, 360, 361, 362, 363, 364, 365] (by decide +kernel) (by decide +kernel)
set_option maxRecDepth 20000 in
theorem ggL_law_L_call_p13 : GoodIn wsL_law wsL_call_r14 := goodIn_r _ [366, 367, 368, 369, 370, 371, 372, 373, 30, 21, 374, 375, 376, 377, 378, 379, 380, 381, 382, 383, 384, 385, 386, 387] (by decide +kernel) (by decide +kernel)
set_option maxRecDepth 20000 in
theorem ggL_law_L_call_p14 : GoodIn wsL_law wsL_call_r15 := goodIn_r _ [388, 389, 390, 391, 392, 393, 394, 395, 396, 397, 398, 399, 400, 401, 402, 403, 404, 405, 406, 407, 408, 409, 410, 411] (by decide +kernel) (by decide +kernel)
set_option maxRecDepth 20000 in
theorem ggL_law_L_call_p15 : GoodIn wsL_law wsL_call_r16 := goodIn_r _ [412, 413, 414, 415, 416, 417, 418, 419, 420, 421, 422, 423, 424, 425, 426, 427, 428, 429, 430, 431, 432, 433, 434, 435] (by decide +kernel) (by decide +kernel)
set_option maxRecDepth 20000 in
theorem ggL_law_L_call_p16 : GoodIn wsL_law wsL_call_r17 := goodIn_r _ [436, 437, 438, 439, 440, 441, 442, 443, 444, 445, 20, 446, 447, 448, 449, 450, 451, 452, 453, 454, 455, 456, 457, 458] (by decide +kernel) (by decide +kernel)
set_option maxRecDepth 20000 in
theorem ggL_law_L_call_p17 : GoodIn wsL_law wsL_call_r18 := goodIn_r _ [459, 460, 461, 462, 463, 464, 465, 466, 467, 468, 469, 470, 471, 472, 473, 474, 475, 476, 477] (by decide +kernel) (by decide +kernel)
set_option maxRecDepth 20000 in
theorem ggL_law_L_call_p18 : GoodIn wsL_law wsX50 := goodIn_r _ [638, 639, 640, 641, 642, 643] (by decide +kernel) (by decide +kernel)
set_option maxRecDepth 20000 in
theorem ggL_law_L_call_p19 : GoodIn wsL_law wsX30 := goodIn_r _ [644, 645, 646, 647, 648, 649, 650, 651, 652, 653, 654, 655, 656, 657] (by decide +kernel) (by decide +kernel)
set_option maxRecDepth 20000 in
theorem ggL_law_L_call_p20 : GoodIn wsL_law wsX10 := goodIn_r _ [665, 666, 667, 668] (by decide +kernel) (by decide +kernel)
set_option maxRecDepth 20000 in
theorem ggL_law_L_call_p21 : GoodIn wsL_law wsX00 := goodIn_r _ [658, 659, 660] (by decide +kernel) (by decide +kernel)
set_option maxRecDepth 20000 in
theorem ggL_law_L_call_p22 : GoodIn wsL_law wsX40 := goodIn_r _ [669, 670, 671, 672] (by decide +kernel) (by decide +kernel)
set_option maxRecDepth 20000 in
theorem ggL_law_L_call_p23 : GoodIn wsL_law wsX20 := goodIn_r _ [661, 662, 663, 664] (by decide +kernel) (by decide +kernel)
set_option maxRecDepth 20000 in
theorem ggL_law_L_call : GoodIn wsL_law wsL_call := goodIn_ca (goodIn_ca (goodIn_ca (goodIn_app (goodIn_r [.codeWith yL_call cL_call 5 (some .int) [(0, 272, 273, 75), (0, 272, 278, 77), (0, 272, 283, 79)]] [94] (by decide +kernel) (by decide +kernel)) (goodIn_app (goodIn_app (goodIn_app (goodIn_app (goodIn_app (goodIn_app (goodIn_app ggL_law_L_call_p0 (goodIn_app ggL_law_L_call_p1 (goodIn_app ggL_law_L_call_p2 (goodIn_app ggL_law_L_call_p3 (goodIn_app ggL_law_L_call_p4 (goodIn_app ggL_law_L_call_p5 (goodIn_app ggL_law_L_call_p6 (goodIn_app ggL_law_L_call_p7 (goodIn_app ggL_law_L_call_p8 (goodIn_app ggL_law_L_call_p9 (goodIn_app ggL_law_L_call_p10 (goodIn_app ggL_law_L_call_p11 (goodIn_app ggL_law_L_call_p12 (goodIn_app ggL_law_L_call_p13 (goodIn_app ggL_law_L_call_p14 (goodIn_app ggL_law_L_call_p15 (goodIn_app ggL_law_L_call_p16 ggL_law_L_call_p17))))))))))))))))) ggL_law_L_call_p18) ggL_law_L_call_p19) ggL_law_L_call_p20) ggL_law_L_call_p21) ggL_law_L_call_p22) ggL_law_L_call_p23)) (goodIn_sub (fun _ h => List.mem_append_left _ (List.mem_append_left _ (List.mem_append_right _ h))) (by decide +kernel))) (goodIn_sub (fun _ h => List.mem_append_left _ (List.mem_append_right _ h)) (by decide +kernel))) (goodIn_sub (fun _ h => List.mem_append_right _ h) (by decide +kernel))
set_option maxRecDepth 20000 in
theorem gL_law_L_call : GoodIn wsL_law (va_wsS RL 91 yL_call wsL_call) := goodIn_app (goodIn_of _ (by decide +kernel)) ggL_law_L_call
set_option maxRecDepth 20000 in
theorem ggL_law_L_refused_p0 : GoodIn wsL_law wsL_refused_r1 := goodIn_r _ [516, 517, 518, 2, 519, 520, 30, 521, 522, 523, 524, 525, 420, 421, 422, 104, 105, 19, 278, 423, 284, 424, 425, 285] (by decide +kernel) (by decide +kernel)
set_option maxRecDepth 20000 in
theorem ggL_law_L_refused_p1 : GoodIn wsL_law wsL_refused_r2 := goodIn_r _ [426, 427, 428, 429, 430, 25, 431, 210, 211, 18, 212, 43, 44, 178, 167, 168, 40, 169, 65, 432, 243, 244, 245, 233] (by decide +kernel) (by decide +kernel)
set_option maxRecDepth 20000 in
theorem ggL_law_L_refused_p2 : GoodIn wsL_law wsL_refused_r3 := goodIn_r _ [234, 235, 236, 66, 433, 227, 228, 229, 230, 231, 53, 232, 379, 380, 381, 24, 382, 82, 526, 527, 528, 529, 530, 531] (by decide +kernel) (by decide +kernel)
set_option maxRecDepth 20000 in
theorem ggL_law_L_refused_p3 : GoodIn wsL_law wsL_refused_r4 := goodIn_r _ [532, 533, 534, 439, 440, 441, 102, 103, 312, 108, 109, 110, 304, 191, 192, 535, 435, 436, 437, 303, 536, 388, 389, 390] (by decide +kernel) (by decide +kernel)
set_option maxRecDepth 20000 in
theorem ggL_law_L_refused_p4 : GoodIn wsL_law wsL_refused_r5 := goodIn_r _ [391, 392, 393, 47, 394, 71, 395, 396, 397, 398, 48, 37, 399, 259, 260, 261, 255, 256, 257, 400, 401, 402, 403, 237] (by decide +kernel) (by decide +kernel)
set_option maxRecDepth 20000 in
theorem ggL_law_L_refused_p5 : GoodIn wsL_law wsL_refused_r6 := goodIn_r _ [238, 239, 240, 36, 139, 241, 132, 133, 134, 242, 226, 404, 251, 252, 253, 254, 52, 54, 72, 537, 538, 539, 540, 165] (by decide +kernel) (by decide +kernel)
set_option maxRecDepth 20000 in
theorem ggL_law_L_refused_p6 : GoodIn wsL_law wsL_refused_r7 := goodIn_r _ [116, 117, 118, 41, 42, 166, 409, 188, 189, 190, 63, 414, 180, 181, 182, 415, 416, 417, 418, 64, 541, 542, 543, 544] (by decide +kernel) (by decide +kernel)
