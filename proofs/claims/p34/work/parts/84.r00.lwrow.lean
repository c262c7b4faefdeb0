set_option maxRecDepth 20000 in
theorem ggL_crossings_X5_init : GoodIn wsL_crossings wsX5_init := goodIn_r _ [8, 9, 10, 11, 12, 13, 14, 15, 16, 17, 18, 19, 20, 21, 22, 23, 24, 25, 26, 27, 28, 29, 30, 31, 32, 33, 34, 35, 36, 37, 38, 39, 40, 41, 42, 43, 44, 45, 3, 46, 47, 48, 49, 50, 51, 52, 53, 54, 55, 56, 57, 58, 59, 60, 61, 62, 63, 64, 65, 66, 67, 68, 69, 70, 71, 72, 73, 74, 75, 76, 77, 78, 79, 80, 81, 82, 83, 84, 85, 86, 87, 578, 579, 580, 581, 582, 583, 584, 585, 586, 587, 588, 589, 590, 591, 572, 573, 574, 575, 576, 577, 592, 593, 594, 595, 596, 597, 598, 599, 600, 601, 602, 603, 604, 605, 606] (by decide +kernel) (by decide +kernel)
set_option maxRecDepth 20000 in
theorem gL_crossings_X5_init : GoodIn wsL_crossings (wsX5_init) := ggL_crossings_X5_init
set_option maxRecDepth 20000 in
theorem ggL_crossings_L_call_p0 : GoodIn wsL_crossings wsL_call_r1 := goodIn_r _ [92, 93, 94, 95, 96, 97, 3, 98, 99, 100, 101, 102, 103, 104, 15, 21, 105, 106, 107, 108, 109, 110, 14, 111] (by decide +kernel) (by decide +kernel)
set_option maxRecDepth 20000 in
theorem ggL_crossings_L_call_p1 : GoodIn wsL_crossings wsL_call_r2 := goodIn_r _ [112, 113, 114, 115, 37, 38, 116, 117, 118, 36, 119, 61, 59, 120, 121, 122, 20, 123, 78, 77, 124, 125, 126, 127] (by decide +kernel) (by decide +kernel)
set_option maxRecDepth 20000 in
theorem ggL_crossings_L_call_p2 : GoodIn wsL_crossings wsL_call_r3 := goodIn_r _ [76, 128, 129, 130, 131, 132, 133, 134, 135, 32, 33, 39, 40, 44, 136, 137, 138, 139, 140, 141, 142, 45, 46, 47] (by decide +kernel) (by decide +kernel)
set_option maxRecDepth 20000 in
theorem ggL_crossings_L_call_p3 : GoodIn wsL_crossings wsL_call_r4 := goodIn_r _ [48, 49, 50, 51, 52, 53, 54, 143, 144, 145, 146, 60, 62, 147, 148, 149, 43, 150, 67, 68, 69, 70, 151, 152] (by decide +kernel) (by decide +kernel)
set_option maxRecDepth 20000 in
theorem ggL_crossings_L_call_p4 : GoodIn wsL_crossings wsL_call_r5 := goodIn_r _ [153, 154, 155, 156, 157, 158, 159, 160, 161, 162, 163, 164, 165, 166, 167, 168, 169, 170, 171, 172, 173, 174, 175, 176] (by decide +kernel) (by decide +kernel)
set_option maxRecDepth 20000 in
theorem ggL_crossings_L_call_p5 : GoodIn wsL_crossings wsL_call_r6 := goodIn_r _ [177, 178, 179, 180, 181, 182, 183, 184, 185, 186, 187, 188, 189, 190, 191, 192, 193, 194, 195, 196, 197, 198, 199, 200] (by decide +kernel) (by decide +kernel)
set_option maxRecDepth 20000 in
theorem ggL_crossings_L_call_p6 : GoodIn wsL_crossings wsL_call_r7 := goodIn_r _ [201, 202, 203, 204, 205, 206, 207, 208, 209, 210, 211, 212, 213, 214, 215, 216, 217, 218, 219, 220, 221, 222, 223, 224] (by decide +kernel) (by decide +kernel)
set_option maxRecDepth 20000 in
theorem ggL_crossings_L_call_p7 : GoodIn wsL_crossings wsL_call_r8 := goodIn_r _ [225, 226, 227, 228, 229, 230, 231, 232, 233, 234, 235, 236, 237, 238, 239, 240, 241, 242, 243, 244, 245, 246, 247, 248] (by decide +kernel) (by decide +kernel)
set_option maxRecDepth 20000 in
theorem ggL_crossings_L_call_p8 : GoodIn wsL_crossings wsL_call_r9 := goodIn_r _ [249, 250, 251, 252, 253, 254, 255, 256, 257, 258, 259, 260, 261, 262, 263, 264, 265, 266, 267, 268, 269, 270, 271, 272] (by decide +kernel) (by decide +kernel)
set_option maxRecDepth 20000 in
theorem ggL_crossings_L_call_p9 : GoodIn wsL_crossings wsL_call_r10 := goodIn_r _ [273, 274, 275, 276, 277, 278, 279, 280, 281, 282, 283, 284, 285, 286, 287, 288, 289, 290, 291, 292, 293, 294, 295, 296] (by decide +kernel) (by decide +kernel)
set_option maxRecDepth 20000 in
theorem ggL_crossings_L_call_p10 : GoodIn wsL_crossings wsL_call_r11 := goodIn_r _ [297, 298, 299, 300, 301, 302, 303, 304, 305, 306, 307, 308, 309, 310, 311, 312, 313, 25, 314, 315, 316, 24, 317, 85] (by decide +kernel) (by decide +kernel)
set_option maxRecDepth 20000 in
theorem ggL_crossings_L_call_p11 : GoodIn wsL_crossings wsL_call_r12 := goodIn_r _ [318, 319, 320, 321, 84, 87, 86, 322, 323, 324, 325, 326, 327, 328, 329, 330, 331, 332, 333, 334, 335, 336, 337, 338] (by decide +kernel) (by decide +kernel)
set_option maxRecDepth 20000 in
theorem ggL_crossings_L_call_p12 : GoodIn wsL_crossings wsL_call_r13 := goodIn_r _ [339, 340, 341, 342, 343, 344, 345, 346, 347, 348, 349, 350, 351, 352, 353, 354, 355, 356, 357, 358, 359, 360, 361, 362] (by decide +kernel) (by decide +kernel)
set_option maxRecDepth 20000 in
theorem ggL_crossings_L_call_p13 : GoodIn wsL_crossings wsL_call_r14 := goodIn_r _ [363, 364, 365, 366, 367, 368, 369, 370, 26, 17, 371, 372, 373, 374, 375, 376, 377, 378, 379, 380, 381, 382, 383, 384] (by decide +kernel) (by decide +kernel)
set_option maxRecDepth 20000 in
theorem ggL_crossings_L_call_p14 : GoodIn wsL_crossings wsL_call_r15 := goodIn_r _ [385, 386, 387, 388, 389, 390, 391, 392, 393, 394, 395, 396, 397, 398, 399, 400, 401, 402, 403, 404, 405, 406, 407, 408] (by decide +kernel) (by decide +kernel)
set_option maxRecDepth 20000 in
theorem ggL_crossings_L_call_p15 : GoodIn wsL_crossings wsL_call_r16 := goodIn_r _ [409, 410, 411, 412, 413, 414, 415, 416, 417, 418, 419, 420, 421, 422, 423, 424, 425, 426, 427, 428, 429, 430, 431, 432] (by decide +kernel) (by decide +kernel)
set_option maxRecDepth 20000 in
theorem ggL_crossings_L_call_p16 : GoodIn wsL_crossings wsL_call_r17 := goodIn_r _ [433, 434, 435, 436, 437, 438, 439, 440, 441, 442, 16, 443, 444, 445, 446, 447, 448, 449, 450, 451, 452, 453, 454, 455] (by decide +kernel) (by decide +kernel)
set_option maxRecDepth 20000 in
theorem ggL_crossings_L_call_p17 : GoodIn wsL_crossings wsL_call_r18 := goodIn_r _ [456, 457, 458, 459, 460, 461, 462, 463, 464, 465, 466, 467, 468, 469, 470, 471, 472, 473, 474] (by decide +kernel) (by decide +kernel)
set_option maxRecDepth 20000 in
theorem ggL_crossings_L_call_p18 : GoodIn wsL_crossings wsX50 := goodIn_r _ [572, 573, 574, 575, 576, 577] (by decide +kernel) (by decide +kernel)
set_option maxRecDepth 20000 in
theorem ggL_crossings_L_call_p19 : GoodIn wsL_crossings wsX30 := goodIn_r _ [578, 579, 580, 581, 582, 583, 584, 585, 586, 587, 588, 589, 590, 591] (by decide +kernel) (by decide +kernel)
set_option maxRecDepth 20000 in
theorem ggL_crossings_L_call_p20 : GoodIn wsL_crossings wsX10 := goodIn_r _ [599, 600, 601, 602] (by decide +kernel) (by decide +kernel)
set_option maxRecDepth 20000 in
theorem ggL_crossings_L_call_p21 : GoodIn wsL_crossings wsX00 := goodIn_r _ [592, 593, 594] (by decide +kernel) (by decide +kernel)
set_option maxRecDepth 20000 in
theorem ggL_crossings_L_call_p22 : GoodIn wsL_crossings wsX40 := goodIn_r _ [603, 604, 605, 606] (by decide +kernel) (by decide +kernel)
set_option maxRecDepth 20000 in
theorem ggL_crossings_L_call_p23 : GoodIn wsL_crossings wsX20 := goodIn_r _ [595, 596, 597, 598] (by decide +kernel) (by decide +kernel)
set_option maxRecDepth 20000 in
theorem ggL_crossings_L_call : GoodIn wsL_crossings wsL_call := goodIn_ca (goodIn_ca (goodIn_ca (goodIn_app (goodIn_r [.codeWith yL_call cL_call 5 (some .int) [(0, 272, 273, 75), (0, 272, 278, 77), (0, 272, 283, 79)]] [91] (by decide +kernel) (by decide +kernel)) (goodIn_app (goodIn_app (goodIn_app (goodIn_app (goodIn_app (goodIn_app (goodIn_app ggL_crossings_L_call_p0 (goodIn_app ggL_crossings_L_call_p1 (goodIn_app ggL_crossings_L_call_p2 (goodIn_app ggL_crossings_L_call_p3 (goodIn_app ggL_crossings_L_call_p4 (goodIn_app ggL_crossings_L_call_p5 (goodIn_app ggL_crossings_L_call_p6 (goodIn_app ggL_crossings_L_call_p7 (goodIn_app ggL_crossings_L_call_p8 (goodIn_app ggL_crossings_L_call_p9 (goodIn_app ggL_crossings_L_call_p10 (goodIn_app ggL_crossings_L_call_p11 (goodIn_app ggL_crossings_L_call_p12 (goodIn_app ggL_crossings_L_call_p13 (goodIn_app ggL_crossings_L_call_p14 (goodIn_app ggL_crossings_L_call_p15 (goodIn_app ggL_crossings_L_call_p16 ggL_crossings_L_call_p17))))))))))))))))) ggL_crossings_L_call_p18) ggL_crossings_L_call_p19) ggL_crossings_L_call_p20) ggL_crossings_L_call_p21) ggL_crossings_L_call_p22) ggL_crossings_L_call_p23)) (goodIn_sub (fun _ h => List.mem_cons_of_mem _ (List.mem_append_left _ (List.mem_append_left _ (List.mem_append_right _ h)))) (by decide +kernel))) (goodIn_sub (fun _ h => List.mem_cons_of_mem _ (List.mem_append_left _ (List.mem_append_right _ h))) (by decide +kernel))) (goodIn_sub (fun _ h => List.mem_cons_of_mem _ (List.mem_append_right _ h)) (by decide +kernel))
set_option maxRecDepth 20000 in
theorem gL_crossings_L_call : GoodIn wsL_crossings (va_wsS RL 91 yL_call wsL_call) := goodIn_app (goodIn_of _ (by decide +kernel)) ggL_crossings_L_call
set_option maxRecDepth 20000 in
theorem ggL_crossings_X5_why : GoodIn wsL_crossings wsX5_why := goodIn_r _ [478, 15, 218, 219, 220, 14, 221, 33, 44, 222, 223, 224, 225, 226, 39, 40, 227, 228, 49, 229, 230, 231, 232, 36, 233, 62, 188, 3, 189, 234, 235, 236, 237, 32, 136, 238, 129, 130, 131, 239, 240, 241, 242, 243, 244, 245, 43, 246, 247, 248, 249, 250, 251, 48, 50, 68, 252, 253, 254, 255, 256, 257, 258, 67, 572, 573, 574, 575, 576, 577, 578, 579, 580, 581, 582, 583, 584, 585, 586, 587, 588, 589, 590, 591, 603, 604, 605, 606, 599, 600, 601, 602] (by decide +kernel) (by decide +kernel)
set_option maxRecDepth 20000 in
theorem gL_crossings_X5_why : GoodIn wsL_crossings (wsV RL 106 RX5 yX5_why wsX5_why) := goodIn_app (goodIn_of _ (by decide +kernel)) ggL_crossings_X5_why
set_option maxRecDepth 20000 in
theorem ggL_crossings_X5_weakest : GoodIn wsL_crossings wsX5_weakest := goodIn_r _ [482, 15, 483, 484, 485, 14, 486, 487, 393, 394, 395, 44, 33, 188, 3, 189, 396, 256, 257, 43, 258, 67, 252, 253, 49, 254, 488, 398, 399, 400, 234, 235, 236, 237, 32, 136, 238, 129, 130, 131, 239, 240, 241, 242, 39, 40, 230, 231, 232, 36, 233, 62, 223, 224, 225, 226, 227, 228, 229, 401, 248, 249, 250, 251, 48, 50, 68, 572, 573, 574, 575, 576, 577, 578, 579, 580, 581, 582, 583, 584, 585, 586, 587, 588, 589, 590, 591, 603, 604, 605, 606, 599, 600, 601, 602] (by decide +kernel) (by decide +kernel)
set_option maxRecDepth 20000 in
theorem gL_crossings_X5_weakest : GoodIn wsL_crossings (wsV RL 109 RX5 yX5_weakest wsX5_weakest) := goodIn_app (goodIn_of _ (by decide +kernel)) ggL_crossings_X5_weakest
set_option maxRecDepth 20000 in
theorem ggL_crossings_X5_section : GoodIn wsL_crossings wsX5_section := goodIn_ca (goodIn_ca (goodIn_r _ [387, 99, 100, 101, 102, 15, 281, 105, 106, 3, 107, 388, 389, 390, 43, 391, 67, 188, 189, 392, 393, 394, 14, 395, 44, 33, 396, 256, 257, 258, 252, 253, 49, 254, 397, 398, 399, 400, 234, 235, 236, 237, 32, 136, 238, 129, 130, 131, 239, 240, 241, 242, 39, 40, 230, 231, 232, 36, 233, 62, 223, 224, 225, 226, 227, 228, 229, 401, 248, 249, 250, 251, 48, 50, 68, 572, 573, 574, 575, 576, 577, 578, 579, 580, 581, 582, 583, 584, 585, 586, 587, 588, 589, 590, 591, 603, 604, 605, 606, 599, 600, 601, 602] (by decide +kernel) (by decide +kernel)) (goodIn_sub (fun _ h => List.mem_cons_of_mem _ (List.mem_append_left _ (List.mem_append_left _ (List.mem_append_right _ h)))) (by decide +kernel))) (goodIn_sub (fun _ h => List.mem_cons_of_mem _ (List.mem_append_left _ (List.mem_append_right _ h))) (by decide +kernel))
set_option maxRecDepth 20000 in
theorem gL_crossings_X5_section : GoodIn wsL_crossings (wsV RL 50 RX5 yX5_section wsX5_section) := goodIn_app (goodIn_of _ (by decide +kernel)) ggL_crossings_X5_section
set_option maxRecDepth 20000 in
theorem ggL_crossings_X5_bestHour : GoodIn wsL_crossings wsX5_bestHour := goodIn_r _ [492, 15, 443, 444, 445, 14, 446, 44, 234, 235, 236, 237, 32, 136, 238, 129, 130, 131, 188, 3, 189, 239, 240, 241, 242, 39, 40, 230, 231, 232, 36, 233, 62, 223, 224, 225, 226, 227, 228, 49, 229, 447, 448, 449, 43, 450, 252, 253, 254, 247, 248, 249, 250, 251, 48, 50, 68, 572, 573, 574, 575, 576, 577, 578, 579, 580, 581, 582, 583, 584, 585, 586, 587, 588, 589, 590, 591, 599, 600, 601, 602, 603, 604, 605, 606] (by decide +kernel) (by decide +kernel)
set_option maxRecDepth 20000 in
theorem gL_crossings_X5_bestHour : GoodIn wsL_crossings (wsV RL 112 RX5 yX5_bestHour wsX5_bestHour) := goodIn_app (goodIn_of _ (by decide +kernel)) ggL_crossings_X5_bestHour
set_option maxRecDepth 20000 in
theorem ggL_crossings_X5_needed : GoodIn wsL_crossings wsX5_needed := goodIn_r _ [496, 15, 16, 218, 219, 220, 14, 221, 33, 44, 222, 223, 224, 225, 226, 39, 40, 227, 228, 49, 229, 230, 231, 232, 36, 233, 62, 188, 3, 189, 234, 235, 236, 237, 32, 136, 238, 129, 130, 131, 239, 240, 241, 242, 243, 244, 245, 43, 246, 247, 248, 249, 250, 251, 48, 50, 68, 252, 253, 254, 255, 256, 257, 258, 67, 283, 284, 285, 286, 287, 371, 133, 134, 135, 37, 38, 137, 138, 139, 140, 141, 142, 45, 46, 47, 51, 52, 53, 54, 143, 144, 145, 146, 59, 60, 61, 147, 148, 149, 150, 69, 70, 288, 289, 290, 291, 292, 293, 294, 295, 160, 161, 267, 268, 269, 270, 175, 164, 165, 166, 572, 573, 574, 575, 576, 577, 578, 579, 580, 581, 582, 583, 584, 585, 586, 587, 588, 589, 590, 591, 603, 604, 605, 606, 599, 600, 601, 602] (by decide +kernel) (by decide +kernel)
set_option maxRecDepth 20000 in
theorem gL_crossings_X5_needed : GoodIn wsL_crossings (wsV RL 88 RX5 yX5_needed wsX5_needed) := goodIn_app (goodIn_of _ (by decide +kernel)) ggL_crossings_X5_needed
