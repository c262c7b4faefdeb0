set_option maxRecDepth 20000 in
theorem gL_crossings_L_call : GoodIn wsL_crossings (va_wsS RL 91 yL_call wsL_call) := goodIn_app (goodIn_of _ (by decide +kernel)) ggL_crossings_L_call
set_option maxRecDepth 20000 in
theorem ggL_crossings_X5_why : GoodIn wsL_crossings wsX5_why := goodIn_r _ [478, 15, 218, 219, 220, 14, 221, 33, 44, 222, 223, 224, 225, 226, 39, 40, 227, 228, 49, 229, 230, 231, 232, 36, 233, 62, 188, 3, 189, 234, 235, 236, 237, 32, 136, 238, 129, 130, 131, 239, 240, 241, 242, 243, 244, 245, 43, 246, 247, 248, 249, 250, 251, 48, 50, 68, 252, 253, 254, 255, 256, 257, 258, 67, 572, 573, 574, 575, 576, 577, 578, 579, 580, 581, 582, 583, 584, 585, 586, 587, 588, 589, 590, 591, 603, 604, 605, 606, 599, 600, 601, 602] (by decide +kernel) (by decide +kernel)
set_option maxRecDepth 20000 in
theorem gL_crossings_X5_why : GoodIn wsL_crossings (wsV RL 106 RX5 yX5_why wsX5_why) := goodIn_app (goodIn_of _ (by decide +kernel)) ggL_crossings_X5_why
set_option maxRecDepth 20000 in
theorem ggL_crossings_X5_weakest : GoodIn wsL_crossings wsX5_weakest := goodIn_r _ [482, 15, 483, 484, 485, 14, 486, 487, 393, 394, 395, 44, 33, 188, 3, 189, 396, 256, 257, 43, 258, 67, 252, 253, 49, 254, 488, 398, 399, 400, 234, 235, 236, 237, 32, 136, 238, 129, 130, 131, 239, 240, 241, 242, 39, 40, 230, 231, 232, 36, 233, 62, 223, 224, 225, 226, 227, 228, 229, 401, 248, 249, 250, 251, 48, 50, 68, 572, 573, 574, 575, 576, 577, 578, 579, 580, 581, 582, 583, 584, 585, 586, 587, 588, 589, 590, 591, 603, 604, 605, 606, 599, 600, 601, 602] (by decide +kernel) (by decide +kernel)
set_option maxRecDepth 20000 in
theorem gL_crossings_X5_weakest : GoodIn wsL_crossings (wsV RL 109 RX5 yX5_weakest wsX5_weakest) := goodIn_app (goodIn_of _ (by decide +kernel)) ggL_crossings_X5_weakest
set_option maxRecDepth 20000 in
theorem ggL_crossings_X5_section : GoodIn wsL_crossings wsX5_section := goodIn_ca (goodIn_ca (goodIn_r _ [387, 99, 100, 101, 102, 15, 281, 105, 106, 3, 107, 388, 389, 390, 43, 391, 67, 188, 189, 392, 393, 394, 14, 395, 44, 33, 396, 256, 257, 258, 252, 253, 49, 254, 397, 398, 399, 400, 234, 235, 236, 237, 32, 136, 238, 129, 130, 131, 239, 240, 241, 242, 39, 40, 230, 231, 232, 36, 233, 62, 223, 224, 225, 226, 227, 228, 229, 401, 248, 249, 250, 251, 48, 50, 68, 572, 573, 574, 575, 576, 577, 578, 579, 580, 581, 582, 583, 584, 585, 586, 587, 588, 589, 590, 591, 603, 604, 605, 606, 599, 600, 601, 602] (by decide +kernel) (by decide +kernel)) (goodIn_sub (fun _ h => List.mem_cons_of_mem _ (List.mem_append_left _ (List.mem_append_left _ (List.mem_append_right _ h)))) (by decide +kernel))) (goodIn_sub (fun _ h => List.mem_cons_of_mem _ (List.mem_append_left _ (List.mem_append_right _ h))) (by decide +kernel))
set_option maxRecDepth 20000 in
theorem gL_crossings_X5_section : GoodIn wsL_crossings (wsV RL 50 RX5 yX5_section wsX5_section) := goodIn_app (goodIn_of _ (by decide +kernel)) ggL_crossings_X5_section
set_option maxRecDepth 20000 in
theorem ggL_crossings_X5_bestHour : GoodIn wsL_crossings wsX5_bestHour := goodIn_r _ [492, 15, 443, 444, 445, 14, 446, 44, 234, 235, 236, 237, 32, 136, 238, 129, 130, 131, 188, 3, 189, 239, 240, 241, 242, 39, 40, 230, 231, 232, 36, 233, 62, 223, 224, 225, 226, 227, 228, 49, 229, 447, 448, 449, 43, 450, 252, 253, 254, 247, 248, 249, 250, 251, 48, 50, 68, 572, 573, 574, 575, 576, 577, 578, 579, 580, 581, 582, 583, 584, 585, 586, 587, 588, 589, 590, 591, 599, 600, 601, 602, 603, 604, 605, 606] (by decide +kernel) (by decide +kernel)
set_option maxRecDepth 20000 in
theorem gL_crossings_X5_bestHour : GoodIn wsL_crossings (wsV RL 112 RX5 yX5_bestHour wsX5_bestHour) := goodIn_app (goodIn_of _ (by decide +kernel)) ggL_crossings_X5_bestHour
set_option maxRecDepth 20000 in
theorem ggL_crossings_X5_needed : GoodIn wsL_crossings wsX5_needed := goodIn_r _ [496, 15, 16, 218, 219, 220, 14, 221, 33, 44, 222, 223, 224, 225, 226, 39, 40, 227, 228, 49, 229, 230, 231, 232, 36, 233, 62, 188, 3, 189, 234, 235, 236, 237, 32, 136, 238, 129, 130, 131, 239, 240, 241, 242, 243, 244, 245, 43, 246, 247, 248, 249, 250, 251, 48, 50, 68, 252, 253, 254, 255, 256, 257, 258, 67, 283, 284, 285, 286, 287, 371, 133, 134, 135, 37, 38, 137, 138, 139, 140, 141, 142, 45, 46, 47, 51, 52, 53, 54, 143, 144, 145, 146, 59, 60, 61, 147, 148, 149, 150, 69, 70, 288, 289, 290, 291, 292, 293, 294, 295, 160, 161, 267, 268, 269, 270, 175, 164, 165, 166, 572, 573, 574, 575, 576, 577, 578, 579, 580, 581, 582, 583, 584, 585, 586, 587, 588, 589, 590, 591, 603, 604, 605, 606, 599, 600, 601, 602] (by decide +kernel) (by decide +kernel)
set_option maxRecDepth 20000 in
theorem gL_crossings_X5_needed : GoodIn wsL_crossings (wsV RL 88 RX5 yX5_needed wsX5_needed) := goodIn_app (goodIn_of _ (by decide +kernel)) ggL_crossings_X5_needed
set_option maxRecDepth 20000 in
theorem ggL_crossings_X5_ifLoaded : GoodIn wsL_crossings wsX5_ifLoaded := goodIn_ca (goodIn_r _ [442, 99, 100, 15, 16, 105, 106, 3, 107, 171, 172, 173, 14, 174, 137, 112, 113, 114, 115, 37, 38, 175, 164, 165, 36, 166, 61, 176, 177, 178, 179, 39, 40, 116, 117, 118, 119, 59, 371, 133, 134, 135, 32, 33, 44, 136, 138, 139, 140, 141, 142, 45, 46, 47, 48, 49, 50, 51, 52, 53, 54, 143, 144, 145, 146, 60, 62, 147, 148, 149, 43, 150, 67, 68, 69, 70, 180, 181, 182, 183, 184, 185, 186, 187, 188, 189, 190, 191, 192, 193, 160, 161, 155, 156, 157, 158, 159, 443, 444, 445, 446, 234, 235, 236, 237, 238, 129, 130, 131, 239, 240, 241, 242, 230, 231, 232, 233, 223, 224, 225, 226, 227, 228, 229, 447, 448, 449, 450, 252, 253, 254, 247, 248, 249, 250, 251, 572, 573, 574, 575, 576, 577, 578, 579, 580, 581, 582, 583, 584, 585, 586, 587, 588, 589, 590, 591, 599, 600, 601, 602, 603, 604, 605, 606] (by decide +kernel) (by decide +kernel)) (goodIn_sub (fun _ h => List.mem_cons_of_mem _ (List.mem_append_left _ (List.mem_append_left _ (List.mem_append_right _ h)))) (by decide +kernel))
set_option maxRecDepth 20000 in
theorem gL_crossings_X5_ifLoaded : GoodIn wsL_crossings (wsV RL 69 RX5 yX5_ifLoaded wsX5_ifLoaded) := goodIn_app (goodIn_of _ (by decide +kernel)) ggL_crossings_X5_ifLoaded
set_option maxRecDepth 20000 in
theorem ggL_crossings_X5_leastList : GoodIn wsL_crossings wsX5_leastList := goodIn_ca (goodIn_r _ [454, 101, 102, 15, 105, 106, 3, 107, 455, 456, 457, 14, 458, 137, 459, 48, 49, 50, 112, 113, 114, 115, 37, 38, 175, 164, 165, 36, 166, 61, 460, 461, 462, 463, 39, 40, 464, 465, 466, 467, 468, 469, 470, 471, 472, 473, 474, 227, 228, 229, 230, 231, 232, 233, 62, 184, 185, 186, 187, 59, 188, 189, 572, 573, 574, 575, 576, 577, 578, 579, 580, 581, 582, 583, 584, 585, 586, 587, 588, 589, 590, 591, 599, 600, 601, 602] (by decide +kernel) (by decide +kernel)) (goodIn_sub (fun _ h => List.mem_cons_of_mem _ (List.mem_append_left _ (List.mem_append_right _ h))) (by decide +kernel))
set_option maxRecDepth 20000 in
theorem gL_crossings_X5_leastList : GoodIn wsL_crossings (wsV RL 72 RX5 yX5_leastList wsX5_leastList) := goodIn_app (goodIn_of _ (by decide +kernel)) ggL_crossings_X5_leastList
set_option maxRecDepth 20000 in
theorem ggL_crossings_X5_wornShare : GoodIn wsL_crossings wsX5_wornShare := goodIn_r _ [500, 15, 281, 501, 502, 503, 504, 43, 505, 67, 188, 3, 189, 572, 573, 574, 575, 576, 577, 578, 579, 580, 581, 582, 583, 584, 585, 586, 587, 588, 589, 590, 591, 603, 604, 605, 606] (by decide +kernel) (by decide +kernel)
set_option maxRecDepth 20000 in
theorem gL_crossings_X5_wornShare : GoodIn wsL_crossings (wsV RL 115 RX5 yX5_wornShare wsX5_wornShare) := goodIn_app (goodIn_of _ (by decide +kernel)) ggL_crossings_X5_wornShare
set_option maxRecDepth 20000 in
theorem ggL_crossings_X5_carriedShare : GoodIn wsL_crossings wsX5_carriedShare := goodIn_r _ [509, 15, 425, 426, 572, 573, 574, 575, 576, 577, 578, 579, 580, 581, 582, 583, 584, 585, 586, 587, 588, 589, 590, 591] (by decide +kernel) (by decide +kernel)
set_option maxRecDepth 20000 in
theorem gL_crossings_X5_carriedShare : GoodIn wsL_crossings (wsV RL 119 RX5 yX5_carriedShare wsX5_carriedShare) := goodIn_app (goodIn_of _ (by decide +kernel)) ggL_crossings_X5_carriedShare
set_option maxRecDepth 20000 in
theorem ggL_crossings_L_refused : GoodIn wsL_crossings wsL_refused := goodIn_ca (goodIn_ca (goodIn_ca (goodIn_r _ [512, 513, 514, 515, 3, 516, 517, 26, 518, 519, 520, 521, 522, 417, 418, 419, 101, 102, 15, 275, 420, 281, 421, 422, 282, 423, 424, 425, 426, 427, 21, 428, 207, 208, 14, 209, 39, 40, 175, 164, 165, 36, 166, 61, 429, 240, 241, 242, 230, 231, 232, 233, 62, 430, 224, 225, 226, 227, 228, 49, 229, 376, 377, 378, 20, 379, 78, 523, 524, 525, 526, 527, 528, 529, 530, 531, 436, 437, 438, 99, 100, 309, 105, 106, 107, 301, 188, 189, 532, 432, 433, 434, 300, 533, 385, 386, 387, 388, 389, 390, 43, 391, 67, 392, 393, 394, 395, 44, 33, 396, 256, 257, 258, 252, 253, 254, 397, 398, 399, 400, 234, 235, 236, 237, 32, 136, 238, 129, 130, 131, 239, 223, 401, 248, 249, 250, 251, 48, 50, 68, 534, 535, 536, 537, 162, 113, 114, 115, 37, 38, 163, 406, 185, 186, 187, 59, 411, 177, 178, 179, 412, 413, 414, 415, 60, 538, 539, 540, 541, 542, 476, 477, 478, 218, 219, 220, 221, 222, 243, 244, 245, 246, 247, 255, 543, 480, 481, 482, 483, 484, 485, 486, 487, 488, 544, 440, 441, 442, 16, 171, 172, 173, 174, 137, 112, 176, 116, 117, 118, 119, 371, 133, 134, 135, 138, 139, 140, 141, 142, 45, 46, 47, 51, 52, 53, 54, 143, 144, 145, 146, 147, 148, 149, 150, 69, 70, 180, 181, 182, 183, 184, 190, 191, 192, 193, 160, 161, 155, 156, 157, 158, 159, 443, 444, 445, 446, 447, 448, 449, 450, 545, 490, 491, 492, 546, 452, 453, 454, 455, 456, 457, 458, 459, 460, 461, 462, 463, 464, 465, 466, 467, 468, 469, 470, 471, 472, 473, 474, 547, 548, 549, 550, 259, 260, 261, 262, 263, 264, 265, 266, 267, 268, 269, 270, 551, 494, 495, 496, 283, 284, 285, 286, 287, 288, 289, 290, 291, 292, 293, 294, 295, 552, 498, 499, 500, 501, 502, 503, 504, 505, 553, 554, 555, 556, 557, 507, 508, 509, 558, 559, 560, 561, 562, 563, 564, 565, 566, 567, 25, 314, 315, 316, 24, 317, 85, 362, 351, 352, 353, 84, 568, 569, 90, 570, 88, 89, 91, 92, 93, 94, 95, 96, 97, 98, 103, 104, 108, 109, 110, 111, 120, 121, 122, 123, 77, 124, 125, 126, 127, 76, 128, 132, 151, 152, 153, 154, 167, 168, 169, 170, 194, 195, 196, 197, 198, 199, 200, 201, 202, 203, 204, 205, 206, 210, 211, 212, 213, 214, 215, 216, 217, 271, 272, 273, 274, 276, 277, 278, 279, 280, 296, 297, 298, 299, 302, 303, 304, 305, 306, 307, 308, 310, 311, 312, 313, 318, 319, 320, 321, 87, 86, 322, 323, 324, 325, 326, 327, 328, 329, 330, 331, 332, 333, 334, 335, 336, 337, 338, 339, 340, 341, 342, 343, 344, 345, 346, 347, 348, 349, 350, 354, 355, 356, 357, 358, 359, 360, 361, 363, 364, 365, 366, 367, 368, 369, 370, 17, 372, 373, 374, 375, 380, 381, 382, 383, 384, 402, 403, 404, 405, 407, 408, 409, 410, 416, 431, 435, 439, 451, 572, 573, 574, 575, 576, 577, 578, 579, 580, 581, 582, 583, 584, 585, 586, 587, 588, 589, 590, 591, 603, 604, 605, 606, 599, 600, 601, 602, 592, 593, 594, 595, 596, 597, 598] (by decide +kernel) (by decide +kernel)) (goodIn_sub (fun _ h => List.mem_cons_of_mem _ (List.mem_append_left _ (List.mem_append_right _ h))) (by decide +kernel))) (goodIn_sub (fun _ h => List.mem_cons_of_mem _ (List.mem_append_left _ (List.mem_append_left _ (List.mem_append_right _ h)))) (by decide +kernel))) (goodIn_sub (fun _ h => List.mem_cons_of_mem _ (List.mem_append_right _ h)) (by decide +kernel))
set_option maxRecDepth 20000 in
theorem gL_crossings_L_refused : GoodIn wsL_crossings (va_wsS RL 123 yL_refused wsL_refused) := goodIn_app (goodIn_of _ (by decide +kernel)) ggL_crossings_L_refused
set_option maxRecDepth 20000 in
theorem ggL_crossings_X5_cross : GoodIn wsL_crossings wsX5_cross := goodIn_ca (goodIn_r _ [217, 103, 104, 15, 21, 218, 219, 220, 14, 221, 33, 44, 222, 223, 224, 225, 226, 39, 40, 227, 228, 49, 229, 230, 231, 232, 36, 233, 62, 188, 3, 189, 234, 235, 236, 237, 32, 136, 238, 129, 130, 131, 239, 240, 241, 242, 243, 244, 245, 43, 246, 247, 248, 249, 250, 251, 48, 50, 68, 252, 253, 254, 255, 256, 257, 258, 67, 120, 121, 122, 20, 123, 78, 77, 124, 125, 126, 127, 76, 128, 132, 133, 134, 135, 37, 38, 137, 138, 139, 140, 141, 142, 45, 46, 47, 51, 52, 53, 54, 143, 144, 145, 146, 59, 60, 61, 147, 148, 149, 150, 69, 70, 259, 260, 261, 262, 263, 264, 265, 266, 160, 161, 267, 268, 269, 270, 175, 164, 165, 166, 572, 573, 574, 575, 576, 577, 578, 579, 580, 581, 582, 583, 584, 585, 586, 587, 588, 589, 590, 591, 603, 604, 605, 606, 599, 600, 601, 602, 592, 593, 594] (by decide +kernel) (by decide +kernel)) (goodIn_sub (fun _ h => List.mem_cons_of_mem _ (List.mem_append_right _ h)) (by decide +kernel))
set_option maxRecDepth 20000 in
theorem gL_crossings_X5_cross : GoodIn wsL_crossings (wsV RL 23 RX5 yX5_cross wsX5_cross) := goodIn_app (goodIn_of _ (by decide +kernel)) ggL_crossings_X5_cross
set_option maxRecDepth 20000 in
theorem ggL_crossings_X5_count : GoodIn wsL_crossings wsX5_count := goodIn_ca (goodIn_r _ [419, 101, 102, 15, 275, 420, 281, 421, 422, 282, 423, 424, 425, 426, 427, 21, 428, 207, 208, 14, 209, 39, 40, 175, 164, 165, 36, 166, 61, 429, 240, 241, 242, 230, 231, 232, 233, 62, 430, 224, 225, 226, 227, 228, 49, 229, 376, 377, 378, 20, 379, 78, 572, 573, 574, 575, 576, 577, 578, 579, 580, 581, 582, 583, 584, 585, 586, 587, 588, 589, 590, 591, 603, 604, 605, 606, 599, 600, 601, 602, 592, 593, 594] (by decide +kernel) (by decide +kernel)) (goodIn_sub (fun _ h => List.mem_cons_of_mem _ (List.mem_append_left _ (List.mem_append_right _ h))) (by decide +kernel))
set_option maxRecDepth 20000 in
theorem gL_crossings_X5_count : GoodIn wsL_crossings (wsV RL 60 RX5 yX5_count wsX5_count) := goodIn_app (goodIn_of _ (by decide +kernel)) ggL_crossings_X5_count
set_option maxRecDepth 20000 in
theorem ggL_crossings_X5_draw : GoodIn wsL_crossings wsX5_draw := goodIn_ca (goodIn_ca (goodIn_r _ [280, 101, 102, 103, 104, 15, 21, 281, 282, 105, 106, 3, 107, 283, 284, 285, 14, 286, 44, 287, 120, 121, 122, 20, 123, 78, 77, 124, 125, 126, 127, 76, 128, 129, 130, 131, 132, 133, 134, 135, 32, 33, 37, 38, 39, 40, 136, 137, 138, 139, 140, 141, 142, 45, 46, 47, 48, 49, 50, 51, 52, 53, 54, 143, 144, 145, 36, 146, 59, 60, 61, 62, 147, 148, 149, 43, 150, 67, 68, 69, 70, 288, 289, 290, 291, 292, 293, 294, 295, 188, 189, 160, 161, 267, 268, 269, 270, 175, 164, 165, 166, 572, 573, 574, 575, 576, 577, 578, 579, 580, 581, 582, 583, 584, 585, 586, 587, 588, 589, 590, 591, 603, 604, 605, 606, 592, 593, 594, 599, 600, 601, 602] (by decide +kernel) (by decide +kernel)) (goodIn_sub (fun _ h => List.mem_cons_of_mem _ (List.mem_append_left _ (List.mem_append_right _ h))) (by decide +kernel))) (goodIn_sub (fun _ h => List.mem_cons_of_mem _ (List.mem_append_right _ h)) (by decide +kernel))
set_option maxRecDepth 20000 in
theorem gL_crossings_X5_draw : GoodIn wsL_crossings (wsV RL 29 RX5 yX5_draw wsX5_draw) := goodIn_app (goodIn_of _ (by decide +kernel)) ggL_crossings_X5_draw
set_option maxRecDepth 20000 in
theorem ggL_crossings_X5_arrive : GoodIn wsL_crossings wsX5_arrive := goodIn_ca (goodIn_ca (goodIn_ca (goodIn_r _ [98, 99, 100, 101, 102, 103, 104, 15, 21, 105, 106, 3, 107, 108, 109, 110, 14, 111, 112, 113, 114, 115, 37, 38, 116, 117, 118, 36, 119, 61, 59, 120, 121, 122, 20, 123, 78, 77, 124, 125, 126, 127, 76, 128, 129, 130, 131, 132, 133, 134, 135, 32, 33, 39, 40, 44, 136, 137, 138, 139, 140, 141, 142, 45, 46, 47, 48, 49, 50, 51, 52, 53, 54, 143, 144, 145, 146, 60, 62, 147, 148, 149, 43, 150, 67, 68, 69, 70, 151, 152, 153, 154, 155, 156, 157, 158, 159, 160, 161, 162, 163, 164, 165, 166, 572, 573, 574, 575, 576, 577, 578, 579, 580, 581, 582, 583, 584, 585, 586, 587, 588, 589, 590, 591, 599, 600, 601, 602, 592, 593, 594, 603, 604, 605, 606] (by decide +kernel) (by decide +kernel)) (goodIn_sub (fun _ h => List.mem_cons_of_mem _ (List.mem_append_left _ (List.mem_append_left _ (List.mem_append_right _ h)))) (by decide +kernel))) (goodIn_sub (fun _ h => List.mem_cons_of_mem _ (List.mem_append_left _ (List.mem_append_right _ h))) (by decide +kernel))) (goodIn_sub (fun _ h => List.mem_cons_of_mem _ (List.mem_append_right _ h)) (by decide +kernel))
set_option maxRecDepth 20000 in
theorem gL_crossings_X5_arrive : GoodIn wsL_crossings (wsV RL 9 RX5 yX5_arrive wsX5_arrive) := goodIn_app (goodIn_of _ (by decide +kernel)) ggL_crossings_X5_arrive
set_option maxRecDepth 20000 in
theorem ggL_crossings_X5_pass : GoodIn wsL_crossings wsX5_pass := goodIn_ca (goodIn_r _ [274, 101, 102, 21, 15, 275, 105, 106, 3, 107, 120, 121, 122, 20, 123, 78, 77, 124, 125, 126, 127, 76, 128, 129, 130, 131, 132, 133, 134, 14, 135, 32, 33, 37, 38, 39, 40, 44, 136, 137, 138, 139, 140, 141, 142, 45, 46, 47, 48, 49, 50, 51, 52, 53, 54, 143, 144, 145, 36, 146, 59, 60, 61, 62, 147, 148, 149, 43, 150, 67, 68, 69, 70, 276, 268, 269, 270, 175, 164, 165, 166, 572, 573, 574, 575, 576, 577, 578, 579, 580, 581, 582, 583, 584, 585, 586, 587, 588, 589, 590, 591, 592, 593, 594, 599, 600, 601, 602, 603, 604, 605, 606] (by decide +kernel) (by decide +kernel)) (goodIn_sub (fun _ h => List.mem_cons_of_mem _ (List.mem_append_left _ (List.mem_append_right _ h))) (by decide +kernel))
set_option maxRecDepth 20000 in
theorem gL_crossings_X5_pass : GoodIn wsL_crossings (wsV RL 26 RX5 yX5_pass wsX5_pass) := goodIn_app (goodIn_of _ (by decide +kernel)) ggL_crossings_X5_pass
set_option maxRecDepth 20000 in
theorem ggL_crossings_X5_load : GoodIn wsL_crossings wsX5_load := goodIn_ca (goodIn_ca (goodIn_r _ [170, 99, 100, 103, 104, 15, 21, 105, 106, 3, 107, 171, 172, 173, 14, 174, 137, 112, 113, 114, 115, 37, 38, 175, 164, 165, 36, 166, 61, 176, 177, 178, 179, 39, 40, 116, 117, 118, 119, 59, 120, 121, 122, 20, 123, 78, 77, 124, 125, 126, 127, 76, 128, 129, 130, 131, 132, 133, 134, 135, 32, 33, 44, 136, 138, 139, 140, 141, 142, 45, 46, 47, 48, 49, 50, 51, 52, 53, 54, 143, 144, 145, 146, 60, 62, 147, 148, 149, 43, 150, 67, 68, 69, 70, 180, 181, 182, 183, 184, 185, 186, 187, 188, 189, 190, 191, 192, 193, 160, 161, 155, 156, 157, 158, 159, 572, 573, 574, 575, 576, 577, 578, 579, 580, 581, 582, 583, 584, 585, 586, 587, 588, 589, 590, 591, 599, 600, 601, 602, 592, 593, 594, 603, 604, 605, 606] (by decide +kernel) (by decide +kernel)) (goodIn_sub (fun _ h => List.mem_cons_of_mem _ (List.mem_append_left _ (List.mem_append_left _ (List.mem_append_right _ h)))) (by decide +kernel))) (goodIn_sub (fun _ h => List.mem_cons_of_mem _ (List.mem_append_right _ h)) (by decide +kernel))
set_option maxRecDepth 20000 in
theorem gL_crossings_X5_load : GoodIn wsL_crossings (wsV RL 15 RX5 yX5_load wsX5_load) := goodIn_app (goodIn_of _ (by decide +kernel)) ggL_crossings_X5_load
set_option maxRecDepth 20000 in
theorem ggL_crossings_X5_deck : GoodIn wsL_crossings wsX5_deck := goodIn_ca (goodIn_ca (goodIn_r _ [410, 99, 100, 101, 102, 15, 105, 106, 3, 107, 411, 177, 178, 14, 179, 39, 40, 406, 185, 186, 36, 187, 61, 59, 188, 189, 412, 413, 414, 415, 60, 572, 573, 574, 575, 576, 577, 578, 579, 580, 581, 582, 583, 584, 585, 586, 587, 588, 589, 590, 591, 599, 600, 601, 602] (by decide +kernel) (by decide +kernel)) (goodIn_sub (fun _ h => List.mem_cons_of_mem _ (List.mem_append_left _ (List.mem_append_left _ (List.mem_append_right _ h)))) (by decide +kernel))) (goodIn_sub (fun _ h => List.mem_cons_of_mem _ (List.mem_append_left _ (List.mem_append_right _ h))) (by decide +kernel))
set_option maxRecDepth 20000 in
theorem gL_crossings_X5_deck : GoodIn wsL_crossings (wsV RL 56 RX5 yX5_deck wsX5_deck) := goodIn_app (goodIn_of _ (by decide +kernel)) ggL_crossings_X5_deck
set_option maxRecDepth 20000 in
theorem ggL_crossings_X5_lasts : GoodIn wsL_crossings wsX5_lasts := goodIn_r _ [550, 16, 15, 371, 133, 134, 14, 135, 32, 33, 37, 38, 39, 40, 44, 136, 137, 138, 139, 140, 141, 142, 45, 3, 46, 47, 48, 49, 50, 51, 52, 53, 54, 143, 144, 145, 36, 146, 59, 60, 61, 62, 147, 148, 149, 43, 150, 67, 68, 69, 70, 218, 219, 220, 221, 222, 223, 224, 225, 226, 227, 228, 229, 230, 231, 232, 233, 188, 189, 234, 235, 236, 237, 238, 129, 130, 131, 239, 240, 241, 242, 243, 244, 245, 246, 247, 248, 249, 250, 251, 252, 253, 254, 255, 256, 257, 258, 259, 260, 261, 262, 263, 264, 265, 266, 160, 161, 267, 268, 269, 270, 175, 164, 165, 166, 572, 573, 574, 575, 576, 577, 578, 579, 580, 581, 582, 583, 584, 585, 586, 587, 588, 589, 590, 591, 599, 600, 601, 602, 603, 604, 605, 606] (by decide +kernel) (by decide +kernel)
set_option maxRecDepth 20000 in
theorem gL_crossings_X5_lasts : GoodIn wsL_crossings (wsV RL 85 RX5 yX5_lasts wsX5_lasts) := goodIn_app (goodIn_of _ (by decide +kernel)) ggL_crossings_X5_lasts
set_option maxRecDepth 20000 in
theorem ggL_crossings_X5_unload : GoodIn wsL_crossings wsX5_unload := goodIn_r _ [197, 21, 15, 120, 121, 122, 20, 123, 78, 77, 124, 125, 126, 127, 76, 128, 129, 130, 131, 132, 133, 134, 14, 135, 32, 33, 37, 38, 39, 40, 44, 136, 137, 138, 139, 140, 141, 142, 45, 3, 46, 47, 48, 49, 50, 51, 52, 53, 54, 143, 144, 145, 36, 146, 59, 60, 61, 62, 147, 148, 149, 43, 150, 67, 68, 69, 70, 198, 199, 200, 201, 202, 203, 204, 205, 188, 189, 206, 207, 208, 209, 175, 164, 165, 166, 210, 211, 212, 213, 572, 573, 574, 575, 576, 577, 592, 593, 594, 578, 579, 580, 581, 582, 583, 584, 585, 586, 587, 588, 589, 590, 591, 599, 600, 601, 602, 603, 604, 605, 606] (by decide +kernel) (by decide +kernel)
set_option maxRecDepth 20000 in
theorem gL_crossings_X5_unload : GoodIn wsL_crossings (wsV RL 19 RX5 yX5_unload wsX5_unload) := goodIn_app (goodIn_of _ (by decide +kernel)) ggL_crossings_X5_unload
set_option maxRecDepth 20000 in
theorem ggL_crossings_X5_undo : GoodIn wsL_crossings wsX5_undo := goodIn_ca (goodIn_r _ [375, 103, 104, 21, 15, 376, 377, 378, 20, 379, 78, 380, 381, 382, 383, 124, 125, 126, 127, 77, 76, 128, 129, 130, 131, 132, 133, 134, 14, 135, 32, 33, 37, 38, 39, 40, 44, 136, 137, 138, 139, 140, 141, 142, 45, 3, 46, 47, 48, 49, 50, 51, 52, 53, 54, 143, 144, 145, 36, 146, 59, 60, 61, 62, 147, 148, 149, 43, 150, 67, 68, 69, 70, 572, 573, 574, 575, 576, 577, 592, 593, 594, 578, 579, 580, 581, 582, 583, 584, 585, 586, 587, 588, 589, 590, 591, 599, 600, 601, 602, 603, 604, 605, 606] (by decide +kernel) (by decide +kernel)) (goodIn_sub (fun _ h => List.mem_cons_of_mem _ (List.mem_append_right _ h)) (by decide +kernel))
set_option maxRecDepth 20000 in
theorem gL_crossings_X5_undo : GoodIn wsL_crossings (wsV RL 47 RX5 yX5_undo wsX5_undo) := goodIn_app (goodIn_of _ (by decide +kernel)) ggL_crossings_X5_undo
set_option maxRecDepth 20000 in
theorem ggL_crossings_X5_set : GoodIn wsL_crossings wsX5_set := goodIn_ca (goodIn_ca (goodIn_r _ [306, 99, 100, 101, 102, 307, 308, 21, 15, 309, 105, 106, 3, 107, 301, 188, 189, 120, 121, 122, 20, 123, 78, 77, 124, 125, 126, 127, 76, 128, 129, 130, 131, 132, 133, 134, 14, 135, 32, 33, 37, 38, 39, 40, 44, 136, 137, 138, 139, 140, 141, 142, 45, 46, 47, 48, 49, 50, 51, 52, 53, 54, 143, 144, 145, 36, 146, 59, 60, 61, 62, 147, 148, 149, 43, 150, 67, 68, 69, 70, 302, 160, 161, 572, 573, 574, 575, 576, 577, 578, 579, 580, 581, 582, 583, 584, 585, 586, 587, 588, 589, 590, 591, 592, 593, 594, 599, 600, 601, 602, 603, 604, 605, 606] (by decide +kernel) (by decide +kernel)) (goodIn_sub (fun _ h => List.mem_cons_of_mem _ (List.mem_append_left _ (List.mem_append_left _ (List.mem_append_right _ h)))) (by decide +kernel))) (goodIn_sub (fun _ h => List.mem_cons_of_mem _ (List.mem_append_left _ (List.mem_append_right _ h))) (by decide +kernel))
set_option maxRecDepth 20000 in
theorem gL_crossings_X5_set : GoodIn wsL_crossings (wsV RL 35 RX5 yX5_set wsX5_set) := goodIn_app (goodIn_of _ (by decide +kernel)) ggL_crossings_X5_set
theorem dL_crossings_0 : decode cL_crossings 0 = .ok (.new 10, 3) := by decide +kernel
theorem dL_crossings_3 : decode cL_crossings 3 = .ok (.dup, 1) := by decide +kernel
theorem dL_crossings_4 : decode cL_crossings 4 = .ok (.invokespecial 105, 3) := by decide +kernel
theorem dL_crossings_7 : decode cL_crossings 7 = .ok (.astore_n 0, 1) := by decide +kernel
theorem dL_crossings_8 : decode cL_crossings 8 = .ok (.aload_n 0, 1) := by decide +kernel
theorem dL_crossings_9 : decode cL_crossings 9 = .ok (.bipush 11, 2) := by decide +kernel
theorem dL_crossings_11 : decode cL_crossings 11 = .ok (.iconst 0, 1) := by decide +kernel
theorem dL_crossings_12 : decode cL_crossings 12 = .ok (.iconst 0, 1) := by decide +kernel
theorem dL_crossings_13 : decode cL_crossings 13 = .ok (.invokestatic 91, 3) := by decide +kernel
theorem dL_crossings_16 : decode cL_crossings 16 = .ok (.bipush (-13), 2) := by decide +kernel
theorem dL_crossings_18 : decode cL_crossings 18 = .ok (.if_icmp .ne 395, 3) := by decide +kernel
theorem dL_crossings_21 : decode cL_crossings 21 = .ok (.aload_n 0, 1) := by decide +kernel
theorem dL_crossings_22 : decode cL_crossings 22 = .ok (.bipush 10, 2) := by decide +kernel
theorem dL_crossings_24 : decode cL_crossings 24 = .ok (.iconst 0, 1) := by decide +kernel
theorem dL_crossings_25 : decode cL_crossings 25 = .ok (.iconst 0, 1) := by decide +kernel
theorem dL_crossings_26 : decode cL_crossings 26 = .ok (.invokestatic 91, 3) := by decide +kernel
theorem dL_crossings_29 : decode cL_crossings 29 = .ok (.bipush (-13), 2) := by decide +kernel
theorem dL_crossings_31 : decode cL_crossings 31 = .ok (.if_icmp .ne 382, 3) := by decide +kernel
theorem dL_crossings_34 : decode cL_crossings 34 = .ok (.aload_n 0, 1) := by decide +kernel
theorem dL_crossings_35 : decode cL_crossings 35 = .ok (.iconst 1, 1) := by decide +kernel
theorem dL_crossings_36 : decode cL_crossings 36 = .ok (.iconst 0, 1) := by decide +kernel
theorem dL_crossings_37 : decode cL_crossings 37 = .ok (.iconst 0, 1) := by decide +kernel
theorem dL_crossings_38 : decode cL_crossings 38 = .ok (.invokestatic 91, 3) := by decide +kernel
theorem dL_crossings_41 : decode cL_crossings 41 = .ok (.bipush (-13), 2) := by decide +kernel
theorem dL_crossings_43 : decode cL_crossings 43 = .ok (.if_icmp .ne 370, 3) := by decide +kernel
theorem dL_crossings_46 : decode cL_crossings 46 = .ok (.aload_n 0, 1) := by decide +kernel
theorem dL_crossings_47 : decode cL_crossings 47 = .ok (.invokevirtual 106, 3) := by decide +kernel
theorem dL_crossings_50 : decode cL_crossings 50 = .ok (.ifCond .ne 363, 3) := by decide +kernel
theorem dL_crossings_53 : decode cL_crossings 53 = .ok (.aload_n 0, 1) := by decide +kernel
theorem dL_crossings_54 : decode cL_crossings 54 = .ok (.invokevirtual 109, 3) := by decide +kernel
theorem dL_crossings_57 : decode cL_crossings 57 = .ok (.bipush 9, 2) := by decide +kernel
theorem dL_crossings_59 : decode cL_crossings 59 = .ok (.if_icmp .ne 354, 3) := by decide +kernel
theorem dL_crossings_62 : decode cL_crossings 62 = .ok (.aload_n 0, 1) := by decide +kernel
theorem dL_crossings_63 : decode cL_crossings 63 = .ok (.iconst 0, 1) := by decide +kernel
theorem dL_crossings_64 : decode cL_crossings 64 = .ok (.iconst 2, 1) := by decide +kernel
theorem dL_crossings_65 : decode cL_crossings 65 = .ok (.invokevirtual 50, 3) := by decide +kernel
theorem dL_crossings_68 : decode cL_crossings 68 = .ok (.iconst 2, 1) := by decide +kernel
theorem dL_crossings_69 : decode cL_crossings 69 = .ok (.if_icmp .ne 344, 3) := by decide +kernel
theorem dL_crossings_72 : decode cL_crossings 72 = .ok (.aload_n 0, 1) := by decide +kernel
theorem dL_crossings_73 : decode cL_crossings 73 = .ok (.bipush 9, 2) := by decide +kernel
theorem dL_crossings_75 : decode cL_crossings 75 = .ok (.iconst 2, 1) := by decide +kernel
theorem dL_crossings_76 : decode cL_crossings 76 = .ok (.invokevirtual 50, 3) := by decide +kernel
theorem dL_crossings_79 : decode cL_crossings 79 = .ok (.bipush 20, 2) := by decide +kernel
theorem dL_crossings_81 : decode cL_crossings 81 = .ok (.if_icmp .ne 332, 3) := by decide +kernel
theorem dL_crossings_84 : decode cL_crossings 84 = .ok (.aload_n 0, 1) := by decide +kernel
theorem dL_crossings_85 : decode cL_crossings 85 = .ok (.bipush 10, 2) := by decide +kernel
theorem dL_crossings_87 : decode cL_crossings 87 = .ok (.iconst 2, 1) := by decide +kernel
theorem dL_crossings_88 : decode cL_crossings 88 = .ok (.invokevirtual 50, 3) := by decide +kernel
theorem dL_crossings_91 : decode cL_crossings 91 = .ok (.bipush 20, 2) := by decide +kernel
theorem dL_crossings_93 : decode cL_crossings 93 = .ok (.if_icmp .ne 320, 3) := by decide +kernel
theorem dL_crossings_96 : decode cL_crossings 96 = .ok (.aload_n 0, 1) := by decide +kernel
theorem dL_crossings_97 : decode cL_crossings 97 = .ok (.bipush 19, 2) := by decide +kernel
theorem dL_crossings_99 : decode cL_crossings 99 = .ok (.iconst 2, 1) := by decide +kernel
theorem dL_crossings_100 : decode cL_crossings 100 = .ok (.invokevirtual 50, 3) := by decide +kernel
theorem dL_crossings_103 : decode cL_crossings 103 = .ok (.iconst 2, 1) := by decide +kernel
theorem dL_crossings_104 : decode cL_crossings 104 = .ok (.if_icmp .ne 309, 3) := by decide +kernel
theorem dL_crossings_107 : decode cL_crossings 107 = .ok (.aload_n 0, 1) := by decide +kernel
theorem dL_crossings_108 : decode cL_crossings 108 = .ok (.iconst 5, 1) := by decide +kernel
theorem dL_crossings_109 : decode cL_crossings 109 = .ok (.iconst 1, 1) := by decide +kernel
theorem dL_crossings_110 : decode cL_crossings 110 = .ok (.invokevirtual 50, 3) := by decide +kernel
theorem dL_crossings_113 : decode cL_crossings 113 = .ok (.sipush 300, 3) := by decide +kernel
theorem dL_crossings_116 : decode cL_crossings 116 = .ok (.if_icmp .ne 297, 3) := by decide +kernel
theorem dL_crossings_119 : decode cL_crossings 119 = .ok (.aload_n 0, 1) := by decide +kernel
theorem dL_crossings_120 : decode cL_crossings 120 = .ok (.invokevirtual 112, 3) := by decide +kernel
theorem dL_crossings_123 : decode cL_crossings 123 = .ok (.ifCond .ne 290, 3) := by decide +kernel
theorem dL_crossings_126 : decode cL_crossings 126 = .ok (.aload_n 0, 1) := by decide +kernel
theorem dL_crossings_127 : decode cL_crossings 127 = .ok (.invokevirtual 88, 3) := by decide +kernel
theorem dL_crossings_130 : decode cL_crossings 130 = .ok (.ifCond .ne 283, 3) := by decide +kernel
theorem dL_crossings_133 : decode cL_crossings 133 = .ok (.aload_n 0, 1) := by decide +kernel
theorem dL_crossings_134 : decode cL_crossings 134 = .ok (.iconst 0, 1) := by decide +kernel
theorem dL_crossings_135 : decode cL_crossings 135 = .ok (.invokevirtual 69, 3) := by decide +kernel
theorem dL_crossings_138 : decode cL_crossings 138 = .ok (.iconst (-1), 1) := by decide +kernel
theorem dL_crossings_139 : decode cL_crossings 139 = .ok (.if_icmp .ne 274, 3) := by decide +kernel
theorem dL_crossings_142 : decode cL_crossings 142 = .ok (.aload_n 0, 1) := by decide +kernel
theorem dL_crossings_143 : decode cL_crossings 143 = .ok (.iconst 0, 1) := by decide +kernel
theorem dL_crossings_144 : decode cL_crossings 144 = .ok (.invokevirtual 72, 3) := by decide +kernel
theorem dL_crossings_147 : decode cL_crossings 147 = .ok (.ifCond .ne 266, 3) := by decide +kernel
theorem dL_crossings_150 : decode cL_crossings 150 = .ok (.aload_n 0, 1) := by decide +kernel
theorem dL_crossings_151 : decode cL_crossings 151 = .ok (.iconst 1, 1) := by decide +kernel
theorem dL_crossings_152 : decode cL_crossings 152 = .ok (.invokevirtual 72, 3) := by decide +kernel
theorem dL_crossings_155 : decode cL_crossings 155 = .ok (.iconst (-1), 1) := by decide +kernel
theorem dL_crossings_156 : decode cL_crossings 156 = .ok (.if_icmp .ne 257, 3) := by decide +kernel
theorem dL_crossings_159 : decode cL_crossings 159 = .ok (.aload_n 0, 1) := by decide +kernel
theorem dL_crossings_160 : decode cL_crossings 160 = .ok (.invokevirtual 115, 3) := by decide +kernel
theorem dL_crossings_163 : decode cL_crossings 163 = .ok (.fconst 0, 1) := by decide +kernel
theorem dL_crossings_164 : decode cL_crossings 164 = .ok (.fcmp .l, 1) := by decide +kernel
theorem dL_crossings_165 : decode cL_crossings 165 = .ok (.ifCond .ne 248, 3) := by decide +kernel
theorem dL_crossings_168 : decode cL_crossings 168 = .ok (.aload_n 0, 1) := by decide +kernel
theorem dL_crossings_169 : decode cL_crossings 169 = .ok (.invokevirtual 119, 3) := by decide +kernel
theorem dL_crossings_172 : decode cL_crossings 172 = .ok (.dconst 1, 1) := by decide +kernel
theorem dL_crossings_173 : decode cL_crossings 173 = .ok (.dcmp .l, 1) := by decide +kernel
theorem dL_crossings_174 : decode cL_crossings 174 = .ok (.ifCond .ne 239, 3) := by decide +kernel
theorem dL_crossings_177 : decode cL_crossings 177 = .ok (.aload_n 0, 1) := by decide +kernel
theorem dL_crossings_178 : decode cL_crossings 178 = .ok (.invokestatic 123, 3) := by decide +kernel
theorem dL_crossings_181 : decode cL_crossings 181 = .ok (.ifCond .eq 232, 3) := by decide +kernel
theorem dL_crossings_184 : decode cL_crossings 184 = .ok (.aload_n 0, 1) := by decide +kernel
theorem dL_crossings_185 : decode cL_crossings 185 = .ok (.invokevirtual 23, 3) := by decide +kernel
theorem dL_crossings_188 : decode cL_crossings 188 = .ok (.iconst 1, 1) := by decide +kernel
theorem dL_crossings_189 : decode cL_crossings 189 = .ok (.if_icmp .ne 224, 3) := by decide +kernel
theorem dL_crossings_192 : decode cL_crossings 192 = .ok (.aload_n 0, 1) := by decide +kernel
theorem dL_crossings_193 : decode cL_crossings 193 = .ok (.iconst 1, 1) := by decide +kernel
theorem dL_crossings_194 : decode cL_crossings 194 = .ok (.invokevirtual 60, 3) := by decide +kernel
theorem dL_crossings_197 : decode cL_crossings 197 = .ok (.iconst 1, 1) := by decide +kernel
theorem dL_crossings_198 : decode cL_crossings 198 = .ok (.if_icmp .ne 215, 3) := by decide +kernel
theorem dL_crossings_201 : decode cL_crossings 201 = .ok (.aload_n 0, 1) := by decide +kernel
theorem dL_crossings_202 : decode cL_crossings 202 = .ok (.bipush 6, 2) := by decide +kernel
theorem dL_crossings_204 : decode cL_crossings 204 = .ok (.invokevirtual 60, 3) := by decide +kernel
theorem dL_crossings_207 : decode cL_crossings 207 = .ok (.sipush 220, 3) := by decide +kernel
theorem dL_crossings_210 : decode cL_crossings 210 = .ok (.if_icmp .ne 203, 3) := by decide +kernel
theorem dL_crossings_213 : decode cL_crossings 213 = .ok (.aload_n 0, 1) := by decide +kernel
theorem dL_crossings_214 : decode cL_crossings 214 = .ok (.iconst 5, 1) := by decide +kernel
theorem dL_crossings_215 : decode cL_crossings 215 = .ok (.invokevirtual 60, 3) := by decide +kernel
theorem dL_crossings_218 : decode cL_crossings 218 = .ok (.ifCond .ne 195, 3) := by decide +kernel
theorem dL_crossings_221 : decode cL_crossings 221 = .ok (.aload_n 0, 1) := by decide +kernel
theorem dL_crossings_222 : decode cL_crossings 222 = .ok (.iconst 3, 1) := by decide +kernel
theorem dL_crossings_223 : decode cL_crossings 223 = .ok (.iconst 0, 1) := by decide +kernel
theorem dL_crossings_224 : decode cL_crossings 224 = .ok (.invokevirtual 50, 3) := by decide +kernel
theorem dL_crossings_227 : decode cL_crossings 227 = .ok (.ifCond .ne 186, 3) := by decide +kernel
theorem dL_crossings_230 : decode cL_crossings 230 = .ok (.aload_n 0, 1) := by decide +kernel
theorem dL_crossings_231 : decode cL_crossings 231 = .ok (.iconst 4, 1) := by decide +kernel
theorem dL_crossings_232 : decode cL_crossings 232 = .ok (.iconst 0, 1) := by decide +kernel
theorem dL_crossings_233 : decode cL_crossings 233 = .ok (.invokevirtual 50, 3) := by decide +kernel
theorem dL_crossings_236 : decode cL_crossings 236 = .ok (.iconst 1, 1) := by decide +kernel
theorem dL_crossings_237 : decode cL_crossings 237 = .ok (.if_icmp .ne 176, 3) := by decide +kernel
theorem dL_crossings_240 : decode cL_crossings 240 = .ok (.aload_n 0, 1) := by decide +kernel
theorem dL_crossings_241 : decode cL_crossings 241 = .ok (.bipush 8, 2) := by decide +kernel
theorem dL_crossings_243 : decode cL_crossings 243 = .ok (.iconst 0, 1) := by decide +kernel
theorem dL_crossings_244 : decode cL_crossings 244 = .ok (.invokevirtual 50, 3) := by decide +kernel
theorem dL_crossings_247 : decode cL_crossings 247 = .ok (.iconst 1, 1) := by decide +kernel
theorem dL_crossings_248 : decode cL_crossings 248 = .ok (.if_icmp .ne 165, 3) := by decide +kernel
theorem dL_crossings_251 : decode cL_crossings 251 = .ok (.aload_n 0, 1) := by decide +kernel
theorem dL_crossings_252 : decode cL_crossings 252 = .ok (.bipush 9, 2) := by decide +kernel
theorem dL_crossings_254 : decode cL_crossings 254 = .ok (.iconst 0, 1) := by decide +kernel
theorem dL_crossings_255 : decode cL_crossings 255 = .ok (.invokevirtual 50, 3) := by decide +kernel
theorem dL_crossings_258 : decode cL_crossings 258 = .ok (.iconst 2, 1) := by decide +kernel
theorem dL_crossings_259 : decode cL_crossings 259 = .ok (.if_icmp .ne 154, 3) := by decide +kernel
theorem dL_crossings_262 : decode cL_crossings 262 = .ok (.aload_n 0, 1) := by decide +kernel
theorem dL_crossings_263 : decode cL_crossings 263 = .ok (.bipush 10, 2) := by decide +kernel
theorem dL_crossings_265 : decode cL_crossings 265 = .ok (.iconst 0, 1) := by decide +kernel
theorem dL_crossings_266 : decode cL_crossings 266 = .ok (.invokevirtual 50, 3) := by decide +kernel
theorem dL_crossings_269 : decode cL_crossings 269 = .ok (.iconst 2, 1) := by decide +kernel
theorem dL_crossings_270 : decode cL_crossings 270 = .ok (.if_icmp .ne 143, 3) := by decide +kernel
theorem dL_crossings_273 : decode cL_crossings 273 = .ok (.aload_n 0, 1) := by decide +kernel
theorem dL_crossings_274 : decode cL_crossings 274 = .ok (.bipush 15, 2) := by decide +kernel
theorem dL_crossings_276 : decode cL_crossings 276 = .ok (.iconst 0, 1) := by decide +kernel
theorem dL_crossings_277 : decode cL_crossings 277 = .ok (.invokevirtual 50, 3) := by decide +kernel
theorem dL_crossings_280 : decode cL_crossings 280 = .ok (.iconst 1, 1) := by decide +kernel
theorem dL_crossings_281 : decode cL_crossings 281 = .ok (.if_icmp .ne 132, 3) := by decide +kernel
theorem dL_crossings_284 : decode cL_crossings 284 = .ok (.aload_n 0, 1) := by decide +kernel
theorem dL_crossings_285 : decode cL_crossings 285 = .ok (.bipush 16, 2) := by decide +kernel
theorem dL_crossings_287 : decode cL_crossings 287 = .ok (.iconst 0, 1) := by decide +kernel
theorem dL_crossings_288 : decode cL_crossings 288 = .ok (.invokevirtual 50, 3) := by decide +kernel
theorem dL_crossings_291 : decode cL_crossings 291 = .ok (.ifCond .ne 122, 3) := by decide +kernel
theorem dL_crossings_294 : decode cL_crossings 294 = .ok (.aload_n 0, 1) := by decide +kernel
theorem dL_crossings_295 : decode cL_crossings 295 = .ok (.invokevirtual 115, 3) := by decide +kernel
theorem dL_crossings_298 : decode cL_crossings 298 = .ok (.ldc 127, 2) := by decide +kernel
theorem dL_crossings_300 : decode cL_crossings 300 = .ok (.fcmp .l, 1) := by decide +kernel
theorem dL_crossings_301 : decode cL_crossings 301 = .ok (.ifCond .ne 112, 3) := by decide +kernel
theorem dL_crossings_304 : decode cL_crossings 304 = .ok (.aload_n 0, 1) := by decide +kernel
theorem dL_crossings_305 : decode cL_crossings 305 = .ok (.bipush 9, 2) := by decide +kernel
theorem dL_crossings_307 : decode cL_crossings 307 = .ok (.iconst 1, 1) := by decide +kernel
theorem dL_crossings_308 : decode cL_crossings 308 = .ok (.invokevirtual 50, 3) := by decide +kernel
theorem dL_crossings_311 : decode cL_crossings 311 = .ok (.sipush 299, 3) := by decide +kernel
theorem dL_crossings_314 : decode cL_crossings 314 = .ok (.if_icmp .ne 99, 3) := by decide +kernel
theorem dL_crossings_317 : decode cL_crossings 317 = .ok (.aload_n 0, 1) := by decide +kernel
theorem dL_crossings_318 : decode cL_crossings 318 = .ok (.invokevirtual 23, 3) := by decide +kernel
theorem dL_crossings_321 : decode cL_crossings 321 = .ok (.iconst 1, 1) := by decide +kernel
theorem dL_crossings_322 : decode cL_crossings 322 = .ok (.if_icmp .ne 91, 3) := by decide +kernel
theorem dL_crossings_325 : decode cL_crossings 325 = .ok (.aload_n 0, 1) := by decide +kernel
theorem dL_crossings_326 : decode cL_crossings 326 = .ok (.invokevirtual 23, 3) := by decide +kernel
theorem dL_crossings_329 : decode cL_crossings 329 = .ok (.iconst 1, 1) := by decide +kernel
theorem dL_crossings_330 : decode cL_crossings 330 = .ok (.if_icmp .ne 83, 3) := by decide +kernel
theorem dL_crossings_333 : decode cL_crossings 333 = .ok (.aload_n 0, 1) := by decide +kernel
theorem dL_crossings_334 : decode cL_crossings 334 = .ok (.iconst 5, 1) := by decide +kernel
theorem dL_crossings_335 : decode cL_crossings 335 = .ok (.invokevirtual 60, 3) := by decide +kernel
theorem dL_crossings_338 : decode cL_crossings 338 = .ok (.iconst 1, 1) := by decide +kernel
theorem dL_crossings_339 : decode cL_crossings 339 = .ok (.if_icmp .ne 74, 3) := by decide +kernel
theorem dL_crossings_342 : decode cL_crossings 342 = .ok (.aload_n 0, 1) := by decide +kernel
theorem dL_crossings_343 : decode cL_crossings 343 = .ok (.bipush 6, 2) := by decide +kernel
theorem dL_crossings_345 : decode cL_crossings 345 = .ok (.invokevirtual 60, 3) := by decide +kernel
theorem dL_crossings_348 : decode cL_crossings 348 = .ok (.sipush 160, 3) := by decide +kernel
theorem dL_crossings_351 : decode cL_crossings 351 = .ok (.if_icmp .ne 62, 3) := by decide +kernel
theorem dL_crossings_354 : decode cL_crossings 354 = .ok (.aload_n 0, 1) := by decide +kernel
theorem dL_crossings_355 : decode cL_crossings 355 = .ok (.bipush 8, 2) := by decide +kernel
theorem dL_crossings_357 : decode cL_crossings 357 = .ok (.invokevirtual 60, 3) := by decide +kernel
theorem dL_crossings_360 : decode cL_crossings 360 = .ok (.iconst 3, 1) := by decide +kernel
theorem dL_crossings_361 : decode cL_crossings 361 = .ok (.if_icmp .ne 52, 3) := by decide +kernel
theorem dL_crossings_364 : decode cL_crossings 364 = .ok (.aload_n 0, 1) := by decide +kernel
theorem dL_crossings_365 : decode cL_crossings 365 = .ok (.iconst 0, 1) := by decide +kernel
theorem dL_crossings_366 : decode cL_crossings 366 = .ok (.invokevirtual 60, 3) := by decide +kernel
theorem dL_crossings_369 : decode cL_crossings 369 = .ok (.iconst 3, 1) := by decide +kernel
theorem dL_crossings_370 : decode cL_crossings 370 = .ok (.if_icmp .ne 43, 3) := by decide +kernel
theorem dL_crossings_373 : decode cL_crossings 373 = .ok (.aload_n 0, 1) := by decide +kernel
theorem dL_crossings_374 : decode cL_crossings 374 = .ok (.iconst 0, 1) := by decide +kernel
theorem dL_crossings_375 : decode cL_crossings 375 = .ok (.iconst 2, 1) := by decide +kernel
theorem dL_crossings_376 : decode cL_crossings 376 = .ok (.invokevirtual 50, 3) := by decide +kernel
theorem dL_crossings_379 : decode cL_crossings 379 = .ok (.ifCond .ne 34, 3) := by decide +kernel
theorem dL_crossings_382 : decode cL_crossings 382 = .ok (.aload_n 0, 1) := by decide +kernel
theorem dL_crossings_383 : decode cL_crossings 383 = .ok (.iconst 1, 1) := by decide +kernel
theorem dL_crossings_384 : decode cL_crossings 384 = .ok (.iconst 2, 1) := by decide +kernel
theorem dL_crossings_385 : decode cL_crossings 385 = .ok (.invokevirtual 50, 3) := by decide +kernel
theorem dL_crossings_388 : decode cL_crossings 388 = .ok (.ifCond .ne 25, 3) := by decide +kernel
theorem dL_crossings_391 : decode cL_crossings 391 = .ok (.aload_n 0, 1) := by decide +kernel
theorem dL_crossings_392 : decode cL_crossings 392 = .ok (.iconst 2, 1) := by decide +kernel
theorem dL_crossings_393 : decode cL_crossings 393 = .ok (.iconst 2, 1) := by decide +kernel
theorem dL_crossings_394 : decode cL_crossings 394 = .ok (.invokevirtual 50, 3) := by decide +kernel
theorem dL_crossings_397 : decode cL_crossings 397 = .ok (.iconst 2, 1) := by decide +kernel
theorem dL_crossings_398 : decode cL_crossings 398 = .ok (.if_icmp .ne 15, 3) := by decide +kernel
theorem dL_crossings_401 : decode cL_crossings 401 = .ok (.aload_n 0, 1) := by decide +kernel
theorem dL_crossings_402 : decode cL_crossings 402 = .ok (.bipush 9, 2) := by decide +kernel
theorem dL_crossings_404 : decode cL_crossings 404 = .ok (.iconst 2, 1) := by decide +kernel
theorem dL_crossings_405 : decode cL_crossings 405 = .ok (.invokevirtual 50, 3) := by decide +kernel
theorem dL_crossings_408 : decode cL_crossings 408 = .ok (.bipush 16, 2) := by decide +kernel
theorem dL_crossings_410 : decode cL_crossings 410 = .ok (.if_icmp .eq 5, 3) := by decide +kernel
theorem dL_crossings_413 : decode cL_crossings 413 = .ok (.iconst 0, 1) := by decide +kernel
theorem dL_crossings_414 : decode cL_crossings 414 = .ok (.ireturn, 1) := by decide +kernel
theorem dL_crossings_415 : decode cL_crossings 415 = .ok (.aload_n 0, 1) := by decide +kernel
theorem dL_crossings_416 : decode cL_crossings 416 = .ok (.iconst 2, 1) := by decide +kernel
theorem dL_crossings_417 : decode cL_crossings 417 = .ok (.invokevirtual 29, 3) := by decide +kernel
theorem dL_crossings_420 : decode cL_crossings 420 = .ok (.bipush 38, 2) := by decide +kernel
theorem dL_crossings_422 : decode cL_crossings 422 = .ok (.if_icmp .ne 284, 3) := by decide +kernel
theorem dL_crossings_425 : decode cL_crossings 425 = .ok (.aload_n 0, 1) := by decide +kernel
theorem dL_crossings_426 : decode cL_crossings 426 = .ok (.iconst 0, 1) := by decide +kernel
theorem dL_crossings_427 : decode cL_crossings 427 = .ok (.invokevirtual 60, 3) := by decide +kernel
theorem dL_crossings_430 : decode cL_crossings 430 = .ok (.iconst 5, 1) := by decide +kernel
theorem dL_crossings_431 : decode cL_crossings 431 = .ok (.if_icmp .ne 275, 3) := by decide +kernel
theorem dL_crossings_434 : decode cL_crossings 434 = .ok (.aload_n 0, 1) := by decide +kernel
theorem dL_crossings_435 : decode cL_crossings 435 = .ok (.iconst 5, 1) := by decide +kernel
theorem dL_crossings_436 : decode cL_crossings 436 = .ok (.invokevirtual 60, 3) := by decide +kernel
theorem dL_crossings_439 : decode cL_crossings 439 = .ok (.ifCond .ne 267, 3) := by decide +kernel
theorem dL_crossings_442 : decode cL_crossings 442 = .ok (.aload_n 0, 1) := by decide +kernel
theorem dL_crossings_443 : decode cL_crossings 443 = .ok (.iconst 2, 1) := by decide +kernel
theorem dL_crossings_444 : decode cL_crossings 444 = .ok (.iconst 0, 1) := by decide +kernel
theorem dL_crossings_445 : decode cL_crossings 445 = .ok (.invokevirtual 50, 3) := by decide +kernel
theorem dL_crossings_448 : decode cL_crossings 448 = .ok (.iconst 3, 1) := by decide +kernel
theorem dL_crossings_449 : decode cL_crossings 449 = .ok (.if_icmp .ne 257, 3) := by decide +kernel
theorem dL_crossings_452 : decode cL_crossings 452 = .ok (.aload_n 0, 1) := by decide +kernel
theorem dL_crossings_453 : decode cL_crossings 453 = .ok (.bipush 7, 2) := by decide +kernel
theorem dL_crossings_455 : decode cL_crossings 455 = .ok (.iconst 0, 1) := by decide +kernel
theorem dL_crossings_456 : decode cL_crossings 456 = .ok (.invokevirtual 50, 3) := by decide +kernel
theorem dL_crossings_459 : decode cL_crossings 459 = .ok (.bipush 6, 2) := by decide +kernel
theorem dL_crossings_461 : decode cL_crossings 461 = .ok (.if_icmp .ne 245, 3) := by decide +kernel
theorem dL_crossings_464 : decode cL_crossings 464 = .ok (.aload_n 0, 1) := by decide +kernel
theorem dL_crossings_465 : decode cL_crossings 465 = .ok (.bipush 19, 2) := by decide +kernel
theorem dL_crossings_467 : decode cL_crossings 467 = .ok (.iconst 0, 1) := by decide +kernel
theorem dL_crossings_468 : decode cL_crossings 468 = .ok (.invokevirtual 50, 3) := by decide +kernel
theorem dL_crossings_471 : decode cL_crossings 471 = .ok (.ifCond .ne 235, 3) := by decide +kernel
theorem dL_crossings_474 : decode cL_crossings 474 = .ok (.aload_n 0, 1) := by decide +kernel
theorem dL_crossings_475 : decode cL_crossings 475 = .ok (.invokevirtual 23, 3) := by decide +kernel
theorem dL_crossings_478 : decode cL_crossings 478 = .ok (.iconst 1, 1) := by decide +kernel
theorem dL_crossings_479 : decode cL_crossings 479 = .ok (.if_icmp .ne 227, 3) := by decide +kernel
theorem dL_crossings_482 : decode cL_crossings 482 = .ok (.aload_n 0, 1) := by decide +kernel
theorem dL_crossings_483 : decode cL_crossings 483 = .ok (.iconst 1, 1) := by decide +kernel
theorem dL_crossings_484 : decode cL_crossings 484 = .ok (.invokevirtual 60, 3) := by decide +kernel
theorem dL_crossings_487 : decode cL_crossings 487 = .ok (.ifCond .ne 219, 3) := by decide +kernel
theorem dL_crossings_490 : decode cL_crossings 490 = .ok (.aload_n 0, 1) := by decide +kernel
theorem dL_crossings_491 : decode cL_crossings 491 = .ok (.iconst 0, 1) := by decide +kernel
theorem dL_crossings_492 : decode cL_crossings 492 = .ok (.bipush 10, 2) := by decide +kernel
theorem dL_crossings_494 : decode cL_crossings 494 = .ok (.invokevirtual 9, 3) := by decide +kernel
theorem dL_crossings_497 : decode cL_crossings 497 = .ok (.iconst 1, 1) := by decide +kernel
theorem dL_crossings_498 : decode cL_crossings 498 = .ok (.if_icmp .ne 208, 3) := by decide +kernel
theorem dL_crossings_501 : decode cL_crossings 501 = .ok (.aload_n 0, 1) := by decide +kernel
theorem dL_crossings_502 : decode cL_crossings 502 = .ok (.iconst 0, 1) := by decide +kernel
theorem dL_crossings_503 : decode cL_crossings 503 = .ok (.bipush 7, 2) := by decide +kernel
theorem dL_crossings_505 : decode cL_crossings 505 = .ok (.invokevirtual 9, 3) := by decide +kernel
theorem dL_crossings_508 : decode cL_crossings 508 = .ok (.iconst 2, 1) := by decide +kernel
theorem dL_crossings_509 : decode cL_crossings 509 = .ok (.if_icmp .ne 197, 3) := by decide +kernel
theorem dL_crossings_512 : decode cL_crossings 512 = .ok (.aload_n 0, 1) := by decide +kernel
theorem dL_crossings_513 : decode cL_crossings 513 = .ok (.iconst 1, 1) := by decide +kernel
theorem dL_crossings_514 : decode cL_crossings 514 = .ok (.iconst 5, 1) := by decide +kernel
theorem dL_crossings_515 : decode cL_crossings 515 = .ok (.invokevirtual 9, 3) := by decide +kernel
theorem dL_crossings_518 : decode cL_crossings 518 = .ok (.iconst 1, 1) := by decide +kernel
theorem dL_crossings_519 : decode cL_crossings 519 = .ok (.if_icmp .ne 187, 3) := by decide +kernel
theorem dL_crossings_522 : decode cL_crossings 522 = .ok (.aload_n 0, 1) := by decide +kernel
theorem dL_crossings_523 : decode cL_crossings 523 = .ok (.iconst 2, 1) := by decide +kernel
theorem dL_crossings_524 : decode cL_crossings 524 = .ok (.invokevirtual 26, 3) := by decide +kernel
theorem dL_crossings_527 : decode cL_crossings 527 = .ok (.bipush 8, 2) := by decide +kernel
theorem dL_crossings_529 : decode cL_crossings 529 = .ok (.if_icmp .ne 177, 3) := by decide +kernel
theorem dL_crossings_532 : decode cL_crossings 532 = .ok (.aload_n 0, 1) := by decide +kernel
theorem dL_crossings_533 : decode cL_crossings 533 = .ok (.bipush 12, 2) := by decide +kernel
theorem dL_crossings_535 : decode cL_crossings 535 = .ok (.invokevirtual 60, 3) := by decide +kernel
theorem dL_crossings_538 : decode cL_crossings 538 = .ok (.bipush 6, 2) := by decide +kernel
theorem dL_crossings_540 : decode cL_crossings 540 = .ok (.if_icmp .ne 166, 3) := by decide +kernel
theorem dL_crossings_543 : decode cL_crossings 543 = .ok (.aload_n 0, 1) := by decide +kernel
theorem dL_crossings_544 : decode cL_crossings 544 = .ok (.iconst 0, 1) := by decide +kernel
theorem dL_crossings_545 : decode cL_crossings 545 = .ok (.invokevirtual 69, 3) := by decide +kernel
theorem dL_crossings_548 : decode cL_crossings 548 = .ok (.bipush 60, 2) := by decide +kernel
theorem dL_crossings_550 : decode cL_crossings 550 = .ok (.if_icmp .ne 156, 3) := by decide +kernel
theorem dL_crossings_553 : decode cL_crossings 553 = .ok (.aload_n 0, 1) := by decide +kernel
theorem dL_crossings_554 : decode cL_crossings 554 = .ok (.iconst 0, 1) := by decide +kernel
theorem dL_crossings_555 : decode cL_crossings 555 = .ok (.invokevirtual 15, 3) := by decide +kernel
theorem dL_crossings_558 : decode cL_crossings 558 = .ok (.bipush 10, 2) := by decide +kernel
theorem dL_crossings_560 : decode cL_crossings 560 = .ok (.if_icmp .ne 146, 3) := by decide +kernel
theorem dL_crossings_563 : decode cL_crossings 563 = .ok (.aload_n 0, 1) := by decide +kernel
theorem dL_crossings_564 : decode cL_crossings 564 = .ok (.iconst 0, 1) := by decide +kernel
theorem dL_crossings_565 : decode cL_crossings 565 = .ok (.iconst 0, 1) := by decide +kernel
theorem dL_crossings_566 : decode cL_crossings 566 = .ok (.iconst 1, 1) := by decide +kernel
theorem dL_crossings_567 : decode cL_crossings 567 = .ok (.invokevirtual 56, 3) := by decide +kernel
theorem dL_crossings_570 : decode cL_crossings 570 = .ok (.ifCond .ne 136, 3) := by decide +kernel
theorem dL_crossings_573 : decode cL_crossings 573 = .ok (.aload_n 0, 1) := by decide +kernel
theorem dL_crossings_574 : decode cL_crossings 574 = .ok (.iconst 4, 1) := by decide +kernel
theorem dL_crossings_575 : decode cL_crossings 575 = .ok (.invokevirtual 60, 3) := by decide +kernel
theorem dL_crossings_578 : decode cL_crossings 578 = .ok (.bipush 10, 2) := by decide +kernel
theorem dL_crossings_580 : decode cL_crossings 580 = .ok (.if_icmp .ne 126, 3) := by decide +kernel
theorem dL_crossings_583 : decode cL_crossings 583 = .ok (.aload_n 0, 1) := by decide +kernel
theorem dL_crossings_584 : decode cL_crossings 584 = .ok (.iconst 0, 1) := by decide +kernel
theorem dL_crossings_585 : decode cL_crossings 585 = .ok (.iconst 2, 1) := by decide +kernel
theorem dL_crossings_586 : decode cL_crossings 586 = .ok (.invokevirtual 50, 3) := by decide +kernel
theorem dL_crossings_589 : decode cL_crossings 589 = .ok (.bipush 33, 2) := by decide +kernel
theorem dL_crossings_591 : decode cL_crossings 591 = .ok (.if_icmp .ne 115, 3) := by decide +kernel
theorem dL_crossings_594 : decode cL_crossings 594 = .ok (.aload_n 0, 1) := by decide +kernel
theorem dL_crossings_595 : decode cL_crossings 595 = .ok (.bipush 9, 2) := by decide +kernel
theorem dL_crossings_597 : decode cL_crossings 597 = .ok (.iconst 2, 1) := by decide +kernel
theorem dL_crossings_598 : decode cL_crossings 598 = .ok (.invokevirtual 50, 3) := by decide +kernel
theorem dL_crossings_601 : decode cL_crossings 601 = .ok (.bipush 60, 2) := by decide +kernel
theorem dL_crossings_603 : decode cL_crossings 603 = .ok (.if_icmp .ne 103, 3) := by decide +kernel
theorem dL_crossings_606 : decode cL_crossings 606 = .ok (.aload_n 0, 1) := by decide +kernel
theorem dL_crossings_607 : decode cL_crossings 607 = .ok (.iconst 1, 1) := by decide +kernel
theorem dL_crossings_608 : decode cL_crossings 608 = .ok (.invokevirtual 69, 3) := by decide +kernel
theorem dL_crossings_611 : decode cL_crossings 611 = .ok (.bipush 46, 2) := by decide +kernel
theorem dL_crossings_613 : decode cL_crossings 613 = .ok (.if_icmp .ne 93, 3) := by decide +kernel
theorem dL_crossings_616 : decode cL_crossings 616 = .ok (.aload_n 0, 1) := by decide +kernel
theorem dL_crossings_617 : decode cL_crossings 617 = .ok (.iconst 0, 1) := by decide +kernel
theorem dL_crossings_618 : decode cL_crossings 618 = .ok (.invokevirtual 69, 3) := by decide +kernel
theorem dL_crossings_621 : decode cL_crossings 621 = .ok (.bipush 88, 2) := by decide +kernel
theorem dL_crossings_623 : decode cL_crossings 623 = .ok (.if_icmp .ne 83, 3) := by decide +kernel
theorem dL_crossings_626 : decode cL_crossings 626 = .ok (.aload_n 0, 1) := by decide +kernel
theorem dL_crossings_627 : decode cL_crossings 627 = .ok (.iconst 0, 1) := by decide +kernel
theorem dL_crossings_628 : decode cL_crossings 628 = .ok (.invokevirtual 72, 3) := by decide +kernel
theorem dL_crossings_631 : decode cL_crossings 631 = .ok (.bipush 10, 2) := by decide +kernel
theorem dL_crossings_633 : decode cL_crossings 633 = .ok (.if_icmp .ne 73, 3) := by decide +kernel
theorem dL_crossings_636 : decode cL_crossings 636 = .ok (.aload_n 0, 1) := by decide +kernel
theorem dL_crossings_637 : decode cL_crossings 637 = .ok (.iconst 1, 1) := by decide +kernel
theorem dL_crossings_638 : decode cL_crossings 638 = .ok (.invokevirtual 72, 3) := by decide +kernel
theorem dL_crossings_641 : decode cL_crossings 641 = .ok (.iconst 3, 1) := by decide +kernel
theorem dL_crossings_642 : decode cL_crossings 642 = .ok (.if_icmp .ne 64, 3) := by decide +kernel
theorem dL_crossings_645 : decode cL_crossings 645 = .ok (.aload_n 0, 1) := by decide +kernel
theorem dL_crossings_646 : decode cL_crossings 646 = .ok (.iconst 2, 1) := by decide +kernel
theorem dL_crossings_647 : decode cL_crossings 647 = .ok (.invokevirtual 72, 3) := by decide +kernel
theorem dL_crossings_650 : decode cL_crossings 650 = .ok (.iconst (-1), 1) := by decide +kernel
theorem dL_crossings_651 : decode cL_crossings 651 = .ok (.if_icmp .ne 55, 3) := by decide +kernel
theorem dL_crossings_654 : decode cL_crossings 654 = .ok (.aload_n 0, 1) := by decide +kernel
theorem dL_crossings_655 : decode cL_crossings 655 = .ok (.iconst 0, 1) := by decide +kernel
theorem dL_crossings_656 : decode cL_crossings 656 = .ok (.invokevirtual 15, 3) := by decide +kernel
theorem dL_crossings_659 : decode cL_crossings 659 = .ok (.bipush 7, 2) := by decide +kernel
theorem dL_crossings_661 : decode cL_crossings 661 = .ok (.if_icmp .ne 45, 3) := by decide +kernel
theorem dL_crossings_664 : decode cL_crossings 664 = .ok (.aload_n 0, 1) := by decide +kernel
theorem dL_crossings_665 : decode cL_crossings 665 = .ok (.invokevirtual 106, 3) := by decide +kernel
theorem dL_crossings_668 : decode cL_crossings 668 = .ok (.iconst 1, 1) := by decide +kernel
theorem dL_crossings_669 : decode cL_crossings 669 = .ok (.if_icmp .ne 37, 3) := by decide +kernel
theorem dL_crossings_672 : decode cL_crossings 672 = .ok (.aload_n 0, 1) := by decide +kernel
theorem dL_crossings_673 : decode cL_crossings 673 = .ok (.iconst 3, 1) := by decide +kernel
theorem dL_crossings_674 : decode cL_crossings 674 = .ok (.iconst 0, 1) := by decide +kernel
theorem dL_crossings_675 : decode cL_crossings 675 = .ok (.iconst 0, 1) := by decide +kernel
theorem dL_crossings_676 : decode cL_crossings 676 = .ok (.invokestatic 91, 3) := by decide +kernel
theorem dL_crossings_679 : decode cL_crossings 679 = .ok (.bipush (-13), 2) := by decide +kernel
theorem dL_crossings_681 : decode cL_crossings 681 = .ok (.if_icmp .ne 25, 3) := by decide +kernel
theorem dL_crossings_684 : decode cL_crossings 684 = .ok (.aload_n 0, 1) := by decide +kernel
theorem dL_crossings_685 : decode cL_crossings 685 = .ok (.invokevirtual 88, 3) := by decide +kernel
theorem dL_crossings_688 : decode cL_crossings 688 = .ok (.iconst (-1), 1) := by decide +kernel
theorem dL_crossings_689 : decode cL_crossings 689 = .ok (.if_icmp .ne 17, 3) := by decide +kernel
theorem dL_crossings_692 : decode cL_crossings 692 = .ok (.aload_n 0, 1) := by decide +kernel
theorem dL_crossings_693 : decode cL_crossings 693 = .ok (.invokevirtual 85, 3) := by decide +kernel
theorem dL_crossings_696 : decode cL_crossings 696 = .ok (.ifCond .ne 10, 3) := by decide +kernel
theorem dL_crossings_699 : decode cL_crossings 699 = .ok (.aload_n 0, 1) := by decide +kernel
theorem dL_crossings_700 : decode cL_crossings 700 = .ok (.invokestatic 123, 3) := by decide +kernel
theorem dL_crossings_703 : decode cL_crossings 703 = .ok (.ifCond .ne 5, 3) := by decide +kernel
theorem dL_crossings_706 : decode cL_crossings 706 = .ok (.iconst 0, 1) := by decide +kernel
theorem dL_crossings_707 : decode cL_crossings 707 = .ok (.ireturn, 1) := by decide +kernel
theorem dL_crossings_708 : decode cL_crossings 708 = .ok (.aload_n 0, 1) := by decide +kernel
theorem dL_crossings_709 : decode cL_crossings 709 = .ok (.invokevirtual 19, 3) := by decide +kernel
theorem dL_crossings_712 : decode cL_crossings 712 = .ok (.ifCond .ne 170, 3) := by decide +kernel
theorem dL_crossings_715 : decode cL_crossings 715 = .ok (.aload_n 0, 1) := by decide +kernel
theorem dL_crossings_716 : decode cL_crossings 716 = .ok (.bipush 11, 2) := by decide +kernel
theorem dL_crossings_718 : decode cL_crossings 718 = .ok (.invokevirtual 60, 3) := by decide +kernel
theorem dL_crossings_721 : decode cL_crossings 721 = .ok (.iconst 2, 1) := by decide +kernel
theorem dL_crossings_722 : decode cL_crossings 722 = .ok (.if_icmp .ne 160, 3) := by decide +kernel
theorem dL_crossings_725 : decode cL_crossings 725 = .ok (.aload_n 0, 1) := by decide +kernel
theorem dL_crossings_726 : decode cL_crossings 726 = .ok (.invokevirtual 119, 3) := by decide +kernel
theorem dL_crossings_729 : decode cL_crossings 729 = .ok (.dconst 0, 1) := by decide +kernel
theorem dL_crossings_730 : decode cL_crossings 730 = .ok (.dcmp .l, 1) := by decide +kernel
theorem dL_crossings_731 : decode cL_crossings 731 = .ok (.ifCond .ne 151, 3) := by decide +kernel
theorem dL_crossings_734 : decode cL_crossings 734 = .ok (.aload_n 0, 1) := by decide +kernel
theorem dL_crossings_735 : decode cL_crossings 735 = .ok (.invokevirtual 47, 3) := by decide +kernel
theorem dL_crossings_738 : decode cL_crossings 738 = .ok (.iconst 5, 1) := by decide +kernel
theorem dL_crossings_739 : decode cL_crossings 739 = .ok (.if_icmp .ne 143, 3) := by decide +kernel
theorem dL_crossings_742 : decode cL_crossings 742 = .ok (.aload_n 0, 1) := by decide +kernel
theorem dL_crossings_743 : decode cL_crossings 743 = .ok (.iconst 2, 1) := by decide +kernel
theorem dL_crossings_744 : decode cL_crossings 744 = .ok (.invokevirtual 60, 3) := by decide +kernel
theorem dL_crossings_747 : decode cL_crossings 747 = .ok (.iconst 2, 1) := by decide +kernel
theorem dL_crossings_748 : decode cL_crossings 748 = .ok (.if_icmp .ne 134, 3) := by decide +kernel
theorem dL_crossings_751 : decode cL_crossings 751 = .ok (.aload_n 0, 1) := by decide +kernel
theorem dL_crossings_752 : decode cL_crossings 752 = .ok (.iconst 1, 1) := by decide +kernel
theorem dL_crossings_753 : decode cL_crossings 753 = .ok (.bipush 17, 2) := by decide +kernel
theorem dL_crossings_755 : decode cL_crossings 755 = .ok (.invokevirtual 35, 3) := by decide +kernel
theorem dL_crossings_758 : decode cL_crossings 758 = .ok (.bipush 12, 2) := by decide +kernel
theorem dL_crossings_760 : decode cL_crossings 760 = .ok (.if_icmp .ne 122, 3) := by decide +kernel
theorem dL_crossings_763 : decode cL_crossings 763 = .ok (.aload_n 0, 1) := by decide +kernel
theorem dL_crossings_764 : decode cL_crossings 764 = .ok (.invokevirtual 106, 3) := by decide +kernel
theorem dL_crossings_767 : decode cL_crossings 767 = .ok (.ifCond .ne 115, 3) := by decide +kernel
theorem dL_crossings_770 : decode cL_crossings 770 = .ok (.aload_n 0, 1) := by decide +kernel
theorem dL_crossings_771 : decode cL_crossings 771 = .ok (.invokevirtual 23, 3) := by decide +kernel
theorem dL_crossings_774 : decode cL_crossings 774 = .ok (.iconst 1, 1) := by decide +kernel
theorem dL_crossings_775 : decode cL_crossings 775 = .ok (.if_icmp .ne 107, 3) := by decide +kernel
theorem dL_crossings_778 : decode cL_crossings 778 = .ok (.aload_n 0, 1) := by decide +kernel
theorem dL_crossings_779 : decode cL_crossings 779 = .ok (.iconst 1, 1) := by decide +kernel
theorem dL_crossings_780 : decode cL_crossings 780 = .ok (.invokevirtual 60, 3) := by decide +kernel
theorem dL_crossings_783 : decode cL_crossings 783 = .ok (.iconst 1, 1) := by decide +kernel
theorem dL_crossings_784 : decode cL_crossings 784 = .ok (.if_icmp .ne 98, 3) := by decide +kernel
theorem dL_crossings_787 : decode cL_crossings 787 = .ok (.aload_n 0, 1) := by decide +kernel
theorem dL_crossings_788 : decode cL_crossings 788 = .ok (.iconst 1, 1) := by decide +kernel
theorem dL_crossings_789 : decode cL_crossings 789 = .ok (.invokevirtual 15, 3) := by decide +kernel
theorem dL_crossings_792 : decode cL_crossings 792 = .ok (.iconst 5, 1) := by decide +kernel
theorem dL_crossings_793 : decode cL_crossings 793 = .ok (.if_icmp .ne 89, 3) := by decide +kernel
theorem dL_crossings_796 : decode cL_crossings 796 = .ok (.aload_n 0, 1) := by decide +kernel
theorem dL_crossings_797 : decode cL_crossings 797 = .ok (.iconst 1, 1) := by decide +kernel
theorem dL_crossings_798 : decode cL_crossings 798 = .ok (.iconst 0, 1) := by decide +kernel
theorem dL_crossings_799 : decode cL_crossings 799 = .ok (.iconst 1, 1) := by decide +kernel
theorem dL_crossings_800 : decode cL_crossings 800 = .ok (.invokevirtual 56, 3) := by decide +kernel
theorem dL_crossings_803 : decode cL_crossings 803 = .ok (.iconst 1, 1) := by decide +kernel
theorem dL_crossings_804 : decode cL_crossings 804 = .ok (.if_icmp .ne 78, 3) := by decide +kernel
theorem dL_crossings_807 : decode cL_crossings 807 = .ok (.aload_n 0, 1) := by decide +kernel
theorem dL_crossings_808 : decode cL_crossings 808 = .ok (.invokevirtual 19, 3) := by decide +kernel
theorem dL_crossings_811 : decode cL_crossings 811 = .ok (.iconst 2, 1) := by decide +kernel
theorem dL_crossings_812 : decode cL_crossings 812 = .ok (.if_icmp .ne 70, 3) := by decide +kernel
theorem dL_crossings_815 : decode cL_crossings 815 = .ok (.aload_n 0, 1) := by decide +kernel
theorem dL_crossings_816 : decode cL_crossings 816 = .ok (.bipush 10, 2) := by decide +kernel
theorem dL_crossings_818 : decode cL_crossings 818 = .ok (.invokevirtual 60, 3) := by decide +kernel
theorem dL_crossings_821 : decode cL_crossings 821 = .ok (.iconst 2, 1) := by decide +kernel
theorem dL_crossings_822 : decode cL_crossings 822 = .ok (.if_icmp .ne 60, 3) := by decide +kernel
theorem dL_crossings_825 : decode cL_crossings 825 = .ok (.aload_n 0, 1) := by decide +kernel
theorem dL_crossings_826 : decode cL_crossings 826 = .ok (.bipush 11, 2) := by decide +kernel
theorem dL_crossings_828 : decode cL_crossings 828 = .ok (.invokevirtual 60, 3) := by decide +kernel
theorem dL_crossings_831 : decode cL_crossings 831 = .ok (.iconst 1, 1) := by decide +kernel
theorem dL_crossings_832 : decode cL_crossings 832 = .ok (.if_icmp .ne 50, 3) := by decide +kernel
theorem dL_crossings_835 : decode cL_crossings 835 = .ok (.aload_n 0, 1) := by decide +kernel
theorem dL_crossings_836 : decode cL_crossings 836 = .ok (.invokevirtual 119, 3) := by decide +kernel
theorem dL_crossings_839 : decode cL_crossings 839 = .ok (.ldc2_w 128, 3) := by decide +kernel
theorem dL_crossings_842 : decode cL_crossings 842 = .ok (.dcmp .l, 1) := by decide +kernel
theorem dL_crossings_843 : decode cL_crossings 843 = .ok (.ifCond .ne 39, 3) := by decide +kernel
theorem dL_crossings_846 : decode cL_crossings 846 = .ok (.aload_n 0, 1) := by decide +kernel
theorem dL_crossings_847 : decode cL_crossings 847 = .ok (.bipush 9, 2) := by decide +kernel
theorem dL_crossings_849 : decode cL_crossings 849 = .ok (.invokevirtual 60, 3) := by decide +kernel
theorem dL_crossings_852 : decode cL_crossings 852 = .ok (.iconst 3, 1) := by decide +kernel
theorem dL_crossings_853 : decode cL_crossings 853 = .ok (.if_icmp .ne 29, 3) := by decide +kernel
theorem dL_crossings_856 : decode cL_crossings 856 = .ok (.aload_n 0, 1) := by decide +kernel
theorem dL_crossings_857 : decode cL_crossings 857 = .ok (.bipush 12, 2) := by decide +kernel
theorem dL_crossings_859 : decode cL_crossings 859 = .ok (.invokevirtual 60, 3) := by decide +kernel
theorem dL_crossings_862 : decode cL_crossings 862 = .ok (.bipush 7, 2) := by decide +kernel
theorem dL_crossings_864 : decode cL_crossings 864 = .ok (.if_icmp .ne 18, 3) := by decide +kernel
theorem dL_crossings_867 : decode cL_crossings 867 = .ok (.aload_n 0, 1) := by decide +kernel
theorem dL_crossings_868 : decode cL_crossings 868 = .ok (.bipush 13, 2) := by decide +kernel
theorem dL_crossings_870 : decode cL_crossings 870 = .ok (.invokevirtual 60, 3) := by decide +kernel
theorem dL_crossings_873 : decode cL_crossings 873 = .ok (.bipush 6, 2) := by decide +kernel
theorem dL_crossings_875 : decode cL_crossings 875 = .ok (.if_icmp .ne 7, 3) := by decide +kernel
theorem dL_crossings_878 : decode cL_crossings 878 = .ok (.iconst 1, 1) := by decide +kernel
theorem dL_crossings_879 : decode cL_crossings 879 = .ok (.goto 4, 3) := by decide +kernel
theorem dL_crossings_882 : decode cL_crossings 882 = .ok (.iconst 0, 1) := by decide +kernel
theorem dL_crossings_883 : decode cL_crossings 883 = .ok (.ireturn, 1) := by decide +kernel
set_option maxRecDepth 20000 in
theorem ggL_limits_X5_init : GoodIn wsL_limits wsX5_init := goodIn_r _ [6, 7, 8, 9, 10, 11, 12, 13, 14, 15, 16, 17, 18, 19, 20, 21, 22, 23, 24, 25, 26, 27, 28, 29, 30, 31, 32, 33, 34, 35, 36, 37, 38, 39, 40, 41, 42, 43, 3, 44, 45, 46, 47, 48, 49, 50, 51, 52, 53, 54, 55, 56, 57, 58, 59, 60, 61, 62, 63, 64, 65, 66, 67, 68, 69, 70, 71, 72, 73, 74, 75, 76, 77, 78, 79, 80, 81, 82, 83, 84, 85, 578, 579, 580, 581, 582, 583, 584, 585, 586, 587, 588, 589, 590, 591, 572, 573, 574, 575, 576, 577, 592, 593, 594, 595, 596, 597, 598, 599, 600, 601, 602, 603, 604, 605, 606] (by decide +kernel) (by decide +kernel)
set_option maxRecDepth 20000 in
theorem gL_limits_X5_init : GoodIn wsL_limits (wsX5_init) := ggL_limits_X5_init
set_option maxRecDepth 20000 in
theorem ggL_limits_X5_set : GoodIn wsL_limits wsX5_set := goodIn_ca (goodIn_ca (goodIn_r _ [89, 90, 91, 92, 93, 94, 95, 19, 13, 96, 97, 98, 3, 99, 100, 101, 102, 103, 104, 105, 18, 106, 76, 75, 107, 108, 109, 110, 74, 111, 112, 113, 114, 115, 116, 117, 12, 118, 30, 31, 35, 36, 37, 38, 42, 119, 120, 121, 122, 123, 124, 125, 43, 44, 45, 46, 47, 48, 49, 50, 51, 52, 126, 127, 128, 34, 129, 57, 58, 59, 60, 130, 131, 132, 41, 133, 65, 66, 67, 68, 134, 135, 136, 572, 573, 574, 575, 576, 577, 578, 579, 580, 581, 582, 583, 584, 585, 586, 587, 588, 589, 590, 591, 592, 593, 594, 599, 600, 601, 602, 603, 604, 605, 606] (by decide +kernel) (by decide +kernel)) (goodIn_sub (fun _ h => List.mem_cons_of_mem _ (List.mem_append_left _ (List.mem_append_left _ (List.mem_append_right _ h)))) (by decide +kernel))) (goodIn_sub (fun _ h => List.mem_cons_of_mem _ (List.mem_append_left _ (List.mem_append_right _ h))) (by decide +kernel))
set_option maxRecDepth 20000 in
theorem gL_limits_X5_set : GoodIn wsL_limits (wsV RL 35 RX5 yX5_set wsX5_set) := goodIn_app (goodIn_of _ (by decide +kernel)) ggL_limits_X5_set
set_option maxRecDepth 20000 in
theorem ggL_limits_X5_current : GoodIn wsL_limits wsX5_current := goodIn_ca (goodIn_ca (goodIn_r _ [140, 90, 91, 92, 93, 19, 13, 141, 97, 98, 3, 99, 103, 104, 105, 18, 106, 76, 75, 107, 108, 109, 110, 74, 111, 112, 113, 114, 115, 116, 117, 12, 118, 30, 31, 35, 36, 37, 38, 42, 119, 120, 121, 122, 123, 124, 125, 43, 44, 45, 46, 47, 48, 49, 50, 51, 52, 126, 127, 128, 34, 129, 57, 58, 59, 60, 130, 131, 132, 41, 133, 65, 66, 67, 68, 100, 101, 102, 134, 135, 136, 572, 573, 574, 575, 576, 577, 578, 579, 580, 581, 582, 583, 584, 585, 586, 587, 588, 589, 590, 591, 592, 593, 594, 599, 600, 601, 602, 603, 604, 605, 606] (by decide +kernel) (by decide +kernel)) (goodIn_sub (fun _ h => List.mem_cons_of_mem _ (List.mem_append_left _ (List.mem_append_left _ (List.mem_append_right _ h)))) (by decide +kernel))) (goodIn_sub (fun _ h => List.mem_cons_of_mem _ (List.mem_append_left _ (List.mem_append_right _ h))) (by decide +kernel))
set_option maxRecDepth 20000 in
theorem gL_limits_X5_current : GoodIn wsL_limits (wsV RL 32 RX5 yX5_current wsX5_current) := goodIn_app (goodIn_of _ (by decide +kernel)) ggL_limits_X5_current
set_option maxRecDepth 20000 in
theorem ggL_limits_X5_bestHour : GoodIn wsL_limits wsX5_bestHour := goodIn_r _ [145, 13, 146, 147, 148, 12, 149, 42, 150, 151, 152, 153, 30, 119, 154, 112, 113, 114, 101, 3, 102, 155, 156, 157, 158, 37, 38, 159, 160, 161, 34, 162, 60, 163, 164, 165, 166, 167, 168, 47, 169, 170, 171, 172, 41, 173, 174, 175, 176, 177, 178, 179, 180, 181, 46, 48, 66, 572, 573, 574, 575, 576, 577, 578, 579, 580, 581, 582, 583, 584, 585, 586, 587, 588, 589, 590, 591, 599, 600, 601, 602, 603, 604, 605, 606] (by decide +kernel) (by decide +kernel)
set_option maxRecDepth 20000 in
theorem gL_limits_X5_bestHour : GoodIn wsL_limits (wsV RL 112 RX5 yX5_bestHour wsX5_bestHour) := goodIn_app (goodIn_of _ (by decide +kernel)) ggL_limits_X5_bestHour
set_option maxRecDepth 20000 in
theorem ggL_limits_X5_keep : GoodIn wsL_limits wsX5_keep := goodIn_r _ [185, 15, 13, 24, 186, 187, 116, 117, 12, 118, 30, 31, 35, 36, 37, 38, 42, 119, 120, 121, 122, 123, 124, 125, 43, 3, 44, 45, 46, 47, 48, 49, 50, 51, 52, 126, 127, 128, 34, 129, 57, 58, 59, 60, 130, 131, 132, 41, 133, 65, 66, 67, 68, 572, 573, 574, 575, 576, 577, 578, 579, 580, 581, 582, 583, 584, 585, 586, 587, 588, 589, 590, 591, 599, 600, 601, 602, 603, 604, 605, 606] (by decide +kernel) (by decide +kernel)
set_option maxRecDepth 20000 in
theorem gL_limits_X5_keep : GoodIn wsL_limits (wsV RL 130 RX5 yX5_keep wsX5_keep) := goodIn_app (goodIn_of _ (by decide +kernel)) ggL_limits_X5_keep
set_option maxRecDepth 20000 in
theorem ggL_limits_X5_pass : GoodIn wsL_limits wsX5_pass := goodIn_ca (goodIn_r _ [191, 92, 93, 19, 13, 186, 97, 98, 3, 99, 103, 104, 105, 18, 106, 76, 75, 107, 108, 109, 110, 74, 111, 112, 113, 114, 115, 116, 117, 12, 118, 30, 31, 35, 36, 37, 38, 42, 119, 120, 121, 122, 123, 124, 125, 43, 44, 45, 46, 47, 48, 49, 50, 51, 52, 126, 127, 128, 34, 129, 57, 58, 59, 60, 130, 131, 132, 41, 133, 65, 66, 67, 68, 192, 193, 194, 195, 196, 197, 198, 199, 572, 573, 574, 575, 576, 577, 578, 579, 580, 581, 582, 583, 584, 585, 586, 587, 588, 589, 590, 591, 592, 593, 594, 599, 600, 601, 602, 603, 604, 605, 606] (by decide +kernel) (by decide +kernel)) (goodIn_sub (fun _ h => List.mem_cons_of_mem _ (List.mem_append_left _ (List.mem_append_right _ h))) (by decide +kernel))
set_option maxRecDepth 20000 in
theorem gL_limits_X5_pass : GoodIn wsL_limits (wsV RL 26 RX5 yX5_pass wsX5_pass) := goodIn_app (goodIn_of _ (by decide +kernel)) ggL_limits_X5_pass
set_option maxRecDepth 20000 in
theorem ggL_limits_X5_section : GoodIn wsL_limits wsX5_section := goodIn_ca (goodIn_ca (goodIn_r _ [203, 90, 91, 92, 93, 13, 204, 97, 98, 3, 99, 205, 206, 207, 41, 208, 65, 101, 102, 209, 210, 211, 12, 212, 42, 31, 213, 214, 215, 216, 174, 175, 47, 176, 217, 218, 219, 220, 150, 151, 152, 153, 30, 119, 154, 112, 113, 114, 155, 156, 157, 158, 37, 38, 159, 160, 161, 34, 162, 60, 163, 164, 165, 166, 167, 168, 169, 221, 178, 179, 180, 181, 46, 48, 66, 572, 573, 574, 575, 576, 577, 578, 579, 580, 581, 582, 583, 584, 585, 586, 587, 588, 589, 590, 591, 603, 604, 605, 606, 599, 600, 601, 602] (by decide +kernel) (by decide +kernel)) (goodIn_sub (fun _ h => List.mem_cons_of_mem _ (List.mem_append_left _ (List.mem_append_left _ (List.mem_append_right _ h)))) (by decide +kernel))) (goodIn_sub (fun _ h => List.mem_cons_of_mem _ (List.mem_append_left _ (List.mem_append_right _ h))) (by decide +kernel))
set_option maxRecDepth 20000 in
theorem gL_limits_X5_section : GoodIn wsL_limits (wsV RL 50 RX5 yX5_section wsX5_section) := goodIn_app (goodIn_of _ (by decide +kernel)) ggL_limits_X5_section
set_option maxRecDepth 20000 in
theorem ggL_limits_X5_why : GoodIn wsL_limits wsX5_why := goodIn_r _ [225, 13, 226, 227, 228, 12, 229, 31, 42, 230, 163, 164, 165, 166, 37, 38, 167, 168, 47, 169, 159, 160, 161, 34, 162, 60, 101, 3, 102, 150, 151, 152, 153, 30, 119, 154, 112, 113, 114, 155, 156, 157, 158, 231, 232, 233, 41, 234, 177, 178, 179, 180, 181, 46, 48, 66, 174, 175, 176, 235, 214, 215, 216, 65, 572, 573, 574, 575, 576, 577, 578, 579, 580, 581, 582, 583, 584, 585, 586, 587, 588, 589, 590, 591, 603, 604, 605, 606, 599, 600, 601, 602] (by decide +kernel) (by decide +kernel)
set_option maxRecDepth 20000 in
theorem gL_limits_X5_why : GoodIn wsL_limits (wsV RL 106 RX5 yX5_why wsX5_why) := goodIn_app (goodIn_of _ (by decide +kernel)) ggL_limits_X5_why
set_option maxRecDepth 20000 in
theorem ggL_limits_X5_weakest : GoodIn wsL_limits wsX5_weakest := goodIn_r _ [239, 13, 240, 241, 242, 12, 243, 244, 210, 211, 212, 42, 31, 101, 3, 102, 213, 214, 215, 41, 216, 65, 174, 175, 47, 176, 245, 218, 219, 220, 150, 151, 152, 153, 30, 119, 154, 112, 113, 114, 155, 156, 157, 158, 37, 38, 159, 160, 161, 34, 162, 60, 163, 164, 165, 166, 167, 168, 169, 221, 178, 179, 180, 181, 46, 48, 66, 572, 573, 574, 575, 576, 577, 578, 579, 580, 581, 582, 583, 584, 585, 586, 587, 588, 589, 590, 591, 603, 604, 605, 606, 599, 600, 601, 602] (by decide +kernel) (by decide +kernel)
set_option maxRecDepth 20000 in
theorem gL_limits_X5_weakest : GoodIn wsL_limits (wsV RL 109 RX5 yX5_weakest wsX5_weakest) := goodIn_app (goodIn_of _ (by decide +kernel)) ggL_limits_X5_weakest
set_option maxRecDepth 20000 in
theorem ggL_limits_X5_needed : GoodIn wsL_limits wsX5_needed := goodIn_r _ [249, 13, 14, 226, 227, 228, 12, 229, 31, 42, 230, 163, 164, 165, 166, 37, 38, 167, 168, 47, 169, 159, 160, 161, 34, 162, 60, 101, 3, 102, 150, 151, 152, 153, 30, 119, 154, 112, 113, 114, 155, 156, 157, 158, 231, 232, 233, 41, 234, 177, 178, 179, 180, 181, 46, 48, 66, 174, 175, 176, 235, 214, 215, 216, 65, 250, 251, 252, 253, 254, 187, 116, 117, 118, 35, 36, 120, 121, 122, 123, 124, 125, 43, 44, 45, 49, 50, 51, 52, 126, 127, 128, 129, 57, 58, 59, 130, 131, 132, 133, 67, 68, 255, 256, 257, 258, 259, 260, 261, 262, 135, 136, 263, 193, 194, 195, 196, 197, 198, 199, 572, 573, 574, 575, 576, 577, 578, 579, 580, 581, 582, 583, 584, 585, 586, 587, 588, 589, 590, 591, 603, 604, 605, 606, 599, 600, 601, 602] (by decide +kernel) (by decide +kernel)
set_option maxRecDepth 20000 in
theorem gL_limits_X5_needed : GoodIn wsL_limits (wsV RL 88 RX5 yX5_needed wsX5_needed) := goodIn_app (goodIn_of _ (by decide +kernel)) ggL_limits_X5_needed
set_option maxRecDepth 20000 in
theorem ggL_limits_X5_lasts : GoodIn wsL_limits wsX5_lasts := goodIn_r _ [267, 14, 13, 187, 116, 117, 12, 118, 30, 31, 35, 36, 37, 38, 42, 119, 120, 121, 122, 123, 124, 125, 43, 3, 44, 45, 46, 47, 48, 49, 50, 51, 52, 126, 127, 128, 34, 129, 57, 58, 59, 60, 130, 131, 132, 41, 133, 65, 66, 67, 68, 226, 227, 228, 229, 230, 163, 164, 165, 166, 167, 168, 169, 159, 160, 161, 162, 101, 102, 150, 151, 152, 153, 154, 112, 113, 114, 155, 156, 157, 158, 231, 232, 233, 234, 177, 178, 179, 180, 181, 174, 175, 176, 235, 214, 215, 216, 268, 269, 270, 271, 272, 273, 274, 275, 135, 136, 263, 193, 194, 195, 196, 197, 198, 199, 572, 573, 574, 575, 576, 577, 578, 579, 580, 581, 582, 583, 584, 585, 586, 587, 588, 589, 590, 591, 599, 600, 601, 602, 603, 604, 605, 606] (by decide +kernel) (by decide +kernel)
set_option maxRecDepth 20000 in
theorem gL_limits_X5_lasts : GoodIn wsL_limits (wsV RL 85 RX5 yX5_lasts wsX5_lasts) := goodIn_app (goodIn_of _ (by decide +kernel)) ggL_limits_X5_lasts
set_option maxRecDepth 20000 in
theorem ggL_limits_X5_draw : GoodIn wsL_limits wsX5_draw := goodIn_ca (goodIn_ca (goodIn_r _ [279, 92, 93, 280, 281, 13, 19, 204, 282, 97, 98, 3, 99, 250, 251, 252, 12, 253, 42, 254, 103, 104, 105, 18, 106, 76, 75, 107, 108, 109, 110, 74, 111, 112, 113, 114, 115, 116, 117, 118, 30, 31, 35, 36, 37, 38, 119, 120, 121, 122, 123, 124, 125, 43, 44, 45, 46, 47, 48, 49, 50, 51, 52, 126, 127, 128, 34, 129, 57, 58, 59, 60, 130, 131, 132, 41, 133, 65, 66, 67, 68, 255, 256, 257, 258, 259, 260, 261, 262, 101, 102, 135, 136, 263, 193, 194, 195, 196, 197, 198, 199, 572, 573, 574, 575, 576, 577, 578, 579, 580, 581, 582, 583, 584, 585, 586, 587, 588, 589, 590, 591, 603, 604, 605, 606, 592, 593, 594, 599, 600, 601, 602] (by decide +kernel) (by decide +kernel)) (goodIn_sub (fun _ h => List.mem_cons_of_mem _ (List.mem_append_left _ (List.mem_append_right _ h))) (by decide +kernel))) (goodIn_sub (fun _ h => List.mem_cons_of_mem _ (List.mem_append_right _ h)) (by decide +kernel))
set_option maxRecDepth 20000 in
theorem gL_limits_X5_draw : GoodIn wsL_limits (wsV RL 29 RX5 yX5_draw wsX5_draw) := goodIn_app (goodIn_of _ (by decide +kernel)) ggL_limits_X5_draw
set_option maxRecDepth 20000 in
theorem ggL_limits_X5_goBack : GoodIn wsL_limits wsX5_goBack := goodIn_ca (goodIn_r _ [286, 280, 281, 24, 19, 13, 15, 186, 103, 104, 105, 18, 106, 76, 75, 107, 108, 109, 110, 74, 111, 112, 113, 114, 115, 116, 117, 12, 118, 30, 31, 35, 36, 37, 38, 42, 119, 120, 121, 122, 123, 124, 125, 43, 3, 44, 45, 46, 47, 48, 49, 50, 51, 52, 126, 127, 128, 34, 129, 57, 58, 59, 60, 130, 131, 132, 41, 133, 65, 66, 67, 68, 187, 572, 573, 574, 575, 576, 577, 578, 579, 580, 581, 582, 583, 584, 585, 586, 587, 588, 589, 590, 591, 592, 593, 594, 599, 600, 601, 602, 603, 604, 605, 606] (by decide +kernel) (by decide +kernel)) (goodIn_sub (fun _ h => List.mem_cons_of_mem _ (List.mem_append_right _ h)) (by decide +kernel))
set_option maxRecDepth 20000 in
theorem gL_limits_X5_goBack : GoodIn wsL_limits (wsV RL 44 RX5 yX5_goBack wsX5_goBack) := goodIn_app (goodIn_of _ (by decide +kernel)) ggL_limits_X5_goBack
set_option maxRecDepth 20000 in
theorem ggL_limits_X5_count : GoodIn wsL_limits wsX5_count := goodIn_ca (goodIn_r _ [290, 92, 93, 13, 186, 291, 204, 292, 293, 282, 294, 295, 296, 297, 298, 19, 299, 300, 301, 12, 302, 37, 38, 196, 197, 198, 34, 199, 59, 303, 156, 157, 158, 159, 160, 161, 162, 60, 304, 164, 165, 166, 167, 168, 47, 169, 305, 306, 307, 18, 308, 76, 572, 573, 574, 575, 576, 577, 578, 579, 580, 581, 582, 583, 584, 585, 586, 587, 588, 589, 590, 591, 603, 604, 605, 606, 599, 600, 601, 602, 592, 593, 594] (by decide +kernel) (by decide +kernel)) (goodIn_sub (fun _ h => List.mem_cons_of_mem _ (List.mem_append_left _ (List.mem_append_right _ h))) (by decide +kernel))
set_option maxRecDepth 20000 in
theorem gL_limits_X5_count : GoodIn wsL_limits (wsV RL 60 RX5 yX5_count wsX5_count) := goodIn_app (goodIn_of _ (by decide +kernel)) ggL_limits_X5_count
set_option maxRecDepth 20000 in
theorem ggL_limits_X5_cross : GoodIn wsL_limits wsX5_cross := goodIn_ca (goodIn_r _ [312, 280, 281, 13, 19, 226, 227, 228, 12, 229, 31, 42, 230, 163, 164, 165, 166, 37, 38, 167, 168, 47, 169, 159, 160, 161, 34, 162, 60, 101, 3, 102, 150, 151, 152, 153, 30, 119, 154, 112, 113, 114, 155, 156, 157, 158, 231, 232, 233, 41, 234, 177, 178, 179, 180, 181, 46, 48, 66, 174, 175, 176, 235, 214, 215, 216, 65, 103, 104, 105, 18, 106, 76, 75, 107, 108, 109, 110, 74, 111, 115, 116, 117, 118, 35, 36, 120, 121, 122, 123, 124, 125, 43, 44, 45, 49, 50, 51, 52, 126, 127, 128, 129, 57, 58, 59, 130, 131, 132, 133, 67, 68, 268, 269, 270, 271, 272, 273, 274, 275, 135, 136, 263, 193, 194, 195, 196, 197, 198, 199, 572, 573, 574, 575, 576, 577, 578, 579, 580, 581, 582, 583, 584, 585, 586, 587, 588, 589, 590, 591, 603, 604, 605, 606, 599, 600, 601, 602, 592, 593, 594] (by decide +kernel) (by decide +kernel)) (goodIn_sub (fun _ h => List.mem_cons_of_mem _ (List.mem_append_right _ h)) (by decide +kernel))
set_option maxRecDepth 20000 in
theorem gL_limits_X5_cross : GoodIn wsL_limits (wsV RL 23 RX5 yX5_cross wsX5_cross) := goodIn_app (goodIn_of _ (by decide +kernel)) ggL_limits_X5_cross
set_option maxRecDepth 20000 in
theorem ggL_limits_X5_arrive : GoodIn wsL_limits wsX5_arrive := goodIn_ca (goodIn_ca (goodIn_ca (goodIn_r _ [316, 90, 91, 92, 93, 280, 281, 13, 19, 97, 98, 3, 99, 317, 318, 319, 12, 320, 321, 322, 323, 324, 35, 36, 325, 326, 327, 34, 328, 59, 57, 103, 104, 105, 18, 106, 76, 75, 107, 108, 109, 110, 74, 111, 112, 113, 114, 115, 116, 117, 118, 30, 31, 37, 38, 42, 119, 120, 121, 122, 123, 124, 125, 43, 44, 45, 46, 47, 48, 49, 50, 51, 52, 126, 127, 128, 129, 58, 60, 130, 131, 132, 41, 133, 65, 66, 67, 68, 329, 330, 331, 332, 333, 334, 335, 336, 337, 135, 136, 338, 339, 197, 198, 199, 572, 573, 574, 575, 576, 577, 578, 579, 580, 581, 582, 583, 584, 585, 586, 587, 588, 589, 590, 591, 599, 600, 601, 602, 592, 593, 594, 603, 604, 605, 606] (by decide +kernel) (by decide +kernel)) (goodIn_sub (fun _ h => List.mem_cons_of_mem _ (List.mem_append_left _ (List.mem_append_left _ (List.mem_append_right _ h)))) (by decide +kernel))) (goodIn_sub (fun _ h => List.mem_cons_of_mem _ (List.mem_append_left _ (List.mem_append_right _ h))) (by decide +kernel))) (goodIn_sub (fun _ h => List.mem_cons_of_mem _ (List.mem_append_right _ h)) (by decide +kernel))
set_option maxRecDepth 20000 in
theorem gL_limits_X5_arrive : GoodIn wsL_limits (wsV RL 9 RX5 yX5_arrive wsX5_arrive) := goodIn_app (goodIn_of _ (by decide +kernel)) ggL_limits_X5_arrive
set_option maxRecDepth 20000 in
theorem ggL_limits_L_call : GoodIn wsL_limits wsL_call := goodIn_ca (goodIn_ca (goodIn_ca (goodIn_r _ [343, 344, 345, 346, 313, 314, 315, 3, 316, 90, 91, 92, 93, 280, 281, 13, 19, 97, 98, 99, 317, 318, 319, 12, 320, 321, 322, 323, 324, 35, 36, 325, 326, 327, 34, 328, 59, 57, 103, 104, 105, 18, 106, 76, 75, 107, 108, 109, 110, 74, 111, 112, 113, 114, 115, 116, 117, 118, 30, 31, 37, 38, 42, 119, 120, 121, 122, 123, 124, 125, 43, 44, 45, 46, 47, 48, 49, 50, 51, 52, 126, 127, 128, 129, 58, 60, 130, 131, 132, 41, 133, 65, 66, 67, 68, 329, 330, 331, 332, 333, 334, 335, 336, 337, 135, 136, 338, 339, 197, 198, 199, 347, 348, 349, 350, 351, 352, 353, 354, 196, 355, 356, 357, 358, 359, 360, 361, 362, 363, 364, 365, 366, 101, 102, 367, 368, 369, 370, 371, 372, 373, 374, 375, 376, 377, 378, 379, 380, 381, 382, 383, 300, 301, 302, 384, 385, 386, 387, 309, 310, 311, 312, 226, 227, 228, 229, 230, 163, 164, 165, 166, 167, 168, 169, 159, 160, 161, 162, 150, 151, 152, 153, 154, 155, 156, 157, 158, 231, 232, 233, 234, 177, 178, 179, 180, 181, 174, 175, 176, 235, 214, 215, 216, 268, 269, 270, 271, 272, 273, 274, 275, 263, 193, 194, 195, 188, 189, 190, 191, 186, 192, 276, 277, 278, 279, 204, 282, 250, 251, 252, 253, 254, 255, 256, 257, 258, 259, 260, 261, 262, 137, 138, 139, 140, 141, 100, 134, 86, 87, 88, 89, 94, 95, 96, 388, 389, 390, 391, 23, 392, 393, 394, 22, 395, 83, 396, 397, 398, 399, 82, 85, 84, 400, 401, 402, 403, 404, 405, 406, 407, 408, 409, 410, 411, 412, 413, 414, 415, 416, 417, 418, 419, 420, 421, 422, 423, 424, 425, 426, 427, 428, 429, 430, 431, 432, 433, 434, 435, 436, 437, 438, 439, 440, 441, 442, 443, 444, 283, 284, 285, 286, 24, 15, 187, 445, 446, 447, 448, 305, 306, 307, 308, 449, 450, 451, 452, 200, 201, 202, 203, 205, 206, 207, 208, 209, 210, 211, 212, 213, 217, 218, 219, 220, 221, 453, 454, 455, 456, 457, 458, 459, 460, 461, 462, 463, 464, 465, 466, 287, 288, 289, 290, 291, 292, 293, 294, 295, 296, 297, 298, 299, 303, 304, 467, 468, 469, 470, 471, 472, 473, 474, 475, 476, 477, 478, 14, 146, 147, 148, 149, 170, 171, 172, 173, 479, 480, 481, 482, 483, 484, 485, 486, 487, 488, 489, 490, 491, 492, 493, 494, 495, 496, 497, 498, 499, 500, 501, 502, 572, 573, 574, 575, 576, 577, 578, 579, 580, 581, 582, 583, 584, 585, 586, 587, 588, 589, 590, 591, 599, 600, 601, 602, 592, 593, 594, 603, 604, 605, 606, 595, 596, 597, 598] (by decide +kernel) (by decide +kernel)) (goodIn_sub (fun _ h => List.mem_cons_of_mem _ (List.mem_append_left _ (List.mem_append_left _ (List.mem_append_right _ h)))) (by decide +kernel))) (goodIn_sub (fun _ h => List.mem_cons_of_mem _ (List.mem_append_left _ (List.mem_append_right _ h))) (by decide +kernel))) (goodIn_sub (fun _ h => List.mem_cons_of_mem _ (List.mem_append_right _ h)) (by decide +kernel))
set_option maxRecDepth 20000 in
theorem gL_limits_L_call : GoodIn wsL_limits (va_wsS RL 91 yL_call wsL_call) := goodIn_app (goodIn_of _ (by decide +kernel)) ggL_limits_L_call
set_option maxRecDepth 20000 in
theorem ggL_limits_X5_load : GoodIn wsL_limits wsX5_load := goodIn_ca (goodIn_ca (goodIn_r _ [350, 90, 91, 280, 281, 13, 19, 97, 98, 3, 99, 351, 352, 353, 12, 354, 120, 321, 322, 323, 324, 35, 36, 196, 197, 198, 34, 199, 59, 355, 356, 357, 358, 37, 38, 325, 326, 327, 328, 57, 103, 104, 105, 18, 106, 76, 75, 107, 108, 109, 110, 74, 111, 112, 113, 114, 115, 116, 117, 118, 30, 31, 42, 119, 121, 122, 123, 124, 125, 43, 44, 45, 46, 47, 48, 49, 50, 51, 52, 126, 127, 128, 129, 58, 60, 130, 131, 132, 41, 133, 65, 66, 67, 68, 359, 360, 361, 362, 363, 364, 365, 366, 101, 102, 367, 368, 369, 370, 135, 136, 333, 334, 335, 336, 337, 572, 573, 574, 575, 576, 577, 578, 579, 580, 581, 582, 583, 584, 585, 586, 587, 588, 589, 590, 591, 599, 600, 601, 602, 592, 593, 594, 603, 604, 605, 606] (by decide +kernel) (by decide +kernel)) (goodIn_sub (fun _ h => List.mem_cons_of_mem _ (List.mem_append_left _ (List.mem_append_left _ (List.mem_append_right _ h)))) (by decide +kernel))) (goodIn_sub (fun _ h => List.mem_cons_of_mem _ (List.mem_append_right _ h)) (by decide +kernel))
set_option maxRecDepth 20000 in
theorem gL_limits_X5_load : GoodIn wsL_limits (wsV RL 15 RX5 yX5_load wsX5_load) := goodIn_app (goodIn_of _ (by decide +kernel)) ggL_limits_X5_load
set_option maxRecDepth 20000 in
theorem ggL_limits_X5_ifLoaded : GoodIn wsL_limits wsX5_ifLoaded := goodIn_ca (goodIn_r _ [478, 90, 91, 13, 14, 97, 98, 3, 99, 351, 352, 353, 12, 354, 120, 321, 322, 323, 324, 35, 36, 196, 197, 198, 34, 199, 59, 355, 356, 357, 358, 37, 38, 325, 326, 327, 328, 57, 187, 116, 117, 118, 30, 31, 42, 119, 121, 122, 123, 124, 125, 43, 44, 45, 46, 47, 48, 49, 50, 51, 52, 126, 127, 128, 129, 58, 60, 130, 131, 132, 41, 133, 65, 66, 67, 68, 359, 360, 361, 362, 363, 364, 365, 366, 101, 102, 367, 368, 369, 370, 135, 136, 333, 334, 335, 336, 337, 146, 147, 148, 149, 150, 151, 152, 153, 154, 112, 113, 114, 155, 156, 157, 158, 159, 160, 161, 162, 163, 164, 165, 166, 167, 168, 169, 170, 171, 172, 173, 174, 175, 176, 177, 178, 179, 180, 181, 572, 573, 574, 575, 576, 577, 578, 579, 580, 581, 582, 583, 584, 585, 586, 587, 588, 589, 590, 591, 599, 600, 601, 602, 603, 604, 605, 606] (by decide +kernel) (by decide +kernel)) (goodIn_sub (fun _ h => List.mem_cons_of_mem _ (List.mem_append_left _ (List.mem_append_left _ (List.mem_append_right _ h)))) (by decide +kernel))
set_option maxRecDepth 20000 in
theorem gL_limits_X5_ifLoaded : GoodIn wsL_limits (wsV RL 69 RX5 yX5_ifLoaded wsX5_ifLoaded) := goodIn_app (goodIn_of _ (by decide +kernel)) ggL_limits_X5_ifLoaded
set_option maxRecDepth 20000 in
theorem ggL_limits_X5_leastList : GoodIn wsL_limits wsX5_leastList := goodIn_ca (goodIn_r _ [482, 92, 93, 13, 97, 98, 3, 99, 483, 484, 485, 12, 486, 120, 487, 46, 47, 48, 321, 322, 323, 324, 35, 36, 196, 197, 198, 34, 199, 59, 488, 489, 490, 491, 37, 38, 492, 493, 494, 495, 496, 497, 498, 499, 500, 501, 502, 167, 168, 169, 159, 160, 161, 162, 60, 363, 364, 365, 366, 57, 101, 102, 572, 573, 574, 575, 576, 577, 578, 579, 580, 581, 582, 583, 584, 585, 586, 587, 588, 589, 590, 591, 599, 600, 601, 602] (by decide +kernel) (by decide +kernel)) (goodIn_sub (fun _ h => List.mem_cons_of_mem _ (List.mem_append_left _ (List.mem_append_right _ h))) (by decide +kernel))
set_option maxRecDepth 20000 in
theorem gL_limits_X5_leastList : GoodIn wsL_limits (wsV RL 72 RX5 yX5_leastList wsX5_leastList) := goodIn_app (goodIn_of _ (by decide +kernel)) ggL_limits_X5_leastList
set_option maxRecDepth 20000 in
theorem ggL_limits_X5_waiting : GoodIn wsL_limits wsX5_waiting := goodIn_ca (goodIn_ca (goodIn_r _ [456, 90, 91, 92, 93, 13, 97, 98, 3, 99, 338, 322, 323, 12, 324, 35, 36, 457, 364, 365, 34, 366, 59, 57, 101, 102, 572, 573, 574, 575, 576, 577, 578, 579, 580, 581, 582, 583, 584, 585, 586, 587, 588, 589, 590, 591, 599, 600, 601, 602] (by decide +kernel) (by decide +kernel)) (goodIn_sub (fun _ h => List.mem_cons_of_mem _ (List.mem_append_left _ (List.mem_append_left _ (List.mem_append_right _ h)))) (by decide +kernel))) (goodIn_sub (fun _ h => List.mem_cons_of_mem _ (List.mem_append_left _ (List.mem_append_right _ h))) (by decide +kernel))
