set_option maxRecDepth 20000 in
theorem ggL_law_L_crossings : GoodIn wsL_law wsL_crossings := goodIn_ca (goodIn_ca (goodIn_ca (goodIn_r _ [7, 0, 1, 2, 8, 9, 10, 11, 12, 13, 14, 15, 16, 17, 18, 19, 20, 21, 22, 23, 24, 25, 26, 27, 28, 29, 30, 31, 32, 33, 34, 35, 36, 37, 38, 39, 40, 41, 42, 43, 44, 45, 46, 47, 48, 49, 50, 51, 52, 53, 54, 55, 56, 57, 58, 59, 60, 61, 62, 63, 64, 65, 66, 67, 68, 69, 70, 71, 72, 73, 74, 75, 76, 77, 78, 79, 80, 81, 82, 83, 84, 85, 86, 87, 88, 89, 90, 91, 92, 93, 6, 94, 95, 96, 97, 98, 99, 100, 101, 102, 103, 104, 105, 106, 107, 108, 109, 110, 111, 112, 113, 114, 115, 116, 117, 118, 119, 120, 121, 122, 123, 124, 125, 126, 127, 128, 129, 130, 131, 132, 133, 134, 135, 136, 137, 138, 139, 140, 141, 142, 143, 144, 145, 146, 147, 148, 149, 150, 151, 152, 153, 154, 155, 156, 157, 158, 159, 160, 161, 162, 163, 164, 165, 166, 167, 168, 169, 170, 171, 172, 173, 174, 175, 176, 177, 178, 179, 180, 181, 182, 183, 184, 185, 186, 187, 188, 189, 190, 191, 192, 193, 194, 195, 196, 197, 198, 199, 200, 201, 202, 203, 204, 205, 206, 207, 208, 209, 210, 211, 212, 213, 214, 215, 216, 217, 218, 219, 220, 221, 222, 223, 224, 225, 226, 227, 228, 229, 230, 231, 232, 233, 234, 235, 236, 237, 238, 239, 240, 241, 242, 243, 244, 245, 246, 247, 248, 249, 250, 251, 252, 253, 254, 255, 256, 257, 258, 259, 260, 261, 262, 263, 264, 265, 266, 267, 268, 269, 270, 271, 272, 273, 274, 275, 276, 277, 278, 279, 280, 281, 282, 283, 284, 285, 286, 287, 288, 289, 290, 291, 292, 293, 294, 295, 296, 297, 298, 299, 300, 301, 302, 303, 304, 305, 306, 307, 308, 309, 310, 311, 312, 313, 314, 315, 316, 317, 318, 319, 320, 321, 322, 323, 324, 325, 326, 327, 328, 329, 330, 331, 332, 333, 334, 335, 336, 337, 338, 339, 340, 341, 342, 343, 344, 345, 346, 347, 348, 349, 350, 351, 352, 353, 354, 355, 356, 357, 358, 359, 360, 361, 362, 363, 364, 365, 366, 367, 368, 369, 370, 371, 372, 373, 374, 375, 376, 377, 378, 379, 380, 381, 382, 383, 384, 385, 386, 387, 388, 389, 390, 391, 392, 393, 394, 395, 396, 397, 398, 399, 400, 401, 402, 403, 404, 405, 406, 407, 408, 409, 410, 411, 412, 413, 414, 415, 416, 417, 418, 419, 420, 421, 422, 423, 424, 425, 426, 427, 428, 429, 430, 431, 432, 433, 434, 435, 436, 437, 438, 439, 440, 441, 442, 443, 444, 445, 446, 447, 448, 449, 450, 451, 452, 453, 454, 455, 456, 457, 458, 459, 460, 461, 462, 463, 464, 465, 466, 467, 468, 469, 470, 471, 472, 473, 474, 475, 476, 477, 478, 479, 480, 481, 482, 483, 484, 485, 486, 487, 488, 489, 490, 491, 492, 493, 494, 495, 496, 497, 498, 499, 500, 501, 502, 503, 504, 505, 506, 507, 508, 509, 510, 511, 512, 513, 514, 515, 516, 517, 518, 519, 520, 521, 522, 523, 524, 525, 526, 527, 528, 529, 530, 531, 532, 533, 534, 535, 536, 537, 538, 539, 540, 541, 542, 543, 544, 545, 546, 547, 548, 549, 550, 551, 552, 553, 554, 555, 556, 557, 558, 559, 560, 561, 562, 563, 564, 565, 566, 567, 568, 569, 570, 571, 572, 573, 574, 638, 639, 640, 641, 642, 643, 644, 645, 646, 647, 648, 649, 650, 651, 652, 653, 654, 655, 656, 657, 658, 659, 660, 661, 662, 663, 664, 665, 666, 667, 668, 669, 670, 671, 672] (by decide +kernel) (by decide +kernel)) (goodIn_sub (fun _ h => List.mem_append_left _ (List.mem_append_left _ (List.mem_append_right _ h))) (by decide +kernel))) (goodIn_sub (fun _ h => List.mem_append_left _ (List.mem_append_right _ h)) (by decide +kernel))) (goodIn_sub (fun _ h => List.mem_append_right _ h) (by decide +kernel))
set_option maxRecDepth 20000 in
theorem gL_law_L_crossings : GoodIn wsL_law (va_wsS RL 191 yL_crossings wsL_crossings) := goodIn_app (goodIn_of _ (by decide +kernel)) ggL_law_L_crossings
set_option maxRecDepth 20000 in
theorem ggL_law_L_limits : GoodIn wsL_law wsL_limits := goodIn_ca (goodIn_ca (goodIn_ca (goodIn_r _ [577, 0, 1, 2, 10, 11, 12, 13, 14, 15, 16, 17, 18, 19, 20, 21, 22, 23, 24, 25, 26, 27, 28, 29, 30, 31, 32, 33, 34, 35, 36, 37, 38, 39, 40, 41, 42, 43, 44, 45, 46, 47, 48, 49, 50, 51, 52, 53, 54, 55, 56, 57, 58, 59, 60, 61, 62, 63, 64, 65, 66, 67, 68, 69, 70, 71, 72, 73, 74, 75, 76, 77, 78, 79, 80, 81, 82, 83, 84, 85, 86, 87, 88, 89, 90, 91, 306, 307, 308, 309, 102, 103, 104, 105, 310, 311, 312, 108, 109, 110, 304, 191, 192, 123, 124, 125, 126, 127, 128, 129, 130, 131, 132, 133, 134, 135, 136, 137, 138, 139, 140, 141, 142, 143, 144, 145, 146, 147, 148, 149, 150, 151, 152, 153, 305, 163, 164, 299, 300, 301, 302, 303, 492, 493, 494, 495, 446, 447, 448, 449, 237, 238, 239, 240, 241, 242, 243, 244, 245, 233, 234, 235, 236, 226, 227, 228, 229, 230, 231, 232, 450, 451, 452, 453, 255, 256, 257, 250, 251, 252, 253, 254, 578, 579, 580, 581, 278, 374, 274, 275, 276, 277, 279, 271, 272, 273, 178, 167, 168, 169, 387, 388, 389, 390, 284, 391, 392, 393, 394, 395, 396, 397, 398, 399, 259, 260, 261, 400, 401, 402, 403, 404, 478, 479, 480, 481, 221, 222, 223, 224, 225, 246, 247, 248, 249, 258, 482, 483, 484, 485, 486, 487, 488, 489, 490, 491, 496, 497, 498, 499, 286, 287, 288, 289, 290, 291, 292, 293, 294, 295, 296, 297, 298, 270, 574, 551, 552, 553, 262, 263, 264, 265, 266, 267, 268, 269, 280, 281, 282, 283, 106, 107, 285, 370, 371, 372, 373, 419, 420, 421, 422, 423, 424, 425, 426, 427, 428, 429, 430, 431, 210, 211, 212, 432, 433, 379, 380, 381, 382, 217, 218, 219, 220, 98, 99, 100, 101, 111, 112, 113, 114, 115, 116, 117, 118, 119, 120, 121, 122, 154, 155, 156, 157, 158, 159, 160, 161, 162, 165, 166, 92, 93, 6, 94, 95, 96, 97, 170, 171, 172, 173, 174, 175, 176, 177, 179, 180, 181, 182, 183, 184, 185, 186, 187, 188, 189, 190, 193, 194, 195, 196, 197, 198, 199, 200, 201, 202, 203, 204, 205, 206, 207, 208, 209, 213, 214, 215, 216, 313, 314, 315, 316, 317, 318, 319, 320, 321, 322, 323, 324, 325, 326, 327, 328, 329, 330, 331, 332, 333, 334, 335, 336, 337, 338, 339, 340, 341, 342, 343, 344, 345, 346, 347, 348, 349, 350, 351, 352, 353, 354, 355, 356, 357, 358, 359, 360, 361, 362, 363, 364, 365, 366, 367, 368, 369, 375, 376, 377, 378, 383, 384, 385, 386, 405, 406, 407, 408, 409, 410, 411, 412, 413, 414, 415, 416, 417, 418, 434, 435, 436, 437, 438, 439, 440, 441, 442, 443, 444, 445, 454, 455, 456, 457, 458, 459, 460, 461, 462, 463, 464, 465, 466, 467, 468, 469, 470, 471, 472, 473, 474, 475, 476, 477, 513, 514, 515, 516, 517, 518, 519, 520, 521, 522, 523, 524, 525, 526, 527, 528, 529, 530, 531, 532, 533, 534, 535, 536, 537, 538, 539, 540, 541, 542, 543, 544, 545, 546, 547, 548, 549, 550, 554, 555, 501, 502, 503, 504, 505, 506, 507, 508, 556, 557, 558, 559, 560, 510, 511, 512, 561, 562, 563, 564, 565, 566, 567, 568, 569, 570, 571, 572, 573, 638, 639, 640, 641, 642, 643, 644, 645, 646, 647, 648, 649, 650, 651, 652, 653, 654, 655, 656, 657, 658, 659, 660, 661, 662, 663, 664, 665, 666, 667, 668, 669, 670, 671, 672] (by decide +kernel) (by decide +kernel)) (goodIn_sub (fun _ h => List.mem_append_left _ (List.mem_append_left _ (List.mem_append_right _ h))) (by decide +kernel))) (goodIn_sub (fun _ h => List.mem_append_left _ (List.mem_append_right _ h)) (by decide +kernel))) (goodIn_sub (fun _ h => List.mem_append_right _ h) (by decide +kernel))
set_option maxRecDepth 20000 in
theorem gL_law_L_limits : GoodIn wsL_law (va_wsS RL 195 yL_limits wsL_limits) := goodIn_app (goodIn_of _ (by decide +kernel)) ggL_law_L_limits
set_option maxRecDepth 20000 in
theorem ggL_law_L_texts : GoodIn wsL_law wsL_texts := goodIn_ca (goodIn_ca (goodIn_ca (goodIn_r _ [584, 0, 1, 2, 585, 586, 587, 588, 589, 590, 591, 592, 593, 594, 595, 596, 597, 598, 599, 600, 601, 602, 603, 604, 605, 10, 11, 12, 13, 14, 15, 16, 17, 18, 19, 20, 21, 22, 23, 24, 25, 26, 27, 28, 29, 30, 31, 32, 33, 34, 35, 36, 37, 38, 39, 40, 41, 42, 43, 44, 45, 46, 47, 48, 49, 50, 51, 52, 53, 54, 55, 56, 57, 58, 59, 60, 61, 62, 63, 64, 65, 66, 67, 68, 69, 70, 71, 72, 73, 74, 75, 76, 77, 78, 79, 80, 81, 82, 83, 84, 85, 86, 87, 88, 89, 90, 91, 606, 607, 6, 608, 609, 610, 611, 612, 317, 318, 319, 320, 366, 367, 368, 369, 613, 614, 615, 616, 313, 314, 315, 316, 104, 105, 106, 107, 108, 109, 110, 321, 322, 323, 324, 163, 164, 325, 326, 327, 328, 329, 330, 331, 332, 333, 334, 335, 336, 617, 618, 619, 620, 621, 622, 623, 624, 92, 93, 94, 95, 96, 97, 98, 99, 100, 101, 102, 103, 111, 112, 113, 114, 115, 116, 117, 118, 119, 120, 121, 122, 123, 124, 125, 126, 127, 128, 129, 130, 131, 132, 133, 134, 135, 136, 137, 138, 139, 140, 141, 142, 143, 144, 145, 146, 147, 148, 149, 150, 151, 152, 153, 154, 155, 156, 157, 158, 159, 160, 161, 162, 165, 166, 167, 168, 169, 170, 171, 172, 173, 174, 175, 176, 177, 178, 179, 180, 181, 182, 183, 184, 185, 186, 187, 188, 189, 190, 191, 192, 193, 194, 195, 196, 197, 198, 199, 200, 201, 202, 203, 204, 205, 206, 207, 208, 209, 210, 211, 212, 213, 214, 215, 216, 217, 218, 219, 220, 221, 222, 223, 224, 225, 226, 227, 228, 229, 230, 231, 232, 233, 234, 235, 236, 237, 238, 239, 240, 241, 242, 243, 244, 245, 246, 247, 248, 249, 250, 251, 252, 253, 254, 255, 256, 257, 258, 259, 260, 261, 262, 263, 264, 265, 266, 267, 268, 269, 270, 271, 272, 273, 274, 275, 276, 277, 278, 279, 280, 281, 282, 283, 284, 285, 286, 287, 288, 289, 290, 291, 292, 293, 294, 295, 296, 297, 298, 299, 300, 301, 302, 303, 304, 305, 306, 307, 308, 309, 310, 311, 312, 337, 338, 339, 340, 341, 342, 343, 344, 345, 346, 347, 348, 349, 350, 351, 352, 353, 354, 355, 356, 357, 358, 359, 360, 361, 362, 363, 364, 365, 370, 371, 372, 373, 374, 375, 376, 377, 378, 379, 380, 381, 382, 383, 384, 385, 386, 387, 388, 389, 390, 391, 392, 393, 394, 395, 396, 397, 398, 399, 400, 401, 402, 403, 404, 405, 406, 407, 408, 409, 410, 411, 412, 413, 414, 415, 416, 417, 418, 419, 420, 421, 422, 423, 424, 425, 426, 427, 428, 429, 430, 431, 432, 433, 434, 435, 436, 437, 438, 439, 440, 441, 442, 443, 444, 445, 446, 447, 448, 449, 450, 451, 452, 453, 454, 455, 456, 457, 458, 459, 460, 461, 462, 463, 464, 465, 466, 467, 468, 469, 470, 471, 472, 473, 474, 475, 476, 477, 638, 639, 640, 641, 642, 643, 644, 645, 646, 647, 648, 649, 650, 651, 652, 653, 654, 655, 656, 657, 658, 659, 660, 661, 662, 663, 664, 665, 666, 667, 668, 669, 670, 671, 672] (by decide +kernel) (by decide +kernel)) (goodIn_sub (fun _ h => List.mem_append_left _ (List.mem_append_right _ h)) (by decide +kernel))) (goodIn_sub (fun _ h => List.mem_append_right _ h) (by decide +kernel))) (goodIn_sub (fun _ h => List.mem_append_left _ (List.mem_append_left _ (List.mem_append_right _ h))) (by decide +kernel))
set_option maxRecDepth 20000 in
theorem gL_law_L_texts : GoodIn wsL_law (va_wsS RL 198 yL_texts wsL_texts) := goodIn_app (goodIn_of _ (by decide +kernel)) ggL_law_L_texts
set_option maxRecDepth 20000 in
theorem ggL_law_X5_init : GoodIn wsL_law wsX5_init := goodIn_r _ [12, 13, 14, 15, 16, 17, 18, 19, 20, 21, 22, 23, 24, 25, 26, 27, 28, 29, 30, 31, 32, 33, 34, 35, 36, 37, 38, 39, 40, 41, 42, 43, 44, 45, 46, 47, 48, 49, 2, 50, 51, 52, 53, 54, 55, 56, 57, 58, 59, 60, 61, 62, 63, 64, 65, 66, 67, 68, 69, 70, 71, 72, 73, 74, 75, 76, 77, 78, 79, 80, 81, 82, 83, 84, 85, 86, 87, 88, 89, 90, 91, 644, 645, 646, 647, 648, 649, 650, 651, 652, 653, 654, 655, 656, 657, 638, 639, 640, 641, 642, 643, 658, 659, 660, 661, 662, 663, 664, 665, 666, 667, 668, 669, 670, 671, 672] (by decide +kernel) (by decide +kernel)
set_option maxRecDepth 20000 in
theorem gL_law_X5_init : GoodIn wsL_law (wsX5_init) := ggL_law_X5_init
set_option maxRecDepth 20000 in
theorem ggL_law_X5_arrive : GoodIn wsL_law wsX5_arrive := goodIn_ca (goodIn_ca (goodIn_ca (goodIn_r _ [101, 102, 103, 104, 105, 106, 107, 19, 25, 108, 109, 2, 110, 111, 112, 113, 18, 114, 115, 116, 117, 118, 41, 42, 119, 120, 121, 40, 122, 65, 63, 123, 124, 125, 24, 126, 82, 81, 127, 128, 129, 130, 80, 131, 132, 133, 134, 135, 136, 137, 138, 36, 37, 43, 44, 48, 139, 140, 141, 142, 143, 144, 145, 49, 50, 51, 52, 53, 54, 55, 56, 57, 58, 146, 147, 148, 149, 64, 66, 150, 151, 152, 47, 153, 71, 72, 73, 74, 154, 155, 156, 157, 158, 159, 160, 161, 162, 163, 164, 165, 166, 167, 168, 169, 638, 639, 640, 641, 642, 643, 644, 645, 646, 647, 648, 649, 650, 651, 652, 653, 654, 655, 656, 657, 665, 666, 667, 668, 658, 659, 660, 669, 670, 671, 672] (by decide +kernel) (by decide +kernel)) (goodIn_sub (fun _ h => List.mem_append_left _ (List.mem_append_left _ (List.mem_append_right _ h))) (by decide +kernel))) (goodIn_sub (fun _ h => List.mem_append_left _ (List.mem_append_right _ h)) (by decide +kernel))) (goodIn_sub (fun _ h => List.mem_append_right _ h) (by decide +kernel))
set_option maxRecDepth 20000 in
theorem gL_law_X5_arrive : GoodIn wsL_law (wsV RL 9 RX5 yX5_arrive wsX5_arrive) := goodIn_app (goodIn_of _ (by decide +kernel)) ggL_law_X5_arrive
set_option maxRecDepth 20000 in
theorem ggL_law_X5_load : GoodIn wsL_law wsX5_load := goodIn_ca (goodIn_ca (goodIn_r _ [173, 102, 103, 106, 107, 19, 25, 108, 109, 2, 110, 174, 175, 176, 18, 177, 140, 115, 116, 117, 118, 41, 42, 178, 167, 168, 40, 169, 65, 179, 180, 181, 182, 43, 44, 119, 120, 121, 122, 63, 123, 124, 125, 24, 126, 82, 81, 127, 128, 129, 130, 80, 131, 132, 133, 134, 135, 136, 137, 138, 36, 37, 48, 139, 141, 142, 143, 144, 145, 49, 50, 51, 52, 53, 54, 55, 56, 57, 58, 146, 147, 148, 149, 64, 66, 150, 151, 152, 47, 153, 71, 72, 73, 74, 183, 184, 185, 186, 187, 188, 189, 190, 191, 192, 193, 194, 195, 196, 163, 164, 158, 159, 160, 161, 162, 638, 639, 640, 641, 642, 643, 644, 645, 646, 647, 648, 649, 650, 651, 652, 653, 654, 655, 656, 657, 665, 666, 667, 668, 658, 659, 660, 669, 670, 671, 672] (by decide +kernel) (by decide +kernel)) (goodIn_sub (fun _ h => List.mem_append_left _ (List.mem_append_left _ (List.mem_append_right _ h))) (by decide +kernel))) (goodIn_sub (fun _ h => List.mem_append_right _ h) (by decide +kernel))
set_option maxRecDepth 20000 in
theorem gL_law_X5_load : GoodIn wsL_law (wsV RL 15 RX5 yX5_load wsX5_load) := goodIn_app (goodIn_of _ (by decide +kernel)) ggL_law_X5_load
set_option maxRecDepth 20000 in
theorem ggL_law_X5_keep : GoodIn wsL_law wsX5_keep := goodIn_r _ [581, 21, 19, 30, 278, 374, 136, 137, 18, 138, 36, 37, 41, 42, 43, 44, 48, 139, 140, 141, 142, 143, 144, 145, 49, 2, 50, 51, 52, 53, 54, 55, 56, 57, 58, 146, 147, 148, 40, 149, 63, 64, 65, 66, 150, 151, 152, 47, 153, 71, 72, 73, 74, 638, 639, 640, 641, 642, 643, 644, 645, 646, 647, 648, 649, 650, 651, 652, 653, 654, 655, 656, 657, 665, 666, 667, 668, 669, 670, 671, 672] (by decide +kernel) (by decide +kernel)
set_option maxRecDepth 20000 in
theorem gL_law_X5_keep : GoodIn wsL_law (wsV RL 130 RX5 yX5_keep wsX5_keep) := goodIn_app (goodIn_of _ (by decide +kernel)) ggL_law_X5_keep
set_option maxRecDepth 20000 in
theorem ggL_law_L_seen : GoodIn wsL_law wsL_seen := goodIn_ca (goodIn_ca (goodIn_r _ [627, 628, 629, 419, 420, 421, 2, 422, 104, 105, 19, 278, 423, 284, 424, 425, 285, 426, 427, 428, 429, 430, 25, 431, 210, 211, 18, 212, 43, 44, 178, 167, 168, 40, 169, 65, 432, 243, 244, 245, 233, 234, 235, 236, 66, 433, 227, 228, 229, 230, 231, 53, 232, 379, 380, 381, 24, 382, 82, 387, 388, 389, 390, 102, 103, 108, 109, 110, 391, 392, 393, 47, 394, 71, 191, 192, 395, 396, 397, 398, 48, 37, 399, 259, 260, 261, 255, 256, 257, 400, 401, 402, 403, 237, 238, 239, 240, 36, 139, 241, 132, 133, 134, 242, 226, 404, 251, 252, 253, 254, 52, 54, 72, 434, 435, 436, 437, 303, 304, 405, 406, 407, 408, 165, 116, 117, 118, 41, 42, 409, 188, 189, 190, 63, 410, 411, 412, 413, 414, 180, 181, 182, 415, 416, 417, 418, 64, 438, 439, 440, 441, 312, 574, 551, 552, 553, 20, 374, 136, 137, 138, 140, 141, 142, 143, 144, 145, 49, 50, 51, 55, 56, 57, 58, 146, 147, 148, 149, 150, 151, 152, 153, 73, 74, 221, 222, 223, 224, 225, 246, 247, 248, 249, 250, 258, 262, 263, 264, 265, 266, 267, 268, 269, 163, 164, 270, 271, 272, 273, 496, 497, 498, 499, 286, 287, 288, 289, 290, 291, 292, 293, 294, 295, 296, 297, 298, 638, 639, 640, 641, 642, 643, 644, 645, 646, 647, 648, 649, 650, 651, 652, 653, 654, 655, 656, 657, 669, 670, 671, 672, 665, 666, 667, 668, 658, 659, 660] (by decide +kernel) (by decide +kernel)) (goodIn_sub (fun _ h => List.mem_append_left _ (List.mem_append_right _ h)) (by decide +kernel))) (goodIn_sub (fun _ h => List.mem_append_left _ (List.mem_append_left _ (List.mem_append_right _ h))) (by decide +kernel))
set_option maxRecDepth 20000 in
theorem gL_law_L_seen : GoodIn wsL_law (va_wsS RL 201 yL_seen wsL_seen) := goodIn_app (goodIn_of _ (by decide +kernel)) ggL_law_L_seen
set_option maxRecDepth 20000 in
theorem ggL_law_L_drawn : GoodIn wsL_law wsL_drawn := goodIn_r _ [632, 633] (by decide +kernel) (by decide +kernel)
set_option maxRecDepth 20000 in
theorem gL_law_L_drawn : GoodIn wsL_law (va_wsS RL 205 yL_drawn wsL_drawn) := goodIn_app (goodIn_of _ (by decide +kernel)) ggL_law_L_drawn
set_option maxRecDepth 20000 in
theorem ggL_law_L_part : GoodIn wsL_law wsL_part := goodIn_r _ [636, 637] (by decide +kernel) (by decide +kernel)
set_option maxRecDepth 20000 in
theorem gL_law_L_part : GoodIn wsL_law (va_wsS RL 209 yL_part wsL_part) := goodIn_app (goodIn_of _ (by decide +kernel)) ggL_law_L_part
set_option maxRecDepth 20000 in
theorem ggL_law_X5_count : GoodIn wsL_law wsX5_count := goodIn_ca (goodIn_r _ [422, 104, 105, 19, 278, 423, 284, 424, 425, 285, 426, 427, 428, 429, 430, 25, 431, 210, 211, 18, 212, 43, 44, 178, 167, 168, 40, 169, 65, 432, 243, 244, 245, 233, 234, 235, 236, 66, 433, 227, 228, 229, 230, 231, 53, 232, 379, 380, 381, 24, 382, 82, 638, 639, 640, 641, 642, 643, 644, 645, 646, 647, 648, 649, 650, 651, 652, 653, 654, 655, 656, 657, 669, 670, 671, 672, 665, 666, 667, 668, 658, 659, 660] (by decide +kernel) (by decide +kernel)) (goodIn_sub (fun _ h => List.mem_append_left _ (List.mem_append_right _ h)) (by decide +kernel))
set_option maxRecDepth 20000 in
theorem gL_law_X5_count : GoodIn wsL_law (wsV RL 60 RX5 yX5_count wsX5_count) := goodIn_app (goodIn_of _ (by decide +kernel)) ggL_law_X5_count
set_option maxRecDepth 20000 in
theorem ggL_law_L_call : GoodIn wsL_law wsL_call := goodIn_ca (goodIn_ca (goodIn_ca (goodIn_r _ [94, 95, 96, 97, 98, 99, 100, 2, 101, 102, 103, 104, 105, 106, 107, 19, 25, 108, 109, 110, 111, 112, 113, 18, 114, 115, 116, 117, 118, 41, 42, 119, 120, 121, 40, 122, 65, 63, 123, 124, 125, 24, 126, 82, 81, 127, 128, 129, 130, 80, 131, 132, 133, 134, 135, 136, 137, 138, 36, 37, 43, 44, 48, 139, 140, 141, 142, 143, 144, 145, 49, 50, 51, 52, 53, 54, 55, 56, 57, 58, 146, 147, 148, 149, 64, 66, 150, 151, 152, 47, 153, 71, 72, 73, 74, 154, 155, 156, 157, 158, 159, 160, 161, 162, 163, 164, 165, 166, 167, 168, 169, 170, 171, 172, 173, 174, 175, 176, 177, 178, 179, 180, 181, 182, 183, 184, 185, 186, 187, 188, 189, 190, 191, 192, 193, 194, 195, 196, 197, 198, 199, 200, 201, 202, 203, 204, 205, 206, 207, 208, 209, 210, 211, 212, 213, 214, 215, 216, 217, 218, 219, 220, 221, 222, 223, 224, 225, 226, 227, 228, 229, 230, 231, 232, 233, 234, 235, 236, 237, 238, 239, 240, 241, 242, 243, 244, 245, 246, 247, 248, 249, 250, 251, 252, 253, 254, 255, 256, 257, 258, 259, 260, 261, 262, 263, 264, 265, 266, 267, 268, 269, 270, 271, 272, 273, 274, 275, 276, 277, 278, 279, 280, 281, 282, 283, 284, 285, 286, 287, 288, 289, 290, 291, 292, 293, 294, 295, 296, 297, 298, 299, 300, 301, 302, 303, 304, 305, 306, 307, 308, 309, 310, 311, 312, 313, 314, 315, 316, 29, 317, 318, 319, 28, 320, 89, 321, 322, 323, 324, 88, 91, 90, 325, 326, 327, 328, 329, 330, 331, 332, 333, 334, 335, 336, 337, 338, 339, 340, 341, 342, 343, 344, 345, 346, 347, 348, 349, 350, 351, 352, 353, 354, 355, 356, 357, 358, 359, 360, 361, 362, 363, 364, 365, 366, 367, 368, 369, 370, 371, 372, 373, 30, 21, 374, 375, 376, 377, 378, 379, 380, 381, 382, 383, 384, 385, 386, 387, 388, 389, 390, 391, 392, 393, 394, 395, 396, 397, 398, 399, 400, 401, 402, 403, 404, 405, 406, 407, 408, 409, 410, 411, 412, 413, 414, 415, 416, 417, 418, 419, 420, 421, 422, 423, 424, 425, 426, 427, 428, 429, 430, 431, 432, 433, 434, 435, 436, 437, 438, 439, 440, 441, 442, 443, 444, 445, 20, 446, 447, 448, 449, 450, 451, 452, 453, 454, 455, 456, 457, 458, 459, 460, 461, 462, 463, 464, 465, 466, 467, 468, 469, 470, 471, 472, 473, 474, 475, 476, 477, 638, 639, 640, 641, 642, 643, 644, 645, 646, 647, 648, 649, 650, 651, 652, 653, 654, 655, 656, 657, 665, 666, 667, 668, 658, 659, 660, 669, 670, 671, 672, 661, 662, 663, 664] (by decide +kernel) (by decide +kernel)) (goodIn_sub (fun _ h => List.mem_append_left _ (List.mem_append_left _ (List.mem_append_right _ h))) (by decide +kernel))) (goodIn_sub (fun _ h => List.mem_append_left _ (List.mem_append_right _ h)) (by decide +kernel))) (goodIn_sub (fun _ h => List.mem_append_right _ h) (by decide +kernel))
set_option maxRecDepth 20000 in
theorem gL_law_L_call : GoodIn wsL_law (va_wsS RL 91 yL_call wsL_call) := goodIn_app (goodIn_of _ (by decide +kernel)) ggL_law_L_call
set_option maxRecDepth 20000 in
theorem ggL_law_L_refused : GoodIn wsL_law wsL_refused := goodIn_ca (goodIn_ca (goodIn_ca (goodIn_r _ [515, 516, 517, 518, 2, 519, 520, 30, 521, 522, 523, 524, 525, 420, 421, 422, 104, 105, 19, 278, 423, 284, 424, 425, 285, 426, 427, 428, 429, 430, 25, 431, 210, 211, 18, 212, 43, 44, 178, 167, 168, 40, 169, 65, 432, 243, 244, 245, 233, 234, 235, 236, 66, 433, 227, 228, 229, 230, 231, 53, 232, 379, 380, 381, 24, 382, 82, 526, 527, 528, 529, 530, 531, 532, 533, 534, 439, 440, 441, 102, 103, 312, 108, 109, 110, 304, 191, 192, 535, 435, 436, 437, 303, 536, 388, 389, 390, 391, 392, 393, 47, 394, 71, 395, 396, 397, 398, 48, 37, 399, 259, 260, 261, 255, 256, 257, 400, 401, 402, 403, 237, 238, 239, 240, 36, 139, 241, 132, 133, 134, 242, 226, 404, 251, 252, 253, 254, 52, 54, 72, 537, 538, 539, 540, 165, 116, 117, 118, 41, 42, 166, 409, 188, 189, 190, 63, 414, 180, 181, 182, 415, 416, 417, 418, 64, 541, 542, 543, 544, 545, 479, 480, 481, 221, 222, 223, 224, 225, 246, 247, 248, 249, 250, 258, 546, 483, 484, 485, 486, 487, 488, 489, 490, 491, 547, 443, 444, 445, 20, 174, 175, 176, 177, 140, 115, 179, 119, 120, 121, 122, 374, 136, 137, 138, 141, 142, 143, 144, 145, 49, 50, 51, 55, 56, 57, 58, 146, 147, 148, 149, 150, 151, 152, 153, 73, 74, 183, 184, 185, 186, 187, 193, 194, 195, 196, 163, 164, 158, 159, 160, 161, 162, 446, 447, 448, 449, 450, 451, 452, 453, 548, 493, 494, 495, 549, 455, 456, 457, 458, 459, 460, 461, 462, 463, 464, 465, 466, 467, 468, 469, 470, 471, 472, 473, 474, 475, 476, 477, 550, 551, 552, 553, 262, 263, 264, 265, 266, 267, 268, 269, 270, 271, 272, 273, 554, 497, 498, 499, 286, 287, 288, 289, 290, 291, 292, 293, 294, 295, 296, 297, 298, 555, 501, 502, 503, 504, 505, 506, 507, 508, 556, 557, 558, 559, 560, 510, 511, 512, 561, 562, 563, 564, 565, 566, 567, 568, 569, 570, 29, 317, 318, 319, 28, 320, 89, 365, 354, 355, 356, 88, 571, 572, 6, 573, 92, 93, 94, 95, 96, 97, 98, 99, 100, 101, 106, 107, 111, 112, 113, 114, 123, 124, 125, 126, 81, 127, 128, 129, 130, 80, 131, 135, 154, 155, 156, 157, 170, 171, 172, 173, 197, 198, 199, 200, 201, 202, 203, 204, 205, 206, 207, 208, 209, 213, 214, 215, 216, 217, 218, 219, 220, 274, 275, 276, 277, 279, 280, 281, 282, 283, 299, 300, 301, 302, 305, 306, 307, 308, 309, 310, 311, 313, 314, 315, 316, 321, 322, 323, 324, 91, 90, 325, 326, 327, 328, 329, 330, 331, 332, 333, 334, 335, 336, 337, 338, 339, 340, 341, 342, 343, 344, 345, 346, 347, 348, 349, 350, 351, 352, 353, 357, 358, 359, 360, 361, 362, 363, 364, 366, 367, 368, 369, 370, 371, 372, 373, 21, 375, 376, 377, 378, 383, 384, 385, 386, 387, 405, 406, 407, 408, 410, 411, 412, 413, 419, 434, 438, 442, 454, 638, 639, 640, 641, 642, 643, 644, 645, 646, 647, 648, 649, 650, 651, 652, 653, 654, 655, 656, 657, 669, 670, 671, 672, 665, 666, 667, 668, 658, 659, 660, 661, 662, 663, 664] (by decide +kernel) (by decide +kernel)) (goodIn_sub (fun _ h => List.mem_append_left _ (List.mem_append_right _ h)) (by decide +kernel))) (goodIn_sub (fun _ h => List.mem_append_left _ (List.mem_append_left _ (List.mem_append_right _ h))) (by decide +kernel))) (goodIn_sub (fun _ h => List.mem_append_right _ h) (by decide +kernel))
set_option maxRecDepth 20000 in
theorem gL_law_L_refused : GoodIn wsL_law (va_wsS RL 123 yL_refused wsL_refused) := goodIn_app (goodIn_of _ (by decide +kernel)) ggL_law_L_refused
set_option maxRecDepth 20000 in
theorem ggL_law_X5_undo : GoodIn wsL_law wsX5_undo := goodIn_ca (goodIn_r _ [378, 106, 107, 25, 19, 379, 380, 381, 24, 382, 82, 383, 384, 385, 386, 127, 128, 129, 130, 81, 80, 131, 132, 133, 134, 135, 136, 137, 18, 138, 36, 37, 41, 42, 43, 44, 48, 139, 140, 141, 142, 143, 144, 145, 49, 2, 50, 51, 52, 53, 54, 55, 56, 57, 58, 146, 147, 148, 40, 149, 63, 64, 65, 66, 150, 151, 152, 47, 153, 71, 72, 73, 74, 638, 639, 640, 641, 642, 643, 658, 659, 660, 644, 645, 646, 647, 648, 649, 650, 651, 652, 653, 654, 655, 656, 657, 665, 666, 667, 668, 669, 670, 671, 672] (by decide +kernel) (by decide +kernel)) (goodIn_sub (fun _ h => List.mem_append_right _ h) (by decide +kernel))
set_option maxRecDepth 20000 in
theorem gL_law_X5_undo : GoodIn wsL_law (wsV RL 47 RX5 yX5_undo wsX5_undo) := goodIn_app (goodIn_of _ (by decide +kernel)) ggL_law_X5_undo
set_option maxRecDepth 20000 in
theorem ggL_law_X5_goBack : GoodIn wsL_law wsX5_goBack := goodIn_ca (goodIn_r _ [373, 106, 107, 30, 25, 19, 21, 278, 123, 124, 125, 24, 126, 82, 81, 127, 128, 129, 130, 80, 131, 132, 133, 134, 135, 136, 137, 18, 138, 36, 37, 41, 42, 43, 44, 48, 139, 140, 141, 142, 143, 144, 145, 49, 2, 50, 51, 52, 53, 54, 55, 56, 57, 58, 146, 147, 148, 40, 149, 63, 64, 65, 66, 150, 151, 152, 47, 153, 71, 72, 73, 74, 374, 638, 639, 640, 641, 642, 643, 644, 645, 646, 647, 648, 649, 650, 651, 652, 653, 654, 655, 656, 657, 658, 659, 660, 665, 666, 667, 668, 669, 670, 671, 672] (by decide +kernel) (by decide +kernel)) (goodIn_sub (fun _ h => List.mem_append_right _ h) (by decide +kernel))
set_option maxRecDepth 20000 in
theorem gL_law_X5_goBack : GoodIn wsL_law (wsV RL 44 RX5 yX5_goBack wsX5_goBack) := goodIn_app (goodIn_of _ (by decide +kernel)) ggL_law_X5_goBack
set_option maxRecDepth 20000 in
theorem ggL_law_X5_waiting : GoodIn wsL_law wsX5_waiting := goodIn_ca (goodIn_ca (goodIn_r _ [408, 102, 103, 104, 105, 19, 108, 109, 2, 110, 165, 116, 117, 18, 118, 41, 42, 409, 188, 189, 40, 190, 65, 63, 191, 192, 638, 639, 640, 641, 642, 643, 644, 645, 646, 647, 648, 649, 650, 651, 652, 653, 654, 655, 656, 657, 665, 666, 667, 668] (by decide +kernel) (by decide +kernel)) (goodIn_sub (fun _ h => List.mem_append_left _ (List.mem_append_left _ (List.mem_append_right _ h))) (by decide +kernel))) (goodIn_sub (fun _ h => List.mem_append_left _ (List.mem_append_right _ h)) (by decide +kernel))
set_option maxRecDepth 20000 in
theorem gL_law_X5_waiting : GoodIn wsL_law (wsV RL 53 RX5 yX5_waiting wsX5_waiting) := goodIn_app (goodIn_of _ (by decide +kernel)) ggL_law_X5_waiting
theorem dL_law_0 : decode cL_law 0 = .ok (.invokestatic 191, 3) := by decide +kernel
theorem dL_law_3 : decode cL_law 3 = .ok (.ifCond .eq 15, 3) := by decide +kernel
theorem dL_law_6 : decode cL_law 6 = .ok (.invokestatic 195, 3) := by decide +kernel
theorem dL_law_9 : decode cL_law 9 = .ok (.ifCond .eq 9, 3) := by decide +kernel
theorem dL_law_12 : decode cL_law 12 = .ok (.invokestatic 198, 3) := by decide +kernel
theorem dL_law_15 : decode cL_law 15 = .ok (.ifCond .ne 5, 3) := by decide +kernel
theorem dL_law_18 : decode cL_law 18 = .ok (.iconst 0, 1) := by decide +kernel
theorem dL_law_19 : decode cL_law 19 = .ok (.ireturn, 1) := by decide +kernel
theorem dL_law_20 : decode cL_law 20 = .ok (.new 10, 3) := by decide +kernel
theorem dL_law_23 : decode cL_law 23 = .ok (.dup, 1) := by decide +kernel
theorem dL_law_24 : decode cL_law 24 = .ok (.invokespecial 105, 3) := by decide +kernel
theorem dL_law_27 : decode cL_law 27 = .ok (.astore_n 1, 1) := by decide +kernel
theorem dL_law_28 : decode cL_law 28 = .ok (.bipush 64, 2) := by decide +kernel
theorem dL_law_30 : decode cL_law 30 = .ok (.newarray .long, 2) := by decide +kernel
theorem dL_law_32 : decode cL_law 32 = .ok (.astore_n 2, 1) := by decide +kernel
theorem dL_law_33 : decode cL_law 33 = .ok (.iconst 0, 1) := by decide +kernel
theorem dL_law_34 : decode cL_law 34 = .ok (.istore_n 3, 1) := by decide +kernel
theorem dL_law_35 : decode cL_law 35 = .ok (.aload_n 1, 1) := by decide +kernel
theorem dL_law_36 : decode cL_law 36 = .ok (.iconst 0, 1) := by decide +kernel
theorem dL_law_37 : decode cL_law 37 = .ok (.bipush 9, 2) := by decide +kernel
theorem dL_law_39 : decode cL_law 39 = .ok (.invokevirtual 9, 3) := by decide +kernel
theorem dL_law_42 : decode cL_law 42 = .ok (.iconst 1, 1) := by decide +kernel
theorem dL_law_43 : decode cL_law 43 = .ok (.if_icmp .ne 30, 3) := by decide +kernel
theorem dL_law_46 : decode cL_law 46 = .ok (.aload_n 1, 1) := by decide +kernel
theorem dL_law_47 : decode cL_law 47 = .ok (.iconst 1, 1) := by decide +kernel
theorem dL_law_48 : decode cL_law 48 = .ok (.iconst 4, 1) := by decide +kernel
theorem dL_law_49 : decode cL_law 49 = .ok (.invokevirtual 9, 3) := by decide +kernel
theorem dL_law_52 : decode cL_law 52 = .ok (.iconst 1, 1) := by decide +kernel
theorem dL_law_53 : decode cL_law 53 = .ok (.if_icmp .ne 20, 3) := by decide +kernel
theorem dL_law_56 : decode cL_law 56 = .ok (.aload_n 1, 1) := by decide +kernel
theorem dL_law_57 : decode cL_law 57 = .ok (.iconst 0, 1) := by decide +kernel
theorem dL_law_58 : decode cL_law 58 = .ok (.invokevirtual 15, 3) := by decide +kernel
theorem dL_law_61 : decode cL_law 61 = .ok (.bipush 9, 2) := by decide +kernel
theorem dL_law_63 : decode cL_law 63 = .ok (.if_icmp .ne 10, 3) := by decide +kernel
theorem dL_law_66 : decode cL_law 66 = .ok (.aload_n 1, 1) := by decide +kernel
theorem dL_law_67 : decode cL_law 67 = .ok (.invokevirtual 130, 3) := by decide +kernel
theorem dL_law_70 : decode cL_law 70 = .ok (.ifCond .eq 5, 3) := by decide +kernel
theorem dL_law_73 : decode cL_law 73 = .ok (.iconst 0, 1) := by decide +kernel
theorem dL_law_74 : decode cL_law 74 = .ok (.ireturn, 1) := by decide +kernel
theorem dL_law_75 : decode cL_law 75 = .ok (.aload_n 1, 1) := by decide +kernel
theorem dL_law_76 : decode cL_law 76 = .ok (.invokestatic 201, 3) := by decide +kernel
theorem dL_law_79 : decode cL_law 79 = .ok (.lstore 4, 2) := by decide +kernel
theorem dL_law_81 : decode cL_law 81 = .ok (.iconst 0, 1) := by decide +kernel
theorem dL_law_82 : decode cL_law 82 = .ok (.istore 6, 2) := by decide +kernel
theorem dL_law_84 : decode cL_law 84 = .ok (.iload 6, 2) := by decide +kernel
theorem dL_law_86 : decode cL_law 86 = .ok (.bipush 28, 2) := by decide +kernel
theorem dL_law_88 : decode cL_law 88 = .ok (.if_icmp .ge 304, 3) := by decide +kernel
theorem dL_law_91 : decode cL_law 91 = .ok (.aload_n 0, 1) := by decide +kernel
theorem dL_law_92 : decode cL_law 92 = .ok (.iload 6, 2) := by decide +kernel
theorem dL_law_94 : decode cL_law 94 = .ok (.invokestatic 205, 3) := by decide +kernel
theorem dL_law_97 : decode cL_law 97 = .ok (.istore 7, 2) := by decide +kernel
theorem dL_law_99 : decode cL_law 99 = .ok (.iload 7, 2) := by decide +kernel
theorem dL_law_101 : decode cL_law 101 = .ok (.bipush 15, 2) := by decide +kernel
theorem dL_law_103 : decode cL_law 103 = .ok (.invokestatic 209, 3) := by decide +kernel
theorem dL_law_106 : decode cL_law 106 = .ok (.istore 8, 2) := by decide +kernel
theorem dL_law_108 : decode cL_law 108 = .ok (.aload_n 2, 1) := by decide +kernel
theorem dL_law_109 : decode cL_law 109 = .ok (.iload_n 3, 1) := by decide +kernel
theorem dL_law_110 : decode cL_law 110 = .ok (.aload_n 1, 1) := by decide +kernel
theorem dL_law_111 : decode cL_law 111 = .ok (.invokestatic 201, 3) := by decide +kernel
theorem dL_law_114 : decode cL_law 114 = .ok (.lastore, 1) := by decide +kernel
theorem dL_law_115 : decode cL_law 115 = .ok (.aload_n 1, 1) := by decide +kernel
theorem dL_law_116 : decode cL_law 116 = .ok (.bipush 13, 2) := by decide +kernel
theorem dL_law_118 : decode cL_law 118 = .ok (.invokevirtual 60, 3) := by decide +kernel
theorem dL_law_121 : decode cL_law 121 = .ok (.istore 9, 2) := by decide +kernel
theorem dL_law_123 : decode cL_law 123 = .ok (.iload 7, 2) := by decide +kernel
theorem dL_law_125 : decode cL_law 125 = .ok (.iconst 4, 1) := by decide +kernel
theorem dL_law_126 : decode cL_law 126 = .ok (.ishr, 1) := by decide +kernel
theorem dL_law_127 : decode cL_law 127 = .ok (.iconst 3, 1) := by decide +kernel
theorem dL_law_128 : decode cL_law 128 = .ok (.invokestatic 209, 3) := by decide +kernel
theorem dL_law_131 : decode cL_law 131 = .ok (.istore 10, 2) := by decide +kernel
theorem dL_law_133 : decode cL_law 133 = .ok (.iload 7, 2) := by decide +kernel
theorem dL_law_135 : decode cL_law 135 = .ok (.bipush 6, 2) := by decide +kernel
theorem dL_law_137 : decode cL_law 137 = .ok (.ishr, 1) := by decide +kernel
theorem dL_law_138 : decode cL_law 138 = .ok (.bipush 22, 2) := by decide +kernel
theorem dL_law_140 : decode cL_law 140 = .ok (.invokestatic 209, 3) := by decide +kernel
theorem dL_law_143 : decode cL_law 143 = .ok (.istore 11, 2) := by decide +kernel
theorem dL_law_145 : decode cL_law 145 = .ok (.iload 8, 2) := by decide +kernel
theorem dL_law_147 : decode cL_law 147 = .ok (.iconst 3, 1) := by decide +kernel
theorem dL_law_148 : decode cL_law 148 = .ok (.if_icmp .ge 15, 3) := by decide +kernel
theorem dL_law_151 : decode cL_law 151 = .ok (.aload_n 1, 1) := by decide +kernel
theorem dL_law_152 : decode cL_law 152 = .ok (.iconst 0, 1) := by decide +kernel
theorem dL_law_153 : decode cL_law 153 = .ok (.iload 10, 2) := by decide +kernel
theorem dL_law_155 : decode cL_law 155 = .ok (.iload 11, 2) := by decide +kernel
theorem dL_law_157 : decode cL_law 157 = .ok (.invokestatic 91, 3) := by decide +kernel
theorem dL_law_160 : decode cL_law 160 = .ok (.goto 170, 3) := by decide +kernel
theorem dL_law_163 : decode cL_law 163 = .ok (.iload 8, 2) := by decide +kernel
theorem dL_law_165 : decode cL_law 165 = .ok (.bipush 6, 2) := by decide +kernel
theorem dL_law_167 : decode cL_law 167 = .ok (.if_icmp .ge 14, 3) := by decide +kernel
theorem dL_law_170 : decode cL_law 170 = .ok (.aload_n 1, 1) := by decide +kernel
theorem dL_law_171 : decode cL_law 171 = .ok (.iconst 1, 1) := by decide +kernel
theorem dL_law_172 : decode cL_law 172 = .ok (.iload 10, 2) := by decide +kernel
theorem dL_law_174 : decode cL_law 174 = .ok (.iconst 0, 1) := by decide +kernel
theorem dL_law_175 : decode cL_law 175 = .ok (.invokestatic 91, 3) := by decide +kernel
theorem dL_law_178 : decode cL_law 178 = .ok (.goto 152, 3) := by decide +kernel
theorem dL_law_181 : decode cL_law 181 = .ok (.iload 8, 2) := by decide +kernel
theorem dL_law_183 : decode cL_law 183 = .ok (.bipush 6, 2) := by decide +kernel
theorem dL_law_185 : decode cL_law 185 = .ok (.if_icmp .ne 13, 3) := by decide +kernel
theorem dL_law_188 : decode cL_law 188 = .ok (.aload_n 1, 1) := by decide +kernel
theorem dL_law_189 : decode cL_law 189 = .ok (.iconst 2, 1) := by decide +kernel
theorem dL_law_190 : decode cL_law 190 = .ok (.iconst 0, 1) := by decide +kernel
theorem dL_law_191 : decode cL_law 191 = .ok (.iconst 0, 1) := by decide +kernel
theorem dL_law_192 : decode cL_law 192 = .ok (.invokestatic 91, 3) := by decide +kernel
theorem dL_law_195 : decode cL_law 195 = .ok (.goto 135, 3) := by decide +kernel
theorem dL_law_198 : decode cL_law 198 = .ok (.iload 8, 2) := by decide +kernel
theorem dL_law_200 : decode cL_law 200 = .ok (.bipush 10, 2) := by decide +kernel
theorem dL_law_202 : decode cL_law 202 = .ok (.if_icmp .ge 13, 3) := by decide +kernel
theorem dL_law_205 : decode cL_law 205 = .ok (.aload_n 1, 1) := by decide +kernel
theorem dL_law_206 : decode cL_law 206 = .ok (.iconst 3, 1) := by decide +kernel
theorem dL_law_207 : decode cL_law 207 = .ok (.iconst 0, 1) := by decide +kernel
theorem dL_law_208 : decode cL_law 208 = .ok (.iconst 0, 1) := by decide +kernel
theorem dL_law_209 : decode cL_law 209 = .ok (.invokestatic 91, 3) := by decide +kernel
theorem dL_law_212 : decode cL_law 212 = .ok (.goto 118, 3) := by decide +kernel
theorem dL_law_215 : decode cL_law 215 = .ok (.iload 8, 2) := by decide +kernel
theorem dL_law_217 : decode cL_law 217 = .ok (.bipush 10, 2) := by decide +kernel
theorem dL_law_219 : decode cL_law 219 = .ok (.if_icmp .ne 14, 3) := by decide +kernel
theorem dL_law_222 : decode cL_law 222 = .ok (.aload_n 1, 1) := by decide +kernel
theorem dL_law_223 : decode cL_law 223 = .ok (.iconst 4, 1) := by decide +kernel
theorem dL_law_224 : decode cL_law 224 = .ok (.iload 11, 2) := by decide +kernel
theorem dL_law_226 : decode cL_law 226 = .ok (.iconst 0, 1) := by decide +kernel
theorem dL_law_227 : decode cL_law 227 = .ok (.invokestatic 91, 3) := by decide +kernel
theorem dL_law_230 : decode cL_law 230 = .ok (.goto 100, 3) := by decide +kernel
theorem dL_law_233 : decode cL_law 233 = .ok (.iload 8, 2) := by decide +kernel
theorem dL_law_235 : decode cL_law 235 = .ok (.bipush 11, 2) := by decide +kernel
theorem dL_law_237 : decode cL_law 237 = .ok (.if_icmp .ne 22, 3) := by decide +kernel
theorem dL_law_240 : decode cL_law 240 = .ok (.aload_n 1, 1) := by decide +kernel
theorem dL_law_241 : decode cL_law 241 = .ok (.iconst 5, 1) := by decide +kernel
theorem dL_law_242 : decode cL_law 242 = .ok (.iload 7, 2) := by decide +kernel
theorem dL_law_244 : decode cL_law 244 = .ok (.bipush 6, 2) := by decide +kernel
theorem dL_law_246 : decode cL_law 246 = .ok (.ishr, 1) := by decide +kernel
theorem dL_law_247 : decode cL_law 247 = .ok (.bipush 7, 2) := by decide +kernel
theorem dL_law_249 : decode cL_law 249 = .ok (.invokestatic 209, 3) := by decide +kernel
theorem dL_law_252 : decode cL_law 252 = .ok (.iconst 0, 1) := by decide +kernel
theorem dL_law_253 : decode cL_law 253 = .ok (.invokestatic 91, 3) := by decide +kernel
theorem dL_law_256 : decode cL_law 256 = .ok (.goto 74, 3) := by decide +kernel
theorem dL_law_259 : decode cL_law 259 = .ok (.iload 8, 2) := by decide +kernel
theorem dL_law_261 : decode cL_law 261 = .ok (.bipush 12, 2) := by decide +kernel
theorem dL_law_263 : decode cL_law 263 = .ok (.if_icmp .ne 31, 3) := by decide +kernel
theorem dL_law_266 : decode cL_law 266 = .ok (.aload_n 1, 1) := by decide +kernel
theorem dL_law_267 : decode cL_law 267 = .ok (.bipush 6, 2) := by decide +kernel
theorem dL_law_269 : decode cL_law 269 = .ok (.iload 7, 2) := by decide +kernel
theorem dL_law_271 : decode cL_law 271 = .ok (.iconst 4, 1) := by decide +kernel
theorem dL_law_272 : decode cL_law 272 = .ok (.ishr, 1) := by decide +kernel
theorem dL_law_273 : decode cL_law 273 = .ok (.bipush 26, 2) := by decide +kernel
theorem dL_law_275 : decode cL_law 275 = .ok (.invokestatic 209, 3) := by decide +kernel
theorem dL_law_278 : decode cL_law 278 = .ok (.iload 7, 2) := by decide +kernel
theorem dL_law_280 : decode cL_law 280 = .ok (.bipush 9, 2) := by decide +kernel
theorem dL_law_282 : decode cL_law 282 = .ok (.ishr, 1) := by decide +kernel
theorem dL_law_283 : decode cL_law 283 = .ok (.bipush 43, 2) := by decide +kernel
theorem dL_law_285 : decode cL_law 285 = .ok (.invokestatic 209, 3) := by decide +kernel
theorem dL_law_288 : decode cL_law 288 = .ok (.invokestatic 91, 3) := by decide +kernel
theorem dL_law_291 : decode cL_law 291 = .ok (.goto 39, 3) := by decide +kernel
theorem dL_law_294 : decode cL_law 294 = .ok (.iload 8, 2) := by decide +kernel
theorem dL_law_296 : decode cL_law 296 = .ok (.bipush 13, 2) := by decide +kernel
theorem dL_law_298 : decode cL_law 298 = .ok (.if_icmp .ne 24, 3) := by decide +kernel
theorem dL_law_301 : decode cL_law 301 = .ok (.aload_n 1, 1) := by decide +kernel
theorem dL_law_302 : decode cL_law 302 = .ok (.bipush 7, 2) := by decide +kernel
theorem dL_law_304 : decode cL_law 304 = .ok (.iload 10, 2) := by decide +kernel
theorem dL_law_306 : decode cL_law 306 = .ok (.iload 7, 2) := by decide +kernel
theorem dL_law_308 : decode cL_law 308 = .ok (.bipush 6, 2) := by decide +kernel
theorem dL_law_310 : decode cL_law 310 = .ok (.ishr, 1) := by decide +kernel
theorem dL_law_311 : decode cL_law 311 = .ok (.bipush 90, 2) := by decide +kernel
theorem dL_law_313 : decode cL_law 313 = .ok (.invokestatic 209, 3) := by decide +kernel
theorem dL_law_316 : decode cL_law 316 = .ok (.invokestatic 91, 3) := by decide +kernel
theorem dL_law_319 : decode cL_law 319 = .ok (.goto 11, 3) := by decide +kernel
theorem dL_law_322 : decode cL_law 322 = .ok (.aload_n 1, 1) := by decide +kernel
theorem dL_law_323 : decode cL_law 323 = .ok (.bipush 10, 2) := by decide +kernel
theorem dL_law_325 : decode cL_law 325 = .ok (.iconst 0, 1) := by decide +kernel
theorem dL_law_326 : decode cL_law 326 = .ok (.iconst 0, 1) := by decide +kernel
theorem dL_law_327 : decode cL_law 327 = .ok (.invokestatic 91, 3) := by decide +kernel
theorem dL_law_330 : decode cL_law 330 = .ok (.istore 12, 2) := by decide +kernel
theorem dL_law_332 : decode cL_law 332 = .ok (.iload 12, 2) := by decide +kernel
theorem dL_law_334 : decode cL_law 334 = .ok (.ifCond .ge 7, 3) := by decide +kernel
theorem dL_law_337 : decode cL_law 337 = .ok (.iconst 1, 1) := by decide +kernel
theorem dL_law_338 : decode cL_law 338 = .ok (.goto 4, 3) := by decide +kernel
theorem dL_law_341 : decode cL_law 341 = .ok (.iconst 0, 1) := by decide +kernel
theorem dL_law_342 : decode cL_law 342 = .ok (.istore 13, 2) := by decide +kernel
theorem dL_law_344 : decode cL_law 344 = .ok (.iload 13, 2) := by decide +kernel
theorem dL_law_346 : decode cL_law 346 = .ok (.ifCond .eq 27, 3) := by decide +kernel
theorem dL_law_349 : decode cL_law 349 = .ok (.aload_n 1, 1) := by decide +kernel
theorem dL_law_350 : decode cL_law 350 = .ok (.bipush 13, 2) := by decide +kernel
theorem dL_law_352 : decode cL_law 352 = .ok (.invokevirtual 60, 3) := by decide +kernel
theorem dL_law_355 : decode cL_law 355 = .ok (.iload 9, 2) := by decide +kernel
theorem dL_law_357 : decode cL_law 357 = .ok (.if_icmp .ne 14, 3) := by decide +kernel
theorem dL_law_360 : decode cL_law 360 = .ok (.aload_n 1, 1) := by decide +kernel
theorem dL_law_361 : decode cL_law 361 = .ok (.invokestatic 201, 3) := by decide +kernel
theorem dL_law_364 : decode cL_law 364 = .ok (.aload_n 2, 1) := by decide +kernel
theorem dL_law_365 : decode cL_law 365 = .ok (.iload_n 3, 1) := by decide +kernel
theorem dL_law_366 : decode cL_law 366 = .ok (.laload, 1) := by decide +kernel
theorem dL_law_367 : decode cL_law 367 = .ok (.lcmp, 1) := by decide +kernel
theorem dL_law_368 : decode cL_law 368 = .ok (.ifCond .eq 5, 3) := by decide +kernel
theorem dL_law_371 : decode cL_law 371 = .ok (.iconst 0, 1) := by decide +kernel
theorem dL_law_372 : decode cL_law 372 = .ok (.ireturn, 1) := by decide +kernel
theorem dL_law_373 : decode cL_law 373 = .ok (.iload_n 3, 1) := by decide +kernel
theorem dL_law_374 : decode cL_law 374 = .ok (.iload 13, 2) := by decide +kernel
theorem dL_law_376 : decode cL_law 376 = .ok (.ifCond .eq 7, 3) := by decide +kernel
theorem dL_law_379 : decode cL_law 379 = .ok (.iconst 0, 1) := by decide +kernel
theorem dL_law_380 : decode cL_law 380 = .ok (.goto 4, 3) := by decide +kernel
theorem dL_law_383 : decode cL_law 383 = .ok (.iconst 1, 1) := by decide +kernel
theorem dL_law_384 : decode cL_law 384 = .ok (.iadd, 1) := by decide +kernel
theorem dL_law_385 : decode cL_law 385 = .ok (.istore_n 3, 1) := by decide +kernel
theorem dL_law_386 : decode cL_law 386 = .ok (.iinc 6 1, 3) := by decide +kernel
theorem dL_law_389 : decode cL_law 389 = .ok (.goto (-305), 3) := by decide +kernel
theorem dL_law_392 : decode cL_law 392 = .ok (.aload_n 2, 1) := by decide +kernel
theorem dL_law_393 : decode cL_law 393 = .ok (.iload_n 3, 1) := by decide +kernel
theorem dL_law_394 : decode cL_law 394 = .ok (.aload_n 1, 1) := by decide +kernel
theorem dL_law_395 : decode cL_law 395 = .ok (.invokestatic 201, 3) := by decide +kernel
theorem dL_law_398 : decode cL_law 398 = .ok (.lastore, 1) := by decide +kernel
theorem dL_law_399 : decode cL_law 399 = .ok (.aload_n 1, 1) := by decide +kernel
theorem dL_law_400 : decode cL_law 400 = .ok (.invokestatic 123, 3) := by decide +kernel
theorem dL_law_403 : decode cL_law 403 = .ok (.ifCond .ne 5, 3) := by decide +kernel
theorem dL_law_406 : decode cL_law 406 = .ok (.iconst 0, 1) := by decide +kernel
theorem dL_law_407 : decode cL_law 407 = .ok (.ireturn, 1) := by decide +kernel
theorem dL_law_408 : decode cL_law 408 = .ok (.iconst 0, 1) := by decide +kernel
theorem dL_law_409 : decode cL_law 409 = .ok (.istore 6, 2) := by decide +kernel
theorem dL_law_411 : decode cL_law 411 = .ok (.aload_n 1, 1) := by decide +kernel
theorem dL_law_412 : decode cL_law 412 = .ok (.bipush 13, 2) := by decide +kernel
theorem dL_law_414 : decode cL_law 414 = .ok (.invokevirtual 60, 3) := by decide +kernel
theorem dL_law_417 : decode cL_law 417 = .ok (.ifCond .le 56, 3) := by decide +kernel
theorem dL_law_420 : decode cL_law 420 = .ok (.iload 6, 2) := by decide +kernel
theorem dL_law_422 : decode cL_law 422 = .ok (.iload_n 3, 1) := by decide +kernel
theorem dL_law_423 : decode cL_law 423 = .ok (.if_icmp .ge 50, 3) := by decide +kernel
theorem dL_law_426 : decode cL_law 426 = .ok (.aload_n 1, 1) := by decide +kernel
theorem dL_law_427 : decode cL_law 427 = .ok (.bipush 13, 2) := by decide +kernel
theorem dL_law_429 : decode cL_law 429 = .ok (.invokevirtual 60, 3) := by decide +kernel
theorem dL_law_432 : decode cL_law 432 = .ok (.istore 7, 2) := by decide +kernel
theorem dL_law_434 : decode cL_law 434 = .ok (.iload 6, 2) := by decide +kernel
theorem dL_law_436 : decode cL_law 436 = .ok (.iconst 5, 1) := by decide +kernel
theorem dL_law_437 : decode cL_law 437 = .ok (.if_icmp .gt 28, 3) := by decide +kernel
theorem dL_law_440 : decode cL_law 440 = .ok (.aload_n 1, 1) := by decide +kernel
theorem dL_law_441 : decode cL_law 441 = .ok (.invokestatic 201, 3) := by decide +kernel
theorem dL_law_444 : decode cL_law 444 = .ok (.aload_n 2, 1) := by decide +kernel
theorem dL_law_445 : decode cL_law 445 = .ok (.iload_n 3, 1) := by decide +kernel
theorem dL_law_446 : decode cL_law 446 = .ok (.iload 6, 2) := by decide +kernel
theorem dL_law_448 : decode cL_law 448 = .ok (.isub, 1) := by decide +kernel
theorem dL_law_449 : decode cL_law 449 = .ok (.laload, 1) := by decide +kernel
theorem dL_law_450 : decode cL_law 450 = .ok (.lcmp, 1) := by decide +kernel
theorem dL_law_451 : decode cL_law 451 = .ok (.ifCond .ne 14, 3) := by decide +kernel
theorem dL_law_454 : decode cL_law 454 = .ok (.aload_n 1, 1) := by decide +kernel
theorem dL_law_455 : decode cL_law 455 = .ok (.invokevirtual 47, 3) := by decide +kernel
theorem dL_law_458 : decode cL_law 458 = .ok (.iload 7, 2) := by decide +kernel
theorem dL_law_460 : decode cL_law 460 = .ok (.iconst 1, 1) := by decide +kernel
theorem dL_law_461 : decode cL_law 461 = .ok (.isub, 1) := by decide +kernel
theorem dL_law_462 : decode cL_law 462 = .ok (.if_icmp .eq 5, 3) := by decide +kernel
theorem dL_law_465 : decode cL_law 465 = .ok (.iconst 0, 1) := by decide +kernel
theorem dL_law_466 : decode cL_law 466 = .ok (.ireturn, 1) := by decide +kernel
theorem dL_law_467 : decode cL_law 467 = .ok (.iinc 6 1, 3) := by decide +kernel
theorem dL_law_470 : decode cL_law 470 = .ok (.goto (-59), 3) := by decide +kernel
theorem dL_law_473 : decode cL_law 473 = .ok (.aload_n 1, 1) := by decide +kernel
theorem dL_law_474 : decode cL_law 474 = .ok (.bipush 13, 2) := by decide +kernel
theorem dL_law_476 : decode cL_law 476 = .ok (.invokevirtual 60, 3) := by decide +kernel
theorem dL_law_479 : decode cL_law 479 = .ok (.ifCond .le 12, 3) := by decide +kernel
theorem dL_law_482 : decode cL_law 482 = .ok (.aload_n 1, 1) := by decide +kernel
theorem dL_law_483 : decode cL_law 483 = .ok (.invokevirtual 47, 3) := by decide +kernel
theorem dL_law_486 : decode cL_law 486 = .ok (.ifCond .ge (-13), 3) := by decide +kernel
theorem dL_law_489 : decode cL_law 489 = .ok (.iconst 0, 1) := by decide +kernel
theorem dL_law_490 : decode cL_law 490 = .ok (.ireturn, 1) := by decide +kernel
theorem dL_law_491 : decode cL_law 491 = .ok (.aload_n 1, 1) := by decide +kernel
theorem dL_law_492 : decode cL_law 492 = .ok (.bipush 11, 2) := by decide +kernel
theorem dL_law_494 : decode cL_law 494 = .ok (.iconst 0, 1) := by decide +kernel
theorem dL_law_495 : decode cL_law 495 = .ok (.iconst 0, 1) := by decide +kernel
theorem dL_law_496 : decode cL_law 496 = .ok (.invokestatic 91, 3) := by decide +kernel
theorem dL_law_499 : decode cL_law 499 = .ok (.bipush (-13), 2) := by decide +kernel
theorem dL_law_501 : decode cL_law 501 = .ok (.if_icmp .ne 54, 3) := by decide +kernel
theorem dL_law_504 : decode cL_law 504 = .ok (.aload_n 1, 1) := by decide +kernel
theorem dL_law_505 : decode cL_law 505 = .ok (.invokevirtual 44, 3) := by decide +kernel
theorem dL_law_508 : decode cL_law 508 = .ok (.ifCond .ne 47, 3) := by decide +kernel
theorem dL_law_511 : decode cL_law 511 = .ok (.aload_n 1, 1) := by decide +kernel
theorem dL_law_512 : decode cL_law 512 = .ok (.iconst 3, 1) := by decide +kernel
theorem dL_law_513 : decode cL_law 513 = .ok (.invokevirtual 60, 3) := by decide +kernel
theorem dL_law_516 : decode cL_law 516 = .ok (.bipush 9, 2) := by decide +kernel
theorem dL_law_518 : decode cL_law 518 = .ok (.if_icmp .ne 37, 3) := by decide +kernel
theorem dL_law_521 : decode cL_law 521 = .ok (.aload_n 1, 1) := by decide +kernel
theorem dL_law_522 : decode cL_law 522 = .ok (.iconst 1, 1) := by decide +kernel
theorem dL_law_523 : decode cL_law 523 = .ok (.iconst 0, 1) := by decide +kernel
theorem dL_law_524 : decode cL_law 524 = .ok (.invokevirtual 53, 3) := by decide +kernel
theorem dL_law_527 : decode cL_law 527 = .ok (.iconst 4, 1) := by decide +kernel
theorem dL_law_528 : decode cL_law 528 = .ok (.if_icmp .ne 27, 3) := by decide +kernel
theorem dL_law_531 : decode cL_law 531 = .ok (.aload_n 1, 1) := by decide +kernel
theorem dL_law_532 : decode cL_law 532 = .ok (.invokestatic 201, 3) := by decide +kernel
theorem dL_law_535 : decode cL_law 535 = .ok (.lload 4, 2) := by decide +kernel
theorem dL_law_537 : decode cL_law 537 = .ok (.lcmp, 1) := by decide +kernel
theorem dL_law_538 : decode cL_law 538 = .ok (.ifCond .ne 17, 3) := by decide +kernel
theorem dL_law_541 : decode cL_law 541 = .ok (.aload_n 1, 1) := by decide +kernel
theorem dL_law_542 : decode cL_law 542 = .ok (.bipush 13, 2) := by decide +kernel
theorem dL_law_544 : decode cL_law 544 = .ok (.invokevirtual 60, 3) := by decide +kernel
theorem dL_law_547 : decode cL_law 547 = .ok (.iconst 1, 1) := by decide +kernel
theorem dL_law_548 : decode cL_law 548 = .ok (.if_icmp .ne 7, 3) := by decide +kernel
theorem dL_law_551 : decode cL_law 551 = .ok (.iconst 1, 1) := by decide +kernel
theorem dL_law_552 : decode cL_law 552 = .ok (.goto 4, 3) := by decide +kernel
theorem dL_law_555 : decode cL_law 555 = .ok (.iconst 0, 1) := by decide +kernel
theorem dL_law_556 : decode cL_law 556 = .ok (.ireturn, 1) := by decide +kernel
