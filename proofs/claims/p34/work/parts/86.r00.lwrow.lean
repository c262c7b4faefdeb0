set_option maxRecDepth 20000 in
theorem ggL_types_X5_append : GoodIn wsL_types wsX5_append := goodIn_ca (goodIn_ca (goodIn_r _ [6, 7, 8, 9, 10, 11, 12, 13, 5, 14, 15, 16, 17, 18, 19, 20, 21, 22, 23, 24, 25, 26, 27, 28, 29, 30, 31, 32, 33, 34, 35, 36, 37, 38, 39, 40, 41, 42, 43, 44, 45, 46, 47, 48, 49, 50, 51] (by decide +kernel) (by decide +kernel)) (goodIn_sub (fun _ h => List.mem_cons_of_mem _ (List.mem_append_left _ (List.mem_append_right _ h))) (by decide +kernel))) (goodIn_sub (fun _ h => List.mem_cons_of_mem _ (List.mem_append_right _ h)) (by decide +kernel))
set_option maxRecDepth 20000 in
theorem gL_types_X5_append : GoodIn wsL_types (wsV RL 38 RX5 yX5_append wsX5_append) := goodIn_app (goodIn_of _ (by decide +kernel)) ggL_types_X5_append
theorem dL_types_0 : decode cL_types 0 = .ok (.iconst 1, 1) := by decide +kernel
theorem dL_types_1 : decode cL_types 1 = .ok (.istore_n 3, 1) := by decide +kernel
theorem dL_types_2 : decode cL_types 2 = .ok (.bipush 56, 2) := by decide +kernel
theorem dL_types_4 : decode cL_types 4 = .ok (.istore 4, 2) := by decide +kernel
theorem dL_types_6 : decode cL_types 6 = .ok (.iload 4, 2) := by decide +kernel
theorem dL_types_8 : decode cL_types 8 = .ok (.ifCond .lt 44, 3) := by decide +kernel
theorem dL_types_11 : decode cL_types 11 = .ok (.lload_n 1, 1) := by decide +kernel
theorem dL_types_12 : decode cL_types 12 = .ok (.iload 4, 2) := by decide +kernel
theorem dL_types_14 : decode cL_types 14 = .ok (.lshr, 1) := by decide +kernel
theorem dL_types_15 : decode cL_types 15 = .ok (.ldc2_w 133, 3) := by decide +kernel
theorem dL_types_18 : decode cL_types 18 = .ok (.land, 1) := by decide +kernel
theorem dL_types_19 : decode cL_types 19 = .ok (.l2i, 1) := by decide +kernel
theorem dL_types_20 : decode cL_types 20 = .ok (.istore 5, 2) := by decide +kernel
theorem dL_types_22 : decode cL_types 22 = .ok (.iload_n 3, 1) := by decide +kernel
theorem dL_types_23 : decode cL_types 23 = .ok (.ifCond .eq 21, 3) := by decide +kernel
theorem dL_types_26 : decode cL_types 26 = .ok (.iload 5, 2) := by decide +kernel
theorem dL_types_28 : decode cL_types 28 = .ok (.ifCond .eq 12, 3) := by decide +kernel
theorem dL_types_31 : decode cL_types 31 = .ok (.aload_n 0, 1) := by decide +kernel
theorem dL_types_32 : decode cL_types 32 = .ok (.iload 5, 2) := by decide +kernel
theorem dL_types_34 : decode cL_types 34 = .ok (.invokevirtual 38, 3) := by decide +kernel
theorem dL_types_37 : decode cL_types 37 = .ok (.ifCond .le 7, 3) := by decide +kernel
theorem dL_types_40 : decode cL_types 40 = .ok (.iconst 1, 1) := by decide +kernel
theorem dL_types_41 : decode cL_types 41 = .ok (.goto 4, 3) := by decide +kernel
theorem dL_types_44 : decode cL_types 44 = .ok (.iconst 0, 1) := by decide +kernel
theorem dL_types_45 : decode cL_types 45 = .ok (.istore_n 3, 1) := by decide +kernel
theorem dL_types_46 : decode cL_types 46 = .ok (.iinc 4 (-8), 3) := by decide +kernel
theorem dL_types_49 : decode cL_types 49 = .ok (.goto (-43), 3) := by decide +kernel
theorem dL_types_52 : decode cL_types 52 = .ok (.iload_n 3, 1) := by decide +kernel
theorem dL_types_53 : decode cL_types 53 = .ok (.ireturn, 1) := by decide +kernel
set_option maxRecDepth 20000 in
theorem ggL_isError_X5_clearBuffer : GoodIn wsL_isError wsX5_clearBuffer := goodIn_r _ [5, 6, 7, 8, 9, 10, 11, 12, 13, 14, 15, 16, 17, 18, 62, 63, 64, 65, 66, 67, 68, 69, 70, 71] (by decide +kernel) (by decide +kernel)
set_option maxRecDepth 20000 in
theorem gL_isError_X5_clearBuffer : GoodIn wsL_isError (wsV RL 135 RX5 yX5_clearBuffer wsX5_clearBuffer) := goodIn_app (goodIn_of _ (by decide +kernel)) ggL_isError_X5_clearBuffer
set_option maxRecDepth 20000 in
theorem ggL_isError_L_types : GoodIn wsL_isError wsL_types := goodIn_ca (goodIn_ca (goodIn_r _ [22, 23, 24, 25, 26, 4, 27, 28, 29, 30, 31, 6, 32, 33, 34, 7, 8, 9, 10, 11, 12, 35, 36, 37, 38, 39, 18, 17, 40, 41, 42, 43, 44, 45, 46, 47, 48, 49, 50, 51, 52, 53, 62, 63, 64, 65, 66, 67, 68, 69, 70, 71] (by decide +kernel) (by decide +kernel)) (goodIn_sub (fun _ h => List.mem_cons_of_mem _ (List.mem_append_left _ (List.mem_append_right _ h))) (by decide +kernel))) (goodIn_sub (fun _ h => List.mem_cons_of_mem _ (List.mem_append_right _ h)) (by decide +kernel))
set_option maxRecDepth 20000 in
theorem gL_isError_L_types : GoodIn wsL_isError (va_wsS RL 138 yL_types wsL_types) := goodIn_app (goodIn_of _ (by decide +kernel)) ggL_isError_L_types
set_option maxRecDepth 20000 in
theorem ggL_isError_X5_firstError : GoodIn wsL_isError wsX5_firstError := goodIn_r _ [57, 6, 58, 59, 60, 10, 61, 17, 62, 63, 64, 65, 66, 67, 68, 69, 70, 71] (by decide +kernel) (by decide +kernel)
set_option maxRecDepth 20000 in
theorem gL_isError_X5_firstError : GoodIn wsL_isError (wsV RL 142 RX5 yX5_firstError wsX5_firstError) := goodIn_app (goodIn_of _ (by decide +kernel)) ggL_isError_X5_firstError
theorem dL_isError_0 : decode cL_isError 0 = .ok (.aload_n 0, 1) := by decide +kernel
theorem dL_isError_1 : decode cL_isError 1 = .ok (.invokevirtual 135, 3) := by decide +kernel
theorem dL_isError_4 : decode cL_isError 4 = .ok (.ifCond .lt 32, 3) := by decide +kernel
theorem dL_isError_7 : decode cL_isError 7 = .ok (.aload_n 0, 1) := by decide +kernel
theorem dL_isError_8 : decode cL_isError 8 = .ok (.lload_n 1, 1) := by decide +kernel
theorem dL_isError_9 : decode cL_isError 9 = .ok (.invokestatic 138, 3) := by decide +kernel
theorem dL_isError_12 : decode cL_isError 12 = .ok (.ifCond .eq 24, 3) := by decide +kernel
theorem dL_isError_15 : decode cL_isError 15 = .ok (.aload_n 0, 1) := by decide +kernel
theorem dL_isError_16 : decode cL_isError 16 = .ok (.lload_n 3, 1) := by decide +kernel
theorem dL_isError_17 : decode cL_isError 17 = .ok (.invokestatic 138, 3) := by decide +kernel
theorem dL_isError_20 : decode cL_isError 20 = .ok (.ifCond .eq 16, 3) := by decide +kernel
theorem dL_isError_23 : decode cL_isError 23 = .ok (.aload_n 0, 1) := by decide +kernel
theorem dL_isError_24 : decode cL_isError 24 = .ok (.invokevirtual 142, 3) := by decide +kernel
theorem dL_isError_27 : decode cL_isError 27 = .ok (.iload 5, 2) := by decide +kernel
theorem dL_isError_29 : decode cL_isError 29 = .ok (.if_icmp .ne 7, 3) := by decide +kernel
theorem dL_isError_32 : decode cL_isError 32 = .ok (.iconst 1, 1) := by decide +kernel
theorem dL_isError_33 : decode cL_isError 33 = .ok (.goto 4, 3) := by decide +kernel
theorem dL_isError_36 : decode cL_isError 36 = .ok (.iconst 0, 1) := by decide +kernel
theorem dL_isError_37 : decode cL_isError 37 = .ok (.ireturn, 1) := by decide +kernel
set_option maxRecDepth 20000 in
theorem ggL_texts_X5_init : GoodIn wsL_texts wsX5_init := goodIn_r _ [27, 28, 29, 30, 31, 32, 33, 34, 35, 36, 37, 38, 39, 40, 41, 42, 43, 44, 45, 46, 47, 48, 49, 50, 51, 52, 53, 54, 55, 56, 57, 58, 59, 60, 61, 62, 63, 64, 3, 65, 66, 67, 68, 69, 70, 71, 72, 73, 74, 75, 76, 77, 78, 79, 80, 81, 82, 83, 84, 85, 86, 87, 88, 89, 90, 91, 92, 93, 94, 95, 96, 97, 98, 99, 100, 101, 102, 103, 104, 105, 106, 519, 520, 521, 522, 523, 524, 525, 526, 527, 528, 529, 530, 531, 532, 513, 514, 515, 516, 517, 518, 533, 534, 535, 536, 537, 538, 539, 540, 541, 542, 543, 544, 545, 546, 547] (by decide +kernel) (by decide +kernel)
set_option maxRecDepth 20000 in
theorem gL_texts_X5_init : GoodIn wsL_texts (wsX5_init) := ggL_texts_X5_init
set_option maxRecDepth 20000 in
theorem ggL_texts_L_isError : GoodIn wsL_texts wsL_isError := goodIn_ca (goodIn_ca (goodIn_r _ [110, 111, 112, 113, 3, 114, 44, 115, 116, 117, 43, 118, 104, 119, 120, 121, 122, 105, 106, 123, 124, 109, 125, 126, 127, 128, 129, 130, 131, 132, 133, 134, 135, 136, 137, 138, 139, 140, 141, 103, 142, 143, 144, 145, 146, 147, 148, 149, 150, 151, 152, 153, 154, 155, 156, 157, 158, 159, 160, 161, 162, 163, 513, 514, 515, 516, 517, 518, 536, 537, 538, 539] (by decide +kernel) (by decide +kernel)) (goodIn_sub (fun _ h => List.mem_cons_of_mem _ (List.mem_append_left _ (List.mem_append_left _ (List.mem_append_right _ h)))) (by decide +kernel))) (goodIn_sub (fun _ h => List.mem_cons_of_mem _ (List.mem_append_left _ (List.mem_append_right _ h))) (by decide +kernel))
set_option maxRecDepth 20000 in
theorem gL_texts_L_isError : GoodIn wsL_texts (va_wsS RL 147 yL_isError wsL_isError) := goodIn_app (goodIn_of _ (by decide +kernel)) ggL_texts_L_isError
set_option maxRecDepth 20000 in
theorem ggL_texts_X5_clearBuffer : GoodIn wsL_texts wsX5_clearBuffer := goodIn_r _ [114, 44, 115, 116, 117, 43, 118, 104, 119, 120, 121, 122, 105, 106, 513, 514, 515, 516, 517, 518, 536, 537, 538, 539] (by decide +kernel) (by decide +kernel)
set_option maxRecDepth 20000 in
theorem gL_texts_X5_clearBuffer : GoodIn wsL_texts (wsV RL 135 RX5 yX5_clearBuffer wsX5_clearBuffer) := goodIn_app (goodIn_of _ (by decide +kernel)) ggL_texts_X5_clearBuffer
set_option maxRecDepth 20000 in
theorem ggL_texts_L_call_p0 : GoodIn wsL_texts wsL_call_r1 := goodIn_r _ [167, 168, 169, 170, 171, 172, 3, 173, 174, 175, 131, 132, 133, 134, 34, 40, 135, 136, 137, 176, 177, 178, 33, 179] (by decide +kernel) (by decide +kernel)
set_option maxRecDepth 20000 in
theorem ggL_texts_L_call_p1 : GoodIn wsL_texts wsL_call_r2 := goodIn_r _ [180, 181, 182, 183, 56, 57, 184, 185, 186, 55, 187, 80, 78, 188, 189, 190, 39, 191, 97, 96, 192, 193, 194, 195] (by decide +kernel) (by decide +kernel)
set_option maxRecDepth 20000 in
theorem ggL_texts_L_call_p2 : GoodIn wsL_texts wsL_call_r3 := goodIn_r _ [95, 196, 197, 198, 199, 200, 201, 202, 203, 51, 52, 58, 59, 63, 204, 205, 206, 207, 208, 209, 210, 64, 65, 66] (by decide +kernel) (by decide +kernel)
set_option maxRecDepth 20000 in
theorem ggL_texts_L_call_p3 : GoodIn wsL_texts wsL_call_r4 := goodIn_r _ [67, 68, 69, 70, 71, 72, 73, 211, 212, 213, 214, 79, 81, 215, 216, 217, 62, 218, 86, 87, 88, 89, 219, 220] (by decide +kernel) (by decide +kernel)
set_option maxRecDepth 20000 in
theorem ggL_texts_L_call_p4 : GoodIn wsL_texts wsL_call_r5 := goodIn_r _ [221, 222, 223, 224, 225, 226, 227, 142, 143, 228, 229, 230, 231, 232, 233, 234, 235, 236, 237, 238, 239, 240, 241, 242] (by decide +kernel) (by decide +kernel)
set_option maxRecDepth 20000 in
theorem ggL_texts_L_call_p5 : GoodIn wsL_texts wsL_call_r6 := goodIn_r _ [243, 244, 245, 246, 247, 248, 249, 250, 251, 252, 253, 254, 255, 256, 257, 258, 259, 260, 261, 262, 263, 264, 265, 266] (by decide +kernel) (by decide +kernel)
set_option maxRecDepth 20000 in
theorem ggL_texts_L_call_p6 : GoodIn wsL_texts wsL_call_r7 := goodIn_r _ [267, 268, 269, 270, 271, 272, 273, 274, 275, 276, 277, 278, 279, 280, 281, 282, 283, 284, 285, 286, 287, 288, 289, 290] (by decide +kernel) (by decide +kernel)
set_option maxRecDepth 20000 in
theorem ggL_texts_L_call_p7 : GoodIn wsL_texts wsL_call_r8 := goodIn_r _ [291, 292, 293, 294, 295, 296, 297, 298, 299, 300, 301, 302, 303, 304, 305, 306, 307, 308, 309, 310, 311, 312, 313, 314] (by decide +kernel) (by decide +kernel)
set_option maxRecDepth 20000 in
theorem ggL_texts_L_call_p8 : GoodIn wsL_texts wsL_call_r9 := goodIn_r _ [315, 316, 317, 318, 319, 320, 321, 322, 323, 324, 325, 326, 327, 328, 329, 330, 331, 332, 333, 334, 335, 336, 337, 338] (by decide +kernel) (by decide +kernel)
set_option maxRecDepth 20000 in
theorem ggL_texts_L_call_p9 : GoodIn wsL_texts wsL_call_r10 := goodIn_r _ [339, 340, 341, 342, 343, 344, 345, 346, 347, 348, 349, 350, 351, 352, 353, 354, 355, 356, 357, 358, 359, 360, 361, 362] (by decide +kernel) (by decide +kernel)
set_option maxRecDepth 20000 in
theorem ggL_texts_L_call_p10 : GoodIn wsL_texts wsL_call_r11 := goodIn_r _ [363, 364, 365, 366, 367, 368, 369, 370, 371, 372, 373, 374, 375, 127, 128, 129, 130, 44, 115, 116, 117, 43, 118, 104] (by decide +kernel) (by decide +kernel)
set_option maxRecDepth 20000 in
theorem ggL_texts_L_call_p11 : GoodIn wsL_texts wsL_call_r12 := goodIn_r _ [138, 139, 140, 141, 103, 106, 105, 144, 145, 146, 147, 148, 149, 150, 151, 152, 153, 154, 155, 376, 377, 378, 379, 380] (by decide +kernel) (by decide +kernel)
set_option maxRecDepth 20000 in
theorem ggL_texts_L_call_p12 : GoodIn wsL_texts wsL_call_r13 := goodIn_r _ [381, 382, 383, 384, 385, 386, 387, 388, 389, 390, 391, 392, 393, 394, 395, 396, 397, 398, 399, 400, 401, 402, 403, 404] (by decide +kernel) (by decide +kernel)
set_option maxRecDepth 20000 in
theorem ggL_texts_L_call_p13 : GoodIn wsL_texts wsL_call_r14 := goodIn_r _ [119, 120, 121, 122, 405, 406, 407, 408, 45, 36, 409, 410, 411, 412, 413, 414, 415, 416, 417, 418, 419, 420, 421, 422] (by decide +kernel) (by decide +kernel)
set_option maxRecDepth 20000 in
theorem ggL_texts_L_call_p14 : GoodIn wsL_texts wsL_call_r15 := goodIn_r _ [423, 424, 425, 426, 427, 428, 429, 430, 431, 432, 433, 434, 435, 436, 437, 438, 439, 440, 441, 442, 443, 444, 445, 446] (by decide +kernel) (by decide +kernel)
set_option maxRecDepth 20000 in
theorem ggL_texts_L_call_p15 : GoodIn wsL_texts wsL_call_r16 := goodIn_r _ [447, 448, 449, 450, 451, 452, 453, 454, 455, 456, 457, 458, 459, 460, 461, 462, 463, 464, 465, 466, 467, 468, 469, 470] (by decide +kernel) (by decide +kernel)
set_option maxRecDepth 20000 in
theorem ggL_texts_L_call_p16 : GoodIn wsL_texts wsL_call_r17 := goodIn_r _ [471, 472, 473, 474, 475, 476, 477, 478, 479, 480, 35, 481, 482, 483, 484, 485, 486, 487, 488, 489, 490, 491, 492, 493] (by decide +kernel) (by decide +kernel)
set_option maxRecDepth 20000 in
theorem ggL_texts_L_call_p17 : GoodIn wsL_texts wsL_call_r18 := goodIn_r _ [494, 495, 496, 497, 498, 499, 500, 501, 502, 503, 504, 505, 506, 507, 508, 509, 510, 511, 512] (by decide +kernel) (by decide +kernel)
set_option maxRecDepth 20000 in
theorem ggL_texts_L_call_p18 : GoodIn wsL_texts wsX50 := goodIn_r _ [513, 514, 515, 516, 517, 518] (by decide +kernel) (by decide +kernel)
set_option maxRecDepth 20000 in
theorem ggL_texts_L_call_p19 : GoodIn wsL_texts wsX30 := goodIn_r _ [519, 520, 521, 522, 523, 524, 525, 526, 527, 528, 529, 530, 531, 532] (by decide +kernel) (by decide +kernel)
set_option maxRecDepth 20000 in
theorem ggL_texts_L_call_p20 : GoodIn wsL_texts wsX10 := goodIn_r _ [540, 541, 542, 543] (by decide +kernel) (by decide +kernel)
set_option maxRecDepth 20000 in
theorem ggL_texts_L_call_p21 : GoodIn wsL_texts wsX00 := goodIn_r _ [533, 534, 535] (by decide +kernel) (by decide +kernel)
set_option maxRecDepth 20000 in
theorem ggL_texts_L_call_p22 : GoodIn wsL_texts wsX40 := goodIn_r _ [544, 545, 546, 547] (by decide +kernel) (by decide +kernel)
set_option maxRecDepth 20000 in
theorem ggL_texts_L_call_p23 : GoodIn wsL_texts wsX20 := goodIn_r _ [536, 537, 538, 539] (by decide +kernel) (by decide +kernel)
set_option maxRecDepth 20000 in
theorem ggL_texts_L_call : GoodIn wsL_texts wsL_call := goodIn_ca (goodIn_ca (goodIn_ca (goodIn_app (goodIn_r [.codeWith yL_call cL_call 5 (some .int) [(0, 272, 273, 75), (0, 272, 278, 77), (0, 272, 283, 79)]] [166] (by decide +kernel) (by decide +kernel)) (goodIn_app (goodIn_app (goodIn_app (goodIn_app (goodIn_app (goodIn_app (goodIn_app ggL_texts_L_call_p0 (goodIn_app ggL_texts_L_call_p1 (goodIn_app ggL_texts_L_call_p2 (goodIn_app ggL_texts_L_call_p3 (goodIn_app ggL_texts_L_call_p4 (goodIn_app ggL_texts_L_call_p5 (goodIn_app ggL_texts_L_call_p6 (goodIn_app ggL_texts_L_call_p7 (goodIn_app ggL_texts_L_call_p8 (goodIn_app ggL_texts_L_call_p9 (goodIn_app ggL_texts_L_call_p10 (goodIn_app ggL_texts_L_call_p11 (goodIn_app ggL_texts_L_call_p12 (goodIn_app ggL_texts_L_call_p13 (goodIn_app ggL_texts_L_call_p14 (goodIn_app ggL_texts_L_call_p15 (goodIn_app ggL_texts_L_call_p16 ggL_texts_L_call_p17))))))))))))))))) ggL_texts_L_call_p18) ggL_texts_L_call_p19) ggL_texts_L_call_p20) ggL_texts_L_call_p21) ggL_texts_L_call_p22) ggL_texts_L_call_p23)) (goodIn_sub (fun _ h => List.mem_cons_of_mem _ (List.mem_append_right _ h)) (by decide +kernel))) (goodIn_sub (fun _ h => List.mem_cons_of_mem _ (List.mem_append_left _ (List.mem_append_left _ (List.mem_append_right _ h)))) (by decide +kernel))) (goodIn_sub (fun _ h => List.mem_cons_of_mem _ (List.mem_append_left _ (List.mem_append_right _ h))) (by decide +kernel))
set_option maxRecDepth 20000 in
theorem gL_texts_L_call : GoodIn wsL_texts (va_wsS RL 91 yL_call wsL_call) := goodIn_app (goodIn_of _ (by decide +kernel)) ggL_texts_L_call
set_option maxRecDepth 20000 in
theorem ggL_texts_L_types : GoodIn wsL_texts wsL_types := goodIn_ca (goodIn_ca (goodIn_r _ [125, 126, 127, 128, 129, 3, 130, 131, 132, 133, 134, 44, 135, 136, 137, 115, 116, 117, 43, 118, 104, 138, 139, 140, 141, 103, 106, 105, 142, 143, 144, 145, 146, 147, 148, 149, 150, 151, 152, 153, 154, 155, 513, 514, 515, 516, 517, 518, 536, 537, 538, 539] (by decide +kernel) (by decide +kernel)) (goodIn_sub (fun _ h => List.mem_cons_of_mem _ (List.mem_append_left _ (List.mem_append_left _ (List.mem_append_right _ h)))) (by decide +kernel))) (goodIn_sub (fun _ h => List.mem_cons_of_mem _ (List.mem_append_left _ (List.mem_append_right _ h))) (by decide +kernel))
set_option maxRecDepth 20000 in
theorem gL_texts_L_types : GoodIn wsL_texts (va_wsS RL 138 yL_types wsL_types) := goodIn_app (goodIn_of _ (by decide +kernel)) ggL_texts_L_types
set_option maxRecDepth 20000 in
theorem ggL_texts_X5_firstError : GoodIn wsL_texts wsX5_firstError := goodIn_r _ [159, 44, 160, 161, 162, 43, 163, 105, 513, 514, 515, 516, 517, 518, 536, 537, 538, 539] (by decide +kernel) (by decide +kernel)
set_option maxRecDepth 20000 in
theorem gL_texts_X5_firstError : GoodIn wsL_texts (wsV RL 142 RX5 yX5_firstError wsX5_firstError) := goodIn_app (goodIn_of _ (by decide +kernel)) ggL_texts_X5_firstError
set_option maxRecDepth 20000 in
theorem ggL_texts_X5_obey_p0 : GoodIn wsL_texts wsX5_obey_r1 := goodIn_r _ [131, 132, 44, 40, 34, 380, 381, 382, 43, 383, 106, 188, 189, 190, 39, 191, 97, 96, 192, 193, 194, 195, 95, 196] (by decide +kernel) (by decide +kernel)
set_option maxRecDepth 20000 in
theorem ggL_texts_X5_obey_p1 : GoodIn wsL_texts wsX5_obey_r2 := goodIn_r _ [197, 198, 199, 200, 201, 202, 33, 203, 51, 52, 56, 57, 58, 59, 63, 204, 205, 206, 207, 208, 209, 210, 64, 3] (by decide +kernel) (by decide +kernel)
set_option maxRecDepth 20000 in
theorem ggL_texts_X5_obey_p2 : GoodIn wsL_texts wsX5_obey_r3 := goodIn_r _ [65, 66, 67, 68, 69, 70, 71, 72, 73, 211, 212, 213, 55, 214, 78, 79, 80, 81, 215, 216, 217, 62, 218, 86] (by decide +kernel) (by decide +kernel)
