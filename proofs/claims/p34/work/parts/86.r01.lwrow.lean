set_option maxRecDepth 20000 in
theorem ggL_texts_X5_obey_p3 : GoodIn wsL_texts wsX5_obey_r4 := goodIn_r _ [87, 88, 89, 384, 385, 386, 387, 115, 116, 117, 118, 104, 388, 389, 390, 391, 392, 393, 394, 395, 103, 254, 255, 396] (by decide +kernel) (by decide +kernel)
set_option maxRecDepth 20000 in
theorem ggL_texts_X5_obey_p4 : GoodIn wsL_texts wsX5_obey_r5 := goodIn_r _ [397, 398, 399, 400, 401, 402, 403, 136, 137, 404, 176, 177, 178, 179, 180, 181, 182, 183, 184, 185, 186, 187, 219, 220] (by decide +kernel) (by decide +kernel)
set_option maxRecDepth 20000 in
theorem ggL_texts_X5_obey_p5 : GoodIn wsL_texts wsX5_obey_r6 := goodIn_r _ [221, 222, 223, 224, 225, 226, 227, 142, 143, 237, 238, 239, 240, 241, 230, 231, 232, 242, 243, 244, 245, 246, 247, 248] (by decide +kernel) (by decide +kernel)
set_option maxRecDepth 20000 in
theorem ggL_texts_X5_obey_p6 : GoodIn wsL_texts wsX5_obey_r7 := goodIn_r _ [249, 250, 251, 252, 253, 256, 257, 258, 259, 284, 285, 286, 287, 288, 289, 290, 291, 292, 293, 294, 295, 296, 297, 298] (by decide +kernel) (by decide +kernel)
set_option maxRecDepth 20000 in
theorem ggL_texts_X5_obey_p7 : GoodIn wsL_texts wsX5_obey_r8 := goodIn_r _ [299, 300, 301, 302, 303, 304, 305, 306, 307, 308, 309, 310, 311, 312, 313, 314, 315, 316, 317, 318, 319, 320, 321, 322] (by decide +kernel) (by decide +kernel)
set_option maxRecDepth 20000 in
theorem ggL_texts_X5_obey_p8 : GoodIn wsL_texts wsX5_obey_r9 := goodIn_r _ [323, 324, 325, 326, 327, 328, 329, 330, 331, 332, 333, 334, 335, 336, 349, 350, 351, 352, 353, 354, 355, 356, 357, 358] (by decide +kernel) (by decide +kernel)
set_option maxRecDepth 20000 in
theorem ggL_texts_X5_obey_p9 : GoodIn wsL_texts wsX5_obey_r10 := goodIn_r _ [359, 360, 361, 342, 264, 265, 266, 267, 268, 269, 270, 271, 272, 273, 274, 275, 276, 277, 278, 279, 119, 120, 121, 122] (by decide +kernel) (by decide +kernel)
set_option maxRecDepth 20000 in
theorem ggL_texts_X5_obey_p10 : GoodIn wsL_texts wsX5_obey_r11 := goodIn_r _ [105] (by decide +kernel) (by decide +kernel)
set_option maxRecDepth 20000 in
theorem ggL_texts_X5_obey_p11 : GoodIn wsL_texts wsX50 := goodIn_r _ [513, 514, 515, 516, 517, 518] (by decide +kernel) (by decide +kernel)
set_option maxRecDepth 20000 in
theorem ggL_texts_X5_obey_p12 : GoodIn wsL_texts wsX20 := goodIn_r _ [536, 537, 538, 539] (by decide +kernel) (by decide +kernel)
set_option maxRecDepth 20000 in
theorem ggL_texts_X5_obey_p13 : GoodIn wsL_texts wsX00 := goodIn_r _ [533, 534, 535] (by decide +kernel) (by decide +kernel)
set_option maxRecDepth 20000 in
theorem ggL_texts_X5_obey_p14 : GoodIn wsL_texts wsX30 := goodIn_r _ [519, 520, 521, 522, 523, 524, 525, 526, 527, 528, 529, 530, 531, 532] (by decide +kernel) (by decide +kernel)
set_option maxRecDepth 20000 in
theorem ggL_texts_X5_obey_p15 : GoodIn wsL_texts wsX10 := goodIn_r _ [540, 541, 542, 543] (by decide +kernel) (by decide +kernel)
set_option maxRecDepth 20000 in
theorem ggL_texts_X5_obey_p16 : GoodIn wsL_texts wsX40 := goodIn_r _ [544, 545, 546, 547] (by decide +kernel) (by decide +kernel)
set_option maxRecDepth 20000 in
theorem ggL_texts_X5_obey : GoodIn wsL_texts wsX5_obey := goodIn_ca (goodIn_app (goodIn_r [.code yX5_obey cX5_obey 2 (some .int)] [379] (by decide +kernel) (by decide +kernel)) (goodIn_app (goodIn_app (goodIn_app (goodIn_app (goodIn_app (goodIn_app (goodIn_app ggL_texts_X5_obey_p0 (goodIn_app ggL_texts_X5_obey_p1 (goodIn_app ggL_texts_X5_obey_p2 (goodIn_app ggL_texts_X5_obey_p3 (goodIn_app ggL_texts_X5_obey_p4 (goodIn_app ggL_texts_X5_obey_p5 (goodIn_app ggL_texts_X5_obey_p6 (goodIn_app ggL_texts_X5_obey_p7 (goodIn_app ggL_texts_X5_obey_p8 (goodIn_app ggL_texts_X5_obey_p9 ggL_texts_X5_obey_p10)))))))))) ggL_texts_X5_obey_p11) ggL_texts_X5_obey_p12) ggL_texts_X5_obey_p13) ggL_texts_X5_obey_p14) ggL_texts_X5_obey_p15) ggL_texts_X5_obey_p16)) (goodIn_sub (fun _ h => List.mem_cons_of_mem _ (List.mem_append_left _ (List.mem_append_left _ (List.mem_append_right _ h)))) (by decide +kernel))
set_option maxRecDepth 20000 in
theorem gL_texts_X5_obey : GoodIn wsL_texts (wsV RL 41 RX5 yX5_obey wsX5_obey) := goodIn_app (goodIn_of _ (by decide +kernel)) ggL_texts_X5_obey
set_option maxRecDepth 20000 in
theorem ggL_texts_X5_count : GoodIn wsL_texts wsX5_count := goodIn_ca (goodIn_r _ [457, 131, 132, 34, 341, 458, 347, 459, 460, 348, 461, 462, 463, 464, 465, 40, 466, 273, 274, 33, 275, 58, 59, 241, 230, 231, 55, 232, 80, 467, 306, 307, 308, 296, 297, 298, 299, 81, 468, 290, 291, 292, 293, 294, 68, 295, 414, 415, 416, 39, 417, 97, 513, 514, 515, 516, 517, 518, 519, 520, 521, 522, 523, 524, 525, 526, 527, 528, 529, 530, 531, 532, 544, 545, 546, 547, 540, 541, 542, 543, 533, 534, 535] (by decide +kernel) (by decide +kernel)) (goodIn_sub (fun _ h => List.mem_cons_of_mem _ (List.mem_append_left _ (List.mem_append_left _ (List.mem_append_right _ h)))) (by decide +kernel))
set_option maxRecDepth 20000 in
theorem gL_texts_X5_count : GoodIn wsL_texts (wsV RL 60 RX5 yX5_count wsX5_count) := goodIn_app (goodIn_of _ (by decide +kernel)) ggL_texts_X5_count
set_option maxRecDepth 20000 in
theorem ggL_texts_X5_waiting : GoodIn wsL_texts wsX5_waiting := goodIn_ca (goodIn_ca (goodIn_r _ [443, 174, 175, 131, 132, 34, 135, 136, 3, 137, 228, 181, 182, 33, 183, 56, 57, 444, 251, 252, 55, 253, 80, 78, 254, 255, 513, 514, 515, 516, 517, 518, 519, 520, 521, 522, 523, 524, 525, 526, 527, 528, 529, 530, 531, 532, 540, 541, 542, 543] (by decide +kernel) (by decide +kernel)) (goodIn_sub (fun _ h => List.mem_cons_of_mem _ (List.mem_append_right _ h)) (by decide +kernel))) (goodIn_sub (fun _ h => List.mem_cons_of_mem _ (List.mem_append_left _ (List.mem_append_left _ (List.mem_append_right _ h)))) (by decide +kernel))
set_option maxRecDepth 20000 in
theorem gL_texts_X5_waiting : GoodIn wsL_texts (wsV RL 53 RX5 yX5_waiting wsX5_waiting) := goodIn_app (goodIn_of _ (by decide +kernel)) ggL_texts_X5_waiting
set_option maxRecDepth 20000 in
theorem ggL_texts_X5_undo : GoodIn wsL_texts wsX5_undo := goodIn_ca (goodIn_r _ [413, 133, 134, 40, 34, 414, 415, 416, 39, 417, 97, 418, 419, 420, 421, 192, 193, 194, 195, 96, 95, 196, 197, 198, 199, 200, 201, 202, 33, 203, 51, 52, 56, 57, 58, 59, 63, 204, 205, 206, 207, 208, 209, 210, 64, 3, 65, 66, 67, 68, 69, 70, 71, 72, 73, 211, 212, 213, 55, 214, 78, 79, 80, 81, 215, 216, 217, 62, 218, 86, 87, 88, 89, 513, 514, 515, 516, 517, 518, 533, 534, 535, 519, 520, 521, 522, 523, 524, 525, 526, 527, 528, 529, 530, 531, 532, 540, 541, 542, 543, 544, 545, 546, 547] (by decide +kernel) (by decide +kernel)) (goodIn_sub (fun _ h => List.mem_cons_of_mem _ (List.mem_append_left _ (List.mem_append_right _ h))) (by decide +kernel))
set_option maxRecDepth 20000 in
theorem gL_texts_X5_undo : GoodIn wsL_texts (wsV RL 47 RX5 yX5_undo wsX5_undo) := goodIn_app (goodIn_of _ (by decide +kernel)) ggL_texts_X5_undo
set_option maxRecDepth 20000 in
theorem ggL_texts_X5_append : GoodIn wsL_texts wsX5_append := goodIn_ca (goodIn_ca (goodIn_r _ [130, 131, 132, 133, 134, 44, 135, 136, 3, 137, 115, 116, 117, 43, 118, 104, 138, 139, 140, 141, 103, 106, 105, 142, 143, 144, 145, 146, 147, 148, 149, 150, 151, 152, 153, 154, 155, 513, 514, 515, 516, 517, 518, 536, 537, 538, 539] (by decide +kernel) (by decide +kernel)) (goodIn_sub (fun _ h => List.mem_cons_of_mem _ (List.mem_append_left _ (List.mem_append_left _ (List.mem_append_right _ h)))) (by decide +kernel))) (goodIn_sub (fun _ h => List.mem_cons_of_mem _ (List.mem_append_left _ (List.mem_append_right _ h))) (by decide +kernel))
set_option maxRecDepth 20000 in
theorem gL_texts_X5_append : GoodIn wsL_texts (wsV RL 38 RX5 yX5_append wsX5_append) := goodIn_app (goodIn_of _ (by decide +kernel)) ggL_texts_X5_append
theorem dL_texts_0 : decode cL_texts 0 = .ok (.new 10, 3) := by decide +kernel
theorem dL_texts_3 : decode cL_texts 3 = .ok (.dup, 1) := by decide +kernel
theorem dL_texts_4 : decode cL_texts 4 = .ok (.invokespecial 105, 3) := by decide +kernel
theorem dL_texts_7 : decode cL_texts 7 = .ok (.astore_n 0, 1) := by decide +kernel
theorem dL_texts_8 : decode cL_texts 8 = .ok (.aload_n 0, 1) := by decide +kernel
theorem dL_texts_9 : decode cL_texts 9 = .ok (.ldc2_w 145, 3) := by decide +kernel
theorem dL_texts_12 : decode cL_texts 12 = .ok (.lconst 0, 1) := by decide +kernel
theorem dL_texts_13 : decode cL_texts 13 = .ok (.iconst 4, 1) := by decide +kernel
theorem dL_texts_14 : decode cL_texts 14 = .ok (.invokestatic 147, 3) := by decide +kernel
theorem dL_texts_17 : decode cL_texts 17 = .ok (.ifCond .eq 99, 3) := by decide +kernel
theorem dL_texts_20 : decode cL_texts 20 = .ok (.aload_n 0, 1) := by decide +kernel
theorem dL_texts_21 : decode cL_texts 21 = .ok (.ldc2_w 151, 3) := by decide +kernel
theorem dL_texts_24 : decode cL_texts 24 = .ok (.lconst 0, 1) := by decide +kernel
theorem dL_texts_25 : decode cL_texts 25 = .ok (.iconst 3, 1) := by decide +kernel
theorem dL_texts_26 : decode cL_texts 26 = .ok (.invokestatic 147, 3) := by decide +kernel
theorem dL_texts_29 : decode cL_texts 29 = .ok (.ifCond .eq 87, 3) := by decide +kernel
theorem dL_texts_32 : decode cL_texts 32 = .ok (.aload_n 0, 1) := by decide +kernel
theorem dL_texts_33 : decode cL_texts 33 = .ok (.ldc2_w 153, 3) := by decide +kernel
theorem dL_texts_36 : decode cL_texts 36 = .ok (.lconst 0, 1) := by decide +kernel
theorem dL_texts_37 : decode cL_texts 37 = .ok (.iconst 2, 1) := by decide +kernel
theorem dL_texts_38 : decode cL_texts 38 = .ok (.invokestatic 147, 3) := by decide +kernel
theorem dL_texts_41 : decode cL_texts 41 = .ok (.ifCond .eq 75, 3) := by decide +kernel
theorem dL_texts_44 : decode cL_texts 44 = .ok (.aload_n 0, 1) := by decide +kernel
theorem dL_texts_45 : decode cL_texts 45 = .ok (.ldc2_w 155, 3) := by decide +kernel
theorem dL_texts_48 : decode cL_texts 48 = .ok (.lconst 0, 1) := by decide +kernel
theorem dL_texts_49 : decode cL_texts 49 = .ok (.iconst 1, 1) := by decide +kernel
theorem dL_texts_50 : decode cL_texts 50 = .ok (.invokestatic 147, 3) := by decide +kernel
theorem dL_texts_53 : decode cL_texts 53 = .ok (.ifCond .eq 63, 3) := by decide +kernel
theorem dL_texts_56 : decode cL_texts 56 = .ok (.aload_n 0, 1) := by decide +kernel
theorem dL_texts_57 : decode cL_texts 57 = .ok (.ldc2_w 157, 3) := by decide +kernel
theorem dL_texts_60 : decode cL_texts 60 = .ok (.lconst 0, 1) := by decide +kernel
theorem dL_texts_61 : decode cL_texts 61 = .ok (.iconst 1, 1) := by decide +kernel
theorem dL_texts_62 : decode cL_texts 62 = .ok (.invokestatic 147, 3) := by decide +kernel
theorem dL_texts_65 : decode cL_texts 65 = .ok (.ifCond .eq 51, 3) := by decide +kernel
theorem dL_texts_68 : decode cL_texts 68 = .ok (.aload_n 0, 1) := by decide +kernel
theorem dL_texts_69 : decode cL_texts 69 = .ok (.ldc2_w 159, 3) := by decide +kernel
theorem dL_texts_72 : decode cL_texts 72 = .ok (.lconst 0, 1) := by decide +kernel
theorem dL_texts_73 : decode cL_texts 73 = .ok (.iconst 1, 1) := by decide +kernel
theorem dL_texts_74 : decode cL_texts 74 = .ok (.invokestatic 147, 3) := by decide +kernel
theorem dL_texts_77 : decode cL_texts 77 = .ok (.ifCond .eq 39, 3) := by decide +kernel
theorem dL_texts_80 : decode cL_texts 80 = .ok (.aload_n 0, 1) := by decide +kernel
theorem dL_texts_81 : decode cL_texts 81 = .ok (.ldc2_w 161, 3) := by decide +kernel
theorem dL_texts_84 : decode cL_texts 84 = .ok (.lconst 0, 1) := by decide +kernel
theorem dL_texts_85 : decode cL_texts 85 = .ok (.iconst 1, 1) := by decide +kernel
theorem dL_texts_86 : decode cL_texts 86 = .ok (.invokestatic 147, 3) := by decide +kernel
theorem dL_texts_89 : decode cL_texts 89 = .ok (.ifCond .eq 27, 3) := by decide +kernel
