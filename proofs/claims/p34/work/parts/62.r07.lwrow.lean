theorem dL_refusesAny_421 : decode cL_refusesAny 421 = .ok (.if_icmp .ne 63, 3) := by decide +kernel
theorem dL_refusesAny_424 : decode cL_refusesAny 424 = .ok (.aload_n 0, 1) := by decide +kernel
theorem dL_refusesAny_425 : decode cL_refusesAny 425 = .ok (.bipush 17, 2) := by decide +kernel
theorem dL_refusesAny_427 : decode cL_refusesAny 427 = .ok (.iload_n 1, 1) := by decide +kernel
theorem dL_refusesAny_428 : decode cL_refusesAny 428 = .ok (.ifCond .ne 7, 3) := by decide +kernel
theorem dL_refusesAny_431 : decode cL_refusesAny 431 = .ok (.iconst (-1), 1) := by decide +kernel
theorem dL_refusesAny_432 : decode cL_refusesAny 432 = .ok (.goto 4, 3) := by decide +kernel
theorem dL_refusesAny_435 : decode cL_refusesAny 435 = .ok (.iconst 3, 1) := by decide +kernel
theorem dL_refusesAny_436 : decode cL_refusesAny 436 = .ok (.iconst 0, 1) := by decide +kernel
theorem dL_refusesAny_437 : decode cL_refusesAny 437 = .ok (.invokestatic 91, 3) := by decide +kernel
theorem dL_refusesAny_440 : decode cL_refusesAny 440 = .ok (.bipush (-11), 2) := by decide +kernel
theorem dL_refusesAny_442 : decode cL_refusesAny 442 = .ok (.if_icmp .ne 42, 3) := by decide +kernel
theorem dL_refusesAny_445 : decode cL_refusesAny 445 = .ok (.aload_n 0, 1) := by decide +kernel
theorem dL_refusesAny_446 : decode cL_refusesAny 446 = .ok (.bipush 18, 2) := by decide +kernel
theorem dL_refusesAny_448 : decode cL_refusesAny 448 = .ok (.iload_n 2, 1) := by decide +kernel
theorem dL_refusesAny_449 : decode cL_refusesAny 449 = .ok (.iconst 0, 1) := by decide +kernel
theorem dL_refusesAny_450 : decode cL_refusesAny 450 = .ok (.invokestatic 91, 3) := by decide +kernel
theorem dL_refusesAny_453 : decode cL_refusesAny 453 = .ok (.bipush (-11), 2) := by decide +kernel
theorem dL_refusesAny_455 : decode cL_refusesAny 455 = .ok (.if_icmp .ne 29, 3) := by decide +kernel
theorem dL_refusesAny_458 : decode cL_refusesAny 458 = .ok (.aload_n 0, 1) := by decide +kernel
theorem dL_refusesAny_459 : decode cL_refusesAny 459 = .ok (.bipush 19, 2) := by decide +kernel
theorem dL_refusesAny_461 : decode cL_refusesAny 461 = .ok (.iload_n 1, 1) := by decide +kernel
theorem dL_refusesAny_462 : decode cL_refusesAny 462 = .ok (.ifCond .ne 7, 3) := by decide +kernel
theorem dL_refusesAny_465 : decode cL_refusesAny 465 = .ok (.iconst (-1), 1) := by decide +kernel
theorem dL_refusesAny_466 : decode cL_refusesAny 466 = .ok (.goto 5, 3) := by decide +kernel
theorem dL_refusesAny_469 : decode cL_refusesAny 469 = .ok (.bipush 9, 2) := by decide +kernel
theorem dL_refusesAny_471 : decode cL_refusesAny 471 = .ok (.iconst 0, 1) := by decide +kernel
theorem dL_refusesAny_472 : decode cL_refusesAny 472 = .ok (.invokestatic 91, 3) := by decide +kernel
theorem dL_refusesAny_475 : decode cL_refusesAny 475 = .ok (.bipush (-12), 2) := by decide +kernel
theorem dL_refusesAny_477 : decode cL_refusesAny 477 = .ok (.if_icmp .ne 7, 3) := by decide +kernel
theorem dL_refusesAny_480 : decode cL_refusesAny 480 = .ok (.iconst 1, 1) := by decide +kernel
theorem dL_refusesAny_481 : decode cL_refusesAny 481 = .ok (.goto 4, 3) := by decide +kernel
theorem dL_refusesAny_484 : decode cL_refusesAny 484 = .ok (.iconst 0, 1) := by decide +kernel
theorem dL_refusesAny_485 : decode cL_refusesAny 485 = .ok (.ireturn, 1) := by decide +kernel
set_option maxRecDepth 20000 in
theorem ggL_refused_X5_digest_p0 : GoodIn wsL_refused wsX5_digest_r1 := goodIn_r _ [6, 7, 8, 9, 10, 4, 11, 12, 13, 14, 15, 16, 17, 18, 19, 20, 21, 22, 23, 24, 25, 26, 27, 28] (by decide +kernel) (by decide +kernel)
set_option maxRecDepth 20000 in
theorem ggL_refused_X5_digest_p1 : GoodIn wsL_refused wsX5_digest_r2 := goodIn_r _ [29, 30, 31, 32, 33, 34, 35, 36, 37, 38, 39, 40, 41, 42, 43, 44, 45, 46, 47, 48, 49, 50, 51, 52] (by decide +kernel) (by decide +kernel)
set_option maxRecDepth 20000 in
theorem ggL_refused_X5_digest_p2 : GoodIn wsL_refused wsX5_digest_r3 := goodIn_r _ [53, 54, 55, 56, 57, 58, 59, 60, 61, 62, 63, 64, 65, 66, 67, 68, 69, 70, 71, 72, 73, 74, 75, 76] (by decide +kernel) (by decide +kernel)
set_option maxRecDepth 20000 in
theorem ggL_refused_X5_digest_p3 : GoodIn wsL_refused wsX5_digest_r4 := goodIn_r _ [77, 78, 79, 80, 81, 82, 83, 84, 85, 86, 87, 88, 89, 90, 91, 92, 93, 94, 95, 96, 97, 98, 99, 100] (by decide +kernel) (by decide +kernel)
set_option maxRecDepth 20000 in
theorem ggL_refused_X5_digest_p4 : GoodIn wsL_refused wsX5_digest_r5 := goodIn_r _ [101, 102, 103, 104, 105, 106, 107, 108, 109, 110, 111, 112, 113, 114, 115, 116, 117, 118, 119, 120, 121, 122, 123, 124] (by decide +kernel) (by decide +kernel)
set_option maxRecDepth 20000 in
theorem ggL_refused_X5_digest_p5 : GoodIn wsL_refused wsX5_digest_r6 := goodIn_r _ [125, 126, 127, 128, 129, 130, 131, 132, 133, 134, 135, 136, 137, 138, 139, 140, 141, 142, 143, 144, 145, 146, 147, 148] (by decide +kernel) (by decide +kernel)
set_option maxRecDepth 20000 in
theorem ggL_refused_X5_digest_p6 : GoodIn wsL_refused wsX5_digest_r7 := goodIn_r _ [149, 150, 151, 152, 153, 154, 155, 156, 157, 158, 159, 160, 161, 162, 163, 164, 165, 166, 167, 168, 169, 170, 171, 172] (by decide +kernel) (by decide +kernel)
set_option maxRecDepth 20000 in
theorem ggL_refused_X5_digest_p7 : GoodIn wsL_refused wsX5_digest_r8 := goodIn_r _ [173, 174, 175, 176, 177, 178, 179, 180, 181, 182, 183, 184, 185, 186, 187, 188, 189, 190, 191, 192, 193, 194, 195, 196] (by decide +kernel) (by decide +kernel)
set_option maxRecDepth 20000 in
theorem ggL_refused_X5_digest_p8 : GoodIn wsL_refused wsX5_digest_r9 := goodIn_r _ [197, 198, 199, 200, 201, 202, 203, 204, 205, 206, 207, 208, 209, 210, 211, 212, 213, 214, 215, 216, 217, 218, 219, 220] (by decide +kernel) (by decide +kernel)
set_option maxRecDepth 20000 in
theorem ggL_refused_X5_digest_p9 : GoodIn wsL_refused wsX5_digest_r10 := goodIn_r _ [221, 222, 223, 224, 225, 226, 227, 228, 229, 230, 231, 232, 233, 234, 235, 236, 237, 238, 239, 240, 241, 242, 243, 244] (by decide +kernel) (by decide +kernel)
set_option maxRecDepth 20000 in
theorem ggL_refused_X5_digest_p10 : GoodIn wsL_refused wsX5_digest_r11 := goodIn_r _ [245, 246, 247, 248, 249, 250, 251, 252, 253, 254, 255, 256, 257, 258, 259, 260, 261, 262, 263, 264, 265, 266, 267, 268] (by decide +kernel) (by decide +kernel)
set_option maxRecDepth 20000 in
theorem ggL_refused_X5_digest_p11 : GoodIn wsL_refused wsX5_digest_r12 := goodIn_r _ [269, 270, 271, 272, 273, 274, 275, 276, 277, 278, 279, 280, 281, 282, 283, 284, 285, 286, 287, 288, 289, 290, 291, 292] (by decide +kernel) (by decide +kernel)
set_option maxRecDepth 20000 in
theorem ggL_refused_X5_digest_p12 : GoodIn wsL_refused wsX5_digest_r13 := goodIn_r _ [293, 294, 295, 296, 297, 298, 299, 300, 301, 302, 303, 304, 305, 306, 307, 308, 309, 310, 311, 312, 313, 314, 315, 316] (by decide +kernel) (by decide +kernel)
set_option maxRecDepth 20000 in
theorem ggL_refused_X5_digest_p13 : GoodIn wsL_refused wsX5_digest_r14 := goodIn_r _ [317, 318, 319, 320, 321, 322, 323, 324, 325, 326, 327, 328, 329, 330, 331, 332, 333, 334, 335, 336, 337, 338, 339, 340] (by decide +kernel) (by decide +kernel)
set_option maxRecDepth 20000 in
theorem ggL_refused_X5_digest_p14 : GoodIn wsL_refused wsX5_digest_r15 := goodIn_r _ [341, 342, 343, 344, 345, 346, 347, 348, 349, 350, 351, 352, 353, 354, 355, 356, 357, 358, 359] (by decide +kernel) (by decide +kernel)
set_option maxRecDepth 20000 in
theorem ggL_refused_X5_digest_p15 : GoodIn wsL_refused wsX50 := goodIn_r _ [519, 520, 521, 522, 523, 524] (by decide +kernel) (by decide +kernel)
set_option maxRecDepth 20000 in
theorem ggL_refused_X5_digest_p16 : GoodIn wsL_refused wsX30 := goodIn_r _ [525, 526, 527, 528, 529, 530, 531, 532, 533, 534, 535, 536, 537, 538] (by decide +kernel) (by decide +kernel)
set_option maxRecDepth 20000 in
theorem ggL_refused_X5_digest_p17 : GoodIn wsL_refused wsX40 := goodIn_r _ [539, 540, 541, 542] (by decide +kernel) (by decide +kernel)
set_option maxRecDepth 20000 in
theorem ggL_refused_X5_digest_p18 : GoodIn wsL_refused wsX10 := goodIn_r _ [543, 544, 545, 546] (by decide +kernel) (by decide +kernel)
set_option maxRecDepth 20000 in
theorem ggL_refused_X5_digest_p19 : GoodIn wsL_refused wsX00 := goodIn_r _ [547, 548, 549] (by decide +kernel) (by decide +kernel)
set_option maxRecDepth 20000 in
theorem ggL_refused_X5_digest_p20 : GoodIn wsL_refused wsX20 := goodIn_r _ [550, 551, 552, 553] (by decide +kernel) (by decide +kernel)
set_option maxRecDepth 20000 in
theorem ggL_refused_X5_digest : GoodIn wsL_refused wsX5_digest := goodIn_ca (goodIn_ca (goodIn_app (goodIn_r [.code yX5_digest cX5_digest 3 (some .long)] [5] (by decide +kernel) (by decide +kernel)) (goodIn_app (goodIn_app (goodIn_app (goodIn_app (goodIn_app (goodIn_app (goodIn_app ggL_refused_X5_digest_p0 (goodIn_app ggL_refused_X5_digest_p1 (goodIn_app ggL_refused_X5_digest_p2 (goodIn_app ggL_refused_X5_digest_p3 (goodIn_app ggL_refused_X5_digest_p4 (goodIn_app ggL_refused_X5_digest_p5 (goodIn_app ggL_refused_X5_digest_p6 (goodIn_app ggL_refused_X5_digest_p7 (goodIn_app ggL_refused_X5_digest_p8 (goodIn_app ggL_refused_X5_digest_p9 (goodIn_app ggL_refused_X5_digest_p10 (goodIn_app ggL_refused_X5_digest_p11 (goodIn_app ggL_refused_X5_digest_p12 (goodIn_app ggL_refused_X5_digest_p13 ggL_refused_X5_digest_p14)))))))))))))) ggL_refused_X5_digest_p15) ggL_refused_X5_digest_p16) ggL_refused_X5_digest_p17) ggL_refused_X5_digest_p18) ggL_refused_X5_digest_p19) ggL_refused_X5_digest_p20)) (goodIn_sub (fun _ h => List.mem_cons_of_mem _ (List.mem_append_left _ (List.mem_append_left _ (List.mem_append_right _ h)))) (by decide +kernel))) (goodIn_sub (fun _ h => List.mem_cons_of_mem _ (List.mem_append_left _ (List.mem_append_right _ h))) (by decide +kernel))
set_option maxRecDepth 20000 in
theorem gL_refused_X5_digest : GoodIn wsL_refused (wsV RL 97 RX5 yX5_digest wsX5_digest) := goodIn_app (goodIn_of _ (by decide +kernel)) ggL_refused_X5_digest
set_option maxRecDepth 20000 in
theorem ggL_refused_L_refusesAny_p0 : GoodIn wsL_refused wsL_refusesAny_r1 := goodIn_r _ [364, 365, 362, 366, 367, 368, 369, 370, 371, 372, 4, 373, 79, 80, 16, 17, 374, 375, 18, 30, 82, 83, 84, 376] (by decide +kernel) (by decide +kernel)
set_option maxRecDepth 20000 in
theorem ggL_refused_L_refusesAny_p1 : GoodIn wsL_refused wsL_refusesAny_r2 := goodIn_r _ [377, 378, 34, 379, 204, 145, 146, 147, 148, 149, 206, 207, 208, 41, 209, 43, 155, 380, 381, 382, 64, 383, 66, 384] (by decide +kernel) (by decide +kernel)
set_option maxRecDepth 20000 in
theorem ggL_refused_L_refusesAny_p2 : GoodIn wsL_refused wsL_refusesAny_r3 := goodIn_r _ [385, 386, 387, 388, 389, 390, 127, 128, 129, 391, 211, 212, 213, 124, 108, 36, 37, 107, 125, 203, 214, 215, 216, 217] (by decide +kernel) (by decide +kernel)
set_option maxRecDepth 20000 in
theorem ggL_refused_L_refusesAny_p3 : GoodIn wsL_refused wsL_refusesAny_r4 := goodIn_r _ [218, 219, 220, 221, 137, 59, 138, 222, 223, 224, 225, 226, 227, 228, 229, 164, 52, 230, 231, 232, 100, 233, 102, 139] (by decide +kernel) (by decide +kernel)
set_option maxRecDepth 20000 in
theorem ggL_refused_L_refusesAny_p4 : GoodIn wsL_refused wsL_refusesAny_r5 := goodIn_r _ [234, 235, 392, 393, 394, 395, 247, 248, 249, 250, 251, 245, 246, 144, 150, 39, 40, 42, 396, 397, 398, 399, 199, 200] (by decide +kernel) (by decide +kernel)
set_option maxRecDepth 20000 in
theorem ggL_refused_L_refusesAny_p5 : GoodIn wsL_refused wsL_refusesAny_r6 := goodIn_r _ [201, 202, 38, 205, 157, 158, 159, 236, 237, 238, 239, 240, 152, 153, 154, 86, 87, 241, 242, 243, 244, 400, 401, 402] (by decide +kernel) (by decide +kernel)
set_option maxRecDepth 20000 in
theorem ggL_refused_L_refusesAny_p6 : GoodIn wsL_refused wsL_refusesAny_r7 := goodIn_r _ [403, 404, 405, 406, 407, 408, 409, 410, 411, 412, 32, 33, 35, 413, 414, 415, 416, 417, 418, 419, 420, 173, 174, 175] (by decide +kernel) (by decide +kernel)
set_option maxRecDepth 20000 in
theorem ggL_refused_L_refusesAny_p7 : GoodIn wsL_refused wsL_refusesAny_r8 := goodIn_r _ [176, 177, 131, 54, 55, 56, 57, 58, 60, 48, 49, 50, 51, 120, 121, 122, 123, 126, 130, 45, 46, 47, 178, 179] (by decide +kernel) (by decide +kernel)
set_option maxRecDepth 20000 in
theorem ggL_refused_L_refusesAny_p8 : GoodIn wsL_refused wsL_refusesAny_r9 := goodIn_r _ [180, 181, 182, 133, 134, 135, 136, 113, 114, 115, 183, 110, 111, 112, 292, 293, 294, 295, 296, 297, 298, 299, 300, 301] (by decide +kernel) (by decide +kernel)
set_option maxRecDepth 20000 in
theorem ggL_refused_L_refusesAny_p9 : GoodIn wsL_refused wsL_refusesAny_r10 := goodIn_r _ [302, 303, 421, 422, 423, 424, 19, 425, 426, 427, 428, 429, 21, 24, 308, 309, 310, 311, 312, 313, 314, 315, 316, 317] (by decide +kernel) (by decide +kernel)
set_option maxRecDepth 20000 in
theorem ggL_refused_L_refusesAny_p10 : GoodIn wsL_refused wsL_refusesAny_r11 := goodIn_r _ [318, 319, 320, 430, 431, 432, 433, 92, 85, 434, 435, 436, 437, 438, 439, 440, 81, 441, 442, 443, 444, 348, 349, 350] (by decide +kernel) (by decide +kernel)
set_option maxRecDepth 20000 in
theorem ggL_refused_L_refusesAny_p11 : GoodIn wsL_refused wsL_refusesAny_r12 := goodIn_r _ [351, 352, 353, 354, 445, 446, 447, 448, 359, 449, 450, 451, 452, 453, 454, 455, 456, 457, 458, 459, 460, 461, 462, 463] (by decide +kernel) (by decide +kernel)
