theorem dL_seen_132 : decode cL_seen 132 = .ok (.iload_n 3, 1) := by decide +kernel
theorem dL_seen_133 : decode cL_seen 133 = .ok (.iconst 2, 1) := by decide +kernel
theorem dL_seen_134 : decode cL_seen 134 = .ok (.irem, 1) := by decide +kernel
theorem dL_seen_135 : decode cL_seen 135 = .ok (.invokevirtual 56, 3) := by decide +kernel
theorem dL_seen_138 : decode cL_seen 138 = .ok (.i2l, 1) := by decide +kernel
theorem dL_seen_139 : decode cL_seen 139 = .ok (.ladd, 1) := by decide +kernel
theorem dL_seen_140 : decode cL_seen 140 = .ok (.lstore_n 1, 1) := by decide +kernel
theorem dL_seen_141 : decode cL_seen 141 = .ok (.iinc 3 1, 3) := by decide +kernel
theorem dL_seen_144 : decode cL_seen 144 = .ok (.goto (-52), 3) := by decide +kernel
theorem dL_seen_147 : decode cL_seen 147 = .ok (.iconst 0, 1) := by decide +kernel
theorem dL_seen_148 : decode cL_seen 148 = .ok (.istore_n 3, 1) := by decide +kernel
theorem dL_seen_149 : decode cL_seen 149 = .ok (.iload_n 3, 1) := by decide +kernel
theorem dL_seen_150 : decode cL_seen 150 = .ok (.iconst 3, 1) := by decide +kernel
theorem dL_seen_151 : decode cL_seen 151 = .ok (.if_icmp .ge 22, 3) := by decide +kernel
theorem dL_seen_154 : decode cL_seen 154 = .ok (.ldc2_w 83, 3) := by decide +kernel
theorem dL_seen_157 : decode cL_seen 157 = .ok (.lload_n 1, 1) := by decide +kernel
theorem dL_seen_158 : decode cL_seen 158 = .ok (.lmul, 1) := by decide +kernel
theorem dL_seen_159 : decode cL_seen 159 = .ok (.aload_n 0, 1) := by decide +kernel
theorem dL_seen_160 : decode cL_seen 160 = .ok (.iload_n 3, 1) := by decide +kernel
theorem dL_seen_161 : decode cL_seen 161 = .ok (.invokevirtual 66, 3) := by decide +kernel
theorem dL_seen_164 : decode cL_seen 164 = .ok (.i2l, 1) := by decide +kernel
theorem dL_seen_165 : decode cL_seen 165 = .ok (.ladd, 1) := by decide +kernel
theorem dL_seen_166 : decode cL_seen 166 = .ok (.lstore_n 1, 1) := by decide +kernel
theorem dL_seen_167 : decode cL_seen 167 = .ok (.iinc 3 1, 3) := by decide +kernel
theorem dL_seen_170 : decode cL_seen 170 = .ok (.goto (-21), 3) := by decide +kernel
theorem dL_seen_173 : decode cL_seen 173 = .ok (.ldc2_w 83, 3) := by decide +kernel
theorem dL_seen_176 : decode cL_seen 176 = .ok (.ldc2_w 83, 3) := by decide +kernel
theorem dL_seen_179 : decode cL_seen 179 = .ok (.lload_n 1, 1) := by decide +kernel
theorem dL_seen_180 : decode cL_seen 180 = .ok (.lmul, 1) := by decide +kernel
theorem dL_seen_181 : decode cL_seen 181 = .ok (.aload_n 0, 1) := by decide +kernel
theorem dL_seen_182 : decode cL_seen 182 = .ok (.invokevirtual 85, 3) := by decide +kernel
theorem dL_seen_185 : decode cL_seen 185 = .ok (.i2l, 1) := by decide +kernel
theorem dL_seen_186 : decode cL_seen 186 = .ok (.ladd, 1) := by decide +kernel
theorem dL_seen_187 : decode cL_seen 187 = .ok (.lmul, 1) := by decide +kernel
theorem dL_seen_188 : decode cL_seen 188 = .ok (.aload_n 0, 1) := by decide +kernel
theorem dL_seen_189 : decode cL_seen 189 = .ok (.invokevirtual 88, 3) := by decide +kernel
theorem dL_seen_192 : decode cL_seen 192 = .ok (.i2l, 1) := by decide +kernel
theorem dL_seen_193 : decode cL_seen 193 = .ok (.ladd, 1) := by decide +kernel
theorem dL_seen_194 : decode cL_seen 194 = .ok (.lreturn, 1) := by decide +kernel
set_option maxRecDepth 20000 in
theorem ggL_refusesAny_L_call_p0 : GoodIn wsL_refusesAny wsL_call_r1 := goodIn_r _ [5, 6, 7, 8, 9, 10, 11, 12, 13, 14, 15, 16, 17, 18, 19, 20, 21, 22, 23, 24, 25, 26, 27, 28] (by decide +kernel) (by decide +kernel)
set_option maxRecDepth 20000 in
theorem ggL_refusesAny_L_call_p1 : GoodIn wsL_refusesAny wsL_call_r2 := goodIn_r _ [29, 30, 31, 32, 33, 34, 35, 36, 37, 38, 39, 40, 41, 42, 43, 44, 45, 46, 47, 48, 49, 50, 51, 52] (by decide +kernel) (by decide +kernel)
set_option maxRecDepth 20000 in
theorem ggL_refusesAny_L_call_p2 : GoodIn wsL_refusesAny wsL_call_r3 := goodIn_r _ [53, 54, 55, 56, 57, 58, 59, 60, 61, 62, 63, 64, 65, 66, 67, 68, 69, 70, 71, 72, 73, 74, 75, 76] (by decide +kernel) (by decide +kernel)
set_option maxRecDepth 20000 in
theorem ggL_refusesAny_L_call_p3 : GoodIn wsL_refusesAny wsL_call_r4 := goodIn_r _ [77, 78, 79, 80, 81, 82, 83, 84, 85, 86, 87, 88, 89, 90, 91, 92, 93, 94, 95, 96, 97, 98, 99, 100] (by decide +kernel) (by decide +kernel)
set_option maxRecDepth 20000 in
theorem ggL_refusesAny_L_call_p4 : GoodIn wsL_refusesAny wsL_call_r5 := goodIn_r _ [101, 102, 103, 104, 105, 106, 107, 108, 109, 110, 111, 112, 113, 114, 115, 116, 117, 118, 119, 120, 121, 122, 123, 124] (by decide +kernel) (by decide +kernel)
set_option maxRecDepth 20000 in
theorem ggL_refusesAny_L_call_p5 : GoodIn wsL_refusesAny wsL_call_r6 := goodIn_r _ [125, 126, 127, 128, 129, 130, 131, 132, 133, 134, 135, 136, 137, 138, 139, 140, 141, 142, 143, 144, 145, 146, 147, 148] (by decide +kernel) (by decide +kernel)
set_option maxRecDepth 20000 in
theorem ggL_refusesAny_L_call_p6 : GoodIn wsL_refusesAny wsL_call_r7 := goodIn_r _ [149, 150, 151, 152, 153, 154, 155, 156, 157, 158, 159, 160, 161, 162, 163, 164, 165, 166, 167, 168, 169, 170, 171, 172] (by decide +kernel) (by decide +kernel)
set_option maxRecDepth 20000 in
theorem ggL_refusesAny_L_call_p7 : GoodIn wsL_refusesAny wsL_call_r8 := goodIn_r _ [173, 174, 175, 176, 177, 178, 179, 180, 181, 182, 183, 184, 185, 186, 187, 188, 189, 190, 191, 192, 193, 194, 195, 196] (by decide +kernel) (by decide +kernel)
set_option maxRecDepth 20000 in
theorem ggL_refusesAny_L_call_p8 : GoodIn wsL_refusesAny wsL_call_r9 := goodIn_r _ [197, 198, 199, 200, 201, 202, 203, 204, 205, 206, 207, 208, 209, 210, 211, 212, 213, 214, 215, 216, 217, 218, 219, 220] (by decide +kernel) (by decide +kernel)
set_option maxRecDepth 20000 in
theorem ggL_refusesAny_L_call_p9 : GoodIn wsL_refusesAny wsL_call_r10 := goodIn_r _ [221, 222, 223, 224, 225, 226, 227, 228, 229, 230, 231, 232, 233, 234, 235, 236, 237, 238, 239, 240, 241, 242, 243, 244] (by decide +kernel) (by decide +kernel)
set_option maxRecDepth 20000 in
theorem ggL_refusesAny_L_call_p10 : GoodIn wsL_refusesAny wsL_call_r11 := goodIn_r _ [245, 246, 247, 248, 249, 250, 251, 252, 253, 254, 255, 256, 257, 258, 259, 260, 261, 262, 263, 264, 265, 266, 267, 268] (by decide +kernel) (by decide +kernel)
set_option maxRecDepth 20000 in
theorem ggL_refusesAny_L_call_p11 : GoodIn wsL_refusesAny wsL_call_r12 := goodIn_r _ [269, 270, 271, 272, 273, 274, 275, 276, 277, 278, 279, 280, 281, 282, 283, 284, 285, 286, 287, 288, 289, 290, 291, 292] (by decide +kernel) (by decide +kernel)
set_option maxRecDepth 20000 in
theorem ggL_refusesAny_L_call_p12 : GoodIn wsL_refusesAny wsL_call_r13 := goodIn_r _ [293, 294, 295, 296, 297, 298, 299, 300, 301, 302, 303, 304, 305, 306, 307, 308, 309, 310, 311, 312, 313, 314, 315, 316] (by decide +kernel) (by decide +kernel)
set_option maxRecDepth 20000 in
theorem ggL_refusesAny_L_call_p13 : GoodIn wsL_refusesAny wsL_call_r14 := goodIn_r _ [317, 318, 319, 320, 321, 322, 323, 324, 325, 326, 327, 328, 329, 330, 331, 332, 333, 334, 335, 336, 337, 338, 339, 340] (by decide +kernel) (by decide +kernel)
set_option maxRecDepth 20000 in
theorem ggL_refusesAny_L_call_p14 : GoodIn wsL_refusesAny wsL_call_r15 := goodIn_r _ [341, 342, 343, 344, 345, 346, 347, 348, 349, 350, 351, 352, 353, 354, 355, 356, 357, 358, 359, 360, 361, 362, 363, 364] (by decide +kernel) (by decide +kernel)
set_option maxRecDepth 20000 in
theorem ggL_refusesAny_L_call_p15 : GoodIn wsL_refusesAny wsL_call_r16 := goodIn_r _ [365, 366, 367, 368, 369, 370, 371, 372, 373, 374, 375, 376, 377, 378, 379, 380, 381, 382, 383, 384, 385, 386, 387, 388] (by decide +kernel) (by decide +kernel)
set_option maxRecDepth 20000 in
theorem ggL_refusesAny_L_call_p16 : GoodIn wsL_refusesAny wsL_call_r17 := goodIn_r _ [389, 390, 391, 392, 393, 394, 395, 396, 397, 398, 399, 400, 401, 402, 403, 404, 405, 406, 407, 408, 409, 410, 411, 412] (by decide +kernel) (by decide +kernel)
set_option maxRecDepth 20000 in
theorem ggL_refusesAny_L_call_p17 : GoodIn wsL_refusesAny wsL_call_r18 := goodIn_r _ [413, 414, 415, 416, 417, 418, 419, 420, 421, 422, 423, 424, 425, 426, 427, 428, 429, 430, 431] (by decide +kernel) (by decide +kernel)
set_option maxRecDepth 20000 in
theorem ggL_refusesAny_L_call_p18 : GoodIn wsL_refusesAny wsX50 := goodIn_r _ [432, 433, 434, 435, 436, 437] (by decide +kernel) (by decide +kernel)
set_option maxRecDepth 20000 in
theorem ggL_refusesAny_L_call_p19 : GoodIn wsL_refusesAny wsX30 := goodIn_r _ [438, 439, 440, 441, 442, 443, 444, 445, 446, 447, 448, 449, 450, 451] (by decide +kernel) (by decide +kernel)
set_option maxRecDepth 20000 in
theorem ggL_refusesAny_L_call_p20 : GoodIn wsL_refusesAny wsX10 := goodIn_r _ [452, 453, 454, 455] (by decide +kernel) (by decide +kernel)
set_option maxRecDepth 20000 in
theorem ggL_refusesAny_L_call_p21 : GoodIn wsL_refusesAny wsX00 := goodIn_r _ [456, 457, 458] (by decide +kernel) (by decide +kernel)
set_option maxRecDepth 20000 in
theorem ggL_refusesAny_L_call_p22 : GoodIn wsL_refusesAny wsX40 := goodIn_r _ [459, 460, 461, 462] (by decide +kernel) (by decide +kernel)
set_option maxRecDepth 20000 in
theorem ggL_refusesAny_L_call_p23 : GoodIn wsL_refusesAny wsX20 := goodIn_r _ [463, 464, 465, 466] (by decide +kernel) (by decide +kernel)
set_option maxRecDepth 20000 in
theorem ggL_refusesAny_L_call : GoodIn wsL_refusesAny wsL_call := goodIn_ca (goodIn_ca (goodIn_ca (goodIn_app (goodIn_r [.codeWith yL_call cL_call 5 (some .int) [(0, 272, 273, 75), (0, 272, 278, 77), (0, 272, 283, 79)]] [4] (by decide +kernel) (by decide +kernel)) (goodIn_app (goodIn_app (goodIn_app (goodIn_app (goodIn_app (goodIn_app (goodIn_app ggL_refusesAny_L_call_p0 (goodIn_app ggL_refusesAny_L_call_p1 (goodIn_app ggL_refusesAny_L_call_p2 (goodIn_app ggL_refusesAny_L_call_p3 (goodIn_app ggL_refusesAny_L_call_p4 (goodIn_app ggL_refusesAny_L_call_p5 (goodIn_app ggL_refusesAny_L_call_p6 (goodIn_app ggL_refusesAny_L_call_p7 (goodIn_app ggL_refusesAny_L_call_p8 (goodIn_app ggL_refusesAny_L_call_p9 (goodIn_app ggL_refusesAny_L_call_p10 (goodIn_app ggL_refusesAny_L_call_p11 (goodIn_app ggL_refusesAny_L_call_p12 (goodIn_app ggL_refusesAny_L_call_p13 (goodIn_app ggL_refusesAny_L_call_p14 (goodIn_app ggL_refusesAny_L_call_p15 (goodIn_app ggL_refusesAny_L_call_p16 ggL_refusesAny_L_call_p17))))))))))))))))) ggL_refusesAny_L_call_p18) ggL_refusesAny_L_call_p19) ggL_refusesAny_L_call_p20) ggL_refusesAny_L_call_p21) ggL_refusesAny_L_call_p22) ggL_refusesAny_L_call_p23)) (goodIn_sub (fun _ h => List.mem_cons_of_mem _ (List.mem_append_left _ (List.mem_append_left _ (List.mem_append_right _ h)))) (by decide +kernel))) (goodIn_sub (fun _ h => List.mem_cons_of_mem _ (List.mem_append_left _ (List.mem_append_right _ h))) (by decide +kernel))) (goodIn_sub (fun _ h => List.mem_cons_of_mem _ (List.mem_append_right _ h)) (by decide +kernel))
set_option maxRecDepth 20000 in
theorem gL_refusesAny_L_call : GoodIn wsL_refusesAny (va_wsS RL 91 yL_call wsL_call) := goodIn_app (goodIn_of _ (by decide +kernel)) ggL_refusesAny_L_call
theorem dL_refusesAny_0 : decode cL_refusesAny 0 = .ok (.iload_n 1, 1) := by decide +kernel
theorem dL_refusesAny_1 : decode cL_refusesAny 1 = .ok (.ifCond .ne 7, 3) := by decide +kernel
theorem dL_refusesAny_4 : decode cL_refusesAny 4 = .ok (.iconst (-1), 1) := by decide +kernel
theorem dL_refusesAny_5 : decode cL_refusesAny 5 = .ok (.goto 4, 3) := by decide +kernel
theorem dL_refusesAny_8 : decode cL_refusesAny 8 = .ok (.iconst 2, 1) := by decide +kernel
theorem dL_refusesAny_9 : decode cL_refusesAny 9 = .ok (.istore_n 2, 1) := by decide +kernel
theorem dL_refusesAny_10 : decode cL_refusesAny 10 = .ok (.aload_n 0, 1) := by decide +kernel
theorem dL_refusesAny_11 : decode cL_refusesAny 11 = .ok (.iconst 0, 1) := by decide +kernel
theorem dL_refusesAny_12 : decode cL_refusesAny 12 = .ok (.iload_n 2, 1) := by decide +kernel
theorem dL_refusesAny_13 : decode cL_refusesAny 13 = .ok (.bipush 99, 2) := by decide +kernel
theorem dL_refusesAny_15 : decode cL_refusesAny 15 = .ok (.invokestatic 91, 3) := by decide +kernel
theorem dL_refusesAny_18 : decode cL_refusesAny 18 = .ok (.bipush (-11), 2) := by decide +kernel
theorem dL_refusesAny_20 : decode cL_refusesAny 20 = .ok (.if_icmp .ne 250, 3) := by decide +kernel
theorem dL_refusesAny_23 : decode cL_refusesAny 23 = .ok (.aload_n 0, 1) := by decide +kernel
theorem dL_refusesAny_24 : decode cL_refusesAny 24 = .ok (.iconst 0, 1) := by decide +kernel
theorem dL_refusesAny_25 : decode cL_refusesAny 25 = .ok (.iconst 0, 1) := by decide +kernel
theorem dL_refusesAny_26 : decode cL_refusesAny 26 = .ok (.iload_n 1, 1) := by decide +kernel
theorem dL_refusesAny_27 : decode cL_refusesAny 27 = .ok (.ifCond .ne 7, 3) := by decide +kernel
theorem dL_refusesAny_30 : decode cL_refusesAny 30 = .ok (.iconst 0, 1) := by decide +kernel
theorem dL_refusesAny_31 : decode cL_refusesAny 31 = .ok (.goto 5, 3) := by decide +kernel
theorem dL_refusesAny_34 : decode cL_refusesAny 34 = .ok (.bipush 21, 2) := by decide +kernel
theorem dL_refusesAny_36 : decode cL_refusesAny 36 = .ok (.invokestatic 91, 3) := by decide +kernel
theorem dL_refusesAny_39 : decode cL_refusesAny 39 = .ok (.bipush (-12), 2) := by decide +kernel
theorem dL_refusesAny_41 : decode cL_refusesAny 41 = .ok (.if_icmp .ne 229, 3) := by decide +kernel
theorem dL_refusesAny_44 : decode cL_refusesAny 44 = .ok (.aload_n 0, 1) := by decide +kernel
theorem dL_refusesAny_45 : decode cL_refusesAny 45 = .ok (.iconst 1, 1) := by decide +kernel
theorem dL_refusesAny_46 : decode cL_refusesAny 46 = .ok (.iload_n 2, 1) := by decide +kernel
theorem dL_refusesAny_47 : decode cL_refusesAny 47 = .ok (.iconst 0, 1) := by decide +kernel
