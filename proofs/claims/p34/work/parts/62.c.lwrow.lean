set_option maxRecDepth 20000 in
theorem gL_limits_X5_waiting : GoodIn wsL_limits (wsV RL 53 RX5 yX5_waiting wsX5_waiting) := goodIn_app (goodIn_of _ (by decide +kernel)) ggL_limits_X5_waiting
set_option maxRecDepth 20000 in
theorem ggL_limits_X5_deck : GoodIn wsL_limits wsX5_deck := goodIn_ca (goodIn_ca (goodIn_r _ [461, 90, 91, 92, 93, 13, 97, 98, 3, 99, 462, 356, 357, 12, 358, 37, 38, 457, 364, 365, 34, 366, 59, 57, 101, 102, 463, 464, 465, 466, 58, 572, 573, 574, 575, 576, 577, 578, 579, 580, 581, 582, 583, 584, 585, 586, 587, 588, 589, 590, 591, 599, 600, 601, 602] (by decide +kernel) (by decide +kernel)) (goodIn_sub (fun _ h => List.mem_cons_of_mem _ (List.mem_append_left _ (List.mem_append_left _ (List.mem_append_right _ h)))) (by decide +kernel))) (goodIn_sub (fun _ h => List.mem_cons_of_mem _ (List.mem_append_left _ (List.mem_append_right _ h))) (by decide +kernel))
set_option maxRecDepth 20000 in
theorem gL_limits_X5_deck : GoodIn wsL_limits (wsV RL 56 RX5 yX5_deck wsX5_deck) := goodIn_app (goodIn_of _ (by decide +kernel)) ggL_limits_X5_deck
set_option maxRecDepth 20000 in
theorem ggL_limits_L_refused : GoodIn wsL_limits wsL_refused := goodIn_ca (goodIn_ca (goodIn_ca (goodIn_r _ [505, 506, 507, 508, 3, 509, 510, 24, 511, 512, 513, 514, 515, 288, 289, 290, 92, 93, 13, 186, 291, 204, 292, 293, 282, 294, 295, 296, 297, 298, 19, 299, 300, 301, 12, 302, 37, 38, 196, 197, 198, 34, 199, 59, 303, 156, 157, 158, 159, 160, 161, 162, 60, 304, 164, 165, 166, 167, 168, 47, 169, 305, 306, 307, 18, 308, 76, 516, 517, 518, 519, 520, 521, 522, 523, 524, 472, 473, 474, 90, 91, 96, 97, 98, 99, 100, 101, 102, 525, 468, 469, 470, 141, 526, 201, 202, 203, 205, 206, 207, 41, 208, 65, 209, 210, 211, 212, 42, 31, 213, 214, 215, 216, 174, 175, 176, 217, 218, 219, 220, 150, 151, 152, 153, 30, 119, 154, 112, 113, 114, 155, 163, 221, 178, 179, 180, 181, 46, 48, 66, 527, 528, 529, 530, 338, 322, 323, 324, 35, 36, 339, 457, 364, 365, 366, 57, 462, 356, 357, 358, 463, 464, 465, 466, 58, 531, 532, 533, 534, 535, 223, 224, 225, 226, 227, 228, 229, 230, 231, 232, 233, 234, 177, 235, 536, 237, 238, 239, 240, 241, 242, 243, 244, 245, 537, 476, 477, 478, 14, 351, 352, 353, 354, 120, 321, 355, 325, 326, 327, 328, 187, 116, 117, 118, 121, 122, 123, 124, 125, 43, 44, 45, 49, 50, 51, 52, 126, 127, 128, 129, 130, 131, 132, 133, 67, 68, 359, 360, 361, 362, 363, 367, 368, 369, 370, 135, 136, 333, 334, 335, 336, 337, 146, 147, 148, 149, 170, 171, 172, 173, 538, 143, 144, 145, 539, 480, 481, 482, 483, 484, 485, 486, 487, 488, 489, 490, 491, 492, 493, 494, 495, 496, 497, 498, 499, 500, 501, 502, 540, 265, 266, 267, 268, 269, 270, 271, 272, 273, 274, 275, 263, 193, 194, 195, 541, 247, 248, 249, 250, 251, 252, 253, 254, 255, 256, 257, 258, 259, 260, 261, 262, 542, 543, 544, 545, 546, 547, 548, 549, 550, 551, 552, 553, 554, 555, 556, 557, 558, 559, 560, 561, 562, 563, 564, 565, 566, 567, 568, 23, 392, 393, 394, 22, 395, 83, 440, 429, 430, 431, 82, 569, 570, 342, 571, 340, 341, 343, 344, 345, 346, 313, 314, 315, 316, 280, 281, 317, 318, 319, 320, 103, 104, 105, 106, 75, 107, 108, 109, 110, 74, 111, 115, 329, 330, 331, 332, 347, 348, 349, 350, 371, 372, 373, 374, 375, 376, 377, 378, 379, 380, 381, 382, 383, 384, 385, 386, 387, 309, 310, 311, 312, 188, 189, 190, 191, 192, 276, 277, 278, 279, 137, 138, 139, 140, 134, 86, 87, 88, 89, 94, 95, 388, 389, 390, 391, 396, 397, 398, 399, 85, 84, 400, 401, 402, 403, 404, 405, 406, 407, 408, 409, 410, 411, 412, 413, 414, 415, 416, 417, 418, 419, 420, 421, 422, 423, 424, 425, 426, 427, 428, 432, 433, 434, 435, 436, 437, 438, 439, 441, 442, 443, 444, 283, 284, 285, 286, 15, 445, 446, 447, 448, 449, 450, 451, 452, 200, 453, 454, 455, 456, 458, 459, 460, 461, 287, 467, 471, 475, 479, 572, 573, 574, 575, 576, 577, 578, 579, 580, 581, 582, 583, 584, 585, 586, 587, 588, 589, 590, 591, 603, 604, 605, 606, 599, 600, 601, 602, 592, 593, 594, 595, 596, 597, 598] (by decide +kernel) (by decide +kernel)) (goodIn_sub (fun _ h => List.mem_cons_of_mem _ (List.mem_append_left _ (List.mem_append_right _ h))) (by decide +kernel))) (goodIn_sub (fun _ h => List.mem_cons_of_mem _ (List.mem_append_left _ (List.mem_append_left _ (List.mem_append_right _ h)))) (by decide +kernel))) (goodIn_sub (fun _ h => List.mem_cons_of_mem _ (List.mem_append_right _ h)) (by decide +kernel))
set_option maxRecDepth 20000 in
theorem gL_limits_L_refused : GoodIn wsL_limits (va_wsS RL 123 yL_refused wsL_refused) := goodIn_app (goodIn_of _ (by decide +kernel)) ggL_limits_L_refused
theorem dL_limits_0 : decode cL_limits 0 = .ok (.new 10, 3) := by decide +kernel
theorem dL_limits_3 : decode cL_limits 3 = .ok (.dup, 1) := by decide +kernel
theorem dL_limits_4 : decode cL_limits 4 = .ok (.invokespecial 105, 3) := by decide +kernel
theorem dL_limits_7 : decode cL_limits 7 = .ok (.astore_n 0, 1) := by decide +kernel
theorem dL_limits_8 : decode cL_limits 8 = .ok (.aload_n 0, 1) := by decide +kernel
theorem dL_limits_9 : decode cL_limits 9 = .ok (.iconst 0, 1) := by decide +kernel
theorem dL_limits_10 : decode cL_limits 10 = .ok (.bipush 50, 2) := by decide +kernel
theorem dL_limits_12 : decode cL_limits 12 = .ok (.invokevirtual 35, 3) := by decide +kernel
theorem dL_limits_15 : decode cL_limits 15 = .ok (.sipush 300, 3) := by decide +kernel
theorem dL_limits_18 : decode cL_limits 18 = .ok (.if_icmp .ne 148, 3) := by decide +kernel
theorem dL_limits_21 : decode cL_limits 21 = .ok (.aload_n 0, 1) := by decide +kernel
theorem dL_limits_22 : decode cL_limits 22 = .ok (.iconst 3, 1) := by decide +kernel
theorem dL_limits_23 : decode cL_limits 23 = .ok (.bipush 40, 2) := by decide +kernel
theorem dL_limits_25 : decode cL_limits 25 = .ok (.invokevirtual 32, 3) := by decide +kernel
theorem dL_limits_28 : decode cL_limits 28 = .ok (.bipush 10, 2) := by decide +kernel
theorem dL_limits_30 : decode cL_limits 30 = .ok (.if_icmp .ne 136, 3) := by decide +kernel
theorem dL_limits_33 : decode cL_limits 33 = .ok (.aload_n 0, 1) := by decide +kernel
theorem dL_limits_34 : decode cL_limits 34 = .ok (.iconst 5, 1) := by decide +kernel
theorem dL_limits_35 : decode cL_limits 35 = .ok (.iconst 0, 1) := by decide +kernel
theorem dL_limits_36 : decode cL_limits 36 = .ok (.invokevirtual 32, 3) := by decide +kernel
theorem dL_limits_39 : decode cL_limits 39 = .ok (.bipush 10, 2) := by decide +kernel
theorem dL_limits_41 : decode cL_limits 41 = .ok (.if_icmp .ne 125, 3) := by decide +kernel
theorem dL_limits_44 : decode cL_limits 44 = .ok (.aload_n 0, 1) := by decide +kernel
theorem dL_limits_45 : decode cL_limits 45 = .ok (.invokevirtual 112, 3) := by decide +kernel
theorem dL_limits_48 : decode cL_limits 48 = .ok (.iconst 5, 1) := by decide +kernel
theorem dL_limits_49 : decode cL_limits 49 = .ok (.if_icmp .ne 117, 3) := by decide +kernel
theorem dL_limits_52 : decode cL_limits 52 = .ok (.aload_n 0, 1) := by decide +kernel
theorem dL_limits_53 : decode cL_limits 53 = .ok (.invokevirtual 130, 3) := by decide +kernel
theorem dL_limits_56 : decode cL_limits 56 = .ok (.ifCond .ne 110, 3) := by decide +kernel
theorem dL_limits_59 : decode cL_limits 59 = .ok (.aload_n 0, 1) := by decide +kernel
theorem dL_limits_60 : decode cL_limits 60 = .ok (.iconst 3, 1) := by decide +kernel
theorem dL_limits_61 : decode cL_limits 61 = .ok (.invokevirtual 26, 3) := by decide +kernel
theorem dL_limits_64 : decode cL_limits 64 = .ok (.iconst 3, 1) := by decide +kernel
theorem dL_limits_65 : decode cL_limits 65 = .ok (.if_icmp .ne 101, 3) := by decide +kernel
theorem dL_limits_68 : decode cL_limits 68 = .ok (.aload_n 0, 1) := by decide +kernel
theorem dL_limits_69 : decode cL_limits 69 = .ok (.bipush 9, 2) := by decide +kernel
theorem dL_limits_71 : decode cL_limits 71 = .ok (.iconst 2, 1) := by decide +kernel
theorem dL_limits_72 : decode cL_limits 72 = .ok (.invokevirtual 50, 3) := by decide +kernel
theorem dL_limits_75 : decode cL_limits 75 = .ok (.bipush 80, 2) := by decide +kernel
theorem dL_limits_77 : decode cL_limits 77 = .ok (.if_icmp .ne 89, 3) := by decide +kernel
theorem dL_limits_80 : decode cL_limits 80 = .ok (.aload_n 0, 1) := by decide +kernel
theorem dL_limits_81 : decode cL_limits 81 = .ok (.invokevirtual 106, 3) := by decide +kernel
theorem dL_limits_84 : decode cL_limits 84 = .ok (.iconst 3, 1) := by decide +kernel
theorem dL_limits_85 : decode cL_limits 85 = .ok (.if_icmp .ne 81, 3) := by decide +kernel
theorem dL_limits_88 : decode cL_limits 88 = .ok (.aload_n 0, 1) := by decide +kernel
theorem dL_limits_89 : decode cL_limits 89 = .ok (.invokevirtual 109, 3) := by decide +kernel
theorem dL_limits_92 : decode cL_limits 92 = .ok (.bipush 9, 2) := by decide +kernel
theorem dL_limits_94 : decode cL_limits 94 = .ok (.if_icmp .ne 72, 3) := by decide +kernel
theorem dL_limits_97 : decode cL_limits 97 = .ok (.aload_n 0, 1) := by decide +kernel
theorem dL_limits_98 : decode cL_limits 98 = .ok (.invokevirtual 88, 3) := by decide +kernel
theorem dL_limits_101 : decode cL_limits 101 = .ok (.iconst 1, 1) := by decide +kernel
theorem dL_limits_102 : decode cL_limits 102 = .ok (.if_icmp .ne 64, 3) := by decide +kernel
theorem dL_limits_105 : decode cL_limits 105 = .ok (.aload_n 0, 1) := by decide +kernel
theorem dL_limits_106 : decode cL_limits 106 = .ok (.invokevirtual 85, 3) := by decide +kernel
theorem dL_limits_109 : decode cL_limits 109 = .ok (.ifCond .ne 57, 3) := by decide +kernel
theorem dL_limits_112 : decode cL_limits 112 = .ok (.aload_n 0, 1) := by decide +kernel
theorem dL_limits_113 : decode cL_limits 113 = .ok (.invokevirtual 112, 3) := by decide +kernel
theorem dL_limits_116 : decode cL_limits 116 = .ok (.iconst 2, 1) := by decide +kernel
theorem dL_limits_117 : decode cL_limits 117 = .ok (.if_icmp .ne 49, 3) := by decide +kernel
theorem dL_limits_120 : decode cL_limits 120 = .ok (.aload_n 0, 1) := by decide +kernel
theorem dL_limits_121 : decode cL_limits 121 = .ok (.iconst 1, 1) := by decide +kernel
theorem dL_limits_122 : decode cL_limits 122 = .ok (.invokevirtual 29, 3) := by decide +kernel
theorem dL_limits_125 : decode cL_limits 125 = .ok (.bipush 39, 2) := by decide +kernel
theorem dL_limits_127 : decode cL_limits 127 = .ok (.if_icmp .ne 39, 3) := by decide +kernel
theorem dL_limits_130 : decode cL_limits 130 = .ok (.aload_n 0, 1) := by decide +kernel
theorem dL_limits_131 : decode cL_limits 131 = .ok (.invokevirtual 106, 3) := by decide +kernel
theorem dL_limits_134 : decode cL_limits 134 = .ok (.ifCond .ne 32, 3) := by decide +kernel
theorem dL_limits_137 : decode cL_limits 137 = .ok (.aload_n 0, 1) := by decide +kernel
theorem dL_limits_138 : decode cL_limits 138 = .ok (.invokevirtual 44, 3) := by decide +kernel
theorem dL_limits_141 : decode cL_limits 141 = .ok (.ifCond .ne 25, 3) := by decide +kernel
theorem dL_limits_144 : decode cL_limits 144 = .ok (.aload_n 0, 1) := by decide +kernel
theorem dL_limits_145 : decode cL_limits 145 = .ok (.bipush 7, 2) := by decide +kernel
theorem dL_limits_147 : decode cL_limits 147 = .ok (.invokevirtual 60, 3) := by decide +kernel
theorem dL_limits_150 : decode cL_limits 150 = .ok (.bipush 40, 2) := by decide +kernel
theorem dL_limits_152 : decode cL_limits 152 = .ok (.if_icmp .ne 14, 3) := by decide +kernel
theorem dL_limits_155 : decode cL_limits 155 = .ok (.aload_n 0, 1) := by decide +kernel
theorem dL_limits_156 : decode cL_limits 156 = .ok (.iconst 2, 1) := by decide +kernel
theorem dL_limits_157 : decode cL_limits 157 = .ok (.iconst 1, 1) := by decide +kernel
theorem dL_limits_158 : decode cL_limits 158 = .ok (.invokevirtual 35, 3) := by decide +kernel
theorem dL_limits_161 : decode cL_limits 161 = .ok (.bipush 10, 2) := by decide +kernel
theorem dL_limits_163 : decode cL_limits 163 = .ok (.if_icmp .eq 5, 3) := by decide +kernel
theorem dL_limits_166 : decode cL_limits 166 = .ok (.iconst 0, 1) := by decide +kernel
theorem dL_limits_167 : decode cL_limits 167 = .ok (.ireturn, 1) := by decide +kernel
theorem dL_limits_168 : decode cL_limits 168 = .ok (.iconst 0, 1) := by decide +kernel
theorem dL_limits_169 : decode cL_limits 169 = .ok (.istore_n 1, 1) := by decide +kernel
theorem dL_limits_170 : decode cL_limits 170 = .ok (.iload_n 1, 1) := by decide +kernel
theorem dL_limits_171 : decode cL_limits 171 = .ok (.iconst 5, 1) := by decide +kernel
theorem dL_limits_172 : decode cL_limits 172 = .ok (.if_icmp .ge 21, 3) := by decide +kernel
theorem dL_limits_175 : decode cL_limits 175 = .ok (.aload_n 0, 1) := by decide +kernel
theorem dL_limits_176 : decode cL_limits 176 = .ok (.iload_n 1, 1) := by decide +kernel
theorem dL_limits_177 : decode cL_limits 177 = .ok (.bipush 10, 2) := by decide +kernel
theorem dL_limits_179 : decode cL_limits 179 = .ok (.invokevirtual 32, 3) := by decide +kernel
theorem dL_limits_182 : decode cL_limits 182 = .ok (.ifCond .ge 5, 3) := by decide +kernel
theorem dL_limits_185 : decode cL_limits 185 = .ok (.iconst 0, 1) := by decide +kernel
theorem dL_limits_186 : decode cL_limits 186 = .ok (.ireturn, 1) := by decide +kernel
theorem dL_limits_187 : decode cL_limits 187 = .ok (.iinc 1 1, 3) := by decide +kernel
theorem dL_limits_190 : decode cL_limits 190 = .ok (.goto (-20), 3) := by decide +kernel
theorem dL_limits_193 : decode cL_limits 193 = .ok (.aload_n 0, 1) := by decide +kernel
theorem dL_limits_194 : decode cL_limits 194 = .ok (.iconst 5, 1) := by decide +kernel
theorem dL_limits_195 : decode cL_limits 195 = .ok (.bipush 10, 2) := by decide +kernel
theorem dL_limits_197 : decode cL_limits 197 = .ok (.invokevirtual 32, 3) := by decide +kernel
theorem dL_limits_200 : decode cL_limits 200 = .ok (.ifCond .ne 164, 3) := by decide +kernel
theorem dL_limits_203 : decode cL_limits 203 = .ok (.aload_n 0, 1) := by decide +kernel
theorem dL_limits_204 : decode cL_limits 204 = .ok (.invokevirtual 85, 3) := by decide +kernel
theorem dL_limits_207 : decode cL_limits 207 = .ok (.iconst 4, 1) := by decide +kernel
theorem dL_limits_208 : decode cL_limits 208 = .ok (.if_icmp .ne 156, 3) := by decide +kernel
theorem dL_limits_211 : decode cL_limits 211 = .ok (.aload_n 0, 1) := by decide +kernel
theorem dL_limits_212 : decode cL_limits 212 = .ok (.invokevirtual 23, 3) := by decide +kernel
theorem dL_limits_215 : decode cL_limits 215 = .ok (.iconst 1, 1) := by decide +kernel
theorem dL_limits_216 : decode cL_limits 216 = .ok (.if_icmp .ne 148, 3) := by decide +kernel
theorem dL_limits_219 : decode cL_limits 219 = .ok (.aload_n 0, 1) := by decide +kernel
theorem dL_limits_220 : decode cL_limits 220 = .ok (.bipush 9, 2) := by decide +kernel
theorem dL_limits_222 : decode cL_limits 222 = .ok (.iconst 1, 1) := by decide +kernel
theorem dL_limits_223 : decode cL_limits 223 = .ok (.invokevirtual 50, 3) := by decide +kernel
theorem dL_limits_226 : decode cL_limits 226 = .ok (.bipush 40, 2) := by decide +kernel
theorem dL_limits_228 : decode cL_limits 228 = .ok (.if_icmp .ne 136, 3) := by decide +kernel
theorem dL_limits_231 : decode cL_limits 231 = .ok (.aload_n 0, 1) := by decide +kernel
theorem dL_limits_232 : decode cL_limits 232 = .ok (.bipush 9, 2) := by decide +kernel
theorem dL_limits_234 : decode cL_limits 234 = .ok (.iconst 0, 1) := by decide +kernel
theorem dL_limits_235 : decode cL_limits 235 = .ok (.invokevirtual 50, 3) := by decide +kernel
theorem dL_limits_238 : decode cL_limits 238 = .ok (.bipush 20, 2) := by decide +kernel
theorem dL_limits_240 : decode cL_limits 240 = .ok (.if_icmp .ne 124, 3) := by decide +kernel
theorem dL_limits_243 : decode cL_limits 243 = .ok (.aload_n 0, 1) := by decide +kernel
theorem dL_limits_244 : decode cL_limits 244 = .ok (.invokevirtual 23, 3) := by decide +kernel
theorem dL_limits_247 : decode cL_limits 247 = .ok (.iconst 1, 1) := by decide +kernel
theorem dL_limits_248 : decode cL_limits 248 = .ok (.if_icmp .ne 116, 3) := by decide +kernel
theorem dL_limits_251 : decode cL_limits 251 = .ok (.aload_n 0, 1) := by decide +kernel
theorem dL_limits_252 : decode cL_limits 252 = .ok (.invokevirtual 23, 3) := by decide +kernel
theorem dL_limits_255 : decode cL_limits 255 = .ok (.iconst 1, 1) := by decide +kernel
theorem dL_limits_256 : decode cL_limits 256 = .ok (.if_icmp .ne 108, 3) := by decide +kernel
theorem dL_limits_259 : decode cL_limits 259 = .ok (.aload_n 0, 1) := by decide +kernel
theorem dL_limits_260 : decode cL_limits 260 = .ok (.bipush 9, 2) := by decide +kernel
theorem dL_limits_262 : decode cL_limits 262 = .ok (.iconst 1, 1) := by decide +kernel
theorem dL_limits_263 : decode cL_limits 263 = .ok (.invokevirtual 50, 3) := by decide +kernel
theorem dL_limits_266 : decode cL_limits 266 = .ok (.bipush 20, 2) := by decide +kernel
theorem dL_limits_268 : decode cL_limits 268 = .ok (.if_icmp .ne 96, 3) := by decide +kernel
theorem dL_limits_271 : decode cL_limits 271 = .ok (.aload_n 0, 1) := by decide +kernel
theorem dL_limits_272 : decode cL_limits 272 = .ok (.iconst 5, 1) := by decide +kernel
theorem dL_limits_273 : decode cL_limits 273 = .ok (.invokevirtual 60, 3) := by decide +kernel
theorem dL_limits_276 : decode cL_limits 276 = .ok (.iconst 1, 1) := by decide +kernel
theorem dL_limits_277 : decode cL_limits 277 = .ok (.if_icmp .ne 87, 3) := by decide +kernel
theorem dL_limits_280 : decode cL_limits 280 = .ok (.aload_n 0, 1) := by decide +kernel
theorem dL_limits_281 : decode cL_limits 281 = .ok (.bipush 9, 2) := by decide +kernel
theorem dL_limits_283 : decode cL_limits 283 = .ok (.iconst 2, 1) := by decide +kernel
theorem dL_limits_284 : decode cL_limits 284 = .ok (.invokevirtual 50, 3) := by decide +kernel
theorem dL_limits_287 : decode cL_limits 287 = .ok (.bipush 16, 2) := by decide +kernel
theorem dL_limits_289 : decode cL_limits 289 = .ok (.if_icmp .ne 75, 3) := by decide +kernel
theorem dL_limits_292 : decode cL_limits 292 = .ok (.aload_n 0, 1) := by decide +kernel
theorem dL_limits_293 : decode cL_limits 293 = .ok (.invokevirtual 23, 3) := by decide +kernel
theorem dL_limits_296 : decode cL_limits 296 = .ok (.iconst 1, 1) := by decide +kernel
theorem dL_limits_297 : decode cL_limits 297 = .ok (.if_icmp .ne 67, 3) := by decide +kernel
theorem dL_limits_300 : decode cL_limits 300 = .ok (.aload_n 0, 1) := by decide +kernel
theorem dL_limits_301 : decode cL_limits 301 = .ok (.bipush 9, 2) := by decide +kernel
theorem dL_limits_303 : decode cL_limits 303 = .ok (.iconst 0, 1) := by decide +kernel
theorem dL_limits_304 : decode cL_limits 304 = .ok (.invokevirtual 50, 3) := by decide +kernel
theorem dL_limits_307 : decode cL_limits 307 = .ok (.bipush 76, 2) := by decide +kernel
theorem dL_limits_309 : decode cL_limits 309 = .ok (.if_icmp .ne 55, 3) := by decide +kernel
theorem dL_limits_312 : decode cL_limits 312 = .ok (.aload_n 0, 1) := by decide +kernel
theorem dL_limits_313 : decode cL_limits 313 = .ok (.bipush 9, 2) := by decide +kernel
theorem dL_limits_315 : decode cL_limits 315 = .ok (.iconst 1, 1) := by decide +kernel
theorem dL_limits_316 : decode cL_limits 316 = .ok (.invokevirtual 50, 3) := by decide +kernel
theorem dL_limits_319 : decode cL_limits 319 = .ok (.bipush 12, 2) := by decide +kernel
theorem dL_limits_321 : decode cL_limits 321 = .ok (.if_icmp .ne 43, 3) := by decide +kernel
theorem dL_limits_324 : decode cL_limits 324 = .ok (.aload_n 0, 1) := by decide +kernel
theorem dL_limits_325 : decode cL_limits 325 = .ok (.bipush 6, 2) := by decide +kernel
theorem dL_limits_327 : decode cL_limits 327 = .ok (.invokevirtual 60, 3) := by decide +kernel
theorem dL_limits_330 : decode cL_limits 330 = .ok (.sipush 304, 3) := by decide +kernel
theorem dL_limits_333 : decode cL_limits 333 = .ok (.if_icmp .ne 31, 3) := by decide +kernel
theorem dL_limits_336 : decode cL_limits 336 = .ok (.aload_n 0, 1) := by decide +kernel
theorem dL_limits_337 : decode cL_limits 337 = .ok (.bipush 9, 2) := by decide +kernel
theorem dL_limits_339 : decode cL_limits 339 = .ok (.iconst 2, 1) := by decide +kernel
theorem dL_limits_340 : decode cL_limits 340 = .ok (.invokevirtual 50, 3) := by decide +kernel
theorem dL_limits_343 : decode cL_limits 343 = .ok (.bipush 16, 2) := by decide +kernel
theorem dL_limits_345 : decode cL_limits 345 = .ok (.if_icmp .ne 19, 3) := by decide +kernel
theorem dL_limits_348 : decode cL_limits 348 = .ok (.aload_n 0, 1) := by decide +kernel
theorem dL_limits_349 : decode cL_limits 349 = .ok (.invokevirtual 106, 3) := by decide +kernel
theorem dL_limits_352 : decode cL_limits 352 = .ok (.iconst 3, 1) := by decide +kernel
theorem dL_limits_353 : decode cL_limits 353 = .ok (.if_icmp .ne 11, 3) := by decide +kernel
theorem dL_limits_356 : decode cL_limits 356 = .ok (.aload_n 0, 1) := by decide +kernel
theorem dL_limits_357 : decode cL_limits 357 = .ok (.invokevirtual 88, 3) := by decide +kernel
theorem dL_limits_360 : decode cL_limits 360 = .ok (.iconst 5, 1) := by decide +kernel
theorem dL_limits_361 : decode cL_limits 361 = .ok (.if_icmp .eq 5, 3) := by decide +kernel
theorem dL_limits_364 : decode cL_limits 364 = .ok (.iconst 0, 1) := by decide +kernel
theorem dL_limits_365 : decode cL_limits 365 = .ok (.ireturn, 1) := by decide +kernel
theorem dL_limits_366 : decode cL_limits 366 = .ok (.new 10, 3) := by decide +kernel
theorem dL_limits_369 : decode cL_limits 369 = .ok (.dup, 1) := by decide +kernel
theorem dL_limits_370 : decode cL_limits 370 = .ok (.invokespecial 105, 3) := by decide +kernel
theorem dL_limits_373 : decode cL_limits 373 = .ok (.astore_n 1, 1) := by decide +kernel
theorem dL_limits_374 : decode cL_limits 374 = .ok (.iconst 0, 1) := by decide +kernel
theorem dL_limits_375 : decode cL_limits 375 = .ok (.istore_n 2, 1) := by decide +kernel
theorem dL_limits_376 : decode cL_limits 376 = .ok (.iload_n 2, 1) := by decide +kernel
theorem dL_limits_377 : decode cL_limits 377 = .ok (.bipush 10, 2) := by decide +kernel
theorem dL_limits_379 : decode cL_limits 379 = .ok (.if_icmp .ge 25, 3) := by decide +kernel
theorem dL_limits_382 : decode cL_limits 382 = .ok (.aload_n 1, 1) := by decide +kernel
theorem dL_limits_383 : decode cL_limits 383 = .ok (.iconst 1, 1) := by decide +kernel
theorem dL_limits_384 : decode cL_limits 384 = .ok (.iconst 1, 1) := by decide +kernel
theorem dL_limits_385 : decode cL_limits 385 = .ok (.iload_n 2, 1) := by decide +kernel
theorem dL_limits_386 : decode cL_limits 386 = .ok (.iadd, 1) := by decide +kernel
theorem dL_limits_387 : decode cL_limits 387 = .ok (.invokevirtual 9, 3) := by decide +kernel
theorem dL_limits_390 : decode cL_limits 390 = .ok (.iload_n 2, 1) := by decide +kernel
theorem dL_limits_391 : decode cL_limits 391 = .ok (.iconst 1, 1) := by decide +kernel
theorem dL_limits_392 : decode cL_limits 392 = .ok (.iadd, 1) := by decide +kernel
theorem dL_limits_393 : decode cL_limits 393 = .ok (.if_icmp .eq 5, 3) := by decide +kernel
theorem dL_limits_396 : decode cL_limits 396 = .ok (.iconst 0, 1) := by decide +kernel
theorem dL_limits_397 : decode cL_limits 397 = .ok (.ireturn, 1) := by decide +kernel
theorem dL_limits_398 : decode cL_limits 398 = .ok (.iinc 2 1, 3) := by decide +kernel
theorem dL_limits_401 : decode cL_limits 401 = .ok (.goto (-25), 3) := by decide +kernel
theorem dL_limits_404 : decode cL_limits 404 = .ok (.aload_n 1, 1) := by decide +kernel
theorem dL_limits_405 : decode cL_limits 405 = .ok (.iconst 0, 1) := by decide +kernel
theorem dL_limits_406 : decode cL_limits 406 = .ok (.iconst 1, 1) := by decide +kernel
theorem dL_limits_407 : decode cL_limits 407 = .ok (.iconst 1, 1) := by decide +kernel
theorem dL_limits_408 : decode cL_limits 408 = .ok (.invokestatic 91, 3) := by decide +kernel
theorem dL_limits_411 : decode cL_limits 411 = .ok (.bipush (-13), 2) := by decide +kernel
theorem dL_limits_413 : decode cL_limits 413 = .ok (.if_icmp .ne 23, 3) := by decide +kernel
theorem dL_limits_416 : decode cL_limits 416 = .ok (.aload_n 1, 1) := by decide +kernel
theorem dL_limits_417 : decode cL_limits 417 = .ok (.iconst 1, 1) := by decide +kernel
theorem dL_limits_418 : decode cL_limits 418 = .ok (.iconst 0, 1) := by decide +kernel
theorem dL_limits_419 : decode cL_limits 419 = .ok (.iconst 0, 1) := by decide +kernel
theorem dL_limits_420 : decode cL_limits 420 = .ok (.invokestatic 91, 3) := by decide +kernel
theorem dL_limits_423 : decode cL_limits 423 = .ok (.bipush (-13), 2) := by decide +kernel
theorem dL_limits_425 : decode cL_limits 425 = .ok (.if_icmp .ne 11, 3) := by decide +kernel
theorem dL_limits_428 : decode cL_limits 428 = .ok (.aload_n 1, 1) := by decide +kernel
theorem dL_limits_429 : decode cL_limits 429 = .ok (.invokevirtual 23, 3) := by decide +kernel
theorem dL_limits_432 : decode cL_limits 432 = .ok (.iconst 1, 1) := by decide +kernel
theorem dL_limits_433 : decode cL_limits 433 = .ok (.if_icmp .eq 5, 3) := by decide +kernel
theorem dL_limits_436 : decode cL_limits 436 = .ok (.iconst 0, 1) := by decide +kernel
theorem dL_limits_437 : decode cL_limits 437 = .ok (.ireturn, 1) := by decide +kernel
theorem dL_limits_438 : decode cL_limits 438 = .ok (.iconst 0, 1) := by decide +kernel
theorem dL_limits_439 : decode cL_limits 439 = .ok (.istore_n 2, 1) := by decide +kernel
theorem dL_limits_440 : decode cL_limits 440 = .ok (.iload_n 2, 1) := by decide +kernel
theorem dL_limits_441 : decode cL_limits 441 = .ok (.iconst 4, 1) := by decide +kernel
theorem dL_limits_442 : decode cL_limits 442 = .ok (.if_icmp .ge 22, 3) := by decide +kernel
theorem dL_limits_445 : decode cL_limits 445 = .ok (.aload_n 1, 1) := by decide +kernel
theorem dL_limits_446 : decode cL_limits 446 = .ok (.iconst 1, 1) := by decide +kernel
theorem dL_limits_447 : decode cL_limits 447 = .ok (.invokevirtual 15, 3) := by decide +kernel
theorem dL_limits_450 : decode cL_limits 450 = .ok (.iload_n 2, 1) := by decide +kernel
theorem dL_limits_451 : decode cL_limits 451 = .ok (.iconst 1, 1) := by decide +kernel
theorem dL_limits_452 : decode cL_limits 452 = .ok (.iadd, 1) := by decide +kernel
theorem dL_limits_453 : decode cL_limits 453 = .ok (.if_icmp .eq 5, 3) := by decide +kernel
theorem dL_limits_456 : decode cL_limits 456 = .ok (.iconst 0, 1) := by decide +kernel
theorem dL_limits_457 : decode cL_limits 457 = .ok (.ireturn, 1) := by decide +kernel
theorem dL_limits_458 : decode cL_limits 458 = .ok (.iinc 2 1, 3) := by decide +kernel
theorem dL_limits_461 : decode cL_limits 461 = .ok (.goto (-21), 3) := by decide +kernel
theorem dL_limits_464 : decode cL_limits 464 = .ok (.aload_n 1, 1) := by decide +kernel
theorem dL_limits_465 : decode cL_limits 465 = .ok (.iconst 1, 1) := by decide +kernel
theorem dL_limits_466 : decode cL_limits 466 = .ok (.iconst 1, 1) := by decide +kernel
theorem dL_limits_467 : decode cL_limits 467 = .ok (.iconst 0, 1) := by decide +kernel
theorem dL_limits_468 : decode cL_limits 468 = .ok (.invokestatic 91, 3) := by decide +kernel
theorem dL_limits_471 : decode cL_limits 471 = .ok (.bipush (-13), 2) := by decide +kernel
theorem dL_limits_473 : decode cL_limits 473 = .ok (.if_icmp .ne 128, 3) := by decide +kernel
theorem dL_limits_476 : decode cL_limits 476 = .ok (.aload_n 1, 1) := by decide +kernel
theorem dL_limits_477 : decode cL_limits 477 = .ok (.iconst 1, 1) := by decide +kernel
theorem dL_limits_478 : decode cL_limits 478 = .ok (.invokevirtual 69, 3) := by decide +kernel
theorem dL_limits_481 : decode cL_limits 481 = .ok (.iconst (-1), 1) := by decide +kernel
theorem dL_limits_482 : decode cL_limits 482 = .ok (.if_icmp .ne 119, 3) := by decide +kernel
theorem dL_limits_485 : decode cL_limits 485 = .ok (.aload_n 1, 1) := by decide +kernel
theorem dL_limits_486 : decode cL_limits 486 = .ok (.iconst 4, 1) := by decide +kernel
theorem dL_limits_487 : decode cL_limits 487 = .ok (.invokevirtual 72, 3) := by decide +kernel
theorem dL_limits_490 : decode cL_limits 490 = .ok (.bipush 16, 2) := by decide +kernel
theorem dL_limits_492 : decode cL_limits 492 = .ok (.if_icmp .ne 109, 3) := by decide +kernel
theorem dL_limits_495 : decode cL_limits 495 = .ok (.aload_n 1, 1) := by decide +kernel
theorem dL_limits_496 : decode cL_limits 496 = .ok (.iconst 5, 1) := by decide +kernel
theorem dL_limits_497 : decode cL_limits 497 = .ok (.invokevirtual 72, 3) := by decide +kernel
theorem dL_limits_500 : decode cL_limits 500 = .ok (.iconst (-1), 1) := by decide +kernel
theorem dL_limits_501 : decode cL_limits 501 = .ok (.if_icmp .ne 100, 3) := by decide +kernel
theorem dL_limits_504 : decode cL_limits 504 = .ok (.aload_n 1, 1) := by decide +kernel
theorem dL_limits_505 : decode cL_limits 505 = .ok (.iconst 0, 1) := by decide +kernel
theorem dL_limits_506 : decode cL_limits 506 = .ok (.invokevirtual 15, 3) := by decide +kernel
theorem dL_limits_509 : decode cL_limits 509 = .ok (.iconst 5, 1) := by decide +kernel
theorem dL_limits_510 : decode cL_limits 510 = .ok (.if_icmp .ne 91, 3) := by decide +kernel
theorem dL_limits_513 : decode cL_limits 513 = .ok (.aload_n 1, 1) := by decide +kernel
theorem dL_limits_514 : decode cL_limits 514 = .ok (.iconst 3, 1) := by decide +kernel
theorem dL_limits_515 : decode cL_limits 515 = .ok (.invokevirtual 72, 3) := by decide +kernel
theorem dL_limits_518 : decode cL_limits 518 = .ok (.bipush 16, 2) := by decide +kernel
theorem dL_limits_520 : decode cL_limits 520 = .ok (.if_icmp .ne 81, 3) := by decide +kernel
theorem dL_limits_523 : decode cL_limits 523 = .ok (.aload_n 1, 1) := by decide +kernel
theorem dL_limits_524 : decode cL_limits 524 = .ok (.iconst 4, 1) := by decide +kernel
theorem dL_limits_525 : decode cL_limits 525 = .ok (.invokevirtual 72, 3) := by decide +kernel
theorem dL_limits_528 : decode cL_limits 528 = .ok (.iconst (-1), 1) := by decide +kernel
theorem dL_limits_529 : decode cL_limits 529 = .ok (.if_icmp .ne 72, 3) := by decide +kernel
theorem dL_limits_532 : decode cL_limits 532 = .ok (.aload_n 1, 1) := by decide +kernel
theorem dL_limits_533 : decode cL_limits 533 = .ok (.iconst 1, 1) := by decide +kernel
theorem dL_limits_534 : decode cL_limits 534 = .ok (.iconst 4, 1) := by decide +kernel
theorem dL_limits_535 : decode cL_limits 535 = .ok (.invokevirtual 53, 3) := by decide +kernel
theorem dL_limits_538 : decode cL_limits 538 = .ok (.bipush 10, 2) := by decide +kernel
theorem dL_limits_540 : decode cL_limits 540 = .ok (.if_icmp .ne 61, 3) := by decide +kernel
theorem dL_limits_543 : decode cL_limits 543 = .ok (.aload_n 1, 1) := by decide +kernel
theorem dL_limits_544 : decode cL_limits 544 = .ok (.iconst 1, 1) := by decide +kernel
theorem dL_limits_545 : decode cL_limits 545 = .ok (.iconst 5, 1) := by decide +kernel
theorem dL_limits_546 : decode cL_limits 546 = .ok (.invokevirtual 53, 3) := by decide +kernel
theorem dL_limits_549 : decode cL_limits 549 = .ok (.iconst (-1), 1) := by decide +kernel
theorem dL_limits_550 : decode cL_limits 550 = .ok (.if_icmp .ne 51, 3) := by decide +kernel
theorem dL_limits_553 : decode cL_limits 553 = .ok (.aload_n 1, 1) := by decide +kernel
theorem dL_limits_554 : decode cL_limits 554 = .ok (.iconst 1, 1) := by decide +kernel
theorem dL_limits_555 : decode cL_limits 555 = .ok (.iconst 3, 1) := by decide +kernel
theorem dL_limits_556 : decode cL_limits 556 = .ok (.iconst 0, 1) := by decide +kernel
theorem dL_limits_557 : decode cL_limits 557 = .ok (.invokevirtual 56, 3) := by decide +kernel
theorem dL_limits_560 : decode cL_limits 560 = .ok (.iconst 4, 1) := by decide +kernel
theorem dL_limits_561 : decode cL_limits 561 = .ok (.if_icmp .ne 40, 3) := by decide +kernel
theorem dL_limits_564 : decode cL_limits 564 = .ok (.aload_n 1, 1) := by decide +kernel
theorem dL_limits_565 : decode cL_limits 565 = .ok (.iconst 1, 1) := by decide +kernel
theorem dL_limits_566 : decode cL_limits 566 = .ok (.iconst 4, 1) := by decide +kernel
theorem dL_limits_567 : decode cL_limits 567 = .ok (.iconst 0, 1) := by decide +kernel
theorem dL_limits_568 : decode cL_limits 568 = .ok (.invokevirtual 56, 3) := by decide +kernel
theorem dL_limits_571 : decode cL_limits 571 = .ok (.iconst (-1), 1) := by decide +kernel
theorem dL_limits_572 : decode cL_limits 572 = .ok (.if_icmp .ne 29, 3) := by decide +kernel
theorem dL_limits_575 : decode cL_limits 575 = .ok (.aload_n 1, 1) := by decide +kernel
theorem dL_limits_576 : decode cL_limits 576 = .ok (.iconst 3, 1) := by decide +kernel
theorem dL_limits_577 : decode cL_limits 577 = .ok (.invokevirtual 60, 3) := by decide +kernel
theorem dL_limits_580 : decode cL_limits 580 = .ok (.bipush 15, 2) := by decide +kernel
theorem dL_limits_582 : decode cL_limits 582 = .ok (.if_icmp .ne 19, 3) := by decide +kernel
theorem dL_limits_585 : decode cL_limits 585 = .ok (.aload_n 1, 1) := by decide +kernel
theorem dL_limits_586 : decode cL_limits 586 = .ok (.iconst 4, 1) := by decide +kernel
theorem dL_limits_587 : decode cL_limits 587 = .ok (.invokevirtual 60, 3) := by decide +kernel
theorem dL_limits_590 : decode cL_limits 590 = .ok (.iconst 5, 1) := by decide +kernel
theorem dL_limits_591 : decode cL_limits 591 = .ok (.if_icmp .ne 10, 3) := by decide +kernel
theorem dL_limits_594 : decode cL_limits 594 = .ok (.aload_n 1, 1) := by decide +kernel
theorem dL_limits_595 : decode cL_limits 595 = .ok (.invokestatic 123, 3) := by decide +kernel
theorem dL_limits_598 : decode cL_limits 598 = .ok (.ifCond .ne 5, 3) := by decide +kernel
theorem dL_limits_601 : decode cL_limits 601 = .ok (.iconst 0, 1) := by decide +kernel
theorem dL_limits_602 : decode cL_limits 602 = .ok (.ireturn, 1) := by decide +kernel
theorem dL_limits_603 : decode cL_limits 603 = .ok (.iconst 0, 1) := by decide +kernel
theorem dL_limits_604 : decode cL_limits 604 = .ok (.istore_n 2, 1) := by decide +kernel
theorem dL_limits_605 : decode cL_limits 605 = .ok (.iload_n 2, 1) := by decide +kernel
theorem dL_limits_606 : decode cL_limits 606 = .ok (.bipush 8, 2) := by decide +kernel
theorem dL_limits_608 : decode cL_limits 608 = .ok (.if_icmp .ge 25, 3) := by decide +kernel
theorem dL_limits_611 : decode cL_limits 611 = .ok (.aload_n 1, 1) := by decide +kernel
theorem dL_limits_612 : decode cL_limits 612 = .ok (.iconst 5, 1) := by decide +kernel
theorem dL_limits_613 : decode cL_limits 613 = .ok (.invokevirtual 29, 3) := by decide +kernel
theorem dL_limits_616 : decode cL_limits 616 = .ok (.bipush 35, 2) := by decide +kernel
theorem dL_limits_618 : decode cL_limits 618 = .ok (.iconst 5, 1) := by decide +kernel
theorem dL_limits_619 : decode cL_limits 619 = .ok (.iload_n 2, 1) := by decide +kernel
theorem dL_limits_620 : decode cL_limits 620 = .ok (.imul, 1) := by decide +kernel
theorem dL_limits_621 : decode cL_limits 621 = .ok (.isub, 1) := by decide +kernel
theorem dL_limits_622 : decode cL_limits 622 = .ok (.if_icmp .eq 5, 3) := by decide +kernel
theorem dL_limits_625 : decode cL_limits 625 = .ok (.iconst 0, 1) := by decide +kernel
theorem dL_limits_626 : decode cL_limits 626 = .ok (.ireturn, 1) := by decide +kernel
theorem dL_limits_627 : decode cL_limits 627 = .ok (.iinc 2 1, 3) := by decide +kernel
theorem dL_limits_630 : decode cL_limits 630 = .ok (.goto (-25), 3) := by decide +kernel
theorem dL_limits_633 : decode cL_limits 633 = .ok (.aload_n 1, 1) := by decide +kernel
theorem dL_limits_634 : decode cL_limits 634 = .ok (.iconst 5, 1) := by decide +kernel
theorem dL_limits_635 : decode cL_limits 635 = .ok (.iconst 1, 1) := by decide +kernel
theorem dL_limits_636 : decode cL_limits 636 = .ok (.iconst 0, 1) := by decide +kernel
theorem dL_limits_637 : decode cL_limits 637 = .ok (.invokestatic 91, 3) := by decide +kernel
theorem dL_limits_640 : decode cL_limits 640 = .ok (.bipush (-13), 2) := by decide +kernel
theorem dL_limits_642 : decode cL_limits 642 = .ok (.if_icmp .ne 41, 3) := by decide +kernel
theorem dL_limits_645 : decode cL_limits 645 = .ok (.aload_n 1, 1) := by decide +kernel
theorem dL_limits_646 : decode cL_limits 646 = .ok (.iconst 0, 1) := by decide +kernel
theorem dL_limits_647 : decode cL_limits 647 = .ok (.invokevirtual 60, 3) := by decide +kernel
theorem dL_limits_650 : decode cL_limits 650 = .ok (.bipush 41, 2) := by decide +kernel
theorem dL_limits_652 : decode cL_limits 652 = .ok (.if_icmp .ne 31, 3) := by decide +kernel
theorem dL_limits_655 : decode cL_limits 655 = .ok (.aload_n 1, 1) := by decide +kernel
theorem dL_limits_656 : decode cL_limits 656 = .ok (.bipush 100, 2) := by decide +kernel
theorem dL_limits_658 : decode cL_limits 658 = .ok (.invokevirtual 26, 3) := by decide +kernel
theorem dL_limits_661 : decode cL_limits 661 = .ok (.sipush 141, 3) := by decide +kernel
theorem dL_limits_664 : decode cL_limits 664 = .ok (.if_icmp .ne 19, 3) := by decide +kernel
theorem dL_limits_667 : decode cL_limits 667 = .ok (.aload_n 1, 1) := by decide +kernel
theorem dL_limits_668 : decode cL_limits 668 = .ok (.bipush 12, 2) := by decide +kernel
theorem dL_limits_670 : decode cL_limits 670 = .ok (.invokevirtual 60, 3) := by decide +kernel
theorem dL_limits_673 : decode cL_limits 673 = .ok (.sipush 710, 3) := by decide +kernel
theorem dL_limits_676 : decode cL_limits 676 = .ok (.if_icmp .ne 7, 3) := by decide +kernel
theorem dL_limits_679 : decode cL_limits 679 = .ok (.iconst 1, 1) := by decide +kernel
theorem dL_limits_680 : decode cL_limits 680 = .ok (.goto 4, 3) := by decide +kernel
theorem dL_limits_683 : decode cL_limits 683 = .ok (.iconst 0, 1) := by decide +kernel
theorem dL_limits_684 : decode cL_limits 684 = .ok (.ireturn, 1) := by decide +kernel
set_option maxRecDepth 20000 in
theorem ggL_types_X5_append : GoodIn wsL_types wsX5_append := goodIn_ca (goodIn_ca (goodIn_r _ [6, 7, 8, 9, 10, 11, 12, 13, 5, 14, 15, 16, 17, 18, 19, 20, 21, 22, 23, 24, 25, 26, 27, 28, 29, 30, 31, 32, 33, 34, 35, 36, 37, 38, 39, 40, 41, 42, 43, 44, 45, 46, 47, 48, 49, 50, 51] (by decide +kernel) (by decide +kernel)) (goodIn_sub (fun _ h => List.mem_cons_of_mem _ (List.mem_append_left _ (List.mem_append_right _ h))) (by decide +kernel))) (goodIn_sub (fun _ h => List.mem_cons_of_mem _ (List.mem_append_right _ h)) (by decide +kernel))
set_option maxRecDepth 20000 in
theorem gL_types_X5_append : GoodIn wsL_types (wsV RL 38 RX5 yX5_append wsX5_append) := goodIn_app (goodIn_of _ (by decide +kernel)) ggL_types_X5_append
theorem dL_types_0 : decode cL_types 0 = .ok (.iconst 1, 1) := by decide +kernel
theorem dL_types_1 : decode cL_types 1 = .ok (.istore_n 3, 1) := by decide +kernel
theorem dL_types_2 : decode cL_types 2 = .ok (.bipush 56, 2) := by decide +kernel
theorem dL_types_4 : decode cL_types 4 = .ok (.istore 4, 2) := by decide +kernel
theorem dL_types_6 : decode cL_types 6 = .ok (.iload 4, 2) := by decide +kernel
theorem dL_types_8 : decode cL_types 8 = .ok (.ifCond .lt 44, 3) := by decide +kernel
theorem dL_types_11 : decode cL_types 11 = .ok (.lload_n 1, 1) := by decide +kernel
theorem dL_types_12 : decode cL_types 12 = .ok (.iload 4, 2) := by decide +kernel
theorem dL_types_14 : decode cL_types 14 = .ok (.lshr, 1) := by decide +kernel
theorem dL_types_15 : decode cL_types 15 = .ok (.ldc2_w 133, 3) := by decide +kernel
theorem dL_types_18 : decode cL_types 18 = .ok (.land, 1) := by decide +kernel
theorem dL_types_19 : decode cL_types 19 = .ok (.l2i, 1) := by decide +kernel
theorem dL_types_20 : decode cL_types 20 = .ok (.istore 5, 2) := by decide +kernel
theorem dL_types_22 : decode cL_types 22 = .ok (.iload_n 3, 1) := by decide +kernel
theorem dL_types_23 : decode cL_types 23 = .ok (.ifCond .eq 21, 3) := by decide +kernel
theorem dL_types_26 : decode cL_types 26 = .ok (.iload 5, 2) := by decide +kernel
theorem dL_types_28 : decode cL_types 28 = .ok (.ifCond .eq 12, 3) := by decide +kernel
theorem dL_types_31 : decode cL_types 31 = .ok (.aload_n 0, 1) := by decide +kernel
theorem dL_types_32 : decode cL_types 32 = .ok (.iload 5, 2) := by decide +kernel
theorem dL_types_34 : decode cL_types 34 = .ok (.invokevirtual 38, 3) := by decide +kernel
theorem dL_types_37 : decode cL_types 37 = .ok (.ifCond .le 7, 3) := by decide +kernel
theorem dL_types_40 : decode cL_types 40 = .ok (.iconst 1, 1) := by decide +kernel
theorem dL_types_41 : decode cL_types 41 = .ok (.goto 4, 3) := by decide +kernel
theorem dL_types_44 : decode cL_types 44 = .ok (.iconst 0, 1) := by decide +kernel
theorem dL_types_45 : decode cL_types 45 = .ok (.istore_n 3, 1) := by decide +kernel
theorem dL_types_46 : decode cL_types 46 = .ok (.iinc 4 (-8), 3) := by decide +kernel
theorem dL_types_49 : decode cL_types 49 = .ok (.goto (-43), 3) := by decide +kernel
theorem dL_types_52 : decode cL_types 52 = .ok (.iload_n 3, 1) := by decide +kernel
theorem dL_types_53 : decode cL_types 53 = .ok (.ireturn, 1) := by decide +kernel
set_option maxRecDepth 20000 in
theorem ggL_isError_X5_clearBuffer : GoodIn wsL_isError wsX5_clearBuffer := goodIn_r _ [5, 6, 7, 8, 9, 10, 11, 12, 13, 14, 15, 16, 17, 18, 62, 63, 64, 65, 66, 67, 68, 69, 70, 71] (by decide +kernel) (by decide +kernel)
set_option maxRecDepth 20000 in
theorem gL_isError_X5_clearBuffer : GoodIn wsL_isError (wsV RL 135 RX5 yX5_clearBuffer wsX5_clearBuffer) := goodIn_app (goodIn_of _ (by decide +kernel)) ggL_isError_X5_clearBuffer
set_option maxRecDepth 20000 in
theorem ggL_isError_L_types : GoodIn wsL_isError wsL_types := goodIn_ca (goodIn_ca (goodIn_r _ [22, 23, 24, 25, 26, 4, 27, 28, 29, 30, 31, 6, 32, 33, 34, 7, 8, 9, 10, 11, 12, 35, 36, 37, 38, 39, 18, 17, 40, 41, 42, 43, 44, 45, 46, 47, 48, 49, 50, 51, 52, 53, 62, 63, 64, 65, 66, 67, 68, 69, 70, 71] (by decide +kernel) (by decide +kernel)) (goodIn_sub (fun _ h => List.mem_cons_of_mem _ (List.mem_append_left _ (List.mem_append_right _ h))) (by decide +kernel))) (goodIn_sub (fun _ h => List.mem_cons_of_mem _ (List.mem_append_right _ h)) (by decide +kernel))
set_option maxRecDepth 20000 in
theorem gL_isError_L_types : GoodIn wsL_isError (va_wsS RL 138 yL_types wsL_types) := goodIn_app (goodIn_of _ (by decide +kernel)) ggL_isError_L_types
set_option maxRecDepth 20000 in
theorem ggL_isError_X5_firstError : GoodIn wsL_isError wsX5_firstError := goodIn_r _ [57, 6, 58, 59, 60, 10, 61, 17, 62, 63, 64, 65, 66, 67, 68, 69, 70, 71] (by decide +kernel) (by decide +kernel)
set_option maxRecDepth 20000 in
theorem gL_isError_X5_firstError : GoodIn wsL_isError (wsV RL 142 RX5 yX5_firstError wsX5_firstError) := goodIn_app (goodIn_of _ (by decide +kernel)) ggL_isError_X5_firstError
theorem dL_isError_0 : decode cL_isError 0 = .ok (.aload_n 0, 1) := by decide +kernel
theorem dL_isError_1 : decode cL_isError 1 = .ok (.invokevirtual 135, 3) := by decide +kernel
theorem dL_isError_4 : decode cL_isError 4 = .ok (.ifCond .lt 32, 3) := by decide +kernel
theorem dL_isError_7 : decode cL_isError 7 = .ok (.aload_n 0, 1) := by decide +kernel
theorem dL_isError_8 : decode cL_isError 8 = .ok (.lload_n 1, 1) := by decide +kernel
theorem dL_isError_9 : decode cL_isError 9 = .ok (.invokestatic 138, 3) := by decide +kernel
theorem dL_isError_12 : decode cL_isError 12 = .ok (.ifCond .eq 24, 3) := by decide +kernel
theorem dL_isError_15 : decode cL_isError 15 = .ok (.aload_n 0, 1) := by decide +kernel
theorem dL_isError_16 : decode cL_isError 16 = .ok (.lload_n 3, 1) := by decide +kernel
theorem dL_isError_17 : decode cL_isError 17 = .ok (.invokestatic 138, 3) := by decide +kernel
theorem dL_isError_20 : decode cL_isError 20 = .ok (.ifCond .eq 16, 3) := by decide +kernel
theorem dL_isError_23 : decode cL_isError 23 = .ok (.aload_n 0, 1) := by decide +kernel
theorem dL_isError_24 : decode cL_isError 24 = .ok (.invokevirtual 142, 3) := by decide +kernel
theorem dL_isError_27 : decode cL_isError 27 = .ok (.iload 5, 2) := by decide +kernel
theorem dL_isError_29 : decode cL_isError 29 = .ok (.if_icmp .ne 7, 3) := by decide +kernel
theorem dL_isError_32 : decode cL_isError 32 = .ok (.iconst 1, 1) := by decide +kernel
theorem dL_isError_33 : decode cL_isError 33 = .ok (.goto 4, 3) := by decide +kernel
theorem dL_isError_36 : decode cL_isError 36 = .ok (.iconst 0, 1) := by decide +kernel
theorem dL_isError_37 : decode cL_isError 37 = .ok (.ireturn, 1) := by decide +kernel
set_option maxRecDepth 20000 in
theorem ggL_texts_X5_init : GoodIn wsL_texts wsX5_init := goodIn_r _ [27, 28, 29, 30, 31, 32, 33, 34, 35, 36, 37, 38, 39, 40, 41, 42, 43, 44, 45, 46, 47, 48, 49, 50, 51, 52, 53, 54, 55, 56, 57, 58, 59, 60, 61, 62, 63, 64, 3, 65, 66, 67, 68, 69, 70, 71, 72, 73, 74, 75, 76, 77, 78, 79, 80, 81, 82, 83, 84, 85, 86, 87, 88, 89, 90, 91, 92, 93, 94, 95, 96, 97, 98, 99, 100, 101, 102, 103, 104, 105, 106, 519, 520, 521, 522, 523, 524, 525, 526, 527, 528, 529, 530, 531, 532, 513, 514, 515, 516, 517, 518, 533, 534, 535, 536, 537, 538, 539, 540, 541, 542, 543, 544, 545, 546, 547] (by decide +kernel) (by decide +kernel)
set_option maxRecDepth 20000 in
theorem gL_texts_X5_init : GoodIn wsL_texts (wsX5_init) := ggL_texts_X5_init
set_option maxRecDepth 20000 in
theorem ggL_texts_L_isError : GoodIn wsL_texts wsL_isError := goodIn_ca (goodIn_ca (goodIn_r _ [110, 111, 112, 113, 3, 114, 44, 115, 116, 117, 43, 118, 104, 119, 120, 121, 122, 105, 106, 123, 124, 109, 125, 126, 127, 128, 129, 130, 131, 132, 133, 134, 135, 136, 137, 138, 139, 140, 141, 103, 142, 143, 144, 145, 146, 147, 148, 149, 150, 151, 152, 153, 154, 155, 156, 157, 158, 159, 160, 161, 162, 163, 513, 514, 515, 516, 517, 518, 536, 537, 538, 539] (by decide +kernel) (by decide +kernel)) (goodIn_sub (fun _ h => List.mem_cons_of_mem _ (List.mem_append_left _ (List.mem_append_left _ (List.mem_append_right _ h)))) (by decide +kernel))) (goodIn_sub (fun _ h => List.mem_cons_of_mem _ (List.mem_append_left _ (List.mem_append_right _ h))) (by decide +kernel))
set_option maxRecDepth 20000 in
theorem gL_texts_L_isError : GoodIn wsL_texts (va_wsS RL 147 yL_isError wsL_isError) := goodIn_app (goodIn_of _ (by decide +kernel)) ggL_texts_L_isError
set_option maxRecDepth 20000 in
theorem ggL_texts_X5_clearBuffer : GoodIn wsL_texts wsX5_clearBuffer := goodIn_r _ [114, 44, 115, 116, 117, 43, 118, 104, 119, 120, 121, 122, 105, 106, 513, 514, 515, 516, 517, 518, 536, 537, 538, 539] (by decide +kernel) (by decide +kernel)
set_option maxRecDepth 20000 in
theorem gL_texts_X5_clearBuffer : GoodIn wsL_texts (wsV RL 135 RX5 yX5_clearBuffer wsX5_clearBuffer) := goodIn_app (goodIn_of _ (by decide +kernel)) ggL_texts_X5_clearBuffer
set_option maxRecDepth 20000 in
theorem ggL_texts_L_call : GoodIn wsL_texts wsL_call := goodIn_ca (goodIn_ca (goodIn_ca (goodIn_r _ [166, 167, 168, 169, 170, 171, 172, 3, 173, 174, 175, 131, 132, 133, 134, 34, 40, 135, 136, 137, 176, 177, 178, 33, 179, 180, 181, 182, 183, 56, 57, 184, 185, 186, 55, 187, 80, 78, 188, 189, 190, 39, 191, 97, 96, 192, 193, 194, 195, 95, 196, 197, 198, 199, 200, 201, 202, 203, 51, 52, 58, 59, 63, 204, 205, 206, 207, 208, 209, 210, 64, 65, 66, 67, 68, 69, 70, 71, 72, 73, 211, 212, 213, 214, 79, 81, 215, 216, 217, 62, 218, 86, 87, 88, 89, 219, 220, 221, 222, 223, 224, 225, 226, 227, 142, 143, 228, 229, 230, 231, 232, 233, 234, 235, 236, 237, 238, 239, 240, 241, 242, 243, 244, 245, 246, 247, 248, 249, 250, 251, 252, 253, 254, 255, 256, 257, 258, 259, 260, 261, 262, 263, 264, 265, 266, 267, 268, 269, 270, 271, 272, 273, 274, 275, 276, 277, 278, 279, 280, 281, 282, 283, 284, 285, 286, 287, 288, 289, 290, 291, 292, 293, 294, 295, 296, 297, 298, 299, 300, 301, 302, 303, 304, 305, 306, 307, 308, 309, 310, 311, 312, 313, 314, 315, 316, 317, 318, 319, 320, 321, 322, 323, 324, 325, 326, 327, 328, 329, 330, 331, 332, 333, 334, 335, 336, 337, 338, 339, 340, 341, 342, 343, 344, 345, 346, 347, 348, 349, 350, 351, 352, 353, 354, 355, 356, 357, 358, 359, 360, 361, 362, 363, 364, 365, 366, 367, 368, 369, 370, 371, 372, 373, 374, 375, 127, 128, 129, 130, 44, 115, 116, 117, 43, 118, 104, 138, 139, 140, 141, 103, 106, 105, 144, 145, 146, 147, 148, 149, 150, 151, 152, 153, 154, 155, 376, 377, 378, 379, 380, 381, 382, 383, 384, 385, 386, 387, 388, 389, 390, 391, 392, 393, 394, 395, 396, 397, 398, 399, 400, 401, 402, 403, 404, 119, 120, 121, 122, 405, 406, 407, 408, 45, 36, 409, 410, 411, 412, 413, 414, 415, 416, 417, 418, 419, 420, 421, 422, 423, 424, 425, 426, 427, 428, 429, 430, 431, 432, 433, 434, 435, 436, 437, 438, 439, 440, 441, 442, 443, 444, 445, 446, 447, 448, 449, 450, 451, 452, 453, 454, 455, 456, 457, 458, 459, 460, 461, 462, 463, 464, 465, 466, 467, 468, 469, 470, 471, 472, 473, 474, 475, 476, 477, 478, 479, 480, 35, 481, 482, 483, 484, 485, 486, 487, 488, 489, 490, 491, 492, 493, 494, 495, 496, 497, 498, 499, 500, 501, 502, 503, 504, 505, 506, 507, 508, 509, 510, 511, 512, 513, 514, 515, 516, 517, 518, 519, 520, 521, 522, 523, 524, 525, 526, 527, 528, 529, 530, 531, 532, 540, 541, 542, 543, 533, 534, 535, 544, 545, 546, 547, 536, 537, 538, 539] (by decide +kernel) (by decide +kernel)) (goodIn_sub (fun _ h => List.mem_cons_of_mem _ (List.mem_append_right _ h)) (by decide +kernel))) (goodIn_sub (fun _ h => List.mem_cons_of_mem _ (List.mem_append_left _ (List.mem_append_left _ (List.mem_append_right _ h)))) (by decide +kernel))) (goodIn_sub (fun _ h => List.mem_cons_of_mem _ (List.mem_append_left _ (List.mem_append_right _ h))) (by decide +kernel))
set_option maxRecDepth 20000 in
theorem gL_texts_L_call : GoodIn wsL_texts (va_wsS RL 91 yL_call wsL_call) := goodIn_app (goodIn_of _ (by decide +kernel)) ggL_texts_L_call
set_option maxRecDepth 20000 in
theorem ggL_texts_L_types : GoodIn wsL_texts wsL_types := goodIn_ca (goodIn_ca (goodIn_r _ [125, 126, 127, 128, 129, 3, 130, 131, 132, 133, 134, 44, 135, 136, 137, 115, 116, 117, 43, 118, 104, 138, 139, 140, 141, 103, 106, 105, 142, 143, 144, 145, 146, 147, 148, 149, 150, 151, 152, 153, 154, 155, 513, 514, 515, 516, 517, 518, 536, 537, 538, 539] (by decide +kernel) (by decide +kernel)) (goodIn_sub (fun _ h => List.mem_cons_of_mem _ (List.mem_append_left _ (List.mem_append_left _ (List.mem_append_right _ h)))) (by decide +kernel))) (goodIn_sub (fun _ h => List.mem_cons_of_mem _ (List.mem_append_left _ (List.mem_append_right _ h))) (by decide +kernel))
set_option maxRecDepth 20000 in
theorem gL_texts_L_types : GoodIn wsL_texts (va_wsS RL 138 yL_types wsL_types) := goodIn_app (goodIn_of _ (by decide +kernel)) ggL_texts_L_types
set_option maxRecDepth 20000 in
theorem ggL_texts_X5_firstError : GoodIn wsL_texts wsX5_firstError := goodIn_r _ [159, 44, 160, 161, 162, 43, 163, 105, 513, 514, 515, 516, 517, 518, 536, 537, 538, 539] (by decide +kernel) (by decide +kernel)
set_option maxRecDepth 20000 in
theorem gL_texts_X5_firstError : GoodIn wsL_texts (wsV RL 142 RX5 yX5_firstError wsX5_firstError) := goodIn_app (goodIn_of _ (by decide +kernel)) ggL_texts_X5_firstError
set_option maxRecDepth 20000 in
theorem ggL_texts_X5_obey : GoodIn wsL_texts wsX5_obey := goodIn_ca (goodIn_r _ [379, 131, 132, 44, 40, 34, 380, 381, 382, 43, 383, 106, 188, 189, 190, 39, 191, 97, 96, 192, 193, 194, 195, 95, 196, 197, 198, 199, 200, 201, 202, 33, 203, 51, 52, 56, 57, 58, 59, 63, 204, 205, 206, 207, 208, 209, 210, 64, 3, 65, 66, 67, 68, 69, 70, 71, 72, 73, 211, 212, 213, 55, 214, 78, 79, 80, 81, 215, 216, 217, 62, 218, 86, 87, 88, 89, 384, 385, 386, 387, 115, 116, 117, 118, 104, 388, 389, 390, 391, 392, 393, 394, 395, 103, 254, 255, 396, 397, 398, 399, 400, 401, 402, 403, 136, 137, 404, 176, 177, 178, 179, 180, 181, 182, 183, 184, 185, 186, 187, 219, 220, 221, 222, 223, 224, 225, 226, 227, 142, 143, 237, 238, 239, 240, 241, 230, 231, 232, 242, 243, 244, 245, 246, 247, 248, 249, 250, 251, 252, 253, 256, 257, 258, 259, 284, 285, 286, 287, 288, 289, 290, 291, 292, 293, 294, 295, 296, 297, 298, 299, 300, 301, 302, 303, 304, 305, 306, 307, 308, 309, 310, 311, 312, 313, 314, 315, 316, 317, 318, 319, 320, 321, 322, 323, 324, 325, 326, 327, 328, 329, 330, 331, 332, 333, 334, 335, 336, 349, 350, 351, 352, 353, 354, 355, 356, 357, 358, 359, 360, 361, 342, 264, 265, 266, 267, 268, 269, 270, 271, 272, 273, 274, 275, 276, 277, 278, 279, 119, 120, 121, 122, 105, 513, 514, 515, 516, 517, 518, 536, 537, 538, 539, 533, 534, 535, 519, 520, 521, 522, 523, 524, 525, 526, 527, 528, 529, 530, 531, 532, 540, 541, 542, 543, 544, 545, 546, 547] (by decide +kernel) (by decide +kernel)) (goodIn_sub (fun _ h => List.mem_cons_of_mem _ (List.mem_append_left _ (List.mem_append_left _ (List.mem_append_right _ h)))) (by decide +kernel))
set_option maxRecDepth 20000 in
theorem gL_texts_X5_obey : GoodIn wsL_texts (wsV RL 41 RX5 yX5_obey wsX5_obey) := goodIn_app (goodIn_of _ (by decide +kernel)) ggL_texts_X5_obey
set_option maxRecDepth 20000 in
theorem ggL_texts_X5_count : GoodIn wsL_texts wsX5_count := goodIn_ca (goodIn_r _ [457, 131, 132, 34, 341, 458, 347, 459, 460, 348, 461, 462, 463, 464, 465, 40, 466, 273, 274, 33, 275, 58, 59, 241, 230, 231, 55, 232, 80, 467, 306, 307, 308, 296, 297, 298, 299, 81, 468, 290, 291, 292, 293, 294, 68, 295, 414, 415, 416, 39, 417, 97, 513, 514, 515, 516, 517, 518, 519, 520, 521, 522, 523, 524, 525, 526, 527, 528, 529, 530, 531, 532, 544, 545, 546, 547, 540, 541, 542, 543, 533, 534, 535] (by decide +kernel) (by decide +kernel)) (goodIn_sub (fun _ h => List.mem_cons_of_mem _ (List.mem_append_left _ (List.mem_append_left _ (List.mem_append_right _ h)))) (by decide +kernel))
set_option maxRecDepth 20000 in
theorem gL_texts_X5_count : GoodIn wsL_texts (wsV RL 60 RX5 yX5_count wsX5_count) := goodIn_app (goodIn_of _ (by decide +kernel)) ggL_texts_X5_count
set_option maxRecDepth 20000 in
theorem ggL_texts_X5_waiting : GoodIn wsL_texts wsX5_waiting := goodIn_ca (goodIn_ca (goodIn_r _ [443, 174, 175, 131, 132, 34, 135, 136, 3, 137, 228, 181, 182, 33, 183, 56, 57, 444, 251, 252, 55, 253, 80, 78, 254, 255, 513, 514, 515, 516, 517, 518, 519, 520, 521, 522, 523, 524, 525, 526, 527, 528, 529, 530, 531, 532, 540, 541, 542, 543] (by decide +kernel) (by decide +kernel)) (goodIn_sub (fun _ h => List.mem_cons_of_mem _ (List.mem_append_right _ h)) (by decide +kernel))) (goodIn_sub (fun _ h => List.mem_cons_of_mem _ (List.mem_append_left _ (List.mem_append_left _ (List.mem_append_right _ h)))) (by decide +kernel))
set_option maxRecDepth 20000 in
theorem gL_texts_X5_waiting : GoodIn wsL_texts (wsV RL 53 RX5 yX5_waiting wsX5_waiting) := goodIn_app (goodIn_of _ (by decide +kernel)) ggL_texts_X5_waiting
set_option maxRecDepth 20000 in
theorem ggL_texts_X5_undo : GoodIn wsL_texts wsX5_undo := goodIn_ca (goodIn_r _ [413, 133, 134, 40, 34, 414, 415, 416, 39, 417, 97, 418, 419, 420, 421, 192, 193, 194, 195, 96, 95, 196, 197, 198, 199, 200, 201, 202, 33, 203, 51, 52, 56, 57, 58, 59, 63, 204, 205, 206, 207, 208, 209, 210, 64, 3, 65, 66, 67, 68, 69, 70, 71, 72, 73, 211, 212, 213, 55, 214, 78, 79, 80, 81, 215, 216, 217, 62, 218, 86, 87, 88, 89, 513, 514, 515, 516, 517, 518, 533, 534, 535, 519, 520, 521, 522, 523, 524, 525, 526, 527, 528, 529, 530, 531, 532, 540, 541, 542, 543, 544, 545, 546, 547] (by decide +kernel) (by decide +kernel)) (goodIn_sub (fun _ h => List.mem_cons_of_mem _ (List.mem_append_left _ (List.mem_append_right _ h))) (by decide +kernel))
set_option maxRecDepth 20000 in
theorem gL_texts_X5_undo : GoodIn wsL_texts (wsV RL 47 RX5 yX5_undo wsX5_undo) := goodIn_app (goodIn_of _ (by decide +kernel)) ggL_texts_X5_undo
set_option maxRecDepth 20000 in
theorem ggL_texts_X5_append : GoodIn wsL_texts wsX5_append := goodIn_ca (goodIn_ca (goodIn_r _ [130, 131, 132, 133, 134, 44, 135, 136, 3, 137, 115, 116, 117, 43, 118, 104, 138, 139, 140, 141, 103, 106, 105, 142, 143, 144, 145, 146, 147, 148, 149, 150, 151, 152, 153, 154, 155, 513, 514, 515, 516, 517, 518, 536, 537, 538, 539] (by decide +kernel) (by decide +kernel)) (goodIn_sub (fun _ h => List.mem_cons_of_mem _ (List.mem_append_left _ (List.mem_append_left _ (List.mem_append_right _ h)))) (by decide +kernel))) (goodIn_sub (fun _ h => List.mem_cons_of_mem _ (List.mem_append_left _ (List.mem_append_right _ h))) (by decide +kernel))
set_option maxRecDepth 20000 in
theorem gL_texts_X5_append : GoodIn wsL_texts (wsV RL 38 RX5 yX5_append wsX5_append) := goodIn_app (goodIn_of _ (by decide +kernel)) ggL_texts_X5_append
theorem dL_texts_0 : decode cL_texts 0 = .ok (.new 10, 3) := by decide +kernel
theorem dL_texts_3 : decode cL_texts 3 = .ok (.dup, 1) := by decide +kernel
theorem dL_texts_4 : decode cL_texts 4 = .ok (.invokespecial 105, 3) := by decide +kernel
theorem dL_texts_7 : decode cL_texts 7 = .ok (.astore_n 0, 1) := by decide +kernel
theorem dL_texts_8 : decode cL_texts 8 = .ok (.aload_n 0, 1) := by decide +kernel
theorem dL_texts_9 : decode cL_texts 9 = .ok (.ldc2_w 145, 3) := by decide +kernel
theorem dL_texts_12 : decode cL_texts 12 = .ok (.lconst 0, 1) := by decide +kernel
theorem dL_texts_13 : decode cL_texts 13 = .ok (.iconst 4, 1) := by decide +kernel
theorem dL_texts_14 : decode cL_texts 14 = .ok (.invokestatic 147, 3) := by decide +kernel
theorem dL_texts_17 : decode cL_texts 17 = .ok (.ifCond .eq 99, 3) := by decide +kernel
theorem dL_texts_20 : decode cL_texts 20 = .ok (.aload_n 0, 1) := by decide +kernel
theorem dL_texts_21 : decode cL_texts 21 = .ok (.ldc2_w 151, 3) := by decide +kernel
theorem dL_texts_24 : decode cL_texts 24 = .ok (.lconst 0, 1) := by decide +kernel
theorem dL_texts_25 : decode cL_texts 25 = .ok (.iconst 3, 1) := by decide +kernel
theorem dL_texts_26 : decode cL_texts 26 = .ok (.invokestatic 147, 3) := by decide +kernel
theorem dL_texts_29 : decode cL_texts 29 = .ok (.ifCond .eq 87, 3) := by decide +kernel
theorem dL_texts_32 : decode cL_texts 32 = .ok (.aload_n 0, 1) := by decide +kernel
theorem dL_texts_33 : decode cL_texts 33 = .ok (.ldc2_w 153, 3) := by decide +kernel
theorem dL_texts_36 : decode cL_texts 36 = .ok (.lconst 0, 1) := by decide +kernel
theorem dL_texts_37 : decode cL_texts 37 = .ok (.iconst 2, 1) := by decide +kernel
theorem dL_texts_38 : decode cL_texts 38 = .ok (.invokestatic 147, 3) := by decide +kernel
theorem dL_texts_41 : decode cL_texts 41 = .ok (.ifCond .eq 75, 3) := by decide +kernel
theorem dL_texts_44 : decode cL_texts 44 = .ok (.aload_n 0, 1) := by decide +kernel
theorem dL_texts_45 : decode cL_texts 45 = .ok (.ldc2_w 155, 3) := by decide +kernel
theorem dL_texts_48 : decode cL_texts 48 = .ok (.lconst 0, 1) := by decide +kernel
theorem dL_texts_49 : decode cL_texts 49 = .ok (.iconst 1, 1) := by decide +kernel
theorem dL_texts_50 : decode cL_texts 50 = .ok (.invokestatic 147, 3) := by decide +kernel
theorem dL_texts_53 : decode cL_texts 53 = .ok (.ifCond .eq 63, 3) := by decide +kernel
theorem dL_texts_56 : decode cL_texts 56 = .ok (.aload_n 0, 1) := by decide +kernel
theorem dL_texts_57 : decode cL_texts 57 = .ok (.ldc2_w 157, 3) := by decide +kernel
theorem dL_texts_60 : decode cL_texts 60 = .ok (.lconst 0, 1) := by decide +kernel
theorem dL_texts_61 : decode cL_texts 61 = .ok (.iconst 1, 1) := by decide +kernel
theorem dL_texts_62 : decode cL_texts 62 = .ok (.invokestatic 147, 3) := by decide +kernel
theorem dL_texts_65 : decode cL_texts 65 = .ok (.ifCond .eq 51, 3) := by decide +kernel
theorem dL_texts_68 : decode cL_texts 68 = .ok (.aload_n 0, 1) := by decide +kernel
theorem dL_texts_69 : decode cL_texts 69 = .ok (.ldc2_w 159, 3) := by decide +kernel
theorem dL_texts_72 : decode cL_texts 72 = .ok (.lconst 0, 1) := by decide +kernel
theorem dL_texts_73 : decode cL_texts 73 = .ok (.iconst 1, 1) := by decide +kernel
theorem dL_texts_74 : decode cL_texts 74 = .ok (.invokestatic 147, 3) := by decide +kernel
theorem dL_texts_77 : decode cL_texts 77 = .ok (.ifCond .eq 39, 3) := by decide +kernel
theorem dL_texts_80 : decode cL_texts 80 = .ok (.aload_n 0, 1) := by decide +kernel
theorem dL_texts_81 : decode cL_texts 81 = .ok (.ldc2_w 161, 3) := by decide +kernel
theorem dL_texts_84 : decode cL_texts 84 = .ok (.lconst 0, 1) := by decide +kernel
theorem dL_texts_85 : decode cL_texts 85 = .ok (.iconst 1, 1) := by decide +kernel
theorem dL_texts_86 : decode cL_texts 86 = .ok (.invokestatic 147, 3) := by decide +kernel
theorem dL_texts_89 : decode cL_texts 89 = .ok (.ifCond .eq 27, 3) := by decide +kernel
theorem dL_texts_92 : decode cL_texts 92 = .ok (.aload_n 0, 1) := by decide +kernel
theorem dL_texts_93 : decode cL_texts 93 = .ok (.ldc2_w 163, 3) := by decide +kernel
theorem dL_texts_96 : decode cL_texts 96 = .ok (.lconst 0, 1) := by decide +kernel
theorem dL_texts_97 : decode cL_texts 97 = .ok (.iconst 1, 1) := by decide +kernel
theorem dL_texts_98 : decode cL_texts 98 = .ok (.invokestatic 147, 3) := by decide +kernel
theorem dL_texts_101 : decode cL_texts 101 = .ok (.ifCond .eq 15, 3) := by decide +kernel
theorem dL_texts_104 : decode cL_texts 104 = .ok (.aload_n 0, 1) := by decide +kernel
theorem dL_texts_105 : decode cL_texts 105 = .ok (.ldc2_w 165, 3) := by decide +kernel
theorem dL_texts_108 : decode cL_texts 108 = .ok (.lconst 0, 1) := by decide +kernel
theorem dL_texts_109 : decode cL_texts 109 = .ok (.iconst 2, 1) := by decide +kernel
theorem dL_texts_110 : decode cL_texts 110 = .ok (.invokestatic 147, 3) := by decide +kernel
theorem dL_texts_113 : decode cL_texts 113 = .ok (.ifCond .ne 5, 3) := by decide +kernel
theorem dL_texts_116 : decode cL_texts 116 = .ok (.iconst 0, 1) := by decide +kernel
theorem dL_texts_117 : decode cL_texts 117 = .ok (.ireturn, 1) := by decide +kernel
theorem dL_texts_118 : decode cL_texts 118 = .ok (.aload_n 0, 1) := by decide +kernel
theorem dL_texts_119 : decode cL_texts 119 = .ok (.ldc2_w 167, 3) := by decide +kernel
theorem dL_texts_122 : decode cL_texts 122 = .ok (.lconst 0, 1) := by decide +kernel
theorem dL_texts_123 : decode cL_texts 123 = .ok (.iconst 5, 1) := by decide +kernel
theorem dL_texts_124 : decode cL_texts 124 = .ok (.invokestatic 147, 3) := by decide +kernel
theorem dL_texts_127 : decode cL_texts 127 = .ok (.ifCond .eq 100, 3) := by decide +kernel
theorem dL_texts_130 : decode cL_texts 130 = .ok (.aload_n 0, 1) := by decide +kernel
theorem dL_texts_131 : decode cL_texts 131 = .ok (.ldc2_w 169, 3) := by decide +kernel
theorem dL_texts_134 : decode cL_texts 134 = .ok (.lconst 0, 1) := by decide +kernel
theorem dL_texts_135 : decode cL_texts 135 = .ok (.bipush 8, 2) := by decide +kernel
theorem dL_texts_137 : decode cL_texts 137 = .ok (.invokestatic 147, 3) := by decide +kernel
theorem dL_texts_140 : decode cL_texts 140 = .ok (.ifCond .eq 87, 3) := by decide +kernel
theorem dL_texts_143 : decode cL_texts 143 = .ok (.aload_n 0, 1) := by decide +kernel
theorem dL_texts_144 : decode cL_texts 144 = .ok (.ldc2_w 171, 3) := by decide +kernel
theorem dL_texts_147 : decode cL_texts 147 = .ok (.lconst 0, 1) := by decide +kernel
theorem dL_texts_148 : decode cL_texts 148 = .ok (.iconst 0, 1) := by decide +kernel
theorem dL_texts_149 : decode cL_texts 149 = .ok (.invokestatic 147, 3) := by decide +kernel
theorem dL_texts_152 : decode cL_texts 152 = .ok (.ifCond .eq 75, 3) := by decide +kernel
theorem dL_texts_155 : decode cL_texts 155 = .ok (.aload_n 0, 1) := by decide +kernel
theorem dL_texts_156 : decode cL_texts 156 = .ok (.ldc2_w 173, 3) := by decide +kernel
theorem dL_texts_159 : decode cL_texts 159 = .ok (.lconst 0, 1) := by decide +kernel
theorem dL_texts_160 : decode cL_texts 160 = .ok (.iconst 2, 1) := by decide +kernel
theorem dL_texts_161 : decode cL_texts 161 = .ok (.invokestatic 147, 3) := by decide +kernel
theorem dL_texts_164 : decode cL_texts 164 = .ok (.ifCond .eq 63, 3) := by decide +kernel
theorem dL_texts_167 : decode cL_texts 167 = .ok (.aload_n 0, 1) := by decide +kernel
theorem dL_texts_168 : decode cL_texts 168 = .ok (.ldc2_w 175, 3) := by decide +kernel
theorem dL_texts_171 : decode cL_texts 171 = .ok (.lconst 0, 1) := by decide +kernel
theorem dL_texts_172 : decode cL_texts 172 = .ok (.bipush 6, 2) := by decide +kernel
theorem dL_texts_174 : decode cL_texts 174 = .ok (.invokestatic 147, 3) := by decide +kernel
theorem dL_texts_177 : decode cL_texts 177 = .ok (.ifCond .eq 50, 3) := by decide +kernel
theorem dL_texts_180 : decode cL_texts 180 = .ok (.aload_n 0, 1) := by decide +kernel
theorem dL_texts_181 : decode cL_texts 181 = .ok (.ldc2_w 177, 3) := by decide +kernel
theorem dL_texts_184 : decode cL_texts 184 = .ok (.lconst 0, 1) := by decide +kernel
theorem dL_texts_185 : decode cL_texts 185 = .ok (.iconst 2, 1) := by decide +kernel
theorem dL_texts_186 : decode cL_texts 186 = .ok (.invokestatic 147, 3) := by decide +kernel
theorem dL_texts_189 : decode cL_texts 189 = .ok (.ifCond .eq 38, 3) := by decide +kernel
theorem dL_texts_192 : decode cL_texts 192 = .ok (.aload_n 0, 1) := by decide +kernel
theorem dL_texts_193 : decode cL_texts 193 = .ok (.ldc2_w 179, 3) := by decide +kernel
theorem dL_texts_196 : decode cL_texts 196 = .ok (.lconst 0, 1) := by decide +kernel
theorem dL_texts_197 : decode cL_texts 197 = .ok (.iconst 4, 1) := by decide +kernel
theorem dL_texts_198 : decode cL_texts 198 = .ok (.invokestatic 147, 3) := by decide +kernel
theorem dL_texts_201 : decode cL_texts 201 = .ok (.ifCond .eq 26, 3) := by decide +kernel
theorem dL_texts_204 : decode cL_texts 204 = .ok (.aload_n 0, 1) := by decide +kernel
theorem dL_texts_205 : decode cL_texts 205 = .ok (.lconst 0, 1) := by decide +kernel
theorem dL_texts_206 : decode cL_texts 206 = .ok (.lconst 0, 1) := by decide +kernel
theorem dL_texts_207 : decode cL_texts 207 = .ok (.iconst 0, 1) := by decide +kernel
theorem dL_texts_208 : decode cL_texts 208 = .ok (.invokestatic 147, 3) := by decide +kernel
theorem dL_texts_211 : decode cL_texts 211 = .ok (.ifCond .eq 16, 3) := by decide +kernel
theorem dL_texts_214 : decode cL_texts 214 = .ok (.aload_n 0, 1) := by decide +kernel
theorem dL_texts_215 : decode cL_texts 215 = .ok (.ldc2_w 181, 3) := by decide +kernel
theorem dL_texts_218 : decode cL_texts 218 = .ok (.lconst 0, 1) := by decide +kernel
theorem dL_texts_219 : decode cL_texts 219 = .ok (.bipush 8, 2) := by decide +kernel
theorem dL_texts_221 : decode cL_texts 221 = .ok (.invokestatic 147, 3) := by decide +kernel
theorem dL_texts_224 : decode cL_texts 224 = .ok (.ifCond .ne 5, 3) := by decide +kernel
theorem dL_texts_227 : decode cL_texts 227 = .ok (.iconst 0, 1) := by decide +kernel
theorem dL_texts_228 : decode cL_texts 228 = .ok (.ireturn, 1) := by decide +kernel
theorem dL_texts_229 : decode cL_texts 229 = .ok (.aload_n 0, 1) := by decide +kernel
theorem dL_texts_230 : decode cL_texts 230 = .ok (.invokevirtual 135, 3) := by decide +kernel
theorem dL_texts_233 : decode cL_texts 233 = .ok (.bipush 8, 2) := by decide +kernel
theorem dL_texts_235 : decode cL_texts 235 = .ok (.if_icmp .ne 204, 3) := by decide +kernel
theorem dL_texts_238 : decode cL_texts 238 = .ok (.aload_n 0, 1) := by decide +kernel
theorem dL_texts_239 : decode cL_texts 239 = .ok (.bipush 9, 2) := by decide +kernel
theorem dL_texts_241 : decode cL_texts 241 = .ok (.iconst 0, 1) := by decide +kernel
theorem dL_texts_242 : decode cL_texts 242 = .ok (.iconst 0, 1) := by decide +kernel
theorem dL_texts_243 : decode cL_texts 243 = .ok (.invokestatic 91, 3) := by decide +kernel
theorem dL_texts_246 : decode cL_texts 246 = .ok (.bipush (-12), 2) := by decide +kernel
theorem dL_texts_248 : decode cL_texts 248 = .ok (.if_icmp .ne 191, 3) := by decide +kernel
theorem dL_texts_251 : decode cL_texts 251 = .ok (.aload_n 0, 1) := by decide +kernel
theorem dL_texts_252 : decode cL_texts 252 = .ok (.ldc2_w 183, 3) := by decide +kernel
theorem dL_texts_255 : decode cL_texts 255 = .ok (.invokestatic 138, 3) := by decide +kernel
theorem dL_texts_258 : decode cL_texts 258 = .ok (.ifCond .eq 181, 3) := by decide +kernel
theorem dL_texts_261 : decode cL_texts 261 = .ok (.aload_n 0, 1) := by decide +kernel
theorem dL_texts_262 : decode cL_texts 262 = .ok (.bipush 9, 2) := by decide +kernel
theorem dL_texts_264 : decode cL_texts 264 = .ok (.iconst 0, 1) := by decide +kernel
theorem dL_texts_265 : decode cL_texts 265 = .ok (.iconst 0, 1) := by decide +kernel
theorem dL_texts_266 : decode cL_texts 266 = .ok (.invokestatic 91, 3) := by decide +kernel
theorem dL_texts_269 : decode cL_texts 269 = .ok (.bipush (-12), 2) := by decide +kernel
theorem dL_texts_271 : decode cL_texts 271 = .ok (.if_icmp .ne 168, 3) := by decide +kernel
theorem dL_texts_274 : decode cL_texts 274 = .ok (.aload_n 0, 1) := by decide +kernel
theorem dL_texts_275 : decode cL_texts 275 = .ok (.ldc2_w 185, 3) := by decide +kernel
theorem dL_texts_278 : decode cL_texts 278 = .ok (.invokestatic 138, 3) := by decide +kernel
theorem dL_texts_281 : decode cL_texts 281 = .ok (.ifCond .eq 158, 3) := by decide +kernel
theorem dL_texts_284 : decode cL_texts 284 = .ok (.aload_n 0, 1) := by decide +kernel
theorem dL_texts_285 : decode cL_texts 285 = .ok (.invokevirtual 142, 3) := by decide +kernel
theorem dL_texts_288 : decode cL_texts 288 = .ok (.bipush 13, 2) := by decide +kernel
theorem dL_texts_290 : decode cL_texts 290 = .ok (.if_icmp .ne 149, 3) := by decide +kernel
theorem dL_texts_293 : decode cL_texts 293 = .ok (.aload_n 0, 1) := by decide +kernel
theorem dL_texts_294 : decode cL_texts 294 = .ok (.invokevirtual 41, 3) := by decide +kernel
theorem dL_texts_297 : decode cL_texts 297 = .ok (.iconst 2, 1) := by decide +kernel
theorem dL_texts_298 : decode cL_texts 298 = .ok (.if_icmp .ne 141, 3) := by decide +kernel
theorem dL_texts_301 : decode cL_texts 301 = .ok (.aload_n 0, 1) := by decide +kernel
theorem dL_texts_302 : decode cL_texts 302 = .ok (.invokevirtual 135, 3) := by decide +kernel
theorem dL_texts_305 : decode cL_texts 305 = .ok (.ifCond .ne 134, 3) := by decide +kernel
theorem dL_texts_308 : decode cL_texts 308 = .ok (.aload_n 0, 1) := by decide +kernel
theorem dL_texts_309 : decode cL_texts 309 = .ok (.iconst 3, 1) := by decide +kernel
theorem dL_texts_310 : decode cL_texts 310 = .ok (.invokevirtual 60, 3) := by decide +kernel
theorem dL_texts_313 : decode cL_texts 313 = .ok (.bipush 20, 2) := by decide +kernel
theorem dL_texts_315 : decode cL_texts 315 = .ok (.if_icmp .ne 124, 3) := by decide +kernel
theorem dL_texts_318 : decode cL_texts 318 = .ok (.aload_n 0, 1) := by decide +kernel
theorem dL_texts_319 : decode cL_texts 319 = .ok (.iconst 1, 1) := by decide +kernel
theorem dL_texts_320 : decode cL_texts 320 = .ok (.invokevirtual 60, 3) := by decide +kernel
theorem dL_texts_323 : decode cL_texts 323 = .ok (.ifCond .ne 116, 3) := by decide +kernel
theorem dL_texts_326 : decode cL_texts 326 = .ok (.aload_n 0, 1) := by decide +kernel
theorem dL_texts_327 : decode cL_texts 327 = .ok (.bipush 13, 2) := by decide +kernel
theorem dL_texts_329 : decode cL_texts 329 = .ok (.invokevirtual 60, 3) := by decide +kernel
theorem dL_texts_332 : decode cL_texts 332 = .ok (.iconst 1, 1) := by decide +kernel
theorem dL_texts_333 : decode cL_texts 333 = .ok (.if_icmp .ne 106, 3) := by decide +kernel
theorem dL_texts_336 : decode cL_texts 336 = .ok (.aload_n 0, 1) := by decide +kernel
theorem dL_texts_337 : decode cL_texts 337 = .ok (.ldc2_w 187, 3) := by decide +kernel
theorem dL_texts_340 : decode cL_texts 340 = .ok (.invokestatic 138, 3) := by decide +kernel
theorem dL_texts_343 : decode cL_texts 343 = .ok (.ifCond .eq 96, 3) := by decide +kernel
theorem dL_texts_346 : decode cL_texts 346 = .ok (.aload_n 0, 1) := by decide +kernel
theorem dL_texts_347 : decode cL_texts 347 = .ok (.ldc2_w 189, 3) := by decide +kernel
theorem dL_texts_350 : decode cL_texts 350 = .ok (.invokestatic 138, 3) := by decide +kernel
theorem dL_texts_353 : decode cL_texts 353 = .ok (.ifCond .eq 86, 3) := by decide +kernel
theorem dL_texts_356 : decode cL_texts 356 = .ok (.aload_n 0, 1) := by decide +kernel
theorem dL_texts_357 : decode cL_texts 357 = .ok (.invokevirtual 41, 3) := by decide +kernel
theorem dL_texts_360 : decode cL_texts 360 = .ok (.iconst 5, 1) := by decide +kernel
theorem dL_texts_361 : decode cL_texts 361 = .ok (.if_icmp .ne 78, 3) := by decide +kernel
theorem dL_texts_364 : decode cL_texts 364 = .ok (.aload_n 0, 1) := by decide +kernel
theorem dL_texts_365 : decode cL_texts 365 = .ok (.iconst 0, 1) := by decide +kernel
theorem dL_texts_366 : decode cL_texts 366 = .ok (.invokevirtual 60, 3) := by decide +kernel
theorem dL_texts_369 : decode cL_texts 369 = .ok (.bipush 30, 2) := by decide +kernel
theorem dL_texts_371 : decode cL_texts 371 = .ok (.if_icmp .ne 68, 3) := by decide +kernel
theorem dL_texts_374 : decode cL_texts 374 = .ok (.aload_n 0, 1) := by decide +kernel
theorem dL_texts_375 : decode cL_texts 375 = .ok (.iconst 1, 1) := by decide +kernel
theorem dL_texts_376 : decode cL_texts 376 = .ok (.invokevirtual 60, 3) := by decide +kernel
theorem dL_texts_379 : decode cL_texts 379 = .ok (.iconst 1, 1) := by decide +kernel
theorem dL_texts_380 : decode cL_texts 380 = .ok (.if_icmp .ne 59, 3) := by decide +kernel
theorem dL_texts_383 : decode cL_texts 383 = .ok (.aload_n 0, 1) := by decide +kernel
theorem dL_texts_384 : decode cL_texts 384 = .ok (.bipush 7, 2) := by decide +kernel
theorem dL_texts_386 : decode cL_texts 386 = .ok (.invokevirtual 60, 3) := by decide +kernel
theorem dL_texts_389 : decode cL_texts 389 = .ok (.bipush 35, 2) := by decide +kernel
theorem dL_texts_391 : decode cL_texts 391 = .ok (.if_icmp .ne 48, 3) := by decide +kernel
theorem dL_texts_394 : decode cL_texts 394 = .ok (.aload_n 0, 1) := by decide +kernel
theorem dL_texts_395 : decode cL_texts 395 = .ok (.iconst 1, 1) := by decide +kernel
theorem dL_texts_396 : decode cL_texts 396 = .ok (.iconst 0, 1) := by decide +kernel
theorem dL_texts_397 : decode cL_texts 397 = .ok (.invokevirtual 53, 3) := by decide +kernel
theorem dL_texts_400 : decode cL_texts 400 = .ok (.iconst 3, 1) := by decide +kernel
theorem dL_texts_401 : decode cL_texts 401 = .ok (.if_icmp .ne 38, 3) := by decide +kernel
theorem dL_texts_404 : decode cL_texts 404 = .ok (.aload_n 0, 1) := by decide +kernel
theorem dL_texts_405 : decode cL_texts 405 = .ok (.bipush 11, 2) := by decide +kernel
theorem dL_texts_407 : decode cL_texts 407 = .ok (.invokevirtual 60, 3) := by decide +kernel
theorem dL_texts_410 : decode cL_texts 410 = .ok (.iconst 1, 1) := by decide +kernel
theorem dL_texts_411 : decode cL_texts 411 = .ok (.if_icmp .ne 28, 3) := by decide +kernel
theorem dL_texts_414 : decode cL_texts 414 = .ok (.aload_n 0, 1) := by decide +kernel
theorem dL_texts_415 : decode cL_texts 415 = .ok (.invokevirtual 47, 3) := by decide +kernel
theorem dL_texts_418 : decode cL_texts 418 = .ok (.iconst 1, 1) := by decide +kernel
theorem dL_texts_419 : decode cL_texts 419 = .ok (.if_icmp .ne 20, 3) := by decide +kernel
theorem dL_texts_422 : decode cL_texts 422 = .ok (.aload_n 0, 1) := by decide +kernel
theorem dL_texts_423 : decode cL_texts 423 = .ok (.iconst 3, 1) := by decide +kernel
theorem dL_texts_424 : decode cL_texts 424 = .ok (.invokevirtual 60, 3) := by decide +kernel
theorem dL_texts_427 : decode cL_texts 427 = .ok (.bipush 20, 2) := by decide +kernel
theorem dL_texts_429 : decode cL_texts 429 = .ok (.if_icmp .ne 10, 3) := by decide +kernel
theorem dL_texts_432 : decode cL_texts 432 = .ok (.aload_n 0, 1) := by decide +kernel
theorem dL_texts_433 : decode cL_texts 433 = .ok (.invokevirtual 47, 3) := by decide +kernel
theorem dL_texts_436 : decode cL_texts 436 = .ok (.ifCond .eq 5, 3) := by decide +kernel
theorem dL_texts_439 : decode cL_texts 439 = .ok (.iconst 0, 1) := by decide +kernel
theorem dL_texts_440 : decode cL_texts 440 = .ok (.ireturn, 1) := by decide +kernel
theorem dL_texts_441 : decode cL_texts 441 = .ok (.iconst 0, 1) := by decide +kernel
theorem dL_texts_442 : decode cL_texts 442 = .ok (.istore_n 1, 1) := by decide +kernel
theorem dL_texts_443 : decode cL_texts 443 = .ok (.iload_n 1, 1) := by decide +kernel
theorem dL_texts_444 : decode cL_texts 444 = .ok (.bipush 30, 2) := by decide +kernel
theorem dL_texts_446 : decode cL_texts 446 = .ok (.if_icmp .ge 39, 3) := by decide +kernel
theorem dL_texts_449 : decode cL_texts 449 = .ok (.aload_n 0, 1) := by decide +kernel
theorem dL_texts_450 : decode cL_texts 450 = .ok (.bipush 120, 2) := by decide +kernel
theorem dL_texts_452 : decode cL_texts 452 = .ok (.invokevirtual 38, 3) := by decide +kernel
theorem dL_texts_455 : decode cL_texts 455 = .ok (.iconst 2, 1) := by decide +kernel
theorem dL_texts_456 : decode cL_texts 456 = .ok (.iload_n 1, 1) := by decide +kernel
theorem dL_texts_457 : decode cL_texts 457 = .ok (.imul, 1) := by decide +kernel
theorem dL_texts_458 : decode cL_texts 458 = .ok (.iconst 1, 1) := by decide +kernel
theorem dL_texts_459 : decode cL_texts 459 = .ok (.iadd, 1) := by decide +kernel
theorem dL_texts_460 : decode cL_texts 460 = .ok (.if_icmp .ne 17, 3) := by decide +kernel
theorem dL_texts_463 : decode cL_texts 463 = .ok (.aload_n 0, 1) := by decide +kernel
theorem dL_texts_464 : decode cL_texts 464 = .ok (.bipush 59, 2) := by decide +kernel
theorem dL_texts_466 : decode cL_texts 466 = .ok (.invokevirtual 38, 3) := by decide +kernel
theorem dL_texts_469 : decode cL_texts 469 = .ok (.iconst 2, 1) := by decide +kernel
theorem dL_texts_470 : decode cL_texts 470 = .ok (.iload_n 1, 1) := by decide +kernel
theorem dL_texts_471 : decode cL_texts 471 = .ok (.imul, 1) := by decide +kernel
theorem dL_texts_472 : decode cL_texts 472 = .ok (.iconst 2, 1) := by decide +kernel
theorem dL_texts_473 : decode cL_texts 473 = .ok (.iadd, 1) := by decide +kernel
theorem dL_texts_474 : decode cL_texts 474 = .ok (.if_icmp .eq 5, 3) := by decide +kernel
theorem dL_texts_477 : decode cL_texts 477 = .ok (.iconst 0, 1) := by decide +kernel
theorem dL_texts_478 : decode cL_texts 478 = .ok (.ireturn, 1) := by decide +kernel
theorem dL_texts_479 : decode cL_texts 479 = .ok (.iinc 1 1, 3) := by decide +kernel
theorem dL_texts_482 : decode cL_texts 482 = .ok (.goto (-39), 3) := by decide +kernel
theorem dL_texts_485 : decode cL_texts 485 = .ok (.aload_n 0, 1) := by decide +kernel
theorem dL_texts_486 : decode cL_texts 486 = .ok (.bipush 8, 2) := by decide +kernel
theorem dL_texts_488 : decode cL_texts 488 = .ok (.bipush 120, 2) := by decide +kernel
theorem dL_texts_490 : decode cL_texts 490 = .ok (.iconst 0, 1) := by decide +kernel
theorem dL_texts_491 : decode cL_texts 491 = .ok (.invokestatic 91, 3) := by decide +kernel
theorem dL_texts_494 : decode cL_texts 494 = .ok (.bipush (-13), 2) := by decide +kernel
theorem dL_texts_496 : decode cL_texts 496 = .ok (.if_icmp .ne 56, 3) := by decide +kernel
theorem dL_texts_499 : decode cL_texts 499 = .ok (.aload_n 0, 1) := by decide +kernel
theorem dL_texts_500 : decode cL_texts 500 = .ok (.invokevirtual 142, 3) := by decide +kernel
theorem dL_texts_503 : decode cL_texts 503 = .ok (.bipush 60, 2) := by decide +kernel
theorem dL_texts_505 : decode cL_texts 505 = .ok (.if_icmp .ne 47, 3) := by decide +kernel
theorem dL_texts_508 : decode cL_texts 508 = .ok (.aload_n 0, 1) := by decide +kernel
theorem dL_texts_509 : decode cL_texts 509 = .ok (.bipush 9, 2) := by decide +kernel
theorem dL_texts_511 : decode cL_texts 511 = .ok (.iconst 0, 1) := by decide +kernel
theorem dL_texts_512 : decode cL_texts 512 = .ok (.iconst 0, 1) := by decide +kernel
theorem dL_texts_513 : decode cL_texts 513 = .ok (.invokestatic 91, 3) := by decide +kernel
theorem dL_texts_516 : decode cL_texts 516 = .ok (.bipush (-12), 2) := by decide +kernel
theorem dL_texts_518 : decode cL_texts 518 = .ok (.if_icmp .ne 34, 3) := by decide +kernel
theorem dL_texts_521 : decode cL_texts 521 = .ok (.aload_n 0, 1) := by decide +kernel
theorem dL_texts_522 : decode cL_texts 522 = .ok (.invokevirtual 135, 3) := by decide +kernel
theorem dL_texts_525 : decode cL_texts 525 = .ok (.bipush 60, 2) := by decide +kernel
theorem dL_texts_527 : decode cL_texts 527 = .ok (.if_icmp .ne 25, 3) := by decide +kernel
theorem dL_texts_530 : decode cL_texts 530 = .ok (.aload_n 0, 1) := by decide +kernel
theorem dL_texts_531 : decode cL_texts 531 = .ok (.bipush 8, 2) := by decide +kernel
theorem dL_texts_533 : decode cL_texts 533 = .ok (.invokevirtual 60, 3) := by decide +kernel
theorem dL_texts_536 : decode cL_texts 536 = .ok (.ifCond .ne 16, 3) := by decide +kernel
theorem dL_texts_539 : decode cL_texts 539 = .ok (.aload_n 0, 1) := by decide +kernel
theorem dL_texts_540 : decode cL_texts 540 = .ok (.bipush 13, 2) := by decide +kernel
theorem dL_texts_542 : decode cL_texts 542 = .ok (.invokevirtual 60, 3) := by decide +kernel
theorem dL_texts_545 : decode cL_texts 545 = .ok (.ifCond .ne 7, 3) := by decide +kernel
theorem dL_texts_548 : decode cL_texts 548 = .ok (.iconst 1, 1) := by decide +kernel
theorem dL_texts_549 : decode cL_texts 549 = .ok (.goto 4, 3) := by decide +kernel
theorem dL_texts_552 : decode cL_texts 552 = .ok (.iconst 0, 1) := by decide +kernel
theorem dL_texts_553 : decode cL_texts 553 = .ok (.ireturn, 1) := by decide +kernel
