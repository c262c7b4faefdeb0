set_option maxRecDepth 20000 in
theorem ggL_refused_L_refusesAny_p12 : GoodIn wsL_refused wsL_refusesAny_r13 := goodIn_r _ [464, 465, 466, 467, 468, 469, 470, 471, 472, 473, 474, 475, 476, 477, 478, 479, 356, 357, 358, 480, 481, 482, 483, 484] (by decide +kernel) (by decide +kernel)
set_option maxRecDepth 20000 in
theorem ggL_refused_L_refusesAny_p13 : GoodIn wsL_refused wsL_refusesAny_r14 := goodIn_r _ [485, 486, 487, 355, 488, 489, 490, 491, 492, 493, 494, 495, 7, 496, 210, 497, 498, 499, 500, 61, 62, 63, 65, 501] (by decide +kernel) (by decide +kernel)
set_option maxRecDepth 20000 in
theorem ggL_refused_L_refusesAny_p14 : GoodIn wsL_refused wsL_refusesAny_r15 := goodIn_r _ [502, 503, 504, 505, 94, 95, 96, 97, 98, 99, 101, 103, 104, 105, 106, 109, 116, 117, 118, 119, 132, 506, 507, 508] (by decide +kernel) (by decide +kernel)
set_option maxRecDepth 20000 in
theorem ggL_refused_L_refusesAny_p15 : GoodIn wsL_refused wsL_refusesAny_r16 := goodIn_r _ [509, 151, 510, 511, 512, 513, 156, 160, 161, 162, 163, 514, 13, 14, 15, 20, 22, 23, 25, 26, 27, 28, 29, 31] (by decide +kernel) (by decide +kernel)
set_option maxRecDepth 20000 in
theorem ggL_refused_L_refusesAny_p16 : GoodIn wsL_refused wsL_refusesAny_r17 := goodIn_r _ [44, 53, 515, 89, 90, 91, 516, 76, 77, 78, 517, 195, 196, 197, 198, 252, 253, 254, 255, 256, 257, 258, 259, 518] (by decide +kernel) (by decide +kernel)
set_option maxRecDepth 20000 in
theorem ggL_refused_L_refusesAny_p17 : GoodIn wsL_refused wsL_refusesAny_r18 := goodIn_r _ [265, 266, 267, 268, 269, 270, 271, 272, 273, 274, 275, 276, 277, 278, 279, 280, 281, 282, 283, 284, 285, 286, 287] (by decide +kernel) (by decide +kernel)
set_option maxRecDepth 20000 in
theorem ggL_refused_L_refusesAny_p18 : GoodIn wsL_refused wsX50 := goodIn_r _ [519, 520, 521, 522, 523, 524] (by decide +kernel) (by decide +kernel)
set_option maxRecDepth 20000 in
theorem ggL_refused_L_refusesAny_p19 : GoodIn wsL_refused wsX30 := goodIn_r _ [525, 526, 527, 528, 529, 530, 531, 532, 533, 534, 535, 536, 537, 538] (by decide +kernel) (by decide +kernel)
set_option maxRecDepth 20000 in
theorem ggL_refused_L_refusesAny_p20 : GoodIn wsL_refused wsX10 := goodIn_r _ [543, 544, 545, 546] (by decide +kernel) (by decide +kernel)
set_option maxRecDepth 20000 in
theorem ggL_refused_L_refusesAny_p21 : GoodIn wsL_refused wsX00 := goodIn_r _ [547, 548, 549] (by decide +kernel) (by decide +kernel)
set_option maxRecDepth 20000 in
theorem ggL_refused_L_refusesAny_p22 : GoodIn wsL_refused wsX40 := goodIn_r _ [539, 540, 541, 542] (by decide +kernel) (by decide +kernel)
set_option maxRecDepth 20000 in
theorem ggL_refused_L_refusesAny_p23 : GoodIn wsL_refused wsX20 := goodIn_r _ [550, 551, 552, 553] (by decide +kernel) (by decide +kernel)
set_option maxRecDepth 20000 in
theorem ggL_refused_L_refusesAny : GoodIn wsL_refused wsL_refusesAny := goodIn_ca (goodIn_ca (goodIn_ca (goodIn_c7 (List.mem_of_getElem? (i := 363) rfl) (goodIn_app (goodIn_app (goodIn_app (goodIn_app (goodIn_app (goodIn_app (goodIn_app ggL_refused_L_refusesAny_p0 (goodIn_app ggL_refused_L_refusesAny_p1 (goodIn_app ggL_refused_L_refusesAny_p2 (goodIn_app ggL_refused_L_refusesAny_p3 (goodIn_app ggL_refused_L_refusesAny_p4 (goodIn_app ggL_refused_L_refusesAny_p5 (goodIn_app ggL_refused_L_refusesAny_p6 (goodIn_app ggL_refused_L_refusesAny_p7 (goodIn_app ggL_refused_L_refusesAny_p8 (goodIn_app ggL_refused_L_refusesAny_p9 (goodIn_app ggL_refused_L_refusesAny_p10 (goodIn_app ggL_refused_L_refusesAny_p11 (goodIn_app ggL_refused_L_refusesAny_p12 (goodIn_app ggL_refused_L_refusesAny_p13 (goodIn_app ggL_refused_L_refusesAny_p14 (goodIn_app ggL_refused_L_refusesAny_p15 (goodIn_app ggL_refused_L_refusesAny_p16 ggL_refused_L_refusesAny_p17))))))))))))))))) ggL_refused_L_refusesAny_p18) ggL_refused_L_refusesAny_p19) ggL_refused_L_refusesAny_p20) ggL_refused_L_refusesAny_p21) ggL_refused_L_refusesAny_p22) ggL_refused_L_refusesAny_p23)) (goodIn_sub (fun _ h => List.mem_cons_of_mem _ (List.mem_append_left _ (List.mem_append_right _ h))) (by decide +kernel))) (goodIn_sub (fun _ h => List.mem_cons_of_mem _ (List.mem_append_left _ (List.mem_append_left _ (List.mem_append_right _ h)))) (by decide +kernel))) (goodIn_sub (fun _ h => List.mem_cons_of_mem _ (List.mem_append_right _ h)) (by decide +kernel))
set_option maxRecDepth 20000 in
theorem gL_refused_L_refusesAny : GoodIn wsL_refused (va_wsS RL 101 yL_refusesAny wsL_refusesAny) := goodIn_app (goodIn_of _ (by decide +kernel)) ggL_refused_L_refusesAny
theorem dL_refused_0 : decode cL_refused 0 = .ok (.aload_n 0, 1) := by decide +kernel
theorem dL_refused_1 : decode cL_refused 1 = .ok (.invokevirtual 97, 3) := by decide +kernel
theorem dL_refused_4 : decode cL_refused 4 = .ok (.lstore_n 1, 1) := by decide +kernel
theorem dL_refused_5 : decode cL_refused 5 = .ok (.aload_n 0, 1) := by decide +kernel
theorem dL_refused_6 : decode cL_refused 6 = .ok (.iconst 0, 1) := by decide +kernel
theorem dL_refused_7 : decode cL_refused 7 = .ok (.invokestatic 101, 3) := by decide +kernel
theorem dL_refused_10 : decode cL_refused 10 = .ok (.ifCond .eq 24, 3) := by decide +kernel
theorem dL_refused_13 : decode cL_refused 13 = .ok (.aload_n 0, 1) := by decide +kernel
theorem dL_refused_14 : decode cL_refused 14 = .ok (.iconst 1, 1) := by decide +kernel
theorem dL_refused_15 : decode cL_refused 15 = .ok (.invokestatic 101, 3) := by decide +kernel
theorem dL_refused_18 : decode cL_refused 18 = .ok (.ifCond .eq 16, 3) := by decide +kernel
theorem dL_refused_21 : decode cL_refused 21 = .ok (.aload_n 0, 1) := by decide +kernel
theorem dL_refused_22 : decode cL_refused 22 = .ok (.invokevirtual 97, 3) := by decide +kernel
theorem dL_refused_25 : decode cL_refused 25 = .ok (.lload_n 1, 1) := by decide +kernel
theorem dL_refused_26 : decode cL_refused 26 = .ok (.lcmp, 1) := by decide +kernel
theorem dL_refused_27 : decode cL_refused 27 = .ok (.ifCond .ne 7, 3) := by decide +kernel
theorem dL_refused_30 : decode cL_refused 30 = .ok (.iconst 1, 1) := by decide +kernel
theorem dL_refused_31 : decode cL_refused 31 = .ok (.goto 4, 3) := by decide +kernel
theorem dL_refused_34 : decode cL_refused 34 = .ok (.iconst 0, 1) := by decide +kernel
theorem dL_refused_35 : decode cL_refused 35 = .ok (.ireturn, 1) := by decide +kernel
