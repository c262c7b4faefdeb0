set_option maxRecDepth 20000 in
theorem ggL_seen_X5_section : GoodIn wsL_seen wsX5_section := goodIn_ca (goodIn_ca (goodIn_r _ [62, 63, 64, 8, 9, 10, 13, 65, 66, 6, 67, 68, 69, 70, 71, 72, 73, 74, 75, 76, 77, 78, 26, 79, 80, 81, 82, 83, 84, 85, 86, 87, 51, 88, 89, 90, 91, 92, 93, 94, 95, 96, 97, 98, 99, 100, 101, 102, 103, 37, 38, 39, 28, 29, 40, 41, 42, 33, 43, 44, 104, 46, 47, 48, 49, 50, 52, 105, 106, 107, 108, 109, 110, 111, 112, 226, 227, 228, 229, 230, 231, 232, 233, 234, 235, 236, 237, 238, 239, 240, 241, 242, 243, 244, 245, 246, 247, 248, 249, 250, 251, 252, 253] (by decide +kernel) (by decide +kernel)) (goodIn_sub (fun _ h => List.mem_cons_of_mem _ (List.mem_append_right _ h)) (by decide +kernel))) (goodIn_sub (fun _ h => List.mem_cons_of_mem _ (List.mem_append_left _ (List.mem_append_right _ h))) (by decide +kernel))
set_option maxRecDepth 20000 in
theorem gL_seen_X5_section : GoodIn wsL_seen (wsV RL 50 RX5 yX5_section wsX5_section) := goodIn_app (goodIn_of _ (by decide +kernel)) ggL_seen_X5_section
set_option maxRecDepth 20000 in
theorem ggL_seen_X5_currentOf : GoodIn wsL_seen wsX5_currentOf := goodIn_ca (goodIn_r _ [116, 63, 64, 10, 117, 65, 66, 6, 67, 118, 74, 75, 226, 227, 228, 229, 230, 231, 232, 233, 234, 235, 236, 237, 238, 239, 240, 241, 242, 243, 244, 245] (by decide +kernel) (by decide +kernel)) (goodIn_sub (fun _ h => List.mem_cons_of_mem _ (List.mem_append_right _ h)) (by decide +kernel))
set_option maxRecDepth 20000 in
theorem gL_seen_X5_currentOf : GoodIn wsL_seen (wsV RL 63 RX5 yX5_currentOf wsX5_currentOf) := goodIn_app (goodIn_of _ (by decide +kernel)) ggL_seen_X5_currentOf
set_option maxRecDepth 20000 in
theorem ggL_seen_X5_waiting : GoodIn wsL_seen wsX5_waiting := goodIn_ca (goodIn_ca (goodIn_r _ [122, 63, 64, 8, 9, 10, 65, 66, 6, 67, 123, 124, 125, 26, 126, 127, 128, 129, 130, 131, 33, 132, 35, 133, 74, 75, 226, 227, 228, 229, 230, 231, 232, 233, 234, 235, 236, 237, 238, 239, 240, 241, 242, 243, 244, 245, 250, 251, 252, 253] (by decide +kernel) (by decide +kernel)) (goodIn_sub (fun _ h => List.mem_cons_of_mem _ (List.mem_append_right _ h)) (by decide +kernel))) (goodIn_sub (fun _ h => List.mem_cons_of_mem _ (List.mem_append_left _ (List.mem_append_right _ h))) (by decide +kernel))
set_option maxRecDepth 20000 in
theorem gL_seen_X5_waiting : GoodIn wsL_seen (wsV RL 53 RX5 yX5_waiting wsX5_waiting) := goodIn_app (goodIn_of _ (by decide +kernel)) ggL_seen_X5_waiting
set_option maxRecDepth 20000 in
theorem ggL_seen_X5_deck : GoodIn wsL_seen wsX5_deck := goodIn_ca (goodIn_ca (goodIn_r _ [137, 63, 64, 8, 9, 10, 65, 66, 6, 67, 138, 139, 140, 26, 141, 28, 29, 129, 130, 131, 33, 132, 35, 133, 74, 75, 142, 143, 144, 145, 146, 226, 227, 228, 229, 230, 231, 232, 233, 234, 235, 236, 237, 238, 239, 240, 241, 242, 243, 244, 245, 250, 251, 252, 253] (by decide +kernel) (by decide +kernel)) (goodIn_sub (fun _ h => List.mem_cons_of_mem _ (List.mem_append_right _ h)) (by decide +kernel))) (goodIn_sub (fun _ h => List.mem_cons_of_mem _ (List.mem_append_left _ (List.mem_append_right _ h))) (by decide +kernel))
set_option maxRecDepth 20000 in
theorem gL_seen_X5_deck : GoodIn wsL_seen (wsV RL 56 RX5 yX5_deck wsX5_deck) := goodIn_app (goodIn_of _ (by decide +kernel)) ggL_seen_X5_deck
set_option maxRecDepth 20000 in
theorem ggL_seen_X5_setting : GoodIn wsL_seen wsX5_setting := goodIn_ca (goodIn_r _ [150, 63, 64, 10, 151, 65, 66, 6, 67, 118, 74, 75, 226, 227, 228, 229, 230, 231, 232, 233, 234, 235, 236, 237, 238, 239, 240, 241, 242, 243, 244, 245] (by decide +kernel) (by decide +kernel)) (goodIn_sub (fun _ h => List.mem_cons_of_mem _ (List.mem_append_right _ h)) (by decide +kernel))
set_option maxRecDepth 20000 in
theorem gL_seen_X5_setting : GoodIn wsL_seen (wsV RL 66 RX5 yX5_setting wsX5_setting) := goodIn_app (goodIn_of _ (by decide +kernel)) ggL_seen_X5_setting
set_option maxRecDepth 20000 in
theorem ggL_seen_X5_lasts : GoodIn wsL_seen wsX5_lasts := goodIn_r _ [155, 156, 10, 157, 158, 159, 26, 160, 97, 81, 127, 128, 28, 29, 80, 98, 161, 162, 163, 164, 165, 166, 167, 6, 168, 169, 110, 51, 111, 170, 171, 172, 173, 174, 175, 176, 33, 177, 133, 146, 35, 44, 178, 179, 180, 71, 181, 73, 112, 182, 183, 184, 185, 186, 187, 188, 104, 46, 47, 48, 49, 50, 52, 40, 41, 42, 43, 74, 75, 93, 94, 95, 96, 99, 100, 101, 102, 103, 37, 38, 39, 189, 190, 191, 192, 193, 106, 107, 108, 109, 86, 87, 88, 194, 83, 84, 85, 195, 196, 197, 198, 199, 200, 201, 202, 203, 204, 205, 206, 207, 208, 30, 31, 32, 34, 226, 227, 228, 229, 230, 231, 232, 233, 234, 235, 236, 237, 238, 239, 240, 241, 242, 243, 244, 245, 250, 251, 252, 253, 246, 247, 248, 249] (by decide +kernel) (by decide +kernel)
set_option maxRecDepth 20000 in
theorem gL_seen_X5_lasts : GoodIn wsL_seen (wsV RL 85 RX5 yX5_lasts wsX5_lasts) := goodIn_app (goodIn_of _ (by decide +kernel)) ggL_seen_X5_lasts
set_option maxRecDepth 20000 in
theorem ggL_seen_X5_needed : GoodIn wsL_seen wsX5_needed := goodIn_r _ [212, 10, 156, 184, 185, 186, 26, 187, 81, 80, 188, 104, 46, 47, 48, 28, 29, 49, 50, 51, 52, 40, 41, 42, 33, 43, 44, 74, 6, 75, 93, 94, 95, 96, 97, 98, 99, 100, 101, 102, 103, 37, 38, 39, 189, 190, 191, 71, 192, 193, 106, 107, 108, 109, 110, 111, 112, 86, 87, 88, 194, 83, 84, 85, 73, 213, 214, 215, 216, 217, 157, 158, 159, 160, 127, 128, 161, 162, 163, 164, 165, 166, 167, 168, 169, 170, 171, 172, 173, 174, 175, 176, 177, 133, 146, 35, 178, 179, 180, 181, 182, 183, 218, 219, 220, 221, 222, 223, 224, 225, 203, 204, 205, 206, 207, 208, 30, 31, 32, 34, 226, 227, 228, 229, 230, 231, 232, 233, 234, 235, 236, 237, 238, 239, 240, 241, 242, 243, 244, 245, 246, 247, 248, 249, 250, 251, 252, 253] (by decide +kernel) (by decide +kernel)
set_option maxRecDepth 20000 in
theorem gL_seen_X5_needed : GoodIn wsL_seen (wsV RL 88 RX5 yX5_needed wsX5_needed) := goodIn_app (goodIn_of _ (by decide +kernel)) ggL_seen_X5_needed
theorem dL_seen_0 : decode cL_seen 0 = .ok (.ldc2_w 81, 3) := by decide +kernel
theorem dL_seen_3 : decode cL_seen 3 = .ok (.lstore_n 1, 1) := by decide +kernel
theorem dL_seen_4 : decode cL_seen 4 = .ok (.iconst 0, 1) := by decide +kernel
theorem dL_seen_5 : decode cL_seen 5 = .ok (.istore_n 3, 1) := by decide +kernel
theorem dL_seen_6 : decode cL_seen 6 = .ok (.iload_n 3, 1) := by decide +kernel
theorem dL_seen_7 : decode cL_seen 7 = .ok (.bipush 13, 2) := by decide +kernel
theorem dL_seen_9 : decode cL_seen 9 = .ok (.if_icmp .ge 22, 3) := by decide +kernel
theorem dL_seen_12 : decode cL_seen 12 = .ok (.ldc2_w 83, 3) := by decide +kernel
theorem dL_seen_15 : decode cL_seen 15 = .ok (.lload_n 1, 1) := by decide +kernel
theorem dL_seen_16 : decode cL_seen 16 = .ok (.lmul, 1) := by decide +kernel
theorem dL_seen_17 : decode cL_seen 17 = .ok (.aload_n 0, 1) := by decide +kernel
theorem dL_seen_18 : decode cL_seen 18 = .ok (.iload_n 3, 1) := by decide +kernel
theorem dL_seen_19 : decode cL_seen 19 = .ok (.invokevirtual 60, 3) := by decide +kernel
theorem dL_seen_22 : decode cL_seen 22 = .ok (.i2l, 1) := by decide +kernel
theorem dL_seen_23 : decode cL_seen 23 = .ok (.ladd, 1) := by decide +kernel
theorem dL_seen_24 : decode cL_seen 24 = .ok (.lstore_n 1, 1) := by decide +kernel
theorem dL_seen_25 : decode cL_seen 25 = .ok (.iinc 3 1, 3) := by decide +kernel
theorem dL_seen_28 : decode cL_seen 28 = .ok (.goto (-22), 3) := by decide +kernel
theorem dL_seen_31 : decode cL_seen 31 = .ok (.iconst 0, 1) := by decide +kernel
theorem dL_seen_32 : decode cL_seen 32 = .ok (.istore_n 3, 1) := by decide +kernel
theorem dL_seen_33 : decode cL_seen 33 = .ok (.iload_n 3, 1) := by decide +kernel
theorem dL_seen_34 : decode cL_seen 34 = .ok (.bipush 60, 2) := by decide +kernel
theorem dL_seen_36 : decode cL_seen 36 = .ok (.if_icmp .ge 27, 3) := by decide +kernel
theorem dL_seen_39 : decode cL_seen 39 = .ok (.ldc2_w 83, 3) := by decide +kernel
theorem dL_seen_42 : decode cL_seen 42 = .ok (.lload_n 1, 1) := by decide +kernel
theorem dL_seen_43 : decode cL_seen 43 = .ok (.lmul, 1) := by decide +kernel
theorem dL_seen_44 : decode cL_seen 44 = .ok (.aload_n 0, 1) := by decide +kernel
theorem dL_seen_45 : decode cL_seen 45 = .ok (.iload_n 3, 1) := by decide +kernel
theorem dL_seen_46 : decode cL_seen 46 = .ok (.iconst 3, 1) := by decide +kernel
theorem dL_seen_47 : decode cL_seen 47 = .ok (.idiv, 1) := by decide +kernel
theorem dL_seen_48 : decode cL_seen 48 = .ok (.iload_n 3, 1) := by decide +kernel
theorem dL_seen_49 : decode cL_seen 49 = .ok (.iconst 3, 1) := by decide +kernel
theorem dL_seen_50 : decode cL_seen 50 = .ok (.irem, 1) := by decide +kernel
theorem dL_seen_51 : decode cL_seen 51 = .ok (.invokevirtual 50, 3) := by decide +kernel
theorem dL_seen_54 : decode cL_seen 54 = .ok (.i2l, 1) := by decide +kernel
theorem dL_seen_55 : decode cL_seen 55 = .ok (.ladd, 1) := by decide +kernel
theorem dL_seen_56 : decode cL_seen 56 = .ok (.lstore_n 1, 1) := by decide +kernel
theorem dL_seen_57 : decode cL_seen 57 = .ok (.iinc 3 1, 3) := by decide +kernel
theorem dL_seen_60 : decode cL_seen 60 = .ok (.goto (-27), 3) := by decide +kernel
theorem dL_seen_63 : decode cL_seen 63 = .ok (.iconst 0, 1) := by decide +kernel
theorem dL_seen_64 : decode cL_seen 64 = .ok (.istore_n 3, 1) := by decide +kernel
theorem dL_seen_65 : decode cL_seen 65 = .ok (.iload_n 3, 1) := by decide +kernel
theorem dL_seen_66 : decode cL_seen 66 = .ok (.bipush 24, 2) := by decide +kernel
theorem dL_seen_68 : decode cL_seen 68 = .ok (.if_icmp .ge 22, 3) := by decide +kernel
theorem dL_seen_71 : decode cL_seen 71 = .ok (.ldc2_w 83, 3) := by decide +kernel
theorem dL_seen_74 : decode cL_seen 74 = .ok (.lload_n 1, 1) := by decide +kernel
theorem dL_seen_75 : decode cL_seen 75 = .ok (.lmul, 1) := by decide +kernel
theorem dL_seen_76 : decode cL_seen 76 = .ok (.aload_n 0, 1) := by decide +kernel
theorem dL_seen_77 : decode cL_seen 77 = .ok (.iload_n 3, 1) := by decide +kernel
theorem dL_seen_78 : decode cL_seen 78 = .ok (.invokevirtual 63, 3) := by decide +kernel
theorem dL_seen_81 : decode cL_seen 81 = .ok (.i2l, 1) := by decide +kernel
theorem dL_seen_82 : decode cL_seen 82 = .ok (.ladd, 1) := by decide +kernel
theorem dL_seen_83 : decode cL_seen 83 = .ok (.lstore_n 1, 1) := by decide +kernel
theorem dL_seen_84 : decode cL_seen 84 = .ok (.iinc 3 1, 3) := by decide +kernel
theorem dL_seen_87 : decode cL_seen 87 = .ok (.goto (-22), 3) := by decide +kernel
theorem dL_seen_90 : decode cL_seen 90 = .ok (.iconst 0, 1) := by decide +kernel
theorem dL_seen_91 : decode cL_seen 91 = .ok (.istore_n 3, 1) := by decide +kernel
theorem dL_seen_92 : decode cL_seen 92 = .ok (.iload_n 3, 1) := by decide +kernel
theorem dL_seen_93 : decode cL_seen 93 = .ok (.bipush 20, 2) := by decide +kernel
theorem dL_seen_95 : decode cL_seen 95 = .ok (.if_icmp .ge 52, 3) := by decide +kernel
theorem dL_seen_98 : decode cL_seen 98 = .ok (.ldc2_w 83, 3) := by decide +kernel
theorem dL_seen_101 : decode cL_seen 101 = .ok (.ldc2_w 83, 3) := by decide +kernel
theorem dL_seen_104 : decode cL_seen 104 = .ok (.lload_n 1, 1) := by decide +kernel
theorem dL_seen_105 : decode cL_seen 105 = .ok (.lmul, 1) := by decide +kernel
theorem dL_seen_106 : decode cL_seen 106 = .ok (.aload_n 0, 1) := by decide +kernel
theorem dL_seen_107 : decode cL_seen 107 = .ok (.iload_n 3, 1) := by decide +kernel
theorem dL_seen_108 : decode cL_seen 108 = .ok (.bipush 10, 2) := by decide +kernel
theorem dL_seen_110 : decode cL_seen 110 = .ok (.idiv, 1) := by decide +kernel
theorem dL_seen_111 : decode cL_seen 111 = .ok (.iload_n 3, 1) := by decide +kernel
theorem dL_seen_112 : decode cL_seen 112 = .ok (.bipush 10, 2) := by decide +kernel
theorem dL_seen_114 : decode cL_seen 114 = .ok (.irem, 1) := by decide +kernel
theorem dL_seen_115 : decode cL_seen 115 = .ok (.invokevirtual 53, 3) := by decide +kernel
theorem dL_seen_118 : decode cL_seen 118 = .ok (.i2l, 1) := by decide +kernel
theorem dL_seen_119 : decode cL_seen 119 = .ok (.ladd, 1) := by decide +kernel
theorem dL_seen_120 : decode cL_seen 120 = .ok (.lmul, 1) := by decide +kernel
theorem dL_seen_121 : decode cL_seen 121 = .ok (.aload_n 0, 1) := by decide +kernel
theorem dL_seen_122 : decode cL_seen 122 = .ok (.iload_n 3, 1) := by decide +kernel
theorem dL_seen_123 : decode cL_seen 123 = .ok (.bipush 10, 2) := by decide +kernel
theorem dL_seen_125 : decode cL_seen 125 = .ok (.idiv, 1) := by decide +kernel
theorem dL_seen_126 : decode cL_seen 126 = .ok (.iload_n 3, 1) := by decide +kernel
theorem dL_seen_127 : decode cL_seen 127 = .ok (.bipush 10, 2) := by decide +kernel
theorem dL_seen_129 : decode cL_seen 129 = .ok (.irem, 1) := by decide +kernel
theorem dL_seen_130 : decode cL_seen 130 = .ok (.iconst 2, 1) := by decide +kernel
theorem dL_seen_131 : decode cL_seen 131 = .ok (.idiv, 1) := by decide +kernel
