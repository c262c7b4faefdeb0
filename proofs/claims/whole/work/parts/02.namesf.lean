theorem dX6_loads_145 : decode cX6_loads 145 = .ok (.iload_n 3, 1) := by decide +kernel
theorem dX6_loads_146 : decode cX6_loads 146 = .ok (.ireturn, 1) := by decide +kernel
set_option maxRecDepth 20000 in
theorem ggX6_load_X6_isTwo : GoodIn wsX6_load wsX6_isTwo := goodIn_r _ [5, 6, 7, 4, 8] (by decide +kernel) (by decide +kernel)
set_option maxRecDepth 20000 in
theorem gX6_load_X6_isTwo : GoodIn wsX6_load (va_wsS RX6 93 yX6_isTwo wsX6_isTwo) := goodIn_app (goodIn_of _ (by decide +kernel)) ggX6_load_X6_isTwo
set_option maxRecDepth 20000 in
theorem ggX6_load_X6_refuses : GoodIn wsX6_load wsX6_refuses := goodIn_r _ [12, 1, 37, 38, 39, 40, 41, 42, 43, 44, 45, 46, 47, 48, 49, 50, 51, 52] (by decide +kernel) (by decide +kernel)
set_option maxRecDepth 20000 in
theorem gX6_load_X6_refuses : GoodIn wsX6_load (wsV RX6 86 RX6 yX6_refuses wsX6_refuses) := goodIn_app (goodIn_of _ (by decide +kernel)) ggX6_load_X6_refuses
set_option maxRecDepth 20000 in
theorem ggX6_load_X6_canLoad : GoodIn wsX6_load wsX6_canLoad := goodIn_r _ [16, 17, 18, 19, 4, 20, 21, 22, 23, 37, 38, 39, 40, 41, 42, 43, 44, 45, 46, 47, 48, 49, 50, 51, 52] (by decide +kernel) (by decide +kernel)
set_option maxRecDepth 20000 in
theorem gX6_load_X6_canLoad : GoodIn wsX6_load (wsV RX6 100 RX6 yX6_canLoad wsX6_canLoad) := goodIn_app (goodIn_of _ (by decide +kernel)) ggX6_load_X6_canLoad
set_option maxRecDepth 20000 in
theorem ggX6_load_X6_saves : GoodIn wsX6_load wsX6_saves := goodIn_r _ [27, 28, 29, 17, 30, 31, 4, 32, 37, 38, 39, 40, 41, 42, 43, 44, 45, 46, 47, 48, 49, 50, 51, 52] (by decide +kernel) (by decide +kernel)
set_option maxRecDepth 20000 in
theorem gX6_load_X6_saves : GoodIn wsX6_load (wsV RX6 79 RX6 yX6_saves wsX6_saves) := goodIn_app (goodIn_of _ (by decide +kernel)) ggX6_load_X6_saves
set_option maxRecDepth 20000 in
theorem ggX6_load_X6_loads : GoodIn wsX6_load wsX6_loads := goodIn_r _ [36, 17, 37, 38, 39, 40, 41, 42, 43, 44, 45, 46, 47, 48, 49, 50, 51, 52] (by decide +kernel) (by decide +kernel)
set_option maxRecDepth 20000 in
theorem gX6_load_X6_loads : GoodIn wsX6_load (wsV RX6 103 RX6 yX6_loads wsX6_loads) := goodIn_app (goodIn_of _ (by decide +kernel)) ggX6_load_X6_loads
theorem dX6_load_0 : decode cX6_load 0 = .ok (.aload_n 0, 1) := by decide +kernel
theorem dX6_load_1 : decode cX6_load 1 = .ok (.iconst 0, 1) := by decide +kernel
theorem dX6_load_2 : decode cX6_load 2 = .ok (.putfield 25, 3) := by decide +kernel
theorem dX6_load_5 : decode cX6_load 5 = .ok (.iload_n 1, 1) := by decide +kernel
theorem dX6_load_6 : decode cX6_load 6 = .ok (.invokestatic 93, 3) := by decide +kernel
theorem dX6_load_9 : decode cX6_load 9 = .ok (.ifCond .ne 9, 3) := by decide +kernel
theorem dX6_load_12 : decode cX6_load 12 = .ok (.aload_n 0, 1) := by decide +kernel
theorem dX6_load_13 : decode cX6_load 13 = .ok (.iconst 1, 1) := by decide +kernel
theorem dX6_load_14 : decode cX6_load 14 = .ok (.invokevirtual 86, 3) := by decide +kernel
theorem dX6_load_17 : decode cX6_load 17 = .ok (.ireturn, 1) := by decide +kernel
theorem dX6_load_18 : decode cX6_load 18 = .ok (.aload_n 0, 1) := by decide +kernel
theorem dX6_load_19 : decode cX6_load 19 = .ok (.iload_n 1, 1) := by decide +kernel
theorem dX6_load_20 : decode cX6_load 20 = .ok (.invokevirtual 100, 3) := by decide +kernel
theorem dX6_load_23 : decode cX6_load 23 = .ok (.ifCond .ne 9, 3) := by decide +kernel
theorem dX6_load_26 : decode cX6_load 26 = .ok (.aload_n 0, 1) := by decide +kernel
theorem dX6_load_27 : decode cX6_load 27 = .ok (.iconst 2, 1) := by decide +kernel
theorem dX6_load_28 : decode cX6_load 28 = .ok (.invokevirtual 86, 3) := by decide +kernel
theorem dX6_load_31 : decode cX6_load 31 = .ok (.ireturn, 1) := by decide +kernel
theorem dX6_load_32 : decode cX6_load 32 = .ok (.aload_n 0, 1) := by decide +kernel
theorem dX6_load_33 : decode cX6_load 33 = .ok (.invokevirtual 79, 3) := by decide +kernel
theorem dX6_load_36 : decode cX6_load 36 = .ok (.aload_n 0, 1) := by decide +kernel
theorem dX6_load_37 : decode cX6_load 37 = .ok (.iload_n 1, 1) := by decide +kernel
theorem dX6_load_38 : decode cX6_load 38 = .ok (.invokevirtual 103, 3) := by decide +kernel
theorem dX6_load_41 : decode cX6_load 41 = .ok (.ireturn, 1) := by decide +kernel
set_option maxRecDepth 20000 in
theorem ggX6_unloads_X6_onLane : GoodIn wsX6_unloads wsX6_onLane := goodIn_r _ [5] (by decide +kernel) (by decide +kernel)
set_option maxRecDepth 20000 in
theorem gX6_unloads_X6_onLane : GoodIn wsX6_unloads (va_wsS RX6 36 yX6_onLane wsX6_onLane) := goodIn_app (goodIn_of _ (by decide +kernel)) ggX6_unloads_X6_onLane
set_option maxRecDepth 20000 in
theorem ggX6_unloads_X6_ofDeck : GoodIn wsX6_unloads wsX6_ofDeck := goodIn_r _ [8] (by decide +kernel) (by decide +kernel)
set_option maxRecDepth 20000 in
theorem gX6_unloads_X6_ofDeck : GoodIn wsX6_unloads (va_wsS RX6 40 yX6_ofDeck wsX6_ofDeck) := goodIn_app (goodIn_of _ (by decide +kernel)) ggX6_unloads_X6_ofDeck
theorem dX6_unloads_0 : decode cX6_unloads 0 = .ok (.iconst 0, 1) := by decide +kernel
theorem dX6_unloads_1 : decode cX6_unloads 1 = .ok (.istore_n 1, 1) := by decide +kernel
theorem dX6_unloads_2 : decode cX6_unloads 2 = .ok (.iconst 0, 1) := by decide +kernel
theorem dX6_unloads_3 : decode cX6_unloads 3 = .ok (.istore_n 2, 1) := by decide +kernel
theorem dX6_unloads_4 : decode cX6_unloads 4 = .ok (.iload_n 2, 1) := by decide +kernel
theorem dX6_unloads_5 : decode cX6_unloads 5 = .ok (.bipush 8, 2) := by decide +kernel
theorem dX6_unloads_7 : decode cX6_unloads 7 = .ok (.if_icmp .ge 103, 3) := by decide +kernel
theorem dX6_unloads_10 : decode cX6_unloads 10 = .ok (.iload_n 2, 1) := by decide +kernel
theorem dX6_unloads_11 : decode cX6_unloads 11 = .ok (.iconst 4, 1) := by decide +kernel
theorem dX6_unloads_12 : decode cX6_unloads 12 = .ok (.irem, 1) := by decide +kernel
theorem dX6_unloads_13 : decode cX6_unloads 13 = .ok (.aload_n 0, 1) := by decide +kernel
theorem dX6_unloads_14 : decode cX6_unloads 14 = .ok (.getfield 7, 3) := by decide +kernel
theorem dX6_unloads_17 : decode cX6_unloads 17 = .ok (.iload_n 2, 1) := by decide +kernel
theorem dX6_unloads_18 : decode cX6_unloads 18 = .ok (.iconst 4, 1) := by decide +kernel
theorem dX6_unloads_19 : decode cX6_unloads 19 = .ok (.idiv, 1) := by decide +kernel
theorem dX6_unloads_20 : decode cX6_unloads 20 = .ok (.invokestatic 36, 3) := by decide +kernel
theorem dX6_unloads_23 : decode cX6_unloads 23 = .ok (.if_icmp .ge 7, 3) := by decide +kernel
theorem dX6_unloads_26 : decode cX6_unloads 26 = .ok (.iconst 1, 1) := by decide +kernel
theorem dX6_unloads_27 : decode cX6_unloads 27 = .ok (.goto 4, 3) := by decide +kernel
theorem dX6_unloads_30 : decode cX6_unloads 30 = .ok (.iconst 0, 1) := by decide +kernel
theorem dX6_unloads_31 : decode cX6_unloads 31 = .ok (.istore_n 3, 1) := by decide +kernel
theorem dX6_unloads_32 : decode cX6_unloads 32 = .ok (.iload_n 3, 1) := by decide +kernel
theorem dX6_unloads_33 : decode cX6_unloads 33 = .ok (.ifCond .eq 31, 3) := by decide +kernel
theorem dX6_unloads_36 : decode cX6_unloads 36 = .ok (.aload_n 0, 1) := by decide +kernel
theorem dX6_unloads_37 : decode cX6_unloads 37 = .ok (.getfield 7, 3) := by decide +kernel
theorem dX6_unloads_40 : decode cX6_unloads 40 = .ok (.iload_n 2, 1) := by decide +kernel
theorem dX6_unloads_41 : decode cX6_unloads 41 = .ok (.iconst 4, 1) := by decide +kernel
theorem dX6_unloads_42 : decode cX6_unloads 42 = .ok (.idiv, 1) := by decide +kernel
theorem dX6_unloads_43 : decode cX6_unloads 43 = .ok (.iload_n 2, 1) := by decide +kernel
theorem dX6_unloads_44 : decode cX6_unloads 44 = .ok (.iconst 4, 1) := by decide +kernel
theorem dX6_unloads_45 : decode cX6_unloads 45 = .ok (.irem, 1) := by decide +kernel
theorem dX6_unloads_46 : decode cX6_unloads 46 = .ok (.iconst 1, 1) := by decide +kernel
theorem dX6_unloads_47 : decode cX6_unloads 47 = .ok (.invokestatic 40, 3) := by decide +kernel
theorem dX6_unloads_50 : decode cX6_unloads 50 = .ok (.aload_n 0, 1) := by decide +kernel
theorem dX6_unloads_51 : decode cX6_unloads 51 = .ok (.getfield 7, 3) := by decide +kernel
theorem dX6_unloads_54 : decode cX6_unloads 54 = .ok (.bipush 51, 2) := by decide +kernel
theorem dX6_unloads_56 : decode cX6_unloads 56 = .ok (.iaload, 1) := by decide +kernel
theorem dX6_unloads_57 : decode cX6_unloads 57 = .ok (.if_icmp .eq 7, 3) := by decide +kernel
theorem dX6_unloads_60 : decode cX6_unloads 60 = .ok (.iconst 1, 1) := by decide +kernel
theorem dX6_unloads_61 : decode cX6_unloads 61 = .ok (.goto 4, 3) := by decide +kernel
theorem dX6_unloads_64 : decode cX6_unloads 64 = .ok (.iconst 0, 1) := by decide +kernel
theorem dX6_unloads_65 : decode cX6_unloads 65 = .ok (.istore 4, 2) := by decide +kernel
theorem dX6_unloads_67 : decode cX6_unloads 67 = .ok (.iload_n 1, 1) := by decide +kernel
theorem dX6_unloads_68 : decode cX6_unloads 68 = .ok (.iload 4, 2) := by decide +kernel
theorem dX6_unloads_70 : decode cX6_unloads 70 = .ok (.ifCond .eq 7, 3) := by decide +kernel
theorem dX6_unloads_73 : decode cX6_unloads 73 = .ok (.iconst 1, 1) := by decide +kernel
theorem dX6_unloads_74 : decode cX6_unloads 74 = .ok (.goto 4, 3) := by decide +kernel
theorem dX6_unloads_77 : decode cX6_unloads 77 = .ok (.iconst 0, 1) := by decide +kernel
theorem dX6_unloads_78 : decode cX6_unloads 78 = .ok (.iadd, 1) := by decide +kernel
theorem dX6_unloads_79 : decode cX6_unloads 79 = .ok (.istore_n 1, 1) := by decide +kernel
theorem dX6_unloads_80 : decode cX6_unloads 80 = .ok (.aload_n 0, 1) := by decide +kernel
theorem dX6_unloads_81 : decode cX6_unloads 81 = .ok (.getfield 7, 3) := by decide +kernel
theorem dX6_unloads_84 : decode cX6_unloads 84 = .ok (.bipush 55, 2) := by decide +kernel
theorem dX6_unloads_86 : decode cX6_unloads 86 = .ok (.dup2, 1) := by decide +kernel
theorem dX6_unloads_87 : decode cX6_unloads 87 = .ok (.iaload, 1) := by decide +kernel
theorem dX6_unloads_88 : decode cX6_unloads 88 = .ok (.iload_n 3, 1) := by decide +kernel
theorem dX6_unloads_89 : decode cX6_unloads 89 = .ok (.ifCond .eq 12, 3) := by decide +kernel
theorem dX6_unloads_92 : decode cX6_unloads 92 = .ok (.iload 4, 2) := by decide +kernel
theorem dX6_unloads_94 : decode cX6_unloads 94 = .ok (.ifCond .ne 7, 3) := by decide +kernel
theorem dX6_unloads_97 : decode cX6_unloads 97 = .ok (.iconst 1, 1) := by decide +kernel
theorem dX6_unloads_98 : decode cX6_unloads 98 = .ok (.goto 4, 3) := by decide +kernel
theorem dX6_unloads_101 : decode cX6_unloads 101 = .ok (.iconst 0, 1) := by decide +kernel
theorem dX6_unloads_102 : decode cX6_unloads 102 = .ok (.iadd, 1) := by decide +kernel
theorem dX6_unloads_103 : decode cX6_unloads 103 = .ok (.iastore, 1) := by decide +kernel
theorem dX6_unloads_104 : decode cX6_unloads 104 = .ok (.iinc 2 1, 3) := by decide +kernel
theorem dX6_unloads_107 : decode cX6_unloads 107 = .ok (.goto (-103), 3) := by decide +kernel
theorem dX6_unloads_110 : decode cX6_unloads 110 = .ok (.aload_n 0, 1) := by decide +kernel
theorem dX6_unloads_111 : decode cX6_unloads 111 = .ok (.getfield 7, 3) := by decide +kernel
theorem dX6_unloads_114 : decode cX6_unloads 114 = .ok (.bipush 54, 2) := by decide +kernel
theorem dX6_unloads_116 : decode cX6_unloads 116 = .ok (.dup2, 1) := by decide +kernel
theorem dX6_unloads_117 : decode cX6_unloads 117 = .ok (.iaload, 1) := by decide +kernel
theorem dX6_unloads_118 : decode cX6_unloads 118 = .ok (.iload_n 1, 1) := by decide +kernel
theorem dX6_unloads_119 : decode cX6_unloads 119 = .ok (.iadd, 1) := by decide +kernel
theorem dX6_unloads_120 : decode cX6_unloads 120 = .ok (.iastore, 1) := by decide +kernel
theorem dX6_unloads_121 : decode cX6_unloads 121 = .ok (.bipush 79, 2) := by decide +kernel
theorem dX6_unloads_123 : decode cX6_unloads 123 = .ok (.istore_n 2, 1) := by decide +kernel
theorem dX6_unloads_124 : decode cX6_unloads 124 = .ok (.iload_n 2, 1) := by decide +kernel
theorem dX6_unloads_125 : decode cX6_unloads 125 = .ok (.bipush 97, 2) := by decide +kernel
theorem dX6_unloads_127 : decode cX6_unloads 127 = .ok (.if_icmp .ge 16, 3) := by decide +kernel
theorem dX6_unloads_130 : decode cX6_unloads 130 = .ok (.aload_n 0, 1) := by decide +kernel
theorem dX6_unloads_131 : decode cX6_unloads 131 = .ok (.getfield 7, 3) := by decide +kernel
theorem dX6_unloads_134 : decode cX6_unloads 134 = .ok (.iload_n 2, 1) := by decide +kernel
theorem dX6_unloads_135 : decode cX6_unloads 135 = .ok (.iconst 0, 1) := by decide +kernel
theorem dX6_unloads_136 : decode cX6_unloads 136 = .ok (.iastore, 1) := by decide +kernel
theorem dX6_unloads_137 : decode cX6_unloads 137 = .ok (.iinc 2 1, 3) := by decide +kernel
theorem dX6_unloads_140 : decode cX6_unloads 140 = .ok (.goto (-16), 3) := by decide +kernel
theorem dX6_unloads_143 : decode cX6_unloads 143 = .ok (.iload_n 1, 1) := by decide +kernel
theorem dX6_unloads_144 : decode cX6_unloads 144 = .ok (.ireturn, 1) := by decide +kernel
set_option maxRecDepth 20000 in
theorem ggX6_unload_X6_saves : GoodIn wsX6_unload wsX6_saves := goodIn_r _ [6, 7, 8, 9, 10, 11, 5, 12, 23, 24, 25, 26, 27, 28, 29, 30, 31, 32, 33, 34, 35, 36, 37, 38] (by decide +kernel) (by decide +kernel)
set_option maxRecDepth 20000 in
theorem gX6_unload_X6_saves : GoodIn wsX6_unload (wsV RX6 79 RX6 yX6_saves wsX6_saves) := goodIn_app (goodIn_of _ (by decide +kernel)) ggX6_unload_X6_saves
set_option maxRecDepth 20000 in
theorem ggX6_unload_X6_unloads : GoodIn wsX6_unload wsX6_unloads := goodIn_r _ [16, 9, 17, 18, 5, 19, 20, 21, 22, 23, 24, 25, 26, 27, 28, 29, 30, 31, 32, 33, 34, 35, 36, 37, 38] (by decide +kernel) (by decide +kernel)
set_option maxRecDepth 20000 in
theorem gX6_unload_X6_unloads : GoodIn wsX6_unload (wsV RX6 106 RX6 yX6_unloads wsX6_unloads) := goodIn_app (goodIn_of _ (by decide +kernel)) ggX6_unload_X6_unloads
theorem dX6_unload_0 : decode cX6_unload 0 = .ok (.aload_n 0, 1) := by decide +kernel
theorem dX6_unload_1 : decode cX6_unload 1 = .ok (.iconst 0, 1) := by decide +kernel
theorem dX6_unload_2 : decode cX6_unload 2 = .ok (.putfield 25, 3) := by decide +kernel
theorem dX6_unload_5 : decode cX6_unload 5 = .ok (.aload_n 0, 1) := by decide +kernel
theorem dX6_unload_6 : decode cX6_unload 6 = .ok (.invokevirtual 79, 3) := by decide +kernel
theorem dX6_unload_9 : decode cX6_unload 9 = .ok (.aload_n 0, 1) := by decide +kernel
theorem dX6_unload_10 : decode cX6_unload 10 = .ok (.invokevirtual 106, 3) := by decide +kernel
theorem dX6_unload_13 : decode cX6_unload 13 = .ok (.ireturn, 1) := by decide +kernel
set_option maxRecDepth 20000 in
theorem ggX6_cross_X6_reason : GoodIn wsX6_cross wsX6_reason := goodIn_r _ [6, 7, 8, 5, 9, 10, 11, 12, 13, 14, 15, 16, 17, 18, 19, 20, 21, 22, 23, 24, 25, 26, 27, 28, 29, 30, 31, 32, 33] (by decide +kernel) (by decide +kernel)
set_option maxRecDepth 20000 in
theorem gX6_cross_X6_reason : GoodIn wsX6_cross (va_wsS RX6 110 yX6_reason wsX6_reason) := goodIn_app (goodIn_of _ (by decide +kernel)) ggX6_cross_X6_reason
set_option maxRecDepth 20000 in
theorem ggX6_cross_X6_refuses : GoodIn wsX6_cross wsX6_refuses := goodIn_r _ [37, 1, 59, 60, 61, 62, 63, 64, 65, 66, 67, 68, 69, 70, 71, 72, 73, 74] (by decide +kernel) (by decide +kernel)
set_option maxRecDepth 20000 in
theorem gX6_cross_X6_refuses : GoodIn wsX6_cross (wsV RX6 86 RX6 yX6_refuses wsX6_refuses) := goodIn_app (goodIn_of _ (by decide +kernel)) ggX6_cross_X6_refuses
set_option maxRecDepth 20000 in
theorem ggX6_cross_X6_saves : GoodIn wsX6_cross wsX6_saves := goodIn_r _ [41, 42, 43, 2, 44, 45, 5, 46, 59, 60, 61, 62, 63, 64, 65, 66, 67, 68, 69, 70, 71, 72, 73, 74] (by decide +kernel) (by decide +kernel)
set_option maxRecDepth 20000 in
theorem gX6_cross_X6_saves : GoodIn wsX6_cross (wsV RX6 79 RX6 yX6_saves wsX6_saves) := goodIn_app (goodIn_of _ (by decide +kernel)) ggX6_cross_X6_saves
set_option maxRecDepth 20000 in
theorem ggX6_cross_X6_crosses : GoodIn wsX6_cross wsX6_crosses := goodIn_r _ [49, 25, 26, 5, 27, 7, 8, 9, 10, 11, 12, 13, 14, 15, 16, 17, 18, 19, 20, 21, 28, 29, 30, 50, 51, 52, 53, 54, 55, 56, 57, 58] (by decide +kernel) (by decide +kernel)
set_option maxRecDepth 20000 in
theorem gX6_cross_X6_crosses : GoodIn wsX6_cross (va_wsS RX6 113 yX6_crosses wsX6_crosses) := goodIn_app (goodIn_of _ (by decide +kernel)) ggX6_cross_X6_crosses
theorem dX6_cross_0 : decode cX6_cross 0 = .ok (.aload_n 0, 1) := by decide +kernel
theorem dX6_cross_1 : decode cX6_cross 1 = .ok (.iconst 0, 1) := by decide +kernel
theorem dX6_cross_2 : decode cX6_cross 2 = .ok (.putfield 25, 3) := by decide +kernel
theorem dX6_cross_5 : decode cX6_cross 5 = .ok (.aload_n 0, 1) := by decide +kernel
theorem dX6_cross_6 : decode cX6_cross 6 = .ok (.getfield 7, 3) := by decide +kernel
theorem dX6_cross_9 : decode cX6_cross 9 = .ok (.invokestatic 110, 3) := by decide +kernel
theorem dX6_cross_12 : decode cX6_cross 12 = .ok (.ifCond .eq 9, 3) := by decide +kernel
theorem dX6_cross_15 : decode cX6_cross 15 = .ok (.aload_n 0, 1) := by decide +kernel
theorem dX6_cross_16 : decode cX6_cross 16 = .ok (.iconst 1, 1) := by decide +kernel
theorem dX6_cross_17 : decode cX6_cross 17 = .ok (.invokevirtual 86, 3) := by decide +kernel
theorem dX6_cross_20 : decode cX6_cross 20 = .ok (.ireturn, 1) := by decide +kernel
theorem dX6_cross_21 : decode cX6_cross 21 = .ok (.aload_n 0, 1) := by decide +kernel
theorem dX6_cross_22 : decode cX6_cross 22 = .ok (.invokevirtual 79, 3) := by decide +kernel
theorem dX6_cross_25 : decode cX6_cross 25 = .ok (.aload_n 0, 1) := by decide +kernel
theorem dX6_cross_26 : decode cX6_cross 26 = .ok (.getfield 7, 3) := by decide +kernel
theorem dX6_cross_29 : decode cX6_cross 29 = .ok (.invokestatic 113, 3) := by decide +kernel
theorem dX6_cross_32 : decode cX6_cross 32 = .ok (.ireturn, 1) := by decide +kernel
set_option maxRecDepth 20000 in
theorem ggX6_pass_X6_in : GoodIn wsX6_pass wsX6_in := goodIn_r _ [6] (by decide +kernel) (by decide +kernel)
set_option maxRecDepth 20000 in
theorem gX6_pass_X6_in : GoodIn wsX6_pass (va_wsS RX6 82 yX6_in wsX6_in) := goodIn_app (goodIn_of _ (by decide +kernel)) ggX6_pass_X6_in
set_option maxRecDepth 20000 in
theorem ggX6_pass_X6_refuses : GoodIn wsX6_pass wsX6_refuses := goodIn_r _ [10, 1, 26, 27, 28, 29, 30, 31, 32, 33, 34, 35, 36, 37, 38, 39, 40, 41] (by decide +kernel) (by decide +kernel)
set_option maxRecDepth 20000 in
theorem gX6_pass_X6_refuses : GoodIn wsX6_pass (wsV RX6 86 RX6 yX6_refuses wsX6_refuses) := goodIn_app (goodIn_of _ (by decide +kernel)) ggX6_pass_X6_refuses
set_option maxRecDepth 20000 in
theorem ggX6_pass_X6_saves : GoodIn wsX6_pass wsX6_saves := goodIn_r _ [14, 15, 16, 2, 17, 18, 5, 19, 26, 27, 28, 29, 30, 31, 32, 33, 34, 35, 36, 37, 38, 39, 40, 41] (by decide +kernel) (by decide +kernel)
set_option maxRecDepth 20000 in
theorem gX6_pass_X6_saves : GoodIn wsX6_pass (wsV RX6 79 RX6 yX6_saves wsX6_saves) := goodIn_app (goodIn_of _ (by decide +kernel)) ggX6_pass_X6_saves
set_option maxRecDepth 20000 in
theorem ggX6_pass_X6_passes : GoodIn wsX6_pass wsX6_passes := goodIn_r _ [22, 23, 24, 5, 25] (by decide +kernel) (by decide +kernel)
set_option maxRecDepth 20000 in
theorem gX6_pass_X6_passes : GoodIn wsX6_pass (va_wsS RX6 76 yX6_passes wsX6_passes) := goodIn_app (goodIn_of _ (by decide +kernel)) ggX6_pass_X6_passes
theorem dX6_pass_0 : decode cX6_pass 0 = .ok (.aload_n 0, 1) := by decide +kernel
theorem dX6_pass_1 : decode cX6_pass 1 = .ok (.iconst 0, 1) := by decide +kernel
theorem dX6_pass_2 : decode cX6_pass 2 = .ok (.putfield 25, 3) := by decide +kernel
theorem dX6_pass_5 : decode cX6_pass 5 = .ok (.iload_n 1, 1) := by decide +kernel
theorem dX6_pass_6 : decode cX6_pass 6 = .ok (.iconst 1, 1) := by decide +kernel
theorem dX6_pass_7 : decode cX6_pass 7 = .ok (.bipush 100, 2) := by decide +kernel
theorem dX6_pass_9 : decode cX6_pass 9 = .ok (.invokestatic 82, 3) := by decide +kernel
theorem dX6_pass_12 : decode cX6_pass 12 = .ok (.ifCond .ne 9, 3) := by decide +kernel
theorem dX6_pass_15 : decode cX6_pass 15 = .ok (.aload_n 0, 1) := by decide +kernel
theorem dX6_pass_16 : decode cX6_pass 16 = .ok (.iconst 1, 1) := by decide +kernel
theorem dX6_pass_17 : decode cX6_pass 17 = .ok (.invokevirtual 86, 3) := by decide +kernel
theorem dX6_pass_20 : decode cX6_pass 20 = .ok (.ireturn, 1) := by decide +kernel
theorem dX6_pass_21 : decode cX6_pass 21 = .ok (.aload_n 0, 1) := by decide +kernel
theorem dX6_pass_22 : decode cX6_pass 22 = .ok (.invokevirtual 79, 3) := by decide +kernel
theorem dX6_pass_25 : decode cX6_pass 25 = .ok (.aload_n 0, 1) := by decide +kernel
theorem dX6_pass_26 : decode cX6_pass 26 = .ok (.getfield 7, 3) := by decide +kernel
theorem dX6_pass_29 : decode cX6_pass 29 = .ok (.iload_n 1, 1) := by decide +kernel
theorem dX6_pass_30 : decode cX6_pass 30 = .ok (.invokestatic 76, 3) := by decide +kernel
theorem dX6_pass_33 : decode cX6_pass 33 = .ok (.aload_n 0, 1) := by decide +kernel
theorem dX6_pass_34 : decode cX6_pass 34 = .ok (.getfield 7, 3) := by decide +kernel
theorem dX6_pass_37 : decode cX6_pass 37 = .ok (.bipush 50, 2) := by decide +kernel
theorem dX6_pass_39 : decode cX6_pass 39 = .ok (.iaload, 1) := by decide +kernel
theorem dX6_pass_40 : decode cX6_pass 40 = .ok (.ireturn, 1) := by decide +kernel
set_option maxRecDepth 20000 in
theorem ggX6_draw_X6_in : GoodIn wsX6_draw wsX6_in := goodIn_r _ [6] (by decide +kernel) (by decide +kernel)
set_option maxRecDepth 20000 in
theorem gX6_draw_X6_in : GoodIn wsX6_draw (va_wsS RX6 82 yX6_in wsX6_in) := goodIn_app (goodIn_of _ (by decide +kernel)) ggX6_draw_X6_in
set_option maxRecDepth 20000 in
theorem ggX6_draw_X6_refuses : GoodIn wsX6_draw wsX6_refuses := goodIn_r _ [10, 1, 29, 30, 31, 32, 33, 34, 35, 36, 37, 38, 39, 40, 41, 42, 43, 44] (by decide +kernel) (by decide +kernel)
set_option maxRecDepth 20000 in
theorem gX6_draw_X6_refuses : GoodIn wsX6_draw (wsV RX6 86 RX6 yX6_refuses wsX6_refuses) := goodIn_app (goodIn_of _ (by decide +kernel)) ggX6_draw_X6_refuses
set_option maxRecDepth 20000 in
theorem ggX6_draw_X6_saves : GoodIn wsX6_draw wsX6_saves := goodIn_r _ [14, 15, 16, 2, 17, 18, 5, 19, 29, 30, 31, 32, 33, 34, 35, 36, 37, 38, 39, 40, 41, 42, 43, 44] (by decide +kernel) (by decide +kernel)
set_option maxRecDepth 20000 in
theorem gX6_draw_X6_saves : GoodIn wsX6_draw (wsV RX6 79 RX6 yX6_saves wsX6_saves) := goodIn_app (goodIn_of _ (by decide +kernel)) ggX6_draw_X6_saves
set_option maxRecDepth 20000 in
theorem ggX6_draw_X6_draws : GoodIn wsX6_draw wsX6_draws := goodIn_r _ [22, 23, 24, 5, 25, 26, 27, 28] (by decide +kernel) (by decide +kernel)
set_option maxRecDepth 20000 in
theorem gX6_draw_X6_draws : GoodIn wsX6_draw (va_wsS RX6 116 yX6_draws wsX6_draws) := goodIn_app (goodIn_of _ (by decide +kernel)) ggX6_draw_X6_draws
theorem dX6_draw_0 : decode cX6_draw 0 = .ok (.aload_n 0, 1) := by decide +kernel
theorem dX6_draw_1 : decode cX6_draw 1 = .ok (.iconst 0, 1) := by decide +kernel
theorem dX6_draw_2 : decode cX6_draw 2 = .ok (.putfield 25, 3) := by decide +kernel
theorem dX6_draw_5 : decode cX6_draw 5 = .ok (.iload_n 1, 1) := by decide +kernel
theorem dX6_draw_6 : decode cX6_draw 6 = .ok (.iconst 1, 1) := by decide +kernel
theorem dX6_draw_7 : decode cX6_draw 7 = .ok (.iconst 5, 1) := by decide +kernel
theorem dX6_draw_8 : decode cX6_draw 8 = .ok (.invokestatic 82, 3) := by decide +kernel
theorem dX6_draw_11 : decode cX6_draw 11 = .ok (.ifCond .ne 9, 3) := by decide +kernel
theorem dX6_draw_14 : decode cX6_draw 14 = .ok (.aload_n 0, 1) := by decide +kernel
theorem dX6_draw_15 : decode cX6_draw 15 = .ok (.iconst 1, 1) := by decide +kernel
theorem dX6_draw_16 : decode cX6_draw 16 = .ok (.invokevirtual 86, 3) := by decide +kernel
theorem dX6_draw_19 : decode cX6_draw 19 = .ok (.ireturn, 1) := by decide +kernel
theorem dX6_draw_20 : decode cX6_draw 20 = .ok (.aload_n 0, 1) := by decide +kernel
theorem dX6_draw_21 : decode cX6_draw 21 = .ok (.getfield 7, 3) := by decide +kernel
theorem dX6_draw_24 : decode cX6_draw 24 = .ok (.bipush 49, 2) := by decide +kernel
theorem dX6_draw_26 : decode cX6_draw 26 = .ok (.iaload, 1) := by decide +kernel
theorem dX6_draw_27 : decode cX6_draw 27 = .ok (.iload_n 1, 1) := by decide +kernel
theorem dX6_draw_28 : decode cX6_draw 28 = .ok (.if_icmp .ge 9, 3) := by decide +kernel
theorem dX6_draw_31 : decode cX6_draw 31 = .ok (.aload_n 0, 1) := by decide +kernel
theorem dX6_draw_32 : decode cX6_draw 32 = .ok (.iconst 2, 1) := by decide +kernel
theorem dX6_draw_33 : decode cX6_draw 33 = .ok (.invokevirtual 86, 3) := by decide +kernel
theorem dX6_draw_36 : decode cX6_draw 36 = .ok (.ireturn, 1) := by decide +kernel
theorem dX6_draw_37 : decode cX6_draw 37 = .ok (.aload_n 0, 1) := by decide +kernel
theorem dX6_draw_38 : decode cX6_draw 38 = .ok (.invokevirtual 79, 3) := by decide +kernel
theorem dX6_draw_41 : decode cX6_draw 41 = .ok (.aload_n 0, 1) := by decide +kernel
theorem dX6_draw_42 : decode cX6_draw 42 = .ok (.getfield 7, 3) := by decide +kernel
theorem dX6_draw_45 : decode cX6_draw 45 = .ok (.iload_n 1, 1) := by decide +kernel
theorem dX6_draw_46 : decode cX6_draw 46 = .ok (.invokestatic 116, 3) := by decide +kernel
theorem dX6_draw_49 : decode cX6_draw 49 = .ok (.ireturn, 1) := by decide +kernel
set_option maxRecDepth 20000 in
theorem ggX6_set_X6_in : GoodIn wsX6_set wsX6_in := goodIn_r _ [5] (by decide +kernel) (by decide +kernel)
set_option maxRecDepth 20000 in
theorem gX6_set_X6_in : GoodIn wsX6_set (va_wsS RX6 82 yX6_in wsX6_in) := goodIn_app (goodIn_of _ (by decide +kernel)) ggX6_set_X6_in
set_option maxRecDepth 20000 in
theorem ggX6_set_X6_refuses : GoodIn wsX6_set wsX6_refuses := goodIn_r _ [9, 1, 24, 25, 26, 27, 28, 29, 30, 31, 32, 33, 34, 35, 36, 37, 38, 39] (by decide +kernel) (by decide +kernel)
set_option maxRecDepth 20000 in
theorem gX6_set_X6_refuses : GoodIn wsX6_set (wsV RX6 86 RX6 yX6_refuses wsX6_refuses) := goodIn_app (goodIn_of _ (by decide +kernel)) ggX6_set_X6_refuses
set_option maxRecDepth 20000 in
theorem ggX6_set_X6_becomes : GoodIn wsX6_set wsX6_becomes := goodIn_r _ [13, 14, 15, 16, 17, 4, 18, 19, 20, 21, 22, 23, 24, 25, 26, 27, 28, 29, 30, 31, 32, 33, 34, 35, 36, 37, 38, 39] (by decide +kernel) (by decide +kernel)
set_option maxRecDepth 20000 in
theorem gX6_set_X6_becomes : GoodIn wsX6_set (wsV RX6 89 RX6 yX6_becomes wsX6_becomes) := goodIn_app (goodIn_of _ (by decide +kernel)) ggX6_set_X6_becomes
theorem dX6_set_0 : decode cX6_set 0 = .ok (.aload_n 0, 1) := by decide +kernel
theorem dX6_set_1 : decode cX6_set 1 = .ok (.iconst 0, 1) := by decide +kernel
theorem dX6_set_2 : decode cX6_set 2 = .ok (.putfield 25, 3) := by decide +kernel
theorem dX6_set_5 : decode cX6_set 5 = .ok (.iload_n 1, 1) := by decide +kernel
theorem dX6_set_6 : decode cX6_set 6 = .ok (.iconst 0, 1) := by decide +kernel
theorem dX6_set_7 : decode cX6_set 7 = .ok (.iconst 2, 1) := by decide +kernel
theorem dX6_set_8 : decode cX6_set 8 = .ok (.invokestatic 82, 3) := by decide +kernel
theorem dX6_set_11 : decode cX6_set 11 = .ok (.ifCond .ne 9, 3) := by decide +kernel
theorem dX6_set_14 : decode cX6_set 14 = .ok (.aload_n 0, 1) := by decide +kernel
theorem dX6_set_15 : decode cX6_set 15 = .ok (.iconst 1, 1) := by decide +kernel
theorem dX6_set_16 : decode cX6_set 16 = .ok (.invokevirtual 86, 3) := by decide +kernel
theorem dX6_set_19 : decode cX6_set 19 = .ok (.ireturn, 1) := by decide +kernel
theorem dX6_set_20 : decode cX6_set 20 = .ok (.iload_n 1, 1) := by decide +kernel
theorem dX6_set_21 : decode cX6_set 21 = .ok (.ifCond .ne 8, 3) := by decide +kernel
theorem dX6_set_24 : decode cX6_set 24 = .ok (.bipush 50, 2) := by decide +kernel
theorem dX6_set_26 : decode cX6_set 26 = .ok (.goto 13, 3) := by decide +kernel
theorem dX6_set_29 : decode cX6_set 29 = .ok (.iload_n 1, 1) := by decide +kernel
theorem dX6_set_30 : decode cX6_set 30 = .ok (.iconst 1, 1) := by decide +kernel
theorem dX6_set_31 : decode cX6_set 31 = .ok (.if_icmp .ne 7, 3) := by decide +kernel
theorem dX6_set_34 : decode cX6_set 34 = .ok (.iconst 0, 1) := by decide +kernel
theorem dX6_set_35 : decode cX6_set 35 = .ok (.goto 4, 3) := by decide +kernel
theorem dX6_set_38 : decode cX6_set 38 = .ok (.iconst 1, 1) := by decide +kernel
theorem dX6_set_39 : decode cX6_set 39 = .ok (.istore_n 3, 1) := by decide +kernel
theorem dX6_set_40 : decode cX6_set 40 = .ok (.iload_n 1, 1) := by decide +kernel
theorem dX6_set_41 : decode cX6_set 41 = .ok (.ifCond .ne 9, 3) := by decide +kernel
theorem dX6_set_44 : decode cX6_set 44 = .ok (.sipush 999, 3) := by decide +kernel
theorem dX6_set_47 : decode cX6_set 47 = .ok (.goto 15, 3) := by decide +kernel
theorem dX6_set_50 : decode cX6_set 50 = .ok (.iload_n 1, 1) := by decide +kernel
theorem dX6_set_51 : decode cX6_set 51 = .ok (.iconst 1, 1) := by decide +kernel
theorem dX6_set_52 : decode cX6_set 52 = .ok (.if_icmp .ne 8, 3) := by decide +kernel
theorem dX6_set_55 : decode cX6_set 55 = .ok (.bipush 80, 2) := by decide +kernel
theorem dX6_set_57 : decode cX6_set 57 = .ok (.goto 5, 3) := by decide +kernel
theorem dX6_set_60 : decode cX6_set 60 = .ok (.bipush 50, 2) := by decide +kernel
theorem dX6_set_62 : decode cX6_set 62 = .ok (.istore 4, 2) := by decide +kernel
theorem dX6_set_64 : decode cX6_set 64 = .ok (.iload_n 2, 1) := by decide +kernel
theorem dX6_set_65 : decode cX6_set 65 = .ok (.iload_n 3, 1) := by decide +kernel
theorem dX6_set_66 : decode cX6_set 66 = .ok (.iload 4, 2) := by decide +kernel
theorem dX6_set_68 : decode cX6_set 68 = .ok (.invokestatic 82, 3) := by decide +kernel
theorem dX6_set_71 : decode cX6_set 71 = .ok (.ifCond .eq 12, 3) := by decide +kernel
theorem dX6_set_74 : decode cX6_set 74 = .ok (.aload_n 0, 1) := by decide +kernel
theorem dX6_set_75 : decode cX6_set 75 = .ok (.iload_n 1, 1) := by decide +kernel
theorem dX6_set_76 : decode cX6_set 76 = .ok (.iload_n 2, 1) := by decide +kernel
theorem dX6_set_77 : decode cX6_set 77 = .ok (.invokevirtual 89, 3) := by decide +kernel
theorem dX6_set_80 : decode cX6_set 80 = .ok (.goto 8, 3) := by decide +kernel
theorem dX6_set_83 : decode cX6_set 83 = .ok (.aload_n 0, 1) := by decide +kernel
theorem dX6_set_84 : decode cX6_set 84 = .ok (.iconst 2, 1) := by decide +kernel
theorem dX6_set_85 : decode cX6_set 85 = .ok (.invokevirtual 86, 3) := by decide +kernel
theorem dX6_set_88 : decode cX6_set 88 = .ok (.ireturn, 1) := by decide +kernel
set_option maxRecDepth 20000 in
theorem ggX6_append_X6_in : GoodIn wsX6_append wsX6_in := goodIn_r _ [7] (by decide +kernel) (by decide +kernel)
set_option maxRecDepth 20000 in
theorem gX6_append_X6_in : GoodIn wsX6_append (va_wsS RX6 82 yX6_in wsX6_in) := goodIn_app (goodIn_of _ (by decide +kernel)) ggX6_append_X6_in
set_option maxRecDepth 20000 in
theorem ggX6_append_X6_refuses : GoodIn wsX6_append wsX6_refuses := goodIn_r _ [11, 1, 12, 13, 14, 15, 16, 17, 18, 19, 20, 21, 22, 23, 24, 25, 26, 27] (by decide +kernel) (by decide +kernel)
set_option maxRecDepth 20000 in
theorem gX6_append_X6_refuses : GoodIn wsX6_append (wsV RX6 86 RX6 yX6_refuses wsX6_refuses) := goodIn_app (goodIn_of _ (by decide +kernel)) ggX6_append_X6_refuses
theorem dX6_append_0 : decode cX6_append 0 = .ok (.aload_n 0, 1) := by decide +kernel
theorem dX6_append_1 : decode cX6_append 1 = .ok (.iconst 0, 1) := by decide +kernel
theorem dX6_append_2 : decode cX6_append 2 = .ok (.putfield 25, 3) := by decide +kernel
theorem dX6_append_5 : decode cX6_append 5 = .ok (.iload_n 1, 1) := by decide +kernel
theorem dX6_append_6 : decode cX6_append 6 = .ok (.bipush 33, 2) := by decide +kernel
theorem dX6_append_8 : decode cX6_append 8 = .ok (.bipush 126, 2) := by decide +kernel
theorem dX6_append_10 : decode cX6_append 10 = .ok (.invokestatic 82, 3) := by decide +kernel
theorem dX6_append_13 : decode cX6_append 13 = .ok (.ifCond .ne 9, 3) := by decide +kernel
theorem dX6_append_16 : decode cX6_append 16 = .ok (.aload_n 0, 1) := by decide +kernel
theorem dX6_append_17 : decode cX6_append 17 = .ok (.iconst 1, 1) := by decide +kernel
theorem dX6_append_18 : decode cX6_append 18 = .ok (.invokevirtual 86, 3) := by decide +kernel
theorem dX6_append_21 : decode cX6_append 21 = .ok (.ireturn, 1) := by decide +kernel
theorem dX6_append_22 : decode cX6_append 22 = .ok (.aload_n 0, 1) := by decide +kernel
theorem dX6_append_23 : decode cX6_append 23 = .ok (.getfield 119, 3) := by decide +kernel
theorem dX6_append_26 : decode cX6_append 26 = .ok (.bipush 60, 2) := by decide +kernel
theorem dX6_append_28 : decode cX6_append 28 = .ok (.if_icmp .ne 9, 3) := by decide +kernel
theorem dX6_append_31 : decode cX6_append 31 = .ok (.aload_n 0, 1) := by decide +kernel
theorem dX6_append_32 : decode cX6_append 32 = .ok (.iconst 2, 1) := by decide +kernel
theorem dX6_append_33 : decode cX6_append 33 = .ok (.invokevirtual 86, 3) := by decide +kernel
theorem dX6_append_36 : decode cX6_append 36 = .ok (.ireturn, 1) := by decide +kernel
theorem dX6_append_37 : decode cX6_append 37 = .ok (.aload_n 0, 1) := by decide +kernel
theorem dX6_append_38 : decode cX6_append 38 = .ok (.getfield 22, 3) := by decide +kernel
theorem dX6_append_41 : decode cX6_append 41 = .ok (.aload_n 0, 1) := by decide +kernel
theorem dX6_append_42 : decode cX6_append 42 = .ok (.getfield 119, 3) := by decide +kernel
theorem dX6_append_45 : decode cX6_append 45 = .ok (.iload_n 1, 1) := by decide +kernel
theorem dX6_append_46 : decode cX6_append 46 = .ok (.iastore, 1) := by decide +kernel
theorem dX6_append_47 : decode cX6_append 47 = .ok (.aload_n 0, 1) := by decide +kernel
theorem dX6_append_48 : decode cX6_append 48 = .ok (.dup, 1) := by decide +kernel
theorem dX6_append_49 : decode cX6_append 49 = .ok (.getfield 119, 3) := by decide +kernel
theorem dX6_append_52 : decode cX6_append 52 = .ok (.iconst 1, 1) := by decide +kernel
theorem dX6_append_53 : decode cX6_append 53 = .ok (.iadd, 1) := by decide +kernel
theorem dX6_append_54 : decode cX6_append 54 = .ok (.putfield 119, 3) := by decide +kernel
theorem dX6_append_57 : decode cX6_append 57 = .ok (.aload_n 0, 1) := by decide +kernel
theorem dX6_append_58 : decode cX6_append 58 = .ok (.getfield 119, 3) := by decide +kernel
theorem dX6_append_61 : decode cX6_append 61 = .ok (.ireturn, 1) := by decide +kernel
theorem dX6_clearBuffer_0 : decode cX6_clearBuffer 0 = .ok (.aload_n 0, 1) := by decide +kernel
theorem dX6_clearBuffer_1 : decode cX6_clearBuffer 1 = .ok (.iconst 0, 1) := by decide +kernel
theorem dX6_clearBuffer_2 : decode cX6_clearBuffer 2 = .ok (.putfield 25, 3) := by decide +kernel
theorem dX6_clearBuffer_5 : decode cX6_clearBuffer 5 = .ok (.aload_n 0, 1) := by decide +kernel
theorem dX6_clearBuffer_6 : decode cX6_clearBuffer 6 = .ok (.getfield 119, 3) := by decide +kernel
theorem dX6_clearBuffer_9 : decode cX6_clearBuffer 9 = .ok (.istore_n 1, 1) := by decide +kernel
theorem dX6_clearBuffer_10 : decode cX6_clearBuffer 10 = .ok (.aload_n 0, 1) := by decide +kernel
theorem dX6_clearBuffer_11 : decode cX6_clearBuffer 11 = .ok (.iconst 0, 1) := by decide +kernel
theorem dX6_clearBuffer_12 : decode cX6_clearBuffer 12 = .ok (.putfield 119, 3) := by decide +kernel
theorem dX6_clearBuffer_15 : decode cX6_clearBuffer 15 = .ok (.iload_n 1, 1) := by decide +kernel
theorem dX6_clearBuffer_16 : decode cX6_clearBuffer 16 = .ok (.ireturn, 1) := by decide +kernel
set_option maxRecDepth 20000 in
theorem ggX6_sees_X6_in : GoodIn wsX6_sees wsX6_in := goodIn_r _ [7] (by decide +kernel) (by decide +kernel)
set_option maxRecDepth 20000 in
theorem gX6_sees_X6_in : GoodIn wsX6_sees (va_wsS RX6 82 yX6_in wsX6_in) := goodIn_app (goodIn_of _ (by decide +kernel)) ggX6_sees_X6_in
theorem dX6_sees_0 : decode cX6_sees 0 = .ok (.aload_n 0, 1) := by decide +kernel
theorem dX6_sees_1 : decode cX6_sees 1 = .ok (.getfield 122, 3) := by decide +kernel
theorem dX6_sees_4 : decode cX6_sees 4 = .ok (.aload_n 0, 1) := by decide +kernel
theorem dX6_sees_5 : decode cX6_sees 5 = .ok (.getfield 119, 3) := by decide +kernel
theorem dX6_sees_8 : decode cX6_sees 8 = .ok (.if_icmp .ge 24, 3) := by decide +kernel
theorem dX6_sees_11 : decode cX6_sees 11 = .ok (.aload_n 0, 1) := by decide +kernel
theorem dX6_sees_12 : decode cX6_sees 12 = .ok (.getfield 22, 3) := by decide +kernel
theorem dX6_sees_15 : decode cX6_sees 15 = .ok (.aload_n 0, 1) := by decide +kernel
theorem dX6_sees_16 : decode cX6_sees 16 = .ok (.getfield 122, 3) := by decide +kernel
theorem dX6_sees_19 : decode cX6_sees 19 = .ok (.iaload, 1) := by decide +kernel
theorem dX6_sees_20 : decode cX6_sees 20 = .ok (.iload_n 1, 1) := by decide +kernel
theorem dX6_sees_21 : decode cX6_sees 21 = .ok (.iload_n 2, 1) := by decide +kernel
theorem dX6_sees_22 : decode cX6_sees 22 = .ok (.invokestatic 82, 3) := by decide +kernel
theorem dX6_sees_25 : decode cX6_sees 25 = .ok (.ifCond .eq 7, 3) := by decide +kernel
theorem dX6_sees_28 : decode cX6_sees 28 = .ok (.iconst 1, 1) := by decide +kernel
theorem dX6_sees_29 : decode cX6_sees 29 = .ok (.goto 4, 3) := by decide +kernel
theorem dX6_sees_32 : decode cX6_sees 32 = .ok (.iconst 0, 1) := by decide +kernel
theorem dX6_sees_33 : decode cX6_sees 33 = .ok (.ireturn, 1) := by decide +kernel
set_option maxRecDepth 20000 in
theorem ggX6_takes_X6_sees : GoodIn wsX6_takes wsX6_sees := goodIn_r _ [9, 2, 3, 4, 10, 11, 8, 12, 13, 14, 15, 16, 17, 18, 19, 20, 21, 22, 23, 24, 25, 26, 27, 28] (by decide +kernel) (by decide +kernel)
set_option maxRecDepth 20000 in
theorem gX6_takes_X6_sees : GoodIn wsX6_takes (wsV RX6 125 RX6 yX6_sees wsX6_sees) := goodIn_app (goodIn_of _ (by decide +kernel)) ggX6_takes_X6_sees
theorem dX6_takes_0 : decode cX6_takes 0 = .ok (.aload_n 0, 1) := by decide +kernel
theorem dX6_takes_1 : decode cX6_takes 1 = .ok (.iload_n 1, 1) := by decide +kernel
theorem dX6_takes_2 : decode cX6_takes 2 = .ok (.iload_n 2, 1) := by decide +kernel
theorem dX6_takes_3 : decode cX6_takes 3 = .ok (.invokevirtual 125, 3) := by decide +kernel
theorem dX6_takes_6 : decode cX6_takes 6 = .ok (.ifCond .ne 32, 3) := by decide +kernel
theorem dX6_takes_9 : decode cX6_takes 9 = .ok (.aload_n 0, 1) := by decide +kernel
theorem dX6_takes_10 : decode cX6_takes 10 = .ok (.aload_n 0, 1) := by decide +kernel
theorem dX6_takes_11 : decode cX6_takes 11 = .ok (.getfield 129, 3) := by decide +kernel
theorem dX6_takes_14 : decode cX6_takes 14 = .ok (.ifCond .ne 14, 3) := by decide +kernel
theorem dX6_takes_17 : decode cX6_takes 17 = .ok (.aload_n 0, 1) := by decide +kernel
theorem dX6_takes_18 : decode cX6_takes 18 = .ok (.getfield 122, 3) := by decide +kernel
theorem dX6_takes_21 : decode cX6_takes 21 = .ok (.aload_n 0, 1) := by decide +kernel
theorem dX6_takes_22 : decode cX6_takes 22 = .ok (.getfield 119, 3) := by decide +kernel
theorem dX6_takes_25 : decode cX6_takes 25 = .ok (.if_icmp .ge 7, 3) := by decide +kernel
theorem dX6_takes_28 : decode cX6_takes 28 = .ok (.iconst 1, 1) := by decide +kernel
theorem dX6_takes_29 : decode cX6_takes 29 = .ok (.goto 4, 3) := by decide +kernel
theorem dX6_takes_32 : decode cX6_takes 32 = .ok (.iconst 0, 1) := by decide +kernel
theorem dX6_takes_33 : decode cX6_takes 33 = .ok (.putfield 129, 3) := by decide +kernel
theorem dX6_takes_36 : decode cX6_takes 36 = .ok (.iconst (-1), 1) := by decide +kernel
theorem dX6_takes_37 : decode cX6_takes 37 = .ok (.ireturn, 1) := by decide +kernel
theorem dX6_takes_38 : decode cX6_takes 38 = .ok (.aload_n 0, 1) := by decide +kernel
theorem dX6_takes_39 : decode cX6_takes 39 = .ok (.dup, 1) := by decide +kernel
theorem dX6_takes_40 : decode cX6_takes 40 = .ok (.getfield 122, 3) := by decide +kernel
theorem dX6_takes_43 : decode cX6_takes 43 = .ok (.iconst 1, 1) := by decide +kernel
theorem dX6_takes_44 : decode cX6_takes 44 = .ok (.iadd, 1) := by decide +kernel
theorem dX6_takes_45 : decode cX6_takes 45 = .ok (.putfield 122, 3) := by decide +kernel
theorem dX6_takes_48 : decode cX6_takes 48 = .ok (.aload_n 0, 1) := by decide +kernel
theorem dX6_takes_49 : decode cX6_takes 49 = .ok (.getfield 22, 3) := by decide +kernel
theorem dX6_takes_52 : decode cX6_takes 52 = .ok (.aload_n 0, 1) := by decide +kernel
theorem dX6_takes_53 : decode cX6_takes 53 = .ok (.getfield 122, 3) := by decide +kernel
theorem dX6_takes_56 : decode cX6_takes 56 = .ok (.iconst 1, 1) := by decide +kernel
theorem dX6_takes_57 : decode cX6_takes 57 = .ok (.isub, 1) := by decide +kernel
theorem dX6_takes_58 : decode cX6_takes 58 = .ok (.iaload, 1) := by decide +kernel
theorem dX6_takes_59 : decode cX6_takes 59 = .ok (.iload_n 1, 1) := by decide +kernel
theorem dX6_takes_60 : decode cX6_takes 60 = .ok (.isub, 1) := by decide +kernel
theorem dX6_takes_61 : decode cX6_takes 61 = .ok (.ireturn, 1) := by decide +kernel
set_option maxRecDepth 20000 in
theorem ggX6_number_X6_takes : GoodIn wsX6_number wsX6_takes := goodIn_r _ [7, 8, 2, 9, 1, 10, 11, 12, 6, 13, 14, 15, 16, 17, 18, 19, 20, 21, 22, 23, 24, 25, 26, 27, 28, 29, 30, 31, 32] (by decide +kernel) (by decide +kernel)
set_option maxRecDepth 20000 in
theorem gX6_number_X6_takes : GoodIn wsX6_number (wsV RX6 133 RX6 yX6_takes wsX6_takes) := goodIn_app (goodIn_of _ (by decide +kernel)) ggX6_number_X6_takes
set_option maxRecDepth 20000 in
theorem ggX6_number_X6_sees : GoodIn wsX6_number wsX6_sees := goodIn_r _ [13, 2, 9, 1, 14, 15, 6, 16, 17, 18, 19, 20, 21, 22, 23, 24, 25, 26, 27, 28, 29, 30, 31, 32] (by decide +kernel) (by decide +kernel)
set_option maxRecDepth 20000 in
theorem gX6_number_X6_sees : GoodIn wsX6_number (wsV RX6 125 RX6 yX6_sees wsX6_sees) := goodIn_app (goodIn_of _ (by decide +kernel)) ggX6_number_X6_sees
theorem dX6_number_0 : decode cX6_number 0 = .ok (.aload_n 0, 1) := by decide +kernel
theorem dX6_number_1 : decode cX6_number 1 = .ok (.bipush 49, 2) := by decide +kernel
theorem dX6_number_3 : decode cX6_number 3 = .ok (.iload_n 1, 1) := by decide +kernel
theorem dX6_number_4 : decode cX6_number 4 = .ok (.bipush 10, 2) := by decide +kernel
theorem dX6_number_6 : decode cX6_number 6 = .ok (.if_icmp .ge 10, 3) := by decide +kernel
theorem dX6_number_9 : decode cX6_number 9 = .ok (.bipush 48, 2) := by decide +kernel
theorem dX6_number_11 : decode cX6_number 11 = .ok (.iload_n 1, 1) := by decide +kernel
theorem dX6_number_12 : decode cX6_number 12 = .ok (.iadd, 1) := by decide +kernel
theorem dX6_number_13 : decode cX6_number 13 = .ok (.goto 5, 3) := by decide +kernel
theorem dX6_number_16 : decode cX6_number 16 = .ok (.bipush 57, 2) := by decide +kernel
theorem dX6_number_18 : decode cX6_number 18 = .ok (.invokevirtual 133, 3) := by decide +kernel
theorem dX6_number_21 : decode cX6_number 21 = .ok (.istore_n 2, 1) := by decide +kernel
theorem dX6_number_22 : decode cX6_number 22 = .ok (.iload_n 2, 1) := by decide +kernel
theorem dX6_number_23 : decode cX6_number 23 = .ok (.iconst (-1), 1) := by decide +kernel
theorem dX6_number_24 : decode cX6_number 24 = .ok (.if_icmp .ne 5, 3) := by decide +kernel
theorem dX6_number_27 : decode cX6_number 27 = .ok (.iconst (-1), 1) := by decide +kernel
theorem dX6_number_28 : decode cX6_number 28 = .ok (.ireturn, 1) := by decide +kernel
theorem dX6_number_29 : decode cX6_number 29 = .ok (.iinc 2 1, 3) := by decide +kernel
theorem dX6_number_32 : decode cX6_number 32 = .ok (.aload_n 0, 1) := by decide +kernel
theorem dX6_number_33 : decode cX6_number 33 = .ok (.bipush 48, 2) := by decide +kernel
theorem dX6_number_35 : decode cX6_number 35 = .ok (.bipush 57, 2) := by decide +kernel
theorem dX6_number_37 : decode cX6_number 37 = .ok (.invokevirtual 125, 3) := by decide +kernel
theorem dX6_number_40 : decode cX6_number 40 = .ok (.ifCond .eq 52, 3) := by decide +kernel
theorem dX6_number_43 : decode cX6_number 43 = .ok (.bipush 10, 2) := by decide +kernel
theorem dX6_number_45 : decode cX6_number 45 = .ok (.iload_n 2, 1) := by decide +kernel
theorem dX6_number_46 : decode cX6_number 46 = .ok (.imul, 1) := by decide +kernel
theorem dX6_number_47 : decode cX6_number 47 = .ok (.aload_n 0, 1) := by decide +kernel
theorem dX6_number_48 : decode cX6_number 48 = .ok (.getfield 22, 3) := by decide +kernel
theorem dX6_number_51 : decode cX6_number 51 = .ok (.aload_n 0, 1) := by decide +kernel
theorem dX6_number_52 : decode cX6_number 52 = .ok (.getfield 122, 3) := by decide +kernel
theorem dX6_number_55 : decode cX6_number 55 = .ok (.iaload, 1) := by decide +kernel
theorem dX6_number_56 : decode cX6_number 56 = .ok (.iadd, 1) := by decide +kernel
theorem dX6_number_57 : decode cX6_number 57 = .ok (.bipush 48, 2) := by decide +kernel
theorem dX6_number_59 : decode cX6_number 59 = .ok (.isub, 1) := by decide +kernel
theorem dX6_number_60 : decode cX6_number 60 = .ok (.iload_n 1, 1) := by decide +kernel
theorem dX6_number_61 : decode cX6_number 61 = .ok (.if_icmp .gt 31, 3) := by decide +kernel
theorem dX6_number_64 : decode cX6_number 64 = .ok (.bipush 10, 2) := by decide +kernel
theorem dX6_number_66 : decode cX6_number 66 = .ok (.iload_n 2, 1) := by decide +kernel
theorem dX6_number_67 : decode cX6_number 67 = .ok (.imul, 1) := by decide +kernel
theorem dX6_number_68 : decode cX6_number 68 = .ok (.aload_n 0, 1) := by decide +kernel
theorem dX6_number_69 : decode cX6_number 69 = .ok (.getfield 22, 3) := by decide +kernel
theorem dX6_number_72 : decode cX6_number 72 = .ok (.aload_n 0, 1) := by decide +kernel
theorem dX6_number_73 : decode cX6_number 73 = .ok (.getfield 122, 3) := by decide +kernel
theorem dX6_number_76 : decode cX6_number 76 = .ok (.iaload, 1) := by decide +kernel
theorem dX6_number_77 : decode cX6_number 77 = .ok (.iadd, 1) := by decide +kernel
theorem dX6_number_78 : decode cX6_number 78 = .ok (.bipush 48, 2) := by decide +kernel
theorem dX6_number_80 : decode cX6_number 80 = .ok (.isub, 1) := by decide +kernel
theorem dX6_number_81 : decode cX6_number 81 = .ok (.istore_n 2, 1) := by decide +kernel
theorem dX6_number_82 : decode cX6_number 82 = .ok (.aload_n 0, 1) := by decide +kernel
theorem dX6_number_83 : decode cX6_number 83 = .ok (.dup, 1) := by decide +kernel
theorem dX6_number_84 : decode cX6_number 84 = .ok (.getfield 122, 3) := by decide +kernel
theorem dX6_number_87 : decode cX6_number 87 = .ok (.iconst 1, 1) := by decide +kernel
theorem dX6_number_88 : decode cX6_number 88 = .ok (.iadd, 1) := by decide +kernel
theorem dX6_number_89 : decode cX6_number 89 = .ok (.putfield 122, 3) := by decide +kernel
theorem dX6_number_92 : decode cX6_number 92 = .ok (.iload_n 2, 1) := by decide +kernel
theorem dX6_number_93 : decode cX6_number 93 = .ok (.ireturn, 1) := by decide +kernel
set_option maxRecDepth 20000 in
theorem ggX6_isOrder_X6_takes : GoodIn wsX6_isOrder wsX6_takes := goodIn_r _ [12, 5, 1, 2, 3, 13, 14, 15, 11, 16, 17, 18, 19, 24, 25, 26, 27, 28, 29, 30, 31, 32, 33, 34, 35, 36, 37, 38, 39] (by decide +kernel) (by decide +kernel)
set_option maxRecDepth 20000 in
theorem gX6_isOrder_X6_takes : GoodIn wsX6_isOrder (wsV RX6 133 RX6 yX6_takes wsX6_takes) := goodIn_app (goodIn_of _ (by decide +kernel)) ggX6_isOrder_X6_takes
set_option maxRecDepth 20000 in
theorem ggX6_isOrder_X6_number : GoodIn wsX6_isOrder wsX6_number := goodIn_r _ [23, 3, 1, 8, 9, 10, 11, 12, 5, 2, 13, 14, 15, 16, 17, 18, 19, 24, 25, 26, 27, 28, 29, 30, 31, 32, 33, 34, 35, 36, 37, 38, 39] (by decide +kernel) (by decide +kernel)
set_option maxRecDepth 20000 in
theorem gX6_isOrder_X6_number : GoodIn wsX6_isOrder (wsV RX6 145 RX6 yX6_number wsX6_number) := goodIn_app (goodIn_of _ (by decide +kernel)) ggX6_isOrder_X6_number
theorem dX6_isOrder_0 : decode cX6_isOrder 0 = .ok (.aload_n 0, 1) := by decide +kernel
theorem dX6_isOrder_1 : decode cX6_isOrder 1 = .ok (.aload_n 0, 1) := by decide +kernel
theorem dX6_isOrder_2 : decode cX6_isOrder 2 = .ok (.getfield 122, 3) := by decide +kernel
theorem dX6_isOrder_5 : decode cX6_isOrder 5 = .ok (.aload_n 0, 1) := by decide +kernel
theorem dX6_isOrder_6 : decode cX6_isOrder 6 = .ok (.getfield 119, 3) := by decide +kernel
theorem dX6_isOrder_9 : decode cX6_isOrder 9 = .ok (.if_icmp .ge 15, 3) := by decide +kernel
theorem dX6_isOrder_12 : decode cX6_isOrder 12 = .ok (.aload_n 0, 1) := by decide +kernel
theorem dX6_isOrder_13 : decode cX6_isOrder 13 = .ok (.getfield 22, 3) := by decide +kernel
theorem dX6_isOrder_16 : decode cX6_isOrder 16 = .ok (.aload_n 0, 1) := by decide +kernel
theorem dX6_isOrder_17 : decode cX6_isOrder 17 = .ok (.getfield 122, 3) := by decide +kernel
theorem dX6_isOrder_20 : decode cX6_isOrder 20 = .ok (.iaload, 1) := by decide +kernel
theorem dX6_isOrder_21 : decode cX6_isOrder 21 = .ok (.goto 4, 3) := by decide +kernel
theorem dX6_isOrder_24 : decode cX6_isOrder 24 = .ok (.iconst 0, 1) := by decide +kernel
theorem dX6_isOrder_25 : decode cX6_isOrder 25 = .ok (.putfield 136, 3) := by decide +kernel
theorem dX6_isOrder_28 : decode cX6_isOrder 28 = .ok (.aload_n 0, 1) := by decide +kernel
theorem dX6_isOrder_29 : decode cX6_isOrder 29 = .ok (.getfield 136, 3) := by decide +kernel
theorem dX6_isOrder_32 : decode cX6_isOrder 32 = .ok (.bipush 97, 2) := by decide +kernel
theorem dX6_isOrder_34 : decode cX6_isOrder 34 = .ok (.if_icmp .eq 48, 3) := by decide +kernel
theorem dX6_isOrder_37 : decode cX6_isOrder 37 = .ok (.aload_n 0, 1) := by decide +kernel
theorem dX6_isOrder_38 : decode cX6_isOrder 38 = .ok (.getfield 136, 3) := by decide +kernel
theorem dX6_isOrder_41 : decode cX6_isOrder 41 = .ok (.bipush 108, 2) := by decide +kernel
theorem dX6_isOrder_43 : decode cX6_isOrder 43 = .ok (.if_icmp .eq 39, 3) := by decide +kernel
theorem dX6_isOrder_46 : decode cX6_isOrder 46 = .ok (.aload_n 0, 1) := by decide +kernel
theorem dX6_isOrder_47 : decode cX6_isOrder 47 = .ok (.getfield 136, 3) := by decide +kernel
theorem dX6_isOrder_50 : decode cX6_isOrder 50 = .ok (.bipush 117, 2) := by decide +kernel
theorem dX6_isOrder_52 : decode cX6_isOrder 52 = .ok (.if_icmp .eq 30, 3) := by decide +kernel
theorem dX6_isOrder_55 : decode cX6_isOrder 55 = .ok (.aload_n 0, 1) := by decide +kernel
theorem dX6_isOrder_56 : decode cX6_isOrder 56 = .ok (.getfield 136, 3) := by decide +kernel
theorem dX6_isOrder_59 : decode cX6_isOrder 59 = .ok (.bipush 120, 2) := by decide +kernel
theorem dX6_isOrder_61 : decode cX6_isOrder 61 = .ok (.if_icmp .eq 21, 3) := by decide +kernel
theorem dX6_isOrder_64 : decode cX6_isOrder 64 = .ok (.aload_n 0, 1) := by decide +kernel
theorem dX6_isOrder_65 : decode cX6_isOrder 65 = .ok (.getfield 136, 3) := by decide +kernel
theorem dX6_isOrder_68 : decode cX6_isOrder 68 = .ok (.bipush 119, 2) := by decide +kernel
theorem dX6_isOrder_70 : decode cX6_isOrder 70 = .ok (.if_icmp .eq 12, 3) := by decide +kernel
theorem dX6_isOrder_73 : decode cX6_isOrder 73 = .ok (.aload_n 0, 1) := by decide +kernel
theorem dX6_isOrder_74 : decode cX6_isOrder 74 = .ok (.getfield 136, 3) := by decide +kernel
theorem dX6_isOrder_77 : decode cX6_isOrder 77 = .ok (.bipush 100, 2) := by decide +kernel
theorem dX6_isOrder_79 : decode cX6_isOrder 79 = .ok (.if_icmp .ne 7, 3) := by decide +kernel
theorem dX6_isOrder_82 : decode cX6_isOrder 82 = .ok (.iconst 1, 1) := by decide +kernel
theorem dX6_isOrder_83 : decode cX6_isOrder 83 = .ok (.goto 4, 3) := by decide +kernel
theorem dX6_isOrder_86 : decode cX6_isOrder 86 = .ok (.iconst 0, 1) := by decide +kernel
theorem dX6_isOrder_87 : decode cX6_isOrder 87 = .ok (.istore_n 1, 1) := by decide +kernel
theorem dX6_isOrder_88 : decode cX6_isOrder 88 = .ok (.iload_n 1, 1) := by decide +kernel
theorem dX6_isOrder_89 : decode cX6_isOrder 89 = .ok (.ifCond .ne 25, 3) := by decide +kernel
theorem dX6_isOrder_92 : decode cX6_isOrder 92 = .ok (.aload_n 0, 1) := by decide +kernel
theorem dX6_isOrder_93 : decode cX6_isOrder 93 = .ok (.aload_n 0, 1) := by decide +kernel
theorem dX6_isOrder_94 : decode cX6_isOrder 94 = .ok (.getfield 122, 3) := by decide +kernel
theorem dX6_isOrder_97 : decode cX6_isOrder 97 = .ok (.aload_n 0, 1) := by decide +kernel
theorem dX6_isOrder_98 : decode cX6_isOrder 98 = .ok (.getfield 119, 3) := by decide +kernel
theorem dX6_isOrder_101 : decode cX6_isOrder 101 = .ok (.if_icmp .ge 7, 3) := by decide +kernel
theorem dX6_isOrder_104 : decode cX6_isOrder 104 = .ok (.iconst 1, 1) := by decide +kernel
theorem dX6_isOrder_105 : decode cX6_isOrder 105 = .ok (.goto 4, 3) := by decide +kernel
theorem dX6_isOrder_108 : decode cX6_isOrder 108 = .ok (.iconst 0, 1) := by decide +kernel
theorem dX6_isOrder_109 : decode cX6_isOrder 109 = .ok (.putfield 129, 3) := by decide +kernel
theorem dX6_isOrder_112 : decode cX6_isOrder 112 = .ok (.iconst 0, 1) := by decide +kernel
theorem dX6_isOrder_113 : decode cX6_isOrder 113 = .ok (.ireturn, 1) := by decide +kernel
theorem dX6_isOrder_114 : decode cX6_isOrder 114 = .ok (.aload_n 0, 1) := by decide +kernel
theorem dX6_isOrder_115 : decode cX6_isOrder 115 = .ok (.dup, 1) := by decide +kernel
theorem dX6_isOrder_116 : decode cX6_isOrder 116 = .ok (.getfield 122, 3) := by decide +kernel
theorem dX6_isOrder_119 : decode cX6_isOrder 119 = .ok (.iconst 1, 1) := by decide +kernel
theorem dX6_isOrder_120 : decode cX6_isOrder 120 = .ok (.iadd, 1) := by decide +kernel
theorem dX6_isOrder_121 : decode cX6_isOrder 121 = .ok (.putfield 122, 3) := by decide +kernel
theorem dX6_isOrder_124 : decode cX6_isOrder 124 = .ok (.aload_n 0, 1) := by decide +kernel
theorem dX6_isOrder_125 : decode cX6_isOrder 125 = .ok (.iconst 0, 1) := by decide +kernel
theorem dX6_isOrder_126 : decode cX6_isOrder 126 = .ok (.putfield 139, 3) := by decide +kernel
theorem dX6_isOrder_129 : decode cX6_isOrder 129 = .ok (.aload_n 0, 1) := by decide +kernel
theorem dX6_isOrder_130 : decode cX6_isOrder 130 = .ok (.iconst 0, 1) := by decide +kernel
theorem dX6_isOrder_131 : decode cX6_isOrder 131 = .ok (.putfield 142, 3) := by decide +kernel
theorem dX6_isOrder_134 : decode cX6_isOrder 134 = .ok (.aload_n 0, 1) := by decide +kernel
theorem dX6_isOrder_135 : decode cX6_isOrder 135 = .ok (.getfield 136, 3) := by decide +kernel
theorem dX6_isOrder_138 : decode cX6_isOrder 138 = .ok (.bipush 97, 2) := by decide +kernel
theorem dX6_isOrder_140 : decode cX6_isOrder 140 = .ok (.if_icmp .eq 12, 3) := by decide +kernel
theorem dX6_isOrder_143 : decode cX6_isOrder 143 = .ok (.aload_n 0, 1) := by decide +kernel
theorem dX6_isOrder_144 : decode cX6_isOrder 144 = .ok (.getfield 136, 3) := by decide +kernel
theorem dX6_isOrder_147 : decode cX6_isOrder 147 = .ok (.bipush 108, 2) := by decide +kernel
theorem dX6_isOrder_149 : decode cX6_isOrder 149 = .ok (.if_icmp .ne 15, 3) := by decide +kernel
theorem dX6_isOrder_152 : decode cX6_isOrder 152 = .ok (.aload_n 0, 1) := by decide +kernel
theorem dX6_isOrder_153 : decode cX6_isOrder 153 = .ok (.aload_n 0, 1) := by decide +kernel
theorem dX6_isOrder_154 : decode cX6_isOrder 154 = .ok (.bipush 48, 2) := by decide +kernel
theorem dX6_isOrder_156 : decode cX6_isOrder 156 = .ok (.bipush 49, 2) := by decide +kernel
theorem dX6_isOrder_158 : decode cX6_isOrder 158 = .ok (.invokevirtual 133, 3) := by decide +kernel
theorem dX6_isOrder_161 : decode cX6_isOrder 161 = .ok (.putfield 139, 3) := by decide +kernel
theorem dX6_isOrder_164 : decode cX6_isOrder 164 = .ok (.aload_n 0, 1) := by decide +kernel
theorem dX6_isOrder_165 : decode cX6_isOrder 165 = .ok (.getfield 136, 3) := by decide +kernel
theorem dX6_isOrder_168 : decode cX6_isOrder 168 = .ok (.bipush 97, 2) := by decide +kernel
theorem dX6_isOrder_170 : decode cX6_isOrder 170 = .ok (.if_icmp .ne 37, 3) := by decide +kernel
theorem dX6_isOrder_173 : decode cX6_isOrder 173 = .ok (.aload_n 0, 1) := by decide +kernel
theorem dX6_isOrder_174 : decode cX6_isOrder 174 = .ok (.aload_n 0, 1) := by decide +kernel
theorem dX6_isOrder_175 : decode cX6_isOrder 175 = .ok (.getfield 139, 3) := by decide +kernel
theorem dX6_isOrder_178 : decode cX6_isOrder 178 = .ok (.iconst (-1), 1) := by decide +kernel
theorem dX6_isOrder_179 : decode cX6_isOrder 179 = .ok (.if_icmp .eq 15, 3) := by decide +kernel
theorem dX6_isOrder_182 : decode cX6_isOrder 182 = .ok (.aload_n 0, 1) := by decide +kernel
theorem dX6_isOrder_183 : decode cX6_isOrder 183 = .ok (.bipush 58, 2) := by decide +kernel
theorem dX6_isOrder_185 : decode cX6_isOrder 185 = .ok (.bipush 58, 2) := by decide +kernel
theorem dX6_isOrder_187 : decode cX6_isOrder 187 = .ok (.invokevirtual 133, 3) := by decide +kernel
theorem dX6_isOrder_190 : decode cX6_isOrder 190 = .ok (.iconst (-1), 1) := by decide +kernel
theorem dX6_isOrder_191 : decode cX6_isOrder 191 = .ok (.if_icmp .ne 7, 3) := by decide +kernel
theorem dX6_isOrder_194 : decode cX6_isOrder 194 = .ok (.iconst (-1), 1) := by decide +kernel
theorem dX6_isOrder_195 : decode cX6_isOrder 195 = .ok (.goto 9, 3) := by decide +kernel
theorem dX6_isOrder_198 : decode cX6_isOrder 198 = .ok (.aload_n 0, 1) := by decide +kernel
theorem dX6_isOrder_199 : decode cX6_isOrder 199 = .ok (.bipush 20, 2) := by decide +kernel
theorem dX6_isOrder_201 : decode cX6_isOrder 201 = .ok (.invokevirtual 145, 3) := by decide +kernel
theorem dX6_isOrder_204 : decode cX6_isOrder 204 = .ok (.putfield 142, 3) := by decide +kernel
theorem dX6_isOrder_207 : decode cX6_isOrder 207 = .ok (.aload_n 0, 1) := by decide +kernel
theorem dX6_isOrder_208 : decode cX6_isOrder 208 = .ok (.getfield 136, 3) := by decide +kernel
theorem dX6_isOrder_211 : decode cX6_isOrder 211 = .ok (.bipush 119, 2) := by decide +kernel
theorem dX6_isOrder_213 : decode cX6_isOrder 213 = .ok (.if_icmp .eq 12, 3) := by decide +kernel
theorem dX6_isOrder_216 : decode cX6_isOrder 216 = .ok (.aload_n 0, 1) := by decide +kernel
theorem dX6_isOrder_217 : decode cX6_isOrder 217 = .ok (.getfield 136, 3) := by decide +kernel
theorem dX6_isOrder_220 : decode cX6_isOrder 220 = .ok (.bipush 100, 2) := by decide +kernel
theorem dX6_isOrder_222 : decode cX6_isOrder 222 = .ok (.if_icmp .ne 26, 3) := by decide +kernel
theorem dX6_isOrder_225 : decode cX6_isOrder 225 = .ok (.aload_n 0, 1) := by decide +kernel
theorem dX6_isOrder_226 : decode cX6_isOrder 226 = .ok (.aload_n 0, 1) := by decide +kernel
theorem dX6_isOrder_227 : decode cX6_isOrder 227 = .ok (.aload_n 0, 1) := by decide +kernel
theorem dX6_isOrder_228 : decode cX6_isOrder 228 = .ok (.getfield 136, 3) := by decide +kernel
theorem dX6_isOrder_231 : decode cX6_isOrder 231 = .ok (.bipush 119, 2) := by decide +kernel
theorem dX6_isOrder_233 : decode cX6_isOrder 233 = .ok (.if_icmp .ne 8, 3) := by decide +kernel
theorem dX6_isOrder_236 : decode cX6_isOrder 236 = .ok (.bipush 24, 2) := by decide +kernel
theorem dX6_isOrder_238 : decode cX6_isOrder 238 = .ok (.goto 4, 3) := by decide +kernel
theorem dX6_isOrder_241 : decode cX6_isOrder 241 = .ok (.iconst 5, 1) := by decide +kernel
theorem dX6_isOrder_242 : decode cX6_isOrder 242 = .ok (.invokevirtual 145, 3) := by decide +kernel
theorem dX6_isOrder_245 : decode cX6_isOrder 245 = .ok (.putfield 139, 3) := by decide +kernel
theorem dX6_isOrder_248 : decode cX6_isOrder 248 = .ok (.aload_n 0, 1) := by decide +kernel
theorem dX6_isOrder_249 : decode cX6_isOrder 249 = .ok (.getfield 139, 3) := by decide +kernel
theorem dX6_isOrder_252 : decode cX6_isOrder 252 = .ok (.iconst (-1), 1) := by decide +kernel
theorem dX6_isOrder_253 : decode cX6_isOrder 253 = .ok (.if_icmp .eq 15, 3) := by decide +kernel
theorem dX6_isOrder_256 : decode cX6_isOrder 256 = .ok (.aload_n 0, 1) := by decide +kernel
theorem dX6_isOrder_257 : decode cX6_isOrder 257 = .ok (.getfield 142, 3) := by decide +kernel
theorem dX6_isOrder_260 : decode cX6_isOrder 260 = .ok (.iconst (-1), 1) := by decide +kernel
theorem dX6_isOrder_261 : decode cX6_isOrder 261 = .ok (.if_icmp .eq 7, 3) := by decide +kernel
theorem dX6_isOrder_264 : decode cX6_isOrder 264 = .ok (.iconst 1, 1) := by decide +kernel
theorem dX6_isOrder_265 : decode cX6_isOrder 265 = .ok (.goto 4, 3) := by decide +kernel
theorem dX6_isOrder_268 : decode cX6_isOrder 268 = .ok (.iconst 0, 1) := by decide +kernel
theorem dX6_isOrder_269 : decode cX6_isOrder 269 = .ok (.ireturn, 1) := by decide +kernel
set_option maxRecDepth 20000 in
theorem ggX6_orders_X6_isOrder : GoodIn wsX6_orders wsX6_isOrder := goodIn_r _ [9, 1, 3, 10, 11, 2, 12, 13, 14, 15, 16, 8, 17, 18, 19, 20, 21, 22, 23, 24, 25, 26, 27, 28, 95, 96, 97, 98, 99, 100, 101, 102, 103, 104, 105, 106, 107, 108, 109, 110] (by decide +kernel) (by decide +kernel)
set_option maxRecDepth 20000 in
theorem gX6_orders_X6_isOrder : GoodIn wsX6_orders (wsV RX6 148 RX6 yX6_isOrder wsX6_isOrder) := goodIn_app (goodIn_of _ (by decide +kernel)) ggX6_orders_X6_isOrder
set_option maxRecDepth 20000 in
theorem ggX6_orders_X6_canDo : GoodIn wsX6_orders wsX6_canDo := goodIn_r _ [32, 11, 33, 12, 13, 34, 35, 8, 36, 37, 38, 39, 40, 41, 42, 43, 44, 45, 46, 47, 48, 49, 50, 51, 52, 53, 54, 55, 56, 57, 58, 59, 60, 61, 62, 63, 64, 65, 66, 67, 68, 69, 70, 71, 72, 73, 74, 75, 76, 77, 78, 79, 80, 81, 82, 83, 84, 85, 86, 87, 88, 89, 90, 91, 92, 93, 94, 95, 96, 97, 98, 99, 100, 101, 102, 103, 104, 105, 106, 107, 108, 109, 110] (by decide +kernel) (by decide +kernel)
set_option maxRecDepth 20000 in
theorem gX6_orders_X6_canDo : GoodIn wsX6_orders (wsV RX6 152 RX6 yX6_canDo wsX6_canDo) := goodIn_app (goodIn_of _ (by decide +kernel)) ggX6_orders_X6_canDo
set_option maxRecDepth 20000 in
theorem ggX6_orders_X6_sees : GoodIn wsX6_orders wsX6_sees := goodIn_r _ [21, 1, 3, 10, 22, 23, 8, 24, 95, 96, 97, 98, 99, 100, 101, 102, 103, 104, 105, 106, 107, 108, 109, 110] (by decide +kernel) (by decide +kernel)
set_option maxRecDepth 20000 in
theorem gX6_orders_X6_sees : GoodIn wsX6_orders (wsV RX6 125 RX6 yX6_sees wsX6_sees) := goodIn_app (goodIn_of _ (by decide +kernel)) ggX6_orders_X6_sees
theorem dX6_orders_0 : decode cX6_orders 0 = .ok (.aload_n 0, 1) := by decide +kernel
theorem dX6_orders_1 : decode cX6_orders 1 = .ok (.iconst 0, 1) := by decide +kernel
theorem dX6_orders_2 : decode cX6_orders 2 = .ok (.putfield 122, 3) := by decide +kernel
theorem dX6_orders_5 : decode cX6_orders 5 = .ok (.aload_n 0, 1) := by decide +kernel
theorem dX6_orders_6 : decode cX6_orders 6 = .ok (.iconst 0, 1) := by decide +kernel
theorem dX6_orders_7 : decode cX6_orders 7 = .ok (.putfield 129, 3) := by decide +kernel
theorem dX6_orders_10 : decode cX6_orders 10 = .ok (.iconst 0, 1) := by decide +kernel
theorem dX6_orders_11 : decode cX6_orders 11 = .ok (.istore_n 2, 1) := by decide +kernel
theorem dX6_orders_12 : decode cX6_orders 12 = .ok (.iconst 1, 1) := by decide +kernel
theorem dX6_orders_13 : decode cX6_orders 13 = .ok (.istore_n 3, 1) := by decide +kernel
theorem dX6_orders_14 : decode cX6_orders 14 = .ok (.iload_n 3, 1) := by decide +kernel
theorem dX6_orders_15 : decode cX6_orders 15 = .ok (.ifCond .eq 167, 3) := by decide +kernel
theorem dX6_orders_18 : decode cX6_orders 18 = .ok (.aload_n 0, 1) := by decide +kernel
theorem dX6_orders_19 : decode cX6_orders 19 = .ok (.invokevirtual 148, 3) := by decide +kernel
theorem dX6_orders_22 : decode cX6_orders 22 = .ok (.istore 4, 2) := by decide +kernel
theorem dX6_orders_24 : decode cX6_orders 24 = .ok (.iload_n 2, 1) := by decide +kernel
theorem dX6_orders_25 : decode cX6_orders 25 = .ok (.iload 4, 2) := by decide +kernel
theorem dX6_orders_27 : decode cX6_orders 27 = .ok (.ifCond .eq 7, 3) := by decide +kernel
theorem dX6_orders_30 : decode cX6_orders 30 = .ok (.iconst 1, 1) := by decide +kernel
theorem dX6_orders_31 : decode cX6_orders 31 = .ok (.goto 4, 3) := by decide +kernel
theorem dX6_orders_34 : decode cX6_orders 34 = .ok (.iconst 0, 1) := by decide +kernel
theorem dX6_orders_35 : decode cX6_orders 35 = .ok (.iadd, 1) := by decide +kernel
theorem dX6_orders_36 : decode cX6_orders 36 = .ok (.istore_n 2, 1) := by decide +kernel
theorem dX6_orders_37 : decode cX6_orders 37 = .ok (.iload 4, 2) := by decide +kernel
theorem dX6_orders_39 : decode cX6_orders 39 = .ok (.ifCond .eq 18, 3) := by decide +kernel
theorem dX6_orders_42 : decode cX6_orders 42 = .ok (.iload_n 1, 1) := by decide +kernel
theorem dX6_orders_43 : decode cX6_orders 43 = .ok (.ifCond .eq 10, 3) := by decide +kernel
theorem dX6_orders_46 : decode cX6_orders 46 = .ok (.aload_n 0, 1) := by decide +kernel
theorem dX6_orders_47 : decode cX6_orders 47 = .ok (.invokevirtual 152, 3) := by decide +kernel
theorem dX6_orders_50 : decode cX6_orders 50 = .ok (.ifCond .eq 7, 3) := by decide +kernel
theorem dX6_orders_53 : decode cX6_orders 53 = .ok (.iconst 1, 1) := by decide +kernel
theorem dX6_orders_54 : decode cX6_orders 54 = .ok (.goto 4, 3) := by decide +kernel
theorem dX6_orders_57 : decode cX6_orders 57 = .ok (.iconst 0, 1) := by decide +kernel
theorem dX6_orders_58 : decode cX6_orders 58 = .ok (.istore 5, 2) := by decide +kernel
theorem dX6_orders_60 : decode cX6_orders 60 = .ok (.iload 4, 2) := by decide +kernel
theorem dX6_orders_62 : decode cX6_orders 62 = .ok (.ifCond .eq 12, 3) := by decide +kernel
theorem dX6_orders_65 : decode cX6_orders 65 = .ok (.iload 5, 2) := by decide +kernel
theorem dX6_orders_67 : decode cX6_orders 67 = .ok (.ifCond .ne 7, 3) := by decide +kernel
theorem dX6_orders_70 : decode cX6_orders 70 = .ok (.iload_n 2, 1) := by decide +kernel
theorem dX6_orders_71 : decode cX6_orders 71 = .ok (.iconst 1, 1) := by decide +kernel
theorem dX6_orders_72 : decode cX6_orders 72 = .ok (.isub, 1) := by decide +kernel
theorem dX6_orders_73 : decode cX6_orders 73 = .ok (.ireturn, 1) := by decide +kernel
theorem dX6_orders_74 : decode cX6_orders 74 = .ok (.iload 4, 2) := by decide +kernel
theorem dX6_orders_76 : decode cX6_orders 76 = .ok (.ifCond .eq 18, 3) := by decide +kernel
theorem dX6_orders_79 : decode cX6_orders 79 = .ok (.aload_n 0, 1) := by decide +kernel
theorem dX6_orders_80 : decode cX6_orders 80 = .ok (.bipush 59, 2) := by decide +kernel
theorem dX6_orders_82 : decode cX6_orders 82 = .ok (.bipush 59, 2) := by decide +kernel
theorem dX6_orders_84 : decode cX6_orders 84 = .ok (.invokevirtual 125, 3) := by decide +kernel
theorem dX6_orders_87 : decode cX6_orders 87 = .ok (.ifCond .eq 7, 3) := by decide +kernel
theorem dX6_orders_90 : decode cX6_orders 90 = .ok (.iconst 1, 1) := by decide +kernel
theorem dX6_orders_91 : decode cX6_orders 91 = .ok (.goto 4, 3) := by decide +kernel
theorem dX6_orders_94 : decode cX6_orders 94 = .ok (.iconst 0, 1) := by decide +kernel
theorem dX6_orders_95 : decode cX6_orders 95 = .ok (.istore_n 3, 1) := by decide +kernel
theorem dX6_orders_96 : decode cX6_orders 96 = .ok (.aload_n 0, 1) := by decide +kernel
theorem dX6_orders_97 : decode cX6_orders 97 = .ok (.dup, 1) := by decide +kernel
theorem dX6_orders_98 : decode cX6_orders 98 = .ok (.getfield 122, 3) := by decide +kernel
theorem dX6_orders_101 : decode cX6_orders 101 = .ok (.iload_n 3, 1) := by decide +kernel
theorem dX6_orders_102 : decode cX6_orders 102 = .ok (.ifCond .eq 7, 3) := by decide +kernel
theorem dX6_orders_105 : decode cX6_orders 105 = .ok (.iconst 1, 1) := by decide +kernel
theorem dX6_orders_106 : decode cX6_orders 106 = .ok (.goto 4, 3) := by decide +kernel
theorem dX6_orders_109 : decode cX6_orders 109 = .ok (.iconst 0, 1) := by decide +kernel
theorem dX6_orders_110 : decode cX6_orders 110 = .ok (.iadd, 1) := by decide +kernel
theorem dX6_orders_111 : decode cX6_orders 111 = .ok (.putfield 122, 3) := by decide +kernel
theorem dX6_orders_114 : decode cX6_orders 114 = .ok (.aload_n 0, 1) := by decide +kernel
theorem dX6_orders_115 : decode cX6_orders 115 = .ok (.aload_n 0, 1) := by decide +kernel
theorem dX6_orders_116 : decode cX6_orders 116 = .ok (.getfield 129, 3) := by decide +kernel
theorem dX6_orders_119 : decode cX6_orders 119 = .ok (.ifCond .ne 23, 3) := by decide +kernel
theorem dX6_orders_122 : decode cX6_orders 122 = .ok (.iload 4, 2) := by decide +kernel
theorem dX6_orders_124 : decode cX6_orders 124 = .ok (.ifCond .eq 22, 3) := by decide +kernel
theorem dX6_orders_127 : decode cX6_orders 127 = .ok (.iload_n 3, 1) := by decide +kernel
theorem dX6_orders_128 : decode cX6_orders 128 = .ok (.ifCond .ne 18, 3) := by decide +kernel
theorem dX6_orders_131 : decode cX6_orders 131 = .ok (.aload_n 0, 1) := by decide +kernel
theorem dX6_orders_132 : decode cX6_orders 132 = .ok (.getfield 122, 3) := by decide +kernel
theorem dX6_orders_135 : decode cX6_orders 135 = .ok (.aload_n 0, 1) := by decide +kernel
theorem dX6_orders_136 : decode cX6_orders 136 = .ok (.getfield 119, 3) := by decide +kernel
theorem dX6_orders_139 : decode cX6_orders 139 = .ok (.if_icmp .ge 7, 3) := by decide +kernel
theorem dX6_orders_142 : decode cX6_orders 142 = .ok (.iconst 1, 1) := by decide +kernel
theorem dX6_orders_143 : decode cX6_orders 143 = .ok (.goto 4, 3) := by decide +kernel
theorem dX6_orders_146 : decode cX6_orders 146 = .ok (.iconst 0, 1) := by decide +kernel
theorem dX6_orders_147 : decode cX6_orders 147 = .ok (.putfield 129, 3) := by decide +kernel
theorem dX6_orders_150 : decode cX6_orders 150 = .ok (.aload_n 0, 1) := by decide +kernel
theorem dX6_orders_151 : decode cX6_orders 151 = .ok (.iload 4, 2) := by decide +kernel
theorem dX6_orders_153 : decode cX6_orders 153 = .ok (.ifCond .eq 22, 3) := by decide +kernel
theorem dX6_orders_156 : decode cX6_orders 156 = .ok (.iload_n 3, 1) := by decide +kernel
theorem dX6_orders_157 : decode cX6_orders 157 = .ok (.ifCond .ne 18, 3) := by decide +kernel
theorem dX6_orders_160 : decode cX6_orders 160 = .ok (.aload_n 0, 1) := by decide +kernel
theorem dX6_orders_161 : decode cX6_orders 161 = .ok (.getfield 122, 3) := by decide +kernel
theorem dX6_orders_164 : decode cX6_orders 164 = .ok (.aload_n 0, 1) := by decide +kernel
theorem dX6_orders_165 : decode cX6_orders 165 = .ok (.getfield 119, 3) := by decide +kernel
theorem dX6_orders_168 : decode cX6_orders 168 = .ok (.if_icmp .ne 7, 3) := by decide +kernel
theorem dX6_orders_171 : decode cX6_orders 171 = .ok (.iconst 1, 1) := by decide +kernel
theorem dX6_orders_172 : decode cX6_orders 172 = .ok (.goto 4, 3) := by decide +kernel
theorem dX6_orders_175 : decode cX6_orders 175 = .ok (.iconst 0, 1) := by decide +kernel
theorem dX6_orders_176 : decode cX6_orders 176 = .ok (.putfield 155, 3) := by decide +kernel
theorem dX6_orders_179 : decode cX6_orders 179 = .ok (.goto (-165), 3) := by decide +kernel
theorem dX6_orders_182 : decode cX6_orders 182 = .ok (.iload_n 2, 1) := by decide +kernel
theorem dX6_orders_183 : decode cX6_orders 183 = .ok (.ireturn, 1) := by decide +kernel
set_option maxRecDepth 20000 in
theorem ggX6_canDo_X6_waitingAt : GoodIn wsX6_canDo wsX6_waitingAt := goodIn_r _ [8] (by decide +kernel) (by decide +kernel)
set_option maxRecDepth 20000 in
theorem gX6_canDo_X6_waitingAt : GoodIn wsX6_canDo (va_wsS RX6 51 yX6_waitingAt wsX6_waitingAt) := goodIn_app (goodIn_of _ (by decide +kernel)) ggX6_canDo_X6_waitingAt
set_option maxRecDepth 20000 in
theorem ggX6_canDo_X6_canLoad : GoodIn wsX6_canDo wsX6_canLoad := goodIn_r _ [12, 2, 5, 6, 7, 8, 13, 14, 15, 67, 68, 69, 70, 71, 72, 73, 74, 75, 76, 77, 78, 79, 80, 81, 82] (by decide +kernel) (by decide +kernel)
set_option maxRecDepth 20000 in
theorem gX6_canDo_X6_canLoad : GoodIn wsX6_canDo (wsV RX6 100 RX6 yX6_canLoad wsX6_canLoad) := goodIn_app (goodIn_of _ (by decide +kernel)) ggX6_canDo_X6_canLoad
set_option maxRecDepth 20000 in
theorem ggX6_canDo_X6_reason : GoodIn wsX6_canDo wsX6_reason := goodIn_r _ [18, 19, 20, 7, 21, 22, 23, 24, 13, 14, 15, 25, 26, 27, 28, 29, 30, 31, 32, 33, 34, 35, 36, 37, 38, 39, 40, 41, 42] (by decide +kernel) (by decide +kernel)
set_option maxRecDepth 20000 in
theorem gX6_canDo_X6_reason : GoodIn wsX6_canDo (va_wsS RX6 110 yX6_reason wsX6_reason) := goodIn_app (goodIn_of _ (by decide +kernel)) ggX6_canDo_X6_reason
set_option maxRecDepth 20000 in
theorem ggX6_canDo_X6_arrives : GoodIn wsX6_canDo wsX6_arrives := goodIn_r _ [46, 2, 67, 68, 69, 70, 71, 72, 73, 74, 75, 76, 77, 78, 79, 80, 81, 82] (by decide +kernel) (by decide +kernel)
set_option maxRecDepth 20000 in
theorem gX6_canDo_X6_arrives : GoodIn wsX6_canDo (wsV RX6 97 RX6 yX6_arrives wsX6_arrives) := goodIn_app (goodIn_of _ (by decide +kernel)) ggX6_canDo_X6_arrives
set_option maxRecDepth 20000 in
theorem ggX6_canDo_X6_loads : GoodIn wsX6_canDo wsX6_loads := goodIn_r _ [50, 2, 67, 68, 69, 70, 71, 72, 73, 74, 75, 76, 77, 78, 79, 80, 81, 82] (by decide +kernel) (by decide +kernel)
set_option maxRecDepth 20000 in
theorem gX6_canDo_X6_loads : GoodIn wsX6_canDo (wsV RX6 103 RX6 yX6_loads wsX6_loads) := goodIn_app (goodIn_of _ (by decide +kernel)) ggX6_canDo_X6_loads
set_option maxRecDepth 20000 in
theorem ggX6_canDo_X6_unloads : GoodIn wsX6_canDo wsX6_unloads := goodIn_r _ [54, 2, 13, 14, 7, 15, 25, 26, 27, 67, 68, 69, 70, 71, 72, 73, 74, 75, 76, 77, 78, 79, 80, 81, 82] (by decide +kernel) (by decide +kernel)
set_option maxRecDepth 20000 in
theorem gX6_canDo_X6_unloads : GoodIn wsX6_canDo (wsV RX6 106 RX6 yX6_unloads wsX6_unloads) := goodIn_app (goodIn_of _ (by decide +kernel)) ggX6_canDo_X6_unloads
set_option maxRecDepth 20000 in
theorem ggX6_canDo_X6_crosses : GoodIn wsX6_canDo wsX6_crosses := goodIn_r _ [57, 34, 35, 7, 36, 19, 20, 21, 22, 23, 24, 13, 14, 15, 25, 26, 27, 28, 29, 30, 37, 38, 39, 58, 59, 60, 61, 62, 63, 5, 6, 8] (by decide +kernel) (by decide +kernel)
set_option maxRecDepth 20000 in
theorem gX6_canDo_X6_crosses : GoodIn wsX6_canDo (va_wsS RX6 113 yX6_crosses wsX6_crosses) := goodIn_app (goodIn_of _ (by decide +kernel)) ggX6_canDo_X6_crosses
set_option maxRecDepth 20000 in
theorem ggX6_canDo_X6_draws : GoodIn wsX6_canDo wsX6_draws := goodIn_r _ [66, 61, 62, 7, 63, 5, 6, 8] (by decide +kernel) (by decide +kernel)
set_option maxRecDepth 20000 in
theorem gX6_canDo_X6_draws : GoodIn wsX6_canDo (va_wsS RX6 116 yX6_draws wsX6_draws) := goodIn_app (goodIn_of _ (by decide +kernel)) ggX6_canDo_X6_draws
set_option maxRecDepth 20000 in
theorem ggX6_canDo_X6_passes : GoodIn wsX6_canDo wsX6_passes := goodIn_r _ [63, 5, 6, 7, 8] (by decide +kernel) (by decide +kernel)
set_option maxRecDepth 20000 in
theorem gX6_canDo_X6_passes : GoodIn wsX6_canDo (va_wsS RX6 76 yX6_passes wsX6_passes) := goodIn_app (goodIn_of _ (by decide +kernel)) ggX6_canDo_X6_passes
theorem dX6_canDo_0 : decode cX6_canDo 0 = .ok (.aload_n 0, 1) := by decide +kernel
theorem dX6_canDo_1 : decode cX6_canDo 1 = .ok (.getfield 136, 3) := by decide +kernel
theorem dX6_canDo_4 : decode cX6_canDo 4 = .ok (.bipush 97, 2) := by decide +kernel
theorem dX6_canDo_6 : decode cX6_canDo 6 = .ok (.if_icmp .ne 27, 3) := by decide +kernel
theorem dX6_canDo_9 : decode cX6_canDo 9 = .ok (.aload_n 0, 1) := by decide +kernel
theorem dX6_canDo_10 : decode cX6_canDo 10 = .ok (.getfield 7, 3) := by decide +kernel
theorem dX6_canDo_13 : decode cX6_canDo 13 = .ok (.aload_n 0, 1) := by decide +kernel
theorem dX6_canDo_14 : decode cX6_canDo 14 = .ok (.getfield 139, 3) := by decide +kernel
theorem dX6_canDo_17 : decode cX6_canDo 17 = .ok (.invokestatic 51, 3) := by decide +kernel
theorem dX6_canDo_20 : decode cX6_canDo 20 = .ok (.bipush 10, 2) := by decide +kernel
theorem dX6_canDo_22 : decode cX6_canDo 22 = .ok (.if_icmp .ge 7, 3) := by decide +kernel
theorem dX6_canDo_25 : decode cX6_canDo 25 = .ok (.iconst 1, 1) := by decide +kernel
theorem dX6_canDo_26 : decode cX6_canDo 26 = .ok (.goto 82, 3) := by decide +kernel
theorem dX6_canDo_29 : decode cX6_canDo 29 = .ok (.iconst 0, 1) := by decide +kernel
theorem dX6_canDo_30 : decode cX6_canDo 30 = .ok (.goto 78, 3) := by decide +kernel
theorem dX6_canDo_33 : decode cX6_canDo 33 = .ok (.aload_n 0, 1) := by decide +kernel
theorem dX6_canDo_34 : decode cX6_canDo 34 = .ok (.getfield 136, 3) := by decide +kernel
theorem dX6_canDo_37 : decode cX6_canDo 37 = .ok (.bipush 108, 2) := by decide +kernel
theorem dX6_canDo_39 : decode cX6_canDo 39 = .ok (.if_icmp .ne 14, 3) := by decide +kernel
theorem dX6_canDo_42 : decode cX6_canDo 42 = .ok (.aload_n 0, 1) := by decide +kernel
theorem dX6_canDo_43 : decode cX6_canDo 43 = .ok (.aload_n 0, 1) := by decide +kernel
theorem dX6_canDo_44 : decode cX6_canDo 44 = .ok (.getfield 139, 3) := by decide +kernel
theorem dX6_canDo_47 : decode cX6_canDo 47 = .ok (.invokevirtual 100, 3) := by decide +kernel
theorem dX6_canDo_50 : decode cX6_canDo 50 = .ok (.goto 58, 3) := by decide +kernel
theorem dX6_canDo_53 : decode cX6_canDo 53 = .ok (.aload_n 0, 1) := by decide +kernel
theorem dX6_canDo_54 : decode cX6_canDo 54 = .ok (.getfield 136, 3) := by decide +kernel
theorem dX6_canDo_57 : decode cX6_canDo 57 = .ok (.bipush 120, 2) := by decide +kernel
theorem dX6_canDo_59 : decode cX6_canDo 59 = .ok (.if_icmp .ne 21, 3) := by decide +kernel
theorem dX6_canDo_62 : decode cX6_canDo 62 = .ok (.aload_n 0, 1) := by decide +kernel
theorem dX6_canDo_63 : decode cX6_canDo 63 = .ok (.getfield 7, 3) := by decide +kernel
theorem dX6_canDo_66 : decode cX6_canDo 66 = .ok (.invokestatic 110, 3) := by decide +kernel
theorem dX6_canDo_69 : decode cX6_canDo 69 = .ok (.ifCond .ne 7, 3) := by decide +kernel
theorem dX6_canDo_72 : decode cX6_canDo 72 = .ok (.iconst 1, 1) := by decide +kernel
theorem dX6_canDo_73 : decode cX6_canDo 73 = .ok (.goto 35, 3) := by decide +kernel
theorem dX6_canDo_76 : decode cX6_canDo 76 = .ok (.iconst 0, 1) := by decide +kernel
theorem dX6_canDo_77 : decode cX6_canDo 77 = .ok (.goto 31, 3) := by decide +kernel
theorem dX6_canDo_80 : decode cX6_canDo 80 = .ok (.aload_n 0, 1) := by decide +kernel
theorem dX6_canDo_81 : decode cX6_canDo 81 = .ok (.getfield 136, 3) := by decide +kernel
theorem dX6_canDo_84 : decode cX6_canDo 84 = .ok (.bipush 100, 2) := by decide +kernel
theorem dX6_canDo_86 : decode cX6_canDo 86 = .ok (.if_icmp .ne 17, 3) := by decide +kernel
theorem dX6_canDo_89 : decode cX6_canDo 89 = .ok (.aload_n 0, 1) := by decide +kernel
theorem dX6_canDo_90 : decode cX6_canDo 90 = .ok (.getfield 7, 3) := by decide +kernel
theorem dX6_canDo_93 : decode cX6_canDo 93 = .ok (.bipush 49, 2) := by decide +kernel
theorem dX6_canDo_95 : decode cX6_canDo 95 = .ok (.iaload, 1) := by decide +kernel
theorem dX6_canDo_96 : decode cX6_canDo 96 = .ok (.aload_n 0, 1) := by decide +kernel
theorem dX6_canDo_97 : decode cX6_canDo 97 = .ok (.getfield 139, 3) := by decide +kernel
theorem dX6_canDo_100 : decode cX6_canDo 100 = .ok (.if_icmp .lt 7, 3) := by decide +kernel
theorem dX6_canDo_103 : decode cX6_canDo 103 = .ok (.iconst 1, 1) := by decide +kernel
theorem dX6_canDo_104 : decode cX6_canDo 104 = .ok (.goto 4, 3) := by decide +kernel
theorem dX6_canDo_107 : decode cX6_canDo 107 = .ok (.iconst 0, 1) := by decide +kernel
theorem dX6_canDo_108 : decode cX6_canDo 108 = .ok (.istore_n 1, 1) := by decide +kernel
theorem dX6_canDo_109 : decode cX6_canDo 109 = .ok (.iload_n 1, 1) := by decide +kernel
theorem dX6_canDo_110 : decode cX6_canDo 110 = .ok (.ifCond .ne 7, 3) := by decide +kernel
theorem dX6_canDo_113 : decode cX6_canDo 113 = .ok (.iconst 0, 1) := by decide +kernel
theorem dX6_canDo_114 : decode cX6_canDo 114 = .ok (.goto 106, 3) := by decide +kernel
theorem dX6_canDo_117 : decode cX6_canDo 117 = .ok (.aload_n 0, 1) := by decide +kernel
theorem dX6_canDo_118 : decode cX6_canDo 118 = .ok (.getfield 136, 3) := by decide +kernel
theorem dX6_canDo_121 : decode cX6_canDo 121 = .ok (.bipush 97, 2) := by decide +kernel
theorem dX6_canDo_123 : decode cX6_canDo 123 = .ok (.if_icmp .ne 18, 3) := by decide +kernel
theorem dX6_canDo_126 : decode cX6_canDo 126 = .ok (.aload_n 0, 1) := by decide +kernel
theorem dX6_canDo_127 : decode cX6_canDo 127 = .ok (.aload_n 0, 1) := by decide +kernel
theorem dX6_canDo_128 : decode cX6_canDo 128 = .ok (.getfield 139, 3) := by decide +kernel
theorem dX6_canDo_131 : decode cX6_canDo 131 = .ok (.aload_n 0, 1) := by decide +kernel
theorem dX6_canDo_132 : decode cX6_canDo 132 = .ok (.getfield 142, 3) := by decide +kernel
theorem dX6_canDo_135 : decode cX6_canDo 135 = .ok (.invokevirtual 97, 3) := by decide +kernel
theorem dX6_canDo_138 : decode cX6_canDo 138 = .ok (.goto 82, 3) := by decide +kernel
theorem dX6_canDo_141 : decode cX6_canDo 141 = .ok (.aload_n 0, 1) := by decide +kernel
theorem dX6_canDo_142 : decode cX6_canDo 142 = .ok (.getfield 136, 3) := by decide +kernel
theorem dX6_canDo_145 : decode cX6_canDo 145 = .ok (.bipush 108, 2) := by decide +kernel
theorem dX6_canDo_147 : decode cX6_canDo 147 = .ok (.if_icmp .ne 14, 3) := by decide +kernel
theorem dX6_canDo_150 : decode cX6_canDo 150 = .ok (.aload_n 0, 1) := by decide +kernel
theorem dX6_canDo_151 : decode cX6_canDo 151 = .ok (.aload_n 0, 1) := by decide +kernel
theorem dX6_canDo_152 : decode cX6_canDo 152 = .ok (.getfield 139, 3) := by decide +kernel
theorem dX6_canDo_155 : decode cX6_canDo 155 = .ok (.invokevirtual 103, 3) := by decide +kernel
theorem dX6_canDo_158 : decode cX6_canDo 158 = .ok (.goto 62, 3) := by decide +kernel
theorem dX6_canDo_161 : decode cX6_canDo 161 = .ok (.aload_n 0, 1) := by decide +kernel
theorem dX6_canDo_162 : decode cX6_canDo 162 = .ok (.getfield 136, 3) := by decide +kernel
theorem dX6_canDo_165 : decode cX6_canDo 165 = .ok (.bipush 117, 2) := by decide +kernel
theorem dX6_canDo_167 : decode cX6_canDo 167 = .ok (.if_icmp .ne 10, 3) := by decide +kernel
theorem dX6_canDo_170 : decode cX6_canDo 170 = .ok (.aload_n 0, 1) := by decide +kernel
theorem dX6_canDo_171 : decode cX6_canDo 171 = .ok (.invokevirtual 106, 3) := by decide +kernel
theorem dX6_canDo_174 : decode cX6_canDo 174 = .ok (.goto 46, 3) := by decide +kernel
theorem dX6_canDo_177 : decode cX6_canDo 177 = .ok (.aload_n 0, 1) := by decide +kernel
theorem dX6_canDo_178 : decode cX6_canDo 178 = .ok (.getfield 136, 3) := by decide +kernel
theorem dX6_canDo_181 : decode cX6_canDo 181 = .ok (.bipush 120, 2) := by decide +kernel
theorem dX6_canDo_183 : decode cX6_canDo 183 = .ok (.if_icmp .ne 13, 3) := by decide +kernel
theorem dX6_canDo_186 : decode cX6_canDo 186 = .ok (.aload_n 0, 1) := by decide +kernel
theorem dX6_canDo_187 : decode cX6_canDo 187 = .ok (.getfield 7, 3) := by decide +kernel
theorem dX6_canDo_190 : decode cX6_canDo 190 = .ok (.invokestatic 113, 3) := by decide +kernel
theorem dX6_canDo_193 : decode cX6_canDo 193 = .ok (.goto 27, 3) := by decide +kernel
theorem dX6_canDo_196 : decode cX6_canDo 196 = .ok (.aload_n 0, 1) := by decide +kernel
theorem dX6_canDo_197 : decode cX6_canDo 197 = .ok (.getfield 136, 3) := by decide +kernel
theorem dX6_canDo_200 : decode cX6_canDo 200 = .ok (.bipush 100, 2) := by decide +kernel
theorem dX6_canDo_202 : decode cX6_canDo 202 = .ok (.if_icmp .ne 17, 3) := by decide +kernel
theorem dX6_canDo_205 : decode cX6_canDo 205 = .ok (.aload_n 0, 1) := by decide +kernel
theorem dX6_canDo_206 : decode cX6_canDo 206 = .ok (.getfield 7, 3) := by decide +kernel
theorem dX6_canDo_209 : decode cX6_canDo 209 = .ok (.aload_n 0, 1) := by decide +kernel
theorem dX6_canDo_210 : decode cX6_canDo 210 = .ok (.getfield 139, 3) := by decide +kernel
theorem dX6_canDo_213 : decode cX6_canDo 213 = .ok (.invokestatic 116, 3) := by decide +kernel
theorem dX6_canDo_216 : decode cX6_canDo 216 = .ok (.goto 4, 3) := by decide +kernel
theorem dX6_canDo_219 : decode cX6_canDo 219 = .ok (.iconst 0, 1) := by decide +kernel
theorem dX6_canDo_220 : decode cX6_canDo 220 = .ok (.istore_n 2, 1) := by decide +kernel
theorem dX6_canDo_221 : decode cX6_canDo 221 = .ok (.iload_n 1, 1) := by decide +kernel
theorem dX6_canDo_222 : decode cX6_canDo 222 = .ok (.ifCond .eq 23, 3) := by decide +kernel
theorem dX6_canDo_225 : decode cX6_canDo 225 = .ok (.aload_n 0, 1) := by decide +kernel
theorem dX6_canDo_226 : decode cX6_canDo 226 = .ok (.getfield 136, 3) := by decide +kernel
theorem dX6_canDo_229 : decode cX6_canDo 229 = .ok (.bipush 119, 2) := by decide +kernel
theorem dX6_canDo_231 : decode cX6_canDo 231 = .ok (.if_icmp .ne 14, 3) := by decide +kernel
theorem dX6_canDo_234 : decode cX6_canDo 234 = .ok (.aload_n 0, 1) := by decide +kernel
theorem dX6_canDo_235 : decode cX6_canDo 235 = .ok (.getfield 7, 3) := by decide +kernel
theorem dX6_canDo_238 : decode cX6_canDo 238 = .ok (.aload_n 0, 1) := by decide +kernel
theorem dX6_canDo_239 : decode cX6_canDo 239 = .ok (.getfield 139, 3) := by decide +kernel
theorem dX6_canDo_242 : decode cX6_canDo 242 = .ok (.invokestatic 76, 3) := by decide +kernel
theorem dX6_canDo_245 : decode cX6_canDo 245 = .ok (.iload_n 1, 1) := by decide +kernel
theorem dX6_canDo_246 : decode cX6_canDo 246 = .ok (.ifCond .eq 11, 3) := by decide +kernel
theorem dX6_canDo_249 : decode cX6_canDo 249 = .ok (.iload_n 2, 1) := by decide +kernel
theorem dX6_canDo_250 : decode cX6_canDo 250 = .ok (.ifCond .lt 7, 3) := by decide +kernel
theorem dX6_canDo_253 : decode cX6_canDo 253 = .ok (.iconst 1, 1) := by decide +kernel
theorem dX6_canDo_254 : decode cX6_canDo 254 = .ok (.goto 4, 3) := by decide +kernel
theorem dX6_canDo_257 : decode cX6_canDo 257 = .ok (.iconst 0, 1) := by decide +kernel
theorem dX6_canDo_258 : decode cX6_canDo 258 = .ok (.ireturn, 1) := by decide +kernel
set_option maxRecDepth 20000 in
theorem ggX6_firstError_X6_orders : GoodIn wsX6_firstError wsX6_orders := goodIn_r _ [9, 3, 2, 4, 10, 11, 12, 13, 8, 14, 15, 16, 17, 18, 19, 20, 21, 22, 23, 24, 25, 26, 27, 28, 29, 30, 31, 32, 33, 34, 35, 36, 37, 38, 39, 40, 41, 42, 43, 44, 45, 46, 47, 48, 49, 50, 51, 52, 53, 54, 55, 56, 57, 58, 59, 60, 61, 62, 63, 64, 65, 66, 67, 68, 69, 70, 71, 72, 73, 74, 75, 76, 77, 78, 79, 80, 81, 82, 83, 84, 85, 86, 87, 88, 89, 90, 91, 92, 93, 94, 95, 96, 97, 98, 99, 100, 101, 102, 103, 104, 105, 106, 107, 108, 109, 110, 111, 112, 113, 114, 115] (by decide +kernel) (by decide +kernel)
set_option maxRecDepth 20000 in
theorem gX6_firstError_X6_orders : GoodIn wsX6_firstError (wsV RX6 158 RX6 yX6_orders wsX6_orders) := goodIn_app (goodIn_of _ (by decide +kernel)) ggX6_firstError_X6_orders
theorem dX6_firstError_0 : decode cX6_firstError 0 = .ok (.aload_n 0, 1) := by decide +kernel
theorem dX6_firstError_1 : decode cX6_firstError 1 = .ok (.iconst 0, 1) := by decide +kernel
theorem dX6_firstError_2 : decode cX6_firstError 2 = .ok (.putfield 25, 3) := by decide +kernel
theorem dX6_firstError_5 : decode cX6_firstError 5 = .ok (.aload_n 0, 1) := by decide +kernel
theorem dX6_firstError_6 : decode cX6_firstError 6 = .ok (.iconst 0, 1) := by decide +kernel
theorem dX6_firstError_7 : decode cX6_firstError 7 = .ok (.invokevirtual 158, 3) := by decide +kernel
theorem dX6_firstError_10 : decode cX6_firstError 10 = .ok (.istore_n 1, 1) := by decide +kernel
theorem dX6_firstError_11 : decode cX6_firstError 11 = .ok (.aload_n 0, 1) := by decide +kernel
theorem dX6_firstError_12 : decode cX6_firstError 12 = .ok (.getfield 129, 3) := by decide +kernel
theorem dX6_firstError_15 : decode cX6_firstError 15 = .ok (.ifCond .eq 14, 3) := by decide +kernel
theorem dX6_firstError_18 : decode cX6_firstError 18 = .ok (.iload_n 1, 1) := by decide +kernel
theorem dX6_firstError_19 : decode cX6_firstError 19 = .ok (.ifCond .lt 10, 3) := by decide +kernel
theorem dX6_firstError_22 : decode cX6_firstError 22 = .ok (.aload_n 0, 1) := by decide +kernel
theorem dX6_firstError_23 : decode cX6_firstError 23 = .ok (.getfield 122, 3) := by decide +kernel
theorem dX6_firstError_26 : decode cX6_firstError 26 = .ok (.goto 7, 3) := by decide +kernel
theorem dX6_firstError_29 : decode cX6_firstError 29 = .ok (.aload_n 0, 1) := by decide +kernel
theorem dX6_firstError_30 : decode cX6_firstError 30 = .ok (.getfield 119, 3) := by decide +kernel
theorem dX6_firstError_33 : decode cX6_firstError 33 = .ok (.ireturn, 1) := by decide +kernel
set_option maxRecDepth 20000 in
theorem ggX6_obey_X6_orders : GoodIn wsX6_obey wsX6_orders := goodIn_r _ [8, 9, 10, 3, 2, 11, 12, 13, 7, 14, 15, 16, 17, 18, 19, 20, 21, 22, 23, 24, 25, 26, 27, 28, 29, 30, 31, 32, 33, 34, 35, 36, 37, 38, 39, 40, 41, 42, 43, 44, 45, 46, 47, 48, 49, 50, 51, 52, 53, 54, 55, 56, 57, 58, 59, 60, 61, 62, 63, 64, 65, 66, 67, 68, 69, 70, 71, 72, 73, 74, 75, 76, 77, 78, 79, 80, 81, 82, 83, 84, 85, 86, 87, 88, 89, 90, 91, 92, 93, 94, 95, 96, 97, 98, 99, 113, 114, 115, 116, 117, 118, 119, 120, 121, 122, 123, 124, 125, 126, 127, 128] (by decide +kernel) (by decide +kernel)
set_option maxRecDepth 20000 in
theorem gX6_obey_X6_orders : GoodIn wsX6_obey (wsV RX6 158 RX6 yX6_orders wsX6_orders) := goodIn_app (goodIn_of _ (by decide +kernel)) ggX6_obey_X6_orders
set_option maxRecDepth 20000 in
theorem ggX6_obey_X6_refuses : GoodIn wsX6_obey wsX6_refuses := goodIn_r _ [103, 1, 113, 114, 115, 116, 117, 118, 119, 120, 121, 122, 123, 124, 125, 126, 127, 128] (by decide +kernel) (by decide +kernel)
set_option maxRecDepth 20000 in
theorem gX6_obey_X6_refuses : GoodIn wsX6_obey (wsV RX6 86 RX6 yX6_refuses wsX6_refuses) := goodIn_app (goodIn_of _ (by decide +kernel)) ggX6_obey_X6_refuses
set_option maxRecDepth 20000 in
theorem ggX6_obey_X6_saves : GoodIn wsX6_obey wsX6_saves := goodIn_r _ [107, 108, 109, 38, 110, 111, 7, 112, 113, 114, 115, 116, 117, 118, 119, 120, 121, 122, 123, 124, 125, 126, 127, 128] (by decide +kernel) (by decide +kernel)
set_option maxRecDepth 20000 in
theorem gX6_obey_X6_saves : GoodIn wsX6_obey (wsV RX6 79 RX6 yX6_saves wsX6_saves) := goodIn_app (goodIn_of _ (by decide +kernel)) ggX6_obey_X6_saves
theorem dX6_obey_0 : decode cX6_obey 0 = .ok (.aload_n 0, 1) := by decide +kernel
theorem dX6_obey_1 : decode cX6_obey 1 = .ok (.iconst 0, 1) := by decide +kernel
theorem dX6_obey_2 : decode cX6_obey 2 = .ok (.putfield 25, 3) := by decide +kernel
theorem dX6_obey_5 : decode cX6_obey 5 = .ok (.aload_n 0, 1) := by decide +kernel
theorem dX6_obey_6 : decode cX6_obey 6 = .ok (.iconst 0, 1) := by decide +kernel
theorem dX6_obey_7 : decode cX6_obey 7 = .ok (.invokevirtual 158, 3) := by decide +kernel
theorem dX6_obey_10 : decode cX6_obey 10 = .ok (.istore_n 1, 1) := by decide +kernel
theorem dX6_obey_11 : decode cX6_obey 11 = .ok (.aload_n 0, 1) := by decide +kernel
theorem dX6_obey_12 : decode cX6_obey 12 = .ok (.getfield 155, 3) := by decide +kernel
theorem dX6_obey_15 : decode cX6_obey 15 = .ok (.ifCond .ne 9, 3) := by decide +kernel
theorem dX6_obey_18 : decode cX6_obey 18 = .ok (.aload_n 0, 1) := by decide +kernel
theorem dX6_obey_19 : decode cX6_obey 19 = .ok (.iconst 1, 1) := by decide +kernel
theorem dX6_obey_20 : decode cX6_obey 20 = .ok (.invokevirtual 86, 3) := by decide +kernel
theorem dX6_obey_23 : decode cX6_obey 23 = .ok (.ireturn, 1) := by decide +kernel
theorem dX6_obey_24 : decode cX6_obey 24 = .ok (.aload_n 0, 1) := by decide +kernel
theorem dX6_obey_25 : decode cX6_obey 25 = .ok (.invokevirtual 79, 3) := by decide +kernel
theorem dX6_obey_28 : decode cX6_obey 28 = .ok (.aload_n 0, 1) := by decide +kernel
theorem dX6_obey_29 : decode cX6_obey 29 = .ok (.iconst 1, 1) := by decide +kernel
theorem dX6_obey_30 : decode cX6_obey 30 = .ok (.invokevirtual 158, 3) := by decide +kernel
theorem dX6_obey_33 : decode cX6_obey 33 = .ok (.istore_n 1, 1) := by decide +kernel
theorem dX6_obey_34 : decode cX6_obey 34 = .ok (.aload_n 0, 1) := by decide +kernel
theorem dX6_obey_35 : decode cX6_obey 35 = .ok (.iconst 0, 1) := by decide +kernel
theorem dX6_obey_36 : decode cX6_obey 36 = .ok (.putfield 119, 3) := by decide +kernel
theorem dX6_obey_39 : decode cX6_obey 39 = .ok (.iload_n 1, 1) := by decide +kernel
theorem dX6_obey_40 : decode cX6_obey 40 = .ok (.ireturn, 1) := by decide +kernel
set_option maxRecDepth 20000 in
theorem ggX6_keep_X6_lays : GoodIn wsX6_keep wsX6_lays := goodIn_r _ [8] (by decide +kernel) (by decide +kernel)
set_option maxRecDepth 20000 in
theorem gX6_keep_X6_lays : GoodIn wsX6_keep (va_wsS RX6 32 yX6_lays wsX6_lays) := goodIn_app (goodIn_of _ (by decide +kernel)) ggX6_keep_X6_lays
theorem dX6_keep_0 : decode cX6_keep 0 = .ok (.aload_n 0, 1) := by decide +kernel
theorem dX6_keep_1 : decode cX6_keep 1 = .ok (.iconst 0, 1) := by decide +kernel
theorem dX6_keep_2 : decode cX6_keep 2 = .ok (.putfield 25, 3) := by decide +kernel
theorem dX6_keep_5 : decode cX6_keep 5 = .ok (.aload_n 0, 1) := by decide +kernel
theorem dX6_keep_6 : decode cX6_keep 6 = .ok (.getfield 7, 3) := by decide +kernel
theorem dX6_keep_9 : decode cX6_keep 9 = .ok (.iconst 0, 1) := by decide +kernel
theorem dX6_keep_10 : decode cX6_keep 10 = .ok (.aload_n 0, 1) := by decide +kernel
theorem dX6_keep_11 : decode cX6_keep 11 = .ok (.getfield 19, 3) := by decide +kernel
theorem dX6_keep_14 : decode cX6_keep 14 = .ok (.iconst 0, 1) := by decide +kernel
theorem dX6_keep_15 : decode cX6_keep 15 = .ok (.invokestatic 32, 3) := by decide +kernel
theorem dX6_keep_18 : decode cX6_keep 18 = .ok (.aload_n 0, 1) := by decide +kernel
theorem dX6_keep_19 : decode cX6_keep 19 = .ok (.iconst 1, 1) := by decide +kernel
theorem dX6_keep_20 : decode cX6_keep 20 = .ok (.putfield 162, 3) := by decide +kernel
theorem dX6_keep_23 : decode cX6_keep 23 = .ok (.aload_n 0, 1) := by decide +kernel
theorem dX6_keep_24 : decode cX6_keep 24 = .ok (.getfield 7, 3) := by decide +kernel
theorem dX6_keep_27 : decode cX6_keep 27 = .ok (.bipush 50, 2) := by decide +kernel
theorem dX6_keep_29 : decode cX6_keep 29 = .ok (.iaload, 1) := by decide +kernel
theorem dX6_keep_30 : decode cX6_keep 30 = .ok (.ireturn, 1) := by decide +kernel
set_option maxRecDepth 20000 in
theorem ggX6_goBack_X6_refuses : GoodIn wsX6_goBack wsX6_refuses := goodIn_r _ [9, 1, 19, 20, 21, 22, 23, 24, 25, 26, 27, 28, 29, 30, 31, 32, 33, 34] (by decide +kernel) (by decide +kernel)
set_option maxRecDepth 20000 in
theorem gX6_goBack_X6_refuses : GoodIn wsX6_goBack (wsV RX6 86 RX6 yX6_refuses wsX6_refuses) := goodIn_app (goodIn_of _ (by decide +kernel)) ggX6_goBack_X6_refuses
set_option maxRecDepth 20000 in
theorem ggX6_goBack_X6_saves : GoodIn wsX6_goBack wsX6_saves := goodIn_r _ [13, 14, 15, 4, 16, 17, 8, 18, 19, 20, 21, 22, 23, 24, 25, 26, 27, 28, 29, 30, 31, 32, 33, 34] (by decide +kernel) (by decide +kernel)
set_option maxRecDepth 20000 in
theorem gX6_goBack_X6_saves : GoodIn wsX6_goBack (wsV RX6 79 RX6 yX6_saves wsX6_saves) := goodIn_app (goodIn_of _ (by decide +kernel)) ggX6_goBack_X6_saves
set_option maxRecDepth 20000 in
theorem ggX6_goBack_X6_lays : GoodIn wsX6_goBack wsX6_lays := goodIn_r _ [18] (by decide +kernel) (by decide +kernel)
set_option maxRecDepth 20000 in
theorem gX6_goBack_X6_lays : GoodIn wsX6_goBack (va_wsS RX6 32 yX6_lays wsX6_lays) := goodIn_app (goodIn_of _ (by decide +kernel)) ggX6_goBack_X6_lays
theorem dX6_goBack_0 : decode cX6_goBack 0 = .ok (.aload_n 0, 1) := by decide +kernel
theorem dX6_goBack_1 : decode cX6_goBack 1 = .ok (.iconst 0, 1) := by decide +kernel
theorem dX6_goBack_2 : decode cX6_goBack 2 = .ok (.putfield 25, 3) := by decide +kernel
theorem dX6_goBack_5 : decode cX6_goBack 5 = .ok (.aload_n 0, 1) := by decide +kernel
theorem dX6_goBack_6 : decode cX6_goBack 6 = .ok (.getfield 162, 3) := by decide +kernel
theorem dX6_goBack_9 : decode cX6_goBack 9 = .ok (.ifCond .ne 9, 3) := by decide +kernel
theorem dX6_goBack_12 : decode cX6_goBack 12 = .ok (.aload_n 0, 1) := by decide +kernel
theorem dX6_goBack_13 : decode cX6_goBack 13 = .ok (.iconst 1, 1) := by decide +kernel
theorem dX6_goBack_14 : decode cX6_goBack 14 = .ok (.invokevirtual 86, 3) := by decide +kernel
theorem dX6_goBack_17 : decode cX6_goBack 17 = .ok (.ireturn, 1) := by decide +kernel
theorem dX6_goBack_18 : decode cX6_goBack 18 = .ok (.aload_n 0, 1) := by decide +kernel
theorem dX6_goBack_19 : decode cX6_goBack 19 = .ok (.invokevirtual 79, 3) := by decide +kernel
theorem dX6_goBack_22 : decode cX6_goBack 22 = .ok (.aload_n 0, 1) := by decide +kernel
theorem dX6_goBack_23 : decode cX6_goBack 23 = .ok (.getfield 19, 3) := by decide +kernel
theorem dX6_goBack_26 : decode cX6_goBack 26 = .ok (.iconst 0, 1) := by decide +kernel
theorem dX6_goBack_27 : decode cX6_goBack 27 = .ok (.aload_n 0, 1) := by decide +kernel
theorem dX6_goBack_28 : decode cX6_goBack 28 = .ok (.getfield 7, 3) := by decide +kernel
theorem dX6_goBack_31 : decode cX6_goBack 31 = .ok (.iconst 0, 1) := by decide +kernel
theorem dX6_goBack_32 : decode cX6_goBack 32 = .ok (.invokestatic 32, 3) := by decide +kernel
theorem dX6_goBack_35 : decode cX6_goBack 35 = .ok (.aload_n 0, 1) := by decide +kernel
theorem dX6_goBack_36 : decode cX6_goBack 36 = .ok (.getfield 7, 3) := by decide +kernel
theorem dX6_goBack_39 : decode cX6_goBack 39 = .ok (.bipush 50, 2) := by decide +kernel
theorem dX6_goBack_41 : decode cX6_goBack 41 = .ok (.iaload, 1) := by decide +kernel
theorem dX6_goBack_42 : decode cX6_goBack 42 = .ok (.ireturn, 1) := by decide +kernel
set_option maxRecDepth 20000 in
theorem ggX6_undo_X6_refuses : GoodIn wsX6_undo wsX6_refuses := goodIn_r _ [9, 1, 13, 14, 15, 16, 17, 18, 19, 20, 21, 22, 23, 24, 25, 26, 27, 28] (by decide +kernel) (by decide +kernel)
set_option maxRecDepth 20000 in
theorem gX6_undo_X6_refuses : GoodIn wsX6_undo (wsV RX6 86 RX6 yX6_refuses wsX6_refuses) := goodIn_app (goodIn_of _ (by decide +kernel)) ggX6_undo_X6_refuses
set_option maxRecDepth 20000 in
theorem ggX6_undo_X6_lays : GoodIn wsX6_undo wsX6_lays := goodIn_r _ [12] (by decide +kernel) (by decide +kernel)
set_option maxRecDepth 20000 in
theorem gX6_undo_X6_lays : GoodIn wsX6_undo (va_wsS RX6 32 yX6_lays wsX6_lays) := goodIn_app (goodIn_of _ (by decide +kernel)) ggX6_undo_X6_lays
theorem dX6_undo_0 : decode cX6_undo 0 = .ok (.aload_n 0, 1) := by decide +kernel
theorem dX6_undo_1 : decode cX6_undo 1 = .ok (.iconst 0, 1) := by decide +kernel
theorem dX6_undo_2 : decode cX6_undo 2 = .ok (.putfield 25, 3) := by decide +kernel
theorem dX6_undo_5 : decode cX6_undo 5 = .ok (.aload_n 0, 1) := by decide +kernel
theorem dX6_undo_6 : decode cX6_undo 6 = .ok (.getfield 29, 3) := by decide +kernel
theorem dX6_undo_9 : decode cX6_undo 9 = .ok (.ifCond .ne 9, 3) := by decide +kernel
theorem dX6_undo_12 : decode cX6_undo 12 = .ok (.aload_n 0, 1) := by decide +kernel
theorem dX6_undo_13 : decode cX6_undo 13 = .ok (.iconst 1, 1) := by decide +kernel
theorem dX6_undo_14 : decode cX6_undo 14 = .ok (.invokevirtual 86, 3) := by decide +kernel
theorem dX6_undo_17 : decode cX6_undo 17 = .ok (.ireturn, 1) := by decide +kernel
theorem dX6_undo_18 : decode cX6_undo 18 = .ok (.aload_n 0, 1) := by decide +kernel
theorem dX6_undo_19 : decode cX6_undo 19 = .ok (.dup, 1) := by decide +kernel
theorem dX6_undo_20 : decode cX6_undo 20 = .ok (.getfield 29, 3) := by decide +kernel
theorem dX6_undo_23 : decode cX6_undo 23 = .ok (.iconst 1, 1) := by decide +kernel
theorem dX6_undo_24 : decode cX6_undo 24 = .ok (.isub, 1) := by decide +kernel
theorem dX6_undo_25 : decode cX6_undo 25 = .ok (.putfield 29, 3) := by decide +kernel
theorem dX6_undo_28 : decode cX6_undo 28 = .ok (.aload_n 0, 1) := by decide +kernel
theorem dX6_undo_29 : decode cX6_undo 29 = .ok (.getfield 16, 3) := by decide +kernel
theorem dX6_undo_32 : decode cX6_undo 32 = .ok (.bipush 97, 2) := by decide +kernel
theorem dX6_undo_34 : decode cX6_undo 34 = .ok (.aload_n 0, 1) := by decide +kernel
theorem dX6_undo_35 : decode cX6_undo 35 = .ok (.getfield 29, 3) := by decide +kernel
theorem dX6_undo_38 : decode cX6_undo 38 = .ok (.imul, 1) := by decide +kernel
theorem dX6_undo_39 : decode cX6_undo 39 = .ok (.aload_n 0, 1) := by decide +kernel
theorem dX6_undo_40 : decode cX6_undo 40 = .ok (.getfield 7, 3) := by decide +kernel
theorem dX6_undo_43 : decode cX6_undo 43 = .ok (.iconst 0, 1) := by decide +kernel
theorem dX6_undo_44 : decode cX6_undo 44 = .ok (.invokestatic 32, 3) := by decide +kernel
theorem dX6_undo_47 : decode cX6_undo 47 = .ok (.aload_n 0, 1) := by decide +kernel
theorem dX6_undo_48 : decode cX6_undo 48 = .ok (.getfield 29, 3) := by decide +kernel
theorem dX6_undo_51 : decode cX6_undo 51 = .ok (.ireturn, 1) := by decide +kernel
set_option maxRecDepth 20000 in
theorem ggX6_ofSection_X6_strength : GoodIn wsX6_ofSection wsX6_strength := goodIn_r _ [5] (by decide +kernel) (by decide +kernel)
set_option maxRecDepth 20000 in
theorem gX6_ofSection_X6_strength : GoodIn wsX6_ofSection (va_wsS RX6 65 yX6_strength wsX6_strength) := goodIn_app (goodIn_of _ (by decide +kernel)) ggX6_ofSection_X6_strength
set_option maxRecDepth 20000 in
theorem ggX6_ofSection_X6_tension : GoodIn wsX6_ofSection wsX6_tension := goodIn_r _ [8, 9, 10, 4, 11, 12, 13, 14, 15, 16, 17, 18, 19, 20, 21, 22, 23, 24, 25, 26] (by decide +kernel) (by decide +kernel)
set_option maxRecDepth 20000 in
theorem gX6_ofSection_X6_tension : GoodIn wsX6_ofSection (va_wsS RX6 62 yX6_tension wsX6_tension) := goodIn_app (goodIn_of _ (by decide +kernel)) ggX6_ofSection_X6_tension
theorem dX6_ofSection_0 : decode cX6_ofSection 0 = .ok (.iload_n 2, 1) := by decide +kernel
theorem dX6_ofSection_1 : decode cX6_ofSection 1 = .ok (.ifCond .ne 15, 3) := by decide +kernel
theorem dX6_ofSection_4 : decode cX6_ofSection 4 = .ok (.aload_n 0, 1) := by decide +kernel
theorem dX6_ofSection_5 : decode cX6_ofSection 5 = .ok (.getfield 7, 3) := by decide +kernel
theorem dX6_ofSection_8 : decode cX6_ofSection 8 = .ok (.bipush 27, 2) := by decide +kernel
theorem dX6_ofSection_10 : decode cX6_ofSection 10 = .ok (.iload_n 1, 1) := by decide +kernel
theorem dX6_ofSection_11 : decode cX6_ofSection 11 = .ok (.iadd, 1) := by decide +kernel
theorem dX6_ofSection_12 : decode cX6_ofSection 12 = .ok (.iaload, 1) := by decide +kernel
theorem dX6_ofSection_13 : decode cX6_ofSection 13 = .ok (.goto 27, 3) := by decide +kernel
theorem dX6_ofSection_16 : decode cX6_ofSection 16 = .ok (.iload_n 2, 1) := by decide +kernel
theorem dX6_ofSection_17 : decode cX6_ofSection 17 = .ok (.iconst 1, 1) := by decide +kernel
theorem dX6_ofSection_18 : decode cX6_ofSection 18 = .ok (.if_icmp .ne 14, 3) := by decide +kernel
theorem dX6_ofSection_21 : decode cX6_ofSection 21 = .ok (.aload_n 0, 1) := by decide +kernel
theorem dX6_ofSection_22 : decode cX6_ofSection 22 = .ok (.getfield 7, 3) := by decide +kernel
theorem dX6_ofSection_25 : decode cX6_ofSection 25 = .ok (.iload_n 1, 1) := by decide +kernel
