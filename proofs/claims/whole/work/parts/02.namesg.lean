theorem dX6_ofSection_26 : decode cX6_ofSection 26 = .ok (.invokestatic 65, 3) := by decide +kernel
theorem dX6_ofSection_29 : decode cX6_ofSection 29 = .ok (.goto 11, 3) := by decide +kernel
theorem dX6_ofSection_32 : decode cX6_ofSection 32 = .ok (.aload_n 0, 1) := by decide +kernel
theorem dX6_ofSection_33 : decode cX6_ofSection 33 = .ok (.getfield 7, 3) := by decide +kernel
theorem dX6_ofSection_36 : decode cX6_ofSection 36 = .ok (.iload_n 1, 1) := by decide +kernel
theorem dX6_ofSection_37 : decode cX6_ofSection 37 = .ok (.invokestatic 62, 3) := by decide +kernel
theorem dX6_ofSection_40 : decode cX6_ofSection 40 = .ok (.ireturn, 1) := by decide +kernel
set_option maxRecDepth 20000 in
theorem ggX6_section_X6_in : GoodIn wsX6_section wsX6_in := goodIn_r _ [5] (by decide +kernel) (by decide +kernel)
set_option maxRecDepth 20000 in
theorem gX6_section_X6_in : GoodIn wsX6_section (va_wsS RX6 82 yX6_in wsX6_in) := goodIn_app (goodIn_of _ (by decide +kernel)) ggX6_section_X6_in
set_option maxRecDepth 20000 in
theorem ggX6_section_X6_refuses : GoodIn wsX6_section wsX6_refuses := goodIn_r _ [9, 1, 39, 40, 41, 42, 43, 44, 45, 46, 47, 48, 49, 50, 51, 52, 53, 54] (by decide +kernel) (by decide +kernel)
set_option maxRecDepth 20000 in
theorem gX6_section_X6_refuses : GoodIn wsX6_section (wsV RX6 86 RX6 yX6_refuses wsX6_refuses) := goodIn_app (goodIn_of _ (by decide +kernel)) ggX6_section_X6_refuses
set_option maxRecDepth 20000 in
theorem ggX6_section_X6_ofSection : GoodIn wsX6_section wsX6_ofSection := goodIn_r _ [13, 14, 15, 16, 4, 17, 18, 19, 20, 21, 22, 23, 24, 25, 26, 27, 28, 29, 30, 31, 32, 33, 34, 35, 36, 37, 38, 39, 40, 41, 42, 43, 44, 45, 46, 47, 48, 49, 50, 51, 52, 53, 54] (by decide +kernel) (by decide +kernel)
set_option maxRecDepth 20000 in
theorem gX6_section_X6_ofSection : GoodIn wsX6_section (wsV RX6 165 RX6 yX6_ofSection wsX6_ofSection) := goodIn_app (goodIn_of _ (by decide +kernel)) ggX6_section_X6_ofSection
theorem dX6_section_0 : decode cX6_section 0 = .ok (.aload_n 0, 1) := by decide +kernel
theorem dX6_section_1 : decode cX6_section 1 = .ok (.iconst 0, 1) := by decide +kernel
theorem dX6_section_2 : decode cX6_section 2 = .ok (.putfield 25, 3) := by decide +kernel
theorem dX6_section_5 : decode cX6_section 5 = .ok (.iload_n 1, 1) := by decide +kernel
theorem dX6_section_6 : decode cX6_section 6 = .ok (.iconst 0, 1) := by decide +kernel
theorem dX6_section_7 : decode cX6_section 7 = .ok (.bipush 19, 2) := by decide +kernel
theorem dX6_section_9 : decode cX6_section 9 = .ok (.invokestatic 82, 3) := by decide +kernel
theorem dX6_section_12 : decode cX6_section 12 = .ok (.ifCond .ne 9, 3) := by decide +kernel
theorem dX6_section_15 : decode cX6_section 15 = .ok (.aload_n 0, 1) := by decide +kernel
theorem dX6_section_16 : decode cX6_section 16 = .ok (.iconst 1, 1) := by decide +kernel
theorem dX6_section_17 : decode cX6_section 17 = .ok (.invokevirtual 86, 3) := by decide +kernel
theorem dX6_section_20 : decode cX6_section 20 = .ok (.ireturn, 1) := by decide +kernel
theorem dX6_section_21 : decode cX6_section 21 = .ok (.iload_n 2, 1) := by decide +kernel
theorem dX6_section_22 : decode cX6_section 22 = .ok (.iconst 0, 1) := by decide +kernel
theorem dX6_section_23 : decode cX6_section 23 = .ok (.iconst 2, 1) := by decide +kernel
theorem dX6_section_24 : decode cX6_section 24 = .ok (.invokestatic 82, 3) := by decide +kernel
theorem dX6_section_27 : decode cX6_section 27 = .ok (.ifCond .eq 12, 3) := by decide +kernel
theorem dX6_section_30 : decode cX6_section 30 = .ok (.aload_n 0, 1) := by decide +kernel
theorem dX6_section_31 : decode cX6_section 31 = .ok (.iload_n 1, 1) := by decide +kernel
theorem dX6_section_32 : decode cX6_section 32 = .ok (.iload_n 2, 1) := by decide +kernel
theorem dX6_section_33 : decode cX6_section 33 = .ok (.invokevirtual 165, 3) := by decide +kernel
theorem dX6_section_36 : decode cX6_section 36 = .ok (.goto 8, 3) := by decide +kernel
theorem dX6_section_39 : decode cX6_section 39 = .ok (.aload_n 0, 1) := by decide +kernel
theorem dX6_section_40 : decode cX6_section 40 = .ok (.iconst 2, 1) := by decide +kernel
theorem dX6_section_41 : decode cX6_section 41 = .ok (.invokevirtual 86, 3) := by decide +kernel
theorem dX6_section_44 : decode cX6_section 44 = .ok (.ireturn, 1) := by decide +kernel
set_option maxRecDepth 20000 in
theorem ggX6_waiting_X6_isTwo : GoodIn wsX6_waiting wsX6_isTwo := goodIn_r _ [6, 7, 8, 5, 9] (by decide +kernel) (by decide +kernel)
set_option maxRecDepth 20000 in
theorem gX6_waiting_X6_isTwo : GoodIn wsX6_waiting (va_wsS RX6 93 yX6_isTwo wsX6_isTwo) := goodIn_app (goodIn_of _ (by decide +kernel)) ggX6_waiting_X6_isTwo
set_option maxRecDepth 20000 in
theorem ggX6_waiting_X6_refuses : GoodIn wsX6_waiting wsX6_refuses := goodIn_r _ [13, 1, 20, 21, 22, 23, 24, 25, 26, 27, 28, 29, 30, 31, 32, 33, 34, 35] (by decide +kernel) (by decide +kernel)
set_option maxRecDepth 20000 in
theorem gX6_waiting_X6_refuses : GoodIn wsX6_waiting (wsV RX6 86 RX6 yX6_refuses wsX6_refuses) := goodIn_app (goodIn_of _ (by decide +kernel)) ggX6_waiting_X6_refuses
set_option maxRecDepth 20000 in
theorem ggX6_waiting_X6_waitingAt : GoodIn wsX6_waiting wsX6_waitingAt := goodIn_r _ [16] (by decide +kernel) (by decide +kernel)
set_option maxRecDepth 20000 in
theorem gX6_waiting_X6_waitingAt : GoodIn wsX6_waiting (va_wsS RX6 51 yX6_waitingAt wsX6_waitingAt) := goodIn_app (goodIn_of _ (by decide +kernel)) ggX6_waiting_X6_waitingAt
set_option maxRecDepth 20000 in
theorem ggX6_waiting_X6_weightOf : GoodIn wsX6_waiting wsX6_weightOf := goodIn_r _ [19] (by decide +kernel) (by decide +kernel)
set_option maxRecDepth 20000 in
theorem gX6_waiting_X6_weightOf : GoodIn wsX6_waiting (va_wsS RX6 168 yX6_weightOf wsX6_weightOf) := goodIn_app (goodIn_of _ (by decide +kernel)) ggX6_waiting_X6_weightOf
theorem dX6_waiting_0 : decode cX6_waiting 0 = .ok (.aload_n 0, 1) := by decide +kernel
theorem dX6_waiting_1 : decode cX6_waiting 1 = .ok (.iconst 0, 1) := by decide +kernel
theorem dX6_waiting_2 : decode cX6_waiting 2 = .ok (.putfield 25, 3) := by decide +kernel
theorem dX6_waiting_5 : decode cX6_waiting 5 = .ok (.iload_n 1, 1) := by decide +kernel
theorem dX6_waiting_6 : decode cX6_waiting 6 = .ok (.invokestatic 93, 3) := by decide +kernel
theorem dX6_waiting_9 : decode cX6_waiting 9 = .ok (.ifCond .ne 9, 3) := by decide +kernel
theorem dX6_waiting_12 : decode cX6_waiting 12 = .ok (.aload_n 0, 1) := by decide +kernel
theorem dX6_waiting_13 : decode cX6_waiting 13 = .ok (.iconst 1, 1) := by decide +kernel
theorem dX6_waiting_14 : decode cX6_waiting 14 = .ok (.invokevirtual 86, 3) := by decide +kernel
theorem dX6_waiting_17 : decode cX6_waiting 17 = .ok (.ireturn, 1) := by decide +kernel
theorem dX6_waiting_18 : decode cX6_waiting 18 = .ok (.iload_n 2, 1) := by decide +kernel
theorem dX6_waiting_19 : decode cX6_waiting 19 = .ok (.ifCond .ge 9, 3) := by decide +kernel
theorem dX6_waiting_22 : decode cX6_waiting 22 = .ok (.aload_n 0, 1) := by decide +kernel
theorem dX6_waiting_23 : decode cX6_waiting 23 = .ok (.iconst 2, 1) := by decide +kernel
theorem dX6_waiting_24 : decode cX6_waiting 24 = .ok (.invokevirtual 86, 3) := by decide +kernel
theorem dX6_waiting_27 : decode cX6_waiting 27 = .ok (.ireturn, 1) := by decide +kernel
theorem dX6_waiting_28 : decode cX6_waiting 28 = .ok (.iload_n 2, 1) := by decide +kernel
theorem dX6_waiting_29 : decode cX6_waiting 29 = .ok (.aload_n 0, 1) := by decide +kernel
theorem dX6_waiting_30 : decode cX6_waiting 30 = .ok (.getfield 7, 3) := by decide +kernel
theorem dX6_waiting_33 : decode cX6_waiting 33 = .ok (.iload_n 1, 1) := by decide +kernel
theorem dX6_waiting_34 : decode cX6_waiting 34 = .ok (.invokestatic 51, 3) := by decide +kernel
theorem dX6_waiting_37 : decode cX6_waiting 37 = .ok (.if_icmp .ge 15, 3) := by decide +kernel
theorem dX6_waiting_40 : decode cX6_waiting 40 = .ok (.aload_n 0, 1) := by decide +kernel
theorem dX6_waiting_41 : decode cX6_waiting 41 = .ok (.getfield 7, 3) := by decide +kernel
theorem dX6_waiting_44 : decode cX6_waiting 44 = .ok (.iload_n 1, 1) := by decide +kernel
theorem dX6_waiting_45 : decode cX6_waiting 45 = .ok (.iload_n 2, 1) := by decide +kernel
theorem dX6_waiting_46 : decode cX6_waiting 46 = .ok (.invokestatic 168, 3) := by decide +kernel
theorem dX6_waiting_49 : decode cX6_waiting 49 = .ok (.goto 4, 3) := by decide +kernel
theorem dX6_waiting_52 : decode cX6_waiting 52 = .ok (.iconst (-1), 1) := by decide +kernel
theorem dX6_waiting_53 : decode cX6_waiting 53 = .ok (.ireturn, 1) := by decide +kernel
set_option maxRecDepth 20000 in
theorem ggX6_deck_X6_isTwo : GoodIn wsX6_deck wsX6_isTwo := goodIn_r _ [6, 7, 8, 5, 9] (by decide +kernel) (by decide +kernel)
set_option maxRecDepth 20000 in
theorem gX6_deck_X6_isTwo : GoodIn wsX6_deck (va_wsS RX6 93 yX6_isTwo wsX6_isTwo) := goodIn_app (goodIn_of _ (by decide +kernel)) ggX6_deck_X6_isTwo
set_option maxRecDepth 20000 in
theorem ggX6_deck_X6_refuses : GoodIn wsX6_deck wsX6_refuses := goodIn_r _ [13, 1, 20, 21, 22, 23, 24, 25, 26, 27, 28, 29, 30, 31, 32, 33, 34, 35] (by decide +kernel) (by decide +kernel)
set_option maxRecDepth 20000 in
theorem gX6_deck_X6_refuses : GoodIn wsX6_deck (wsV RX6 86 RX6 yX6_refuses wsX6_refuses) := goodIn_app (goodIn_of _ (by decide +kernel)) ggX6_deck_X6_refuses
set_option maxRecDepth 20000 in
theorem ggX6_deck_X6_onLane : GoodIn wsX6_deck wsX6_onLane := goodIn_r _ [16] (by decide +kernel) (by decide +kernel)
set_option maxRecDepth 20000 in
theorem gX6_deck_X6_onLane : GoodIn wsX6_deck (va_wsS RX6 36 yX6_onLane wsX6_onLane) := goodIn_app (goodIn_of _ (by decide +kernel)) ggX6_deck_X6_onLane
set_option maxRecDepth 20000 in
theorem ggX6_deck_X6_ofDeck : GoodIn wsX6_deck wsX6_ofDeck := goodIn_r _ [19] (by decide +kernel) (by decide +kernel)
set_option maxRecDepth 20000 in
theorem gX6_deck_X6_ofDeck : GoodIn wsX6_deck (va_wsS RX6 40 yX6_ofDeck wsX6_ofDeck) := goodIn_app (goodIn_of _ (by decide +kernel)) ggX6_deck_X6_ofDeck
theorem dX6_deck_0 : decode cX6_deck 0 = .ok (.aload_n 0, 1) := by decide +kernel
theorem dX6_deck_1 : decode cX6_deck 1 = .ok (.iconst 0, 1) := by decide +kernel
theorem dX6_deck_2 : decode cX6_deck 2 = .ok (.putfield 25, 3) := by decide +kernel
theorem dX6_deck_5 : decode cX6_deck 5 = .ok (.iload_n 1, 1) := by decide +kernel
theorem dX6_deck_6 : decode cX6_deck 6 = .ok (.invokestatic 93, 3) := by decide +kernel
theorem dX6_deck_9 : decode cX6_deck 9 = .ok (.ifCond .ne 9, 3) := by decide +kernel
theorem dX6_deck_12 : decode cX6_deck 12 = .ok (.aload_n 0, 1) := by decide +kernel
theorem dX6_deck_13 : decode cX6_deck 13 = .ok (.iconst 1, 1) := by decide +kernel
theorem dX6_deck_14 : decode cX6_deck 14 = .ok (.invokevirtual 86, 3) := by decide +kernel
theorem dX6_deck_17 : decode cX6_deck 17 = .ok (.ireturn, 1) := by decide +kernel
theorem dX6_deck_18 : decode cX6_deck 18 = .ok (.iload_n 2, 1) := by decide +kernel
theorem dX6_deck_19 : decode cX6_deck 19 = .ok (.ifCond .lt 10, 3) := by decide +kernel
theorem dX6_deck_22 : decode cX6_deck 22 = .ok (.iload_n 3, 1) := by decide +kernel
theorem dX6_deck_23 : decode cX6_deck 23 = .ok (.invokestatic 93, 3) := by decide +kernel
theorem dX6_deck_26 : decode cX6_deck 26 = .ok (.ifCond .ne 9, 3) := by decide +kernel
theorem dX6_deck_29 : decode cX6_deck 29 = .ok (.aload_n 0, 1) := by decide +kernel
theorem dX6_deck_30 : decode cX6_deck 30 = .ok (.iconst 2, 1) := by decide +kernel
theorem dX6_deck_31 : decode cX6_deck 31 = .ok (.invokevirtual 86, 3) := by decide +kernel
theorem dX6_deck_34 : decode cX6_deck 34 = .ok (.ireturn, 1) := by decide +kernel
theorem dX6_deck_35 : decode cX6_deck 35 = .ok (.iload_n 2, 1) := by decide +kernel
theorem dX6_deck_36 : decode cX6_deck 36 = .ok (.aload_n 0, 1) := by decide +kernel
theorem dX6_deck_37 : decode cX6_deck 37 = .ok (.getfield 7, 3) := by decide +kernel
theorem dX6_deck_40 : decode cX6_deck 40 = .ok (.iload_n 1, 1) := by decide +kernel
theorem dX6_deck_41 : decode cX6_deck 41 = .ok (.invokestatic 36, 3) := by decide +kernel
theorem dX6_deck_44 : decode cX6_deck 44 = .ok (.if_icmp .ge 16, 3) := by decide +kernel
theorem dX6_deck_47 : decode cX6_deck 47 = .ok (.aload_n 0, 1) := by decide +kernel
theorem dX6_deck_48 : decode cX6_deck 48 = .ok (.getfield 7, 3) := by decide +kernel
theorem dX6_deck_51 : decode cX6_deck 51 = .ok (.iload_n 1, 1) := by decide +kernel
theorem dX6_deck_52 : decode cX6_deck 52 = .ok (.iload_n 2, 1) := by decide +kernel
theorem dX6_deck_53 : decode cX6_deck 53 = .ok (.iload_n 3, 1) := by decide +kernel
theorem dX6_deck_54 : decode cX6_deck 54 = .ok (.invokestatic 40, 3) := by decide +kernel
theorem dX6_deck_57 : decode cX6_deck 57 = .ok (.goto 4, 3) := by decide +kernel
theorem dX6_deck_60 : decode cX6_deck 60 = .ok (.iconst (-1), 1) := by decide +kernel
theorem dX6_deck_61 : decode cX6_deck 61 = .ok (.ireturn, 1) := by decide +kernel
set_option maxRecDepth 20000 in
theorem ggX6_counted_X6_onLane : GoodIn wsX6_counted wsX6_onLane := goodIn_r _ [6] (by decide +kernel) (by decide +kernel)
set_option maxRecDepth 20000 in
theorem gX6_counted_X6_onLane : GoodIn wsX6_counted (va_wsS RX6 36 yX6_onLane wsX6_onLane) := goodIn_app (goodIn_of _ (by decide +kernel)) ggX6_counted_X6_onLane
set_option maxRecDepth 20000 in
theorem ggX6_counted_X6_laneWeight : GoodIn wsX6_counted wsX6_laneWeight := goodIn_r _ [9, 3, 4, 5, 6, 10, 11, 12] (by decide +kernel) (by decide +kernel)
set_option maxRecDepth 20000 in
theorem gX6_counted_X6_laneWeight : GoodIn wsX6_counted (va_wsS RX6 44 yX6_laneWeight wsX6_laneWeight) := goodIn_app (goodIn_of _ (by decide +kernel)) ggX6_counted_X6_laneWeight
set_option maxRecDepth 20000 in
theorem ggX6_counted_X6_list : GoodIn wsX6_counted wsX6_list := goodIn_r _ [15, 7, 8, 5, 9, 3, 4, 6, 10, 11, 12, 16, 17, 18] (by decide +kernel) (by decide +kernel)
set_option maxRecDepth 20000 in
theorem gX6_counted_X6_list : GoodIn wsX6_counted (va_wsS RX6 54 yX6_list wsX6_list) := goodIn_app (goodIn_of _ (by decide +kernel)) ggX6_counted_X6_list
theorem dX6_counted_0 : decode cX6_counted 0 = .ok (.iload_n 1, 1) := by decide +kernel
theorem dX6_counted_1 : decode cX6_counted 1 = .ok (.tableswitch 142 0 13 #[71, 71, 81, 99, 117, 125, 125, 125, 142, 142, 142, 142, 142, 137], 71) := by decide +kernel
theorem dX6_counted_72 : decode cX6_counted 72 = .ok (.aload_n 0, 1) := by decide +kernel
theorem dX6_counted_73 : decode cX6_counted 73 = .ok (.getfield 7, 3) := by decide +kernel
theorem dX6_counted_76 : decode cX6_counted 76 = .ok (.bipush 50, 2) := by decide +kernel
theorem dX6_counted_78 : decode cX6_counted 78 = .ok (.iload_n 1, 1) := by decide +kernel
theorem dX6_counted_79 : decode cX6_counted 79 = .ok (.iadd, 1) := by decide +kernel
theorem dX6_counted_80 : decode cX6_counted 80 = .ok (.iaload, 1) := by decide +kernel
theorem dX6_counted_81 : decode cX6_counted 81 = .ok (.ireturn, 1) := by decide +kernel
theorem dX6_counted_82 : decode cX6_counted 82 = .ok (.aload_n 0, 1) := by decide +kernel
theorem dX6_counted_83 : decode cX6_counted 83 = .ok (.getfield 7, 3) := by decide +kernel
theorem dX6_counted_86 : decode cX6_counted 86 = .ok (.iconst 0, 1) := by decide +kernel
theorem dX6_counted_87 : decode cX6_counted 87 = .ok (.invokestatic 36, 3) := by decide +kernel
theorem dX6_counted_90 : decode cX6_counted 90 = .ok (.aload_n 0, 1) := by decide +kernel
theorem dX6_counted_91 : decode cX6_counted 91 = .ok (.getfield 7, 3) := by decide +kernel
theorem dX6_counted_94 : decode cX6_counted 94 = .ok (.iconst 1, 1) := by decide +kernel
theorem dX6_counted_95 : decode cX6_counted 95 = .ok (.invokestatic 36, 3) := by decide +kernel
theorem dX6_counted_98 : decode cX6_counted 98 = .ok (.iadd, 1) := by decide +kernel
theorem dX6_counted_99 : decode cX6_counted 99 = .ok (.ireturn, 1) := by decide +kernel
theorem dX6_counted_100 : decode cX6_counted 100 = .ok (.aload_n 0, 1) := by decide +kernel
theorem dX6_counted_101 : decode cX6_counted 101 = .ok (.getfield 7, 3) := by decide +kernel
theorem dX6_counted_104 : decode cX6_counted 104 = .ok (.iconst 0, 1) := by decide +kernel
theorem dX6_counted_105 : decode cX6_counted 105 = .ok (.invokestatic 44, 3) := by decide +kernel
theorem dX6_counted_108 : decode cX6_counted 108 = .ok (.aload_n 0, 1) := by decide +kernel
theorem dX6_counted_109 : decode cX6_counted 109 = .ok (.getfield 7, 3) := by decide +kernel
theorem dX6_counted_112 : decode cX6_counted 112 = .ok (.iconst 1, 1) := by decide +kernel
theorem dX6_counted_113 : decode cX6_counted 113 = .ok (.invokestatic 44, 3) := by decide +kernel
theorem dX6_counted_116 : decode cX6_counted 116 = .ok (.iadd, 1) := by decide +kernel
theorem dX6_counted_117 : decode cX6_counted 117 = .ok (.ireturn, 1) := by decide +kernel
theorem dX6_counted_118 : decode cX6_counted 118 = .ok (.aload_n 0, 1) := by decide +kernel
theorem dX6_counted_119 : decode cX6_counted 119 = .ok (.getfield 7, 3) := by decide +kernel
theorem dX6_counted_122 : decode cX6_counted 122 = .ok (.invokestatic 54, 3) := by decide +kernel
theorem dX6_counted_125 : decode cX6_counted 125 = .ok (.ireturn, 1) := by decide +kernel
theorem dX6_counted_126 : decode cX6_counted 126 = .ok (.aload_n 0, 1) := by decide +kernel
theorem dX6_counted_127 : decode cX6_counted 127 = .ok (.getfield 7, 3) := by decide +kernel
theorem dX6_counted_130 : decode cX6_counted 130 = .ok (.bipush 47, 2) := by decide +kernel
theorem dX6_counted_132 : decode cX6_counted 132 = .ok (.iload_n 1, 1) := by decide +kernel
theorem dX6_counted_133 : decode cX6_counted 133 = .ok (.iadd, 1) := by decide +kernel
theorem dX6_counted_134 : decode cX6_counted 134 = .ok (.iconst 5, 1) := by decide +kernel
theorem dX6_counted_135 : decode cX6_counted 135 = .ok (.isub, 1) := by decide +kernel
theorem dX6_counted_136 : decode cX6_counted 136 = .ok (.iaload, 1) := by decide +kernel
theorem dX6_counted_137 : decode cX6_counted 137 = .ok (.ireturn, 1) := by decide +kernel
theorem dX6_counted_138 : decode cX6_counted 138 = .ok (.aload_n 0, 1) := by decide +kernel
theorem dX6_counted_139 : decode cX6_counted 139 = .ok (.getfield 29, 3) := by decide +kernel
theorem dX6_counted_142 : decode cX6_counted 142 = .ok (.ireturn, 1) := by decide +kernel
theorem dX6_counted_143 : decode cX6_counted 143 = .ok (.aload_n 0, 1) := by decide +kernel
theorem dX6_counted_144 : decode cX6_counted 144 = .ok (.getfield 7, 3) := by decide +kernel
theorem dX6_counted_147 : decode cX6_counted 147 = .ok (.bipush 52, 2) := by decide +kernel
theorem dX6_counted_149 : decode cX6_counted 149 = .ok (.iload_n 1, 1) := by decide +kernel
theorem dX6_counted_150 : decode cX6_counted 150 = .ok (.iadd, 1) := by decide +kernel
theorem dX6_counted_151 : decode cX6_counted 151 = .ok (.bipush 8, 2) := by decide +kernel
theorem dX6_counted_153 : decode cX6_counted 153 = .ok (.isub, 1) := by decide +kernel
theorem dX6_counted_154 : decode cX6_counted 154 = .ok (.iaload, 1) := by decide +kernel
theorem dX6_counted_155 : decode cX6_counted 155 = .ok (.ireturn, 1) := by decide +kernel
set_option maxRecDepth 20000 in
theorem ggX6_count_X6_in : GoodIn wsX6_count wsX6_in := goodIn_r _ [5] (by decide +kernel) (by decide +kernel)
set_option maxRecDepth 20000 in
theorem gX6_count_X6_in : GoodIn wsX6_count (va_wsS RX6 82 yX6_in wsX6_in) := goodIn_app (goodIn_of _ (by decide +kernel)) ggX6_count_X6_in
set_option maxRecDepth 20000 in
theorem ggX6_count_X6_counted : GoodIn wsX6_count wsX6_counted := goodIn_r _ [9, 10, 11, 12, 13, 4, 14, 15, 16, 17, 18, 19, 20, 21, 22, 23, 24, 25, 26, 31, 32, 33, 34, 35, 36, 37, 38, 39, 40, 41, 42, 43, 44, 45, 46] (by decide +kernel) (by decide +kernel)
set_option maxRecDepth 20000 in
theorem gX6_count_X6_counted : GoodIn wsX6_count (wsV RX6 172 RX6 yX6_counted wsX6_counted) := goodIn_app (goodIn_of _ (by decide +kernel)) ggX6_count_X6_counted
set_option maxRecDepth 20000 in
theorem ggX6_count_X6_refuses : GoodIn wsX6_count wsX6_refuses := goodIn_r _ [30, 1, 31, 32, 33, 34, 35, 36, 37, 38, 39, 40, 41, 42, 43, 44, 45, 46] (by decide +kernel) (by decide +kernel)
set_option maxRecDepth 20000 in
theorem gX6_count_X6_refuses : GoodIn wsX6_count (wsV RX6 86 RX6 yX6_refuses wsX6_refuses) := goodIn_app (goodIn_of _ (by decide +kernel)) ggX6_count_X6_refuses
theorem dX6_count_0 : decode cX6_count 0 = .ok (.aload_n 0, 1) := by decide +kernel
theorem dX6_count_1 : decode cX6_count 1 = .ok (.iconst 0, 1) := by decide +kernel
theorem dX6_count_2 : decode cX6_count 2 = .ok (.putfield 25, 3) := by decide +kernel
theorem dX6_count_5 : decode cX6_count 5 = .ok (.iload_n 1, 1) := by decide +kernel
theorem dX6_count_6 : decode cX6_count 6 = .ok (.iconst 0, 1) := by decide +kernel
theorem dX6_count_7 : decode cX6_count 7 = .ok (.bipush 13, 2) := by decide +kernel
theorem dX6_count_9 : decode cX6_count 9 = .ok (.invokestatic 82, 3) := by decide +kernel
theorem dX6_count_12 : decode cX6_count 12 = .ok (.ifCond .eq 11, 3) := by decide +kernel
theorem dX6_count_15 : decode cX6_count 15 = .ok (.aload_n 0, 1) := by decide +kernel
theorem dX6_count_16 : decode cX6_count 16 = .ok (.iload_n 1, 1) := by decide +kernel
theorem dX6_count_17 : decode cX6_count 17 = .ok (.invokevirtual 172, 3) := by decide +kernel
theorem dX6_count_20 : decode cX6_count 20 = .ok (.goto 8, 3) := by decide +kernel
theorem dX6_count_23 : decode cX6_count 23 = .ok (.aload_n 0, 1) := by decide +kernel
theorem dX6_count_24 : decode cX6_count 24 = .ok (.iconst 1, 1) := by decide +kernel
theorem dX6_count_25 : decode cX6_count 25 = .ok (.invokevirtual 86, 3) := by decide +kernel
theorem dX6_count_28 : decode cX6_count 28 = .ok (.ireturn, 1) := by decide +kernel
set_option maxRecDepth 20000 in
theorem ggX6_currentOf_X6_in : GoodIn wsX6_currentOf wsX6_in := goodIn_r _ [6] (by decide +kernel) (by decide +kernel)
set_option maxRecDepth 20000 in
theorem gX6_currentOf_X6_in : GoodIn wsX6_currentOf (va_wsS RX6 82 yX6_in wsX6_in) := goodIn_app (goodIn_of _ (by decide +kernel)) ggX6_currentOf_X6_in
set_option maxRecDepth 20000 in
theorem ggX6_currentOf_X6_refuses : GoodIn wsX6_currentOf wsX6_refuses := goodIn_r _ [10, 1, 11, 12, 13, 14, 15, 16, 17, 18, 19, 20, 21, 22, 23, 24, 25, 26] (by decide +kernel) (by decide +kernel)
set_option maxRecDepth 20000 in
theorem gX6_currentOf_X6_refuses : GoodIn wsX6_currentOf (wsV RX6 86 RX6 yX6_refuses wsX6_refuses) := goodIn_app (goodIn_of _ (by decide +kernel)) ggX6_currentOf_X6_refuses
theorem dX6_currentOf_0 : decode cX6_currentOf 0 = .ok (.aload_n 0, 1) := by decide +kernel
theorem dX6_currentOf_1 : decode cX6_currentOf 1 = .ok (.iconst 0, 1) := by decide +kernel
theorem dX6_currentOf_2 : decode cX6_currentOf 2 = .ok (.putfield 25, 3) := by decide +kernel
theorem dX6_currentOf_5 : decode cX6_currentOf 5 = .ok (.iload_n 1, 1) := by decide +kernel
theorem dX6_currentOf_6 : decode cX6_currentOf 6 = .ok (.iconst 0, 1) := by decide +kernel
theorem dX6_currentOf_7 : decode cX6_currentOf 7 = .ok (.bipush 23, 2) := by decide +kernel
theorem dX6_currentOf_9 : decode cX6_currentOf 9 = .ok (.invokestatic 82, 3) := by decide +kernel
theorem dX6_currentOf_12 : decode cX6_currentOf 12 = .ok (.ifCond .eq 14, 3) := by decide +kernel
theorem dX6_currentOf_15 : decode cX6_currentOf 15 = .ok (.aload_n 0, 1) := by decide +kernel
theorem dX6_currentOf_16 : decode cX6_currentOf 16 = .ok (.getfield 7, 3) := by decide +kernel
theorem dX6_currentOf_19 : decode cX6_currentOf 19 = .ok (.iconst 3, 1) := by decide +kernel
theorem dX6_currentOf_20 : decode cX6_currentOf 20 = .ok (.iload_n 1, 1) := by decide +kernel
theorem dX6_currentOf_21 : decode cX6_currentOf 21 = .ok (.iadd, 1) := by decide +kernel
theorem dX6_currentOf_22 : decode cX6_currentOf 22 = .ok (.iaload, 1) := by decide +kernel
theorem dX6_currentOf_23 : decode cX6_currentOf 23 = .ok (.goto 8, 3) := by decide +kernel
theorem dX6_currentOf_26 : decode cX6_currentOf 26 = .ok (.aload_n 0, 1) := by decide +kernel
theorem dX6_currentOf_27 : decode cX6_currentOf 27 = .ok (.iconst 1, 1) := by decide +kernel
theorem dX6_currentOf_28 : decode cX6_currentOf 28 = .ok (.invokevirtual 86, 3) := by decide +kernel
theorem dX6_currentOf_31 : decode cX6_currentOf 31 = .ok (.ireturn, 1) := by decide +kernel
set_option maxRecDepth 20000 in
theorem ggX6_setting_X6_in : GoodIn wsX6_setting wsX6_in := goodIn_r _ [6] (by decide +kernel) (by decide +kernel)
set_option maxRecDepth 20000 in
theorem gX6_setting_X6_in : GoodIn wsX6_setting (va_wsS RX6 82 yX6_in wsX6_in) := goodIn_app (goodIn_of _ (by decide +kernel)) ggX6_setting_X6_in
set_option maxRecDepth 20000 in
theorem ggX6_setting_X6_refuses : GoodIn wsX6_setting wsX6_refuses := goodIn_r _ [10, 1, 11, 12, 13, 14, 15, 16, 17, 18, 19, 20, 21, 22, 23, 24, 25, 26] (by decide +kernel) (by decide +kernel)
set_option maxRecDepth 20000 in
theorem gX6_setting_X6_refuses : GoodIn wsX6_setting (wsV RX6 86 RX6 yX6_refuses wsX6_refuses) := goodIn_app (goodIn_of _ (by decide +kernel)) ggX6_setting_X6_refuses
theorem dX6_setting_0 : decode cX6_setting 0 = .ok (.aload_n 0, 1) := by decide +kernel
theorem dX6_setting_1 : decode cX6_setting 1 = .ok (.iconst 0, 1) := by decide +kernel
theorem dX6_setting_2 : decode cX6_setting 2 = .ok (.putfield 25, 3) := by decide +kernel
theorem dX6_setting_5 : decode cX6_setting 5 = .ok (.iload_n 1, 1) := by decide +kernel
theorem dX6_setting_6 : decode cX6_setting 6 = .ok (.iconst 0, 1) := by decide +kernel
theorem dX6_setting_7 : decode cX6_setting 7 = .ok (.iconst 2, 1) := by decide +kernel
theorem dX6_setting_8 : decode cX6_setting 8 = .ok (.invokestatic 82, 3) := by decide +kernel
theorem dX6_setting_11 : decode cX6_setting 11 = .ok (.ifCond .eq 12, 3) := by decide +kernel
theorem dX6_setting_14 : decode cX6_setting 14 = .ok (.aload_n 0, 1) := by decide +kernel
theorem dX6_setting_15 : decode cX6_setting 15 = .ok (.getfield 7, 3) := by decide +kernel
theorem dX6_setting_18 : decode cX6_setting 18 = .ok (.iload_n 1, 1) := by decide +kernel
theorem dX6_setting_19 : decode cX6_setting 19 = .ok (.iaload, 1) := by decide +kernel
theorem dX6_setting_20 : decode cX6_setting 20 = .ok (.goto 8, 3) := by decide +kernel
theorem dX6_setting_23 : decode cX6_setting 23 = .ok (.aload_n 0, 1) := by decide +kernel
theorem dX6_setting_24 : decode cX6_setting 24 = .ok (.iconst 1, 1) := by decide +kernel
theorem dX6_setting_25 : decode cX6_setting 25 = .ok (.invokevirtual 86, 3) := by decide +kernel
theorem dX6_setting_28 : decode cX6_setting 28 = .ok (.ireturn, 1) := by decide +kernel
set_option maxRecDepth 20000 in
theorem ggX6_why_X6_reason : GoodIn wsX6_why wsX6_reason := goodIn_r _ [6, 7, 8, 5, 9, 10, 11, 12, 13, 14, 15, 16, 17, 18, 19, 20, 21, 22, 23, 24, 25, 26, 27, 28, 29, 30, 31, 32, 33] (by decide +kernel) (by decide +kernel)
set_option maxRecDepth 20000 in
theorem gX6_why_X6_reason : GoodIn wsX6_why (va_wsS RX6 110 yX6_reason wsX6_reason) := goodIn_app (goodIn_of _ (by decide +kernel)) ggX6_why_X6_reason
theorem dX6_why_0 : decode cX6_why 0 = .ok (.aload_n 0, 1) := by decide +kernel
theorem dX6_why_1 : decode cX6_why 1 = .ok (.iconst 0, 1) := by decide +kernel
theorem dX6_why_2 : decode cX6_why 2 = .ok (.putfield 25, 3) := by decide +kernel
theorem dX6_why_5 : decode cX6_why 5 = .ok (.aload_n 0, 1) := by decide +kernel
theorem dX6_why_6 : decode cX6_why 6 = .ok (.getfield 7, 3) := by decide +kernel
theorem dX6_why_9 : decode cX6_why 9 = .ok (.invokestatic 110, 3) := by decide +kernel
theorem dX6_why_12 : decode cX6_why 12 = .ok (.ireturn, 1) := by decide +kernel
set_option maxRecDepth 20000 in
theorem ggX6_weakestOne_X6_strength : GoodIn wsX6_weakestOne wsX6_strength := goodIn_r _ [5] (by decide +kernel) (by decide +kernel)
set_option maxRecDepth 20000 in
theorem gX6_weakestOne_X6_strength : GoodIn wsX6_weakestOne (va_wsS RX6 65 yX6_strength wsX6_strength) := goodIn_app (goodIn_of _ (by decide +kernel)) ggX6_weakestOne_X6_strength
set_option maxRecDepth 20000 in
theorem ggX6_weakestOne_X6_tension : GoodIn wsX6_weakestOne wsX6_tension := goodIn_r _ [8, 9, 10, 4, 11, 12, 13, 14, 15, 16, 17, 18, 19, 20, 21, 22, 23, 24, 25, 26] (by decide +kernel) (by decide +kernel)
set_option maxRecDepth 20000 in
theorem gX6_weakestOne_X6_tension : GoodIn wsX6_weakestOne (va_wsS RX6 62 yX6_tension wsX6_tension) := goodIn_app (goodIn_of _ (by decide +kernel)) ggX6_weakestOne_X6_tension
theorem dX6_weakestOne_0 : decode cX6_weakestOne 0 = .ok (.iconst 0, 1) := by decide +kernel
theorem dX6_weakestOne_1 : decode cX6_weakestOne 1 = .ok (.istore_n 1, 1) := by decide +kernel
theorem dX6_weakestOne_2 : decode cX6_weakestOne 2 = .ok (.iconst 1, 1) := by decide +kernel
theorem dX6_weakestOne_3 : decode cX6_weakestOne 3 = .ok (.istore_n 2, 1) := by decide +kernel
theorem dX6_weakestOne_4 : decode cX6_weakestOne 4 = .ok (.iload_n 2, 1) := by decide +kernel
theorem dX6_weakestOne_5 : decode cX6_weakestOne 5 = .ok (.bipush 20, 2) := by decide +kernel
theorem dX6_weakestOne_7 : decode cX6_weakestOne 7 = .ok (.if_icmp .ge 54, 3) := by decide +kernel
theorem dX6_weakestOne_10 : decode cX6_weakestOne 10 = .ok (.aload_n 0, 1) := by decide +kernel
theorem dX6_weakestOne_11 : decode cX6_weakestOne 11 = .ok (.getfield 7, 3) := by decide +kernel
theorem dX6_weakestOne_14 : decode cX6_weakestOne 14 = .ok (.iload_n 2, 1) := by decide +kernel
theorem dX6_weakestOne_15 : decode cX6_weakestOne 15 = .ok (.invokestatic 65, 3) := by decide +kernel
theorem dX6_weakestOne_18 : decode cX6_weakestOne 18 = .ok (.aload_n 0, 1) := by decide +kernel
theorem dX6_weakestOne_19 : decode cX6_weakestOne 19 = .ok (.getfield 7, 3) := by decide +kernel
theorem dX6_weakestOne_22 : decode cX6_weakestOne 22 = .ok (.iload_n 2, 1) := by decide +kernel
theorem dX6_weakestOne_23 : decode cX6_weakestOne 23 = .ok (.invokestatic 62, 3) := by decide +kernel
theorem dX6_weakestOne_26 : decode cX6_weakestOne 26 = .ok (.isub, 1) := by decide +kernel
theorem dX6_weakestOne_27 : decode cX6_weakestOne 27 = .ok (.istore_n 3, 1) := by decide +kernel
theorem dX6_weakestOne_28 : decode cX6_weakestOne 28 = .ok (.iload_n 3, 1) := by decide +kernel
theorem dX6_weakestOne_29 : decode cX6_weakestOne 29 = .ok (.aload_n 0, 1) := by decide +kernel
theorem dX6_weakestOne_30 : decode cX6_weakestOne 30 = .ok (.getfield 7, 3) := by decide +kernel
theorem dX6_weakestOne_33 : decode cX6_weakestOne 33 = .ok (.iload_n 1, 1) := by decide +kernel
theorem dX6_weakestOne_34 : decode cX6_weakestOne 34 = .ok (.invokestatic 65, 3) := by decide +kernel
theorem dX6_weakestOne_37 : decode cX6_weakestOne 37 = .ok (.aload_n 0, 1) := by decide +kernel
theorem dX6_weakestOne_38 : decode cX6_weakestOne 38 = .ok (.getfield 7, 3) := by decide +kernel
theorem dX6_weakestOne_41 : decode cX6_weakestOne 41 = .ok (.iload_n 1, 1) := by decide +kernel
theorem dX6_weakestOne_42 : decode cX6_weakestOne 42 = .ok (.invokestatic 62, 3) := by decide +kernel
theorem dX6_weakestOne_45 : decode cX6_weakestOne 45 = .ok (.isub, 1) := by decide +kernel
theorem dX6_weakestOne_46 : decode cX6_weakestOne 46 = .ok (.if_icmp .ge 7, 3) := by decide +kernel
theorem dX6_weakestOne_49 : decode cX6_weakestOne 49 = .ok (.iload_n 2, 1) := by decide +kernel
theorem dX6_weakestOne_50 : decode cX6_weakestOne 50 = .ok (.goto 4, 3) := by decide +kernel
theorem dX6_weakestOne_53 : decode cX6_weakestOne 53 = .ok (.iload_n 1, 1) := by decide +kernel
theorem dX6_weakestOne_54 : decode cX6_weakestOne 54 = .ok (.istore_n 1, 1) := by decide +kernel
theorem dX6_weakestOne_55 : decode cX6_weakestOne 55 = .ok (.iinc 2 1, 3) := by decide +kernel
theorem dX6_weakestOne_58 : decode cX6_weakestOne 58 = .ok (.goto (-54), 3) := by decide +kernel
theorem dX6_weakestOne_61 : decode cX6_weakestOne 61 = .ok (.iload_n 1, 1) := by decide +kernel
theorem dX6_weakestOne_62 : decode cX6_weakestOne 62 = .ok (.ireturn, 1) := by decide +kernel
set_option maxRecDepth 20000 in
theorem ggX6_weakest_X6_weakestOne : GoodIn wsX6_weakest wsX6_weakestOne := goodIn_r _ [6, 7, 8, 9, 5, 10, 11, 12, 13, 14, 15, 16, 17, 18, 19, 20, 21, 22, 23, 24, 25, 26, 27, 28, 29, 30, 31, 32, 33, 34, 35, 36, 37, 38, 39, 40, 41, 42, 43, 44, 45, 46, 47] (by decide +kernel) (by decide +kernel)
set_option maxRecDepth 20000 in
theorem gX6_weakest_X6_weakestOne : GoodIn wsX6_weakest (wsV RX6 175 RX6 yX6_weakestOne wsX6_weakestOne) := goodIn_app (goodIn_of _ (by decide +kernel)) ggX6_weakest_X6_weakestOne
theorem dX6_weakest_0 : decode cX6_weakest 0 = .ok (.aload_n 0, 1) := by decide +kernel
theorem dX6_weakest_1 : decode cX6_weakest 1 = .ok (.iconst 0, 1) := by decide +kernel
theorem dX6_weakest_2 : decode cX6_weakest 2 = .ok (.putfield 25, 3) := by decide +kernel
theorem dX6_weakest_5 : decode cX6_weakest 5 = .ok (.aload_n 0, 1) := by decide +kernel
theorem dX6_weakest_6 : decode cX6_weakest 6 = .ok (.invokevirtual 175, 3) := by decide +kernel
theorem dX6_weakest_9 : decode cX6_weakest 9 = .ok (.ireturn, 1) := by decide +kernel
set_option maxRecDepth 20000 in
theorem ggX6_withLoad_X6_canLoad : GoodIn wsX6_withLoad wsX6_canLoad := goodIn_r _ [6, 1, 7, 8, 5, 9, 10, 11, 12, 39, 40, 41, 42, 43, 44, 45, 46, 47, 48, 49, 50, 51, 52, 53, 54] (by decide +kernel) (by decide +kernel)
set_option maxRecDepth 20000 in
theorem gX6_withLoad_X6_canLoad : GoodIn wsX6_withLoad (wsV RX6 100 RX6 yX6_canLoad wsX6_canLoad) := goodIn_app (goodIn_of _ (by decide +kernel)) ggX6_withLoad_X6_canLoad
set_option maxRecDepth 20000 in
theorem ggX6_withLoad_X6_weightOf : GoodIn wsX6_withLoad wsX6_weightOf := goodIn_r _ [15] (by decide +kernel) (by decide +kernel)
set_option maxRecDepth 20000 in
theorem gX6_withLoad_X6_weightOf : GoodIn wsX6_withLoad (va_wsS RX6 168 yX6_weightOf wsX6_weightOf) := goodIn_app (goodIn_of _ (by decide +kernel)) ggX6_withLoad_X6_weightOf
set_option maxRecDepth 20000 in
theorem ggX6_withLoad_X6_laneWeight : GoodIn wsX6_withLoad wsX6_laneWeight := goodIn_r _ [18, 10, 11, 5, 12, 19, 20, 21] (by decide +kernel) (by decide +kernel)
set_option maxRecDepth 20000 in
theorem gX6_withLoad_X6_laneWeight : GoodIn wsX6_withLoad (va_wsS RX6 44 yX6_laneWeight wsX6_laneWeight) := goodIn_app (goodIn_of _ (by decide +kernel)) ggX6_withLoad_X6_laneWeight
set_option maxRecDepth 20000 in
theorem ggX6_withLoad_X6_counted : GoodIn wsX6_withLoad wsX6_counted := goodIn_r _ [25, 1, 26, 10, 11, 5, 12, 16, 17, 18, 19, 20, 21, 27, 28, 29, 30, 31, 32, 39, 40, 41, 42, 43, 44, 45, 46, 47, 48, 49, 50, 51, 52, 53, 54] (by decide +kernel) (by decide +kernel)
set_option maxRecDepth 20000 in
theorem gX6_withLoad_X6_counted : GoodIn wsX6_withLoad (wsV RX6 172 RX6 yX6_counted wsX6_counted) := goodIn_app (goodIn_of _ (by decide +kernel)) ggX6_withLoad_X6_counted
set_option maxRecDepth 20000 in
theorem ggX6_withLoad_X6_size : GoodIn wsX6_withLoad wsX6_size := goodIn_r _ [32] (by decide +kernel) (by decide +kernel)
set_option maxRecDepth 20000 in
theorem gX6_withLoad_X6_size : GoodIn wsX6_withLoad (va_wsS RX6 47 yX6_size wsX6_size) := goodIn_app (goodIn_of _ (by decide +kernel)) ggX6_withLoad_X6_size
set_option maxRecDepth 20000 in
theorem ggX6_withLoad_X6_greatest : GoodIn wsX6_withLoad wsX6_greatest := goodIn_r _ [35, 36, 37, 5, 38] (by decide +kernel) (by decide +kernel)
set_option maxRecDepth 20000 in
theorem gX6_withLoad_X6_greatest : GoodIn wsX6_withLoad (va_wsS RX6 178 yX6_greatest wsX6_greatest) := goodIn_app (goodIn_of _ (by decide +kernel)) ggX6_withLoad_X6_greatest
theorem dX6_withLoad_0 : decode cX6_withLoad 0 = .ok (.aload_n 0, 1) := by decide +kernel
theorem dX6_withLoad_1 : decode cX6_withLoad 1 = .ok (.iload_n 1, 1) := by decide +kernel
theorem dX6_withLoad_2 : decode cX6_withLoad 2 = .ok (.invokevirtual 100, 3) := by decide +kernel
theorem dX6_withLoad_5 : decode cX6_withLoad 5 = .ok (.ifCond .ne 5, 3) := by decide +kernel
theorem dX6_withLoad_8 : decode cX6_withLoad 8 = .ok (.iconst (-1), 1) := by decide +kernel
theorem dX6_withLoad_9 : decode cX6_withLoad 9 = .ok (.ireturn, 1) := by decide +kernel
theorem dX6_withLoad_10 : decode cX6_withLoad 10 = .ok (.aload_n 0, 1) := by decide +kernel
theorem dX6_withLoad_11 : decode cX6_withLoad 11 = .ok (.getfield 7, 3) := by decide +kernel
theorem dX6_withLoad_14 : decode cX6_withLoad 14 = .ok (.aload_n 0, 1) := by decide +kernel
theorem dX6_withLoad_15 : decode cX6_withLoad 15 = .ok (.getfield 7, 3) := by decide +kernel
theorem dX6_withLoad_18 : decode cX6_withLoad 18 = .ok (.bipush 51, 2) := by decide +kernel
theorem dX6_withLoad_20 : decode cX6_withLoad 20 = .ok (.iaload, 1) := by decide +kernel
theorem dX6_withLoad_21 : decode cX6_withLoad 21 = .ok (.iconst 0, 1) := by decide +kernel
theorem dX6_withLoad_22 : decode cX6_withLoad 22 = .ok (.invokestatic 168, 3) := by decide +kernel
theorem dX6_withLoad_25 : decode cX6_withLoad 25 = .ok (.istore_n 2, 1) := by decide +kernel
theorem dX6_withLoad_26 : decode cX6_withLoad 26 = .ok (.aload_n 0, 1) := by decide +kernel
theorem dX6_withLoad_27 : decode cX6_withLoad 27 = .ok (.getfield 7, 3) := by decide +kernel
theorem dX6_withLoad_30 : decode cX6_withLoad 30 = .ok (.iconst 0, 1) := by decide +kernel
theorem dX6_withLoad_31 : decode cX6_withLoad 31 = .ok (.invokestatic 44, 3) := by decide +kernel
theorem dX6_withLoad_34 : decode cX6_withLoad 34 = .ok (.aload_n 0, 1) := by decide +kernel
theorem dX6_withLoad_35 : decode cX6_withLoad 35 = .ok (.getfield 7, 3) := by decide +kernel
theorem dX6_withLoad_38 : decode cX6_withLoad 38 = .ok (.iconst 1, 1) := by decide +kernel
theorem dX6_withLoad_39 : decode cX6_withLoad 39 = .ok (.invokestatic 44, 3) := by decide +kernel
theorem dX6_withLoad_42 : decode cX6_withLoad 42 = .ok (.isub, 1) := by decide +kernel
theorem dX6_withLoad_43 : decode cX6_withLoad 43 = .ok (.iload_n 1, 1) := by decide +kernel
theorem dX6_withLoad_44 : decode cX6_withLoad 44 = .ok (.ifCond .ne 7, 3) := by decide +kernel
theorem dX6_withLoad_47 : decode cX6_withLoad 47 = .ok (.iload_n 2, 1) := by decide +kernel
theorem dX6_withLoad_48 : decode cX6_withLoad 48 = .ok (.goto 5, 3) := by decide +kernel
theorem dX6_withLoad_51 : decode cX6_withLoad 51 = .ok (.iload_n 2, 1) := by decide +kernel
theorem dX6_withLoad_52 : decode cX6_withLoad 52 = .ok (.ineg, 1) := by decide +kernel
theorem dX6_withLoad_53 : decode cX6_withLoad 53 = .ok (.iadd, 1) := by decide +kernel
theorem dX6_withLoad_54 : decode cX6_withLoad 54 = .ok (.istore_n 3, 1) := by decide +kernel
theorem dX6_withLoad_55 : decode cX6_withLoad 55 = .ok (.aload_n 0, 1) := by decide +kernel
theorem dX6_withLoad_56 : decode cX6_withLoad 56 = .ok (.iconst 3, 1) := by decide +kernel
theorem dX6_withLoad_57 : decode cX6_withLoad 57 = .ok (.invokevirtual 172, 3) := by decide +kernel
theorem dX6_withLoad_60 : decode cX6_withLoad 60 = .ok (.iload_n 2, 1) := by decide +kernel
theorem dX6_withLoad_61 : decode cX6_withLoad 61 = .ok (.iadd, 1) := by decide +kernel
theorem dX6_withLoad_62 : decode cX6_withLoad 62 = .ok (.istore 4, 2) := by decide +kernel
theorem dX6_withLoad_64 : decode cX6_withLoad 64 = .ok (.aload_n 0, 1) := by decide +kernel
theorem dX6_withLoad_65 : decode cX6_withLoad 65 = .ok (.getfield 7, 3) := by decide +kernel
theorem dX6_withLoad_68 : decode cX6_withLoad 68 = .ok (.aload_n 0, 1) := by decide +kernel
theorem dX6_withLoad_69 : decode cX6_withLoad 69 = .ok (.getfield 7, 3) := by decide +kernel
theorem dX6_withLoad_72 : decode cX6_withLoad 72 = .ok (.iconst 3, 1) := by decide +kernel
theorem dX6_withLoad_73 : decode cX6_withLoad 73 = .ok (.aload_n 0, 1) := by decide +kernel
theorem dX6_withLoad_74 : decode cX6_withLoad 74 = .ok (.getfield 7, 3) := by decide +kernel
theorem dX6_withLoad_77 : decode cX6_withLoad 77 = .ok (.bipush 50, 2) := by decide +kernel
theorem dX6_withLoad_79 : decode cX6_withLoad 79 = .ok (.iaload, 1) := by decide +kernel
theorem dX6_withLoad_80 : decode cX6_withLoad 80 = .ok (.bipush 24, 2) := by decide +kernel
theorem dX6_withLoad_82 : decode cX6_withLoad 82 = .ok (.irem, 1) := by decide +kernel
theorem dX6_withLoad_83 : decode cX6_withLoad 83 = .ok (.iadd, 1) := by decide +kernel
theorem dX6_withLoad_84 : decode cX6_withLoad 84 = .ok (.iaload, 1) := by decide +kernel
theorem dX6_withLoad_85 : decode cX6_withLoad 85 = .ok (.iload_n 3, 1) := by decide +kernel
theorem dX6_withLoad_86 : decode cX6_withLoad 86 = .ok (.invokestatic 47, 3) := by decide +kernel
theorem dX6_withLoad_89 : decode cX6_withLoad 89 = .ok (.iload 4, 2) := by decide +kernel
theorem dX6_withLoad_91 : decode cX6_withLoad 91 = .ok (.invokestatic 178, 3) := by decide +kernel
theorem dX6_withLoad_94 : decode cX6_withLoad 94 = .ok (.ireturn, 1) := by decide +kernel
set_option maxRecDepth 20000 in
theorem ggX6_ifLoaded_X6_isTwo : GoodIn wsX6_ifLoaded wsX6_isTwo := goodIn_r _ [5, 6, 7, 4, 8] (by decide +kernel) (by decide +kernel)
set_option maxRecDepth 20000 in
theorem gX6_ifLoaded_X6_isTwo : GoodIn wsX6_ifLoaded (va_wsS RX6 93 yX6_isTwo wsX6_isTwo) := goodIn_app (goodIn_of _ (by decide +kernel)) ggX6_ifLoaded_X6_isTwo
set_option maxRecDepth 20000 in
theorem ggX6_ifLoaded_X6_withLoad : GoodIn wsX6_ifLoaded wsX6_withLoad := goodIn_r _ [12, 13, 14, 15, 16, 4, 17, 18, 19, 20, 21, 22, 23, 24, 25, 26, 27, 28, 29, 30, 31, 32, 33, 34, 35, 36, 37, 38, 39, 40, 41, 42, 43, 44, 45, 46, 47, 48, 49, 54, 55, 56, 57, 58, 59, 60, 61, 62, 63, 64, 65, 66, 67, 68, 69] (by decide +kernel) (by decide +kernel)
set_option maxRecDepth 20000 in
theorem gX6_ifLoaded_X6_withLoad : GoodIn wsX6_ifLoaded (wsV RX6 181 RX6 yX6_withLoad wsX6_withLoad) := goodIn_app (goodIn_of _ (by decide +kernel)) ggX6_ifLoaded_X6_withLoad
set_option maxRecDepth 20000 in
theorem ggX6_ifLoaded_X6_refuses : GoodIn wsX6_ifLoaded wsX6_refuses := goodIn_r _ [53, 1, 54, 55, 56, 57, 58, 59, 60, 61, 62, 63, 64, 65, 66, 67, 68, 69] (by decide +kernel) (by decide +kernel)
set_option maxRecDepth 20000 in
theorem gX6_ifLoaded_X6_refuses : GoodIn wsX6_ifLoaded (wsV RX6 86 RX6 yX6_refuses wsX6_refuses) := goodIn_app (goodIn_of _ (by decide +kernel)) ggX6_ifLoaded_X6_refuses
theorem dX6_ifLoaded_0 : decode cX6_ifLoaded 0 = .ok (.aload_n 0, 1) := by decide +kernel
theorem dX6_ifLoaded_1 : decode cX6_ifLoaded 1 = .ok (.iconst 0, 1) := by decide +kernel
theorem dX6_ifLoaded_2 : decode cX6_ifLoaded 2 = .ok (.putfield 25, 3) := by decide +kernel
theorem dX6_ifLoaded_5 : decode cX6_ifLoaded 5 = .ok (.iload_n 1, 1) := by decide +kernel
theorem dX6_ifLoaded_6 : decode cX6_ifLoaded 6 = .ok (.invokestatic 93, 3) := by decide +kernel
theorem dX6_ifLoaded_9 : decode cX6_ifLoaded 9 = .ok (.ifCond .eq 11, 3) := by decide +kernel
theorem dX6_ifLoaded_12 : decode cX6_ifLoaded 12 = .ok (.aload_n 0, 1) := by decide +kernel
theorem dX6_ifLoaded_13 : decode cX6_ifLoaded 13 = .ok (.iload_n 1, 1) := by decide +kernel
theorem dX6_ifLoaded_14 : decode cX6_ifLoaded 14 = .ok (.invokevirtual 181, 3) := by decide +kernel
theorem dX6_ifLoaded_17 : decode cX6_ifLoaded 17 = .ok (.goto 8, 3) := by decide +kernel
theorem dX6_ifLoaded_20 : decode cX6_ifLoaded 20 = .ok (.aload_n 0, 1) := by decide +kernel
theorem dX6_ifLoaded_21 : decode cX6_ifLoaded 21 = .ok (.iconst 1, 1) := by decide +kernel
theorem dX6_ifLoaded_22 : decode cX6_ifLoaded 22 = .ok (.invokevirtual 86, 3) := by decide +kernel
theorem dX6_ifLoaded_25 : decode cX6_ifLoaded 25 = .ok (.ireturn, 1) := by decide +kernel
set_option maxRecDepth 20000 in
theorem ggX6_best_X6_list : GoodIn wsX6_best wsX6_list := goodIn_r _ [5, 6, 7, 4, 8, 9, 10, 11, 12, 13, 14, 15, 16, 17] (by decide +kernel) (by decide +kernel)
set_option maxRecDepth 20000 in
theorem gX6_best_X6_list : GoodIn wsX6_best (va_wsS RX6 54 yX6_list wsX6_list) := goodIn_app (goodIn_of _ (by decide +kernel)) ggX6_best_X6_list
set_option maxRecDepth 20000 in
theorem ggX6_best_X6_counted : GoodIn wsX6_best wsX6_counted := goodIn_r _ [21, 1, 22, 9, 10, 4, 11, 6, 7, 8, 12, 13, 14, 2, 3, 5, 15, 16, 17, 29, 30, 31, 32, 33, 34, 35, 36, 37, 38, 39, 40, 41, 42, 43, 44] (by decide +kernel) (by decide +kernel)
set_option maxRecDepth 20000 in
theorem gX6_best_X6_counted : GoodIn wsX6_best (wsV RX6 172 RX6 yX6_counted wsX6_counted) := goodIn_app (goodIn_of _ (by decide +kernel)) ggX6_best_X6_counted
set_option maxRecDepth 20000 in
theorem ggX6_best_X6_greatest : GoodIn wsX6_best wsX6_greatest := goodIn_r _ [25, 26, 27, 4, 28] (by decide +kernel) (by decide +kernel)
set_option maxRecDepth 20000 in
theorem gX6_best_X6_greatest : GoodIn wsX6_best (va_wsS RX6 178 yX6_greatest wsX6_greatest) := goodIn_app (goodIn_of _ (by decide +kernel)) ggX6_best_X6_greatest
theorem dX6_best_0 : decode cX6_best 0 = .ok (.iconst 0, 1) := by decide +kernel
theorem dX6_best_1 : decode cX6_best 1 = .ok (.istore_n 1, 1) := by decide +kernel
theorem dX6_best_2 : decode cX6_best 2 = .ok (.aload_n 0, 1) := by decide +kernel
theorem dX6_best_3 : decode cX6_best 3 = .ok (.getfield 7, 3) := by decide +kernel
theorem dX6_best_6 : decode cX6_best 6 = .ok (.aload_n 0, 1) := by decide +kernel
theorem dX6_best_7 : decode cX6_best 7 = .ok (.getfield 7, 3) := by decide +kernel
theorem dX6_best_10 : decode cX6_best 10 = .ok (.iconst 3, 1) := by decide +kernel
theorem dX6_best_11 : decode cX6_best 11 = .ok (.aload_n 0, 1) := by decide +kernel
theorem dX6_best_12 : decode cX6_best 12 = .ok (.getfield 7, 3) := by decide +kernel
theorem dX6_best_15 : decode cX6_best 15 = .ok (.bipush 50, 2) := by decide +kernel
theorem dX6_best_17 : decode cX6_best 17 = .ok (.iaload, 1) := by decide +kernel
theorem dX6_best_18 : decode cX6_best 18 = .ok (.bipush 24, 2) := by decide +kernel
theorem dX6_best_20 : decode cX6_best 20 = .ok (.irem, 1) := by decide +kernel
theorem dX6_best_21 : decode cX6_best 21 = .ok (.iadd, 1) := by decide +kernel
theorem dX6_best_22 : decode cX6_best 22 = .ok (.iaload, 1) := by decide +kernel
theorem dX6_best_23 : decode cX6_best 23 = .ok (.aload_n 0, 1) := by decide +kernel
theorem dX6_best_24 : decode cX6_best 24 = .ok (.getfield 7, 3) := by decide +kernel
theorem dX6_best_27 : decode cX6_best 27 = .ok (.invokestatic 54, 3) := by decide +kernel
theorem dX6_best_30 : decode cX6_best 30 = .ok (.aload_n 0, 1) := by decide +kernel
theorem dX6_best_31 : decode cX6_best 31 = .ok (.iconst 3, 1) := by decide +kernel
theorem dX6_best_32 : decode cX6_best 32 = .ok (.invokevirtual 172, 3) := by decide +kernel
theorem dX6_best_35 : decode cX6_best 35 = .ok (.invokestatic 178, 3) := by decide +kernel
theorem dX6_best_38 : decode cX6_best 38 = .ok (.istore_n 2, 1) := by decide +kernel
theorem dX6_best_39 : decode cX6_best 39 = .ok (.iconst 1, 1) := by decide +kernel
theorem dX6_best_40 : decode cX6_best 40 = .ok (.istore_n 3, 1) := by decide +kernel
theorem dX6_best_41 : decode cX6_best 41 = .ok (.iload_n 3, 1) := by decide +kernel
theorem dX6_best_42 : decode cX6_best 42 = .ok (.bipush 24, 2) := by decide +kernel
theorem dX6_best_44 : decode cX6_best 44 = .ok (.if_icmp .ge 74, 3) := by decide +kernel
theorem dX6_best_47 : decode cX6_best 47 = .ok (.aload_n 0, 1) := by decide +kernel
theorem dX6_best_48 : decode cX6_best 48 = .ok (.getfield 7, 3) := by decide +kernel
theorem dX6_best_51 : decode cX6_best 51 = .ok (.aload_n 0, 1) := by decide +kernel
theorem dX6_best_52 : decode cX6_best 52 = .ok (.getfield 7, 3) := by decide +kernel
theorem dX6_best_55 : decode cX6_best 55 = .ok (.iconst 3, 1) := by decide +kernel
theorem dX6_best_56 : decode cX6_best 56 = .ok (.aload_n 0, 1) := by decide +kernel
theorem dX6_best_57 : decode cX6_best 57 = .ok (.getfield 7, 3) := by decide +kernel
theorem dX6_best_60 : decode cX6_best 60 = .ok (.bipush 50, 2) := by decide +kernel
theorem dX6_best_62 : decode cX6_best 62 = .ok (.iaload, 1) := by decide +kernel
theorem dX6_best_63 : decode cX6_best 63 = .ok (.iload_n 3, 1) := by decide +kernel
theorem dX6_best_64 : decode cX6_best 64 = .ok (.iadd, 1) := by decide +kernel
theorem dX6_best_65 : decode cX6_best 65 = .ok (.bipush 24, 2) := by decide +kernel
theorem dX6_best_67 : decode cX6_best 67 = .ok (.irem, 1) := by decide +kernel
theorem dX6_best_68 : decode cX6_best 68 = .ok (.iadd, 1) := by decide +kernel
theorem dX6_best_69 : decode cX6_best 69 = .ok (.iaload, 1) := by decide +kernel
theorem dX6_best_70 : decode cX6_best 70 = .ok (.aload_n 0, 1) := by decide +kernel
theorem dX6_best_71 : decode cX6_best 71 = .ok (.getfield 7, 3) := by decide +kernel
theorem dX6_best_74 : decode cX6_best 74 = .ok (.invokestatic 54, 3) := by decide +kernel
theorem dX6_best_77 : decode cX6_best 77 = .ok (.aload_n 0, 1) := by decide +kernel
theorem dX6_best_78 : decode cX6_best 78 = .ok (.iconst 3, 1) := by decide +kernel
theorem dX6_best_79 : decode cX6_best 79 = .ok (.invokevirtual 172, 3) := by decide +kernel
theorem dX6_best_82 : decode cX6_best 82 = .ok (.invokestatic 178, 3) := by decide +kernel
theorem dX6_best_85 : decode cX6_best 85 = .ok (.istore 4, 2) := by decide +kernel
theorem dX6_best_87 : decode cX6_best 87 = .ok (.iload 4, 2) := by decide +kernel
theorem dX6_best_89 : decode cX6_best 89 = .ok (.iload_n 2, 1) := by decide +kernel
theorem dX6_best_90 : decode cX6_best 90 = .ok (.if_icmp .ge 7, 3) := by decide +kernel
theorem dX6_best_93 : decode cX6_best 93 = .ok (.iload_n 3, 1) := by decide +kernel
theorem dX6_best_94 : decode cX6_best 94 = .ok (.goto 4, 3) := by decide +kernel
theorem dX6_best_97 : decode cX6_best 97 = .ok (.iload_n 1, 1) := by decide +kernel
theorem dX6_best_98 : decode cX6_best 98 = .ok (.istore_n 1, 1) := by decide +kernel
theorem dX6_best_99 : decode cX6_best 99 = .ok (.iload 4, 2) := by decide +kernel
theorem dX6_best_101 : decode cX6_best 101 = .ok (.iload_n 2, 1) := by decide +kernel
theorem dX6_best_102 : decode cX6_best 102 = .ok (.if_icmp .ge 8, 3) := by decide +kernel
theorem dX6_best_105 : decode cX6_best 105 = .ok (.iload 4, 2) := by decide +kernel
theorem dX6_best_107 : decode cX6_best 107 = .ok (.goto 4, 3) := by decide +kernel
theorem dX6_best_110 : decode cX6_best 110 = .ok (.iload_n 2, 1) := by decide +kernel
theorem dX6_best_111 : decode cX6_best 111 = .ok (.istore_n 2, 1) := by decide +kernel
theorem dX6_best_112 : decode cX6_best 112 = .ok (.iinc 3 1, 3) := by decide +kernel
theorem dX6_best_115 : decode cX6_best 115 = .ok (.goto (-74), 3) := by decide +kernel
theorem dX6_best_118 : decode cX6_best 118 = .ok (.iload_n 1, 1) := by decide +kernel
theorem dX6_best_119 : decode cX6_best 119 = .ok (.ireturn, 1) := by decide +kernel
set_option maxRecDepth 20000 in
theorem ggX6_bestHour_X6_best : GoodIn wsX6_bestHour wsX6_best := goodIn_r _ [6, 7, 8, 9, 5, 10, 11, 12, 13, 14, 15, 16, 17, 18, 19, 20, 21, 22, 23, 24, 25, 26, 27, 28, 29, 30, 31, 32, 33, 34, 35, 36, 37, 38, 39, 40, 41, 42, 43, 44, 45, 46, 47, 48, 49] (by decide +kernel) (by decide +kernel)
set_option maxRecDepth 20000 in
theorem gX6_bestHour_X6_best : GoodIn wsX6_bestHour (wsV RX6 184 RX6 yX6_best wsX6_best) := goodIn_app (goodIn_of _ (by decide +kernel)) ggX6_bestHour_X6_best
theorem dX6_bestHour_0 : decode cX6_bestHour 0 = .ok (.aload_n 0, 1) := by decide +kernel
theorem dX6_bestHour_1 : decode cX6_bestHour 1 = .ok (.iconst 0, 1) := by decide +kernel
theorem dX6_bestHour_2 : decode cX6_bestHour 2 = .ok (.putfield 25, 3) := by decide +kernel
theorem dX6_bestHour_5 : decode cX6_bestHour 5 = .ok (.aload_n 0, 1) := by decide +kernel
theorem dX6_bestHour_6 : decode cX6_bestHour 6 = .ok (.invokevirtual 184, 3) := by decide +kernel
theorem dX6_bestHour_9 : decode cX6_bestHour 9 = .ok (.ireturn, 1) := by decide +kernel
set_option maxRecDepth 20000 in
theorem ggX6_listBy_X6_laneWeight : GoodIn wsX6_listBy wsX6_laneWeight := goodIn_r _ [5, 6, 7, 4, 8, 9, 10, 11] (by decide +kernel) (by decide +kernel)
set_option maxRecDepth 20000 in
theorem gX6_listBy_X6_laneWeight : GoodIn wsX6_listBy (va_wsS RX6 44 yX6_laneWeight wsX6_laneWeight) := goodIn_app (goodIn_of _ (by decide +kernel)) ggX6_listBy_X6_laneWeight
set_option maxRecDepth 20000 in
theorem ggX6_listBy_X6_onLane : GoodIn wsX6_listBy wsX6_onLane := goodIn_r _ [8] (by decide +kernel) (by decide +kernel)
set_option maxRecDepth 20000 in
theorem gX6_listBy_X6_onLane : GoodIn wsX6_listBy (va_wsS RX6 36 yX6_onLane wsX6_onLane) := goodIn_app (goodIn_of _ (by decide +kernel)) ggX6_listBy_X6_onLane
set_option maxRecDepth 20000 in
theorem ggX6_listBy_X6_weightOf : GoodIn wsX6_listBy wsX6_weightOf := goodIn_r _ [14] (by decide +kernel) (by decide +kernel)
set_option maxRecDepth 20000 in
theorem gX6_listBy_X6_weightOf : GoodIn wsX6_listBy (va_wsS RX6 168 yX6_weightOf wsX6_weightOf) := goodIn_app (goodIn_of _ (by decide +kernel)) ggX6_listBy_X6_weightOf
set_option maxRecDepth 20000 in
theorem ggX6_listBy_X6_size : GoodIn wsX6_listBy wsX6_size := goodIn_r _ [17] (by decide +kernel) (by decide +kernel)
set_option maxRecDepth 20000 in
theorem gX6_listBy_X6_size : GoodIn wsX6_listBy (va_wsS RX6 47 yX6_size wsX6_size) := goodIn_app (goodIn_of _ (by decide +kernel)) ggX6_listBy_X6_size
theorem dX6_listBy_0 : decode cX6_listBy 0 = .ok (.aload_n 0, 1) := by decide +kernel
theorem dX6_listBy_1 : decode cX6_listBy 1 = .ok (.getfield 7, 3) := by decide +kernel
theorem dX6_listBy_4 : decode cX6_listBy 4 = .ok (.iconst 0, 1) := by decide +kernel
theorem dX6_listBy_5 : decode cX6_listBy 5 = .ok (.invokestatic 44, 3) := by decide +kernel
theorem dX6_listBy_8 : decode cX6_listBy 8 = .ok (.aload_n 0, 1) := by decide +kernel
theorem dX6_listBy_9 : decode cX6_listBy 9 = .ok (.getfield 7, 3) := by decide +kernel
theorem dX6_listBy_12 : decode cX6_listBy 12 = .ok (.iconst 1, 1) := by decide +kernel
theorem dX6_listBy_13 : decode cX6_listBy 13 = .ok (.invokestatic 44, 3) := by decide +kernel
theorem dX6_listBy_16 : decode cX6_listBy 16 = .ok (.isub, 1) := by decide +kernel
theorem dX6_listBy_17 : decode cX6_listBy 17 = .ok (.istore_n 3, 1) := by decide +kernel
theorem dX6_listBy_18 : decode cX6_listBy 18 = .ok (.aload_n 0, 1) := by decide +kernel
theorem dX6_listBy_19 : decode cX6_listBy 19 = .ok (.getfield 7, 3) := by decide +kernel
theorem dX6_listBy_22 : decode cX6_listBy 22 = .ok (.iconst 0, 1) := by decide +kernel
theorem dX6_listBy_23 : decode cX6_listBy 23 = .ok (.invokestatic 36, 3) := by decide +kernel
theorem dX6_listBy_26 : decode cX6_listBy 26 = .ok (.istore 4, 2) := by decide +kernel
theorem dX6_listBy_28 : decode cX6_listBy 28 = .ok (.aload_n 0, 1) := by decide +kernel
theorem dX6_listBy_29 : decode cX6_listBy 29 = .ok (.getfield 7, 3) := by decide +kernel
theorem dX6_listBy_32 : decode cX6_listBy 32 = .ok (.iconst 1, 1) := by decide +kernel
theorem dX6_listBy_33 : decode cX6_listBy 33 = .ok (.invokestatic 36, 3) := by decide +kernel
theorem dX6_listBy_36 : decode cX6_listBy 36 = .ok (.istore 5, 2) := by decide +kernel
theorem dX6_listBy_38 : decode cX6_listBy 38 = .ok (.iconst 0, 1) := by decide +kernel
theorem dX6_listBy_39 : decode cX6_listBy 39 = .ok (.istore 6, 2) := by decide +kernel
theorem dX6_listBy_41 : decode cX6_listBy 41 = .ok (.iload 6, 2) := by decide +kernel
theorem dX6_listBy_43 : decode cX6_listBy 43 = .ok (.iload_n 1, 1) := by decide +kernel
theorem dX6_listBy_44 : decode cX6_listBy 44 = .ok (.if_icmp .ge 90, 3) := by decide +kernel
theorem dX6_listBy_47 : decode cX6_listBy 47 = .ok (.iload_n 2, 1) := by decide +kernel
theorem dX6_listBy_48 : decode cX6_listBy 48 = .ok (.iload 6, 2) := by decide +kernel
theorem dX6_listBy_50 : decode cX6_listBy 50 = .ok (.ishr, 1) := by decide +kernel
theorem dX6_listBy_51 : decode cX6_listBy 51 = .ok (.iconst 1, 1) := by decide +kernel
theorem dX6_listBy_52 : decode cX6_listBy 52 = .ok (.iand, 1) := by decide +kernel
theorem dX6_listBy_53 : decode cX6_listBy 53 = .ok (.iconst 1, 1) := by decide +kernel
theorem dX6_listBy_54 : decode cX6_listBy 54 = .ok (.if_icmp .ne 7, 3) := by decide +kernel
theorem dX6_listBy_57 : decode cX6_listBy 57 = .ok (.iconst 1, 1) := by decide +kernel
theorem dX6_listBy_58 : decode cX6_listBy 58 = .ok (.goto 4, 3) := by decide +kernel
theorem dX6_listBy_61 : decode cX6_listBy 61 = .ok (.iconst 0, 1) := by decide +kernel
theorem dX6_listBy_62 : decode cX6_listBy 62 = .ok (.istore 7, 2) := by decide +kernel
theorem dX6_listBy_64 : decode cX6_listBy 64 = .ok (.aload_n 0, 1) := by decide +kernel
theorem dX6_listBy_65 : decode cX6_listBy 65 = .ok (.getfield 7, 3) := by decide +kernel
theorem dX6_listBy_68 : decode cX6_listBy 68 = .ok (.aload_n 0, 1) := by decide +kernel
theorem dX6_listBy_69 : decode cX6_listBy 69 = .ok (.getfield 7, 3) := by decide +kernel
theorem dX6_listBy_72 : decode cX6_listBy 72 = .ok (.bipush 51, 2) := by decide +kernel
theorem dX6_listBy_74 : decode cX6_listBy 74 = .ok (.iaload, 1) := by decide +kernel
theorem dX6_listBy_75 : decode cX6_listBy 75 = .ok (.iload 6, 2) := by decide +kernel
theorem dX6_listBy_77 : decode cX6_listBy 77 = .ok (.invokestatic 168, 3) := by decide +kernel
theorem dX6_listBy_80 : decode cX6_listBy 80 = .ok (.istore 8, 2) := by decide +kernel
theorem dX6_listBy_82 : decode cX6_listBy 82 = .ok (.iload_n 3, 1) := by decide +kernel
theorem dX6_listBy_83 : decode cX6_listBy 83 = .ok (.iload 7, 2) := by decide +kernel
theorem dX6_listBy_85 : decode cX6_listBy 85 = .ok (.ifCond .eq 8, 3) := by decide +kernel
theorem dX6_listBy_88 : decode cX6_listBy 88 = .ok (.iload 8, 2) := by decide +kernel
theorem dX6_listBy_90 : decode cX6_listBy 90 = .ok (.goto 6, 3) := by decide +kernel
theorem dX6_listBy_93 : decode cX6_listBy 93 = .ok (.iload 8, 2) := by decide +kernel
theorem dX6_listBy_95 : decode cX6_listBy 95 = .ok (.ineg, 1) := by decide +kernel
theorem dX6_listBy_96 : decode cX6_listBy 96 = .ok (.iadd, 1) := by decide +kernel
theorem dX6_listBy_97 : decode cX6_listBy 97 = .ok (.istore_n 3, 1) := by decide +kernel
theorem dX6_listBy_98 : decode cX6_listBy 98 = .ok (.iload 4, 2) := by decide +kernel
theorem dX6_listBy_100 : decode cX6_listBy 100 = .ok (.iload 7, 2) := by decide +kernel
theorem dX6_listBy_102 : decode cX6_listBy 102 = .ok (.ifCond .eq 7, 3) := by decide +kernel
theorem dX6_listBy_105 : decode cX6_listBy 105 = .ok (.iconst 1, 1) := by decide +kernel
theorem dX6_listBy_106 : decode cX6_listBy 106 = .ok (.goto 4, 3) := by decide +kernel
theorem dX6_listBy_109 : decode cX6_listBy 109 = .ok (.iconst 0, 1) := by decide +kernel
theorem dX6_listBy_110 : decode cX6_listBy 110 = .ok (.iadd, 1) := by decide +kernel
theorem dX6_listBy_111 : decode cX6_listBy 111 = .ok (.istore 4, 2) := by decide +kernel
theorem dX6_listBy_113 : decode cX6_listBy 113 = .ok (.iload 5, 2) := by decide +kernel
theorem dX6_listBy_115 : decode cX6_listBy 115 = .ok (.iload 7, 2) := by decide +kernel
theorem dX6_listBy_117 : decode cX6_listBy 117 = .ok (.ifCond .eq 7, 3) := by decide +kernel
theorem dX6_listBy_120 : decode cX6_listBy 120 = .ok (.iconst 0, 1) := by decide +kernel
theorem dX6_listBy_121 : decode cX6_listBy 121 = .ok (.goto 4, 3) := by decide +kernel
theorem dX6_listBy_124 : decode cX6_listBy 124 = .ok (.iconst 1, 1) := by decide +kernel
theorem dX6_listBy_125 : decode cX6_listBy 125 = .ok (.iadd, 1) := by decide +kernel
theorem dX6_listBy_126 : decode cX6_listBy 126 = .ok (.istore 5, 2) := by decide +kernel
theorem dX6_listBy_128 : decode cX6_listBy 128 = .ok (.iinc 6 1, 3) := by decide +kernel
theorem dX6_listBy_131 : decode cX6_listBy 131 = .ok (.goto (-90), 3) := by decide +kernel
theorem dX6_listBy_134 : decode cX6_listBy 134 = .ok (.iload 4, 2) := by decide +kernel
theorem dX6_listBy_136 : decode cX6_listBy 136 = .ok (.iconst 4, 1) := by decide +kernel
theorem dX6_listBy_137 : decode cX6_listBy 137 = .ok (.if_icmp .gt 9, 3) := by decide +kernel
theorem dX6_listBy_140 : decode cX6_listBy 140 = .ok (.iload 5, 2) := by decide +kernel
theorem dX6_listBy_142 : decode cX6_listBy 142 = .ok (.iconst 4, 1) := by decide +kernel
theorem dX6_listBy_143 : decode cX6_listBy 143 = .ok (.if_icmp .le 7, 3) := by decide +kernel
theorem dX6_listBy_146 : decode cX6_listBy 146 = .ok (.iconst (-1), 1) := by decide +kernel
theorem dX6_listBy_147 : decode cX6_listBy 147 = .ok (.goto 7, 3) := by decide +kernel
theorem dX6_listBy_150 : decode cX6_listBy 150 = .ok (.iload_n 3, 1) := by decide +kernel
theorem dX6_listBy_151 : decode cX6_listBy 151 = .ok (.invokestatic 47, 3) := by decide +kernel
theorem dX6_listBy_154 : decode cX6_listBy 154 = .ok (.ireturn, 1) := by decide +kernel
set_option maxRecDepth 20000 in
theorem ggX6_least_X6_waitingAt : GoodIn wsX6_least wsX6_waitingAt := goodIn_r _ [5] (by decide +kernel) (by decide +kernel)
set_option maxRecDepth 20000 in
theorem gX6_least_X6_waitingAt : GoodIn wsX6_least (va_wsS RX6 51 yX6_waitingAt wsX6_waitingAt) := goodIn_app (goodIn_of _ (by decide +kernel)) ggX6_least_X6_waitingAt
set_option maxRecDepth 20000 in
theorem ggX6_least_X6_listBy : GoodIn wsX6_least wsX6_listBy := goodIn_r _ [9, 1, 10, 11, 4, 12, 13, 14, 15, 16, 17, 18, 19, 20, 21, 22, 23, 24, 25, 26, 27, 28, 29, 30, 31, 32, 33, 34, 35, 36, 37, 38, 39, 40] (by decide +kernel) (by decide +kernel)
set_option maxRecDepth 20000 in
theorem gX6_least_X6_listBy : GoodIn wsX6_least (wsV RX6 187 RX6 yX6_listBy wsX6_listBy) := goodIn_app (goodIn_of _ (by decide +kernel)) ggX6_least_X6_listBy
theorem dX6_least_0 : decode cX6_least 0 = .ok (.iconst (-1), 1) := by decide +kernel
theorem dX6_least_1 : decode cX6_least 1 = .ok (.istore_n 2, 1) := by decide +kernel
theorem dX6_least_2 : decode cX6_least 2 = .ok (.iconst 0, 1) := by decide +kernel
theorem dX6_least_3 : decode cX6_least 3 = .ok (.istore_n 3, 1) := by decide +kernel
theorem dX6_least_4 : decode cX6_least 4 = .ok (.iload_n 3, 1) := by decide +kernel
theorem dX6_least_5 : decode cX6_least 5 = .ok (.iconst 1, 1) := by decide +kernel
theorem dX6_least_6 : decode cX6_least 6 = .ok (.iload_n 1, 1) := by decide +kernel
theorem dX6_least_7 : decode cX6_least 7 = .ok (.ishl, 1) := by decide +kernel
theorem dX6_least_8 : decode cX6_least 8 = .ok (.if_icmp .ge 59, 3) := by decide +kernel
theorem dX6_least_11 : decode cX6_least 11 = .ok (.iload_n 1, 1) := by decide +kernel
theorem dX6_least_12 : decode cX6_least 12 = .ok (.aload_n 0, 1) := by decide +kernel
theorem dX6_least_13 : decode cX6_least 13 = .ok (.getfield 7, 3) := by decide +kernel
theorem dX6_least_16 : decode cX6_least 16 = .ok (.aload_n 0, 1) := by decide +kernel
theorem dX6_least_17 : decode cX6_least 17 = .ok (.getfield 7, 3) := by decide +kernel
theorem dX6_least_20 : decode cX6_least 20 = .ok (.bipush 51, 2) := by decide +kernel
theorem dX6_least_22 : decode cX6_least 22 = .ok (.iaload, 1) := by decide +kernel
theorem dX6_least_23 : decode cX6_least 23 = .ok (.invokestatic 51, 3) := by decide +kernel
theorem dX6_least_26 : decode cX6_least 26 = .ok (.if_icmp .gt 41, 3) := by decide +kernel
theorem dX6_least_29 : decode cX6_least 29 = .ok (.aload_n 0, 1) := by decide +kernel
theorem dX6_least_30 : decode cX6_least 30 = .ok (.iload_n 1, 1) := by decide +kernel
theorem dX6_least_31 : decode cX6_least 31 = .ok (.iload_n 3, 1) := by decide +kernel
theorem dX6_least_32 : decode cX6_least 32 = .ok (.invokevirtual 187, 3) := by decide +kernel
theorem dX6_least_35 : decode cX6_least 35 = .ok (.istore 4, 2) := by decide +kernel
theorem dX6_least_37 : decode cX6_least 37 = .ok (.iload 4, 2) := by decide +kernel
theorem dX6_least_39 : decode cX6_least 39 = .ok (.iconst (-1), 1) := by decide +kernel
theorem dX6_least_40 : decode cX6_least 40 = .ok (.if_icmp .eq 19, 3) := by decide +kernel
theorem dX6_least_43 : decode cX6_least 43 = .ok (.iload_n 2, 1) := by decide +kernel
theorem dX6_least_44 : decode cX6_least 44 = .ok (.iconst (-1), 1) := by decide +kernel
theorem dX6_least_45 : decode cX6_least 45 = .ok (.if_icmp .eq 9, 3) := by decide +kernel
theorem dX6_least_48 : decode cX6_least 48 = .ok (.iload 4, 2) := by decide +kernel
theorem dX6_least_50 : decode cX6_least 50 = .ok (.iload_n 2, 1) := by decide +kernel
theorem dX6_least_51 : decode cX6_least 51 = .ok (.if_icmp .ge 8, 3) := by decide +kernel
theorem dX6_least_54 : decode cX6_least 54 = .ok (.iload 4, 2) := by decide +kernel
theorem dX6_least_56 : decode cX6_least 56 = .ok (.goto 4, 3) := by decide +kernel
theorem dX6_least_59 : decode cX6_least 59 = .ok (.iload_n 2, 1) := by decide +kernel
theorem dX6_least_60 : decode cX6_least 60 = .ok (.istore_n 2, 1) := by decide +kernel
theorem dX6_least_61 : decode cX6_least 61 = .ok (.iinc 3 1, 3) := by decide +kernel
theorem dX6_least_64 : decode cX6_least 64 = .ok (.goto (-60), 3) := by decide +kernel
theorem dX6_least_67 : decode cX6_least 67 = .ok (.iload_n 2, 1) := by decide +kernel
theorem dX6_least_68 : decode cX6_least 68 = .ok (.ireturn, 1) := by decide +kernel
set_option maxRecDepth 20000 in
theorem ggX6_leastList_X6_in : GoodIn wsX6_leastList wsX6_in := goodIn_r _ [5] (by decide +kernel) (by decide +kernel)
set_option maxRecDepth 20000 in
theorem gX6_leastList_X6_in : GoodIn wsX6_leastList (va_wsS RX6 82 yX6_in wsX6_in) := goodIn_app (goodIn_of _ (by decide +kernel)) ggX6_leastList_X6_in
set_option maxRecDepth 20000 in
theorem ggX6_leastList_X6_least : GoodIn wsX6_leastList wsX6_least := goodIn_r _ [9, 10, 11, 12, 4, 13, 14, 15, 16, 17, 18, 19, 20, 21, 22, 23, 24, 25, 26, 27, 28, 29, 30, 31, 32, 37, 38, 39, 40, 41, 42, 43, 44, 45, 46, 47, 48, 49, 50, 51, 52] (by decide +kernel) (by decide +kernel)
set_option maxRecDepth 20000 in
theorem gX6_leastList_X6_least : GoodIn wsX6_leastList (wsV RX6 190 RX6 yX6_least wsX6_least) := goodIn_app (goodIn_of _ (by decide +kernel)) ggX6_leastList_X6_least
set_option maxRecDepth 20000 in
theorem ggX6_leastList_X6_refuses : GoodIn wsX6_leastList wsX6_refuses := goodIn_r _ [36, 1, 37, 38, 39, 40, 41, 42, 43, 44, 45, 46, 47, 48, 49, 50, 51, 52] (by decide +kernel) (by decide +kernel)
set_option maxRecDepth 20000 in
theorem gX6_leastList_X6_refuses : GoodIn wsX6_leastList (wsV RX6 86 RX6 yX6_refuses wsX6_refuses) := goodIn_app (goodIn_of _ (by decide +kernel)) ggX6_leastList_X6_refuses
theorem dX6_leastList_0 : decode cX6_leastList 0 = .ok (.aload_n 0, 1) := by decide +kernel
theorem dX6_leastList_1 : decode cX6_leastList 1 = .ok (.iconst 0, 1) := by decide +kernel
theorem dX6_leastList_2 : decode cX6_leastList 2 = .ok (.putfield 25, 3) := by decide +kernel
theorem dX6_leastList_5 : decode cX6_leastList 5 = .ok (.iload_n 1, 1) := by decide +kernel
theorem dX6_leastList_6 : decode cX6_leastList 6 = .ok (.iconst 0, 1) := by decide +kernel
theorem dX6_leastList_7 : decode cX6_leastList 7 = .ok (.bipush 8, 2) := by decide +kernel
theorem dX6_leastList_9 : decode cX6_leastList 9 = .ok (.invokestatic 82, 3) := by decide +kernel
theorem dX6_leastList_12 : decode cX6_leastList 12 = .ok (.ifCond .eq 11, 3) := by decide +kernel
theorem dX6_leastList_15 : decode cX6_leastList 15 = .ok (.aload_n 0, 1) := by decide +kernel
theorem dX6_leastList_16 : decode cX6_leastList 16 = .ok (.iload_n 1, 1) := by decide +kernel
theorem dX6_leastList_17 : decode cX6_leastList 17 = .ok (.invokevirtual 190, 3) := by decide +kernel
theorem dX6_leastList_20 : decode cX6_leastList 20 = .ok (.goto 8, 3) := by decide +kernel
theorem dX6_leastList_23 : decode cX6_leastList 23 = .ok (.aload_n 0, 1) := by decide +kernel
theorem dX6_leastList_24 : decode cX6_leastList 24 = .ok (.iconst 1, 1) := by decide +kernel
theorem dX6_leastList_25 : decode cX6_leastList 25 = .ok (.invokevirtual 86, 3) := by decide +kernel
theorem dX6_leastList_28 : decode cX6_leastList 28 = .ok (.ireturn, 1) := by decide +kernel
set_option maxRecDepth 20000 in
theorem ggX6_crossings_X6_lays : GoodIn wsX6_crossings wsX6_lays := goodIn_r _ [6] (by decide +kernel) (by decide +kernel)
set_option maxRecDepth 20000 in
theorem gX6_crossings_X6_lays : GoodIn wsX6_crossings (va_wsS RX6 32 yX6_lays wsX6_lays) := goodIn_app (goodIn_of _ (by decide +kernel)) ggX6_crossings_X6_lays
set_option maxRecDepth 20000 in
theorem ggX6_crossings_X6_reason : GoodIn wsX6_crossings wsX6_reason := goodIn_r _ [9, 10, 11, 5, 12, 13, 14, 15, 16, 17, 18, 19, 20, 21, 22, 23, 24, 25, 26, 27, 28, 29, 30, 31, 32, 33, 34, 35, 36] (by decide +kernel) (by decide +kernel)
set_option maxRecDepth 20000 in
theorem gX6_crossings_X6_reason : GoodIn wsX6_crossings (va_wsS RX6 110 yX6_reason wsX6_reason) := goodIn_app (goodIn_of _ (by decide +kernel)) ggX6_crossings_X6_reason
set_option maxRecDepth 20000 in
theorem ggX6_crossings_X6_crosses : GoodIn wsX6_crossings wsX6_crosses := goodIn_r _ [39, 28, 29, 5, 30, 10, 11, 12, 13, 14, 15, 16, 17, 18, 19, 20, 21, 22, 23, 24, 31, 32, 33, 40, 41, 42, 43, 44, 45, 46, 47, 48] (by decide +kernel) (by decide +kernel)
set_option maxRecDepth 20000 in
theorem gX6_crossings_X6_crosses : GoodIn wsX6_crossings (va_wsS RX6 113 yX6_crosses wsX6_crosses) := goodIn_app (goodIn_of _ (by decide +kernel)) ggX6_crossings_X6_crosses
theorem dX6_crossings_0 : decode cX6_crossings 0 = .ok (.aload_n 0, 1) := by decide +kernel
theorem dX6_crossings_1 : decode cX6_crossings 1 = .ok (.getfield 7, 3) := by decide +kernel
theorem dX6_crossings_4 : decode cX6_crossings 4 = .ok (.iconst 0, 1) := by decide +kernel
theorem dX6_crossings_5 : decode cX6_crossings 5 = .ok (.aload_n 0, 1) := by decide +kernel
theorem dX6_crossings_6 : decode cX6_crossings 6 = .ok (.getfield 13, 3) := by decide +kernel
theorem dX6_crossings_9 : decode cX6_crossings 9 = .ok (.iconst 0, 1) := by decide +kernel
theorem dX6_crossings_10 : decode cX6_crossings 10 = .ok (.invokestatic 32, 3) := by decide +kernel
theorem dX6_crossings_13 : decode cX6_crossings 13 = .ok (.iconst 0, 1) := by decide +kernel
theorem dX6_crossings_14 : decode cX6_crossings 14 = .ok (.istore_n 1, 1) := by decide +kernel
theorem dX6_crossings_15 : decode cX6_crossings 15 = .ok (.iconst 0, 1) := by decide +kernel
theorem dX6_crossings_16 : decode cX6_crossings 16 = .ok (.istore_n 2, 1) := by decide +kernel
theorem dX6_crossings_17 : decode cX6_crossings 17 = .ok (.iload_n 1, 1) := by decide +kernel
theorem dX6_crossings_18 : decode cX6_crossings 18 = .ok (.bipush 100, 2) := by decide +kernel
theorem dX6_crossings_20 : decode cX6_crossings 20 = .ok (.if_icmp .ge 29, 3) := by decide +kernel
theorem dX6_crossings_23 : decode cX6_crossings 23 = .ok (.aload_n 0, 1) := by decide +kernel
theorem dX6_crossings_24 : decode cX6_crossings 24 = .ok (.getfield 13, 3) := by decide +kernel
theorem dX6_crossings_27 : decode cX6_crossings 27 = .ok (.invokestatic 110, 3) := by decide +kernel
theorem dX6_crossings_30 : decode cX6_crossings 30 = .ok (.ifCond .ne 19, 3) := by decide +kernel
theorem dX6_crossings_33 : decode cX6_crossings 33 = .ok (.iload_n 2, 1) := by decide +kernel
theorem dX6_crossings_34 : decode cX6_crossings 34 = .ok (.aload_n 0, 1) := by decide +kernel
theorem dX6_crossings_35 : decode cX6_crossings 35 = .ok (.getfield 13, 3) := by decide +kernel
theorem dX6_crossings_38 : decode cX6_crossings 38 = .ok (.invokestatic 113, 3) := by decide +kernel
theorem dX6_crossings_41 : decode cX6_crossings 41 = .ok (.iadd, 1) := by decide +kernel
theorem dX6_crossings_42 : decode cX6_crossings 42 = .ok (.istore_n 2, 1) := by decide +kernel
theorem dX6_crossings_43 : decode cX6_crossings 43 = .ok (.iinc 1 1, 3) := by decide +kernel
theorem dX6_crossings_46 : decode cX6_crossings 46 = .ok (.goto (-29), 3) := by decide +kernel
theorem dX6_crossings_49 : decode cX6_crossings 49 = .ok (.iload_n 2, 1) := by decide +kernel
theorem dX6_crossings_50 : decode cX6_crossings 50 = .ok (.iload_n 1, 1) := by decide +kernel
theorem dX6_crossings_51 : decode cX6_crossings 51 = .ok (.if_icmp .ge 7, 3) := by decide +kernel
theorem dX6_crossings_54 : decode cX6_crossings 54 = .ok (.iconst 0, 1) := by decide +kernel
theorem dX6_crossings_55 : decode cX6_crossings 55 = .ok (.goto 4, 3) := by decide +kernel
theorem dX6_crossings_58 : decode cX6_crossings 58 = .ok (.iload_n 1, 1) := by decide +kernel
theorem dX6_crossings_59 : decode cX6_crossings 59 = .ok (.ireturn, 1) := by decide +kernel
set_option maxRecDepth 20000 in
theorem ggX6_lasts_X6_crossings : GoodIn wsX6_lasts wsX6_crossings := goodIn_r _ [6, 7, 8, 9, 10, 5, 11, 12, 13, 14, 15, 16, 17, 18, 19, 20, 21, 22, 23, 24, 25, 26, 27, 28, 29, 30, 31, 32, 33, 34, 35, 36, 37, 38, 39, 40, 41, 42, 43, 44, 45, 46, 47, 48, 49, 50, 51, 52, 53, 54, 55, 56, 57, 58, 59, 60, 61, 62, 63, 64, 65, 66, 67, 68, 69] (by decide +kernel) (by decide +kernel)
set_option maxRecDepth 20000 in
theorem gX6_lasts_X6_crossings : GoodIn wsX6_lasts (wsV RX6 193 RX6 yX6_crossings wsX6_crossings) := goodIn_app (goodIn_of _ (by decide +kernel)) ggX6_lasts_X6_crossings
theorem dX6_lasts_0 : decode cX6_lasts 0 = .ok (.aload_n 0, 1) := by decide +kernel
theorem dX6_lasts_1 : decode cX6_lasts 1 = .ok (.iconst 0, 1) := by decide +kernel
theorem dX6_lasts_2 : decode cX6_lasts 2 = .ok (.putfield 25, 3) := by decide +kernel
theorem dX6_lasts_5 : decode cX6_lasts 5 = .ok (.aload_n 0, 1) := by decide +kernel
theorem dX6_lasts_6 : decode cX6_lasts 6 = .ok (.invokevirtual 193, 3) := by decide +kernel
theorem dX6_lasts_9 : decode cX6_lasts 9 = .ok (.ireturn, 1) := by decide +kernel
set_option maxRecDepth 20000 in
theorem ggX6_drawn_X6_reason : GoodIn wsX6_drawn wsX6_reason := goodIn_r _ [6, 7, 8, 5, 9, 10, 11, 12, 13, 14, 15, 16, 17, 18, 19, 20, 21, 22, 23, 24, 25, 26, 27, 28, 29, 30, 31, 32, 33] (by decide +kernel) (by decide +kernel)
set_option maxRecDepth 20000 in
theorem gX6_drawn_X6_reason : GoodIn wsX6_drawn (va_wsS RX6 110 yX6_reason wsX6_reason) := goodIn_app (goodIn_of _ (by decide +kernel)) ggX6_drawn_X6_reason
set_option maxRecDepth 20000 in
theorem ggX6_drawn_X6_lays : GoodIn wsX6_drawn wsX6_lays := goodIn_r _ [36] (by decide +kernel) (by decide +kernel)
set_option maxRecDepth 20000 in
theorem gX6_drawn_X6_lays : GoodIn wsX6_drawn (va_wsS RX6 32 yX6_lays wsX6_lays) := goodIn_app (goodIn_of _ (by decide +kernel)) ggX6_drawn_X6_lays
set_option maxRecDepth 20000 in
theorem ggX6_drawn_X6_draws : GoodIn wsX6_drawn wsX6_draws := goodIn_r _ [39, 40, 41, 5, 42, 43, 44, 45] (by decide +kernel) (by decide +kernel)
set_option maxRecDepth 20000 in
theorem gX6_drawn_X6_draws : GoodIn wsX6_drawn (va_wsS RX6 116 yX6_draws wsX6_draws) := goodIn_app (goodIn_of _ (by decide +kernel)) ggX6_drawn_X6_draws
theorem dX6_drawn_0 : decode cX6_drawn 0 = .ok (.aload_n 0, 1) := by decide +kernel
theorem dX6_drawn_1 : decode cX6_drawn 1 = .ok (.getfield 7, 3) := by decide +kernel
theorem dX6_drawn_4 : decode cX6_drawn 4 = .ok (.invokestatic 110, 3) := by decide +kernel
theorem dX6_drawn_7 : decode cX6_drawn 7 = .ok (.ifCond .ne 5, 3) := by decide +kernel
theorem dX6_drawn_10 : decode cX6_drawn 10 = .ok (.iconst 0, 1) := by decide +kernel
theorem dX6_drawn_11 : decode cX6_drawn 11 = .ok (.ireturn, 1) := by decide +kernel
theorem dX6_drawn_12 : decode cX6_drawn 12 = .ok (.iconst 1, 1) := by decide +kernel
theorem dX6_drawn_13 : decode cX6_drawn 13 = .ok (.istore_n 1, 1) := by decide +kernel
theorem dX6_drawn_14 : decode cX6_drawn 14 = .ok (.iload_n 1, 1) := by decide +kernel
theorem dX6_drawn_15 : decode cX6_drawn 15 = .ok (.iconst 5, 1) := by decide +kernel
theorem dX6_drawn_16 : decode cX6_drawn 16 = .ok (.if_icmp .gt 58, 3) := by decide +kernel
theorem dX6_drawn_19 : decode cX6_drawn 19 = .ok (.iload_n 1, 1) := by decide +kernel
theorem dX6_drawn_20 : decode cX6_drawn 20 = .ok (.aload_n 0, 1) := by decide +kernel
theorem dX6_drawn_21 : decode cX6_drawn 21 = .ok (.getfield 7, 3) := by decide +kernel
theorem dX6_drawn_24 : decode cX6_drawn 24 = .ok (.bipush 49, 2) := by decide +kernel
theorem dX6_drawn_26 : decode cX6_drawn 26 = .ok (.iaload, 1) := by decide +kernel
theorem dX6_drawn_27 : decode cX6_drawn 27 = .ok (.if_icmp .gt 47, 3) := by decide +kernel
theorem dX6_drawn_30 : decode cX6_drawn 30 = .ok (.aload_n 0, 1) := by decide +kernel
theorem dX6_drawn_31 : decode cX6_drawn 31 = .ok (.getfield 7, 3) := by decide +kernel
theorem dX6_drawn_34 : decode cX6_drawn 34 = .ok (.iconst 0, 1) := by decide +kernel
theorem dX6_drawn_35 : decode cX6_drawn 35 = .ok (.aload_n 0, 1) := by decide +kernel
theorem dX6_drawn_36 : decode cX6_drawn 36 = .ok (.getfield 13, 3) := by decide +kernel
theorem dX6_drawn_39 : decode cX6_drawn 39 = .ok (.iconst 0, 1) := by decide +kernel
theorem dX6_drawn_40 : decode cX6_drawn 40 = .ok (.invokestatic 32, 3) := by decide +kernel
theorem dX6_drawn_43 : decode cX6_drawn 43 = .ok (.aload_n 0, 1) := by decide +kernel
theorem dX6_drawn_44 : decode cX6_drawn 44 = .ok (.getfield 13, 3) := by decide +kernel
theorem dX6_drawn_47 : decode cX6_drawn 47 = .ok (.iload_n 1, 1) := by decide +kernel
theorem dX6_drawn_48 : decode cX6_drawn 48 = .ok (.invokestatic 116, 3) := by decide +kernel
theorem dX6_drawn_51 : decode cX6_drawn 51 = .ok (.istore_n 2, 1) := by decide +kernel
theorem dX6_drawn_52 : decode cX6_drawn 52 = .ok (.iload_n 2, 1) := by decide +kernel
theorem dX6_drawn_53 : decode cX6_drawn 53 = .ok (.ifCond .lt 15, 3) := by decide +kernel
theorem dX6_drawn_56 : decode cX6_drawn 56 = .ok (.aload_n 0, 1) := by decide +kernel
theorem dX6_drawn_57 : decode cX6_drawn 57 = .ok (.getfield 13, 3) := by decide +kernel
theorem dX6_drawn_60 : decode cX6_drawn 60 = .ok (.invokestatic 110, 3) := by decide +kernel
theorem dX6_drawn_63 : decode cX6_drawn 63 = .ok (.ifCond .ne 5, 3) := by decide +kernel
theorem dX6_drawn_66 : decode cX6_drawn 66 = .ok (.iload_n 1, 1) := by decide +kernel
theorem dX6_drawn_67 : decode cX6_drawn 67 = .ok (.ireturn, 1) := by decide +kernel
theorem dX6_drawn_68 : decode cX6_drawn 68 = .ok (.iinc 1 1, 3) := by decide +kernel
theorem dX6_drawn_71 : decode cX6_drawn 71 = .ok (.goto (-57), 3) := by decide +kernel
theorem dX6_drawn_74 : decode cX6_drawn 74 = .ok (.iconst (-1), 1) := by decide +kernel
theorem dX6_drawn_75 : decode cX6_drawn 75 = .ok (.ireturn, 1) := by decide +kernel
set_option maxRecDepth 20000 in
theorem ggX6_needed_X6_drawn : GoodIn wsX6_needed wsX6_drawn := goodIn_r _ [6, 7, 8, 9, 10, 5, 11, 12, 13, 14, 15, 16, 17, 18, 19, 20, 21, 22, 23, 24, 25, 26, 27, 28, 29, 30, 31, 32, 33, 34, 35, 36, 37, 38, 39, 40, 41, 42, 43, 44, 45, 46, 47, 48, 49, 50, 51, 52, 53, 54, 55, 56, 57, 58, 59, 60, 61, 62, 63, 64, 65, 66] (by decide +kernel) (by decide +kernel)
set_option maxRecDepth 20000 in
theorem gX6_needed_X6_drawn : GoodIn wsX6_needed (wsV RX6 196 RX6 yX6_drawn wsX6_drawn) := goodIn_app (goodIn_of _ (by decide +kernel)) ggX6_needed_X6_drawn
theorem dX6_needed_0 : decode cX6_needed 0 = .ok (.aload_n 0, 1) := by decide +kernel
theorem dX6_needed_1 : decode cX6_needed 1 = .ok (.iconst 0, 1) := by decide +kernel
theorem dX6_needed_2 : decode cX6_needed 2 = .ok (.putfield 25, 3) := by decide +kernel
theorem dX6_needed_5 : decode cX6_needed 5 = .ok (.aload_n 0, 1) := by decide +kernel
theorem dX6_needed_6 : decode cX6_needed 6 = .ok (.invokevirtual 196, 3) := by decide +kernel
theorem dX6_needed_9 : decode cX6_needed 9 = .ok (.ireturn, 1) := by decide +kernel
theorem dX6_worn_0 : decode cX6_worn 0 = .ok (.iconst 0, 1) := by decide +kernel
theorem dX6_worn_1 : decode cX6_worn 1 = .ok (.istore_n 1, 1) := by decide +kernel
theorem dX6_worn_2 : decode cX6_worn 2 = .ok (.iconst 0, 1) := by decide +kernel
theorem dX6_worn_3 : decode cX6_worn 3 = .ok (.istore_n 2, 1) := by decide +kernel
theorem dX6_worn_4 : decode cX6_worn 4 = .ok (.iload_n 2, 1) := by decide +kernel
theorem dX6_worn_5 : decode cX6_worn 5 = .ok (.bipush 20, 2) := by decide +kernel
theorem dX6_worn_7 : decode cX6_worn 7 = .ok (.if_icmp .ge 21, 3) := by decide +kernel
theorem dX6_worn_10 : decode cX6_worn 10 = .ok (.iload_n 1, 1) := by decide +kernel
theorem dX6_worn_11 : decode cX6_worn 11 = .ok (.aload_n 0, 1) := by decide +kernel
theorem dX6_worn_12 : decode cX6_worn 12 = .ok (.getfield 7, 3) := by decide +kernel
theorem dX6_worn_15 : decode cX6_worn 15 = .ok (.bipush 27, 2) := by decide +kernel
theorem dX6_worn_17 : decode cX6_worn 17 = .ok (.iload_n 2, 1) := by decide +kernel
theorem dX6_worn_18 : decode cX6_worn 18 = .ok (.iadd, 1) := by decide +kernel
theorem dX6_worn_19 : decode cX6_worn 19 = .ok (.iaload, 1) := by decide +kernel
theorem dX6_worn_20 : decode cX6_worn 20 = .ok (.iadd, 1) := by decide +kernel
theorem dX6_worn_21 : decode cX6_worn 21 = .ok (.istore_n 1, 1) := by decide +kernel
theorem dX6_worn_22 : decode cX6_worn 22 = .ok (.iinc 2 1, 3) := by decide +kernel
theorem dX6_worn_25 : decode cX6_worn 25 = .ok (.goto (-21), 3) := by decide +kernel
theorem dX6_worn_28 : decode cX6_worn 28 = .ok (.iload_n 1, 1) := by decide +kernel
theorem dX6_worn_29 : decode cX6_worn 29 = .ok (.i2f, 1) := by decide +kernel
theorem dX6_worn_30 : decode cX6_worn 30 = .ok (.fstore_n 2, 1) := by decide +kernel
theorem dX6_worn_31 : decode cX6_worn 31 = .ok (.fload_n 2, 1) := by decide +kernel
theorem dX6_worn_32 : decode cX6_worn 32 = .ok (.ldc 199, 2) := by decide +kernel
theorem dX6_worn_34 : decode cX6_worn 34 = .ok (.fdiv, 1) := by decide +kernel
theorem dX6_worn_35 : decode cX6_worn 35 = .ok (.freturn, 1) := by decide +kernel
set_option maxRecDepth 20000 in
theorem ggX6_wornShare_X6_worn : GoodIn wsX6_wornShare wsX6_worn := goodIn_r _ [6, 7, 8, 9, 10, 11, 12, 13, 14, 15, 16, 17, 18, 19, 20, 21, 22, 23, 24] (by decide +kernel) (by decide +kernel)
set_option maxRecDepth 20000 in
theorem gX6_wornShare_X6_worn : GoodIn wsX6_wornShare (wsV RX6 200 RX6 yX6_worn wsX6_worn) := goodIn_app (goodIn_of _ (by decide +kernel)) ggX6_wornShare_X6_worn
theorem dX6_wornShare_0 : decode cX6_wornShare 0 = .ok (.aload_n 0, 1) := by decide +kernel
theorem dX6_wornShare_1 : decode cX6_wornShare 1 = .ok (.iconst 0, 1) := by decide +kernel
theorem dX6_wornShare_2 : decode cX6_wornShare 2 = .ok (.putfield 25, 3) := by decide +kernel
theorem dX6_wornShare_5 : decode cX6_wornShare 5 = .ok (.aload_n 0, 1) := by decide +kernel
theorem dX6_wornShare_6 : decode cX6_wornShare 6 = .ok (.invokevirtual 200, 3) := by decide +kernel
theorem dX6_wornShare_9 : decode cX6_wornShare 9 = .ok (.freturn, 1) := by decide +kernel
theorem dX6_carried_0 : decode cX6_carried 0 = .ok (.aload_n 0, 1) := by decide +kernel
theorem dX6_carried_1 : decode cX6_carried 1 = .ok (.getfield 7, 3) := by decide +kernel
theorem dX6_carried_4 : decode cX6_carried 4 = .ok (.bipush 54, 2) := by decide +kernel
theorem dX6_carried_6 : decode cX6_carried 6 = .ok (.iaload, 1) := by decide +kernel
theorem dX6_carried_7 : decode cX6_carried 7 = .ok (.aload_n 0, 1) := by decide +kernel
theorem dX6_carried_8 : decode cX6_carried 8 = .ok (.getfield 7, 3) := by decide +kernel
theorem dX6_carried_11 : decode cX6_carried 11 = .ok (.bipush 55, 2) := by decide +kernel
theorem dX6_carried_13 : decode cX6_carried 13 = .ok (.iaload, 1) := by decide +kernel
theorem dX6_carried_14 : decode cX6_carried 14 = .ok (.iadd, 1) := by decide +kernel
theorem dX6_carried_15 : decode cX6_carried 15 = .ok (.istore_n 1, 1) := by decide +kernel
theorem dX6_carried_16 : decode cX6_carried 16 = .ok (.iload_n 1, 1) := by decide +kernel
theorem dX6_carried_17 : decode cX6_carried 17 = .ok (.ifCond .ne 7, 3) := by decide +kernel
theorem dX6_carried_20 : decode cX6_carried 20 = .ok (.dconst 1, 1) := by decide +kernel
theorem dX6_carried_21 : decode cX6_carried 21 = .ok (.goto 14, 3) := by decide +kernel
theorem dX6_carried_24 : decode cX6_carried 24 = .ok (.aload_n 0, 1) := by decide +kernel
theorem dX6_carried_25 : decode cX6_carried 25 = .ok (.getfield 7, 3) := by decide +kernel
theorem dX6_carried_28 : decode cX6_carried 28 = .ok (.bipush 54, 2) := by decide +kernel
theorem dX6_carried_30 : decode cX6_carried 30 = .ok (.iaload, 1) := by decide +kernel
theorem dX6_carried_31 : decode cX6_carried 31 = .ok (.i2d, 1) := by decide +kernel
theorem dX6_carried_32 : decode cX6_carried 32 = .ok (.iload_n 1, 1) := by decide +kernel
theorem dX6_carried_33 : decode cX6_carried 33 = .ok (.i2d, 1) := by decide +kernel
theorem dX6_carried_34 : decode cX6_carried 34 = .ok (.ddiv, 1) := by decide +kernel
theorem dX6_carried_35 : decode cX6_carried 35 = .ok (.dreturn, 1) := by decide +kernel
set_option maxRecDepth 20000 in
theorem ggX6_carriedShare_X6_carried : GoodIn wsX6_carriedShare wsX6_carried := goodIn_r _ [6, 7, 8, 9, 10, 11, 12, 13, 14, 15, 16, 17, 18, 19, 20, 21, 22, 23] (by decide +kernel) (by decide +kernel)
set_option maxRecDepth 20000 in
theorem gX6_carriedShare_X6_carried : GoodIn wsX6_carriedShare (wsV RX6 204 RX6 yX6_carried wsX6_carried) := goodIn_app (goodIn_of _ (by decide +kernel)) ggX6_carriedShare_X6_carried
theorem dX6_carriedShare_0 : decode cX6_carriedShare 0 = .ok (.aload_n 0, 1) := by decide +kernel
theorem dX6_carriedShare_1 : decode cX6_carriedShare 1 = .ok (.iconst 0, 1) := by decide +kernel
theorem dX6_carriedShare_2 : decode cX6_carriedShare 2 = .ok (.putfield 25, 3) := by decide +kernel
theorem dX6_carriedShare_5 : decode cX6_carriedShare 5 = .ok (.aload_n 0, 1) := by decide +kernel
theorem dX6_carriedShare_6 : decode cX6_carriedShare 6 = .ok (.invokevirtual 204, 3) := by decide +kernel
theorem dX6_carriedShare_9 : decode cX6_carriedShare 9 = .ok (.dreturn, 1) := by decide +kernel
theorem dX6_mixes_0 : decode cX6_mixes 0 = .ok (.aload_n 0, 1) := by decide +kernel
theorem dX6_mixes_1 : decode cX6_mixes 1 = .ok (.ldc2_w 208, 3) := by decide +kernel
theorem dX6_mixes_4 : decode cX6_mixes 4 = .ok (.aload_n 0, 1) := by decide +kernel
theorem dX6_mixes_5 : decode cX6_mixes 5 = .ok (.getfield 210, 3) := by decide +kernel
theorem dX6_mixes_8 : decode cX6_mixes 8 = .ok (.lmul, 1) := by decide +kernel
theorem dX6_mixes_9 : decode cX6_mixes 9 = .ok (.lload_n 1, 1) := by decide +kernel
theorem dX6_mixes_10 : decode cX6_mixes 10 = .ok (.ladd, 1) := by decide +kernel
theorem dX6_mixes_11 : decode cX6_mixes 11 = .ok (.putfield 210, 3) := by decide +kernel
theorem dX6_mixes_14 : decode cX6_mixes 14 = .ok (.return_, 1) := by decide +kernel
set_option maxRecDepth 20000 in
theorem ggX6_mixesWire_X6_mixes : GoodIn wsX6_mixesWire wsX6_mixes := goodIn_r _ [6, 7, 8, 37, 38, 39, 40, 41, 42, 43, 44, 45, 46, 47, 48, 49, 50, 51, 52] (by decide +kernel) (by decide +kernel)
set_option maxRecDepth 20000 in
theorem gX6_mixesWire_X6_mixes : GoodIn wsX6_mixesWire (wsV RX6 214 RX6 yX6_mixes wsX6_mixes) := goodIn_app (goodIn_of _ (by decide +kernel)) ggX6_mixesWire_X6_mixes
set_option maxRecDepth 20000 in
theorem ggX6_mixesWire_X6_ofSection : GoodIn wsX6_mixesWire wsX6_ofSection := goodIn_r _ [12, 1, 13, 14, 5, 15, 16, 17, 18, 19, 20, 21, 22, 23, 24, 25, 26, 27, 28, 29, 30, 31, 32, 33, 34, 35, 36, 37, 38, 39, 40, 41, 42, 43, 44, 45, 46, 47, 48, 49, 50, 51, 52] (by decide +kernel) (by decide +kernel)
set_option maxRecDepth 20000 in
theorem gX6_mixesWire_X6_ofSection : GoodIn wsX6_mixesWire (wsV RX6 165 RX6 yX6_ofSection wsX6_ofSection) := goodIn_app (goodIn_of _ (by decide +kernel)) ggX6_mixesWire_X6_ofSection
theorem dX6_mixesWire_0 : decode cX6_mixesWire 0 = .ok (.iconst 0, 1) := by decide +kernel
theorem dX6_mixesWire_1 : decode cX6_mixesWire 1 = .ok (.istore_n 1, 1) := by decide +kernel
theorem dX6_mixesWire_2 : decode cX6_mixesWire 2 = .ok (.iload_n 1, 1) := by decide +kernel
theorem dX6_mixesWire_3 : decode cX6_mixesWire 3 = .ok (.iconst 3, 1) := by decide +kernel
theorem dX6_mixesWire_4 : decode cX6_mixesWire 4 = .ok (.if_icmp .ge 20, 3) := by decide +kernel
theorem dX6_mixesWire_7 : decode cX6_mixesWire 7 = .ok (.aload_n 0, 1) := by decide +kernel
theorem dX6_mixesWire_8 : decode cX6_mixesWire 8 = .ok (.aload_n 0, 1) := by decide +kernel
theorem dX6_mixesWire_9 : decode cX6_mixesWire 9 = .ok (.getfield 7, 3) := by decide +kernel
theorem dX6_mixesWire_12 : decode cX6_mixesWire 12 = .ok (.iload_n 1, 1) := by decide +kernel
theorem dX6_mixesWire_13 : decode cX6_mixesWire 13 = .ok (.iaload, 1) := by decide +kernel
theorem dX6_mixesWire_14 : decode cX6_mixesWire 14 = .ok (.i2l, 1) := by decide +kernel
theorem dX6_mixesWire_15 : decode cX6_mixesWire 15 = .ok (.invokevirtual 214, 3) := by decide +kernel
theorem dX6_mixesWire_18 : decode cX6_mixesWire 18 = .ok (.iinc 1 1, 3) := by decide +kernel
theorem dX6_mixesWire_21 : decode cX6_mixesWire 21 = .ok (.goto (-19), 3) := by decide +kernel
theorem dX6_mixesWire_24 : decode cX6_mixesWire 24 = .ok (.iconst 0, 1) := by decide +kernel
theorem dX6_mixesWire_25 : decode cX6_mixesWire 25 = .ok (.istore_n 1, 1) := by decide +kernel
theorem dX6_mixesWire_26 : decode cX6_mixesWire 26 = .ok (.iload_n 1, 1) := by decide +kernel
theorem dX6_mixesWire_27 : decode cX6_mixesWire 27 = .ok (.bipush 24, 2) := by decide +kernel
theorem dX6_mixesWire_29 : decode cX6_mixesWire 29 = .ok (.if_icmp .ge 22, 3) := by decide +kernel
theorem dX6_mixesWire_32 : decode cX6_mixesWire 32 = .ok (.aload_n 0, 1) := by decide +kernel
theorem dX6_mixesWire_33 : decode cX6_mixesWire 33 = .ok (.aload_n 0, 1) := by decide +kernel
theorem dX6_mixesWire_34 : decode cX6_mixesWire 34 = .ok (.getfield 7, 3) := by decide +kernel
theorem dX6_mixesWire_37 : decode cX6_mixesWire 37 = .ok (.iconst 3, 1) := by decide +kernel
theorem dX6_mixesWire_38 : decode cX6_mixesWire 38 = .ok (.iload_n 1, 1) := by decide +kernel
theorem dX6_mixesWire_39 : decode cX6_mixesWire 39 = .ok (.iadd, 1) := by decide +kernel
theorem dX6_mixesWire_40 : decode cX6_mixesWire 40 = .ok (.iaload, 1) := by decide +kernel
theorem dX6_mixesWire_41 : decode cX6_mixesWire 41 = .ok (.i2l, 1) := by decide +kernel
theorem dX6_mixesWire_42 : decode cX6_mixesWire 42 = .ok (.invokevirtual 214, 3) := by decide +kernel
theorem dX6_mixesWire_45 : decode cX6_mixesWire 45 = .ok (.iinc 1 1, 3) := by decide +kernel
theorem dX6_mixesWire_48 : decode cX6_mixesWire 48 = .ok (.goto (-22), 3) := by decide +kernel
theorem dX6_mixesWire_51 : decode cX6_mixesWire 51 = .ok (.iconst 0, 1) := by decide +kernel
theorem dX6_mixesWire_52 : decode cX6_mixesWire 52 = .ok (.istore_n 1, 1) := by decide +kernel
theorem dX6_mixesWire_53 : decode cX6_mixesWire 53 = .ok (.iload_n 1, 1) := by decide +kernel
theorem dX6_mixesWire_54 : decode cX6_mixesWire 54 = .ok (.bipush 60, 2) := by decide +kernel
theorem dX6_mixesWire_56 : decode cX6_mixesWire 56 = .ok (.if_icmp .ge 24, 3) := by decide +kernel
theorem dX6_mixesWire_59 : decode cX6_mixesWire 59 = .ok (.aload_n 0, 1) := by decide +kernel
theorem dX6_mixesWire_60 : decode cX6_mixesWire 60 = .ok (.aload_n 0, 1) := by decide +kernel
theorem dX6_mixesWire_61 : decode cX6_mixesWire 61 = .ok (.iload_n 1, 1) := by decide +kernel
theorem dX6_mixesWire_62 : decode cX6_mixesWire 62 = .ok (.iconst 3, 1) := by decide +kernel
theorem dX6_mixesWire_63 : decode cX6_mixesWire 63 = .ok (.idiv, 1) := by decide +kernel
theorem dX6_mixesWire_64 : decode cX6_mixesWire 64 = .ok (.iload_n 1, 1) := by decide +kernel
theorem dX6_mixesWire_65 : decode cX6_mixesWire 65 = .ok (.iconst 3, 1) := by decide +kernel
theorem dX6_mixesWire_66 : decode cX6_mixesWire 66 = .ok (.irem, 1) := by decide +kernel
theorem dX6_mixesWire_67 : decode cX6_mixesWire 67 = .ok (.invokevirtual 165, 3) := by decide +kernel
theorem dX6_mixesWire_70 : decode cX6_mixesWire 70 = .ok (.i2l, 1) := by decide +kernel
theorem dX6_mixesWire_71 : decode cX6_mixesWire 71 = .ok (.invokevirtual 214, 3) := by decide +kernel
theorem dX6_mixesWire_74 : decode cX6_mixesWire 74 = .ok (.iinc 1 1, 3) := by decide +kernel
theorem dX6_mixesWire_77 : decode cX6_mixesWire 77 = .ok (.goto (-24), 3) := by decide +kernel
theorem dX6_mixesWire_80 : decode cX6_mixesWire 80 = .ok (.return_, 1) := by decide +kernel
set_option maxRecDepth 20000 in
theorem ggX6_mixesVehicles_X6_waitingAt : GoodIn wsX6_mixesVehicles wsX6_waitingAt := goodIn_r _ [5] (by decide +kernel) (by decide +kernel)
set_option maxRecDepth 20000 in
theorem gX6_mixesVehicles_X6_waitingAt : GoodIn wsX6_mixesVehicles (va_wsS RX6 51 yX6_waitingAt wsX6_waitingAt) := goodIn_app (goodIn_of _ (by decide +kernel)) ggX6_mixesVehicles_X6_waitingAt
set_option maxRecDepth 20000 in
theorem ggX6_mixesVehicles_X6_mixes : GoodIn wsX6_mixesVehicles wsX6_mixes := goodIn_r _ [9, 10, 11, 21, 22, 23, 24, 25, 26, 27, 28, 29, 30, 31, 32, 33, 34, 35, 36] (by decide +kernel) (by decide +kernel)
set_option maxRecDepth 20000 in
theorem gX6_mixesVehicles_X6_mixes : GoodIn wsX6_mixesVehicles (wsV RX6 214 RX6 yX6_mixes wsX6_mixes) := goodIn_app (goodIn_of _ (by decide +kernel)) ggX6_mixesVehicles_X6_mixes
set_option maxRecDepth 20000 in
theorem ggX6_mixesVehicles_X6_weightOf : GoodIn wsX6_mixesVehicles wsX6_weightOf := goodIn_r _ [14] (by decide +kernel) (by decide +kernel)
set_option maxRecDepth 20000 in
theorem gX6_mixesVehicles_X6_weightOf : GoodIn wsX6_mixesVehicles (va_wsS RX6 168 yX6_weightOf wsX6_weightOf) := goodIn_app (goodIn_of _ (by decide +kernel)) ggX6_mixesVehicles_X6_weightOf
set_option maxRecDepth 20000 in
theorem ggX6_mixesVehicles_X6_onLane : GoodIn wsX6_mixesVehicles wsX6_onLane := goodIn_r _ [17] (by decide +kernel) (by decide +kernel)
set_option maxRecDepth 20000 in
theorem gX6_mixesVehicles_X6_onLane : GoodIn wsX6_mixesVehicles (va_wsS RX6 36 yX6_onLane wsX6_onLane) := goodIn_app (goodIn_of _ (by decide +kernel)) ggX6_mixesVehicles_X6_onLane
set_option maxRecDepth 20000 in
theorem ggX6_mixesVehicles_X6_ofDeck : GoodIn wsX6_mixesVehicles wsX6_ofDeck := goodIn_r _ [20] (by decide +kernel) (by decide +kernel)
set_option maxRecDepth 20000 in
theorem gX6_mixesVehicles_X6_ofDeck : GoodIn wsX6_mixesVehicles (va_wsS RX6 40 yX6_ofDeck wsX6_ofDeck) := goodIn_app (goodIn_of _ (by decide +kernel)) ggX6_mixesVehicles_X6_ofDeck
theorem dX6_mixesVehicles_0 : decode cX6_mixesVehicles 0 = .ok (.iconst 0, 1) := by decide +kernel
theorem dX6_mixesVehicles_1 : decode cX6_mixesVehicles 1 = .ok (.istore_n 1, 1) := by decide +kernel
theorem dX6_mixesVehicles_2 : decode cX6_mixesVehicles 2 = .ok (.iload_n 1, 1) := by decide +kernel
theorem dX6_mixesVehicles_3 : decode cX6_mixesVehicles 3 = .ok (.iconst 2, 1) := by decide +kernel
theorem dX6_mixesVehicles_4 : decode cX6_mixesVehicles 4 = .ok (.if_icmp .ge 56, 3) := by decide +kernel
theorem dX6_mixesVehicles_7 : decode cX6_mixesVehicles 7 = .ok (.aload_n 0, 1) := by decide +kernel
theorem dX6_mixesVehicles_8 : decode cX6_mixesVehicles 8 = .ok (.aload_n 0, 1) := by decide +kernel
theorem dX6_mixesVehicles_9 : decode cX6_mixesVehicles 9 = .ok (.getfield 7, 3) := by decide +kernel
theorem dX6_mixesVehicles_12 : decode cX6_mixesVehicles 12 = .ok (.iload_n 1, 1) := by decide +kernel
theorem dX6_mixesVehicles_13 : decode cX6_mixesVehicles 13 = .ok (.invokestatic 51, 3) := by decide +kernel
theorem dX6_mixesVehicles_16 : decode cX6_mixesVehicles 16 = .ok (.i2l, 1) := by decide +kernel
theorem dX6_mixesVehicles_17 : decode cX6_mixesVehicles 17 = .ok (.invokevirtual 214, 3) := by decide +kernel
theorem dX6_mixesVehicles_20 : decode cX6_mixesVehicles 20 = .ok (.iconst 0, 1) := by decide +kernel
theorem dX6_mixesVehicles_21 : decode cX6_mixesVehicles 21 = .ok (.istore_n 2, 1) := by decide +kernel
theorem dX6_mixesVehicles_22 : decode cX6_mixesVehicles 22 = .ok (.iload_n 2, 1) := by decide +kernel
theorem dX6_mixesVehicles_23 : decode cX6_mixesVehicles 23 = .ok (.aload_n 0, 1) := by decide +kernel
theorem dX6_mixesVehicles_24 : decode cX6_mixesVehicles 24 = .ok (.getfield 7, 3) := by decide +kernel
theorem dX6_mixesVehicles_27 : decode cX6_mixesVehicles 27 = .ok (.iload_n 1, 1) := by decide +kernel
theorem dX6_mixesVehicles_28 : decode cX6_mixesVehicles 28 = .ok (.invokestatic 51, 3) := by decide +kernel
theorem dX6_mixesVehicles_31 : decode cX6_mixesVehicles 31 = .ok (.if_icmp .ge 23, 3) := by decide +kernel
theorem dX6_mixesVehicles_34 : decode cX6_mixesVehicles 34 = .ok (.aload_n 0, 1) := by decide +kernel
theorem dX6_mixesVehicles_35 : decode cX6_mixesVehicles 35 = .ok (.aload_n 0, 1) := by decide +kernel
theorem dX6_mixesVehicles_36 : decode cX6_mixesVehicles 36 = .ok (.getfield 7, 3) := by decide +kernel
theorem dX6_mixesVehicles_39 : decode cX6_mixesVehicles 39 = .ok (.iload_n 1, 1) := by decide +kernel
theorem dX6_mixesVehicles_40 : decode cX6_mixesVehicles 40 = .ok (.iload_n 2, 1) := by decide +kernel
theorem dX6_mixesVehicles_41 : decode cX6_mixesVehicles 41 = .ok (.invokestatic 168, 3) := by decide +kernel
theorem dX6_mixesVehicles_44 : decode cX6_mixesVehicles 44 = .ok (.i2l, 1) := by decide +kernel
theorem dX6_mixesVehicles_45 : decode cX6_mixesVehicles 45 = .ok (.invokevirtual 214, 3) := by decide +kernel
theorem dX6_mixesVehicles_48 : decode cX6_mixesVehicles 48 = .ok (.iinc 2 1, 3) := by decide +kernel
theorem dX6_mixesVehicles_51 : decode cX6_mixesVehicles 51 = .ok (.goto (-29), 3) := by decide +kernel
theorem dX6_mixesVehicles_54 : decode cX6_mixesVehicles 54 = .ok (.iinc 1 1, 3) := by decide +kernel
theorem dX6_mixesVehicles_57 : decode cX6_mixesVehicles 57 = .ok (.goto (-55), 3) := by decide +kernel
theorem dX6_mixesVehicles_60 : decode cX6_mixesVehicles 60 = .ok (.iconst 0, 1) := by decide +kernel
theorem dX6_mixesVehicles_61 : decode cX6_mixesVehicles 61 = .ok (.istore_n 1, 1) := by decide +kernel
theorem dX6_mixesVehicles_62 : decode cX6_mixesVehicles 62 = .ok (.iload_n 1, 1) := by decide +kernel
theorem dX6_mixesVehicles_63 : decode cX6_mixesVehicles 63 = .ok (.iconst 2, 1) := by decide +kernel
theorem dX6_mixesVehicles_64 : decode cX6_mixesVehicles 64 = .ok (.if_icmp .ge 63, 3) := by decide +kernel
theorem dX6_mixesVehicles_67 : decode cX6_mixesVehicles 67 = .ok (.aload_n 0, 1) := by decide +kernel
theorem dX6_mixesVehicles_68 : decode cX6_mixesVehicles 68 = .ok (.aload_n 0, 1) := by decide +kernel
theorem dX6_mixesVehicles_69 : decode cX6_mixesVehicles 69 = .ok (.getfield 7, 3) := by decide +kernel
theorem dX6_mixesVehicles_72 : decode cX6_mixesVehicles 72 = .ok (.iload_n 1, 1) := by decide +kernel
theorem dX6_mixesVehicles_73 : decode cX6_mixesVehicles 73 = .ok (.invokestatic 36, 3) := by decide +kernel
theorem dX6_mixesVehicles_76 : decode cX6_mixesVehicles 76 = .ok (.i2l, 1) := by decide +kernel
theorem dX6_mixesVehicles_77 : decode cX6_mixesVehicles 77 = .ok (.invokevirtual 214, 3) := by decide +kernel
theorem dX6_mixesVehicles_80 : decode cX6_mixesVehicles 80 = .ok (.iconst 0, 1) := by decide +kernel
theorem dX6_mixesVehicles_81 : decode cX6_mixesVehicles 81 = .ok (.istore_n 2, 1) := by decide +kernel
theorem dX6_mixesVehicles_82 : decode cX6_mixesVehicles 82 = .ok (.iload_n 2, 1) := by decide +kernel
theorem dX6_mixesVehicles_83 : decode cX6_mixesVehicles 83 = .ok (.iconst 2, 1) := by decide +kernel
theorem dX6_mixesVehicles_84 : decode cX6_mixesVehicles 84 = .ok (.aload_n 0, 1) := by decide +kernel
theorem dX6_mixesVehicles_85 : decode cX6_mixesVehicles 85 = .ok (.getfield 7, 3) := by decide +kernel
theorem dX6_mixesVehicles_88 : decode cX6_mixesVehicles 88 = .ok (.iload_n 1, 1) := by decide +kernel
theorem dX6_mixesVehicles_89 : decode cX6_mixesVehicles 89 = .ok (.invokestatic 36, 3) := by decide +kernel
theorem dX6_mixesVehicles_92 : decode cX6_mixesVehicles 92 = .ok (.imul, 1) := by decide +kernel
theorem dX6_mixesVehicles_93 : decode cX6_mixesVehicles 93 = .ok (.if_icmp .ge 28, 3) := by decide +kernel
theorem dX6_mixesVehicles_96 : decode cX6_mixesVehicles 96 = .ok (.aload_n 0, 1) := by decide +kernel
theorem dX6_mixesVehicles_97 : decode cX6_mixesVehicles 97 = .ok (.aload_n 0, 1) := by decide +kernel
theorem dX6_mixesVehicles_98 : decode cX6_mixesVehicles 98 = .ok (.getfield 7, 3) := by decide +kernel
theorem dX6_mixesVehicles_101 : decode cX6_mixesVehicles 101 = .ok (.iload_n 1, 1) := by decide +kernel
theorem dX6_mixesVehicles_102 : decode cX6_mixesVehicles 102 = .ok (.iload_n 2, 1) := by decide +kernel
theorem dX6_mixesVehicles_103 : decode cX6_mixesVehicles 103 = .ok (.iconst 2, 1) := by decide +kernel
theorem dX6_mixesVehicles_104 : decode cX6_mixesVehicles 104 = .ok (.idiv, 1) := by decide +kernel
theorem dX6_mixesVehicles_105 : decode cX6_mixesVehicles 105 = .ok (.iload_n 2, 1) := by decide +kernel
theorem dX6_mixesVehicles_106 : decode cX6_mixesVehicles 106 = .ok (.iconst 2, 1) := by decide +kernel
theorem dX6_mixesVehicles_107 : decode cX6_mixesVehicles 107 = .ok (.irem, 1) := by decide +kernel
theorem dX6_mixesVehicles_108 : decode cX6_mixesVehicles 108 = .ok (.invokestatic 40, 3) := by decide +kernel
theorem dX6_mixesVehicles_111 : decode cX6_mixesVehicles 111 = .ok (.i2l, 1) := by decide +kernel
theorem dX6_mixesVehicles_112 : decode cX6_mixesVehicles 112 = .ok (.invokevirtual 214, 3) := by decide +kernel
theorem dX6_mixesVehicles_115 : decode cX6_mixesVehicles 115 = .ok (.iinc 2 1, 3) := by decide +kernel
theorem dX6_mixesVehicles_118 : decode cX6_mixesVehicles 118 = .ok (.goto (-36), 3) := by decide +kernel
theorem dX6_mixesVehicles_121 : decode cX6_mixesVehicles 121 = .ok (.iinc 1 1, 3) := by decide +kernel
theorem dX6_mixesVehicles_124 : decode cX6_mixesVehicles 124 = .ok (.goto (-62), 3) := by decide +kernel
theorem dX6_mixesVehicles_127 : decode cX6_mixesVehicles 127 = .ok (.return_, 1) := by decide +kernel
set_option maxRecDepth 20000 in
theorem ggX6_digest_X6_counted : GoodIn wsX6_digest wsX6_counted := goodIn_r _ [12, 4, 13, 14, 15, 11, 16, 17, 18, 19, 20, 21, 22, 23, 24, 25, 26, 27, 28, 151, 152, 153, 154, 155, 156, 157, 158, 159, 160, 161, 162, 163, 164, 165, 166] (by decide +kernel) (by decide +kernel)
set_option maxRecDepth 20000 in
theorem gX6_digest_X6_counted : GoodIn wsX6_digest (wsV RX6 172 RX6 yX6_counted wsX6_counted) := goodIn_app (goodIn_of _ (by decide +kernel)) ggX6_digest_X6_counted
set_option maxRecDepth 20000 in
theorem ggX6_digest_X6_mixes : GoodIn wsX6_digest wsX6_mixes := goodIn_r _ [32, 33, 3, 151, 152, 153, 154, 155, 156, 157, 158, 159, 160, 161, 162, 163, 164, 165, 166] (by decide +kernel) (by decide +kernel)
set_option maxRecDepth 20000 in
theorem gX6_digest_X6_mixes : GoodIn wsX6_digest (wsV RX6 214 RX6 yX6_mixes wsX6_mixes) := goodIn_app (goodIn_of _ (by decide +kernel)) ggX6_digest_X6_mixes
set_option maxRecDepth 20000 in
theorem ggX6_digest_X6_mixesWire : GoodIn wsX6_digest wsX6_mixesWire := goodIn_r _ [37, 4, 29, 30, 31, 11, 32, 33, 3, 38, 39, 40, 41, 42, 43, 44, 45, 46, 47, 23, 24, 25, 17, 18, 19, 14, 15, 16, 20, 21, 22, 26, 27, 28, 48, 49, 50, 151, 152, 153, 154, 155, 156, 157, 158, 159, 160, 161, 162, 163, 164, 165, 166] (by decide +kernel) (by decide +kernel)
set_option maxRecDepth 20000 in
theorem gX6_digest_X6_mixesWire : GoodIn wsX6_digest (wsV RX6 220 RX6 yX6_mixesWire wsX6_mixesWire) := goodIn_app (goodIn_of _ (by decide +kernel)) ggX6_digest_X6_mixesWire
set_option maxRecDepth 20000 in
theorem ggX6_digest_X6_mixesVehicles : GoodIn wsX6_digest wsX6_mixesVehicles := goodIn_r _ [54, 4, 55, 56, 11, 57, 29, 30, 31, 32, 33, 3, 58, 59, 60, 14, 15, 16, 20, 21, 22, 151, 152, 153, 154, 155, 156, 157, 158, 159, 160, 161, 162, 163, 164, 165, 166] (by decide +kernel) (by decide +kernel)
set_option maxRecDepth 20000 in
theorem gX6_digest_X6_mixesVehicles : GoodIn wsX6_digest (wsV RX6 223 RX6 yX6_mixesVehicles wsX6_mixesVehicles) := goodIn_app (goodIn_of _ (by decide +kernel)) ggX6_digest_X6_mixesVehicles
set_option maxRecDepth 20000 in
theorem ggX6_digest_X6_reason : GoodIn wsX6_digest wsX6_reason := goodIn_r _ [63, 23, 24, 11, 25, 17, 18, 19, 14, 15, 16, 20, 21, 22, 26, 27, 28, 64, 65, 66, 45, 46, 47, 48, 49, 50, 42, 43, 44] (by decide +kernel) (by decide +kernel)
set_option maxRecDepth 20000 in
theorem gX6_digest_X6_reason : GoodIn wsX6_digest (va_wsS RX6 110 yX6_reason wsX6_reason) := goodIn_app (goodIn_of _ (by decide +kernel)) ggX6_digest_X6_reason
set_option maxRecDepth 20000 in
theorem ggX6_digest_X6_weakestOne : GoodIn wsX6_digest wsX6_weakestOne := goodIn_r _ [70, 4, 42, 43, 11, 44, 45, 46, 47, 23, 24, 25, 17, 18, 19, 14, 15, 16, 20, 21, 22, 26, 27, 28, 48, 49, 50, 151, 152, 153, 154, 155, 156, 157, 158, 159, 160, 161, 162, 163, 164, 165, 166] (by decide +kernel) (by decide +kernel)
set_option maxRecDepth 20000 in
theorem gX6_digest_X6_weakestOne : GoodIn wsX6_digest (wsV RX6 175 RX6 yX6_weakestOne wsX6_weakestOne) := goodIn_app (goodIn_of _ (by decide +kernel)) ggX6_digest_X6_weakestOne
set_option maxRecDepth 20000 in
theorem ggX6_digest_X6_withLoad : GoodIn wsX6_digest wsX6_withLoad := goodIn_r _ [74, 4, 75, 76, 77, 11, 78, 55, 56, 57, 14, 15, 16, 58, 59, 60, 17, 18, 19, 20, 21, 22, 8, 9, 10, 12, 13, 23, 24, 25, 26, 27, 28, 79, 80, 81, 48, 49, 50, 151, 152, 153, 154, 155, 156, 157, 158, 159, 160, 161, 162, 163, 164, 165, 166] (by decide +kernel) (by decide +kernel)
set_option maxRecDepth 20000 in
theorem gX6_digest_X6_withLoad : GoodIn wsX6_digest (wsV RX6 181 RX6 yX6_withLoad wsX6_withLoad) := goodIn_app (goodIn_of _ (by decide +kernel)) ggX6_digest_X6_withLoad
set_option maxRecDepth 20000 in
theorem ggX6_digest_X6_best : GoodIn wsX6_digest wsX6_best := goodIn_r _ [85, 4, 23, 24, 11, 25, 17, 18, 19, 14, 15, 16, 20, 21, 22, 26, 27, 28, 8, 9, 10, 12, 13, 79, 80, 81, 48, 49, 50, 151, 152, 153, 154, 155, 156, 157, 158, 159, 160, 161, 162, 163, 164, 165, 166] (by decide +kernel) (by decide +kernel)
set_option maxRecDepth 20000 in
theorem gX6_digest_X6_best : GoodIn wsX6_digest (wsV RX6 184 RX6 yX6_best wsX6_best) := goodIn_app (goodIn_of _ (by decide +kernel)) ggX6_digest_X6_best
