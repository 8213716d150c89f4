theorem dX8_breaks_123 : decode cX8_breaks 123 = .ok (.ireturn, 1) := by decide +kernel
set_option maxRecDepth 20000 in
theorem ggX8_breakOut_X8_begins : GoodIn wsX8_breakOut wsX8_begins := goodIn_ca (goodIn_r _ [5, 6, 7, 8, 9, 10, 4, 11, 39, 40, 41, 42, 43, 44, 45, 46, 47, 48, 49, 50, 51, 52, 53, 54, 55, 56, 57, 58, 59, 60] (by decide +kernel) (by decide +kernel)) (goodIn_sub (fun _ h => List.mem_cons_of_mem _ (List.mem_append_right _ h)) (by decide +kernel))
set_option maxRecDepth 20000 in
theorem gX8_breakOut_X8_begins : GoodIn wsX8_breakOut (wsV RX8 96 RX8 yX8_begins wsX8_begins) := goodIn_app (goodIn_of _ (by decide +kernel)) ggX8_breakOut_X8_begins
set_option maxRecDepth 20000 in
theorem ggX8_breakOut_X8_breaks : GoodIn wsX8_breakOut wsX8_breaks := goodIn_ca (goodIn_r _ [15, 8, 16, 17, 18, 4, 19, 20, 21, 22, 23, 24, 25, 26, 6, 27, 28, 29, 30, 31, 32, 39, 40, 41, 42, 43, 44, 45, 46, 47, 48, 49, 50, 51, 52, 53, 54, 55, 56, 57, 58, 59, 60] (by decide +kernel) (by decide +kernel)) (goodIn_sub (fun _ h => List.mem_cons_of_mem _ (List.mem_append_right _ h)) (by decide +kernel))
set_option maxRecDepth 20000 in
theorem gX8_breakOut_X8_breaks : GoodIn wsX8_breakOut (wsV RX8 149 RX8 yX8_breaks wsX8_breaks) := goodIn_app (goodIn_of _ (by decide +kernel)) ggX8_breakOut_X8_breaks
set_option maxRecDepth 20000 in
theorem ggX8_breakOut_X8_ends : GoodIn wsX8_breakOut wsX8_ends := goodIn_ca (goodIn_r _ [36, 6, 8, 7, 37, 38, 9, 10, 4, 11, 39, 40, 41, 42, 43, 44, 45, 46, 47, 48, 49, 50, 51, 52, 53, 54, 55, 56, 57, 58, 59, 60] (by decide +kernel) (by decide +kernel)) (goodIn_sub (fun _ h => List.mem_cons_of_mem _ (List.mem_append_right _ h)) (by decide +kernel))
set_option maxRecDepth 20000 in
theorem gX8_breakOut_X8_ends : GoodIn wsX8_breakOut (wsV RX8 106 RX8 yX8_ends wsX8_ends) := goodIn_app (goodIn_of _ (by decide +kernel)) ggX8_breakOut_X8_ends
theorem dX8_breakOut_0 : decode cX8_breakOut 0 = .ok (.aload_n 0, 1) := by decide +kernel
theorem dX8_breakOut_1 : decode cX8_breakOut 1 = .ok (.invokevirtual 96, 3) := by decide +kernel
theorem dX8_breakOut_4 : decode cX8_breakOut 4 = .ok (.aload_n 0, 1) := by decide +kernel
theorem dX8_breakOut_5 : decode cX8_breakOut 5 = .ok (.aload_n 0, 1) := by decide +kernel
theorem dX8_breakOut_6 : decode cX8_breakOut 6 = .ok (.iload_n 1, 1) := by decide +kernel
theorem dX8_breakOut_7 : decode cX8_breakOut 7 = .ok (.invokevirtual 149, 3) := by decide +kernel
theorem dX8_breakOut_10 : decode cX8_breakOut 10 = .ok (.invokevirtual 106, 3) := by decide +kernel
theorem dX8_breakOut_13 : decode cX8_breakOut 13 = .ok (.ireturn, 1) := by decide +kernel
set_option maxRecDepth 20000 in
theorem ggX8_melts_X8_isIngot : GoodIn wsX8_melts wsX8_isIngot := goodIn_ca (goodIn_r _ [7, 2, 8, 9, 6, 10, 41, 42, 43, 44, 45, 46, 47, 48, 49, 50, 51, 52, 53, 54, 55, 56, 57, 58, 59, 60, 61, 62] (by decide +kernel) (by decide +kernel)) (goodIn_sub (fun _ h => List.mem_cons_of_mem _ (List.mem_append_left _ (List.mem_append_right _ h))) (by decide +kernel))
set_option maxRecDepth 20000 in
theorem gX8_melts_X8_isIngot : GoodIn wsX8_melts (wsV RX8 152 RX8 yX8_isIngot wsX8_isIngot) := goodIn_app (goodIn_of _ (by decide +kernel)) ggX8_melts_X8_isIngot
set_option maxRecDepth 20000 in
theorem ggX8_melts_X8_isThree : GoodIn wsX8_melts wsX8_isThree := goodIn_r _ [13, 8, 9, 6, 10] (by decide +kernel) (by decide +kernel)
set_option maxRecDepth 20000 in
theorem gX8_melts_X8_isThree : GoodIn wsX8_melts (va_wsS RX8 85 yX8_isThree wsX8_isThree) := goodIn_app (goodIn_of _ (by decide +kernel)) ggX8_melts_X8_isThree
set_option maxRecDepth 20000 in
theorem ggX8_melts_X8_fail : GoodIn wsX8_melts wsX8_fail := goodIn_r _ [17, 18, 41, 42, 43, 44, 45, 46, 47, 48, 49, 50, 51, 52, 53, 54, 55, 56, 57, 58, 59, 60, 61, 62] (by decide +kernel) (by decide +kernel)
set_option maxRecDepth 20000 in
theorem gX8_melts_X8_fail : GoodIn wsX8_melts (wsV RX8 89 RX8 yX8_fail wsX8_fail) := goodIn_app (goodIn_of _ (by decide +kernel)) ggX8_melts_X8_fail
set_option maxRecDepth 20000 in
theorem ggX8_melts_X8_furnace : GoodIn wsX8_melts wsX8_furnace := goodIn_r _ [21] (by decide +kernel) (by decide +kernel)
set_option maxRecDepth 20000 in
theorem gX8_melts_X8_furnace : GoodIn wsX8_melts (va_wsS RX8 50 yX8_furnace wsX8_furnace) := goodIn_app (goodIn_of _ (by decide +kernel)) ggX8_melts_X8_furnace
set_option maxRecDepth 20000 in
theorem ggX8_melts_X8_mass : GoodIn wsX8_melts wsX8_mass := goodIn_ca (goodIn_r _ [25, 2, 41, 42, 43, 44, 45, 46, 47, 48, 49, 50, 51, 52, 53, 54, 55, 56, 57, 58, 59, 60, 61, 62] (by decide +kernel) (by decide +kernel)) (goodIn_sub (fun _ h => List.mem_cons_of_mem _ (List.mem_append_left _ (List.mem_append_right _ h))) (by decide +kernel))
set_option maxRecDepth 20000 in
theorem gX8_melts_X8_mass : GoodIn wsX8_melts (wsV RX8 71 RX8 yX8_mass wsX8_mass) := goodIn_app (goodIn_of _ (by decide +kernel)) ggX8_melts_X8_mass
set_option maxRecDepth 20000 in
theorem ggX8_melts_X8_ingot : GoodIn wsX8_melts wsX8_ingot := goodIn_r _ [28] (by decide +kernel) (by decide +kernel)
set_option maxRecDepth 20000 in
theorem gX8_melts_X8_ingot : GoodIn wsX8_melts (va_wsS RX8 146 yX8_ingot wsX8_ingot) := goodIn_app (goodIn_of _ (by decide +kernel)) ggX8_melts_X8_ingot
set_option maxRecDepth 20000 in
theorem ggX8_melts_X8_feeds : GoodIn wsX8_melts wsX8_feeds := goodIn_ca (goodIn_ca (goodIn_r _ [32, 2, 19, 20, 6, 21, 22, 23, 24, 25, 33, 34, 35, 36, 1, 37, 38, 39, 40, 41, 42, 43, 44, 45, 46, 47, 48, 49, 50, 51, 52, 53, 54, 55, 56, 57, 58, 59, 60, 61, 62] (by decide +kernel) (by decide +kernel)) (goodIn_sub (fun _ h => List.mem_cons_of_mem _ (List.mem_append_left _ (List.mem_append_right _ h))) (by decide +kernel))) (goodIn_sub (fun _ h => List.mem_cons_of_mem _ (List.mem_append_right _ h)) (by decide +kernel))
set_option maxRecDepth 20000 in
theorem gX8_melts_X8_feeds : GoodIn wsX8_melts (wsV RX8 92 RX8 yX8_feeds wsX8_feeds) := goodIn_app (goodIn_of _ (by decide +kernel)) ggX8_melts_X8_feeds
theorem dX8_melts_0 : decode cX8_melts 0 = .ok (.aload_n 0, 1) := by decide +kernel
theorem dX8_melts_1 : decode cX8_melts 1 = .ok (.iload_n 1, 1) := by decide +kernel
theorem dX8_melts_2 : decode cX8_melts 2 = .ok (.invokevirtual 152, 3) := by decide +kernel
theorem dX8_melts_5 : decode cX8_melts 5 = .ok (.ifCond .eq 10, 3) := by decide +kernel
theorem dX8_melts_8 : decode cX8_melts 8 = .ok (.iload_n 2, 1) := by decide +kernel
theorem dX8_melts_9 : decode cX8_melts 9 = .ok (.invokestatic 85, 3) := by decide +kernel
theorem dX8_melts_12 : decode cX8_melts 12 = .ok (.ifCond .ne 9, 3) := by decide +kernel
theorem dX8_melts_15 : decode cX8_melts 15 = .ok (.aload_n 0, 1) := by decide +kernel
theorem dX8_melts_16 : decode cX8_melts 16 = .ok (.iconst 1, 1) := by decide +kernel
theorem dX8_melts_17 : decode cX8_melts 17 = .ok (.invokevirtual 89, 3) := by decide +kernel
theorem dX8_melts_20 : decode cX8_melts 20 = .ok (.ireturn, 1) := by decide +kernel
theorem dX8_melts_21 : decode cX8_melts 21 = .ok (.aload_n 0, 1) := by decide +kernel
theorem dX8_melts_22 : decode cX8_melts 22 = .ok (.iload_n 2, 1) := by decide +kernel
theorem dX8_melts_23 : decode cX8_melts 23 = .ok (.invokestatic 50, 3) := by decide +kernel
theorem dX8_melts_26 : decode cX8_melts 26 = .ok (.invokevirtual 71, 3) := by decide +kernel
theorem dX8_melts_29 : decode cX8_melts 29 = .ok (.aload_n 0, 1) := by decide +kernel
theorem dX8_melts_30 : decode cX8_melts 30 = .ok (.iload_n 1, 1) := by decide +kernel
theorem dX8_melts_31 : decode cX8_melts 31 = .ok (.invokestatic 146, 3) := by decide +kernel
theorem dX8_melts_34 : decode cX8_melts 34 = .ok (.invokevirtual 71, 3) := by decide +kernel
theorem dX8_melts_37 : decode cX8_melts 37 = .ok (.iadd, 1) := by decide +kernel
theorem dX8_melts_38 : decode cX8_melts 38 = .ok (.bipush 100, 2) := by decide +kernel
theorem dX8_melts_40 : decode cX8_melts 40 = .ok (.if_icmp .le 9, 3) := by decide +kernel
theorem dX8_melts_43 : decode cX8_melts 43 = .ok (.aload_n 0, 1) := by decide +kernel
theorem dX8_melts_44 : decode cX8_melts 44 = .ok (.iconst 2, 1) := by decide +kernel
theorem dX8_melts_45 : decode cX8_melts 45 = .ok (.invokevirtual 89, 3) := by decide +kernel
theorem dX8_melts_48 : decode cX8_melts 48 = .ok (.ireturn, 1) := by decide +kernel
theorem dX8_melts_49 : decode cX8_melts 49 = .ok (.iconst 0, 1) := by decide +kernel
theorem dX8_melts_50 : decode cX8_melts 50 = .ok (.istore_n 3, 1) := by decide +kernel
theorem dX8_melts_51 : decode cX8_melts 51 = .ok (.iload_n 3, 1) := by decide +kernel
theorem dX8_melts_52 : decode cX8_melts 52 = .ok (.iconst 4, 1) := by decide +kernel
theorem dX8_melts_53 : decode cX8_melts 53 = .ok (.if_icmp .ge 26, 3) := by decide +kernel
theorem dX8_melts_56 : decode cX8_melts 56 = .ok (.aload_n 0, 1) := by decide +kernel
theorem dX8_melts_57 : decode cX8_melts 57 = .ok (.getfield 29, 3) := by decide +kernel
theorem dX8_melts_60 : decode cX8_melts 60 = .ok (.iload_n 3, 1) := by decide +kernel
theorem dX8_melts_61 : decode cX8_melts 61 = .ok (.aload_n 0, 1) := by decide +kernel
theorem dX8_melts_62 : decode cX8_melts 62 = .ok (.getfield 16, 3) := by decide +kernel
theorem dX8_melts_65 : decode cX8_melts 65 = .ok (.iload_n 1, 1) := by decide +kernel
theorem dX8_melts_66 : decode cX8_melts 66 = .ok (.invokestatic 146, 3) := by decide +kernel
theorem dX8_melts_69 : decode cX8_melts 69 = .ok (.iload_n 3, 1) := by decide +kernel
theorem dX8_melts_70 : decode cX8_melts 70 = .ok (.iadd, 1) := by decide +kernel
theorem dX8_melts_71 : decode cX8_melts 71 = .ok (.iaload, 1) := by decide +kernel
theorem dX8_melts_72 : decode cX8_melts 72 = .ok (.iastore, 1) := by decide +kernel
theorem dX8_melts_73 : decode cX8_melts 73 = .ok (.iinc 3 1, 3) := by decide +kernel
theorem dX8_melts_76 : decode cX8_melts 76 = .ok (.goto (-25), 3) := by decide +kernel
theorem dX8_melts_79 : decode cX8_melts 79 = .ok (.iload_n 1, 1) := by decide +kernel
theorem dX8_melts_80 : decode cX8_melts 80 = .ok (.invokestatic 146, 3) := by decide +kernel
theorem dX8_melts_83 : decode cX8_melts 83 = .ok (.istore_n 3, 1) := by decide +kernel
theorem dX8_melts_84 : decode cX8_melts 84 = .ok (.iload_n 3, 1) := by decide +kernel
theorem dX8_melts_85 : decode cX8_melts 85 = .ok (.sipush 128, 3) := by decide +kernel
theorem dX8_melts_88 : decode cX8_melts 88 = .ok (.if_icmp .ge 36, 3) := by decide +kernel
theorem dX8_melts_91 : decode cX8_melts 91 = .ok (.aload_n 0, 1) := by decide +kernel
theorem dX8_melts_92 : decode cX8_melts 92 = .ok (.getfield 16, 3) := by decide +kernel
theorem dX8_melts_95 : decode cX8_melts 95 = .ok (.iload_n 3, 1) := by decide +kernel
theorem dX8_melts_96 : decode cX8_melts 96 = .ok (.iload_n 3, 1) := by decide +kernel
theorem dX8_melts_97 : decode cX8_melts 97 = .ok (.iconst 4, 1) := by decide +kernel
theorem dX8_melts_98 : decode cX8_melts 98 = .ok (.iadd, 1) := by decide +kernel
theorem dX8_melts_99 : decode cX8_melts 99 = .ok (.sipush 128, 3) := by decide +kernel
theorem dX8_melts_102 : decode cX8_melts 102 = .ok (.if_icmp .ge 14, 3) := by decide +kernel
theorem dX8_melts_105 : decode cX8_melts 105 = .ok (.aload_n 0, 1) := by decide +kernel
theorem dX8_melts_106 : decode cX8_melts 106 = .ok (.getfield 16, 3) := by decide +kernel
theorem dX8_melts_109 : decode cX8_melts 109 = .ok (.iload_n 3, 1) := by decide +kernel
theorem dX8_melts_110 : decode cX8_melts 110 = .ok (.iconst 4, 1) := by decide +kernel
theorem dX8_melts_111 : decode cX8_melts 111 = .ok (.iadd, 1) := by decide +kernel
theorem dX8_melts_112 : decode cX8_melts 112 = .ok (.iaload, 1) := by decide +kernel
theorem dX8_melts_113 : decode cX8_melts 113 = .ok (.goto 4, 3) := by decide +kernel
theorem dX8_melts_116 : decode cX8_melts 116 = .ok (.iconst 0, 1) := by decide +kernel
theorem dX8_melts_117 : decode cX8_melts 117 = .ok (.iastore, 1) := by decide +kernel
theorem dX8_melts_118 : decode cX8_melts 118 = .ok (.iinc 3 1, 3) := by decide +kernel
theorem dX8_melts_121 : decode cX8_melts 121 = .ok (.goto (-37), 3) := by decide +kernel
theorem dX8_melts_124 : decode cX8_melts 124 = .ok (.aload_n 0, 1) := by decide +kernel
theorem dX8_melts_125 : decode cX8_melts 125 = .ok (.getfield 16, 3) := by decide +kernel
theorem dX8_melts_128 : decode cX8_melts 128 = .ok (.bipush 43, 2) := by decide +kernel
theorem dX8_melts_130 : decode cX8_melts 130 = .ok (.dup2, 1) := by decide +kernel
theorem dX8_melts_131 : decode cX8_melts 131 = .ok (.iaload, 1) := by decide +kernel
theorem dX8_melts_132 : decode cX8_melts 132 = .ok (.iconst 1, 1) := by decide +kernel
theorem dX8_melts_133 : decode cX8_melts 133 = .ok (.isub, 1) := by decide +kernel
theorem dX8_melts_134 : decode cX8_melts 134 = .ok (.iastore, 1) := by decide +kernel
theorem dX8_melts_135 : decode cX8_melts 135 = .ok (.aload_n 0, 1) := by decide +kernel
theorem dX8_melts_136 : decode cX8_melts 136 = .ok (.iload_n 2, 1) := by decide +kernel
theorem dX8_melts_137 : decode cX8_melts 137 = .ok (.bipush 20, 2) := by decide +kernel
theorem dX8_melts_139 : decode cX8_melts 139 = .ok (.invokevirtual 92, 3) := by decide +kernel
theorem dX8_melts_142 : decode cX8_melts 142 = .ok (.ireturn, 1) := by decide +kernel
set_option maxRecDepth 20000 in
theorem ggX8_meltDown_X8_begins : GoodIn wsX8_meltDown wsX8_begins := goodIn_ca (goodIn_r _ [5, 6, 7, 8, 9, 10, 4, 11, 59, 60, 61, 62, 63, 64, 65, 66, 67, 68, 69, 70, 71, 72, 73, 74, 75, 76, 77, 78, 79, 80] (by decide +kernel) (by decide +kernel)) (goodIn_sub (fun _ h => List.mem_cons_of_mem _ (List.mem_append_left _ (List.mem_append_right _ h))) (by decide +kernel))
set_option maxRecDepth 20000 in
theorem gX8_meltDown_X8_begins : GoodIn wsX8_meltDown (wsV RX8 96 RX8 yX8_begins wsX8_begins) := goodIn_app (goodIn_of _ (by decide +kernel)) ggX8_meltDown_X8_begins
set_option maxRecDepth 20000 in
theorem ggX8_meltDown_X8_melts : GoodIn wsX8_meltDown wsX8_melts := goodIn_ca (goodIn_ca (goodIn_r _ [15, 16, 8, 17, 18, 19, 4, 20, 21, 22, 23, 24, 25, 26, 27, 28, 29, 30, 6, 31, 32, 33, 34, 35, 36, 37, 38, 39, 40, 41, 42, 43, 44, 45, 46, 47, 48, 49, 50, 51, 52, 59, 60, 61, 62, 63, 64, 65, 66, 67, 68, 69, 70, 71, 72, 73, 74, 75, 76, 77, 78, 79, 80] (by decide +kernel) (by decide +kernel)) (goodIn_sub (fun _ h => List.mem_cons_of_mem _ (List.mem_append_left _ (List.mem_append_right _ h))) (by decide +kernel))) (goodIn_sub (fun _ h => List.mem_cons_of_mem _ (List.mem_append_right _ h)) (by decide +kernel))
set_option maxRecDepth 20000 in
theorem gX8_meltDown_X8_melts : GoodIn wsX8_meltDown (wsV RX8 155 RX8 yX8_melts wsX8_melts) := goodIn_app (goodIn_of _ (by decide +kernel)) ggX8_meltDown_X8_melts
set_option maxRecDepth 20000 in
theorem ggX8_meltDown_X8_ends : GoodIn wsX8_meltDown wsX8_ends := goodIn_ca (goodIn_r _ [56, 6, 8, 7, 57, 58, 9, 10, 4, 11, 59, 60, 61, 62, 63, 64, 65, 66, 67, 68, 69, 70, 71, 72, 73, 74, 75, 76, 77, 78, 79, 80] (by decide +kernel) (by decide +kernel)) (goodIn_sub (fun _ h => List.mem_cons_of_mem _ (List.mem_append_left _ (List.mem_append_right _ h))) (by decide +kernel))
set_option maxRecDepth 20000 in
theorem gX8_meltDown_X8_ends : GoodIn wsX8_meltDown (wsV RX8 106 RX8 yX8_ends wsX8_ends) := goodIn_app (goodIn_of _ (by decide +kernel)) ggX8_meltDown_X8_ends
theorem dX8_meltDown_0 : decode cX8_meltDown 0 = .ok (.aload_n 0, 1) := by decide +kernel
theorem dX8_meltDown_1 : decode cX8_meltDown 1 = .ok (.invokevirtual 96, 3) := by decide +kernel
theorem dX8_meltDown_4 : decode cX8_meltDown 4 = .ok (.aload_n 0, 1) := by decide +kernel
theorem dX8_meltDown_5 : decode cX8_meltDown 5 = .ok (.aload_n 0, 1) := by decide +kernel
theorem dX8_meltDown_6 : decode cX8_meltDown 6 = .ok (.iload_n 1, 1) := by decide +kernel
theorem dX8_meltDown_7 : decode cX8_meltDown 7 = .ok (.iload_n 2, 1) := by decide +kernel
theorem dX8_meltDown_8 : decode cX8_meltDown 8 = .ok (.invokevirtual 155, 3) := by decide +kernel
theorem dX8_meltDown_11 : decode cX8_meltDown 11 = .ok (.invokevirtual 106, 3) := by decide +kernel
theorem dX8_meltDown_14 : decode cX8_meltDown 14 = .ok (.ireturn, 1) := by decide +kernel
theorem dX8_held_0 : decode cX8_held 0 = .ok (.iload_n 0, 1) := by decide +kernel
theorem dX8_held_1 : decode cX8_held 1 = .ok (.bipush 20, 2) := by decide +kernel
theorem dX8_held_3 : decode cX8_held 3 = .ok (.if_icmp .ge 8, 3) := by decide +kernel
theorem dX8_held_6 : decode cX8_held 6 = .ok (.bipush 20, 2) := by decide +kernel
theorem dX8_held_8 : decode cX8_held 8 = .ok (.goto 17, 3) := by decide +kernel
theorem dX8_held_11 : decode cX8_held 11 = .ok (.iload_n 0, 1) := by decide +kernel
theorem dX8_held_12 : decode cX8_held 12 = .ok (.sipush 1500, 3) := by decide +kernel
theorem dX8_held_15 : decode cX8_held 15 = .ok (.if_icmp .le 9, 3) := by decide +kernel
theorem dX8_held_18 : decode cX8_held 18 = .ok (.sipush 1500, 3) := by decide +kernel
theorem dX8_held_21 : decode cX8_held 21 = .ok (.goto 4, 3) := by decide +kernel
theorem dX8_held_24 : decode cX8_held 24 = .ok (.iload_n 0, 1) := by decide +kernel
theorem dX8_held_25 : decode cX8_held 25 = .ok (.ireturn, 1) := by decide +kernel
set_option maxRecDepth 20000 in
theorem ggX8_passes_X8_isIn : GoodIn wsX8_passes wsX8_isIn := goodIn_r _ [5] (by decide +kernel) (by decide +kernel)
set_option maxRecDepth 20000 in
theorem gX8_passes_X8_isIn : GoodIn wsX8_passes (va_wsS RX8 67 yX8_isIn wsX8_isIn) := goodIn_app (goodIn_of _ (by decide +kernel)) ggX8_passes_X8_isIn
set_option maxRecDepth 20000 in
theorem ggX8_passes_X8_fail : GoodIn wsX8_passes wsX8_fail := goodIn_r _ [9, 10, 33, 34, 35, 36, 37, 38, 39, 40, 41, 42, 43, 44, 45, 46, 47, 48, 49, 50, 51, 52, 53, 54] (by decide +kernel) (by decide +kernel)
set_option maxRecDepth 20000 in
theorem gX8_passes_X8_fail : GoodIn wsX8_passes (wsV RX8 89 RX8 yX8_fail wsX8_fail) := goodIn_app (goodIn_of _ (by decide +kernel)) ggX8_passes_X8_fail
set_option maxRecDepth 20000 in
theorem ggX8_passes_X8_furnace : GoodIn wsX8_passes wsX8_furnace := goodIn_r _ [13] (by decide +kernel) (by decide +kernel)
set_option maxRecDepth 20000 in
theorem gX8_passes_X8_furnace : GoodIn wsX8_passes (va_wsS RX8 50 yX8_furnace wsX8_furnace) := goodIn_app (goodIn_of _ (by decide +kernel)) ggX8_passes_X8_furnace
set_option maxRecDepth 20000 in
theorem ggX8_passes_X8_held : GoodIn wsX8_passes wsX8_held := goodIn_r _ [16] (by decide +kernel) (by decide +kernel)
set_option maxRecDepth 20000 in
theorem gX8_passes_X8_held : GoodIn wsX8_passes (va_wsS RX8 158 yX8_held wsX8_held) := goodIn_app (goodIn_of _ (by decide +kernel)) ggX8_passes_X8_held
set_option maxRecDepth 20000 in
theorem ggX8_passes_X8_ladle : GoodIn wsX8_passes wsX8_ladle := goodIn_r _ [19] (by decide +kernel) (by decide +kernel)
set_option maxRecDepth 20000 in
theorem gX8_passes_X8_ladle : GoodIn wsX8_passes (va_wsS RX8 54 yX8_ladle wsX8_ladle) := goodIn_app (goodIn_of _ (by decide +kernel)) ggX8_passes_X8_ladle
set_option maxRecDepth 20000 in
theorem ggX8_passes_X8_mass : GoodIn wsX8_passes wsX8_mass := goodIn_ca (goodIn_r _ [23, 1, 33, 34, 35, 36, 37, 38, 39, 40, 41, 42, 43, 44, 45, 46, 47, 48, 49, 50, 51, 52, 53, 54] (by decide +kernel) (by decide +kernel)) (goodIn_sub (fun _ h => List.mem_cons_of_mem _ (List.mem_append_left _ (List.mem_append_right _ h))) (by decide +kernel))
set_option maxRecDepth 20000 in
theorem gX8_passes_X8_mass : GoodIn wsX8_passes (wsV RX8 71 RX8 yX8_mass wsX8_mass) := goodIn_app (goodIn_of _ (by decide +kernel)) ggX8_passes_X8_mass
set_option maxRecDepth 20000 in
theorem ggX8_passes_X8_isFluid : GoodIn wsX8_passes wsX8_isFluid := goodIn_ca (goodIn_ca (goodIn_r _ [27, 1, 20, 21, 22, 4, 23, 28, 29, 30, 31, 32, 33, 34, 35, 36, 37, 38, 39, 40, 41, 42, 43, 44, 45, 46, 47, 48, 49, 50, 51, 52, 53, 54] (by decide +kernel) (by decide +kernel)) (goodIn_sub (fun _ h => List.mem_cons_of_mem _ (List.mem_append_left _ (List.mem_append_right _ h))) (by decide +kernel))) (goodIn_sub (fun _ h => List.mem_cons_of_mem _ (List.mem_append_right _ h)) (by decide +kernel))
set_option maxRecDepth 20000 in
theorem gX8_passes_X8_isFluid : GoodIn wsX8_passes (wsV RX8 112 RX8 yX8_isFluid wsX8_isFluid) := goodIn_app (goodIn_of _ (by decide +kernel)) ggX8_passes_X8_isFluid
theorem dX8_passes_0 : decode cX8_passes 0 = .ok (.iload_n 1, 1) := by decide +kernel
theorem dX8_passes_1 : decode cX8_passes 1 = .ok (.iconst 1, 1) := by decide +kernel
theorem dX8_passes_2 : decode cX8_passes 2 = .ok (.sipush 200, 3) := by decide +kernel
theorem dX8_passes_5 : decode cX8_passes 5 = .ok (.invokestatic 67, 3) := by decide +kernel
theorem dX8_passes_8 : decode cX8_passes 8 = .ok (.ifCond .ne 9, 3) := by decide +kernel
theorem dX8_passes_11 : decode cX8_passes 11 = .ok (.aload_n 0, 1) := by decide +kernel
theorem dX8_passes_12 : decode cX8_passes 12 = .ok (.iconst 1, 1) := by decide +kernel
theorem dX8_passes_13 : decode cX8_passes 13 = .ok (.invokevirtual 89, 3) := by decide +kernel
theorem dX8_passes_16 : decode cX8_passes 16 = .ok (.ireturn, 1) := by decide +kernel
theorem dX8_passes_17 : decode cX8_passes 17 = .ok (.iconst 0, 1) := by decide +kernel
theorem dX8_passes_18 : decode cX8_passes 18 = .ok (.istore_n 2, 1) := by decide +kernel
theorem dX8_passes_19 : decode cX8_passes 19 = .ok (.iload_n 2, 1) := by decide +kernel
theorem dX8_passes_20 : decode cX8_passes 20 = .ok (.iload_n 1, 1) := by decide +kernel
theorem dX8_passes_21 : decode cX8_passes 21 = .ok (.if_icmp .ge 126, 3) := by decide +kernel
theorem dX8_passes_24 : decode cX8_passes 24 = .ok (.aload_n 0, 1) := by decide +kernel
theorem dX8_passes_25 : decode cX8_passes 25 = .ok (.getfield 16, 3) := by decide +kernel
theorem dX8_passes_28 : decode cX8_passes 28 = .ok (.iconst 0, 1) := by decide +kernel
theorem dX8_passes_29 : decode cX8_passes 29 = .ok (.dup2, 1) := by decide +kernel
theorem dX8_passes_30 : decode cX8_passes 30 = .ok (.iaload, 1) := by decide +kernel
theorem dX8_passes_31 : decode cX8_passes 31 = .ok (.iconst 1, 1) := by decide +kernel
theorem dX8_passes_32 : decode cX8_passes 32 = .ok (.iadd, 1) := by decide +kernel
theorem dX8_passes_33 : decode cX8_passes 33 = .ok (.iastore, 1) := by decide +kernel
theorem dX8_passes_34 : decode cX8_passes 34 = .ok (.iconst 0, 1) := by decide +kernel
theorem dX8_passes_35 : decode cX8_passes 35 = .ok (.istore_n 3, 1) := by decide +kernel
theorem dX8_passes_36 : decode cX8_passes 36 = .ok (.iload_n 3, 1) := by decide +kernel
theorem dX8_passes_37 : decode cX8_passes 37 = .ok (.iconst 3, 1) := by decide +kernel
theorem dX8_passes_38 : decode cX8_passes 38 = .ok (.if_icmp .ge 51, 3) := by decide +kernel
theorem dX8_passes_41 : decode cX8_passes 41 = .ok (.aload_n 0, 1) := by decide +kernel
theorem dX8_passes_42 : decode cX8_passes 42 = .ok (.getfield 16, 3) := by decide +kernel
theorem dX8_passes_45 : decode cX8_passes 45 = .ok (.iload_n 3, 1) := by decide +kernel
theorem dX8_passes_46 : decode cX8_passes 46 = .ok (.invokestatic 50, 3) := by decide +kernel
theorem dX8_passes_49 : decode cX8_passes 49 = .ok (.iconst 4, 1) := by decide +kernel
theorem dX8_passes_50 : decode cX8_passes 50 = .ok (.iadd, 1) := by decide +kernel
theorem dX8_passes_51 : decode cX8_passes 51 = .ok (.aload_n 0, 1) := by decide +kernel
theorem dX8_passes_52 : decode cX8_passes 52 = .ok (.getfield 16, 3) := by decide +kernel
theorem dX8_passes_55 : decode cX8_passes 55 = .ok (.iload_n 3, 1) := by decide +kernel
theorem dX8_passes_56 : decode cX8_passes 56 = .ok (.invokestatic 50, 3) := by decide +kernel
theorem dX8_passes_59 : decode cX8_passes 59 = .ok (.iconst 4, 1) := by decide +kernel
theorem dX8_passes_60 : decode cX8_passes 60 = .ok (.iadd, 1) := by decide +kernel
theorem dX8_passes_61 : decode cX8_passes 61 = .ok (.iaload, 1) := by decide +kernel
theorem dX8_passes_62 : decode cX8_passes 62 = .ok (.bipush 10, 2) := by decide +kernel
theorem dX8_passes_64 : decode cX8_passes 64 = .ok (.aload_n 0, 1) := by decide +kernel
theorem dX8_passes_65 : decode cX8_passes 65 = .ok (.getfield 16, 3) := by decide +kernel
theorem dX8_passes_68 : decode cX8_passes 68 = .ok (.iload_n 3, 1) := by decide +kernel
theorem dX8_passes_69 : decode cX8_passes 69 = .ok (.invokestatic 50, 3) := by decide +kernel
theorem dX8_passes_72 : decode cX8_passes 72 = .ok (.iconst 5, 1) := by decide +kernel
theorem dX8_passes_73 : decode cX8_passes 73 = .ok (.iadd, 1) := by decide +kernel
theorem dX8_passes_74 : decode cX8_passes 74 = .ok (.iaload, 1) := by decide +kernel
theorem dX8_passes_75 : decode cX8_passes 75 = .ok (.imul, 1) := by decide +kernel
theorem dX8_passes_76 : decode cX8_passes 76 = .ok (.iadd, 1) := by decide +kernel
theorem dX8_passes_77 : decode cX8_passes 77 = .ok (.iconst 5, 1) := by decide +kernel
theorem dX8_passes_78 : decode cX8_passes 78 = .ok (.isub, 1) := by decide +kernel
theorem dX8_passes_79 : decode cX8_passes 79 = .ok (.invokestatic 158, 3) := by decide +kernel
theorem dX8_passes_82 : decode cX8_passes 82 = .ok (.iastore, 1) := by decide +kernel
theorem dX8_passes_83 : decode cX8_passes 83 = .ok (.iinc 3 1, 3) := by decide +kernel
theorem dX8_passes_86 : decode cX8_passes 86 = .ok (.goto (-50), 3) := by decide +kernel
theorem dX8_passes_89 : decode cX8_passes 89 = .ok (.iconst 0, 1) := by decide +kernel
theorem dX8_passes_90 : decode cX8_passes 90 = .ok (.istore_n 3, 1) := by decide +kernel
theorem dX8_passes_91 : decode cX8_passes 91 = .ok (.iload_n 3, 1) := by decide +kernel
theorem dX8_passes_92 : decode cX8_passes 92 = .ok (.iconst 3, 1) := by decide +kernel
theorem dX8_passes_93 : decode cX8_passes 93 = .ok (.if_icmp .ge 48, 3) := by decide +kernel
theorem dX8_passes_96 : decode cX8_passes 96 = .ok (.aload_n 0, 1) := by decide +kernel
theorem dX8_passes_97 : decode cX8_passes 97 = .ok (.iload_n 3, 1) := by decide +kernel
theorem dX8_passes_98 : decode cX8_passes 98 = .ok (.invokestatic 54, 3) := by decide +kernel
theorem dX8_passes_101 : decode cX8_passes 101 = .ok (.invokevirtual 71, 3) := by decide +kernel
theorem dX8_passes_104 : decode cX8_passes 104 = .ok (.ifCond .le 31, 3) := by decide +kernel
theorem dX8_passes_107 : decode cX8_passes 107 = .ok (.aload_n 0, 1) := by decide +kernel
theorem dX8_passes_108 : decode cX8_passes 108 = .ok (.getfield 16, 3) := by decide +kernel
theorem dX8_passes_111 : decode cX8_passes 111 = .ok (.iload_n 3, 1) := by decide +kernel
theorem dX8_passes_112 : decode cX8_passes 112 = .ok (.invokestatic 54, 3) := by decide +kernel
theorem dX8_passes_115 : decode cX8_passes 115 = .ok (.iconst 4, 1) := by decide +kernel
theorem dX8_passes_116 : decode cX8_passes 116 = .ok (.iadd, 1) := by decide +kernel
theorem dX8_passes_117 : decode cX8_passes 117 = .ok (.aload_n 0, 1) := by decide +kernel
theorem dX8_passes_118 : decode cX8_passes 118 = .ok (.getfield 16, 3) := by decide +kernel
theorem dX8_passes_121 : decode cX8_passes 121 = .ok (.iload_n 3, 1) := by decide +kernel
theorem dX8_passes_122 : decode cX8_passes 122 = .ok (.invokestatic 54, 3) := by decide +kernel
theorem dX8_passes_125 : decode cX8_passes 125 = .ok (.iconst 4, 1) := by decide +kernel
theorem dX8_passes_126 : decode cX8_passes 126 = .ok (.iadd, 1) := by decide +kernel
theorem dX8_passes_127 : decode cX8_passes 127 = .ok (.iaload, 1) := by decide +kernel
theorem dX8_passes_128 : decode cX8_passes 128 = .ok (.bipush 10, 2) := by decide +kernel
theorem dX8_passes_130 : decode cX8_passes 130 = .ok (.isub, 1) := by decide +kernel
theorem dX8_passes_131 : decode cX8_passes 131 = .ok (.invokestatic 158, 3) := by decide +kernel
theorem dX8_passes_134 : decode cX8_passes 134 = .ok (.iastore, 1) := by decide +kernel
theorem dX8_passes_135 : decode cX8_passes 135 = .ok (.iinc 3 1, 3) := by decide +kernel
theorem dX8_passes_138 : decode cX8_passes 138 = .ok (.goto (-47), 3) := by decide +kernel
theorem dX8_passes_141 : decode cX8_passes 141 = .ok (.iinc 2 1, 3) := by decide +kernel
theorem dX8_passes_144 : decode cX8_passes 144 = .ok (.goto (-125), 3) := by decide +kernel
theorem dX8_passes_147 : decode cX8_passes 147 = .ok (.iconst 0, 1) := by decide +kernel
theorem dX8_passes_148 : decode cX8_passes 148 = .ok (.istore_n 2, 1) := by decide +kernel
theorem dX8_passes_149 : decode cX8_passes 149 = .ok (.iconst 0, 1) := by decide +kernel
theorem dX8_passes_150 : decode cX8_passes 150 = .ok (.istore_n 3, 1) := by decide +kernel
theorem dX8_passes_151 : decode cX8_passes 151 = .ok (.iload_n 3, 1) := by decide +kernel
theorem dX8_passes_152 : decode cX8_passes 152 = .ok (.iconst 3, 1) := by decide +kernel
theorem dX8_passes_153 : decode cX8_passes 153 = .ok (.if_icmp .ge 28, 3) := by decide +kernel
theorem dX8_passes_156 : decode cX8_passes 156 = .ok (.iload_n 2, 1) := by decide +kernel
theorem dX8_passes_157 : decode cX8_passes 157 = .ok (.aload_n 0, 1) := by decide +kernel
theorem dX8_passes_158 : decode cX8_passes 158 = .ok (.iload_n 3, 1) := by decide +kernel
theorem dX8_passes_159 : decode cX8_passes 159 = .ok (.invokestatic 50, 3) := by decide +kernel
theorem dX8_passes_162 : decode cX8_passes 162 = .ok (.invokevirtual 112, 3) := by decide +kernel
theorem dX8_passes_165 : decode cX8_passes 165 = .ok (.ifCond .eq 7, 3) := by decide +kernel
theorem dX8_passes_168 : decode cX8_passes 168 = .ok (.iconst 1, 1) := by decide +kernel
theorem dX8_passes_169 : decode cX8_passes 169 = .ok (.goto 4, 3) := by decide +kernel
theorem dX8_passes_172 : decode cX8_passes 172 = .ok (.iconst 0, 1) := by decide +kernel
theorem dX8_passes_173 : decode cX8_passes 173 = .ok (.iadd, 1) := by decide +kernel
theorem dX8_passes_174 : decode cX8_passes 174 = .ok (.istore_n 2, 1) := by decide +kernel
theorem dX8_passes_175 : decode cX8_passes 175 = .ok (.iinc 3 1, 3) := by decide +kernel
theorem dX8_passes_178 : decode cX8_passes 178 = .ok (.goto (-27), 3) := by decide +kernel
theorem dX8_passes_181 : decode cX8_passes 181 = .ok (.iload_n 2, 1) := by decide +kernel
theorem dX8_passes_182 : decode cX8_passes 182 = .ok (.ireturn, 1) := by decide +kernel
set_option maxRecDepth 20000 in
theorem ggX8_advance_X8_begins : GoodIn wsX8_advance wsX8_begins := goodIn_ca (goodIn_r _ [5, 6, 7, 8, 9, 10, 4, 11, 51, 52, 53, 54, 55, 56, 57, 58, 59, 60, 61, 62, 63, 64, 65, 66, 67, 68, 69, 70, 71, 72] (by decide +kernel) (by decide +kernel)) (goodIn_sub (fun _ h => List.mem_cons_of_mem _ (List.mem_append_left _ (List.mem_append_right _ h))) (by decide +kernel))
set_option maxRecDepth 20000 in
theorem gX8_advance_X8_begins : GoodIn wsX8_advance (wsV RX8 96 RX8 yX8_begins wsX8_begins) := goodIn_app (goodIn_of _ (by decide +kernel)) ggX8_advance_X8_begins
set_option maxRecDepth 20000 in
theorem ggX8_advance_X8_passes : GoodIn wsX8_advance wsX8_passes := goodIn_ca (goodIn_ca (goodIn_r _ [15, 8, 16, 17, 4, 18, 19, 20, 21, 22, 6, 23, 24, 25, 26, 27, 28, 29, 30, 31, 32, 33, 34, 35, 36, 37, 38, 39, 40, 41, 42, 43, 44, 51, 52, 53, 54, 55, 56, 57, 58, 59, 60, 61, 62, 63, 64, 65, 66, 67, 68, 69, 70, 71, 72] (by decide +kernel) (by decide +kernel)) (goodIn_sub (fun _ h => List.mem_cons_of_mem _ (List.mem_append_left _ (List.mem_append_right _ h))) (by decide +kernel))) (goodIn_sub (fun _ h => List.mem_cons_of_mem _ (List.mem_append_right _ h)) (by decide +kernel))
set_option maxRecDepth 20000 in
theorem gX8_advance_X8_passes : GoodIn wsX8_advance (wsV RX8 161 RX8 yX8_passes wsX8_passes) := goodIn_app (goodIn_of _ (by decide +kernel)) ggX8_advance_X8_passes
set_option maxRecDepth 20000 in
theorem ggX8_advance_X8_ends : GoodIn wsX8_advance wsX8_ends := goodIn_ca (goodIn_r _ [48, 6, 8, 7, 49, 50, 9, 10, 4, 11, 51, 52, 53, 54, 55, 56, 57, 58, 59, 60, 61, 62, 63, 64, 65, 66, 67, 68, 69, 70, 71, 72] (by decide +kernel) (by decide +kernel)) (goodIn_sub (fun _ h => List.mem_cons_of_mem _ (List.mem_append_left _ (List.mem_append_right _ h))) (by decide +kernel))
set_option maxRecDepth 20000 in
theorem gX8_advance_X8_ends : GoodIn wsX8_advance (wsV RX8 106 RX8 yX8_ends wsX8_ends) := goodIn_app (goodIn_of _ (by decide +kernel)) ggX8_advance_X8_ends
theorem dX8_advance_0 : decode cX8_advance 0 = .ok (.aload_n 0, 1) := by decide +kernel
theorem dX8_advance_1 : decode cX8_advance 1 = .ok (.invokevirtual 96, 3) := by decide +kernel
theorem dX8_advance_4 : decode cX8_advance 4 = .ok (.aload_n 0, 1) := by decide +kernel
theorem dX8_advance_5 : decode cX8_advance 5 = .ok (.aload_n 0, 1) := by decide +kernel
theorem dX8_advance_6 : decode cX8_advance 6 = .ok (.iload_n 1, 1) := by decide +kernel
theorem dX8_advance_7 : decode cX8_advance 7 = .ok (.invokevirtual 161, 3) := by decide +kernel
theorem dX8_advance_10 : decode cX8_advance 10 = .ok (.invokevirtual 106, 3) := by decide +kernel
theorem dX8_advance_13 : decode cX8_advance 13 = .ok (.ireturn, 1) := by decide +kernel
set_option maxRecDepth 20000 in
theorem ggX8_tells_X8_kind : GoodIn wsX8_tells wsX8_kind := goodIn_r _ [6] (by decide +kernel) (by decide +kernel)
set_option maxRecDepth 20000 in
theorem gX8_tells_X8_kind : GoodIn wsX8_tells (va_wsS RX8 99 yX8_kind wsX8_kind) := goodIn_app (goodIn_of _ (by decide +kernel)) ggX8_tells_X8_kind
theorem dX8_tells_0 : decode cX8_tells 0 = .ok (.aload_n 0, 1) := by decide +kernel
theorem dX8_tells_1 : decode cX8_tells 1 = .ok (.iload_n 1, 1) := by decide +kernel
theorem dX8_tells_2 : decode cX8_tells 2 = .ok (.ifCond .ne 7, 3) := by decide +kernel
theorem dX8_tells_5 : decode cX8_tells 5 = .ok (.iconst 1, 1) := by decide +kernel
theorem dX8_tells_6 : decode cX8_tells 6 = .ok (.goto 15, 3) := by decide +kernel
theorem dX8_tells_9 : decode cX8_tells 9 = .ok (.iload_n 3, 1) := by decide +kernel
theorem dX8_tells_10 : decode cX8_tells 10 = .ok (.invokestatic 99, 3) := by decide +kernel
theorem dX8_tells_13 : decode cX8_tells 13 = .ok (.ifCond .ge 7, 3) := by decide +kernel
theorem dX8_tells_16 : decode cX8_tells 16 = .ok (.iconst 2, 1) := by decide +kernel
theorem dX8_tells_17 : decode cX8_tells 17 = .ok (.goto 4, 3) := by decide +kernel
theorem dX8_tells_20 : decode cX8_tells 20 = .ok (.iconst 0, 1) := by decide +kernel
theorem dX8_tells_21 : decode cX8_tells 21 = .ok (.putfield 57, 3) := by decide +kernel
theorem dX8_tells_24 : decode cX8_tells 24 = .ok (.aload_n 0, 1) := by decide +kernel
theorem dX8_tells_25 : decode cX8_tells 25 = .ok (.getfield 57, 3) := by decide +kernel
theorem dX8_tells_28 : decode cX8_tells 28 = .ok (.ifCond .ne 17, 3) := by decide +kernel
theorem dX8_tells_31 : decode cX8_tells 31 = .ok (.aload_n 0, 1) := by decide +kernel
theorem dX8_tells_32 : decode cX8_tells 32 = .ok (.getfield 16, 3) := by decide +kernel
theorem dX8_tells_35 : decode cX8_tells 35 = .ok (.iload_n 2, 1) := by decide +kernel
theorem dX8_tells_36 : decode cX8_tells 36 = .ok (.iload_n 3, 1) := by decide +kernel
theorem dX8_tells_37 : decode cX8_tells 37 = .ok (.invokestatic 99, 3) := by decide +kernel
theorem dX8_tells_40 : decode cX8_tells 40 = .ok (.iadd, 1) := by decide +kernel
theorem dX8_tells_41 : decode cX8_tells 41 = .ok (.iaload, 1) := by decide +kernel
theorem dX8_tells_42 : decode cX8_tells 42 = .ok (.goto 4, 3) := by decide +kernel
theorem dX8_tells_45 : decode cX8_tells 45 = .ok (.iconst 0, 1) := by decide +kernel
theorem dX8_tells_46 : decode cX8_tells 46 = .ok (.ireturn, 1) := by decide +kernel
set_option maxRecDepth 20000 in
theorem ggX8_furnaceMass_X8_isThree : GoodIn wsX8_furnaceMass wsX8_isThree := goodIn_r _ [4, 5, 6, 3, 7] (by decide +kernel) (by decide +kernel)
set_option maxRecDepth 20000 in
theorem gX8_furnaceMass_X8_isThree : GoodIn wsX8_furnaceMass (va_wsS RX8 85 yX8_isThree wsX8_isThree) := goodIn_app (goodIn_of _ (by decide +kernel)) ggX8_furnaceMass_X8_isThree
set_option maxRecDepth 20000 in
theorem ggX8_furnaceMass_X8_furnace : GoodIn wsX8_furnaceMass wsX8_furnace := goodIn_r _ [10] (by decide +kernel) (by decide +kernel)
set_option maxRecDepth 20000 in
theorem gX8_furnaceMass_X8_furnace : GoodIn wsX8_furnaceMass (va_wsS RX8 50 yX8_furnace wsX8_furnace) := goodIn_app (goodIn_of _ (by decide +kernel)) ggX8_furnaceMass_X8_furnace
set_option maxRecDepth 20000 in
theorem ggX8_furnaceMass_X8_tells : GoodIn wsX8_furnaceMass wsX8_tells := goodIn_ca (goodIn_r _ [14, 15, 16, 17, 18, 3, 19, 20, 21, 22, 23, 24, 25, 26, 27, 28, 29, 30, 31, 32, 33, 34, 35, 36, 37, 38, 39, 40, 41] (by decide +kernel) (by decide +kernel)) (goodIn_sub (fun _ h => List.mem_cons_of_mem _ (List.mem_append_right _ h)) (by decide +kernel))
set_option maxRecDepth 20000 in
theorem gX8_furnaceMass_X8_tells : GoodIn wsX8_furnaceMass (wsV RX8 164 RX8 yX8_tells wsX8_tells) := goodIn_app (goodIn_of _ (by decide +kernel)) ggX8_furnaceMass_X8_tells
theorem dX8_furnaceMass_0 : decode cX8_furnaceMass 0 = .ok (.aload_n 0, 1) := by decide +kernel
theorem dX8_furnaceMass_1 : decode cX8_furnaceMass 1 = .ok (.iload_n 1, 1) := by decide +kernel
theorem dX8_furnaceMass_2 : decode cX8_furnaceMass 2 = .ok (.invokestatic 85, 3) := by decide +kernel
theorem dX8_furnaceMass_5 : decode cX8_furnaceMass 5 = .ok (.iload_n 1, 1) := by decide +kernel
theorem dX8_furnaceMass_6 : decode cX8_furnaceMass 6 = .ok (.invokestatic 50, 3) := by decide +kernel
theorem dX8_furnaceMass_9 : decode cX8_furnaceMass 9 = .ok (.iload_n 2, 1) := by decide +kernel
theorem dX8_furnaceMass_10 : decode cX8_furnaceMass 10 = .ok (.invokevirtual 164, 3) := by decide +kernel
theorem dX8_furnaceMass_13 : decode cX8_furnaceMass 13 = .ok (.ireturn, 1) := by decide +kernel
set_option maxRecDepth 20000 in
theorem ggX8_tellsMass_X8_mass : GoodIn wsX8_tellsMass wsX8_mass := goodIn_ca (goodIn_r _ [6, 7, 8, 9, 10, 11, 12, 13, 14, 15, 16, 17, 18, 19, 20, 21, 22, 23, 24, 25, 26, 27, 28, 29] (by decide +kernel) (by decide +kernel)) (goodIn_sub (fun _ h => List.mem_cons_of_mem _ (List.mem_append_right _ h)) (by decide +kernel))
set_option maxRecDepth 20000 in
theorem gX8_tellsMass_X8_mass : GoodIn wsX8_tellsMass (wsV RX8 71 RX8 yX8_mass wsX8_mass) := goodIn_app (goodIn_of _ (by decide +kernel)) ggX8_tellsMass_X8_mass
theorem dX8_tellsMass_0 : decode cX8_tellsMass 0 = .ok (.aload_n 0, 1) := by decide +kernel
theorem dX8_tellsMass_1 : decode cX8_tellsMass 1 = .ok (.iload_n 1, 1) := by decide +kernel
theorem dX8_tellsMass_2 : decode cX8_tellsMass 2 = .ok (.ifCond .eq 7, 3) := by decide +kernel
theorem dX8_tellsMass_5 : decode cX8_tellsMass 5 = .ok (.iconst 0, 1) := by decide +kernel
theorem dX8_tellsMass_6 : decode cX8_tellsMass 6 = .ok (.goto 4, 3) := by decide +kernel
theorem dX8_tellsMass_9 : decode cX8_tellsMass 9 = .ok (.iconst 1, 1) := by decide +kernel
theorem dX8_tellsMass_10 : decode cX8_tellsMass 10 = .ok (.putfield 57, 3) := by decide +kernel
theorem dX8_tellsMass_13 : decode cX8_tellsMass 13 = .ok (.aload_n 0, 1) := by decide +kernel
theorem dX8_tellsMass_14 : decode cX8_tellsMass 14 = .ok (.getfield 57, 3) := by decide +kernel
theorem dX8_tellsMass_17 : decode cX8_tellsMass 17 = .ok (.ifCond .ne 11, 3) := by decide +kernel
theorem dX8_tellsMass_20 : decode cX8_tellsMass 20 = .ok (.aload_n 0, 1) := by decide +kernel
theorem dX8_tellsMass_21 : decode cX8_tellsMass 21 = .ok (.iload_n 2, 1) := by decide +kernel
theorem dX8_tellsMass_22 : decode cX8_tellsMass 22 = .ok (.invokevirtual 71, 3) := by decide +kernel
theorem dX8_tellsMass_25 : decode cX8_tellsMass 25 = .ok (.goto 4, 3) := by decide +kernel
theorem dX8_tellsMass_28 : decode cX8_tellsMass 28 = .ok (.iconst 0, 1) := by decide +kernel
theorem dX8_tellsMass_29 : decode cX8_tellsMass 29 = .ok (.ireturn, 1) := by decide +kernel
theorem dX8_tellsOne_0 : decode cX8_tellsOne 0 = .ok (.aload_n 0, 1) := by decide +kernel
theorem dX8_tellsOne_1 : decode cX8_tellsOne 1 = .ok (.iload_n 1, 1) := by decide +kernel
theorem dX8_tellsOne_2 : decode cX8_tellsOne 2 = .ok (.ifCond .eq 7, 3) := by decide +kernel
theorem dX8_tellsOne_5 : decode cX8_tellsOne 5 = .ok (.iconst 0, 1) := by decide +kernel
theorem dX8_tellsOne_6 : decode cX8_tellsOne 6 = .ok (.goto 4, 3) := by decide +kernel
theorem dX8_tellsOne_9 : decode cX8_tellsOne 9 = .ok (.iconst 1, 1) := by decide +kernel
theorem dX8_tellsOne_10 : decode cX8_tellsOne 10 = .ok (.putfield 57, 3) := by decide +kernel
theorem dX8_tellsOne_13 : decode cX8_tellsOne 13 = .ok (.aload_n 0, 1) := by decide +kernel
theorem dX8_tellsOne_14 : decode cX8_tellsOne 14 = .ok (.getfield 57, 3) := by decide +kernel
theorem dX8_tellsOne_17 : decode cX8_tellsOne 17 = .ok (.ifCond .ne 12, 3) := by decide +kernel
theorem dX8_tellsOne_20 : decode cX8_tellsOne 20 = .ok (.aload_n 0, 1) := by decide +kernel
theorem dX8_tellsOne_21 : decode cX8_tellsOne 21 = .ok (.getfield 16, 3) := by decide +kernel
theorem dX8_tellsOne_24 : decode cX8_tellsOne 24 = .ok (.iload_n 2, 1) := by decide +kernel
theorem dX8_tellsOne_25 : decode cX8_tellsOne 25 = .ok (.iaload, 1) := by decide +kernel
theorem dX8_tellsOne_26 : decode cX8_tellsOne 26 = .ok (.goto 4, 3) := by decide +kernel
theorem dX8_tellsOne_29 : decode cX8_tellsOne 29 = .ok (.iconst 0, 1) := by decide +kernel
theorem dX8_tellsOne_30 : decode cX8_tellsOne 30 = .ok (.ireturn, 1) := by decide +kernel
set_option maxRecDepth 20000 in
theorem ggX8_furnaceTotal_X8_isThree : GoodIn wsX8_furnaceTotal wsX8_isThree := goodIn_r _ [4, 5, 6, 3, 7] (by decide +kernel) (by decide +kernel)
set_option maxRecDepth 20000 in
theorem gX8_furnaceTotal_X8_isThree : GoodIn wsX8_furnaceTotal (va_wsS RX8 85 yX8_isThree wsX8_isThree) := goodIn_app (goodIn_of _ (by decide +kernel)) ggX8_furnaceTotal_X8_isThree
set_option maxRecDepth 20000 in
theorem ggX8_furnaceTotal_X8_furnace : GoodIn wsX8_furnaceTotal wsX8_furnace := goodIn_r _ [10] (by decide +kernel) (by decide +kernel)
set_option maxRecDepth 20000 in
theorem gX8_furnaceTotal_X8_furnace : GoodIn wsX8_furnaceTotal (va_wsS RX8 50 yX8_furnace wsX8_furnace) := goodIn_app (goodIn_of _ (by decide +kernel)) ggX8_furnaceTotal_X8_furnace
set_option maxRecDepth 20000 in
theorem ggX8_furnaceTotal_X8_tellsMass : GoodIn wsX8_furnaceTotal wsX8_tellsMass := goodIn_ca (goodIn_r _ [14, 15, 16, 17, 18, 3, 19, 20, 21, 22, 23, 24, 25, 26, 27, 28, 29, 30, 31, 32, 33, 34, 35, 36, 37, 38, 39, 40, 41, 42] (by decide +kernel) (by decide +kernel)) (goodIn_sub (fun _ h => List.mem_cons_of_mem _ (List.mem_append_right _ h)) (by decide +kernel))
set_option maxRecDepth 20000 in
theorem gX8_furnaceTotal_X8_tellsMass : GoodIn wsX8_furnaceTotal (wsV RX8 168 RX8 yX8_tellsMass wsX8_tellsMass) := goodIn_app (goodIn_of _ (by decide +kernel)) ggX8_furnaceTotal_X8_tellsMass
theorem dX8_furnaceTotal_0 : decode cX8_furnaceTotal 0 = .ok (.aload_n 0, 1) := by decide +kernel
theorem dX8_furnaceTotal_1 : decode cX8_furnaceTotal 1 = .ok (.iload_n 1, 1) := by decide +kernel
theorem dX8_furnaceTotal_2 : decode cX8_furnaceTotal 2 = .ok (.invokestatic 85, 3) := by decide +kernel
theorem dX8_furnaceTotal_5 : decode cX8_furnaceTotal 5 = .ok (.iload_n 1, 1) := by decide +kernel
theorem dX8_furnaceTotal_6 : decode cX8_furnaceTotal 6 = .ok (.invokestatic 50, 3) := by decide +kernel
theorem dX8_furnaceTotal_9 : decode cX8_furnaceTotal 9 = .ok (.invokevirtual 168, 3) := by decide +kernel
theorem dX8_furnaceTotal_12 : decode cX8_furnaceTotal 12 = .ok (.ireturn, 1) := by decide +kernel
set_option maxRecDepth 20000 in
theorem ggX8_furnaceTemperature_X8_isThree : GoodIn wsX8_furnaceTemperature wsX8_isThree := goodIn_r _ [4, 5, 6, 3, 7] (by decide +kernel) (by decide +kernel)
set_option maxRecDepth 20000 in
theorem gX8_furnaceTemperature_X8_isThree : GoodIn wsX8_furnaceTemperature (va_wsS RX8 85 yX8_isThree wsX8_isThree) := goodIn_app (goodIn_of _ (by decide +kernel)) ggX8_furnaceTemperature_X8_isThree
set_option maxRecDepth 20000 in
theorem ggX8_furnaceTemperature_X8_furnace : GoodIn wsX8_furnaceTemperature wsX8_furnace := goodIn_r _ [10] (by decide +kernel) (by decide +kernel)
set_option maxRecDepth 20000 in
theorem gX8_furnaceTemperature_X8_furnace : GoodIn wsX8_furnaceTemperature (va_wsS RX8 50 yX8_furnace wsX8_furnace) := goodIn_app (goodIn_of _ (by decide +kernel)) ggX8_furnaceTemperature_X8_furnace
set_option maxRecDepth 20000 in
theorem ggX8_furnaceTemperature_X8_tellsOne : GoodIn wsX8_furnaceTemperature wsX8_tellsOne := goodIn_ca (goodIn_r _ [14, 15, 16, 17, 18, 19, 20, 21, 22, 23, 24, 25, 26, 27, 28, 29, 30, 31, 32, 33, 34, 35, 36, 37, 38] (by decide +kernel) (by decide +kernel)) (goodIn_sub (fun _ h => List.mem_cons_of_mem _ (List.mem_append_right _ h)) (by decide +kernel))
set_option maxRecDepth 20000 in
theorem gX8_furnaceTemperature_X8_tellsOne : GoodIn wsX8_furnaceTemperature (wsV RX8 172 RX8 yX8_tellsOne wsX8_tellsOne) := goodIn_app (goodIn_of _ (by decide +kernel)) ggX8_furnaceTemperature_X8_tellsOne
theorem dX8_furnaceTemperature_0 : decode cX8_furnaceTemperature 0 = .ok (.aload_n 0, 1) := by decide +kernel
theorem dX8_furnaceTemperature_1 : decode cX8_furnaceTemperature 1 = .ok (.iload_n 1, 1) := by decide +kernel
theorem dX8_furnaceTemperature_2 : decode cX8_furnaceTemperature 2 = .ok (.invokestatic 85, 3) := by decide +kernel
theorem dX8_furnaceTemperature_5 : decode cX8_furnaceTemperature 5 = .ok (.iload_n 1, 1) := by decide +kernel
theorem dX8_furnaceTemperature_6 : decode cX8_furnaceTemperature 6 = .ok (.invokestatic 50, 3) := by decide +kernel
theorem dX8_furnaceTemperature_9 : decode cX8_furnaceTemperature 9 = .ok (.iconst 4, 1) := by decide +kernel
theorem dX8_furnaceTemperature_10 : decode cX8_furnaceTemperature 10 = .ok (.iadd, 1) := by decide +kernel
theorem dX8_furnaceTemperature_11 : decode cX8_furnaceTemperature 11 = .ok (.invokevirtual 172, 3) := by decide +kernel
theorem dX8_furnaceTemperature_14 : decode cX8_furnaceTemperature 14 = .ok (.ireturn, 1) := by decide +kernel
set_option maxRecDepth 20000 in
theorem ggX8_fire_X8_isThree : GoodIn wsX8_fire wsX8_isThree := goodIn_r _ [4, 5, 6, 3, 7] (by decide +kernel) (by decide +kernel)
set_option maxRecDepth 20000 in
theorem gX8_fire_X8_isThree : GoodIn wsX8_fire (va_wsS RX8 85 yX8_isThree wsX8_isThree) := goodIn_app (goodIn_of _ (by decide +kernel)) ggX8_fire_X8_isThree
set_option maxRecDepth 20000 in
theorem ggX8_fire_X8_furnace : GoodIn wsX8_fire wsX8_furnace := goodIn_r _ [10] (by decide +kernel) (by decide +kernel)
set_option maxRecDepth 20000 in
theorem gX8_fire_X8_furnace : GoodIn wsX8_fire (va_wsS RX8 50 yX8_furnace wsX8_furnace) := goodIn_app (goodIn_of _ (by decide +kernel)) ggX8_fire_X8_furnace
set_option maxRecDepth 20000 in
theorem ggX8_fire_X8_tellsOne : GoodIn wsX8_fire wsX8_tellsOne := goodIn_ca (goodIn_r _ [14, 15, 16, 17, 18, 19, 20, 21, 22, 23, 24, 25, 26, 27, 28, 29, 30, 31, 32, 33, 34, 35, 36, 37, 38] (by decide +kernel) (by decide +kernel)) (goodIn_sub (fun _ h => List.mem_cons_of_mem _ (List.mem_append_right _ h)) (by decide +kernel))
set_option maxRecDepth 20000 in
theorem gX8_fire_X8_tellsOne : GoodIn wsX8_fire (wsV RX8 172 RX8 yX8_tellsOne wsX8_tellsOne) := goodIn_app (goodIn_of _ (by decide +kernel)) ggX8_fire_X8_tellsOne
theorem dX8_fire_0 : decode cX8_fire 0 = .ok (.aload_n 0, 1) := by decide +kernel
theorem dX8_fire_1 : decode cX8_fire 1 = .ok (.iload_n 1, 1) := by decide +kernel
theorem dX8_fire_2 : decode cX8_fire 2 = .ok (.invokestatic 85, 3) := by decide +kernel
theorem dX8_fire_5 : decode cX8_fire 5 = .ok (.iload_n 1, 1) := by decide +kernel
theorem dX8_fire_6 : decode cX8_fire 6 = .ok (.invokestatic 50, 3) := by decide +kernel
theorem dX8_fire_9 : decode cX8_fire 9 = .ok (.iconst 5, 1) := by decide +kernel
theorem dX8_fire_10 : decode cX8_fire 10 = .ok (.iadd, 1) := by decide +kernel
theorem dX8_fire_11 : decode cX8_fire 11 = .ok (.invokevirtual 172, 3) := by decide +kernel
theorem dX8_fire_14 : decode cX8_fire 14 = .ok (.ireturn, 1) := by decide +kernel
set_option maxRecDepth 20000 in
theorem ggX8_meltingPoint_X8_isThree : GoodIn wsX8_meltingPoint wsX8_isThree := goodIn_r _ [5, 6, 7, 4, 8] (by decide +kernel) (by decide +kernel)
set_option maxRecDepth 20000 in
theorem gX8_meltingPoint_X8_isThree : GoodIn wsX8_meltingPoint (va_wsS RX8 85 yX8_isThree wsX8_isThree) := goodIn_app (goodIn_of _ (by decide +kernel)) ggX8_meltingPoint_X8_isThree
set_option maxRecDepth 20000 in
theorem ggX8_meltingPoint_X8_furnace : GoodIn wsX8_meltingPoint wsX8_furnace := goodIn_r _ [11] (by decide +kernel) (by decide +kernel)
set_option maxRecDepth 20000 in
theorem gX8_meltingPoint_X8_furnace : GoodIn wsX8_meltingPoint (va_wsS RX8 50 yX8_furnace wsX8_furnace) := goodIn_app (goodIn_of _ (by decide +kernel)) ggX8_meltingPoint_X8_furnace
set_option maxRecDepth 20000 in
theorem ggX8_meltingPoint_X8_mass : GoodIn wsX8_meltingPoint wsX8_mass := goodIn_ca (goodIn_r _ [15, 16, 22, 23, 24, 25, 26, 27, 28, 29, 30, 31, 32, 33, 34, 35, 36, 37, 38, 39, 40, 41, 42, 43] (by decide +kernel) (by decide +kernel)) (goodIn_sub (fun _ h => List.mem_cons_of_mem _ (List.mem_append_left _ (List.mem_append_right _ h))) (by decide +kernel))
set_option maxRecDepth 20000 in
theorem gX8_meltingPoint_X8_mass : GoodIn wsX8_meltingPoint (wsV RX8 71 RX8 yX8_mass wsX8_mass) := goodIn_app (goodIn_of _ (by decide +kernel)) ggX8_meltingPoint_X8_mass
set_option maxRecDepth 20000 in
theorem ggX8_meltingPoint_X8_point : GoodIn wsX8_meltingPoint wsX8_point := goodIn_ca (goodIn_ca (goodIn_r _ [20, 16, 21, 12, 13, 14, 4, 15, 22, 23, 24, 25, 26, 27, 28, 29, 30, 31, 32, 33, 34, 35, 36, 37, 38, 39, 40, 41, 42, 43] (by decide +kernel) (by decide +kernel)) (goodIn_sub (fun _ h => List.mem_cons_of_mem _ (List.mem_append_left _ (List.mem_append_right _ h))) (by decide +kernel))) (goodIn_sub (fun _ h => List.mem_cons_of_mem _ (List.mem_append_right _ h)) (by decide +kernel))
set_option maxRecDepth 20000 in
theorem gX8_meltingPoint_X8_point : GoodIn wsX8_meltingPoint (wsV RX8 74 RX8 yX8_point wsX8_point) := goodIn_app (goodIn_of _ (by decide +kernel)) ggX8_meltingPoint_X8_point
theorem dX8_meltingPoint_0 : decode cX8_meltingPoint 0 = .ok (.aload_n 0, 1) := by decide +kernel
theorem dX8_meltingPoint_1 : decode cX8_meltingPoint 1 = .ok (.iload_n 1, 1) := by decide +kernel
theorem dX8_meltingPoint_2 : decode cX8_meltingPoint 2 = .ok (.invokestatic 85, 3) := by decide +kernel
theorem dX8_meltingPoint_5 : decode cX8_meltingPoint 5 = .ok (.ifCond .ne 7, 3) := by decide +kernel
theorem dX8_meltingPoint_8 : decode cX8_meltingPoint 8 = .ok (.iconst 1, 1) := by decide +kernel
theorem dX8_meltingPoint_9 : decode cX8_meltingPoint 9 = .ok (.goto 19, 3) := by decide +kernel
theorem dX8_meltingPoint_12 : decode cX8_meltingPoint 12 = .ok (.aload_n 0, 1) := by decide +kernel
theorem dX8_meltingPoint_13 : decode cX8_meltingPoint 13 = .ok (.iload_n 1, 1) := by decide +kernel
theorem dX8_meltingPoint_14 : decode cX8_meltingPoint 14 = .ok (.invokestatic 50, 3) := by decide +kernel
theorem dX8_meltingPoint_17 : decode cX8_meltingPoint 17 = .ok (.invokevirtual 71, 3) := by decide +kernel
theorem dX8_meltingPoint_20 : decode cX8_meltingPoint 20 = .ok (.ifCond .ne 7, 3) := by decide +kernel
theorem dX8_meltingPoint_23 : decode cX8_meltingPoint 23 = .ok (.iconst 2, 1) := by decide +kernel
theorem dX8_meltingPoint_24 : decode cX8_meltingPoint 24 = .ok (.goto 4, 3) := by decide +kernel
theorem dX8_meltingPoint_27 : decode cX8_meltingPoint 27 = .ok (.iconst 0, 1) := by decide +kernel
theorem dX8_meltingPoint_28 : decode cX8_meltingPoint 28 = .ok (.putfield 57, 3) := by decide +kernel
theorem dX8_meltingPoint_31 : decode cX8_meltingPoint 31 = .ok (.aload_n 0, 1) := by decide +kernel
theorem dX8_meltingPoint_32 : decode cX8_meltingPoint 32 = .ok (.getfield 57, 3) := by decide +kernel
theorem dX8_meltingPoint_35 : decode cX8_meltingPoint 35 = .ok (.ifCond .ne 14, 3) := by decide +kernel
theorem dX8_meltingPoint_38 : decode cX8_meltingPoint 38 = .ok (.aload_n 0, 1) := by decide +kernel
theorem dX8_meltingPoint_39 : decode cX8_meltingPoint 39 = .ok (.iload_n 1, 1) := by decide +kernel
theorem dX8_meltingPoint_40 : decode cX8_meltingPoint 40 = .ok (.invokestatic 50, 3) := by decide +kernel
theorem dX8_meltingPoint_43 : decode cX8_meltingPoint 43 = .ok (.invokevirtual 74, 3) := by decide +kernel
theorem dX8_meltingPoint_46 : decode cX8_meltingPoint 46 = .ok (.goto 4, 3) := by decide +kernel
theorem dX8_meltingPoint_49 : decode cX8_meltingPoint 49 = .ok (.iconst 0, 1) := by decide +kernel
theorem dX8_meltingPoint_50 : decode cX8_meltingPoint 50 = .ok (.ireturn, 1) := by decide +kernel
set_option maxRecDepth 20000 in
theorem ggX8_meltingPointByDifferences_X8_meltingPoint : GoodIn wsX8_meltingPointByDifferences wsX8_meltingPoint := goodIn_ca (goodIn_ca (goodIn_r _ [5, 6, 7, 8, 4, 9, 10, 11, 12, 13, 14, 15, 16, 17, 18, 19, 20, 21, 22, 23, 24, 25, 26, 27, 28, 29, 30, 31, 32, 33, 34, 35, 36, 37, 38, 39, 40, 41, 42, 43, 44, 45, 46, 47] (by decide +kernel) (by decide +kernel)) (goodIn_sub (fun _ h => List.mem_cons_of_mem _ (List.mem_append_left _ (List.mem_append_right _ h))) (by decide +kernel))) (goodIn_sub (fun _ h => List.mem_cons_of_mem _ (List.mem_append_right _ h)) (by decide +kernel))
set_option maxRecDepth 20000 in
theorem gX8_meltingPointByDifferences_X8_meltingPoint : GoodIn wsX8_meltingPointByDifferences (wsV RX8 175 RX8 yX8_meltingPoint wsX8_meltingPoint) := goodIn_app (goodIn_of _ (by decide +kernel)) ggX8_meltingPointByDifferences_X8_meltingPoint
theorem dX8_meltingPointByDifferences_0 : decode cX8_meltingPointByDifferences 0 = .ok (.aload_n 0, 1) := by decide +kernel
theorem dX8_meltingPointByDifferences_1 : decode cX8_meltingPointByDifferences 1 = .ok (.iload_n 1, 1) := by decide +kernel
theorem dX8_meltingPointByDifferences_2 : decode cX8_meltingPointByDifferences 2 = .ok (.invokevirtual 175, 3) := by decide +kernel
theorem dX8_meltingPointByDifferences_5 : decode cX8_meltingPointByDifferences 5 = .ok (.ireturn, 1) := by decide +kernel
set_option maxRecDepth 20000 in
theorem ggX8_isMolten_X8_isThree : GoodIn wsX8_isMolten wsX8_isThree := goodIn_r _ [5, 6, 7, 4, 8] (by decide +kernel) (by decide +kernel)
set_option maxRecDepth 20000 in
theorem gX8_isMolten_X8_isThree : GoodIn wsX8_isMolten (va_wsS RX8 85 yX8_isThree wsX8_isThree) := goodIn_app (goodIn_of _ (by decide +kernel)) ggX8_isMolten_X8_isThree
set_option maxRecDepth 20000 in
theorem ggX8_isMolten_X8_furnace : GoodIn wsX8_isMolten wsX8_furnace := goodIn_r _ [11] (by decide +kernel) (by decide +kernel)
set_option maxRecDepth 20000 in
theorem gX8_isMolten_X8_furnace : GoodIn wsX8_isMolten (va_wsS RX8 50 yX8_furnace wsX8_furnace) := goodIn_app (goodIn_of _ (by decide +kernel)) ggX8_isMolten_X8_furnace
set_option maxRecDepth 20000 in
theorem ggX8_isMolten_X8_isFluid : GoodIn wsX8_isMolten wsX8_isFluid := goodIn_ca (goodIn_ca (goodIn_r _ [15, 16, 17, 18, 19, 4, 20, 21, 22, 23, 24, 25, 26, 27, 28, 29, 30, 31, 32, 33, 34, 35, 36, 37, 38, 39, 40, 41, 42, 43, 44, 45, 46, 47] (by decide +kernel) (by decide +kernel)) (goodIn_sub (fun _ h => List.mem_cons_of_mem _ (List.mem_append_left _ (List.mem_append_right _ h))) (by decide +kernel))) (goodIn_sub (fun _ h => List.mem_cons_of_mem _ (List.mem_append_right _ h)) (by decide +kernel))
set_option maxRecDepth 20000 in
theorem gX8_isMolten_X8_isFluid : GoodIn wsX8_isMolten (wsV RX8 112 RX8 yX8_isFluid wsX8_isFluid) := goodIn_app (goodIn_of _ (by decide +kernel)) ggX8_isMolten_X8_isFluid
theorem dX8_isMolten_0 : decode cX8_isMolten 0 = .ok (.aload_n 0, 1) := by decide +kernel
theorem dX8_isMolten_1 : decode cX8_isMolten 1 = .ok (.iload_n 1, 1) := by decide +kernel
theorem dX8_isMolten_2 : decode cX8_isMolten 2 = .ok (.invokestatic 85, 3) := by decide +kernel
theorem dX8_isMolten_5 : decode cX8_isMolten 5 = .ok (.ifCond .eq 7, 3) := by decide +kernel
theorem dX8_isMolten_8 : decode cX8_isMolten 8 = .ok (.iconst 0, 1) := by decide +kernel
theorem dX8_isMolten_9 : decode cX8_isMolten 9 = .ok (.goto 4, 3) := by decide +kernel
theorem dX8_isMolten_12 : decode cX8_isMolten 12 = .ok (.iconst 1, 1) := by decide +kernel
theorem dX8_isMolten_13 : decode cX8_isMolten 13 = .ok (.putfield 57, 3) := by decide +kernel
theorem dX8_isMolten_16 : decode cX8_isMolten 16 = .ok (.aload_n 0, 1) := by decide +kernel
theorem dX8_isMolten_17 : decode cX8_isMolten 17 = .ok (.getfield 57, 3) := by decide +kernel
theorem dX8_isMolten_20 : decode cX8_isMolten 20 = .ok (.ifCond .ne 18, 3) := by decide +kernel
theorem dX8_isMolten_23 : decode cX8_isMolten 23 = .ok (.aload_n 0, 1) := by decide +kernel
theorem dX8_isMolten_24 : decode cX8_isMolten 24 = .ok (.iload_n 1, 1) := by decide +kernel
theorem dX8_isMolten_25 : decode cX8_isMolten 25 = .ok (.invokestatic 50, 3) := by decide +kernel
theorem dX8_isMolten_28 : decode cX8_isMolten 28 = .ok (.invokevirtual 112, 3) := by decide +kernel
theorem dX8_isMolten_31 : decode cX8_isMolten 31 = .ok (.ifCond .eq 7, 3) := by decide +kernel
theorem dX8_isMolten_34 : decode cX8_isMolten 34 = .ok (.iconst 1, 1) := by decide +kernel
theorem dX8_isMolten_35 : decode cX8_isMolten 35 = .ok (.goto 4, 3) := by decide +kernel
theorem dX8_isMolten_38 : decode cX8_isMolten 38 = .ok (.iconst 0, 1) := by decide +kernel
theorem dX8_isMolten_39 : decode cX8_isMolten 39 = .ok (.ireturn, 1) := by decide +kernel
set_option maxRecDepth 20000 in
theorem ggX8_minutesUntilMolten_X8_isThree : GoodIn wsX8_minutesUntilMolten wsX8_isThree := goodIn_r _ [6, 7, 8, 5, 9] (by decide +kernel) (by decide +kernel)
set_option maxRecDepth 20000 in
theorem gX8_minutesUntilMolten_X8_isThree : GoodIn wsX8_minutesUntilMolten (va_wsS RX8 85 yX8_isThree wsX8_isThree) := goodIn_app (goodIn_of _ (by decide +kernel)) ggX8_minutesUntilMolten_X8_isThree
set_option maxRecDepth 20000 in
theorem ggX8_minutesUntilMolten_X8_fail : GoodIn wsX8_minutesUntilMolten wsX8_fail := goodIn_r _ [13, 2, 30, 31, 32, 33, 34, 35, 36, 37, 38, 39, 40, 41, 42, 43, 44, 45, 46, 47, 48, 49, 50, 51] (by decide +kernel) (by decide +kernel)
set_option maxRecDepth 20000 in
theorem gX8_minutesUntilMolten_X8_fail : GoodIn wsX8_minutesUntilMolten (wsV RX8 89 RX8 yX8_fail wsX8_fail) := goodIn_app (goodIn_of _ (by decide +kernel)) ggX8_minutesUntilMolten_X8_fail
set_option maxRecDepth 20000 in
theorem ggX8_minutesUntilMolten_X8_furnace : GoodIn wsX8_minutesUntilMolten wsX8_furnace := goodIn_r _ [16] (by decide +kernel) (by decide +kernel)
set_option maxRecDepth 20000 in
theorem gX8_minutesUntilMolten_X8_furnace : GoodIn wsX8_minutesUntilMolten (va_wsS RX8 50 yX8_furnace wsX8_furnace) := goodIn_app (goodIn_of _ (by decide +kernel)) ggX8_minutesUntilMolten_X8_furnace
set_option maxRecDepth 20000 in
theorem ggX8_minutesUntilMolten_X8_mass : GoodIn wsX8_minutesUntilMolten wsX8_mass := goodIn_ca (goodIn_r _ [20, 1, 30, 31, 32, 33, 34, 35, 36, 37, 38, 39, 40, 41, 42, 43, 44, 45, 46, 47, 48, 49, 50, 51] (by decide +kernel) (by decide +kernel)) (goodIn_sub (fun _ h => List.mem_cons_of_mem _ (List.mem_append_left _ (List.mem_append_right _ h))) (by decide +kernel))
set_option maxRecDepth 20000 in
theorem gX8_minutesUntilMolten_X8_mass : GoodIn wsX8_minutesUntilMolten (wsV RX8 71 RX8 yX8_mass wsX8_mass) := goodIn_app (goodIn_of _ (by decide +kernel)) ggX8_minutesUntilMolten_X8_mass
set_option maxRecDepth 20000 in
theorem ggX8_minutesUntilMolten_X8_isFluid : GoodIn wsX8_minutesUntilMolten wsX8_isFluid := goodIn_ca (goodIn_ca (goodIn_r _ [24, 1, 17, 18, 19, 5, 20, 25, 26, 27, 28, 29, 30, 31, 32, 33, 34, 35, 36, 37, 38, 39, 40, 41, 42, 43, 44, 45, 46, 47, 48, 49, 50, 51] (by decide +kernel) (by decide +kernel)) (goodIn_sub (fun _ h => List.mem_cons_of_mem _ (List.mem_append_left _ (List.mem_append_right _ h))) (by decide +kernel))) (goodIn_sub (fun _ h => List.mem_cons_of_mem _ (List.mem_append_right _ h)) (by decide +kernel))
set_option maxRecDepth 20000 in
theorem gX8_minutesUntilMolten_X8_isFluid : GoodIn wsX8_minutesUntilMolten (wsV RX8 112 RX8 yX8_isFluid wsX8_isFluid) := goodIn_app (goodIn_of _ (by decide +kernel)) ggX8_minutesUntilMolten_X8_isFluid
set_option maxRecDepth 20000 in
theorem ggX8_minutesUntilMolten_X8_point : GoodIn wsX8_minutesUntilMolten wsX8_point := goodIn_ca (goodIn_ca (goodIn_r _ [28, 1, 29, 17, 18, 19, 5, 20, 30, 31, 32, 33, 34, 35, 36, 37, 38, 39, 40, 41, 42, 43, 44, 45, 46, 47, 48, 49, 50, 51] (by decide +kernel) (by decide +kernel)) (goodIn_sub (fun _ h => List.mem_cons_of_mem _ (List.mem_append_left _ (List.mem_append_right _ h))) (by decide +kernel))) (goodIn_sub (fun _ h => List.mem_cons_of_mem _ (List.mem_append_right _ h)) (by decide +kernel))
set_option maxRecDepth 20000 in
theorem gX8_minutesUntilMolten_X8_point : GoodIn wsX8_minutesUntilMolten (wsV RX8 74 RX8 yX8_point wsX8_point) := goodIn_app (goodIn_of _ (by decide +kernel)) ggX8_minutesUntilMolten_X8_point
theorem dX8_minutesUntilMolten_0 : decode cX8_minutesUntilMolten 0 = .ok (.iload_n 1, 1) := by decide +kernel
theorem dX8_minutesUntilMolten_1 : decode cX8_minutesUntilMolten 1 = .ok (.invokestatic 85, 3) := by decide +kernel
theorem dX8_minutesUntilMolten_4 : decode cX8_minutesUntilMolten 4 = .ok (.ifCond .ne 9, 3) := by decide +kernel
theorem dX8_minutesUntilMolten_7 : decode cX8_minutesUntilMolten 7 = .ok (.aload_n 0, 1) := by decide +kernel
theorem dX8_minutesUntilMolten_8 : decode cX8_minutesUntilMolten 8 = .ok (.iconst 1, 1) := by decide +kernel
theorem dX8_minutesUntilMolten_9 : decode cX8_minutesUntilMolten 9 = .ok (.invokevirtual 89, 3) := by decide +kernel
theorem dX8_minutesUntilMolten_12 : decode cX8_minutesUntilMolten 12 = .ok (.ireturn, 1) := by decide +kernel
theorem dX8_minutesUntilMolten_13 : decode cX8_minutesUntilMolten 13 = .ok (.iload_n 1, 1) := by decide +kernel
theorem dX8_minutesUntilMolten_14 : decode cX8_minutesUntilMolten 14 = .ok (.invokestatic 50, 3) := by decide +kernel
theorem dX8_minutesUntilMolten_17 : decode cX8_minutesUntilMolten 17 = .ok (.istore_n 2, 1) := by decide +kernel
theorem dX8_minutesUntilMolten_18 : decode cX8_minutesUntilMolten 18 = .ok (.iconst 0, 1) := by decide +kernel
theorem dX8_minutesUntilMolten_19 : decode cX8_minutesUntilMolten 19 = .ok (.istore_n 3, 1) := by decide +kernel
theorem dX8_minutesUntilMolten_20 : decode cX8_minutesUntilMolten 20 = .ok (.bipush 10, 2) := by decide +kernel
theorem dX8_minutesUntilMolten_22 : decode cX8_minutesUntilMolten 22 = .ok (.aload_n 0, 1) := by decide +kernel
theorem dX8_minutesUntilMolten_23 : decode cX8_minutesUntilMolten 23 = .ok (.getfield 16, 3) := by decide +kernel
theorem dX8_minutesUntilMolten_26 : decode cX8_minutesUntilMolten 26 = .ok (.iload_n 2, 1) := by decide +kernel
theorem dX8_minutesUntilMolten_27 : decode cX8_minutesUntilMolten 27 = .ok (.iconst 5, 1) := by decide +kernel
theorem dX8_minutesUntilMolten_28 : decode cX8_minutesUntilMolten 28 = .ok (.iadd, 1) := by decide +kernel
theorem dX8_minutesUntilMolten_29 : decode cX8_minutesUntilMolten 29 = .ok (.iaload, 1) := by decide +kernel
theorem dX8_minutesUntilMolten_30 : decode cX8_minutesUntilMolten 30 = .ok (.imul, 1) := by decide +kernel
theorem dX8_minutesUntilMolten_31 : decode cX8_minutesUntilMolten 31 = .ok (.iconst 5, 1) := by decide +kernel
theorem dX8_minutesUntilMolten_32 : decode cX8_minutesUntilMolten 32 = .ok (.isub, 1) := by decide +kernel
theorem dX8_minutesUntilMolten_33 : decode cX8_minutesUntilMolten 33 = .ok (.istore 4, 2) := by decide +kernel
theorem dX8_minutesUntilMolten_35 : decode cX8_minutesUntilMolten 35 = .ok (.aload_n 0, 1) := by decide +kernel
theorem dX8_minutesUntilMolten_36 : decode cX8_minutesUntilMolten 36 = .ok (.aload_n 0, 1) := by decide +kernel
theorem dX8_minutesUntilMolten_37 : decode cX8_minutesUntilMolten 37 = .ok (.iload_n 2, 1) := by decide +kernel
theorem dX8_minutesUntilMolten_38 : decode cX8_minutesUntilMolten 38 = .ok (.invokevirtual 71, 3) := by decide +kernel
theorem dX8_minutesUntilMolten_41 : decode cX8_minutesUntilMolten 41 = .ok (.ifCond .eq 22, 3) := by decide +kernel
theorem dX8_minutesUntilMolten_44 : decode cX8_minutesUntilMolten 44 = .ok (.aload_n 0, 1) := by decide +kernel
theorem dX8_minutesUntilMolten_45 : decode cX8_minutesUntilMolten 45 = .ok (.getfield 16, 3) := by decide +kernel
theorem dX8_minutesUntilMolten_48 : decode cX8_minutesUntilMolten 48 = .ok (.iload_n 2, 1) := by decide +kernel
theorem dX8_minutesUntilMolten_49 : decode cX8_minutesUntilMolten 49 = .ok (.iconst 5, 1) := by decide +kernel
theorem dX8_minutesUntilMolten_50 : decode cX8_minutesUntilMolten 50 = .ok (.iadd, 1) := by decide +kernel
theorem dX8_minutesUntilMolten_51 : decode cX8_minutesUntilMolten 51 = .ok (.iaload, 1) := by decide +kernel
theorem dX8_minutesUntilMolten_52 : decode cX8_minutesUntilMolten 52 = .ok (.ifCond .ne 15, 3) := by decide +kernel
theorem dX8_minutesUntilMolten_55 : decode cX8_minutesUntilMolten 55 = .ok (.aload_n 0, 1) := by decide +kernel
theorem dX8_minutesUntilMolten_56 : decode cX8_minutesUntilMolten 56 = .ok (.iload_n 2, 1) := by decide +kernel
theorem dX8_minutesUntilMolten_57 : decode cX8_minutesUntilMolten 57 = .ok (.invokevirtual 112, 3) := by decide +kernel
theorem dX8_minutesUntilMolten_60 : decode cX8_minutesUntilMolten 60 = .ok (.ifCond .ne 7, 3) := by decide +kernel
theorem dX8_minutesUntilMolten_63 : decode cX8_minutesUntilMolten 63 = .ok (.iconst 2, 1) := by decide +kernel
theorem dX8_minutesUntilMolten_64 : decode cX8_minutesUntilMolten 64 = .ok (.goto 4, 3) := by decide +kernel
theorem dX8_minutesUntilMolten_67 : decode cX8_minutesUntilMolten 67 = .ok (.iconst 0, 1) := by decide +kernel
theorem dX8_minutesUntilMolten_68 : decode cX8_minutesUntilMolten 68 = .ok (.putfield 57, 3) := by decide +kernel
theorem dX8_minutesUntilMolten_71 : decode cX8_minutesUntilMolten 71 = .ok (.aload_n 0, 1) := by decide +kernel
theorem dX8_minutesUntilMolten_72 : decode cX8_minutesUntilMolten 72 = .ok (.getfield 57, 3) := by decide +kernel
theorem dX8_minutesUntilMolten_75 : decode cX8_minutesUntilMolten 75 = .ok (.ifCond .ne 11, 3) := by decide +kernel
theorem dX8_minutesUntilMolten_78 : decode cX8_minutesUntilMolten 78 = .ok (.aload_n 0, 1) := by decide +kernel
