theorem dX8_skims_97 : decode cX8_skims 97 = .ok (.aload_n 0, 1) := by decide +kernel
theorem dX8_skims_98 : decode cX8_skims 98 = .ok (.getfield 16, 3) := by decide +kernel
theorem dX8_skims_101 : decode cX8_skims 101 = .ok (.iload_n 2, 1) := by decide +kernel
theorem dX8_skims_102 : decode cX8_skims 102 = .ok (.iload 4, 2) := by decide +kernel
theorem dX8_skims_104 : decode cX8_skims 104 = .ok (.iadd, 1) := by decide +kernel
theorem dX8_skims_105 : decode cX8_skims 105 = .ok (.iaload, 1) := by decide +kernel
theorem dX8_skims_106 : decode cX8_skims 106 = .ok (.if_icmp .ge 9, 3) := by decide +kernel
theorem dX8_skims_109 : decode cX8_skims 109 = .ok (.iload_n 3, 1) := by decide +kernel
theorem dX8_skims_110 : decode cX8_skims 110 = .ok (.iconst 4, 1) := by decide +kernel
theorem dX8_skims_111 : decode cX8_skims 111 = .ok (.idiv, 1) := by decide +kernel
theorem dX8_skims_112 : decode cX8_skims 112 = .ok (.goto 12, 3) := by decide +kernel
theorem dX8_skims_115 : decode cX8_skims 115 = .ok (.aload_n 0, 1) := by decide +kernel
theorem dX8_skims_116 : decode cX8_skims 116 = .ok (.getfield 16, 3) := by decide +kernel
theorem dX8_skims_119 : decode cX8_skims 119 = .ok (.iload_n 2, 1) := by decide +kernel
theorem dX8_skims_120 : decode cX8_skims 120 = .ok (.iload 4, 2) := by decide +kernel
theorem dX8_skims_122 : decode cX8_skims 122 = .ok (.iadd, 1) := by decide +kernel
theorem dX8_skims_123 : decode cX8_skims 123 = .ok (.iaload, 1) := by decide +kernel
theorem dX8_skims_124 : decode cX8_skims 124 = .ok (.istore 5, 2) := by decide +kernel
theorem dX8_skims_126 : decode cX8_skims 126 = .ok (.aload_n 0, 1) := by decide +kernel
theorem dX8_skims_127 : decode cX8_skims 127 = .ok (.getfield 16, 3) := by decide +kernel
theorem dX8_skims_130 : decode cX8_skims 130 = .ok (.iload_n 2, 1) := by decide +kernel
theorem dX8_skims_131 : decode cX8_skims 131 = .ok (.iconst 3, 1) := by decide +kernel
theorem dX8_skims_132 : decode cX8_skims 132 = .ok (.iadd, 1) := by decide +kernel
theorem dX8_skims_133 : decode cX8_skims 133 = .ok (.iconst 0, 1) := by decide +kernel
theorem dX8_skims_134 : decode cX8_skims 134 = .ok (.iastore, 1) := by decide +kernel
theorem dX8_skims_135 : decode cX8_skims 135 = .ok (.aload_n 0, 1) := by decide +kernel
theorem dX8_skims_136 : decode cX8_skims 136 = .ok (.getfield 16, 3) := by decide +kernel
theorem dX8_skims_139 : decode cX8_skims 139 = .ok (.iload_n 2, 1) := by decide +kernel
theorem dX8_skims_140 : decode cX8_skims 140 = .ok (.iload 4, 2) := by decide +kernel
theorem dX8_skims_142 : decode cX8_skims 142 = .ok (.iadd, 1) := by decide +kernel
theorem dX8_skims_143 : decode cX8_skims 143 = .ok (.dup2, 1) := by decide +kernel
theorem dX8_skims_144 : decode cX8_skims 144 = .ok (.iaload, 1) := by decide +kernel
theorem dX8_skims_145 : decode cX8_skims 145 = .ok (.iload 5, 2) := by decide +kernel
theorem dX8_skims_147 : decode cX8_skims 147 = .ok (.isub, 1) := by decide +kernel
theorem dX8_skims_148 : decode cX8_skims 148 = .ok (.iastore, 1) := by decide +kernel
theorem dX8_skims_149 : decode cX8_skims 149 = .ok (.aload_n 0, 1) := by decide +kernel
theorem dX8_skims_150 : decode cX8_skims 150 = .ok (.getfield 16, 3) := by decide +kernel
theorem dX8_skims_153 : decode cX8_skims 153 = .ok (.bipush 8, 2) := by decide +kernel
theorem dX8_skims_155 : decode cX8_skims 155 = .ok (.dup2, 1) := by decide +kernel
theorem dX8_skims_156 : decode cX8_skims 156 = .ok (.iaload, 1) := by decide +kernel
theorem dX8_skims_157 : decode cX8_skims 157 = .ok (.iload_n 3, 1) := by decide +kernel
theorem dX8_skims_158 : decode cX8_skims 158 = .ok (.iadd, 1) := by decide +kernel
theorem dX8_skims_159 : decode cX8_skims 159 = .ok (.iastore, 1) := by decide +kernel
theorem dX8_skims_160 : decode cX8_skims 160 = .ok (.aload_n 0, 1) := by decide +kernel
theorem dX8_skims_161 : decode cX8_skims 161 = .ok (.getfield 16, 3) := by decide +kernel
theorem dX8_skims_164 : decode cX8_skims 164 = .ok (.iconst 5, 1) := by decide +kernel
theorem dX8_skims_165 : decode cX8_skims 165 = .ok (.iload 4, 2) := by decide +kernel
theorem dX8_skims_167 : decode cX8_skims 167 = .ok (.iadd, 1) := by decide +kernel
theorem dX8_skims_168 : decode cX8_skims 168 = .ok (.dup2, 1) := by decide +kernel
theorem dX8_skims_169 : decode cX8_skims 169 = .ok (.iaload, 1) := by decide +kernel
theorem dX8_skims_170 : decode cX8_skims 170 = .ok (.iload 5, 2) := by decide +kernel
theorem dX8_skims_172 : decode cX8_skims 172 = .ok (.iadd, 1) := by decide +kernel
theorem dX8_skims_173 : decode cX8_skims 173 = .ok (.iastore, 1) := by decide +kernel
theorem dX8_skims_174 : decode cX8_skims 174 = .ok (.iload_n 3, 1) := by decide +kernel
theorem dX8_skims_175 : decode cX8_skims 175 = .ok (.iload 5, 2) := by decide +kernel
theorem dX8_skims_177 : decode cX8_skims 177 = .ok (.iadd, 1) := by decide +kernel
theorem dX8_skims_178 : decode cX8_skims 178 = .ok (.ireturn, 1) := by decide +kernel
set_option maxRecDepth 20000 in
theorem ggX8_skim_X8_begins : GoodIn wsX8_skim wsX8_begins := goodIn_ca (goodIn_r _ [5, 6, 7, 8, 9, 10, 4, 11, 48, 49, 50, 51, 52, 53, 54, 55, 56, 57, 58, 59, 60, 61, 62, 63, 64, 65, 66, 67, 68, 69] (by decide +kernel) (by decide +kernel)) (goodIn_sub (fun _ h => List.mem_cons_of_mem _ (List.mem_append_left _ (List.mem_append_right _ h))) (by decide +kernel))
set_option maxRecDepth 20000 in
theorem gX8_skim_X8_begins : GoodIn wsX8_skim (wsV RX8 96 RX8 yX8_begins wsX8_begins) := goodIn_app (goodIn_of _ (by decide +kernel)) ggX8_skim_X8_begins
set_option maxRecDepth 20000 in
theorem ggX8_skim_X8_skims : GoodIn wsX8_skim wsX8_skims := goodIn_ca (goodIn_ca (goodIn_r _ [15, 8, 16, 17, 4, 18, 19, 20, 21, 22, 23, 24, 25, 6, 26, 27, 28, 29, 30, 31, 32, 33, 34, 35, 36, 37, 38, 39, 40, 41, 48, 49, 50, 51, 52, 53, 54, 55, 56, 57, 58, 59, 60, 61, 62, 63, 64, 65, 66, 67, 68, 69] (by decide +kernel) (by decide +kernel)) (goodIn_sub (fun _ h => List.mem_cons_of_mem _ (List.mem_append_left _ (List.mem_append_right _ h))) (by decide +kernel))) (goodIn_sub (fun _ h => List.mem_cons_of_mem _ (List.mem_append_right _ h)) (by decide +kernel))
set_option maxRecDepth 20000 in
theorem gX8_skim_X8_skims : GoodIn wsX8_skim (wsV RX8 115 RX8 yX8_skims wsX8_skims) := goodIn_app (goodIn_of _ (by decide +kernel)) ggX8_skim_X8_skims
set_option maxRecDepth 20000 in
theorem ggX8_skim_X8_ends : GoodIn wsX8_skim wsX8_ends := goodIn_ca (goodIn_r _ [45, 6, 8, 7, 46, 47, 9, 10, 4, 11, 48, 49, 50, 51, 52, 53, 54, 55, 56, 57, 58, 59, 60, 61, 62, 63, 64, 65, 66, 67, 68, 69] (by decide +kernel) (by decide +kernel)) (goodIn_sub (fun _ h => List.mem_cons_of_mem _ (List.mem_append_left _ (List.mem_append_right _ h))) (by decide +kernel))
set_option maxRecDepth 20000 in
theorem gX8_skim_X8_ends : GoodIn wsX8_skim (wsV RX8 106 RX8 yX8_ends wsX8_ends) := goodIn_app (goodIn_of _ (by decide +kernel)) ggX8_skim_X8_ends
theorem dX8_skim_0 : decode cX8_skim 0 = .ok (.aload_n 0, 1) := by decide +kernel
theorem dX8_skim_1 : decode cX8_skim 1 = .ok (.invokevirtual 96, 3) := by decide +kernel
theorem dX8_skim_4 : decode cX8_skim 4 = .ok (.aload_n 0, 1) := by decide +kernel
theorem dX8_skim_5 : decode cX8_skim 5 = .ok (.aload_n 0, 1) := by decide +kernel
theorem dX8_skim_6 : decode cX8_skim 6 = .ok (.iload_n 1, 1) := by decide +kernel
theorem dX8_skim_7 : decode cX8_skim 7 = .ok (.invokevirtual 115, 3) := by decide +kernel
theorem dX8_skim_10 : decode cX8_skim 10 = .ok (.invokevirtual 106, 3) := by decide +kernel
theorem dX8_skim_13 : decode cX8_skim 13 = .ok (.ireturn, 1) := by decide +kernel
set_option maxRecDepth 20000 in
theorem ggX8_taps_X8_isThree : GoodIn wsX8_taps wsX8_isThree := goodIn_r _ [5, 6, 7, 4, 8] (by decide +kernel) (by decide +kernel)
set_option maxRecDepth 20000 in
theorem gX8_taps_X8_isThree : GoodIn wsX8_taps (va_wsS RX8 85 yX8_isThree wsX8_isThree) := goodIn_app (goodIn_of _ (by decide +kernel)) ggX8_taps_X8_isThree
set_option maxRecDepth 20000 in
theorem ggX8_taps_X8_fail : GoodIn wsX8_taps wsX8_fail := goodIn_r _ [12, 13, 50, 51, 52, 53, 54, 55, 56, 57, 58, 59, 60, 61, 62, 63, 64, 65, 66, 67, 68, 69, 70, 71] (by decide +kernel) (by decide +kernel)
set_option maxRecDepth 20000 in
theorem gX8_taps_X8_fail : GoodIn wsX8_taps (wsV RX8 89 RX8 yX8_fail wsX8_fail) := goodIn_app (goodIn_of _ (by decide +kernel)) ggX8_taps_X8_fail
set_option maxRecDepth 20000 in
theorem ggX8_taps_X8_isIn : GoodIn wsX8_taps wsX8_isIn := goodIn_r _ [8] (by decide +kernel) (by decide +kernel)
set_option maxRecDepth 20000 in
theorem gX8_taps_X8_isIn : GoodIn wsX8_taps (va_wsS RX8 67 yX8_isIn wsX8_isIn) := goodIn_app (goodIn_of _ (by decide +kernel)) ggX8_taps_X8_isIn
set_option maxRecDepth 20000 in
theorem ggX8_taps_X8_furnace : GoodIn wsX8_taps wsX8_furnace := goodIn_r _ [16] (by decide +kernel) (by decide +kernel)
set_option maxRecDepth 20000 in
theorem gX8_taps_X8_furnace : GoodIn wsX8_taps (va_wsS RX8 50 yX8_furnace wsX8_furnace) := goodIn_app (goodIn_of _ (by decide +kernel)) ggX8_taps_X8_furnace
set_option maxRecDepth 20000 in
theorem ggX8_taps_X8_mass : GoodIn wsX8_taps wsX8_mass := goodIn_ca (goodIn_r _ [20, 1, 50, 51, 52, 53, 54, 55, 56, 57, 58, 59, 60, 61, 62, 63, 64, 65, 66, 67, 68, 69, 70, 71] (by decide +kernel) (by decide +kernel)) (goodIn_sub (fun _ h => List.mem_cons_of_mem _ (List.mem_append_left _ (List.mem_append_right _ h))) (by decide +kernel))
set_option maxRecDepth 20000 in
theorem gX8_taps_X8_mass : GoodIn wsX8_taps (wsV RX8 71 RX8 yX8_mass wsX8_mass) := goodIn_app (goodIn_of _ (by decide +kernel)) ggX8_taps_X8_mass
set_option maxRecDepth 20000 in
theorem ggX8_taps_X8_isFluid : GoodIn wsX8_taps wsX8_isFluid := goodIn_ca (goodIn_ca (goodIn_r _ [24, 1, 17, 18, 19, 4, 20, 25, 26, 27, 28, 29, 50, 51, 52, 53, 54, 55, 56, 57, 58, 59, 60, 61, 62, 63, 64, 65, 66, 67, 68, 69, 70, 71] (by decide +kernel) (by decide +kernel)) (goodIn_sub (fun _ h => List.mem_cons_of_mem _ (List.mem_append_left _ (List.mem_append_right _ h))) (by decide +kernel))) (goodIn_sub (fun _ h => List.mem_cons_of_mem _ (List.mem_append_right _ h)) (by decide +kernel))
set_option maxRecDepth 20000 in
theorem gX8_taps_X8_isFluid : GoodIn wsX8_taps (wsV RX8 112 RX8 yX8_isFluid wsX8_isFluid) := goodIn_app (goodIn_of _ (by decide +kernel)) ggX8_taps_X8_isFluid
set_option maxRecDepth 20000 in
theorem ggX8_taps_X8_ladle : GoodIn wsX8_taps wsX8_ladle := goodIn_r _ [32] (by decide +kernel) (by decide +kernel)
set_option maxRecDepth 20000 in
theorem gX8_taps_X8_ladle : GoodIn wsX8_taps (va_wsS RX8 54 yX8_ladle wsX8_ladle) := goodIn_app (goodIn_of _ (by decide +kernel)) ggX8_taps_X8_ladle
set_option maxRecDepth 20000 in
theorem ggX8_taps_X8_takes : GoodIn wsX8_taps wsX8_takes := goodIn_ca (goodIn_ca (goodIn_r _ [36, 37, 1, 17, 18, 19, 4, 20, 50, 51, 52, 53, 54, 55, 56, 57, 58, 59, 60, 61, 62, 63, 64, 65, 66, 67, 68, 69, 70, 71] (by decide +kernel) (by decide +kernel)) (goodIn_sub (fun _ h => List.mem_cons_of_mem _ (List.mem_append_left _ (List.mem_append_right _ h))) (by decide +kernel))) (goodIn_sub (fun _ h => List.mem_cons_of_mem _ (List.mem_append_right _ h)) (by decide +kernel))
set_option maxRecDepth 20000 in
theorem gX8_taps_X8_takes : GoodIn wsX8_taps (wsV RX8 118 RX8 yX8_takes wsX8_takes) := goodIn_app (goodIn_of _ (by decide +kernel)) ggX8_taps_X8_takes
set_option maxRecDepth 20000 in
theorem ggX8_taps_X8_fills : GoodIn wsX8_taps wsX8_fills := goodIn_ca (goodIn_ca (goodIn_r _ [41, 1, 30, 31, 4, 32, 17, 18, 19, 20, 42, 43, 44, 45, 37, 46, 47, 48, 49, 50, 51, 52, 53, 54, 55, 56, 57, 58, 59, 60, 61, 62, 63, 64, 65, 66, 67, 68, 69, 70, 71] (by decide +kernel) (by decide +kernel)) (goodIn_sub (fun _ h => List.mem_cons_of_mem _ (List.mem_append_left _ (List.mem_append_right _ h))) (by decide +kernel))) (goodIn_sub (fun _ h => List.mem_cons_of_mem _ (List.mem_append_right _ h)) (by decide +kernel))
set_option maxRecDepth 20000 in
theorem gX8_taps_X8_fills : GoodIn wsX8_taps (wsV RX8 122 RX8 yX8_fills wsX8_fills) := goodIn_app (goodIn_of _ (by decide +kernel)) ggX8_taps_X8_fills
theorem dX8_taps_0 : decode cX8_taps 0 = .ok (.iload_n 1, 1) := by decide +kernel
theorem dX8_taps_1 : decode cX8_taps 1 = .ok (.invokestatic 85, 3) := by decide +kernel
theorem dX8_taps_4 : decode cX8_taps 4 = .ok (.ifCond .eq 10, 3) := by decide +kernel
theorem dX8_taps_7 : decode cX8_taps 7 = .ok (.iload_n 2, 1) := by decide +kernel
theorem dX8_taps_8 : decode cX8_taps 8 = .ok (.invokestatic 85, 3) := by decide +kernel
theorem dX8_taps_11 : decode cX8_taps 11 = .ok (.ifCond .ne 9, 3) := by decide +kernel
theorem dX8_taps_14 : decode cX8_taps 14 = .ok (.aload_n 0, 1) := by decide +kernel
theorem dX8_taps_15 : decode cX8_taps 15 = .ok (.iconst 1, 1) := by decide +kernel
theorem dX8_taps_16 : decode cX8_taps 16 = .ok (.invokevirtual 89, 3) := by decide +kernel
theorem dX8_taps_19 : decode cX8_taps 19 = .ok (.ireturn, 1) := by decide +kernel
theorem dX8_taps_20 : decode cX8_taps 20 = .ok (.iload_n 3, 1) := by decide +kernel
theorem dX8_taps_21 : decode cX8_taps 21 = .ok (.iconst 1, 1) := by decide +kernel
theorem dX8_taps_22 : decode cX8_taps 22 = .ok (.bipush 40, 2) := by decide +kernel
theorem dX8_taps_24 : decode cX8_taps 24 = .ok (.invokestatic 67, 3) := by decide +kernel
theorem dX8_taps_27 : decode cX8_taps 27 = .ok (.ifCond .ne 9, 3) := by decide +kernel
theorem dX8_taps_30 : decode cX8_taps 30 = .ok (.aload_n 0, 1) := by decide +kernel
theorem dX8_taps_31 : decode cX8_taps 31 = .ok (.iconst 2, 1) := by decide +kernel
theorem dX8_taps_32 : decode cX8_taps 32 = .ok (.invokevirtual 89, 3) := by decide +kernel
theorem dX8_taps_35 : decode cX8_taps 35 = .ok (.ireturn, 1) := by decide +kernel
theorem dX8_taps_36 : decode cX8_taps 36 = .ok (.aload_n 0, 1) := by decide +kernel
theorem dX8_taps_37 : decode cX8_taps 37 = .ok (.iload_n 1, 1) := by decide +kernel
theorem dX8_taps_38 : decode cX8_taps 38 = .ok (.invokestatic 50, 3) := by decide +kernel
theorem dX8_taps_41 : decode cX8_taps 41 = .ok (.invokevirtual 71, 3) := by decide +kernel
theorem dX8_taps_44 : decode cX8_taps 44 = .ok (.iload_n 3, 1) := by decide +kernel
theorem dX8_taps_45 : decode cX8_taps 45 = .ok (.if_icmp .ge 9, 3) := by decide +kernel
theorem dX8_taps_48 : decode cX8_taps 48 = .ok (.aload_n 0, 1) := by decide +kernel
theorem dX8_taps_49 : decode cX8_taps 49 = .ok (.iconst 3, 1) := by decide +kernel
theorem dX8_taps_50 : decode cX8_taps 50 = .ok (.invokevirtual 89, 3) := by decide +kernel
theorem dX8_taps_53 : decode cX8_taps 53 = .ok (.ireturn, 1) := by decide +kernel
theorem dX8_taps_54 : decode cX8_taps 54 = .ok (.aload_n 0, 1) := by decide +kernel
theorem dX8_taps_55 : decode cX8_taps 55 = .ok (.iload_n 1, 1) := by decide +kernel
theorem dX8_taps_56 : decode cX8_taps 56 = .ok (.invokestatic 50, 3) := by decide +kernel
theorem dX8_taps_59 : decode cX8_taps 59 = .ok (.invokevirtual 112, 3) := by decide +kernel
theorem dX8_taps_62 : decode cX8_taps 62 = .ok (.ifCond .ne 9, 3) := by decide +kernel
theorem dX8_taps_65 : decode cX8_taps 65 = .ok (.aload_n 0, 1) := by decide +kernel
theorem dX8_taps_66 : decode cX8_taps 66 = .ok (.iconst 4, 1) := by decide +kernel
theorem dX8_taps_67 : decode cX8_taps 67 = .ok (.invokevirtual 89, 3) := by decide +kernel
theorem dX8_taps_70 : decode cX8_taps 70 = .ok (.ireturn, 1) := by decide +kernel
theorem dX8_taps_71 : decode cX8_taps 71 = .ok (.aload_n 0, 1) := by decide +kernel
theorem dX8_taps_72 : decode cX8_taps 72 = .ok (.iload_n 2, 1) := by decide +kernel
theorem dX8_taps_73 : decode cX8_taps 73 = .ok (.invokestatic 54, 3) := by decide +kernel
theorem dX8_taps_76 : decode cX8_taps 76 = .ok (.invokevirtual 71, 3) := by decide +kernel
theorem dX8_taps_79 : decode cX8_taps 79 = .ok (.iload_n 3, 1) := by decide +kernel
theorem dX8_taps_80 : decode cX8_taps 80 = .ok (.iadd, 1) := by decide +kernel
theorem dX8_taps_81 : decode cX8_taps 81 = .ok (.bipush 40, 2) := by decide +kernel
theorem dX8_taps_83 : decode cX8_taps 83 = .ok (.if_icmp .le 9, 3) := by decide +kernel
theorem dX8_taps_86 : decode cX8_taps 86 = .ok (.aload_n 0, 1) := by decide +kernel
theorem dX8_taps_87 : decode cX8_taps 87 = .ok (.iconst 5, 1) := by decide +kernel
theorem dX8_taps_88 : decode cX8_taps 88 = .ok (.invokevirtual 89, 3) := by decide +kernel
theorem dX8_taps_91 : decode cX8_taps 91 = .ok (.ireturn, 1) := by decide +kernel
theorem dX8_taps_92 : decode cX8_taps 92 = .ok (.aload_n 0, 1) := by decide +kernel
theorem dX8_taps_93 : decode cX8_taps 93 = .ok (.iload_n 1, 1) := by decide +kernel
theorem dX8_taps_94 : decode cX8_taps 94 = .ok (.invokestatic 50, 3) := by decide +kernel
theorem dX8_taps_97 : decode cX8_taps 97 = .ok (.iload_n 3, 1) := by decide +kernel
theorem dX8_taps_98 : decode cX8_taps 98 = .ok (.invokevirtual 118, 3) := by decide +kernel
theorem dX8_taps_101 : decode cX8_taps 101 = .ok (.aload_n 0, 1) := by decide +kernel
theorem dX8_taps_102 : decode cX8_taps 102 = .ok (.iload_n 2, 1) := by decide +kernel
theorem dX8_taps_103 : decode cX8_taps 103 = .ok (.aload_n 0, 1) := by decide +kernel
theorem dX8_taps_104 : decode cX8_taps 104 = .ok (.getfield 16, 3) := by decide +kernel
theorem dX8_taps_107 : decode cX8_taps 107 = .ok (.iload_n 1, 1) := by decide +kernel
theorem dX8_taps_108 : decode cX8_taps 108 = .ok (.invokestatic 50, 3) := by decide +kernel
theorem dX8_taps_111 : decode cX8_taps 111 = .ok (.iconst 4, 1) := by decide +kernel
theorem dX8_taps_112 : decode cX8_taps 112 = .ok (.iadd, 1) := by decide +kernel
theorem dX8_taps_113 : decode cX8_taps 113 = .ok (.iaload, 1) := by decide +kernel
theorem dX8_taps_114 : decode cX8_taps 114 = .ok (.invokevirtual 122, 3) := by decide +kernel
theorem dX8_taps_117 : decode cX8_taps 117 = .ok (.ireturn, 1) := by decide +kernel
set_option maxRecDepth 20000 in
theorem ggX8_tap_X8_begins : GoodIn wsX8_tap wsX8_begins := goodIn_ca (goodIn_r _ [5, 6, 7, 8, 9, 10, 4, 11, 68, 69, 70, 71, 72, 73, 74, 75, 76, 77, 78, 79, 80, 81, 82, 83, 84, 85, 86, 87, 88, 89] (by decide +kernel) (by decide +kernel)) (goodIn_sub (fun _ h => List.mem_cons_of_mem _ (List.mem_append_left _ (List.mem_append_right _ h))) (by decide +kernel))
set_option maxRecDepth 20000 in
theorem gX8_tap_X8_begins : GoodIn wsX8_tap (wsV RX8 96 RX8 yX8_begins wsX8_begins) := goodIn_app (goodIn_of _ (by decide +kernel)) ggX8_tap_X8_begins
set_option maxRecDepth 20000 in
theorem ggX8_tap_X8_taps : GoodIn wsX8_tap wsX8_taps := goodIn_ca (goodIn_ca (goodIn_r _ [15, 8, 16, 17, 4, 18, 19, 20, 21, 22, 23, 24, 25, 6, 26, 27, 28, 29, 30, 31, 32, 33, 34, 35, 36, 37, 38, 39, 40, 41, 42, 43, 44, 45, 46, 47, 48, 49, 50, 51, 52, 53, 54, 55, 56, 57, 58, 59, 60, 61, 68, 69, 70, 71, 72, 73, 74, 75, 76, 77, 78, 79, 80, 81, 82, 83, 84, 85, 86, 87, 88, 89] (by decide +kernel) (by decide +kernel)) (goodIn_sub (fun _ h => List.mem_cons_of_mem _ (List.mem_append_left _ (List.mem_append_right _ h))) (by decide +kernel))) (goodIn_sub (fun _ h => List.mem_cons_of_mem _ (List.mem_append_right _ h)) (by decide +kernel))
set_option maxRecDepth 20000 in
theorem gX8_tap_X8_taps : GoodIn wsX8_tap (wsV RX8 125 RX8 yX8_taps wsX8_taps) := goodIn_app (goodIn_of _ (by decide +kernel)) ggX8_tap_X8_taps
set_option maxRecDepth 20000 in
theorem ggX8_tap_X8_ends : GoodIn wsX8_tap wsX8_ends := goodIn_ca (goodIn_r _ [65, 6, 8, 7, 66, 67, 9, 10, 4, 11, 68, 69, 70, 71, 72, 73, 74, 75, 76, 77, 78, 79, 80, 81, 82, 83, 84, 85, 86, 87, 88, 89] (by decide +kernel) (by decide +kernel)) (goodIn_sub (fun _ h => List.mem_cons_of_mem _ (List.mem_append_left _ (List.mem_append_right _ h))) (by decide +kernel))
set_option maxRecDepth 20000 in
theorem gX8_tap_X8_ends : GoodIn wsX8_tap (wsV RX8 106 RX8 yX8_ends wsX8_ends) := goodIn_app (goodIn_of _ (by decide +kernel)) ggX8_tap_X8_ends
theorem dX8_tap_0 : decode cX8_tap 0 = .ok (.aload_n 0, 1) := by decide +kernel
theorem dX8_tap_1 : decode cX8_tap 1 = .ok (.invokevirtual 96, 3) := by decide +kernel
theorem dX8_tap_4 : decode cX8_tap 4 = .ok (.aload_n 0, 1) := by decide +kernel
theorem dX8_tap_5 : decode cX8_tap 5 = .ok (.aload_n 0, 1) := by decide +kernel
theorem dX8_tap_6 : decode cX8_tap 6 = .ok (.iload_n 1, 1) := by decide +kernel
theorem dX8_tap_7 : decode cX8_tap 7 = .ok (.iload_n 2, 1) := by decide +kernel
theorem dX8_tap_8 : decode cX8_tap 8 = .ok (.iload_n 3, 1) := by decide +kernel
theorem dX8_tap_9 : decode cX8_tap 9 = .ok (.invokevirtual 125, 3) := by decide +kernel
theorem dX8_tap_12 : decode cX8_tap 12 = .ok (.invokevirtual 106, 3) := by decide +kernel
theorem dX8_tap_15 : decode cX8_tap 15 = .ok (.ireturn, 1) := by decide +kernel
set_option maxRecDepth 20000 in
theorem ggX8_backs_X8_isThree : GoodIn wsX8_backs wsX8_isThree := goodIn_r _ [5, 6, 7, 4, 8] (by decide +kernel) (by decide +kernel)
set_option maxRecDepth 20000 in
theorem gX8_backs_X8_isThree : GoodIn wsX8_backs (va_wsS RX8 85 yX8_isThree wsX8_isThree) := goodIn_app (goodIn_of _ (by decide +kernel)) ggX8_backs_X8_isThree
set_option maxRecDepth 20000 in
theorem ggX8_backs_X8_fail : GoodIn wsX8_backs wsX8_fail := goodIn_r _ [12, 13, 45, 46, 47, 48, 49, 50, 51, 52, 53, 54, 55, 56, 57, 58, 59, 60, 61, 62, 63, 64, 65, 66] (by decide +kernel) (by decide +kernel)
set_option maxRecDepth 20000 in
theorem gX8_backs_X8_fail : GoodIn wsX8_backs (wsV RX8 89 RX8 yX8_fail wsX8_fail) := goodIn_app (goodIn_of _ (by decide +kernel)) ggX8_backs_X8_fail
set_option maxRecDepth 20000 in
theorem ggX8_backs_X8_ladle : GoodIn wsX8_backs wsX8_ladle := goodIn_r _ [16] (by decide +kernel) (by decide +kernel)
set_option maxRecDepth 20000 in
theorem gX8_backs_X8_ladle : GoodIn wsX8_backs (va_wsS RX8 54 yX8_ladle wsX8_ladle) := goodIn_app (goodIn_of _ (by decide +kernel)) ggX8_backs_X8_ladle
set_option maxRecDepth 20000 in
theorem ggX8_backs_X8_mass : GoodIn wsX8_backs wsX8_mass := goodIn_ca (goodIn_r _ [20, 1, 45, 46, 47, 48, 49, 50, 51, 52, 53, 54, 55, 56, 57, 58, 59, 60, 61, 62, 63, 64, 65, 66] (by decide +kernel) (by decide +kernel)) (goodIn_sub (fun _ h => List.mem_cons_of_mem _ (List.mem_append_left _ (List.mem_append_right _ h))) (by decide +kernel))
set_option maxRecDepth 20000 in
theorem gX8_backs_X8_mass : GoodIn wsX8_backs (wsV RX8 71 RX8 yX8_mass wsX8_mass) := goodIn_app (goodIn_of _ (by decide +kernel)) ggX8_backs_X8_mass
set_option maxRecDepth 20000 in
theorem ggX8_backs_X8_furnace : GoodIn wsX8_backs wsX8_furnace := goodIn_r _ [23] (by decide +kernel) (by decide +kernel)
set_option maxRecDepth 20000 in
theorem gX8_backs_X8_furnace : GoodIn wsX8_backs (va_wsS RX8 50 yX8_furnace wsX8_furnace) := goodIn_app (goodIn_of _ (by decide +kernel)) ggX8_backs_X8_furnace
set_option maxRecDepth 20000 in
theorem ggX8_backs_X8_takes : GoodIn wsX8_backs wsX8_takes := goodIn_ca (goodIn_ca (goodIn_r _ [27, 28, 1, 17, 18, 19, 4, 20, 45, 46, 47, 48, 49, 50, 51, 52, 53, 54, 55, 56, 57, 58, 59, 60, 61, 62, 63, 64, 65, 66] (by decide +kernel) (by decide +kernel)) (goodIn_sub (fun _ h => List.mem_cons_of_mem _ (List.mem_append_left _ (List.mem_append_right _ h))) (by decide +kernel))) (goodIn_sub (fun _ h => List.mem_cons_of_mem _ (List.mem_append_right _ h)) (by decide +kernel))
set_option maxRecDepth 20000 in
theorem gX8_backs_X8_takes : GoodIn wsX8_backs (wsV RX8 118 RX8 yX8_takes wsX8_takes) := goodIn_app (goodIn_of _ (by decide +kernel)) ggX8_backs_X8_takes
set_option maxRecDepth 20000 in
theorem ggX8_backs_X8_cools : GoodIn wsX8_backs wsX8_cools := goodIn_ca (goodIn_r _ [32, 1, 14, 15, 4, 16, 17, 18, 19, 20, 45, 46, 47, 48, 49, 50, 51, 52, 53, 54, 55, 56, 57, 58, 59, 60, 61, 62, 63, 64, 65, 66] (by decide +kernel) (by decide +kernel)) (goodIn_sub (fun _ h => List.mem_cons_of_mem _ (List.mem_append_left _ (List.mem_append_right _ h))) (by decide +kernel))
set_option maxRecDepth 20000 in
theorem gX8_backs_X8_cools : GoodIn wsX8_backs (wsV RX8 128 RX8 yX8_cools wsX8_cools) := goodIn_app (goodIn_of _ (by decide +kernel)) ggX8_backs_X8_cools
set_option maxRecDepth 20000 in
theorem ggX8_backs_X8_feeds : GoodIn wsX8_backs wsX8_feeds := goodIn_ca (goodIn_ca (goodIn_r _ [36, 1, 21, 22, 4, 23, 17, 18, 19, 20, 37, 38, 39, 40, 28, 41, 42, 43, 44, 45, 46, 47, 48, 49, 50, 51, 52, 53, 54, 55, 56, 57, 58, 59, 60, 61, 62, 63, 64, 65, 66] (by decide +kernel) (by decide +kernel)) (goodIn_sub (fun _ h => List.mem_cons_of_mem _ (List.mem_append_left _ (List.mem_append_right _ h))) (by decide +kernel))) (goodIn_sub (fun _ h => List.mem_cons_of_mem _ (List.mem_append_right _ h)) (by decide +kernel))
set_option maxRecDepth 20000 in
theorem gX8_backs_X8_feeds : GoodIn wsX8_backs (wsV RX8 92 RX8 yX8_feeds wsX8_feeds) := goodIn_app (goodIn_of _ (by decide +kernel)) ggX8_backs_X8_feeds
theorem dX8_backs_0 : decode cX8_backs 0 = .ok (.iload_n 1, 1) := by decide +kernel
theorem dX8_backs_1 : decode cX8_backs 1 = .ok (.invokestatic 85, 3) := by decide +kernel
theorem dX8_backs_4 : decode cX8_backs 4 = .ok (.ifCond .eq 10, 3) := by decide +kernel
theorem dX8_backs_7 : decode cX8_backs 7 = .ok (.iload_n 2, 1) := by decide +kernel
theorem dX8_backs_8 : decode cX8_backs 8 = .ok (.invokestatic 85, 3) := by decide +kernel
theorem dX8_backs_11 : decode cX8_backs 11 = .ok (.ifCond .ne 9, 3) := by decide +kernel
theorem dX8_backs_14 : decode cX8_backs 14 = .ok (.aload_n 0, 1) := by decide +kernel
theorem dX8_backs_15 : decode cX8_backs 15 = .ok (.iconst 1, 1) := by decide +kernel
theorem dX8_backs_16 : decode cX8_backs 16 = .ok (.invokevirtual 89, 3) := by decide +kernel
theorem dX8_backs_19 : decode cX8_backs 19 = .ok (.ireturn, 1) := by decide +kernel
theorem dX8_backs_20 : decode cX8_backs 20 = .ok (.aload_n 0, 1) := by decide +kernel
theorem dX8_backs_21 : decode cX8_backs 21 = .ok (.iload_n 1, 1) := by decide +kernel
theorem dX8_backs_22 : decode cX8_backs 22 = .ok (.invokestatic 54, 3) := by decide +kernel
theorem dX8_backs_25 : decode cX8_backs 25 = .ok (.invokevirtual 71, 3) := by decide +kernel
theorem dX8_backs_28 : decode cX8_backs 28 = .ok (.istore_n 3, 1) := by decide +kernel
theorem dX8_backs_29 : decode cX8_backs 29 = .ok (.aload_n 0, 1) := by decide +kernel
theorem dX8_backs_30 : decode cX8_backs 30 = .ok (.getfield 16, 3) := by decide +kernel
theorem dX8_backs_33 : decode cX8_backs 33 = .ok (.iload_n 1, 1) := by decide +kernel
theorem dX8_backs_34 : decode cX8_backs 34 = .ok (.invokestatic 54, 3) := by decide +kernel
theorem dX8_backs_37 : decode cX8_backs 37 = .ok (.iconst 4, 1) := by decide +kernel
theorem dX8_backs_38 : decode cX8_backs 38 = .ok (.iadd, 1) := by decide +kernel
theorem dX8_backs_39 : decode cX8_backs 39 = .ok (.iaload, 1) := by decide +kernel
theorem dX8_backs_40 : decode cX8_backs 40 = .ok (.istore 4, 2) := by decide +kernel
theorem dX8_backs_42 : decode cX8_backs 42 = .ok (.iload_n 3, 1) := by decide +kernel
theorem dX8_backs_43 : decode cX8_backs 43 = .ok (.ifCond .ne 9, 3) := by decide +kernel
theorem dX8_backs_46 : decode cX8_backs 46 = .ok (.aload_n 0, 1) := by decide +kernel
theorem dX8_backs_47 : decode cX8_backs 47 = .ok (.iconst 2, 1) := by decide +kernel
theorem dX8_backs_48 : decode cX8_backs 48 = .ok (.invokevirtual 89, 3) := by decide +kernel
theorem dX8_backs_51 : decode cX8_backs 51 = .ok (.ireturn, 1) := by decide +kernel
theorem dX8_backs_52 : decode cX8_backs 52 = .ok (.aload_n 0, 1) := by decide +kernel
theorem dX8_backs_53 : decode cX8_backs 53 = .ok (.iload_n 2, 1) := by decide +kernel
theorem dX8_backs_54 : decode cX8_backs 54 = .ok (.invokestatic 50, 3) := by decide +kernel
theorem dX8_backs_57 : decode cX8_backs 57 = .ok (.invokevirtual 71, 3) := by decide +kernel
theorem dX8_backs_60 : decode cX8_backs 60 = .ok (.iload_n 3, 1) := by decide +kernel
theorem dX8_backs_61 : decode cX8_backs 61 = .ok (.iadd, 1) := by decide +kernel
theorem dX8_backs_62 : decode cX8_backs 62 = .ok (.bipush 100, 2) := by decide +kernel
theorem dX8_backs_64 : decode cX8_backs 64 = .ok (.if_icmp .le 9, 3) := by decide +kernel
theorem dX8_backs_67 : decode cX8_backs 67 = .ok (.aload_n 0, 1) := by decide +kernel
theorem dX8_backs_68 : decode cX8_backs 68 = .ok (.iconst 3, 1) := by decide +kernel
theorem dX8_backs_69 : decode cX8_backs 69 = .ok (.invokevirtual 89, 3) := by decide +kernel
theorem dX8_backs_72 : decode cX8_backs 72 = .ok (.ireturn, 1) := by decide +kernel
theorem dX8_backs_73 : decode cX8_backs 73 = .ok (.aload_n 0, 1) := by decide +kernel
theorem dX8_backs_74 : decode cX8_backs 74 = .ok (.iload_n 1, 1) := by decide +kernel
theorem dX8_backs_75 : decode cX8_backs 75 = .ok (.invokestatic 54, 3) := by decide +kernel
theorem dX8_backs_78 : decode cX8_backs 78 = .ok (.iload_n 3, 1) := by decide +kernel
theorem dX8_backs_79 : decode cX8_backs 79 = .ok (.invokevirtual 118, 3) := by decide +kernel
theorem dX8_backs_82 : decode cX8_backs 82 = .ok (.aload_n 0, 1) := by decide +kernel
theorem dX8_backs_83 : decode cX8_backs 83 = .ok (.iload_n 1, 1) := by decide +kernel
theorem dX8_backs_84 : decode cX8_backs 84 = .ok (.invokevirtual 128, 3) := by decide +kernel
theorem dX8_backs_87 : decode cX8_backs 87 = .ok (.aload_n 0, 1) := by decide +kernel
theorem dX8_backs_88 : decode cX8_backs 88 = .ok (.iload_n 2, 1) := by decide +kernel
theorem dX8_backs_89 : decode cX8_backs 89 = .ok (.iload 4, 2) := by decide +kernel
theorem dX8_backs_91 : decode cX8_backs 91 = .ok (.invokevirtual 92, 3) := by decide +kernel
theorem dX8_backs_94 : decode cX8_backs 94 = .ok (.ireturn, 1) := by decide +kernel
set_option maxRecDepth 20000 in
theorem ggX8_pourBack_X8_begins : GoodIn wsX8_pourBack wsX8_begins := goodIn_ca (goodIn_r _ [5, 6, 7, 8, 9, 10, 4, 11, 63, 64, 65, 66, 67, 68, 69, 70, 71, 72, 73, 74, 75, 76, 77, 78, 79, 80, 81, 82, 83, 84] (by decide +kernel) (by decide +kernel)) (goodIn_sub (fun _ h => List.mem_cons_of_mem _ (List.mem_append_left _ (List.mem_append_right _ h))) (by decide +kernel))
set_option maxRecDepth 20000 in
theorem gX8_pourBack_X8_begins : GoodIn wsX8_pourBack (wsV RX8 96 RX8 yX8_begins wsX8_begins) := goodIn_app (goodIn_of _ (by decide +kernel)) ggX8_pourBack_X8_begins
set_option maxRecDepth 20000 in
theorem ggX8_pourBack_X8_backs : GoodIn wsX8_pourBack wsX8_backs := goodIn_ca (goodIn_ca (goodIn_r _ [15, 8, 16, 17, 4, 18, 19, 20, 21, 22, 23, 24, 25, 6, 26, 27, 28, 29, 30, 31, 32, 33, 34, 35, 36, 37, 38, 39, 40, 41, 42, 43, 44, 45, 46, 47, 48, 49, 50, 51, 52, 53, 54, 55, 56, 63, 64, 65, 66, 67, 68, 69, 70, 71, 72, 73, 74, 75, 76, 77, 78, 79, 80, 81, 82, 83, 84] (by decide +kernel) (by decide +kernel)) (goodIn_sub (fun _ h => List.mem_cons_of_mem _ (List.mem_append_left _ (List.mem_append_right _ h))) (by decide +kernel))) (goodIn_sub (fun _ h => List.mem_cons_of_mem _ (List.mem_append_right _ h)) (by decide +kernel))
set_option maxRecDepth 20000 in
theorem gX8_pourBack_X8_backs : GoodIn wsX8_pourBack (wsV RX8 131 RX8 yX8_backs wsX8_backs) := goodIn_app (goodIn_of _ (by decide +kernel)) ggX8_pourBack_X8_backs
set_option maxRecDepth 20000 in
theorem ggX8_pourBack_X8_ends : GoodIn wsX8_pourBack wsX8_ends := goodIn_ca (goodIn_r _ [60, 6, 8, 7, 61, 62, 9, 10, 4, 11, 63, 64, 65, 66, 67, 68, 69, 70, 71, 72, 73, 74, 75, 76, 77, 78, 79, 80, 81, 82, 83, 84] (by decide +kernel) (by decide +kernel)) (goodIn_sub (fun _ h => List.mem_cons_of_mem _ (List.mem_append_left _ (List.mem_append_right _ h))) (by decide +kernel))
set_option maxRecDepth 20000 in
theorem gX8_pourBack_X8_ends : GoodIn wsX8_pourBack (wsV RX8 106 RX8 yX8_ends wsX8_ends) := goodIn_app (goodIn_of _ (by decide +kernel)) ggX8_pourBack_X8_ends
theorem dX8_pourBack_0 : decode cX8_pourBack 0 = .ok (.aload_n 0, 1) := by decide +kernel
theorem dX8_pourBack_1 : decode cX8_pourBack 1 = .ok (.invokevirtual 96, 3) := by decide +kernel
theorem dX8_pourBack_4 : decode cX8_pourBack 4 = .ok (.aload_n 0, 1) := by decide +kernel
theorem dX8_pourBack_5 : decode cX8_pourBack 5 = .ok (.aload_n 0, 1) := by decide +kernel
theorem dX8_pourBack_6 : decode cX8_pourBack 6 = .ok (.iload_n 1, 1) := by decide +kernel
theorem dX8_pourBack_7 : decode cX8_pourBack 7 = .ok (.iload_n 2, 1) := by decide +kernel
theorem dX8_pourBack_8 : decode cX8_pourBack 8 = .ok (.invokevirtual 131, 3) := by decide +kernel
theorem dX8_pourBack_11 : decode cX8_pourBack 11 = .ok (.invokevirtual 106, 3) := by decide +kernel
theorem dX8_pourBack_14 : decode cX8_pourBack 14 = .ok (.ireturn, 1) := by decide +kernel
set_option maxRecDepth 20000 in
theorem ggX8_addsMould_X8_isIn : GoodIn wsX8_addsMould wsX8_isIn := goodIn_r _ [5] (by decide +kernel) (by decide +kernel)
set_option maxRecDepth 20000 in
theorem gX8_addsMould_X8_isIn : GoodIn wsX8_addsMould (va_wsS RX8 67 yX8_isIn wsX8_isIn) := goodIn_app (goodIn_of _ (by decide +kernel)) ggX8_addsMould_X8_isIn
set_option maxRecDepth 20000 in
theorem ggX8_addsMould_X8_fail : GoodIn wsX8_addsMould wsX8_fail := goodIn_r _ [9, 10, 14, 15, 16, 17, 18, 19, 20, 21, 22, 23, 24, 25, 26, 27, 28, 29, 30, 31, 32, 33, 34, 35] (by decide +kernel) (by decide +kernel)
set_option maxRecDepth 20000 in
theorem gX8_addsMould_X8_fail : GoodIn wsX8_addsMould (wsV RX8 89 RX8 yX8_fail wsX8_fail) := goodIn_app (goodIn_of _ (by decide +kernel)) ggX8_addsMould_X8_fail
set_option maxRecDepth 20000 in
theorem ggX8_addsMould_X8_mould : GoodIn wsX8_addsMould wsX8_mould := goodIn_r _ [13] (by decide +kernel) (by decide +kernel)
set_option maxRecDepth 20000 in
theorem gX8_addsMould_X8_mould : GoodIn wsX8_addsMould (va_wsS RX8 134 yX8_mould wsX8_mould) := goodIn_app (goodIn_of _ (by decide +kernel)) ggX8_addsMould_X8_mould
theorem dX8_addsMould_0 : decode cX8_addsMould 0 = .ok (.iload_n 1, 1) := by decide +kernel
theorem dX8_addsMould_1 : decode cX8_addsMould 1 = .ok (.iconst 1, 1) := by decide +kernel
theorem dX8_addsMould_2 : decode cX8_addsMould 2 = .ok (.bipush 40, 2) := by decide +kernel
theorem dX8_addsMould_4 : decode cX8_addsMould 4 = .ok (.invokestatic 67, 3) := by decide +kernel
theorem dX8_addsMould_7 : decode cX8_addsMould 7 = .ok (.ifCond .ne 9, 3) := by decide +kernel
theorem dX8_addsMould_10 : decode cX8_addsMould 10 = .ok (.aload_n 0, 1) := by decide +kernel
theorem dX8_addsMould_11 : decode cX8_addsMould 11 = .ok (.iconst 1, 1) := by decide +kernel
theorem dX8_addsMould_12 : decode cX8_addsMould 12 = .ok (.invokevirtual 89, 3) := by decide +kernel
theorem dX8_addsMould_15 : decode cX8_addsMould 15 = .ok (.ireturn, 1) := by decide +kernel
theorem dX8_addsMould_16 : decode cX8_addsMould 16 = .ok (.aload_n 0, 1) := by decide +kernel
theorem dX8_addsMould_17 : decode cX8_addsMould 17 = .ok (.getfield 16, 3) := by decide +kernel
theorem dX8_addsMould_20 : decode cX8_addsMould 20 = .ok (.bipush 42, 2) := by decide +kernel
theorem dX8_addsMould_22 : decode cX8_addsMould 22 = .ok (.iaload, 1) := by decide +kernel
theorem dX8_addsMould_23 : decode cX8_addsMould 23 = .ok (.istore_n 2, 1) := by decide +kernel
theorem dX8_addsMould_24 : decode cX8_addsMould 24 = .ok (.iload_n 2, 1) := by decide +kernel
theorem dX8_addsMould_25 : decode cX8_addsMould 25 = .ok (.bipush 6, 2) := by decide +kernel
theorem dX8_addsMould_27 : decode cX8_addsMould 27 = .ok (.if_icmp .ne 9, 3) := by decide +kernel
theorem dX8_addsMould_30 : decode cX8_addsMould 30 = .ok (.aload_n 0, 1) := by decide +kernel
theorem dX8_addsMould_31 : decode cX8_addsMould 31 = .ok (.iconst 2, 1) := by decide +kernel
theorem dX8_addsMould_32 : decode cX8_addsMould 32 = .ok (.invokevirtual 89, 3) := by decide +kernel
theorem dX8_addsMould_35 : decode cX8_addsMould 35 = .ok (.ireturn, 1) := by decide +kernel
theorem dX8_addsMould_36 : decode cX8_addsMould 36 = .ok (.iconst 0, 1) := by decide +kernel
theorem dX8_addsMould_37 : decode cX8_addsMould 37 = .ok (.istore_n 3, 1) := by decide +kernel
theorem dX8_addsMould_38 : decode cX8_addsMould 38 = .ok (.iload_n 3, 1) := by decide +kernel
theorem dX8_addsMould_39 : decode cX8_addsMould 39 = .ok (.bipush 6, 2) := by decide +kernel
theorem dX8_addsMould_41 : decode cX8_addsMould 41 = .ok (.if_icmp .ge 30, 3) := by decide +kernel
theorem dX8_addsMould_44 : decode cX8_addsMould 44 = .ok (.aload_n 0, 1) := by decide +kernel
theorem dX8_addsMould_45 : decode cX8_addsMould 45 = .ok (.getfield 16, 3) := by decide +kernel
theorem dX8_addsMould_48 : decode cX8_addsMould 48 = .ok (.iload_n 2, 1) := by decide +kernel
theorem dX8_addsMould_49 : decode cX8_addsMould 49 = .ok (.invokestatic 134, 3) := by decide +kernel
theorem dX8_addsMould_52 : decode cX8_addsMould 52 = .ok (.iload_n 3, 1) := by decide +kernel
theorem dX8_addsMould_53 : decode cX8_addsMould 53 = .ok (.iadd, 1) := by decide +kernel
theorem dX8_addsMould_54 : decode cX8_addsMould 54 = .ok (.iload_n 3, 1) := by decide +kernel
theorem dX8_addsMould_55 : decode cX8_addsMould 55 = .ok (.iconst 4, 1) := by decide +kernel
theorem dX8_addsMould_56 : decode cX8_addsMould 56 = .ok (.if_icmp .ne 7, 3) := by decide +kernel
theorem dX8_addsMould_59 : decode cX8_addsMould 59 = .ok (.iload_n 1, 1) := by decide +kernel
theorem dX8_addsMould_60 : decode cX8_addsMould 60 = .ok (.goto 4, 3) := by decide +kernel
theorem dX8_addsMould_63 : decode cX8_addsMould 63 = .ok (.iconst 0, 1) := by decide +kernel
theorem dX8_addsMould_64 : decode cX8_addsMould 64 = .ok (.iastore, 1) := by decide +kernel
theorem dX8_addsMould_65 : decode cX8_addsMould 65 = .ok (.iinc 3 1, 3) := by decide +kernel
theorem dX8_addsMould_68 : decode cX8_addsMould 68 = .ok (.goto (-30), 3) := by decide +kernel
theorem dX8_addsMould_71 : decode cX8_addsMould 71 = .ok (.aload_n 0, 1) := by decide +kernel
theorem dX8_addsMould_72 : decode cX8_addsMould 72 = .ok (.getfield 16, 3) := by decide +kernel
theorem dX8_addsMould_75 : decode cX8_addsMould 75 = .ok (.bipush 42, 2) := by decide +kernel
theorem dX8_addsMould_77 : decode cX8_addsMould 77 = .ok (.dup2, 1) := by decide +kernel
theorem dX8_addsMould_78 : decode cX8_addsMould 78 = .ok (.iaload, 1) := by decide +kernel
theorem dX8_addsMould_79 : decode cX8_addsMould 79 = .ok (.iconst 1, 1) := by decide +kernel
theorem dX8_addsMould_80 : decode cX8_addsMould 80 = .ok (.iadd, 1) := by decide +kernel
theorem dX8_addsMould_81 : decode cX8_addsMould 81 = .ok (.iastore, 1) := by decide +kernel
theorem dX8_addsMould_82 : decode cX8_addsMould 82 = .ok (.iload_n 2, 1) := by decide +kernel
theorem dX8_addsMould_83 : decode cX8_addsMould 83 = .ok (.ireturn, 1) := by decide +kernel
set_option maxRecDepth 20000 in
theorem ggX8_addMould_X8_begins : GoodIn wsX8_addMould wsX8_begins := goodIn_ca (goodIn_r _ [5, 6, 7, 8, 9, 10, 4, 11, 32, 33, 34, 35, 36, 37, 38, 39, 40, 41, 42, 43, 44, 45, 46, 47, 48, 49, 50, 51, 52, 53] (by decide +kernel) (by decide +kernel)) (goodIn_sub (fun _ h => List.mem_cons_of_mem _ (List.mem_append_right _ h)) (by decide +kernel))
set_option maxRecDepth 20000 in
theorem gX8_addMould_X8_begins : GoodIn wsX8_addMould (wsV RX8 96 RX8 yX8_begins wsX8_begins) := goodIn_app (goodIn_of _ (by decide +kernel)) ggX8_addMould_X8_begins
set_option maxRecDepth 20000 in
theorem ggX8_addMould_X8_addsMould : GoodIn wsX8_addMould wsX8_addsMould := goodIn_ca (goodIn_r _ [15, 8, 16, 17, 4, 18, 19, 20, 21, 22, 6, 23, 24, 25, 32, 33, 34, 35, 36, 37, 38, 39, 40, 41, 42, 43, 44, 45, 46, 47, 48, 49, 50, 51, 52, 53] (by decide +kernel) (by decide +kernel)) (goodIn_sub (fun _ h => List.mem_cons_of_mem _ (List.mem_append_right _ h)) (by decide +kernel))
set_option maxRecDepth 20000 in
theorem gX8_addMould_X8_addsMould : GoodIn wsX8_addMould (wsV RX8 137 RX8 yX8_addsMould wsX8_addsMould) := goodIn_app (goodIn_of _ (by decide +kernel)) ggX8_addMould_X8_addsMould
set_option maxRecDepth 20000 in
theorem ggX8_addMould_X8_ends : GoodIn wsX8_addMould wsX8_ends := goodIn_ca (goodIn_r _ [29, 6, 8, 7, 30, 31, 9, 10, 4, 11, 32, 33, 34, 35, 36, 37, 38, 39, 40, 41, 42, 43, 44, 45, 46, 47, 48, 49, 50, 51, 52, 53] (by decide +kernel) (by decide +kernel)) (goodIn_sub (fun _ h => List.mem_cons_of_mem _ (List.mem_append_right _ h)) (by decide +kernel))
set_option maxRecDepth 20000 in
theorem gX8_addMould_X8_ends : GoodIn wsX8_addMould (wsV RX8 106 RX8 yX8_ends wsX8_ends) := goodIn_app (goodIn_of _ (by decide +kernel)) ggX8_addMould_X8_ends
theorem dX8_addMould_0 : decode cX8_addMould 0 = .ok (.aload_n 0, 1) := by decide +kernel
theorem dX8_addMould_1 : decode cX8_addMould 1 = .ok (.invokevirtual 96, 3) := by decide +kernel
theorem dX8_addMould_4 : decode cX8_addMould 4 = .ok (.aload_n 0, 1) := by decide +kernel
theorem dX8_addMould_5 : decode cX8_addMould 5 = .ok (.aload_n 0, 1) := by decide +kernel
theorem dX8_addMould_6 : decode cX8_addMould 6 = .ok (.iload_n 1, 1) := by decide +kernel
theorem dX8_addMould_7 : decode cX8_addMould 7 = .ok (.invokevirtual 137, 3) := by decide +kernel
theorem dX8_addMould_10 : decode cX8_addMould 10 = .ok (.invokevirtual 106, 3) := by decide +kernel
theorem dX8_addMould_13 : decode cX8_addMould 13 = .ok (.ireturn, 1) := by decide +kernel
set_option maxRecDepth 20000 in
theorem ggX8_pours_X8_isThree : GoodIn wsX8_pours wsX8_isThree := goodIn_r _ [5, 6, 7, 4, 8] (by decide +kernel) (by decide +kernel)
set_option maxRecDepth 20000 in
theorem gX8_pours_X8_isThree : GoodIn wsX8_pours (va_wsS RX8 85 yX8_isThree wsX8_isThree) := goodIn_app (goodIn_of _ (by decide +kernel)) ggX8_pours_X8_isThree
set_option maxRecDepth 20000 in
theorem ggX8_pours_X8_isMould : GoodIn wsX8_pours wsX8_isMould := goodIn_ca (goodIn_r _ [12, 1, 6, 7, 4, 8, 50, 51, 52, 53, 54, 55, 56, 57, 58, 59, 60, 61, 62, 63, 64, 65, 66, 67, 68, 69, 70, 71] (by decide +kernel) (by decide +kernel)) (goodIn_sub (fun _ h => List.mem_cons_of_mem _ (List.mem_append_left _ (List.mem_append_right _ h))) (by decide +kernel))
set_option maxRecDepth 20000 in
theorem gX8_pours_X8_isMould : GoodIn wsX8_pours (wsV RX8 140 RX8 yX8_isMould wsX8_isMould) := goodIn_app (goodIn_of _ (by decide +kernel)) ggX8_pours_X8_isMould
set_option maxRecDepth 20000 in
theorem ggX8_pours_X8_fail : GoodIn wsX8_pours wsX8_fail := goodIn_r _ [16, 17, 50, 51, 52, 53, 54, 55, 56, 57, 58, 59, 60, 61, 62, 63, 64, 65, 66, 67, 68, 69, 70, 71] (by decide +kernel) (by decide +kernel)
set_option maxRecDepth 20000 in
theorem gX8_pours_X8_fail : GoodIn wsX8_pours (wsV RX8 89 RX8 yX8_fail wsX8_fail) := goodIn_app (goodIn_of _ (by decide +kernel)) ggX8_pours_X8_fail
set_option maxRecDepth 20000 in
theorem ggX8_pours_X8_mould : GoodIn wsX8_pours wsX8_mould := goodIn_r _ [20] (by decide +kernel) (by decide +kernel)
set_option maxRecDepth 20000 in
theorem gX8_pours_X8_mould : GoodIn wsX8_pours (va_wsS RX8 134 yX8_mould wsX8_mould) := goodIn_app (goodIn_of _ (by decide +kernel)) ggX8_pours_X8_mould
set_option maxRecDepth 20000 in
theorem ggX8_pours_X8_ladle : GoodIn wsX8_pours wsX8_ladle := goodIn_r _ [23] (by decide +kernel) (by decide +kernel)
set_option maxRecDepth 20000 in
theorem gX8_pours_X8_ladle : GoodIn wsX8_pours (va_wsS RX8 54 yX8_ladle wsX8_ladle) := goodIn_app (goodIn_of _ (by decide +kernel)) ggX8_pours_X8_ladle
set_option maxRecDepth 20000 in
theorem ggX8_pours_X8_mass : GoodIn wsX8_pours wsX8_mass := goodIn_ca (goodIn_r _ [27, 1, 50, 51, 52, 53, 54, 55, 56, 57, 58, 59, 60, 61, 62, 63, 64, 65, 66, 67, 68, 69, 70, 71] (by decide +kernel) (by decide +kernel)) (goodIn_sub (fun _ h => List.mem_cons_of_mem _ (List.mem_append_left _ (List.mem_append_right _ h))) (by decide +kernel))
set_option maxRecDepth 20000 in
theorem gX8_pours_X8_mass : GoodIn wsX8_pours (wsV RX8 71 RX8 yX8_mass wsX8_mass) := goodIn_app (goodIn_of _ (by decide +kernel)) ggX8_pours_X8_mass
set_option maxRecDepth 20000 in
theorem ggX8_pours_X8_isFluid : GoodIn wsX8_pours wsX8_isFluid := goodIn_ca (goodIn_ca (goodIn_r _ [31, 1, 24, 25, 26, 4, 27, 32, 33, 34, 35, 36, 50, 51, 52, 53, 54, 55, 56, 57, 58, 59, 60, 61, 62, 63, 64, 65, 66, 67, 68, 69, 70, 71] (by decide +kernel) (by decide +kernel)) (goodIn_sub (fun _ h => List.mem_cons_of_mem _ (List.mem_append_left _ (List.mem_append_right _ h))) (by decide +kernel))) (goodIn_sub (fun _ h => List.mem_cons_of_mem _ (List.mem_append_right _ h)) (by decide +kernel))
set_option maxRecDepth 20000 in
theorem gX8_pours_X8_isFluid : GoodIn wsX8_pours (wsV RX8 112 RX8 yX8_isFluid wsX8_isFluid) := goodIn_app (goodIn_of _ (by decide +kernel)) ggX8_pours_X8_isFluid
set_option maxRecDepth 20000 in
theorem ggX8_pours_X8_takes : GoodIn wsX8_pours wsX8_takes := goodIn_ca (goodIn_ca (goodIn_r _ [40, 41, 1, 24, 25, 26, 4, 27, 50, 51, 52, 53, 54, 55, 56, 57, 58, 59, 60, 61, 62, 63, 64, 65, 66, 67, 68, 69, 70, 71] (by decide +kernel) (by decide +kernel)) (goodIn_sub (fun _ h => List.mem_cons_of_mem _ (List.mem_append_left _ (List.mem_append_right _ h))) (by decide +kernel))) (goodIn_sub (fun _ h => List.mem_cons_of_mem _ (List.mem_append_right _ h)) (by decide +kernel))
set_option maxRecDepth 20000 in
theorem gX8_pours_X8_takes : GoodIn wsX8_pours (wsV RX8 118 RX8 yX8_takes wsX8_takes) := goodIn_app (goodIn_of _ (by decide +kernel)) ggX8_pours_X8_takes
set_option maxRecDepth 20000 in
theorem ggX8_pours_X8_adds : GoodIn wsX8_pours wsX8_adds := goodIn_ca (goodIn_r _ [45, 1, 41, 50, 51, 52, 53, 54, 55, 56, 57, 58, 59, 60, 61, 62, 63, 64, 65, 66, 67, 68, 69, 70, 71] (by decide +kernel) (by decide +kernel)) (goodIn_sub (fun _ h => List.mem_cons_of_mem _ (List.mem_append_left _ (List.mem_append_right _ h))) (by decide +kernel))
set_option maxRecDepth 20000 in
theorem gX8_pours_X8_adds : GoodIn wsX8_pours (wsV RX8 81 RX8 yX8_adds wsX8_adds) := goodIn_app (goodIn_of _ (by decide +kernel)) ggX8_pours_X8_adds
set_option maxRecDepth 20000 in
theorem ggX8_pours_X8_cools : GoodIn wsX8_pours wsX8_cools := goodIn_ca (goodIn_r _ [49, 1, 21, 22, 4, 23, 24, 25, 26, 27, 50, 51, 52, 53, 54, 55, 56, 57, 58, 59, 60, 61, 62, 63, 64, 65, 66, 67, 68, 69, 70, 71] (by decide +kernel) (by decide +kernel)) (goodIn_sub (fun _ h => List.mem_cons_of_mem _ (List.mem_append_left _ (List.mem_append_right _ h))) (by decide +kernel))
set_option maxRecDepth 20000 in
theorem gX8_pours_X8_cools : GoodIn wsX8_pours (wsV RX8 128 RX8 yX8_cools wsX8_cools) := goodIn_app (goodIn_of _ (by decide +kernel)) ggX8_pours_X8_cools
theorem dX8_pours_0 : decode cX8_pours 0 = .ok (.iload_n 1, 1) := by decide +kernel
theorem dX8_pours_1 : decode cX8_pours 1 = .ok (.invokestatic 85, 3) := by decide +kernel
theorem dX8_pours_4 : decode cX8_pours 4 = .ok (.ifCond .eq 11, 3) := by decide +kernel
theorem dX8_pours_7 : decode cX8_pours 7 = .ok (.aload_n 0, 1) := by decide +kernel
theorem dX8_pours_8 : decode cX8_pours 8 = .ok (.iload_n 2, 1) := by decide +kernel
theorem dX8_pours_9 : decode cX8_pours 9 = .ok (.invokevirtual 140, 3) := by decide +kernel
theorem dX8_pours_12 : decode cX8_pours 12 = .ok (.ifCond .ne 9, 3) := by decide +kernel
theorem dX8_pours_15 : decode cX8_pours 15 = .ok (.aload_n 0, 1) := by decide +kernel
theorem dX8_pours_16 : decode cX8_pours 16 = .ok (.iconst 1, 1) := by decide +kernel
theorem dX8_pours_17 : decode cX8_pours 17 = .ok (.invokevirtual 89, 3) := by decide +kernel
theorem dX8_pours_20 : decode cX8_pours 20 = .ok (.ireturn, 1) := by decide +kernel
theorem dX8_pours_21 : decode cX8_pours 21 = .ok (.iload_n 2, 1) := by decide +kernel
theorem dX8_pours_22 : decode cX8_pours 22 = .ok (.invokestatic 134, 3) := by decide +kernel
theorem dX8_pours_25 : decode cX8_pours 25 = .ok (.istore_n 3, 1) := by decide +kernel
theorem dX8_pours_26 : decode cX8_pours 26 = .ok (.aload_n 0, 1) := by decide +kernel
theorem dX8_pours_27 : decode cX8_pours 27 = .ok (.getfield 16, 3) := by decide +kernel
theorem dX8_pours_30 : decode cX8_pours 30 = .ok (.iload_n 3, 1) := by decide +kernel
theorem dX8_pours_31 : decode cX8_pours 31 = .ok (.iconst 4, 1) := by decide +kernel
theorem dX8_pours_32 : decode cX8_pours 32 = .ok (.iadd, 1) := by decide +kernel
theorem dX8_pours_33 : decode cX8_pours 33 = .ok (.iaload, 1) := by decide +kernel
theorem dX8_pours_34 : decode cX8_pours 34 = .ok (.istore 4, 2) := by decide +kernel
theorem dX8_pours_36 : decode cX8_pours 36 = .ok (.aload_n 0, 1) := by decide +kernel
theorem dX8_pours_37 : decode cX8_pours 37 = .ok (.getfield 16, 3) := by decide +kernel
theorem dX8_pours_40 : decode cX8_pours 40 = .ok (.iload_n 3, 1) := by decide +kernel
theorem dX8_pours_41 : decode cX8_pours 41 = .ok (.iconst 5, 1) := by decide +kernel
theorem dX8_pours_42 : decode cX8_pours 42 = .ok (.iadd, 1) := by decide +kernel
theorem dX8_pours_43 : decode cX8_pours 43 = .ok (.iaload, 1) := by decide +kernel
theorem dX8_pours_44 : decode cX8_pours 44 = .ok (.iconst 1, 1) := by decide +kernel
theorem dX8_pours_45 : decode cX8_pours 45 = .ok (.if_icmp .ne 9, 3) := by decide +kernel
theorem dX8_pours_48 : decode cX8_pours 48 = .ok (.aload_n 0, 1) := by decide +kernel
theorem dX8_pours_49 : decode cX8_pours 49 = .ok (.iconst 2, 1) := by decide +kernel
theorem dX8_pours_50 : decode cX8_pours 50 = .ok (.invokevirtual 89, 3) := by decide +kernel
theorem dX8_pours_53 : decode cX8_pours 53 = .ok (.ireturn, 1) := by decide +kernel
theorem dX8_pours_54 : decode cX8_pours 54 = .ok (.aload_n 0, 1) := by decide +kernel
theorem dX8_pours_55 : decode cX8_pours 55 = .ok (.iload_n 1, 1) := by decide +kernel
theorem dX8_pours_56 : decode cX8_pours 56 = .ok (.invokestatic 54, 3) := by decide +kernel
theorem dX8_pours_59 : decode cX8_pours 59 = .ok (.invokevirtual 71, 3) := by decide +kernel
theorem dX8_pours_62 : decode cX8_pours 62 = .ok (.iload 4, 2) := by decide +kernel
theorem dX8_pours_64 : decode cX8_pours 64 = .ok (.if_icmp .ge 9, 3) := by decide +kernel
theorem dX8_pours_67 : decode cX8_pours 67 = .ok (.aload_n 0, 1) := by decide +kernel
theorem dX8_pours_68 : decode cX8_pours 68 = .ok (.iconst 3, 1) := by decide +kernel
theorem dX8_pours_69 : decode cX8_pours 69 = .ok (.invokevirtual 89, 3) := by decide +kernel
theorem dX8_pours_72 : decode cX8_pours 72 = .ok (.ireturn, 1) := by decide +kernel
theorem dX8_pours_73 : decode cX8_pours 73 = .ok (.aload_n 0, 1) := by decide +kernel
theorem dX8_pours_74 : decode cX8_pours 74 = .ok (.iload_n 1, 1) := by decide +kernel
theorem dX8_pours_75 : decode cX8_pours 75 = .ok (.invokestatic 54, 3) := by decide +kernel
theorem dX8_pours_78 : decode cX8_pours 78 = .ok (.invokevirtual 112, 3) := by decide +kernel
theorem dX8_pours_81 : decode cX8_pours 81 = .ok (.ifCond .ne 9, 3) := by decide +kernel
theorem dX8_pours_84 : decode cX8_pours 84 = .ok (.aload_n 0, 1) := by decide +kernel
theorem dX8_pours_85 : decode cX8_pours 85 = .ok (.iconst 4, 1) := by decide +kernel
theorem dX8_pours_86 : decode cX8_pours 86 = .ok (.invokevirtual 89, 3) := by decide +kernel
theorem dX8_pours_89 : decode cX8_pours 89 = .ok (.ireturn, 1) := by decide +kernel
theorem dX8_pours_90 : decode cX8_pours 90 = .ok (.aload_n 0, 1) := by decide +kernel
theorem dX8_pours_91 : decode cX8_pours 91 = .ok (.iload_n 1, 1) := by decide +kernel
theorem dX8_pours_92 : decode cX8_pours 92 = .ok (.invokestatic 54, 3) := by decide +kernel
theorem dX8_pours_95 : decode cX8_pours 95 = .ok (.iload 4, 2) := by decide +kernel
theorem dX8_pours_97 : decode cX8_pours 97 = .ok (.invokevirtual 118, 3) := by decide +kernel
theorem dX8_pours_100 : decode cX8_pours 100 = .ok (.aload_n 0, 1) := by decide +kernel
theorem dX8_pours_101 : decode cX8_pours 101 = .ok (.iload_n 3, 1) := by decide +kernel
theorem dX8_pours_102 : decode cX8_pours 102 = .ok (.invokevirtual 81, 3) := by decide +kernel
theorem dX8_pours_105 : decode cX8_pours 105 = .ok (.aload_n 0, 1) := by decide +kernel
theorem dX8_pours_106 : decode cX8_pours 106 = .ok (.getfield 16, 3) := by decide +kernel
theorem dX8_pours_109 : decode cX8_pours 109 = .ok (.iload_n 3, 1) := by decide +kernel
theorem dX8_pours_110 : decode cX8_pours 110 = .ok (.iconst 5, 1) := by decide +kernel
theorem dX8_pours_111 : decode cX8_pours 111 = .ok (.iadd, 1) := by decide +kernel
theorem dX8_pours_112 : decode cX8_pours 112 = .ok (.iconst 1, 1) := by decide +kernel
theorem dX8_pours_113 : decode cX8_pours 113 = .ok (.iastore, 1) := by decide +kernel
theorem dX8_pours_114 : decode cX8_pours 114 = .ok (.aload_n 0, 1) := by decide +kernel
theorem dX8_pours_115 : decode cX8_pours 115 = .ok (.iload_n 1, 1) := by decide +kernel
theorem dX8_pours_116 : decode cX8_pours 116 = .ok (.invokevirtual 128, 3) := by decide +kernel
theorem dX8_pours_119 : decode cX8_pours 119 = .ok (.aload_n 0, 1) := by decide +kernel
theorem dX8_pours_120 : decode cX8_pours 120 = .ok (.iload_n 1, 1) := by decide +kernel
theorem dX8_pours_121 : decode cX8_pours 121 = .ok (.invokestatic 54, 3) := by decide +kernel
theorem dX8_pours_124 : decode cX8_pours 124 = .ok (.invokevirtual 71, 3) := by decide +kernel
theorem dX8_pours_127 : decode cX8_pours 127 = .ok (.ireturn, 1) := by decide +kernel
set_option maxRecDepth 20000 in
theorem ggX8_pour_X8_begins : GoodIn wsX8_pour wsX8_begins := goodIn_ca (goodIn_r _ [5, 6, 7, 8, 9, 10, 4, 11, 68, 69, 70, 71, 72, 73, 74, 75, 76, 77, 78, 79, 80, 81, 82, 83, 84, 85, 86, 87, 88, 89] (by decide +kernel) (by decide +kernel)) (goodIn_sub (fun _ h => List.mem_cons_of_mem _ (List.mem_append_left _ (List.mem_append_right _ h))) (by decide +kernel))
set_option maxRecDepth 20000 in
theorem gX8_pour_X8_begins : GoodIn wsX8_pour (wsV RX8 96 RX8 yX8_begins wsX8_begins) := goodIn_app (goodIn_of _ (by decide +kernel)) ggX8_pour_X8_begins
set_option maxRecDepth 20000 in
theorem ggX8_pour_X8_pours : GoodIn wsX8_pour wsX8_pours := goodIn_ca (goodIn_ca (goodIn_r _ [15, 8, 16, 17, 4, 18, 19, 20, 21, 22, 23, 24, 25, 26, 27, 28, 29, 6, 30, 31, 32, 33, 34, 35, 36, 37, 38, 39, 40, 41, 42, 43, 44, 45, 46, 47, 48, 49, 50, 51, 52, 53, 54, 55, 56, 57, 58, 59, 60, 61, 68, 69, 70, 71, 72, 73, 74, 75, 76, 77, 78, 79, 80, 81, 82, 83, 84, 85, 86, 87, 88, 89] (by decide +kernel) (by decide +kernel)) (goodIn_sub (fun _ h => List.mem_cons_of_mem _ (List.mem_append_left _ (List.mem_append_right _ h))) (by decide +kernel))) (goodIn_sub (fun _ h => List.mem_cons_of_mem _ (List.mem_append_right _ h)) (by decide +kernel))
set_option maxRecDepth 20000 in
theorem gX8_pour_X8_pours : GoodIn wsX8_pour (wsV RX8 143 RX8 yX8_pours wsX8_pours) := goodIn_app (goodIn_of _ (by decide +kernel)) ggX8_pour_X8_pours
set_option maxRecDepth 20000 in
theorem ggX8_pour_X8_ends : GoodIn wsX8_pour wsX8_ends := goodIn_ca (goodIn_r _ [65, 6, 8, 7, 66, 67, 9, 10, 4, 11, 68, 69, 70, 71, 72, 73, 74, 75, 76, 77, 78, 79, 80, 81, 82, 83, 84, 85, 86, 87, 88, 89] (by decide +kernel) (by decide +kernel)) (goodIn_sub (fun _ h => List.mem_cons_of_mem _ (List.mem_append_left _ (List.mem_append_right _ h))) (by decide +kernel))
set_option maxRecDepth 20000 in
theorem gX8_pour_X8_ends : GoodIn wsX8_pour (wsV RX8 106 RX8 yX8_ends wsX8_ends) := goodIn_app (goodIn_of _ (by decide +kernel)) ggX8_pour_X8_ends
theorem dX8_pour_0 : decode cX8_pour 0 = .ok (.aload_n 0, 1) := by decide +kernel
theorem dX8_pour_1 : decode cX8_pour 1 = .ok (.invokevirtual 96, 3) := by decide +kernel
theorem dX8_pour_4 : decode cX8_pour 4 = .ok (.aload_n 0, 1) := by decide +kernel
theorem dX8_pour_5 : decode cX8_pour 5 = .ok (.aload_n 0, 1) := by decide +kernel
theorem dX8_pour_6 : decode cX8_pour 6 = .ok (.iload_n 1, 1) := by decide +kernel
theorem dX8_pour_7 : decode cX8_pour 7 = .ok (.iload_n 2, 1) := by decide +kernel
theorem dX8_pour_8 : decode cX8_pour 8 = .ok (.invokevirtual 143, 3) := by decide +kernel
theorem dX8_pour_11 : decode cX8_pour 11 = .ok (.invokevirtual 106, 3) := by decide +kernel
theorem dX8_pour_14 : decode cX8_pour 14 = .ok (.ireturn, 1) := by decide +kernel
set_option maxRecDepth 20000 in
theorem ggX8_breaks_X8_isMould : GoodIn wsX8_breaks wsX8_isMould := goodIn_ca (goodIn_r _ [6, 1, 7, 8, 5, 9, 21, 22, 23, 24, 25, 26, 27, 28, 29, 30, 31, 32, 33, 34, 35, 36, 37, 38, 39, 40, 41, 42] (by decide +kernel) (by decide +kernel)) (goodIn_sub (fun _ h => List.mem_cons_of_mem _ (List.mem_append_right _ h)) (by decide +kernel))
set_option maxRecDepth 20000 in
theorem gX8_breaks_X8_isMould : GoodIn wsX8_breaks (wsV RX8 140 RX8 yX8_isMould wsX8_isMould) := goodIn_app (goodIn_of _ (by decide +kernel)) ggX8_breaks_X8_isMould
set_option maxRecDepth 20000 in
theorem ggX8_breaks_X8_fail : GoodIn wsX8_breaks wsX8_fail := goodIn_r _ [13, 14, 21, 22, 23, 24, 25, 26, 27, 28, 29, 30, 31, 32, 33, 34, 35, 36, 37, 38, 39, 40, 41, 42] (by decide +kernel) (by decide +kernel)
set_option maxRecDepth 20000 in
theorem gX8_breaks_X8_fail : GoodIn wsX8_breaks (wsV RX8 89 RX8 yX8_fail wsX8_fail) := goodIn_app (goodIn_of _ (by decide +kernel)) ggX8_breaks_X8_fail
set_option maxRecDepth 20000 in
theorem ggX8_breaks_X8_mould : GoodIn wsX8_breaks wsX8_mould := goodIn_r _ [17] (by decide +kernel) (by decide +kernel)
set_option maxRecDepth 20000 in
theorem gX8_breaks_X8_mould : GoodIn wsX8_breaks (va_wsS RX8 134 yX8_mould wsX8_mould) := goodIn_app (goodIn_of _ (by decide +kernel)) ggX8_breaks_X8_mould
set_option maxRecDepth 20000 in
theorem ggX8_breaks_X8_ingot : GoodIn wsX8_breaks wsX8_ingot := goodIn_r _ [20] (by decide +kernel) (by decide +kernel)
set_option maxRecDepth 20000 in
theorem gX8_breaks_X8_ingot : GoodIn wsX8_breaks (va_wsS RX8 146 yX8_ingot wsX8_ingot) := goodIn_app (goodIn_of _ (by decide +kernel)) ggX8_breaks_X8_ingot
theorem dX8_breaks_0 : decode cX8_breaks 0 = .ok (.aload_n 0, 1) := by decide +kernel
theorem dX8_breaks_1 : decode cX8_breaks 1 = .ok (.iload_n 1, 1) := by decide +kernel
theorem dX8_breaks_2 : decode cX8_breaks 2 = .ok (.invokevirtual 140, 3) := by decide +kernel
theorem dX8_breaks_5 : decode cX8_breaks 5 = .ok (.ifCond .ne 9, 3) := by decide +kernel
theorem dX8_breaks_8 : decode cX8_breaks 8 = .ok (.aload_n 0, 1) := by decide +kernel
theorem dX8_breaks_9 : decode cX8_breaks 9 = .ok (.iconst 1, 1) := by decide +kernel
theorem dX8_breaks_10 : decode cX8_breaks 10 = .ok (.invokevirtual 89, 3) := by decide +kernel
theorem dX8_breaks_13 : decode cX8_breaks 13 = .ok (.ireturn, 1) := by decide +kernel
theorem dX8_breaks_14 : decode cX8_breaks 14 = .ok (.iload_n 1, 1) := by decide +kernel
theorem dX8_breaks_15 : decode cX8_breaks 15 = .ok (.invokestatic 134, 3) := by decide +kernel
theorem dX8_breaks_18 : decode cX8_breaks 18 = .ok (.istore_n 2, 1) := by decide +kernel
theorem dX8_breaks_19 : decode cX8_breaks 19 = .ok (.aload_n 0, 1) := by decide +kernel
theorem dX8_breaks_20 : decode cX8_breaks 20 = .ok (.getfield 16, 3) := by decide +kernel
theorem dX8_breaks_23 : decode cX8_breaks 23 = .ok (.bipush 43, 2) := by decide +kernel
theorem dX8_breaks_25 : decode cX8_breaks 25 = .ok (.iaload, 1) := by decide +kernel
theorem dX8_breaks_26 : decode cX8_breaks 26 = .ok (.istore_n 3, 1) := by decide +kernel
theorem dX8_breaks_27 : decode cX8_breaks 27 = .ok (.aload_n 0, 1) := by decide +kernel
theorem dX8_breaks_28 : decode cX8_breaks 28 = .ok (.getfield 16, 3) := by decide +kernel
theorem dX8_breaks_31 : decode cX8_breaks 31 = .ok (.iload_n 2, 1) := by decide +kernel
theorem dX8_breaks_32 : decode cX8_breaks 32 = .ok (.iconst 5, 1) := by decide +kernel
theorem dX8_breaks_33 : decode cX8_breaks 33 = .ok (.iadd, 1) := by decide +kernel
theorem dX8_breaks_34 : decode cX8_breaks 34 = .ok (.iaload, 1) := by decide +kernel
theorem dX8_breaks_35 : decode cX8_breaks 35 = .ok (.ifCond .ne 9, 3) := by decide +kernel
theorem dX8_breaks_38 : decode cX8_breaks 38 = .ok (.aload_n 0, 1) := by decide +kernel
theorem dX8_breaks_39 : decode cX8_breaks 39 = .ok (.iconst 2, 1) := by decide +kernel
theorem dX8_breaks_40 : decode cX8_breaks 40 = .ok (.invokevirtual 89, 3) := by decide +kernel
theorem dX8_breaks_43 : decode cX8_breaks 43 = .ok (.ireturn, 1) := by decide +kernel
theorem dX8_breaks_44 : decode cX8_breaks 44 = .ok (.iload_n 3, 1) := by decide +kernel
theorem dX8_breaks_45 : decode cX8_breaks 45 = .ok (.bipush 12, 2) := by decide +kernel
theorem dX8_breaks_47 : decode cX8_breaks 47 = .ok (.if_icmp .ne 9, 3) := by decide +kernel
theorem dX8_breaks_50 : decode cX8_breaks 50 = .ok (.aload_n 0, 1) := by decide +kernel
theorem dX8_breaks_51 : decode cX8_breaks 51 = .ok (.iconst 3, 1) := by decide +kernel
theorem dX8_breaks_52 : decode cX8_breaks 52 = .ok (.invokevirtual 89, 3) := by decide +kernel
theorem dX8_breaks_55 : decode cX8_breaks 55 = .ok (.ireturn, 1) := by decide +kernel
theorem dX8_breaks_56 : decode cX8_breaks 56 = .ok (.iconst 0, 1) := by decide +kernel
theorem dX8_breaks_57 : decode cX8_breaks 57 = .ok (.istore 4, 2) := by decide +kernel
theorem dX8_breaks_59 : decode cX8_breaks 59 = .ok (.iload 4, 2) := by decide +kernel
theorem dX8_breaks_61 : decode cX8_breaks 61 = .ok (.iconst 4, 1) := by decide +kernel
theorem dX8_breaks_62 : decode cX8_breaks 62 = .ok (.if_icmp .ge 40, 3) := by decide +kernel
theorem dX8_breaks_65 : decode cX8_breaks 65 = .ok (.aload_n 0, 1) := by decide +kernel
theorem dX8_breaks_66 : decode cX8_breaks 66 = .ok (.getfield 16, 3) := by decide +kernel
theorem dX8_breaks_69 : decode cX8_breaks 69 = .ok (.iload_n 3, 1) := by decide +kernel
theorem dX8_breaks_70 : decode cX8_breaks 70 = .ok (.invokestatic 146, 3) := by decide +kernel
theorem dX8_breaks_73 : decode cX8_breaks 73 = .ok (.iload 4, 2) := by decide +kernel
theorem dX8_breaks_75 : decode cX8_breaks 75 = .ok (.iadd, 1) := by decide +kernel
theorem dX8_breaks_76 : decode cX8_breaks 76 = .ok (.aload_n 0, 1) := by decide +kernel
theorem dX8_breaks_77 : decode cX8_breaks 77 = .ok (.getfield 16, 3) := by decide +kernel
theorem dX8_breaks_80 : decode cX8_breaks 80 = .ok (.iload_n 2, 1) := by decide +kernel
theorem dX8_breaks_81 : decode cX8_breaks 81 = .ok (.iload 4, 2) := by decide +kernel
theorem dX8_breaks_83 : decode cX8_breaks 83 = .ok (.iadd, 1) := by decide +kernel
theorem dX8_breaks_84 : decode cX8_breaks 84 = .ok (.iaload, 1) := by decide +kernel
theorem dX8_breaks_85 : decode cX8_breaks 85 = .ok (.iastore, 1) := by decide +kernel
theorem dX8_breaks_86 : decode cX8_breaks 86 = .ok (.aload_n 0, 1) := by decide +kernel
theorem dX8_breaks_87 : decode cX8_breaks 87 = .ok (.getfield 16, 3) := by decide +kernel
theorem dX8_breaks_90 : decode cX8_breaks 90 = .ok (.iload_n 2, 1) := by decide +kernel
theorem dX8_breaks_91 : decode cX8_breaks 91 = .ok (.iload 4, 2) := by decide +kernel
theorem dX8_breaks_93 : decode cX8_breaks 93 = .ok (.iadd, 1) := by decide +kernel
theorem dX8_breaks_94 : decode cX8_breaks 94 = .ok (.iconst 0, 1) := by decide +kernel
theorem dX8_breaks_95 : decode cX8_breaks 95 = .ok (.iastore, 1) := by decide +kernel
theorem dX8_breaks_96 : decode cX8_breaks 96 = .ok (.iinc 4 1, 3) := by decide +kernel
theorem dX8_breaks_99 : decode cX8_breaks 99 = .ok (.goto (-40), 3) := by decide +kernel
theorem dX8_breaks_102 : decode cX8_breaks 102 = .ok (.aload_n 0, 1) := by decide +kernel
theorem dX8_breaks_103 : decode cX8_breaks 103 = .ok (.getfield 16, 3) := by decide +kernel
theorem dX8_breaks_106 : decode cX8_breaks 106 = .ok (.iload_n 2, 1) := by decide +kernel
theorem dX8_breaks_107 : decode cX8_breaks 107 = .ok (.iconst 5, 1) := by decide +kernel
theorem dX8_breaks_108 : decode cX8_breaks 108 = .ok (.iadd, 1) := by decide +kernel
theorem dX8_breaks_109 : decode cX8_breaks 109 = .ok (.iconst 0, 1) := by decide +kernel
theorem dX8_breaks_110 : decode cX8_breaks 110 = .ok (.iastore, 1) := by decide +kernel
theorem dX8_breaks_111 : decode cX8_breaks 111 = .ok (.aload_n 0, 1) := by decide +kernel
theorem dX8_breaks_112 : decode cX8_breaks 112 = .ok (.getfield 16, 3) := by decide +kernel
theorem dX8_breaks_115 : decode cX8_breaks 115 = .ok (.bipush 43, 2) := by decide +kernel
theorem dX8_breaks_117 : decode cX8_breaks 117 = .ok (.dup2, 1) := by decide +kernel
theorem dX8_breaks_118 : decode cX8_breaks 118 = .ok (.iaload, 1) := by decide +kernel
theorem dX8_breaks_119 : decode cX8_breaks 119 = .ok (.iconst 1, 1) := by decide +kernel
theorem dX8_breaks_120 : decode cX8_breaks 120 = .ok (.iadd, 1) := by decide +kernel
theorem dX8_breaks_121 : decode cX8_breaks 121 = .ok (.iastore, 1) := by decide +kernel
theorem dX8_breaks_122 : decode cX8_breaks 122 = .ok (.iload_n 3, 1) := by decide +kernel
