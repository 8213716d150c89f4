theorem dX8_mass_13 : decode cX8_mass 13 = .ok (.iaload, 1) := by decide +kernel
theorem dX8_mass_14 : decode cX8_mass 14 = .ok (.iadd, 1) := by decide +kernel
theorem dX8_mass_15 : decode cX8_mass 15 = .ok (.aload_n 0, 1) := by decide +kernel
theorem dX8_mass_16 : decode cX8_mass 16 = .ok (.getfield 16, 3) := by decide +kernel
theorem dX8_mass_19 : decode cX8_mass 19 = .ok (.iload_n 1, 1) := by decide +kernel
theorem dX8_mass_20 : decode cX8_mass 20 = .ok (.iconst 2, 1) := by decide +kernel
theorem dX8_mass_21 : decode cX8_mass 21 = .ok (.iadd, 1) := by decide +kernel
theorem dX8_mass_22 : decode cX8_mass 22 = .ok (.iaload, 1) := by decide +kernel
theorem dX8_mass_23 : decode cX8_mass 23 = .ok (.iadd, 1) := by decide +kernel
theorem dX8_mass_24 : decode cX8_mass 24 = .ok (.aload_n 0, 1) := by decide +kernel
theorem dX8_mass_25 : decode cX8_mass 25 = .ok (.getfield 16, 3) := by decide +kernel
theorem dX8_mass_28 : decode cX8_mass 28 = .ok (.iload_n 1, 1) := by decide +kernel
theorem dX8_mass_29 : decode cX8_mass 29 = .ok (.iconst 3, 1) := by decide +kernel
theorem dX8_mass_30 : decode cX8_mass 30 = .ok (.iadd, 1) := by decide +kernel
theorem dX8_mass_31 : decode cX8_mass 31 = .ok (.iaload, 1) := by decide +kernel
theorem dX8_mass_32 : decode cX8_mass 32 = .ok (.iadd, 1) := by decide +kernel
theorem dX8_mass_33 : decode cX8_mass 33 = .ok (.ireturn, 1) := by decide +kernel
set_option maxRecDepth 20000 in
theorem ggX8_point_X8_mass : GoodIn wsX8_point wsX8_mass := goodIn_ca (goodIn_r _ [7, 1, 8, 9, 10, 11, 12, 13, 14, 15, 16, 17, 18, 19, 20, 21, 22, 23, 24, 25, 26, 27, 28, 29] (by decide +kernel) (by decide +kernel)) (goodIn_sub (fun _ h => List.mem_cons_of_mem _ (List.mem_append_left _ (List.mem_append_right _ h))) (by decide +kernel))
set_option maxRecDepth 20000 in
theorem gX8_point_X8_mass : GoodIn wsX8_point (wsV RX8 71 RX8 yX8_mass wsX8_mass) := goodIn_app (goodIn_of _ (by decide +kernel)) ggX8_point_X8_mass
theorem dX8_point_0 : decode cX8_point 0 = .ok (.iconst 0, 1) := by decide +kernel
theorem dX8_point_1 : decode cX8_point 1 = .ok (.istore_n 2, 1) := by decide +kernel
theorem dX8_point_2 : decode cX8_point 2 = .ok (.iconst 0, 1) := by decide +kernel
theorem dX8_point_3 : decode cX8_point 3 = .ok (.istore_n 3, 1) := by decide +kernel
theorem dX8_point_4 : decode cX8_point 4 = .ok (.iload_n 3, 1) := by decide +kernel
theorem dX8_point_5 : decode cX8_point 5 = .ok (.iconst 4, 1) := by decide +kernel
theorem dX8_point_6 : decode cX8_point 6 = .ok (.if_icmp .ge 27, 3) := by decide +kernel
theorem dX8_point_9 : decode cX8_point 9 = .ok (.iload_n 2, 1) := by decide +kernel
theorem dX8_point_10 : decode cX8_point 10 = .ok (.aload_n 0, 1) := by decide +kernel
theorem dX8_point_11 : decode cX8_point 11 = .ok (.getfield 16, 3) := by decide +kernel
theorem dX8_point_14 : decode cX8_point 14 = .ok (.iload_n 1, 1) := by decide +kernel
theorem dX8_point_15 : decode cX8_point 15 = .ok (.iload_n 3, 1) := by decide +kernel
theorem dX8_point_16 : decode cX8_point 16 = .ok (.iadd, 1) := by decide +kernel
theorem dX8_point_17 : decode cX8_point 17 = .ok (.iaload, 1) := by decide +kernel
theorem dX8_point_18 : decode cX8_point 18 = .ok (.aload_n 0, 1) := by decide +kernel
theorem dX8_point_19 : decode cX8_point 19 = .ok (.getfield 32, 3) := by decide +kernel
theorem dX8_point_22 : decode cX8_point 22 = .ok (.iload_n 3, 1) := by decide +kernel
theorem dX8_point_23 : decode cX8_point 23 = .ok (.iaload, 1) := by decide +kernel
theorem dX8_point_24 : decode cX8_point 24 = .ok (.imul, 1) := by decide +kernel
theorem dX8_point_25 : decode cX8_point 25 = .ok (.iadd, 1) := by decide +kernel
theorem dX8_point_26 : decode cX8_point 26 = .ok (.istore_n 2, 1) := by decide +kernel
theorem dX8_point_27 : decode cX8_point 27 = .ok (.iinc 3 1, 3) := by decide +kernel
theorem dX8_point_30 : decode cX8_point 30 = .ok (.goto (-26), 3) := by decide +kernel
theorem dX8_point_33 : decode cX8_point 33 = .ok (.iload_n 2, 1) := by decide +kernel
theorem dX8_point_34 : decode cX8_point 34 = .ok (.aload_n 0, 1) := by decide +kernel
theorem dX8_point_35 : decode cX8_point 35 = .ok (.iload_n 1, 1) := by decide +kernel
theorem dX8_point_36 : decode cX8_point 36 = .ok (.invokevirtual 71, 3) := by decide +kernel
theorem dX8_point_39 : decode cX8_point 39 = .ok (.idiv, 1) := by decide +kernel
theorem dX8_point_40 : decode cX8_point 40 = .ok (.ireturn, 1) := by decide +kernel
set_option maxRecDepth 20000 in
theorem ggX8_isFluid_X8_mass : GoodIn wsX8_isFluid wsX8_mass := goodIn_ca (goodIn_r _ [6, 1, 12, 13, 14, 15, 16, 17, 18, 19, 20, 21, 22, 23, 24, 25, 26, 27, 28, 29, 30, 31, 32, 33] (by decide +kernel) (by decide +kernel)) (goodIn_sub (fun _ h => List.mem_cons_of_mem _ (List.mem_append_left _ (List.mem_append_right _ h))) (by decide +kernel))
set_option maxRecDepth 20000 in
theorem gX8_isFluid_X8_mass : GoodIn wsX8_isFluid (wsV RX8 71 RX8 yX8_mass wsX8_mass) := goodIn_app (goodIn_of _ (by decide +kernel)) ggX8_isFluid_X8_mass
set_option maxRecDepth 20000 in
theorem ggX8_isFluid_X8_point : GoodIn wsX8_isFluid wsX8_point := goodIn_ca (goodIn_ca (goodIn_r _ [10, 1, 11, 2, 3, 4, 5, 6, 12, 13, 14, 15, 16, 17, 18, 19, 20, 21, 22, 23, 24, 25, 26, 27, 28, 29, 30, 31, 32, 33] (by decide +kernel) (by decide +kernel)) (goodIn_sub (fun _ h => List.mem_cons_of_mem _ (List.mem_append_left _ (List.mem_append_right _ h))) (by decide +kernel))) (goodIn_sub (fun _ h => List.mem_cons_of_mem _ (List.mem_append_right _ h)) (by decide +kernel))
set_option maxRecDepth 20000 in
theorem gX8_isFluid_X8_point : GoodIn wsX8_isFluid (wsV RX8 74 RX8 yX8_point wsX8_point) := goodIn_app (goodIn_of _ (by decide +kernel)) ggX8_isFluid_X8_point
theorem dX8_isFluid_0 : decode cX8_isFluid 0 = .ok (.aload_n 0, 1) := by decide +kernel
theorem dX8_isFluid_1 : decode cX8_isFluid 1 = .ok (.iload_n 1, 1) := by decide +kernel
theorem dX8_isFluid_2 : decode cX8_isFluid 2 = .ok (.invokevirtual 71, 3) := by decide +kernel
theorem dX8_isFluid_5 : decode cX8_isFluid 5 = .ok (.ifCond .le 23, 3) := by decide +kernel
theorem dX8_isFluid_8 : decode cX8_isFluid 8 = .ok (.aload_n 0, 1) := by decide +kernel
theorem dX8_isFluid_9 : decode cX8_isFluid 9 = .ok (.getfield 16, 3) := by decide +kernel
theorem dX8_isFluid_12 : decode cX8_isFluid 12 = .ok (.iload_n 1, 1) := by decide +kernel
theorem dX8_isFluid_13 : decode cX8_isFluid 13 = .ok (.iconst 4, 1) := by decide +kernel
theorem dX8_isFluid_14 : decode cX8_isFluid 14 = .ok (.iadd, 1) := by decide +kernel
theorem dX8_isFluid_15 : decode cX8_isFluid 15 = .ok (.iaload, 1) := by decide +kernel
theorem dX8_isFluid_16 : decode cX8_isFluid 16 = .ok (.aload_n 0, 1) := by decide +kernel
theorem dX8_isFluid_17 : decode cX8_isFluid 17 = .ok (.iload_n 1, 1) := by decide +kernel
theorem dX8_isFluid_18 : decode cX8_isFluid 18 = .ok (.invokevirtual 74, 3) := by decide +kernel
theorem dX8_isFluid_21 : decode cX8_isFluid 21 = .ok (.if_icmp .lt 7, 3) := by decide +kernel
theorem dX8_isFluid_24 : decode cX8_isFluid 24 = .ok (.iconst 1, 1) := by decide +kernel
theorem dX8_isFluid_25 : decode cX8_isFluid 25 = .ok (.goto 4, 3) := by decide +kernel
theorem dX8_isFluid_28 : decode cX8_isFluid 28 = .ok (.iconst 0, 1) := by decide +kernel
theorem dX8_isFluid_29 : decode cX8_isFluid 29 = .ok (.ireturn, 1) := by decide +kernel
set_option maxRecDepth 20000 in
theorem ggX8_takes_X8_mass : GoodIn wsX8_takes wsX8_mass := goodIn_ca (goodIn_r _ [7, 2, 8, 9, 10, 11, 12, 13, 14, 15, 16, 17, 18, 19, 20, 21, 22, 23, 24, 25, 26, 27, 28, 29] (by decide +kernel) (by decide +kernel)) (goodIn_sub (fun _ h => List.mem_cons_of_mem _ (List.mem_append_left _ (List.mem_append_right _ h))) (by decide +kernel))
set_option maxRecDepth 20000 in
theorem gX8_takes_X8_mass : GoodIn wsX8_takes (wsV RX8 71 RX8 yX8_mass wsX8_mass) := goodIn_app (goodIn_of _ (by decide +kernel)) ggX8_takes_X8_mass
theorem dX8_takes_0 : decode cX8_takes 0 = .ok (.aload_n 0, 1) := by decide +kernel
theorem dX8_takes_1 : decode cX8_takes 1 = .ok (.iload_n 1, 1) := by decide +kernel
theorem dX8_takes_2 : decode cX8_takes 2 = .ok (.invokevirtual 71, 3) := by decide +kernel
theorem dX8_takes_5 : decode cX8_takes 5 = .ok (.istore_n 3, 1) := by decide +kernel
theorem dX8_takes_6 : decode cX8_takes 6 = .ok (.iload_n 2, 1) := by decide +kernel
theorem dX8_takes_7 : decode cX8_takes 7 = .ok (.istore 4, 2) := by decide +kernel
theorem dX8_takes_9 : decode cX8_takes 9 = .ok (.iconst 0, 1) := by decide +kernel
theorem dX8_takes_10 : decode cX8_takes 10 = .ok (.istore 5, 2) := by decide +kernel
theorem dX8_takes_12 : decode cX8_takes 12 = .ok (.iload 5, 2) := by decide +kernel
theorem dX8_takes_14 : decode cX8_takes 14 = .ok (.iconst 4, 1) := by decide +kernel
theorem dX8_takes_15 : decode cX8_takes 15 = .ok (.if_icmp .ge 41, 3) := by decide +kernel
theorem dX8_takes_18 : decode cX8_takes 18 = .ok (.aload_n 0, 1) := by decide +kernel
theorem dX8_takes_19 : decode cX8_takes 19 = .ok (.getfield 29, 3) := by decide +kernel
theorem dX8_takes_22 : decode cX8_takes 22 = .ok (.iload 5, 2) := by decide +kernel
theorem dX8_takes_24 : decode cX8_takes 24 = .ok (.aload_n 0, 1) := by decide +kernel
theorem dX8_takes_25 : decode cX8_takes 25 = .ok (.getfield 16, 3) := by decide +kernel
theorem dX8_takes_28 : decode cX8_takes 28 = .ok (.iload_n 1, 1) := by decide +kernel
theorem dX8_takes_29 : decode cX8_takes 29 = .ok (.iload 5, 2) := by decide +kernel
theorem dX8_takes_31 : decode cX8_takes 31 = .ok (.iadd, 1) := by decide +kernel
theorem dX8_takes_32 : decode cX8_takes 32 = .ok (.iaload, 1) := by decide +kernel
theorem dX8_takes_33 : decode cX8_takes 33 = .ok (.iload_n 2, 1) := by decide +kernel
theorem dX8_takes_34 : decode cX8_takes 34 = .ok (.imul, 1) := by decide +kernel
theorem dX8_takes_35 : decode cX8_takes 35 = .ok (.iload_n 3, 1) := by decide +kernel
theorem dX8_takes_36 : decode cX8_takes 36 = .ok (.idiv, 1) := by decide +kernel
theorem dX8_takes_37 : decode cX8_takes 37 = .ok (.iastore, 1) := by decide +kernel
theorem dX8_takes_38 : decode cX8_takes 38 = .ok (.iload 4, 2) := by decide +kernel
theorem dX8_takes_40 : decode cX8_takes 40 = .ok (.aload_n 0, 1) := by decide +kernel
theorem dX8_takes_41 : decode cX8_takes 41 = .ok (.getfield 29, 3) := by decide +kernel
theorem dX8_takes_44 : decode cX8_takes 44 = .ok (.iload 5, 2) := by decide +kernel
theorem dX8_takes_46 : decode cX8_takes 46 = .ok (.iaload, 1) := by decide +kernel
theorem dX8_takes_47 : decode cX8_takes 47 = .ok (.isub, 1) := by decide +kernel
theorem dX8_takes_48 : decode cX8_takes 48 = .ok (.istore 4, 2) := by decide +kernel
theorem dX8_takes_50 : decode cX8_takes 50 = .ok (.iinc 5 1, 3) := by decide +kernel
theorem dX8_takes_53 : decode cX8_takes 53 = .ok (.goto (-41), 3) := by decide +kernel
theorem dX8_takes_56 : decode cX8_takes 56 = .ok (.iconst 0, 1) := by decide +kernel
theorem dX8_takes_57 : decode cX8_takes 57 = .ok (.istore 5, 2) := by decide +kernel
theorem dX8_takes_59 : decode cX8_takes 59 = .ok (.iload 5, 2) := by decide +kernel
theorem dX8_takes_61 : decode cX8_takes 61 = .ok (.iconst 4, 1) := by decide +kernel
theorem dX8_takes_62 : decode cX8_takes 62 = .ok (.if_icmp .ge 28, 3) := by decide +kernel
theorem dX8_takes_65 : decode cX8_takes 65 = .ok (.aload_n 0, 1) := by decide +kernel
theorem dX8_takes_66 : decode cX8_takes 66 = .ok (.getfield 16, 3) := by decide +kernel
theorem dX8_takes_69 : decode cX8_takes 69 = .ok (.iload_n 1, 1) := by decide +kernel
theorem dX8_takes_70 : decode cX8_takes 70 = .ok (.iload 5, 2) := by decide +kernel
theorem dX8_takes_72 : decode cX8_takes 72 = .ok (.iadd, 1) := by decide +kernel
theorem dX8_takes_73 : decode cX8_takes 73 = .ok (.dup2, 1) := by decide +kernel
theorem dX8_takes_74 : decode cX8_takes 74 = .ok (.iaload, 1) := by decide +kernel
theorem dX8_takes_75 : decode cX8_takes 75 = .ok (.aload_n 0, 1) := by decide +kernel
theorem dX8_takes_76 : decode cX8_takes 76 = .ok (.getfield 29, 3) := by decide +kernel
theorem dX8_takes_79 : decode cX8_takes 79 = .ok (.iload 5, 2) := by decide +kernel
theorem dX8_takes_81 : decode cX8_takes 81 = .ok (.iaload, 1) := by decide +kernel
theorem dX8_takes_82 : decode cX8_takes 82 = .ok (.isub, 1) := by decide +kernel
theorem dX8_takes_83 : decode cX8_takes 83 = .ok (.iastore, 1) := by decide +kernel
theorem dX8_takes_84 : decode cX8_takes 84 = .ok (.iinc 5 1, 3) := by decide +kernel
theorem dX8_takes_87 : decode cX8_takes 87 = .ok (.goto (-28), 3) := by decide +kernel
theorem dX8_takes_90 : decode cX8_takes 90 = .ok (.iload 4, 2) := by decide +kernel
theorem dX8_takes_92 : decode cX8_takes 92 = .ok (.ifCond .le 76, 3) := by decide +kernel
theorem dX8_takes_95 : decode cX8_takes 95 = .ok (.iconst 0, 1) := by decide +kernel
theorem dX8_takes_96 : decode cX8_takes 96 = .ok (.istore 5, 2) := by decide +kernel
theorem dX8_takes_98 : decode cX8_takes 98 = .ok (.iconst 1, 1) := by decide +kernel
theorem dX8_takes_99 : decode cX8_takes 99 = .ok (.istore 6, 2) := by decide +kernel
theorem dX8_takes_101 : decode cX8_takes 101 = .ok (.iload 6, 2) := by decide +kernel
theorem dX8_takes_103 : decode cX8_takes 103 = .ok (.iconst 4, 1) := by decide +kernel
theorem dX8_takes_104 : decode cX8_takes 104 = .ok (.if_icmp .ge 34, 3) := by decide +kernel
theorem dX8_takes_107 : decode cX8_takes 107 = .ok (.aload_n 0, 1) := by decide +kernel
theorem dX8_takes_108 : decode cX8_takes 108 = .ok (.getfield 16, 3) := by decide +kernel
theorem dX8_takes_111 : decode cX8_takes 111 = .ok (.iload_n 1, 1) := by decide +kernel
theorem dX8_takes_112 : decode cX8_takes 112 = .ok (.iload 6, 2) := by decide +kernel
theorem dX8_takes_114 : decode cX8_takes 114 = .ok (.iadd, 1) := by decide +kernel
theorem dX8_takes_115 : decode cX8_takes 115 = .ok (.iaload, 1) := by decide +kernel
theorem dX8_takes_116 : decode cX8_takes 116 = .ok (.aload_n 0, 1) := by decide +kernel
theorem dX8_takes_117 : decode cX8_takes 117 = .ok (.getfield 16, 3) := by decide +kernel
theorem dX8_takes_120 : decode cX8_takes 120 = .ok (.iload_n 1, 1) := by decide +kernel
theorem dX8_takes_121 : decode cX8_takes 121 = .ok (.iload 5, 2) := by decide +kernel
theorem dX8_takes_123 : decode cX8_takes 123 = .ok (.iadd, 1) := by decide +kernel
theorem dX8_takes_124 : decode cX8_takes 124 = .ok (.iaload, 1) := by decide +kernel
theorem dX8_takes_125 : decode cX8_takes 125 = .ok (.if_icmp .le 7, 3) := by decide +kernel
theorem dX8_takes_128 : decode cX8_takes 128 = .ok (.iload 6, 2) := by decide +kernel
theorem dX8_takes_130 : decode cX8_takes 130 = .ok (.istore 5, 2) := by decide +kernel
theorem dX8_takes_132 : decode cX8_takes 132 = .ok (.iinc 6 1, 3) := by decide +kernel
theorem dX8_takes_135 : decode cX8_takes 135 = .ok (.goto (-34), 3) := by decide +kernel
theorem dX8_takes_138 : decode cX8_takes 138 = .ok (.aload_n 0, 1) := by decide +kernel
theorem dX8_takes_139 : decode cX8_takes 139 = .ok (.getfield 16, 3) := by decide +kernel
theorem dX8_takes_142 : decode cX8_takes 142 = .ok (.iload_n 1, 1) := by decide +kernel
theorem dX8_takes_143 : decode cX8_takes 143 = .ok (.iload 5, 2) := by decide +kernel
theorem dX8_takes_145 : decode cX8_takes 145 = .ok (.iadd, 1) := by decide +kernel
theorem dX8_takes_146 : decode cX8_takes 146 = .ok (.dup2, 1) := by decide +kernel
theorem dX8_takes_147 : decode cX8_takes 147 = .ok (.iaload, 1) := by decide +kernel
theorem dX8_takes_148 : decode cX8_takes 148 = .ok (.iconst 1, 1) := by decide +kernel
theorem dX8_takes_149 : decode cX8_takes 149 = .ok (.isub, 1) := by decide +kernel
theorem dX8_takes_150 : decode cX8_takes 150 = .ok (.iastore, 1) := by decide +kernel
theorem dX8_takes_151 : decode cX8_takes 151 = .ok (.aload_n 0, 1) := by decide +kernel
theorem dX8_takes_152 : decode cX8_takes 152 = .ok (.getfield 29, 3) := by decide +kernel
theorem dX8_takes_155 : decode cX8_takes 155 = .ok (.iload 5, 2) := by decide +kernel
theorem dX8_takes_157 : decode cX8_takes 157 = .ok (.dup2, 1) := by decide +kernel
theorem dX8_takes_158 : decode cX8_takes 158 = .ok (.iaload, 1) := by decide +kernel
theorem dX8_takes_159 : decode cX8_takes 159 = .ok (.iconst 1, 1) := by decide +kernel
theorem dX8_takes_160 : decode cX8_takes 160 = .ok (.iadd, 1) := by decide +kernel
theorem dX8_takes_161 : decode cX8_takes 161 = .ok (.iastore, 1) := by decide +kernel
theorem dX8_takes_162 : decode cX8_takes 162 = .ok (.iinc 4 (-1), 3) := by decide +kernel
theorem dX8_takes_165 : decode cX8_takes 165 = .ok (.goto (-75), 3) := by decide +kernel
theorem dX8_takes_168 : decode cX8_takes 168 = .ok (.return_, 1) := by decide +kernel
theorem dX8_partMass_0 : decode cX8_partMass 0 = .ok (.aload_n 0, 1) := by decide +kernel
theorem dX8_partMass_1 : decode cX8_partMass 1 = .ok (.getfield 29, 3) := by decide +kernel
theorem dX8_partMass_4 : decode cX8_partMass 4 = .ok (.iconst 0, 1) := by decide +kernel
theorem dX8_partMass_5 : decode cX8_partMass 5 = .ok (.iaload, 1) := by decide +kernel
theorem dX8_partMass_6 : decode cX8_partMass 6 = .ok (.aload_n 0, 1) := by decide +kernel
theorem dX8_partMass_7 : decode cX8_partMass 7 = .ok (.getfield 29, 3) := by decide +kernel
theorem dX8_partMass_10 : decode cX8_partMass 10 = .ok (.iconst 1, 1) := by decide +kernel
theorem dX8_partMass_11 : decode cX8_partMass 11 = .ok (.iaload, 1) := by decide +kernel
theorem dX8_partMass_12 : decode cX8_partMass 12 = .ok (.iadd, 1) := by decide +kernel
theorem dX8_partMass_13 : decode cX8_partMass 13 = .ok (.aload_n 0, 1) := by decide +kernel
theorem dX8_partMass_14 : decode cX8_partMass 14 = .ok (.getfield 29, 3) := by decide +kernel
theorem dX8_partMass_17 : decode cX8_partMass 17 = .ok (.iconst 2, 1) := by decide +kernel
theorem dX8_partMass_18 : decode cX8_partMass 18 = .ok (.iaload, 1) := by decide +kernel
theorem dX8_partMass_19 : decode cX8_partMass 19 = .ok (.iadd, 1) := by decide +kernel
theorem dX8_partMass_20 : decode cX8_partMass 20 = .ok (.aload_n 0, 1) := by decide +kernel
theorem dX8_partMass_21 : decode cX8_partMass 21 = .ok (.getfield 29, 3) := by decide +kernel
theorem dX8_partMass_24 : decode cX8_partMass 24 = .ok (.iconst 3, 1) := by decide +kernel
theorem dX8_partMass_25 : decode cX8_partMass 25 = .ok (.iaload, 1) := by decide +kernel
theorem dX8_partMass_26 : decode cX8_partMass 26 = .ok (.iadd, 1) := by decide +kernel
theorem dX8_partMass_27 : decode cX8_partMass 27 = .ok (.ireturn, 1) := by decide +kernel
theorem dX8_adds_0 : decode cX8_adds 0 = .ok (.iconst 0, 1) := by decide +kernel
theorem dX8_adds_1 : decode cX8_adds 1 = .ok (.istore_n 2, 1) := by decide +kernel
theorem dX8_adds_2 : decode cX8_adds 2 = .ok (.iload_n 2, 1) := by decide +kernel
theorem dX8_adds_3 : decode cX8_adds 3 = .ok (.iconst 4, 1) := by decide +kernel
theorem dX8_adds_4 : decode cX8_adds 4 = .ok (.if_icmp .ge 26, 3) := by decide +kernel
theorem dX8_adds_7 : decode cX8_adds 7 = .ok (.aload_n 0, 1) := by decide +kernel
theorem dX8_adds_8 : decode cX8_adds 8 = .ok (.getfield 16, 3) := by decide +kernel
theorem dX8_adds_11 : decode cX8_adds 11 = .ok (.iload_n 1, 1) := by decide +kernel
theorem dX8_adds_12 : decode cX8_adds 12 = .ok (.iload_n 2, 1) := by decide +kernel
theorem dX8_adds_13 : decode cX8_adds 13 = .ok (.iadd, 1) := by decide +kernel
theorem dX8_adds_14 : decode cX8_adds 14 = .ok (.dup2, 1) := by decide +kernel
theorem dX8_adds_15 : decode cX8_adds 15 = .ok (.iaload, 1) := by decide +kernel
theorem dX8_adds_16 : decode cX8_adds 16 = .ok (.aload_n 0, 1) := by decide +kernel
theorem dX8_adds_17 : decode cX8_adds 17 = .ok (.getfield 29, 3) := by decide +kernel
theorem dX8_adds_20 : decode cX8_adds 20 = .ok (.iload_n 2, 1) := by decide +kernel
theorem dX8_adds_21 : decode cX8_adds 21 = .ok (.iaload, 1) := by decide +kernel
theorem dX8_adds_22 : decode cX8_adds 22 = .ok (.iadd, 1) := by decide +kernel
theorem dX8_adds_23 : decode cX8_adds 23 = .ok (.iastore, 1) := by decide +kernel
theorem dX8_adds_24 : decode cX8_adds 24 = .ok (.iinc 2 1, 3) := by decide +kernel
theorem dX8_adds_27 : decode cX8_adds 27 = .ok (.goto (-25), 3) := by decide +kernel
theorem dX8_adds_30 : decode cX8_adds 30 = .ok (.return_, 1) := by decide +kernel
set_option maxRecDepth 20000 in
theorem ggX8_feeds_X8_furnace : GoodIn wsX8_feeds wsX8_furnace := goodIn_r _ [5] (by decide +kernel) (by decide +kernel)
set_option maxRecDepth 20000 in
theorem gX8_feeds_X8_furnace : GoodIn wsX8_feeds (va_wsS RX8 50 yX8_furnace wsX8_furnace) := goodIn_app (goodIn_of _ (by decide +kernel)) ggX8_feeds_X8_furnace
set_option maxRecDepth 20000 in
theorem ggX8_feeds_X8_mass : GoodIn wsX8_feeds wsX8_mass := goodIn_ca (goodIn_r _ [9, 1, 19, 20, 21, 22, 23, 24, 25, 26, 27, 28, 29, 30, 31, 32, 33, 34, 35, 36, 37, 38, 39, 40] (by decide +kernel) (by decide +kernel)) (goodIn_sub (fun _ h => List.mem_cons_of_mem _ (List.mem_append_left _ (List.mem_append_right _ h))) (by decide +kernel))
set_option maxRecDepth 20000 in
theorem gX8_feeds_X8_mass : GoodIn wsX8_feeds (wsV RX8 71 RX8 yX8_mass wsX8_mass) := goodIn_app (goodIn_of _ (by decide +kernel)) ggX8_feeds_X8_mass
set_option maxRecDepth 20000 in
theorem ggX8_feeds_X8_partMass : GoodIn wsX8_feeds wsX8_partMass := goodIn_ca (goodIn_r _ [13, 14, 19, 20, 21, 22, 23, 24, 25, 26, 27, 28, 29, 30, 31, 32, 33, 34, 35, 36, 37, 38, 39, 40] (by decide +kernel) (by decide +kernel)) (goodIn_sub (fun _ h => List.mem_cons_of_mem _ (List.mem_append_left _ (List.mem_append_right _ h))) (by decide +kernel))
set_option maxRecDepth 20000 in
theorem gX8_feeds_X8_partMass : GoodIn wsX8_feeds (wsV RX8 77 RX8 yX8_partMass wsX8_partMass) := goodIn_app (goodIn_of _ (by decide +kernel)) ggX8_feeds_X8_partMass
set_option maxRecDepth 20000 in
theorem ggX8_feeds_X8_adds : GoodIn wsX8_feeds wsX8_adds := goodIn_ca (goodIn_r _ [18, 1, 14, 19, 20, 21, 22, 23, 24, 25, 26, 27, 28, 29, 30, 31, 32, 33, 34, 35, 36, 37, 38, 39, 40] (by decide +kernel) (by decide +kernel)) (goodIn_sub (fun _ h => List.mem_cons_of_mem _ (List.mem_append_left _ (List.mem_append_right _ h))) (by decide +kernel))
set_option maxRecDepth 20000 in
theorem gX8_feeds_X8_adds : GoodIn wsX8_feeds (wsV RX8 81 RX8 yX8_adds wsX8_adds) := goodIn_app (goodIn_of _ (by decide +kernel)) ggX8_feeds_X8_adds
theorem dX8_feeds_0 : decode cX8_feeds 0 = .ok (.iload_n 1, 1) := by decide +kernel
theorem dX8_feeds_1 : decode cX8_feeds 1 = .ok (.invokestatic 50, 3) := by decide +kernel
theorem dX8_feeds_4 : decode cX8_feeds 4 = .ok (.istore_n 3, 1) := by decide +kernel
theorem dX8_feeds_5 : decode cX8_feeds 5 = .ok (.aload_n 0, 1) := by decide +kernel
theorem dX8_feeds_6 : decode cX8_feeds 6 = .ok (.iload_n 3, 1) := by decide +kernel
theorem dX8_feeds_7 : decode cX8_feeds 7 = .ok (.invokevirtual 71, 3) := by decide +kernel
theorem dX8_feeds_10 : decode cX8_feeds 10 = .ok (.bipush 10, 2) := by decide +kernel
theorem dX8_feeds_12 : decode cX8_feeds 12 = .ok (.iadd, 1) := by decide +kernel
theorem dX8_feeds_13 : decode cX8_feeds 13 = .ok (.istore 4, 2) := by decide +kernel
theorem dX8_feeds_15 : decode cX8_feeds 15 = .ok (.aload_n 0, 1) := by decide +kernel
theorem dX8_feeds_16 : decode cX8_feeds 16 = .ok (.invokevirtual 77, 3) := by decide +kernel
theorem dX8_feeds_19 : decode cX8_feeds 19 = .ok (.istore 5, 2) := by decide +kernel
theorem dX8_feeds_21 : decode cX8_feeds 21 = .ok (.aload_n 0, 1) := by decide +kernel
theorem dX8_feeds_22 : decode cX8_feeds 22 = .ok (.getfield 16, 3) := by decide +kernel
theorem dX8_feeds_25 : decode cX8_feeds 25 = .ok (.iload_n 3, 1) := by decide +kernel
theorem dX8_feeds_26 : decode cX8_feeds 26 = .ok (.iconst 4, 1) := by decide +kernel
theorem dX8_feeds_27 : decode cX8_feeds 27 = .ok (.iadd, 1) := by decide +kernel
theorem dX8_feeds_28 : decode cX8_feeds 28 = .ok (.aload_n 0, 1) := by decide +kernel
theorem dX8_feeds_29 : decode cX8_feeds 29 = .ok (.getfield 16, 3) := by decide +kernel
theorem dX8_feeds_32 : decode cX8_feeds 32 = .ok (.iload_n 3, 1) := by decide +kernel
theorem dX8_feeds_33 : decode cX8_feeds 33 = .ok (.iconst 4, 1) := by decide +kernel
theorem dX8_feeds_34 : decode cX8_feeds 34 = .ok (.iadd, 1) := by decide +kernel
theorem dX8_feeds_35 : decode cX8_feeds 35 = .ok (.iaload, 1) := by decide +kernel
theorem dX8_feeds_36 : decode cX8_feeds 36 = .ok (.iload 4, 2) := by decide +kernel
theorem dX8_feeds_38 : decode cX8_feeds 38 = .ok (.imul, 1) := by decide +kernel
theorem dX8_feeds_39 : decode cX8_feeds 39 = .ok (.iload_n 2, 1) := by decide +kernel
theorem dX8_feeds_40 : decode cX8_feeds 40 = .ok (.iload 5, 2) := by decide +kernel
theorem dX8_feeds_42 : decode cX8_feeds 42 = .ok (.imul, 1) := by decide +kernel
theorem dX8_feeds_43 : decode cX8_feeds 43 = .ok (.iadd, 1) := by decide +kernel
theorem dX8_feeds_44 : decode cX8_feeds 44 = .ok (.iload 4, 2) := by decide +kernel
theorem dX8_feeds_46 : decode cX8_feeds 46 = .ok (.iload 5, 2) := by decide +kernel
theorem dX8_feeds_48 : decode cX8_feeds 48 = .ok (.iadd, 1) := by decide +kernel
theorem dX8_feeds_49 : decode cX8_feeds 49 = .ok (.idiv, 1) := by decide +kernel
theorem dX8_feeds_50 : decode cX8_feeds 50 = .ok (.iastore, 1) := by decide +kernel
theorem dX8_feeds_51 : decode cX8_feeds 51 = .ok (.aload_n 0, 1) := by decide +kernel
theorem dX8_feeds_52 : decode cX8_feeds 52 = .ok (.iload_n 3, 1) := by decide +kernel
theorem dX8_feeds_53 : decode cX8_feeds 53 = .ok (.invokevirtual 81, 3) := by decide +kernel
theorem dX8_feeds_56 : decode cX8_feeds 56 = .ok (.aload_n 0, 1) := by decide +kernel
theorem dX8_feeds_57 : decode cX8_feeds 57 = .ok (.getfield 16, 3) := by decide +kernel
theorem dX8_feeds_60 : decode cX8_feeds 60 = .ok (.iload_n 3, 1) := by decide +kernel
theorem dX8_feeds_61 : decode cX8_feeds 61 = .ok (.iconst 4, 1) := by decide +kernel
theorem dX8_feeds_62 : decode cX8_feeds 62 = .ok (.iadd, 1) := by decide +kernel
theorem dX8_feeds_63 : decode cX8_feeds 63 = .ok (.iaload, 1) := by decide +kernel
theorem dX8_feeds_64 : decode cX8_feeds 64 = .ok (.ireturn, 1) := by decide +kernel
set_option maxRecDepth 20000 in
theorem ggX8_fills_X8_ladle : GoodIn wsX8_fills wsX8_ladle := goodIn_r _ [5] (by decide +kernel) (by decide +kernel)
set_option maxRecDepth 20000 in
theorem gX8_fills_X8_ladle : GoodIn wsX8_fills (va_wsS RX8 54 yX8_ladle wsX8_ladle) := goodIn_app (goodIn_of _ (by decide +kernel)) ggX8_fills_X8_ladle
set_option maxRecDepth 20000 in
theorem ggX8_fills_X8_mass : GoodIn wsX8_fills wsX8_mass := goodIn_ca (goodIn_r _ [9, 1, 19, 20, 21, 22, 23, 24, 25, 26, 27, 28, 29, 30, 31, 32, 33, 34, 35, 36, 37, 38, 39, 40] (by decide +kernel) (by decide +kernel)) (goodIn_sub (fun _ h => List.mem_cons_of_mem _ (List.mem_append_left _ (List.mem_append_right _ h))) (by decide +kernel))
set_option maxRecDepth 20000 in
theorem gX8_fills_X8_mass : GoodIn wsX8_fills (wsV RX8 71 RX8 yX8_mass wsX8_mass) := goodIn_app (goodIn_of _ (by decide +kernel)) ggX8_fills_X8_mass
set_option maxRecDepth 20000 in
theorem ggX8_fills_X8_partMass : GoodIn wsX8_fills wsX8_partMass := goodIn_ca (goodIn_r _ [13, 14, 19, 20, 21, 22, 23, 24, 25, 26, 27, 28, 29, 30, 31, 32, 33, 34, 35, 36, 37, 38, 39, 40] (by decide +kernel) (by decide +kernel)) (goodIn_sub (fun _ h => List.mem_cons_of_mem _ (List.mem_append_left _ (List.mem_append_right _ h))) (by decide +kernel))
set_option maxRecDepth 20000 in
theorem gX8_fills_X8_partMass : GoodIn wsX8_fills (wsV RX8 77 RX8 yX8_partMass wsX8_partMass) := goodIn_app (goodIn_of _ (by decide +kernel)) ggX8_fills_X8_partMass
set_option maxRecDepth 20000 in
theorem ggX8_fills_X8_adds : GoodIn wsX8_fills wsX8_adds := goodIn_ca (goodIn_r _ [18, 1, 14, 19, 20, 21, 22, 23, 24, 25, 26, 27, 28, 29, 30, 31, 32, 33, 34, 35, 36, 37, 38, 39, 40] (by decide +kernel) (by decide +kernel)) (goodIn_sub (fun _ h => List.mem_cons_of_mem _ (List.mem_append_left _ (List.mem_append_right _ h))) (by decide +kernel))
set_option maxRecDepth 20000 in
theorem gX8_fills_X8_adds : GoodIn wsX8_fills (wsV RX8 81 RX8 yX8_adds wsX8_adds) := goodIn_app (goodIn_of _ (by decide +kernel)) ggX8_fills_X8_adds
theorem dX8_fills_0 : decode cX8_fills 0 = .ok (.iload_n 1, 1) := by decide +kernel
theorem dX8_fills_1 : decode cX8_fills 1 = .ok (.invokestatic 54, 3) := by decide +kernel
theorem dX8_fills_4 : decode cX8_fills 4 = .ok (.istore_n 3, 1) := by decide +kernel
theorem dX8_fills_5 : decode cX8_fills 5 = .ok (.aload_n 0, 1) := by decide +kernel
theorem dX8_fills_6 : decode cX8_fills 6 = .ok (.iload_n 3, 1) := by decide +kernel
theorem dX8_fills_7 : decode cX8_fills 7 = .ok (.invokevirtual 71, 3) := by decide +kernel
theorem dX8_fills_10 : decode cX8_fills 10 = .ok (.istore 4, 2) := by decide +kernel
theorem dX8_fills_12 : decode cX8_fills 12 = .ok (.aload_n 0, 1) := by decide +kernel
theorem dX8_fills_13 : decode cX8_fills 13 = .ok (.invokevirtual 77, 3) := by decide +kernel
theorem dX8_fills_16 : decode cX8_fills 16 = .ok (.istore 5, 2) := by decide +kernel
theorem dX8_fills_18 : decode cX8_fills 18 = .ok (.aload_n 0, 1) := by decide +kernel
theorem dX8_fills_19 : decode cX8_fills 19 = .ok (.getfield 16, 3) := by decide +kernel
theorem dX8_fills_22 : decode cX8_fills 22 = .ok (.iload_n 3, 1) := by decide +kernel
theorem dX8_fills_23 : decode cX8_fills 23 = .ok (.iconst 4, 1) := by decide +kernel
theorem dX8_fills_24 : decode cX8_fills 24 = .ok (.iadd, 1) := by decide +kernel
theorem dX8_fills_25 : decode cX8_fills 25 = .ok (.aload_n 0, 1) := by decide +kernel
theorem dX8_fills_26 : decode cX8_fills 26 = .ok (.getfield 16, 3) := by decide +kernel
theorem dX8_fills_29 : decode cX8_fills 29 = .ok (.iload_n 3, 1) := by decide +kernel
theorem dX8_fills_30 : decode cX8_fills 30 = .ok (.iconst 4, 1) := by decide +kernel
theorem dX8_fills_31 : decode cX8_fills 31 = .ok (.iadd, 1) := by decide +kernel
theorem dX8_fills_32 : decode cX8_fills 32 = .ok (.iaload, 1) := by decide +kernel
theorem dX8_fills_33 : decode cX8_fills 33 = .ok (.iload 4, 2) := by decide +kernel
theorem dX8_fills_35 : decode cX8_fills 35 = .ok (.imul, 1) := by decide +kernel
theorem dX8_fills_36 : decode cX8_fills 36 = .ok (.iload_n 2, 1) := by decide +kernel
theorem dX8_fills_37 : decode cX8_fills 37 = .ok (.iload 5, 2) := by decide +kernel
theorem dX8_fills_39 : decode cX8_fills 39 = .ok (.imul, 1) := by decide +kernel
theorem dX8_fills_40 : decode cX8_fills 40 = .ok (.iadd, 1) := by decide +kernel
theorem dX8_fills_41 : decode cX8_fills 41 = .ok (.iload 4, 2) := by decide +kernel
theorem dX8_fills_43 : decode cX8_fills 43 = .ok (.iload 5, 2) := by decide +kernel
theorem dX8_fills_45 : decode cX8_fills 45 = .ok (.iadd, 1) := by decide +kernel
theorem dX8_fills_46 : decode cX8_fills 46 = .ok (.idiv, 1) := by decide +kernel
theorem dX8_fills_47 : decode cX8_fills 47 = .ok (.iastore, 1) := by decide +kernel
theorem dX8_fills_48 : decode cX8_fills 48 = .ok (.aload_n 0, 1) := by decide +kernel
theorem dX8_fills_49 : decode cX8_fills 49 = .ok (.iload_n 3, 1) := by decide +kernel
theorem dX8_fills_50 : decode cX8_fills 50 = .ok (.invokevirtual 81, 3) := by decide +kernel
theorem dX8_fills_53 : decode cX8_fills 53 = .ok (.aload_n 0, 1) := by decide +kernel
theorem dX8_fills_54 : decode cX8_fills 54 = .ok (.getfield 16, 3) := by decide +kernel
theorem dX8_fills_57 : decode cX8_fills 57 = .ok (.iload_n 3, 1) := by decide +kernel
theorem dX8_fills_58 : decode cX8_fills 58 = .ok (.iconst 4, 1) := by decide +kernel
theorem dX8_fills_59 : decode cX8_fills 59 = .ok (.iadd, 1) := by decide +kernel
theorem dX8_fills_60 : decode cX8_fills 60 = .ok (.iaload, 1) := by decide +kernel
theorem dX8_fills_61 : decode cX8_fills 61 = .ok (.ireturn, 1) := by decide +kernel
set_option maxRecDepth 20000 in
theorem ggX8_cools_X8_ladle : GoodIn wsX8_cools wsX8_ladle := goodIn_r _ [5] (by decide +kernel) (by decide +kernel)
set_option maxRecDepth 20000 in
theorem gX8_cools_X8_ladle : GoodIn wsX8_cools (va_wsS RX8 54 yX8_ladle wsX8_ladle) := goodIn_app (goodIn_of _ (by decide +kernel)) ggX8_cools_X8_ladle
set_option maxRecDepth 20000 in
theorem ggX8_cools_X8_mass : GoodIn wsX8_cools wsX8_mass := goodIn_ca (goodIn_r _ [9, 1, 10, 11, 12, 13, 14, 15, 16, 17, 18, 19, 20, 21, 22, 23, 24, 25, 26, 27, 28, 29, 30, 31] (by decide +kernel) (by decide +kernel)) (goodIn_sub (fun _ h => List.mem_cons_of_mem _ (List.mem_append_right _ h)) (by decide +kernel))
set_option maxRecDepth 20000 in
theorem gX8_cools_X8_mass : GoodIn wsX8_cools (wsV RX8 71 RX8 yX8_mass wsX8_mass) := goodIn_app (goodIn_of _ (by decide +kernel)) ggX8_cools_X8_mass
theorem dX8_cools_0 : decode cX8_cools 0 = .ok (.aload_n 0, 1) := by decide +kernel
theorem dX8_cools_1 : decode cX8_cools 1 = .ok (.iload_n 1, 1) := by decide +kernel
theorem dX8_cools_2 : decode cX8_cools 2 = .ok (.invokestatic 54, 3) := by decide +kernel
theorem dX8_cools_5 : decode cX8_cools 5 = .ok (.invokevirtual 71, 3) := by decide +kernel
theorem dX8_cools_8 : decode cX8_cools 8 = .ok (.ifCond .ne 16, 3) := by decide +kernel
theorem dX8_cools_11 : decode cX8_cools 11 = .ok (.aload_n 0, 1) := by decide +kernel
theorem dX8_cools_12 : decode cX8_cools 12 = .ok (.getfield 16, 3) := by decide +kernel
theorem dX8_cools_15 : decode cX8_cools 15 = .ok (.iload_n 1, 1) := by decide +kernel
theorem dX8_cools_16 : decode cX8_cools 16 = .ok (.invokestatic 54, 3) := by decide +kernel
theorem dX8_cools_19 : decode cX8_cools 19 = .ok (.iconst 4, 1) := by decide +kernel
theorem dX8_cools_20 : decode cX8_cools 20 = .ok (.iadd, 1) := by decide +kernel
theorem dX8_cools_21 : decode cX8_cools 21 = .ok (.bipush 20, 2) := by decide +kernel
theorem dX8_cools_23 : decode cX8_cools 23 = .ok (.iastore, 1) := by decide +kernel
theorem dX8_cools_24 : decode cX8_cools 24 = .ok (.return_, 1) := by decide +kernel
set_option maxRecDepth 20000 in
theorem ggX8_charges_X8_isThree : GoodIn wsX8_charges wsX8_isThree := goodIn_r _ [6, 7, 8, 5, 9] (by decide +kernel) (by decide +kernel)
set_option maxRecDepth 20000 in
theorem gX8_charges_X8_isThree : GoodIn wsX8_charges (va_wsS RX8 85 yX8_isThree wsX8_isThree) := goodIn_app (goodIn_of _ (by decide +kernel)) ggX8_charges_X8_isThree
set_option maxRecDepth 20000 in
theorem ggX8_charges_X8_fail : GoodIn wsX8_charges wsX8_fail := goodIn_r _ [13, 14, 34, 35, 36, 37, 38, 39, 40, 41, 42, 43, 44, 45, 46, 47, 48, 49, 50, 51, 52, 53, 54, 55] (by decide +kernel) (by decide +kernel)
set_option maxRecDepth 20000 in
theorem gX8_charges_X8_fail : GoodIn wsX8_charges (wsV RX8 89 RX8 yX8_fail wsX8_fail) := goodIn_app (goodIn_of _ (by decide +kernel)) ggX8_charges_X8_fail
set_option maxRecDepth 20000 in
theorem ggX8_charges_X8_isIn : GoodIn wsX8_charges wsX8_isIn := goodIn_r _ [9] (by decide +kernel) (by decide +kernel)
set_option maxRecDepth 20000 in
theorem gX8_charges_X8_isIn : GoodIn wsX8_charges (va_wsS RX8 67 yX8_isIn wsX8_isIn) := goodIn_app (goodIn_of _ (by decide +kernel)) ggX8_charges_X8_isIn
set_option maxRecDepth 20000 in
theorem ggX8_charges_X8_furnace : GoodIn wsX8_charges wsX8_furnace := goodIn_r _ [17] (by decide +kernel) (by decide +kernel)
set_option maxRecDepth 20000 in
theorem gX8_charges_X8_furnace : GoodIn wsX8_charges (va_wsS RX8 50 yX8_furnace wsX8_furnace) := goodIn_app (goodIn_of _ (by decide +kernel)) ggX8_charges_X8_furnace
set_option maxRecDepth 20000 in
theorem ggX8_charges_X8_mass : GoodIn wsX8_charges wsX8_mass := goodIn_ca (goodIn_r _ [21, 2, 34, 35, 36, 37, 38, 39, 40, 41, 42, 43, 44, 45, 46, 47, 48, 49, 50, 51, 52, 53, 54, 55] (by decide +kernel) (by decide +kernel)) (goodIn_sub (fun _ h => List.mem_cons_of_mem _ (List.mem_append_left _ (List.mem_append_right _ h))) (by decide +kernel))
set_option maxRecDepth 20000 in
theorem gX8_charges_X8_mass : GoodIn wsX8_charges (wsV RX8 71 RX8 yX8_mass wsX8_mass) := goodIn_app (goodIn_of _ (by decide +kernel)) ggX8_charges_X8_mass
set_option maxRecDepth 20000 in
theorem ggX8_charges_X8_feeds : GoodIn wsX8_charges wsX8_feeds := goodIn_ca (goodIn_ca (goodIn_r _ [25, 2, 15, 16, 5, 17, 18, 19, 20, 21, 26, 27, 28, 29, 1, 30, 31, 32, 33, 34, 35, 36, 37, 38, 39, 40, 41, 42, 43, 44, 45, 46, 47, 48, 49, 50, 51, 52, 53, 54, 55] (by decide +kernel) (by decide +kernel)) (goodIn_sub (fun _ h => List.mem_cons_of_mem _ (List.mem_append_left _ (List.mem_append_right _ h))) (by decide +kernel))) (goodIn_sub (fun _ h => List.mem_cons_of_mem _ (List.mem_append_right _ h)) (by decide +kernel))
set_option maxRecDepth 20000 in
theorem gX8_charges_X8_feeds : GoodIn wsX8_charges (wsV RX8 92 RX8 yX8_feeds wsX8_feeds) := goodIn_app (goodIn_of _ (by decide +kernel)) ggX8_charges_X8_feeds
theorem dX8_charges_0 : decode cX8_charges 0 = .ok (.iload_n 1, 1) := by decide +kernel
theorem dX8_charges_1 : decode cX8_charges 1 = .ok (.invokestatic 85, 3) := by decide +kernel
theorem dX8_charges_4 : decode cX8_charges 4 = .ok (.ifCond .ne 9, 3) := by decide +kernel
theorem dX8_charges_7 : decode cX8_charges 7 = .ok (.aload_n 0, 1) := by decide +kernel
theorem dX8_charges_8 : decode cX8_charges 8 = .ok (.iconst 1, 1) := by decide +kernel
theorem dX8_charges_9 : decode cX8_charges 9 = .ok (.invokevirtual 89, 3) := by decide +kernel
theorem dX8_charges_12 : decode cX8_charges 12 = .ok (.ireturn, 1) := by decide +kernel
theorem dX8_charges_13 : decode cX8_charges 13 = .ok (.iload_n 2, 1) := by decide +kernel
theorem dX8_charges_14 : decode cX8_charges 14 = .ok (.ifCond .lt 13, 3) := by decide +kernel
theorem dX8_charges_17 : decode cX8_charges 17 = .ok (.iload_n 3, 1) := by decide +kernel
theorem dX8_charges_18 : decode cX8_charges 18 = .ok (.iconst 1, 1) := by decide +kernel
theorem dX8_charges_19 : decode cX8_charges 19 = .ok (.bipush 50, 2) := by decide +kernel
theorem dX8_charges_21 : decode cX8_charges 21 = .ok (.invokestatic 67, 3) := by decide +kernel
theorem dX8_charges_24 : decode cX8_charges 24 = .ok (.ifCond .ne 9, 3) := by decide +kernel
theorem dX8_charges_27 : decode cX8_charges 27 = .ok (.aload_n 0, 1) := by decide +kernel
theorem dX8_charges_28 : decode cX8_charges 28 = .ok (.iconst 2, 1) := by decide +kernel
theorem dX8_charges_29 : decode cX8_charges 29 = .ok (.invokevirtual 89, 3) := by decide +kernel
theorem dX8_charges_32 : decode cX8_charges 32 = .ok (.ireturn, 1) := by decide +kernel
theorem dX8_charges_33 : decode cX8_charges 33 = .ok (.aload_n 0, 1) := by decide +kernel
theorem dX8_charges_34 : decode cX8_charges 34 = .ok (.iload_n 1, 1) := by decide +kernel
theorem dX8_charges_35 : decode cX8_charges 35 = .ok (.invokestatic 50, 3) := by decide +kernel
theorem dX8_charges_38 : decode cX8_charges 38 = .ok (.invokevirtual 71, 3) := by decide +kernel
theorem dX8_charges_41 : decode cX8_charges 41 = .ok (.iload_n 3, 1) := by decide +kernel
theorem dX8_charges_42 : decode cX8_charges 42 = .ok (.iadd, 1) := by decide +kernel
theorem dX8_charges_43 : decode cX8_charges 43 = .ok (.bipush 100, 2) := by decide +kernel
theorem dX8_charges_45 : decode cX8_charges 45 = .ok (.if_icmp .le 9, 3) := by decide +kernel
theorem dX8_charges_48 : decode cX8_charges 48 = .ok (.aload_n 0, 1) := by decide +kernel
theorem dX8_charges_49 : decode cX8_charges 49 = .ok (.iconst 3, 1) := by decide +kernel
theorem dX8_charges_50 : decode cX8_charges 50 = .ok (.invokevirtual 89, 3) := by decide +kernel
theorem dX8_charges_53 : decode cX8_charges 53 = .ok (.ireturn, 1) := by decide +kernel
theorem dX8_charges_54 : decode cX8_charges 54 = .ok (.iconst 0, 1) := by decide +kernel
theorem dX8_charges_55 : decode cX8_charges 55 = .ok (.istore 4, 2) := by decide +kernel
theorem dX8_charges_57 : decode cX8_charges 57 = .ok (.iload 4, 2) := by decide +kernel
theorem dX8_charges_59 : decode cX8_charges 59 = .ok (.iconst 4, 1) := by decide +kernel
theorem dX8_charges_60 : decode cX8_charges 60 = .ok (.if_icmp .ge 27, 3) := by decide +kernel
theorem dX8_charges_63 : decode cX8_charges 63 = .ok (.aload_n 0, 1) := by decide +kernel
theorem dX8_charges_64 : decode cX8_charges 64 = .ok (.getfield 29, 3) := by decide +kernel
theorem dX8_charges_67 : decode cX8_charges 67 = .ok (.iload 4, 2) := by decide +kernel
theorem dX8_charges_69 : decode cX8_charges 69 = .ok (.iload 4, 2) := by decide +kernel
theorem dX8_charges_71 : decode cX8_charges 71 = .ok (.iload_n 2, 1) := by decide +kernel
theorem dX8_charges_72 : decode cX8_charges 72 = .ok (.if_icmp .ne 7, 3) := by decide +kernel
theorem dX8_charges_75 : decode cX8_charges 75 = .ok (.iload_n 3, 1) := by decide +kernel
theorem dX8_charges_76 : decode cX8_charges 76 = .ok (.goto 4, 3) := by decide +kernel
theorem dX8_charges_79 : decode cX8_charges 79 = .ok (.iconst 0, 1) := by decide +kernel
theorem dX8_charges_80 : decode cX8_charges 80 = .ok (.iastore, 1) := by decide +kernel
theorem dX8_charges_81 : decode cX8_charges 81 = .ok (.iinc 4 1, 3) := by decide +kernel
theorem dX8_charges_84 : decode cX8_charges 84 = .ok (.goto (-27), 3) := by decide +kernel
theorem dX8_charges_87 : decode cX8_charges 87 = .ok (.aload_n 0, 1) := by decide +kernel
theorem dX8_charges_88 : decode cX8_charges 88 = .ok (.getfield 16, 3) := by decide +kernel
theorem dX8_charges_91 : decode cX8_charges 91 = .ok (.iconst 1, 1) := by decide +kernel
theorem dX8_charges_92 : decode cX8_charges 92 = .ok (.iload_n 2, 1) := by decide +kernel
theorem dX8_charges_93 : decode cX8_charges 93 = .ok (.iadd, 1) := by decide +kernel
theorem dX8_charges_94 : decode cX8_charges 94 = .ok (.dup2, 1) := by decide +kernel
theorem dX8_charges_95 : decode cX8_charges 95 = .ok (.iaload, 1) := by decide +kernel
theorem dX8_charges_96 : decode cX8_charges 96 = .ok (.iload_n 3, 1) := by decide +kernel
theorem dX8_charges_97 : decode cX8_charges 97 = .ok (.iadd, 1) := by decide +kernel
theorem dX8_charges_98 : decode cX8_charges 98 = .ok (.iastore, 1) := by decide +kernel
theorem dX8_charges_99 : decode cX8_charges 99 = .ok (.aload_n 0, 1) := by decide +kernel
theorem dX8_charges_100 : decode cX8_charges 100 = .ok (.iload_n 1, 1) := by decide +kernel
theorem dX8_charges_101 : decode cX8_charges 101 = .ok (.bipush 20, 2) := by decide +kernel
theorem dX8_charges_103 : decode cX8_charges 103 = .ok (.invokevirtual 92, 3) := by decide +kernel
theorem dX8_charges_106 : decode cX8_charges 106 = .ok (.ireturn, 1) := by decide +kernel
set_option maxRecDepth 20000 in
theorem ggX8_charge_X8_begins : GoodIn wsX8_charge wsX8_begins := goodIn_ca (goodIn_r _ [5, 6, 7, 8, 9, 10, 4, 11, 55, 56, 57, 58, 59, 60, 61, 62, 63, 64, 65, 66, 67, 68, 69, 70, 71, 72, 73, 74, 75, 76] (by decide +kernel) (by decide +kernel)) (goodIn_sub (fun _ h => List.mem_cons_of_mem _ (List.mem_append_left _ (List.mem_append_right _ h))) (by decide +kernel))
set_option maxRecDepth 20000 in
theorem gX8_charge_X8_begins : GoodIn wsX8_charge (wsV RX8 96 RX8 yX8_begins wsX8_begins) := goodIn_app (goodIn_of _ (by decide +kernel)) ggX8_charge_X8_begins
set_option maxRecDepth 20000 in
theorem ggX8_charge_X8_kind : GoodIn wsX8_charge wsX8_kind := goodIn_r _ [14] (by decide +kernel) (by decide +kernel)
set_option maxRecDepth 20000 in
theorem gX8_charge_X8_kind : GoodIn wsX8_charge (va_wsS RX8 99 yX8_kind wsX8_kind) := goodIn_app (goodIn_of _ (by decide +kernel)) ggX8_charge_X8_kind
set_option maxRecDepth 20000 in
theorem ggX8_charge_X8_charges : GoodIn wsX8_charge wsX8_charges := goodIn_ca (goodIn_ca (goodIn_r _ [18, 19, 8, 20, 21, 4, 22, 23, 24, 25, 26, 27, 28, 29, 6, 30, 31, 32, 33, 34, 35, 36, 37, 38, 39, 40, 41, 42, 43, 44, 45, 46, 47, 48, 55, 56, 57, 58, 59, 60, 61, 62, 63, 64, 65, 66, 67, 68, 69, 70, 71, 72, 73, 74, 75, 76] (by decide +kernel) (by decide +kernel)) (goodIn_sub (fun _ h => List.mem_cons_of_mem _ (List.mem_append_left _ (List.mem_append_right _ h))) (by decide +kernel))) (goodIn_sub (fun _ h => List.mem_cons_of_mem _ (List.mem_append_right _ h)) (by decide +kernel))
set_option maxRecDepth 20000 in
theorem gX8_charge_X8_charges : GoodIn wsX8_charge (wsV RX8 102 RX8 yX8_charges wsX8_charges) := goodIn_app (goodIn_of _ (by decide +kernel)) ggX8_charge_X8_charges
set_option maxRecDepth 20000 in
theorem ggX8_charge_X8_ends : GoodIn wsX8_charge wsX8_ends := goodIn_ca (goodIn_r _ [52, 6, 8, 7, 53, 54, 9, 10, 4, 11, 55, 56, 57, 58, 59, 60, 61, 62, 63, 64, 65, 66, 67, 68, 69, 70, 71, 72, 73, 74, 75, 76] (by decide +kernel) (by decide +kernel)) (goodIn_sub (fun _ h => List.mem_cons_of_mem _ (List.mem_append_left _ (List.mem_append_right _ h))) (by decide +kernel))
set_option maxRecDepth 20000 in
theorem gX8_charge_X8_ends : GoodIn wsX8_charge (wsV RX8 106 RX8 yX8_ends wsX8_ends) := goodIn_app (goodIn_of _ (by decide +kernel)) ggX8_charge_X8_ends
theorem dX8_charge_0 : decode cX8_charge 0 = .ok (.aload_n 0, 1) := by decide +kernel
theorem dX8_charge_1 : decode cX8_charge 1 = .ok (.invokevirtual 96, 3) := by decide +kernel
theorem dX8_charge_4 : decode cX8_charge 4 = .ok (.aload_n 0, 1) := by decide +kernel
theorem dX8_charge_5 : decode cX8_charge 5 = .ok (.aload_n 0, 1) := by decide +kernel
theorem dX8_charge_6 : decode cX8_charge 6 = .ok (.iload_n 1, 1) := by decide +kernel
theorem dX8_charge_7 : decode cX8_charge 7 = .ok (.iload_n 2, 1) := by decide +kernel
theorem dX8_charge_8 : decode cX8_charge 8 = .ok (.invokestatic 99, 3) := by decide +kernel
theorem dX8_charge_11 : decode cX8_charge 11 = .ok (.iload_n 3, 1) := by decide +kernel
theorem dX8_charge_12 : decode cX8_charge 12 = .ok (.invokevirtual 102, 3) := by decide +kernel
theorem dX8_charge_15 : decode cX8_charge 15 = .ok (.invokevirtual 106, 3) := by decide +kernel
theorem dX8_charge_18 : decode cX8_charge 18 = .ok (.ireturn, 1) := by decide +kernel
set_option maxRecDepth 20000 in
theorem ggX8_fires_X8_isThree : GoodIn wsX8_fires wsX8_isThree := goodIn_r _ [5, 6, 7, 4, 8] (by decide +kernel) (by decide +kernel)
set_option maxRecDepth 20000 in
theorem gX8_fires_X8_isThree : GoodIn wsX8_fires (va_wsS RX8 85 yX8_isThree wsX8_isThree) := goodIn_app (goodIn_of _ (by decide +kernel)) ggX8_fires_X8_isThree
set_option maxRecDepth 20000 in
theorem ggX8_fires_X8_fail : GoodIn wsX8_fires wsX8_fail := goodIn_r _ [12, 13, 17, 18, 19, 20, 21, 22, 23, 24, 25, 26, 27, 28, 29, 30, 31, 32, 33, 34, 35, 36, 37, 38] (by decide +kernel) (by decide +kernel)
set_option maxRecDepth 20000 in
theorem gX8_fires_X8_fail : GoodIn wsX8_fires (wsV RX8 89 RX8 yX8_fail wsX8_fail) := goodIn_app (goodIn_of _ (by decide +kernel)) ggX8_fires_X8_fail
set_option maxRecDepth 20000 in
theorem ggX8_fires_X8_isIn : GoodIn wsX8_fires wsX8_isIn := goodIn_r _ [8] (by decide +kernel) (by decide +kernel)
set_option maxRecDepth 20000 in
theorem gX8_fires_X8_isIn : GoodIn wsX8_fires (va_wsS RX8 67 yX8_isIn wsX8_isIn) := goodIn_app (goodIn_of _ (by decide +kernel)) ggX8_fires_X8_isIn
set_option maxRecDepth 20000 in
theorem ggX8_fires_X8_furnace : GoodIn wsX8_fires wsX8_furnace := goodIn_r _ [16] (by decide +kernel) (by decide +kernel)
set_option maxRecDepth 20000 in
theorem gX8_fires_X8_furnace : GoodIn wsX8_fires (va_wsS RX8 50 yX8_furnace wsX8_furnace) := goodIn_app (goodIn_of _ (by decide +kernel)) ggX8_fires_X8_furnace
theorem dX8_fires_0 : decode cX8_fires 0 = .ok (.iload_n 1, 1) := by decide +kernel
theorem dX8_fires_1 : decode cX8_fires 1 = .ok (.invokestatic 85, 3) := by decide +kernel
theorem dX8_fires_4 : decode cX8_fires 4 = .ok (.ifCond .ne 9, 3) := by decide +kernel
theorem dX8_fires_7 : decode cX8_fires 7 = .ok (.aload_n 0, 1) := by decide +kernel
theorem dX8_fires_8 : decode cX8_fires 8 = .ok (.iconst 1, 1) := by decide +kernel
theorem dX8_fires_9 : decode cX8_fires 9 = .ok (.invokevirtual 89, 3) := by decide +kernel
theorem dX8_fires_12 : decode cX8_fires 12 = .ok (.ireturn, 1) := by decide +kernel
theorem dX8_fires_13 : decode cX8_fires 13 = .ok (.iload_n 2, 1) := by decide +kernel
theorem dX8_fires_14 : decode cX8_fires 14 = .ok (.iconst 0, 1) := by decide +kernel
theorem dX8_fires_15 : decode cX8_fires 15 = .ok (.iconst 5, 1) := by decide +kernel
theorem dX8_fires_16 : decode cX8_fires 16 = .ok (.invokestatic 67, 3) := by decide +kernel
theorem dX8_fires_19 : decode cX8_fires 19 = .ok (.ifCond .ne 9, 3) := by decide +kernel
theorem dX8_fires_22 : decode cX8_fires 22 = .ok (.aload_n 0, 1) := by decide +kernel
theorem dX8_fires_23 : decode cX8_fires 23 = .ok (.iconst 2, 1) := by decide +kernel
theorem dX8_fires_24 : decode cX8_fires 24 = .ok (.invokevirtual 89, 3) := by decide +kernel
theorem dX8_fires_27 : decode cX8_fires 27 = .ok (.ireturn, 1) := by decide +kernel
theorem dX8_fires_28 : decode cX8_fires 28 = .ok (.aload_n 0, 1) := by decide +kernel
theorem dX8_fires_29 : decode cX8_fires 29 = .ok (.getfield 16, 3) := by decide +kernel
theorem dX8_fires_32 : decode cX8_fires 32 = .ok (.iload_n 1, 1) := by decide +kernel
theorem dX8_fires_33 : decode cX8_fires 33 = .ok (.invokestatic 50, 3) := by decide +kernel
theorem dX8_fires_36 : decode cX8_fires 36 = .ok (.iconst 5, 1) := by decide +kernel
theorem dX8_fires_37 : decode cX8_fires 37 = .ok (.iadd, 1) := by decide +kernel
theorem dX8_fires_38 : decode cX8_fires 38 = .ok (.iaload, 1) := by decide +kernel
theorem dX8_fires_39 : decode cX8_fires 39 = .ok (.istore_n 3, 1) := by decide +kernel
theorem dX8_fires_40 : decode cX8_fires 40 = .ok (.aload_n 0, 1) := by decide +kernel
theorem dX8_fires_41 : decode cX8_fires 41 = .ok (.getfield 16, 3) := by decide +kernel
theorem dX8_fires_44 : decode cX8_fires 44 = .ok (.iload_n 1, 1) := by decide +kernel
theorem dX8_fires_45 : decode cX8_fires 45 = .ok (.invokestatic 50, 3) := by decide +kernel
theorem dX8_fires_48 : decode cX8_fires 48 = .ok (.iconst 5, 1) := by decide +kernel
theorem dX8_fires_49 : decode cX8_fires 49 = .ok (.iadd, 1) := by decide +kernel
theorem dX8_fires_50 : decode cX8_fires 50 = .ok (.iload_n 2, 1) := by decide +kernel
theorem dX8_fires_51 : decode cX8_fires 51 = .ok (.iastore, 1) := by decide +kernel
theorem dX8_fires_52 : decode cX8_fires 52 = .ok (.iload_n 3, 1) := by decide +kernel
theorem dX8_fires_53 : decode cX8_fires 53 = .ok (.ireturn, 1) := by decide +kernel
set_option maxRecDepth 20000 in
theorem ggX8_setFire_X8_begins : GoodIn wsX8_setFire wsX8_begins := goodIn_ca (goodIn_r _ [5, 6, 7, 8, 9, 10, 4, 11, 35, 36, 37, 38, 39, 40, 41, 42, 43, 44, 45, 46, 47, 48, 49, 50, 51, 52, 53, 54, 55, 56] (by decide +kernel) (by decide +kernel)) (goodIn_sub (fun _ h => List.mem_cons_of_mem _ (List.mem_append_right _ h)) (by decide +kernel))
set_option maxRecDepth 20000 in
theorem gX8_setFire_X8_begins : GoodIn wsX8_setFire (wsV RX8 96 RX8 yX8_begins wsX8_begins) := goodIn_app (goodIn_of _ (by decide +kernel)) ggX8_setFire_X8_begins
set_option maxRecDepth 20000 in
theorem ggX8_setFire_X8_fires : GoodIn wsX8_setFire wsX8_fires := goodIn_ca (goodIn_r _ [15, 8, 16, 17, 4, 18, 19, 20, 21, 22, 23, 24, 25, 6, 26, 27, 28, 35, 36, 37, 38, 39, 40, 41, 42, 43, 44, 45, 46, 47, 48, 49, 50, 51, 52, 53, 54, 55, 56] (by decide +kernel) (by decide +kernel)) (goodIn_sub (fun _ h => List.mem_cons_of_mem _ (List.mem_append_right _ h)) (by decide +kernel))
set_option maxRecDepth 20000 in
theorem gX8_setFire_X8_fires : GoodIn wsX8_setFire (wsV RX8 109 RX8 yX8_fires wsX8_fires) := goodIn_app (goodIn_of _ (by decide +kernel)) ggX8_setFire_X8_fires
set_option maxRecDepth 20000 in
theorem ggX8_setFire_X8_ends : GoodIn wsX8_setFire wsX8_ends := goodIn_ca (goodIn_r _ [32, 6, 8, 7, 33, 34, 9, 10, 4, 11, 35, 36, 37, 38, 39, 40, 41, 42, 43, 44, 45, 46, 47, 48, 49, 50, 51, 52, 53, 54, 55, 56] (by decide +kernel) (by decide +kernel)) (goodIn_sub (fun _ h => List.mem_cons_of_mem _ (List.mem_append_right _ h)) (by decide +kernel))
set_option maxRecDepth 20000 in
theorem gX8_setFire_X8_ends : GoodIn wsX8_setFire (wsV RX8 106 RX8 yX8_ends wsX8_ends) := goodIn_app (goodIn_of _ (by decide +kernel)) ggX8_setFire_X8_ends
theorem dX8_setFire_0 : decode cX8_setFire 0 = .ok (.aload_n 0, 1) := by decide +kernel
theorem dX8_setFire_1 : decode cX8_setFire 1 = .ok (.invokevirtual 96, 3) := by decide +kernel
theorem dX8_setFire_4 : decode cX8_setFire 4 = .ok (.aload_n 0, 1) := by decide +kernel
theorem dX8_setFire_5 : decode cX8_setFire 5 = .ok (.aload_n 0, 1) := by decide +kernel
theorem dX8_setFire_6 : decode cX8_setFire 6 = .ok (.iload_n 1, 1) := by decide +kernel
theorem dX8_setFire_7 : decode cX8_setFire 7 = .ok (.iload_n 2, 1) := by decide +kernel
theorem dX8_setFire_8 : decode cX8_setFire 8 = .ok (.invokevirtual 109, 3) := by decide +kernel
theorem dX8_setFire_11 : decode cX8_setFire 11 = .ok (.invokevirtual 106, 3) := by decide +kernel
theorem dX8_setFire_14 : decode cX8_setFire 14 = .ok (.ireturn, 1) := by decide +kernel
set_option maxRecDepth 20000 in
theorem ggX8_skims_X8_isThree : GoodIn wsX8_skims wsX8_isThree := goodIn_r _ [5, 6, 7, 4, 8] (by decide +kernel) (by decide +kernel)
set_option maxRecDepth 20000 in
theorem gX8_skims_X8_isThree : GoodIn wsX8_skims (va_wsS RX8 85 yX8_isThree wsX8_isThree) := goodIn_app (goodIn_of _ (by decide +kernel)) ggX8_skims_X8_isThree
set_option maxRecDepth 20000 in
theorem ggX8_skims_X8_fail : GoodIn wsX8_skims wsX8_fail := goodIn_r _ [12, 13, 30, 31, 32, 33, 34, 35, 36, 37, 38, 39, 40, 41, 42, 43, 44, 45, 46, 47, 48, 49, 50, 51] (by decide +kernel) (by decide +kernel)
set_option maxRecDepth 20000 in
theorem gX8_skims_X8_fail : GoodIn wsX8_skims (wsV RX8 89 RX8 yX8_fail wsX8_fail) := goodIn_app (goodIn_of _ (by decide +kernel)) ggX8_skims_X8_fail
set_option maxRecDepth 20000 in
theorem ggX8_skims_X8_furnace : GoodIn wsX8_skims wsX8_furnace := goodIn_r _ [16] (by decide +kernel) (by decide +kernel)
set_option maxRecDepth 20000 in
theorem gX8_skims_X8_furnace : GoodIn wsX8_skims (va_wsS RX8 50 yX8_furnace wsX8_furnace) := goodIn_app (goodIn_of _ (by decide +kernel)) ggX8_skims_X8_furnace
set_option maxRecDepth 20000 in
theorem ggX8_skims_X8_isFluid : GoodIn wsX8_skims wsX8_isFluid := goodIn_ca (goodIn_ca (goodIn_r _ [20, 1, 21, 22, 23, 4, 24, 25, 26, 27, 28, 29, 30, 31, 32, 33, 34, 35, 36, 37, 38, 39, 40, 41, 42, 43, 44, 45, 46, 47, 48, 49, 50, 51] (by decide +kernel) (by decide +kernel)) (goodIn_sub (fun _ h => List.mem_cons_of_mem _ (List.mem_append_left _ (List.mem_append_right _ h))) (by decide +kernel))) (goodIn_sub (fun _ h => List.mem_cons_of_mem _ (List.mem_append_right _ h)) (by decide +kernel))
set_option maxRecDepth 20000 in
theorem gX8_skims_X8_isFluid : GoodIn wsX8_skims (wsV RX8 112 RX8 yX8_isFluid wsX8_isFluid) := goodIn_app (goodIn_of _ (by decide +kernel)) ggX8_skims_X8_isFluid
theorem dX8_skims_0 : decode cX8_skims 0 = .ok (.iload_n 1, 1) := by decide +kernel
theorem dX8_skims_1 : decode cX8_skims 1 = .ok (.invokestatic 85, 3) := by decide +kernel
theorem dX8_skims_4 : decode cX8_skims 4 = .ok (.ifCond .ne 9, 3) := by decide +kernel
theorem dX8_skims_7 : decode cX8_skims 7 = .ok (.aload_n 0, 1) := by decide +kernel
theorem dX8_skims_8 : decode cX8_skims 8 = .ok (.iconst 1, 1) := by decide +kernel
theorem dX8_skims_9 : decode cX8_skims 9 = .ok (.invokevirtual 89, 3) := by decide +kernel
theorem dX8_skims_12 : decode cX8_skims 12 = .ok (.ireturn, 1) := by decide +kernel
theorem dX8_skims_13 : decode cX8_skims 13 = .ok (.iload_n 1, 1) := by decide +kernel
theorem dX8_skims_14 : decode cX8_skims 14 = .ok (.invokestatic 50, 3) := by decide +kernel
theorem dX8_skims_17 : decode cX8_skims 17 = .ok (.istore_n 2, 1) := by decide +kernel
theorem dX8_skims_18 : decode cX8_skims 18 = .ok (.aload_n 0, 1) := by decide +kernel
theorem dX8_skims_19 : decode cX8_skims 19 = .ok (.getfield 16, 3) := by decide +kernel
theorem dX8_skims_22 : decode cX8_skims 22 = .ok (.iload_n 2, 1) := by decide +kernel
theorem dX8_skims_23 : decode cX8_skims 23 = .ok (.iconst 3, 1) := by decide +kernel
theorem dX8_skims_24 : decode cX8_skims 24 = .ok (.iadd, 1) := by decide +kernel
theorem dX8_skims_25 : decode cX8_skims 25 = .ok (.iaload, 1) := by decide +kernel
theorem dX8_skims_26 : decode cX8_skims 26 = .ok (.istore_n 3, 1) := by decide +kernel
theorem dX8_skims_27 : decode cX8_skims 27 = .ok (.iconst 0, 1) := by decide +kernel
theorem dX8_skims_28 : decode cX8_skims 28 = .ok (.istore 4, 2) := by decide +kernel
theorem dX8_skims_30 : decode cX8_skims 30 = .ok (.iload_n 3, 1) := by decide +kernel
theorem dX8_skims_31 : decode cX8_skims 31 = .ok (.ifCond .ne 9, 3) := by decide +kernel
theorem dX8_skims_34 : decode cX8_skims 34 = .ok (.aload_n 0, 1) := by decide +kernel
theorem dX8_skims_35 : decode cX8_skims 35 = .ok (.iconst 2, 1) := by decide +kernel
theorem dX8_skims_36 : decode cX8_skims 36 = .ok (.invokevirtual 89, 3) := by decide +kernel
theorem dX8_skims_39 : decode cX8_skims 39 = .ok (.ireturn, 1) := by decide +kernel
theorem dX8_skims_40 : decode cX8_skims 40 = .ok (.aload_n 0, 1) := by decide +kernel
theorem dX8_skims_41 : decode cX8_skims 41 = .ok (.iload_n 2, 1) := by decide +kernel
theorem dX8_skims_42 : decode cX8_skims 42 = .ok (.invokevirtual 112, 3) := by decide +kernel
theorem dX8_skims_45 : decode cX8_skims 45 = .ok (.ifCond .ne 9, 3) := by decide +kernel
theorem dX8_skims_48 : decode cX8_skims 48 = .ok (.aload_n 0, 1) := by decide +kernel
theorem dX8_skims_49 : decode cX8_skims 49 = .ok (.iconst 3, 1) := by decide +kernel
theorem dX8_skims_50 : decode cX8_skims 50 = .ok (.invokevirtual 89, 3) := by decide +kernel
theorem dX8_skims_53 : decode cX8_skims 53 = .ok (.ireturn, 1) := by decide +kernel
theorem dX8_skims_54 : decode cX8_skims 54 = .ok (.iconst 1, 1) := by decide +kernel
theorem dX8_skims_55 : decode cX8_skims 55 = .ok (.istore 5, 2) := by decide +kernel
theorem dX8_skims_57 : decode cX8_skims 57 = .ok (.iload 5, 2) := by decide +kernel
theorem dX8_skims_59 : decode cX8_skims 59 = .ok (.iconst 3, 1) := by decide +kernel
theorem dX8_skims_60 : decode cX8_skims 60 = .ok (.if_icmp .ge 34, 3) := by decide +kernel
theorem dX8_skims_63 : decode cX8_skims 63 = .ok (.aload_n 0, 1) := by decide +kernel
theorem dX8_skims_64 : decode cX8_skims 64 = .ok (.getfield 16, 3) := by decide +kernel
theorem dX8_skims_67 : decode cX8_skims 67 = .ok (.iload_n 2, 1) := by decide +kernel
theorem dX8_skims_68 : decode cX8_skims 68 = .ok (.iload 5, 2) := by decide +kernel
theorem dX8_skims_70 : decode cX8_skims 70 = .ok (.iadd, 1) := by decide +kernel
theorem dX8_skims_71 : decode cX8_skims 71 = .ok (.iaload, 1) := by decide +kernel
theorem dX8_skims_72 : decode cX8_skims 72 = .ok (.aload_n 0, 1) := by decide +kernel
theorem dX8_skims_73 : decode cX8_skims 73 = .ok (.getfield 16, 3) := by decide +kernel
theorem dX8_skims_76 : decode cX8_skims 76 = .ok (.iload_n 2, 1) := by decide +kernel
theorem dX8_skims_77 : decode cX8_skims 77 = .ok (.iload 4, 2) := by decide +kernel
theorem dX8_skims_79 : decode cX8_skims 79 = .ok (.iadd, 1) := by decide +kernel
theorem dX8_skims_80 : decode cX8_skims 80 = .ok (.iaload, 1) := by decide +kernel
theorem dX8_skims_81 : decode cX8_skims 81 = .ok (.if_icmp .le 7, 3) := by decide +kernel
theorem dX8_skims_84 : decode cX8_skims 84 = .ok (.iload 5, 2) := by decide +kernel
theorem dX8_skims_86 : decode cX8_skims 86 = .ok (.istore 4, 2) := by decide +kernel
theorem dX8_skims_88 : decode cX8_skims 88 = .ok (.iinc 5 1, 3) := by decide +kernel
theorem dX8_skims_91 : decode cX8_skims 91 = .ok (.goto (-34), 3) := by decide +kernel
theorem dX8_skims_94 : decode cX8_skims 94 = .ok (.iload_n 3, 1) := by decide +kernel
theorem dX8_skims_95 : decode cX8_skims 95 = .ok (.iconst 4, 1) := by decide +kernel
theorem dX8_skims_96 : decode cX8_skims 96 = .ok (.idiv, 1) := by decide +kernel
