theorem dX8_minutesUntilMolten_79 : decode cX8_minutesUntilMolten 79 = .ok (.iload_n 2, 1) := by decide +kernel
theorem dX8_minutesUntilMolten_80 : decode cX8_minutesUntilMolten 80 = .ok (.invokevirtual 112, 3) := by decide +kernel
theorem dX8_minutesUntilMolten_83 : decode cX8_minutesUntilMolten 83 = .ok (.ifCond .eq 5, 3) := by decide +kernel
theorem dX8_minutesUntilMolten_86 : decode cX8_minutesUntilMolten 86 = .ok (.iconst 0, 1) := by decide +kernel
theorem dX8_minutesUntilMolten_87 : decode cX8_minutesUntilMolten 87 = .ok (.ireturn, 1) := by decide +kernel
theorem dX8_minutesUntilMolten_88 : decode cX8_minutesUntilMolten 88 = .ok (.aload_n 0, 1) := by decide +kernel
theorem dX8_minutesUntilMolten_89 : decode cX8_minutesUntilMolten 89 = .ok (.getfield 16, 3) := by decide +kernel
theorem dX8_minutesUntilMolten_92 : decode cX8_minutesUntilMolten 92 = .ok (.iload_n 2, 1) := by decide +kernel
theorem dX8_minutesUntilMolten_93 : decode cX8_minutesUntilMolten 93 = .ok (.iconst 4, 1) := by decide +kernel
theorem dX8_minutesUntilMolten_94 : decode cX8_minutesUntilMolten 94 = .ok (.iadd, 1) := by decide +kernel
theorem dX8_minutesUntilMolten_95 : decode cX8_minutesUntilMolten 95 = .ok (.iaload, 1) := by decide +kernel
theorem dX8_minutesUntilMolten_96 : decode cX8_minutesUntilMolten 96 = .ok (.iload_n 3, 1) := by decide +kernel
theorem dX8_minutesUntilMolten_97 : decode cX8_minutesUntilMolten 97 = .ok (.iload 4, 2) := by decide +kernel
theorem dX8_minutesUntilMolten_99 : decode cX8_minutesUntilMolten 99 = .ok (.imul, 1) := by decide +kernel
theorem dX8_minutesUntilMolten_100 : decode cX8_minutesUntilMolten 100 = .ok (.iadd, 1) := by decide +kernel
theorem dX8_minutesUntilMolten_101 : decode cX8_minutesUntilMolten 101 = .ok (.aload_n 0, 1) := by decide +kernel
theorem dX8_minutesUntilMolten_102 : decode cX8_minutesUntilMolten 102 = .ok (.iload_n 2, 1) := by decide +kernel
theorem dX8_minutesUntilMolten_103 : decode cX8_minutesUntilMolten 103 = .ok (.invokevirtual 74, 3) := by decide +kernel
theorem dX8_minutesUntilMolten_106 : decode cX8_minutesUntilMolten 106 = .ok (.if_icmp .ge 9, 3) := by decide +kernel
theorem dX8_minutesUntilMolten_109 : decode cX8_minutesUntilMolten 109 = .ok (.iinc 3 1, 3) := by decide +kernel
theorem dX8_minutesUntilMolten_112 : decode cX8_minutesUntilMolten 112 = .ok (.goto (-24), 3) := by decide +kernel
theorem dX8_minutesUntilMolten_115 : decode cX8_minutesUntilMolten 115 = .ok (.iload_n 3, 1) := by decide +kernel
theorem dX8_minutesUntilMolten_116 : decode cX8_minutesUntilMolten 116 = .ok (.ireturn, 1) := by decide +kernel
set_option maxRecDepth 20000 in
theorem ggX8_minutesUntilMoltenByDivision_X8_minutesUntilMolten : GoodIn wsX8_minutesUntilMoltenByDivision wsX8_minutesUntilMolten := goodIn_ca (goodIn_ca (goodIn_r _ [5, 6, 7, 8, 9, 4, 10, 11, 12, 13, 14, 15, 16, 17, 18, 19, 20, 21, 22, 23, 24, 25, 26, 27, 28, 29, 30, 31, 32, 33, 34, 35, 36, 37, 38, 39, 40, 41, 42, 43, 44, 45, 46, 47, 48, 49, 50, 51, 52, 53, 54, 55] (by decide +kernel) (by decide +kernel)) (goodIn_sub (fun _ h => List.mem_cons_of_mem _ (List.mem_append_left _ (List.mem_append_right _ h))) (by decide +kernel))) (goodIn_sub (fun _ h => List.mem_cons_of_mem _ (List.mem_append_right _ h)) (by decide +kernel))
set_option maxRecDepth 20000 in
theorem gX8_minutesUntilMoltenByDivision_X8_minutesUntilMolten : GoodIn wsX8_minutesUntilMoltenByDivision (wsV RX8 178 RX8 yX8_minutesUntilMolten wsX8_minutesUntilMolten) := goodIn_app (goodIn_of _ (by decide +kernel)) ggX8_minutesUntilMoltenByDivision_X8_minutesUntilMolten
theorem dX8_minutesUntilMoltenByDivision_0 : decode cX8_minutesUntilMoltenByDivision 0 = .ok (.aload_n 0, 1) := by decide +kernel
theorem dX8_minutesUntilMoltenByDivision_1 : decode cX8_minutesUntilMoltenByDivision 1 = .ok (.iload_n 1, 1) := by decide +kernel
theorem dX8_minutesUntilMoltenByDivision_2 : decode cX8_minutesUntilMoltenByDivision 2 = .ok (.invokevirtual 178, 3) := by decide +kernel
theorem dX8_minutesUntilMoltenByDivision_5 : decode cX8_minutesUntilMoltenByDivision 5 = .ok (.ireturn, 1) := by decide +kernel
set_option maxRecDepth 20000 in
theorem ggX8_furnaceByTemperature_X8_furnace : GoodIn wsX8_furnaceByTemperature wsX8_furnace := goodIn_r _ [6] (by decide +kernel) (by decide +kernel)
set_option maxRecDepth 20000 in
theorem gX8_furnaceByTemperature_X8_furnace : GoodIn wsX8_furnaceByTemperature (va_wsS RX8 50 yX8_furnace wsX8_furnace) := goodIn_app (goodIn_of _ (by decide +kernel)) ggX8_furnaceByTemperature_X8_furnace
set_option maxRecDepth 20000 in
theorem ggX8_furnaceByTemperature_X8_mass : GoodIn wsX8_furnaceByTemperature wsX8_mass := goodIn_ca (goodIn_r _ [10, 2, 15, 16, 17, 18, 19, 20, 21, 22, 23, 24, 25, 26, 27, 28, 29, 30, 31, 32, 33, 34, 35, 36] (by decide +kernel) (by decide +kernel)) (goodIn_sub (fun _ h => List.mem_cons_of_mem _ (List.mem_append_right _ h)) (by decide +kernel))
set_option maxRecDepth 20000 in
theorem gX8_furnaceByTemperature_X8_mass : GoodIn wsX8_furnaceByTemperature (wsV RX8 71 RX8 yX8_mass wsX8_mass) := goodIn_app (goodIn_of _ (by decide +kernel)) ggX8_furnaceByTemperature_X8_mass
set_option maxRecDepth 20000 in
theorem ggX8_furnaceByTemperature_X8_fail : GoodIn wsX8_furnaceByTemperature wsX8_fail := goodIn_r _ [14, 1, 15, 16, 17, 18, 19, 20, 21, 22, 23, 24, 25, 26, 27, 28, 29, 30, 31, 32, 33, 34, 35, 36] (by decide +kernel) (by decide +kernel)
set_option maxRecDepth 20000 in
theorem gX8_furnaceByTemperature_X8_fail : GoodIn wsX8_furnaceByTemperature (wsV RX8 89 RX8 yX8_fail wsX8_fail) := goodIn_app (goodIn_of _ (by decide +kernel)) ggX8_furnaceByTemperature_X8_fail
theorem dX8_furnaceByTemperature_0 : decode cX8_furnaceByTemperature 0 = .ok (.aload_n 0, 1) := by decide +kernel
theorem dX8_furnaceByTemperature_1 : decode cX8_furnaceByTemperature 1 = .ok (.iconst 0, 1) := by decide +kernel
theorem dX8_furnaceByTemperature_2 : decode cX8_furnaceByTemperature 2 = .ok (.putfield 57, 3) := by decide +kernel
theorem dX8_furnaceByTemperature_5 : decode cX8_furnaceByTemperature 5 = .ok (.iconst 0, 1) := by decide +kernel
theorem dX8_furnaceByTemperature_6 : decode cX8_furnaceByTemperature 6 = .ok (.istore_n 2, 1) := by decide +kernel
theorem dX8_furnaceByTemperature_7 : decode cX8_furnaceByTemperature 7 = .ok (.iload_n 2, 1) := by decide +kernel
theorem dX8_furnaceByTemperature_8 : decode cX8_furnaceByTemperature 8 = .ok (.iconst 3, 1) := by decide +kernel
theorem dX8_furnaceByTemperature_9 : decode cX8_furnaceByTemperature 9 = .ok (.if_icmp .ge 113, 3) := by decide +kernel
theorem dX8_furnaceByTemperature_12 : decode cX8_furnaceByTemperature 12 = .ok (.iconst 0, 1) := by decide +kernel
theorem dX8_furnaceByTemperature_13 : decode cX8_furnaceByTemperature 13 = .ok (.istore_n 3, 1) := by decide +kernel
theorem dX8_furnaceByTemperature_14 : decode cX8_furnaceByTemperature 14 = .ok (.iconst 0, 1) := by decide +kernel
theorem dX8_furnaceByTemperature_15 : decode cX8_furnaceByTemperature 15 = .ok (.istore 4, 2) := by decide +kernel
theorem dX8_furnaceByTemperature_17 : decode cX8_furnaceByTemperature 17 = .ok (.iload 4, 2) := by decide +kernel
theorem dX8_furnaceByTemperature_19 : decode cX8_furnaceByTemperature 19 = .ok (.iconst 3, 1) := by decide +kernel
theorem dX8_furnaceByTemperature_20 : decode cX8_furnaceByTemperature 20 = .ok (.if_icmp .ge 89, 3) := by decide +kernel
theorem dX8_furnaceByTemperature_23 : decode cX8_furnaceByTemperature 23 = .ok (.aload_n 0, 1) := by decide +kernel
theorem dX8_furnaceByTemperature_24 : decode cX8_furnaceByTemperature 24 = .ok (.getfield 16, 3) := by decide +kernel
theorem dX8_furnaceByTemperature_27 : decode cX8_furnaceByTemperature 27 = .ok (.iload 4, 2) := by decide +kernel
theorem dX8_furnaceByTemperature_29 : decode cX8_furnaceByTemperature 29 = .ok (.invokestatic 50, 3) := by decide +kernel
theorem dX8_furnaceByTemperature_32 : decode cX8_furnaceByTemperature 32 = .ok (.iconst 4, 1) := by decide +kernel
theorem dX8_furnaceByTemperature_33 : decode cX8_furnaceByTemperature 33 = .ok (.iadd, 1) := by decide +kernel
theorem dX8_furnaceByTemperature_34 : decode cX8_furnaceByTemperature 34 = .ok (.iaload, 1) := by decide +kernel
theorem dX8_furnaceByTemperature_35 : decode cX8_furnaceByTemperature 35 = .ok (.aload_n 0, 1) := by decide +kernel
theorem dX8_furnaceByTemperature_36 : decode cX8_furnaceByTemperature 36 = .ok (.getfield 16, 3) := by decide +kernel
theorem dX8_furnaceByTemperature_39 : decode cX8_furnaceByTemperature 39 = .ok (.iload_n 2, 1) := by decide +kernel
theorem dX8_furnaceByTemperature_40 : decode cX8_furnaceByTemperature 40 = .ok (.invokestatic 50, 3) := by decide +kernel
theorem dX8_furnaceByTemperature_43 : decode cX8_furnaceByTemperature 43 = .ok (.iconst 4, 1) := by decide +kernel
theorem dX8_furnaceByTemperature_44 : decode cX8_furnaceByTemperature 44 = .ok (.iadd, 1) := by decide +kernel
theorem dX8_furnaceByTemperature_45 : decode cX8_furnaceByTemperature 45 = .ok (.iaload, 1) := by decide +kernel
theorem dX8_furnaceByTemperature_46 : decode cX8_furnaceByTemperature 46 = .ok (.isub, 1) := by decide +kernel
theorem dX8_furnaceByTemperature_47 : decode cX8_furnaceByTemperature 47 = .ok (.istore 5, 2) := by decide +kernel
theorem dX8_furnaceByTemperature_49 : decode cX8_furnaceByTemperature 49 = .ok (.iload 5, 2) := by decide +kernel
theorem dX8_furnaceByTemperature_51 : decode cX8_furnaceByTemperature 51 = .ok (.ifCond .eq 8, 3) := by decide +kernel
theorem dX8_furnaceByTemperature_54 : decode cX8_furnaceByTemperature 54 = .ok (.iload 5, 2) := by decide +kernel
theorem dX8_furnaceByTemperature_56 : decode cX8_furnaceByTemperature 56 = .ok (.goto 21, 3) := by decide +kernel
theorem dX8_furnaceByTemperature_59 : decode cX8_furnaceByTemperature 59 = .ok (.aload_n 0, 1) := by decide +kernel
theorem dX8_furnaceByTemperature_60 : decode cX8_furnaceByTemperature 60 = .ok (.iload 4, 2) := by decide +kernel
theorem dX8_furnaceByTemperature_62 : decode cX8_furnaceByTemperature 62 = .ok (.invokestatic 50, 3) := by decide +kernel
theorem dX8_furnaceByTemperature_65 : decode cX8_furnaceByTemperature 65 = .ok (.invokevirtual 71, 3) := by decide +kernel
theorem dX8_furnaceByTemperature_68 : decode cX8_furnaceByTemperature 68 = .ok (.aload_n 0, 1) := by decide +kernel
theorem dX8_furnaceByTemperature_69 : decode cX8_furnaceByTemperature 69 = .ok (.iload_n 2, 1) := by decide +kernel
theorem dX8_furnaceByTemperature_70 : decode cX8_furnaceByTemperature 70 = .ok (.invokestatic 50, 3) := by decide +kernel
theorem dX8_furnaceByTemperature_73 : decode cX8_furnaceByTemperature 73 = .ok (.invokevirtual 71, 3) := by decide +kernel
theorem dX8_furnaceByTemperature_76 : decode cX8_furnaceByTemperature 76 = .ok (.isub, 1) := by decide +kernel
theorem dX8_furnaceByTemperature_77 : decode cX8_furnaceByTemperature 77 = .ok (.istore 5, 2) := by decide +kernel
theorem dX8_furnaceByTemperature_79 : decode cX8_furnaceByTemperature 79 = .ok (.iload_n 3, 1) := by decide +kernel
theorem dX8_furnaceByTemperature_80 : decode cX8_furnaceByTemperature 80 = .ok (.iload 5, 2) := by decide +kernel
theorem dX8_furnaceByTemperature_82 : decode cX8_furnaceByTemperature 82 = .ok (.ifCond .gt 14, 3) := by decide +kernel
theorem dX8_furnaceByTemperature_85 : decode cX8_furnaceByTemperature 85 = .ok (.iload 5, 2) := by decide +kernel
theorem dX8_furnaceByTemperature_87 : decode cX8_furnaceByTemperature 87 = .ok (.ifCond .ne 13, 3) := by decide +kernel
theorem dX8_furnaceByTemperature_90 : decode cX8_furnaceByTemperature 90 = .ok (.iload 4, 2) := by decide +kernel
theorem dX8_furnaceByTemperature_92 : decode cX8_furnaceByTemperature 92 = .ok (.iload_n 2, 1) := by decide +kernel
theorem dX8_furnaceByTemperature_93 : decode cX8_furnaceByTemperature 93 = .ok (.if_icmp .ge 7, 3) := by decide +kernel
theorem dX8_furnaceByTemperature_96 : decode cX8_furnaceByTemperature 96 = .ok (.iconst 1, 1) := by decide +kernel
theorem dX8_furnaceByTemperature_97 : decode cX8_furnaceByTemperature 97 = .ok (.goto 4, 3) := by decide +kernel
theorem dX8_furnaceByTemperature_100 : decode cX8_furnaceByTemperature 100 = .ok (.iconst 0, 1) := by decide +kernel
theorem dX8_furnaceByTemperature_101 : decode cX8_furnaceByTemperature 101 = .ok (.iadd, 1) := by decide +kernel
theorem dX8_furnaceByTemperature_102 : decode cX8_furnaceByTemperature 102 = .ok (.istore_n 3, 1) := by decide +kernel
theorem dX8_furnaceByTemperature_103 : decode cX8_furnaceByTemperature 103 = .ok (.iinc 4 1, 3) := by decide +kernel
theorem dX8_furnaceByTemperature_106 : decode cX8_furnaceByTemperature 106 = .ok (.goto (-89), 3) := by decide +kernel
theorem dX8_furnaceByTemperature_109 : decode cX8_furnaceByTemperature 109 = .ok (.iload_n 3, 1) := by decide +kernel
theorem dX8_furnaceByTemperature_110 : decode cX8_furnaceByTemperature 110 = .ok (.iload_n 1, 1) := by decide +kernel
theorem dX8_furnaceByTemperature_111 : decode cX8_furnaceByTemperature 111 = .ok (.if_icmp .ne 5, 3) := by decide +kernel
theorem dX8_furnaceByTemperature_114 : decode cX8_furnaceByTemperature 114 = .ok (.iload_n 2, 1) := by decide +kernel
theorem dX8_furnaceByTemperature_115 : decode cX8_furnaceByTemperature 115 = .ok (.ireturn, 1) := by decide +kernel
theorem dX8_furnaceByTemperature_116 : decode cX8_furnaceByTemperature 116 = .ok (.iinc 2 1, 3) := by decide +kernel
theorem dX8_furnaceByTemperature_119 : decode cX8_furnaceByTemperature 119 = .ok (.goto (-112), 3) := by decide +kernel
theorem dX8_furnaceByTemperature_122 : decode cX8_furnaceByTemperature 122 = .ok (.aload_n 0, 1) := by decide +kernel
theorem dX8_furnaceByTemperature_123 : decode cX8_furnaceByTemperature 123 = .ok (.iconst 1, 1) := by decide +kernel
theorem dX8_furnaceByTemperature_124 : decode cX8_furnaceByTemperature 124 = .ok (.invokevirtual 89, 3) := by decide +kernel
theorem dX8_furnaceByTemperature_127 : decode cX8_furnaceByTemperature 127 = .ok (.ireturn, 1) := by decide +kernel
set_option maxRecDepth 20000 in
theorem ggX8_ladleMass_X8_isThree : GoodIn wsX8_ladleMass wsX8_isThree := goodIn_r _ [4, 5, 6, 3, 7] (by decide +kernel) (by decide +kernel)
set_option maxRecDepth 20000 in
theorem gX8_ladleMass_X8_isThree : GoodIn wsX8_ladleMass (va_wsS RX8 85 yX8_isThree wsX8_isThree) := goodIn_app (goodIn_of _ (by decide +kernel)) ggX8_ladleMass_X8_isThree
set_option maxRecDepth 20000 in
theorem ggX8_ladleMass_X8_ladle : GoodIn wsX8_ladleMass wsX8_ladle := goodIn_r _ [10] (by decide +kernel) (by decide +kernel)
set_option maxRecDepth 20000 in
theorem gX8_ladleMass_X8_ladle : GoodIn wsX8_ladleMass (va_wsS RX8 54 yX8_ladle wsX8_ladle) := goodIn_app (goodIn_of _ (by decide +kernel)) ggX8_ladleMass_X8_ladle
set_option maxRecDepth 20000 in
theorem ggX8_ladleMass_X8_tells : GoodIn wsX8_ladleMass wsX8_tells := goodIn_ca (goodIn_r _ [14, 15, 16, 17, 18, 3, 19, 20, 21, 22, 23, 24, 25, 26, 27, 28, 29, 30, 31, 32, 33, 34, 35, 36, 37, 38, 39, 40, 41] (by decide +kernel) (by decide +kernel)) (goodIn_sub (fun _ h => List.mem_cons_of_mem _ (List.mem_append_right _ h)) (by decide +kernel))
set_option maxRecDepth 20000 in
theorem gX8_ladleMass_X8_tells : GoodIn wsX8_ladleMass (wsV RX8 164 RX8 yX8_tells wsX8_tells) := goodIn_app (goodIn_of _ (by decide +kernel)) ggX8_ladleMass_X8_tells
theorem dX8_ladleMass_0 : decode cX8_ladleMass 0 = .ok (.aload_n 0, 1) := by decide +kernel
theorem dX8_ladleMass_1 : decode cX8_ladleMass 1 = .ok (.iload_n 1, 1) := by decide +kernel
theorem dX8_ladleMass_2 : decode cX8_ladleMass 2 = .ok (.invokestatic 85, 3) := by decide +kernel
theorem dX8_ladleMass_5 : decode cX8_ladleMass 5 = .ok (.iload_n 1, 1) := by decide +kernel
theorem dX8_ladleMass_6 : decode cX8_ladleMass 6 = .ok (.invokestatic 54, 3) := by decide +kernel
theorem dX8_ladleMass_9 : decode cX8_ladleMass 9 = .ok (.iload_n 2, 1) := by decide +kernel
theorem dX8_ladleMass_10 : decode cX8_ladleMass 10 = .ok (.invokevirtual 164, 3) := by decide +kernel
theorem dX8_ladleMass_13 : decode cX8_ladleMass 13 = .ok (.ireturn, 1) := by decide +kernel
set_option maxRecDepth 20000 in
theorem ggX8_ladleTotal_X8_isThree : GoodIn wsX8_ladleTotal wsX8_isThree := goodIn_r _ [4, 5, 6, 3, 7] (by decide +kernel) (by decide +kernel)
set_option maxRecDepth 20000 in
theorem gX8_ladleTotal_X8_isThree : GoodIn wsX8_ladleTotal (va_wsS RX8 85 yX8_isThree wsX8_isThree) := goodIn_app (goodIn_of _ (by decide +kernel)) ggX8_ladleTotal_X8_isThree
set_option maxRecDepth 20000 in
theorem ggX8_ladleTotal_X8_ladle : GoodIn wsX8_ladleTotal wsX8_ladle := goodIn_r _ [10] (by decide +kernel) (by decide +kernel)
set_option maxRecDepth 20000 in
theorem gX8_ladleTotal_X8_ladle : GoodIn wsX8_ladleTotal (va_wsS RX8 54 yX8_ladle wsX8_ladle) := goodIn_app (goodIn_of _ (by decide +kernel)) ggX8_ladleTotal_X8_ladle
set_option maxRecDepth 20000 in
theorem ggX8_ladleTotal_X8_tellsMass : GoodIn wsX8_ladleTotal wsX8_tellsMass := goodIn_ca (goodIn_r _ [14, 15, 16, 17, 18, 3, 19, 20, 21, 22, 23, 24, 25, 26, 27, 28, 29, 30, 31, 32, 33, 34, 35, 36, 37, 38, 39, 40, 41, 42] (by decide +kernel) (by decide +kernel)) (goodIn_sub (fun _ h => List.mem_cons_of_mem _ (List.mem_append_right _ h)) (by decide +kernel))
set_option maxRecDepth 20000 in
theorem gX8_ladleTotal_X8_tellsMass : GoodIn wsX8_ladleTotal (wsV RX8 168 RX8 yX8_tellsMass wsX8_tellsMass) := goodIn_app (goodIn_of _ (by decide +kernel)) ggX8_ladleTotal_X8_tellsMass
theorem dX8_ladleTotal_0 : decode cX8_ladleTotal 0 = .ok (.aload_n 0, 1) := by decide +kernel

