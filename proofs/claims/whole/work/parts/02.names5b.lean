theorem dX8_isConsistent_71 : decode cX8_isConsistent 71 = .ok (.istore_n 2, 1) := by decide +kernel
theorem dX8_isConsistent_72 : decode cX8_isConsistent 72 = .ok (.iload_n 2, 1) := by decide +kernel
theorem dX8_isConsistent_73 : decode cX8_isConsistent 73 = .ok (.aload_n 0, 1) := by decide +kernel
theorem dX8_isConsistent_74 : decode cX8_isConsistent 74 = .ok (.getfield 16, 3) := by decide +kernel
theorem dX8_isConsistent_77 : decode cX8_isConsistent 77 = .ok (.bipush 43, 2) := by decide +kernel
theorem dX8_isConsistent_79 : decode cX8_isConsistent 79 = .ok (.iaload, 1) := by decide +kernel
theorem dX8_isConsistent_80 : decode cX8_isConsistent 80 = .ok (.if_icmp .ge 20, 3) := by decide +kernel
theorem dX8_isConsistent_83 : decode cX8_isConsistent 83 = .ok (.iload_n 1, 1) := by decide +kernel
theorem dX8_isConsistent_84 : decode cX8_isConsistent 84 = .ok (.aload_n 0, 1) := by decide +kernel
theorem dX8_isConsistent_85 : decode cX8_isConsistent 85 = .ok (.iload_n 2, 1) := by decide +kernel
theorem dX8_isConsistent_86 : decode cX8_isConsistent 86 = .ok (.invokestatic 146, 3) := by decide +kernel
theorem dX8_isConsistent_89 : decode cX8_isConsistent 89 = .ok (.invokevirtual 71, 3) := by decide +kernel
theorem dX8_isConsistent_92 : decode cX8_isConsistent 92 = .ok (.iadd, 1) := by decide +kernel
theorem dX8_isConsistent_93 : decode cX8_isConsistent 93 = .ok (.istore_n 1, 1) := by decide +kernel
theorem dX8_isConsistent_94 : decode cX8_isConsistent 94 = .ok (.iinc 2 1, 3) := by decide +kernel
theorem dX8_isConsistent_97 : decode cX8_isConsistent 97 = .ok (.goto (-25), 3) := by decide +kernel
theorem dX8_isConsistent_100 : decode cX8_isConsistent 100 = .ok (.iload_n 1, 1) := by decide +kernel
theorem dX8_isConsistent_101 : decode cX8_isConsistent 101 = .ok (.aload_n 0, 1) := by decide +kernel
theorem dX8_isConsistent_102 : decode cX8_isConsistent 102 = .ok (.iconst 1, 1) := by decide +kernel
theorem dX8_isConsistent_103 : decode cX8_isConsistent 103 = .ok (.invokevirtual 71, 3) := by decide +kernel
theorem dX8_isConsistent_106 : decode cX8_isConsistent 106 = .ok (.aload_n 0, 1) := by decide +kernel
theorem dX8_isConsistent_107 : decode cX8_isConsistent 107 = .ok (.iconst 5, 1) := by decide +kernel
theorem dX8_isConsistent_108 : decode cX8_isConsistent 108 = .ok (.invokevirtual 71, 3) := by decide +kernel
theorem dX8_isConsistent_111 : decode cX8_isConsistent 111 = .ok (.isub, 1) := by decide +kernel
theorem dX8_isConsistent_112 : decode cX8_isConsistent 112 = .ok (.if_icmp .ne 7, 3) := by decide +kernel
theorem dX8_isConsistent_115 : decode cX8_isConsistent 115 = .ok (.iconst 1, 1) := by decide +kernel
theorem dX8_isConsistent_116 : decode cX8_isConsistent 116 = .ok (.goto 4, 3) := by decide +kernel
theorem dX8_isConsistent_119 : decode cX8_isConsistent 119 = .ok (.iconst 0, 1) := by decide +kernel
theorem dX8_isConsistent_120 : decode cX8_isConsistent 120 = .ok (.ireturn, 1) := by decide +kernel
theorem dX8_letter_0 : decode cX8_letter 0 = .ok (.iload_n 0, 1) := by decide +kernel
theorem dX8_letter_1 : decode cX8_letter 1 = .ok (.ifCond .ne 8, 3) := by decide +kernel
theorem dX8_letter_4 : decode cX8_letter 4 = .ok (.bipush 99, 2) := by decide +kernel
theorem dX8_letter_6 : decode cX8_letter 6 = .ok (.goto 25, 3) := by decide +kernel
theorem dX8_letter_9 : decode cX8_letter 9 = .ok (.iload_n 0, 1) := by decide +kernel
theorem dX8_letter_10 : decode cX8_letter 10 = .ok (.iconst 1, 1) := by decide +kernel
theorem dX8_letter_11 : decode cX8_letter 11 = .ok (.if_icmp .ne 8, 3) := by decide +kernel
theorem dX8_letter_14 : decode cX8_letter 14 = .ok (.bipush 116, 2) := by decide +kernel
theorem dX8_letter_16 : decode cX8_letter 16 = .ok (.goto 15, 3) := by decide +kernel
theorem dX8_letter_19 : decode cX8_letter 19 = .ok (.iload_n 0, 1) := by decide +kernel
theorem dX8_letter_20 : decode cX8_letter 20 = .ok (.iconst 2, 1) := by decide +kernel
theorem dX8_letter_21 : decode cX8_letter 21 = .ok (.if_icmp .ne 8, 3) := by decide +kernel
theorem dX8_letter_24 : decode cX8_letter 24 = .ok (.bipush 108, 2) := by decide +kernel
theorem dX8_letter_26 : decode cX8_letter 26 = .ok (.goto 5, 3) := by decide +kernel
theorem dX8_letter_29 : decode cX8_letter 29 = .ok (.bipush 111, 2) := by decide +kernel
theorem dX8_letter_31 : decode cX8_letter 31 = .ok (.ireturn, 1) := by decide +kernel
theorem dX8_writes_0 : decode cX8_writes 0 = .ok (.aload_n 0, 1) := by decide +kernel
theorem dX8_writes_1 : decode cX8_writes 1 = .ok (.getfield 38, 3) := by decide +kernel
theorem dX8_writes_4 : decode cX8_writes 4 = .ok (.aload_n 0, 1) := by decide +kernel
theorem dX8_writes_5 : decode cX8_writes 5 = .ok (.getfield 196, 3) := by decide +kernel
theorem dX8_writes_8 : decode cX8_writes 8 = .ok (.iload_n 1, 1) := by decide +kernel
theorem dX8_writes_9 : decode cX8_writes 9 = .ok (.iastore, 1) := by decide +kernel
theorem dX8_writes_10 : decode cX8_writes 10 = .ok (.aload_n 0, 1) := by decide +kernel
theorem dX8_writes_11 : decode cX8_writes 11 = .ok (.dup, 1) := by decide +kernel
theorem dX8_writes_12 : decode cX8_writes 12 = .ok (.getfield 196, 3) := by decide +kernel
theorem dX8_writes_15 : decode cX8_writes 15 = .ok (.iconst 1, 1) := by decide +kernel
theorem dX8_writes_16 : decode cX8_writes 16 = .ok (.iadd, 1) := by decide +kernel
theorem dX8_writes_17 : decode cX8_writes 17 = .ok (.putfield 196, 3) := by decide +kernel
theorem dX8_writes_20 : decode cX8_writes 20 = .ok (.return_, 1) := by decide +kernel
set_option maxRecDepth 20000 in
theorem ggX8_writesNumber_X8_writes : GoodIn wsX8_writesNumber wsX8_writes := goodIn_ca (goodIn_r _ [5, 6, 7, 8, 9, 10, 11, 12, 13, 14, 15, 16, 17, 18, 19, 20, 21, 22, 23, 24, 25, 26, 27, 28, 29] (by decide +kernel) (by decide +kernel)) (goodIn_sub (fun _ h => List.mem_cons_of_mem _ (List.mem_append_right _ h)) (by decide +kernel))
set_option maxRecDepth 20000 in
theorem gX8_writesNumber_X8_writes : GoodIn wsX8_writesNumber (wsV RX8 199 RX8 yX8_writes wsX8_writes) := goodIn_app (goodIn_of _ (by decide +kernel)) ggX8_writesNumber_X8_writes
theorem dX8_writesNumber_0 : decode cX8_writesNumber 0 = .ok (.iconst 1, 1) := by decide +kernel
theorem dX8_writesNumber_1 : decode cX8_writesNumber 1 = .ok (.istore_n 2, 1) := by decide +kernel
theorem dX8_writesNumber_2 : decode cX8_writesNumber 2 = .ok (.iload_n 1, 1) := by decide +kernel
theorem dX8_writesNumber_3 : decode cX8_writesNumber 3 = .ok (.iload_n 2, 1) := by decide +kernel
theorem dX8_writesNumber_4 : decode cX8_writesNumber 4 = .ok (.idiv, 1) := by decide +kernel
theorem dX8_writesNumber_5 : decode cX8_writesNumber 5 = .ok (.bipush 10, 2) := by decide +kernel
theorem dX8_writesNumber_7 : decode cX8_writesNumber 7 = .ok (.if_icmp .lt 11, 3) := by decide +kernel
theorem dX8_writesNumber_10 : decode cX8_writesNumber 10 = .ok (.iload_n 2, 1) := by decide +kernel
theorem dX8_writesNumber_11 : decode cX8_writesNumber 11 = .ok (.bipush 10, 2) := by decide +kernel
theorem dX8_writesNumber_13 : decode cX8_writesNumber 13 = .ok (.imul, 1) := by decide +kernel
theorem dX8_writesNumber_14 : decode cX8_writesNumber 14 = .ok (.istore_n 2, 1) := by decide +kernel
theorem dX8_writesNumber_15 : decode cX8_writesNumber 15 = .ok (.goto (-13), 3) := by decide +kernel
theorem dX8_writesNumber_18 : decode cX8_writesNumber 18 = .ok (.iload_n 2, 1) := by decide +kernel
theorem dX8_writesNumber_19 : decode cX8_writesNumber 19 = .ok (.ifCond .le 24, 3) := by decide +kernel
theorem dX8_writesNumber_22 : decode cX8_writesNumber 22 = .ok (.aload_n 0, 1) := by decide +kernel
theorem dX8_writesNumber_23 : decode cX8_writesNumber 23 = .ok (.bipush 48, 2) := by decide +kernel
theorem dX8_writesNumber_25 : decode cX8_writesNumber 25 = .ok (.iload_n 1, 1) := by decide +kernel
theorem dX8_writesNumber_26 : decode cX8_writesNumber 26 = .ok (.iload_n 2, 1) := by decide +kernel
theorem dX8_writesNumber_27 : decode cX8_writesNumber 27 = .ok (.idiv, 1) := by decide +kernel
theorem dX8_writesNumber_28 : decode cX8_writesNumber 28 = .ok (.bipush 10, 2) := by decide +kernel
theorem dX8_writesNumber_30 : decode cX8_writesNumber 30 = .ok (.irem, 1) := by decide +kernel
theorem dX8_writesNumber_31 : decode cX8_writesNumber 31 = .ok (.iadd, 1) := by decide +kernel
theorem dX8_writesNumber_32 : decode cX8_writesNumber 32 = .ok (.invokevirtual 199, 3) := by decide +kernel
theorem dX8_writesNumber_35 : decode cX8_writesNumber 35 = .ok (.iload_n 2, 1) := by decide +kernel
theorem dX8_writesNumber_36 : decode cX8_writesNumber 36 = .ok (.bipush 10, 2) := by decide +kernel
theorem dX8_writesNumber_38 : decode cX8_writesNumber 38 = .ok (.idiv, 1) := by decide +kernel
theorem dX8_writesNumber_39 : decode cX8_writesNumber 39 = .ok (.istore_n 2, 1) := by decide +kernel
theorem dX8_writesNumber_40 : decode cX8_writesNumber 40 = .ok (.goto (-22), 3) := by decide +kernel
theorem dX8_writesNumber_43 : decode cX8_writesNumber 43 = .ok (.return_, 1) := by decide +kernel
set_option maxRecDepth 20000 in
theorem ggX8_renderFurnace_X8_isThree : GoodIn wsX8_renderFurnace wsX8_isThree := goodIn_r _ [7, 8, 9, 6, 10] (by decide +kernel) (by decide +kernel)
set_option maxRecDepth 20000 in
theorem gX8_renderFurnace_X8_isThree : GoodIn wsX8_renderFurnace (va_wsS RX8 85 yX8_isThree wsX8_isThree) := goodIn_app (goodIn_of _ (by decide +kernel)) ggX8_renderFurnace_X8_isThree
set_option maxRecDepth 20000 in
theorem ggX8_renderFurnace_X8_furnace : GoodIn wsX8_renderFurnace wsX8_furnace := goodIn_r _ [13] (by decide +kernel) (by decide +kernel)
set_option maxRecDepth 20000 in
theorem gX8_renderFurnace_X8_furnace : GoodIn wsX8_renderFurnace (va_wsS RX8 50 yX8_furnace wsX8_furnace) := goodIn_app (goodIn_of _ (by decide +kernel)) ggX8_renderFurnace_X8_furnace
set_option maxRecDepth 20000 in
theorem ggX8_renderFurnace_X8_letter : GoodIn wsX8_renderFurnace wsX8_letter := goodIn_r _ [16] (by decide +kernel) (by decide +kernel)
set_option maxRecDepth 20000 in
theorem gX8_renderFurnace_X8_letter : GoodIn wsX8_renderFurnace (va_wsS RX8 202 yX8_letter wsX8_letter) := goodIn_app (goodIn_of _ (by decide +kernel)) ggX8_renderFurnace_X8_letter
set_option maxRecDepth 20000 in
theorem ggX8_renderFurnace_X8_writes : GoodIn wsX8_renderFurnace wsX8_writes := goodIn_ca (goodIn_r _ [20, 21, 2, 26, 27, 28, 29, 30, 31, 32, 33, 34, 35, 36, 37, 38, 39, 40, 41, 42, 43, 44, 45, 46, 47] (by decide +kernel) (by decide +kernel)) (goodIn_sub (fun _ h => List.mem_cons_of_mem _ (List.mem_append_left _ (List.mem_append_right _ h))) (by decide +kernel))
set_option maxRecDepth 20000 in
theorem gX8_renderFurnace_X8_writes : GoodIn wsX8_renderFurnace (wsV RX8 199 RX8 yX8_writes wsX8_writes) := goodIn_app (goodIn_of _ (by decide +kernel)) ggX8_renderFurnace_X8_writes
set_option maxRecDepth 20000 in
theorem ggX8_renderFurnace_X8_writesNumber : GoodIn wsX8_renderFurnace wsX8_writesNumber := goodIn_ca (goodIn_ca (goodIn_r _ [25, 17, 18, 19, 6, 20, 21, 2, 26, 27, 28, 29, 30, 31, 32, 33, 34, 35, 36, 37, 38, 39, 40, 41, 42, 43, 44, 45, 46, 47] (by decide +kernel) (by decide +kernel)) (goodIn_sub (fun _ h => List.mem_cons_of_mem _ (List.mem_append_right _ h)) (by decide +kernel))) (goodIn_sub (fun _ h => List.mem_cons_of_mem _ (List.mem_append_left _ (List.mem_append_right _ h))) (by decide +kernel))
set_option maxRecDepth 20000 in
theorem gX8_renderFurnace_X8_writesNumber : GoodIn wsX8_renderFurnace (wsV RX8 205 RX8 yX8_writesNumber wsX8_writesNumber) := goodIn_app (goodIn_of _ (by decide +kernel)) ggX8_renderFurnace_X8_writesNumber
theorem dX8_renderFurnace_0 : decode cX8_renderFurnace 0 = .ok (.aload_n 0, 1) := by decide +kernel
theorem dX8_renderFurnace_1 : decode cX8_renderFurnace 1 = .ok (.iload_n 1, 1) := by decide +kernel
theorem dX8_renderFurnace_2 : decode cX8_renderFurnace 2 = .ok (.invokestatic 85, 3) := by decide +kernel
theorem dX8_renderFurnace_5 : decode cX8_renderFurnace 5 = .ok (.ifCond .eq 7, 3) := by decide +kernel
theorem dX8_renderFurnace_8 : decode cX8_renderFurnace 8 = .ok (.iconst 0, 1) := by decide +kernel
theorem dX8_renderFurnace_9 : decode cX8_renderFurnace 9 = .ok (.goto 4, 3) := by decide +kernel
theorem dX8_renderFurnace_12 : decode cX8_renderFurnace 12 = .ok (.iconst 1, 1) := by decide +kernel
theorem dX8_renderFurnace_13 : decode cX8_renderFurnace 13 = .ok (.putfield 57, 3) := by decide +kernel
theorem dX8_renderFurnace_16 : decode cX8_renderFurnace 16 = .ok (.aload_n 0, 1) := by decide +kernel
theorem dX8_renderFurnace_17 : decode cX8_renderFurnace 17 = .ok (.getfield 57, 3) := by decide +kernel
theorem dX8_renderFurnace_20 : decode cX8_renderFurnace 20 = .ok (.ifCond .eq 5, 3) := by decide +kernel
theorem dX8_renderFurnace_23 : decode cX8_renderFurnace 23 = .ok (.iconst 0, 1) := by decide +kernel
theorem dX8_renderFurnace_24 : decode cX8_renderFurnace 24 = .ok (.ireturn, 1) := by decide +kernel
theorem dX8_renderFurnace_25 : decode cX8_renderFurnace 25 = .ok (.iload_n 1, 1) := by decide +kernel
theorem dX8_renderFurnace_26 : decode cX8_renderFurnace 26 = .ok (.invokestatic 50, 3) := by decide +kernel
theorem dX8_renderFurnace_29 : decode cX8_renderFurnace 29 = .ok (.istore_n 2, 1) := by decide +kernel
theorem dX8_renderFurnace_30 : decode cX8_renderFurnace 30 = .ok (.aload_n 0, 1) := by decide +kernel
theorem dX8_renderFurnace_31 : decode cX8_renderFurnace 31 = .ok (.iconst 0, 1) := by decide +kernel
theorem dX8_renderFurnace_32 : decode cX8_renderFurnace 32 = .ok (.putfield 196, 3) := by decide +kernel
theorem dX8_renderFurnace_35 : decode cX8_renderFurnace 35 = .ok (.iconst 0, 1) := by decide +kernel
theorem dX8_renderFurnace_36 : decode cX8_renderFurnace 36 = .ok (.istore_n 3, 1) := by decide +kernel
theorem dX8_renderFurnace_37 : decode cX8_renderFurnace 37 = .ok (.iload_n 3, 1) := by decide +kernel
theorem dX8_renderFurnace_38 : decode cX8_renderFurnace 38 = .ok (.iconst 4, 1) := by decide +kernel
theorem dX8_renderFurnace_39 : decode cX8_renderFurnace 39 = .ok (.if_icmp .ge 43, 3) := by decide +kernel
theorem dX8_renderFurnace_42 : decode cX8_renderFurnace 42 = .ok (.aload_n 0, 1) := by decide +kernel
theorem dX8_renderFurnace_43 : decode cX8_renderFurnace 43 = .ok (.getfield 16, 3) := by decide +kernel
theorem dX8_renderFurnace_46 : decode cX8_renderFurnace 46 = .ok (.iload_n 2, 1) := by decide +kernel
theorem dX8_renderFurnace_47 : decode cX8_renderFurnace 47 = .ok (.iload_n 3, 1) := by decide +kernel
theorem dX8_renderFurnace_48 : decode cX8_renderFurnace 48 = .ok (.iadd, 1) := by decide +kernel
theorem dX8_renderFurnace_49 : decode cX8_renderFurnace 49 = .ok (.iaload, 1) := by decide +kernel
theorem dX8_renderFurnace_50 : decode cX8_renderFurnace 50 = .ok (.ifCond .ne 6, 3) := by decide +kernel
theorem dX8_renderFurnace_53 : decode cX8_renderFurnace 53 = .ok (.goto 23, 3) := by decide +kernel
theorem dX8_renderFurnace_56 : decode cX8_renderFurnace 56 = .ok (.aload_n 0, 1) := by decide +kernel
theorem dX8_renderFurnace_57 : decode cX8_renderFurnace 57 = .ok (.iload_n 3, 1) := by decide +kernel
theorem dX8_renderFurnace_58 : decode cX8_renderFurnace 58 = .ok (.invokestatic 202, 3) := by decide +kernel
theorem dX8_renderFurnace_61 : decode cX8_renderFurnace 61 = .ok (.invokevirtual 199, 3) := by decide +kernel
theorem dX8_renderFurnace_64 : decode cX8_renderFurnace 64 = .ok (.aload_n 0, 1) := by decide +kernel
theorem dX8_renderFurnace_65 : decode cX8_renderFurnace 65 = .ok (.aload_n 0, 1) := by decide +kernel
theorem dX8_renderFurnace_66 : decode cX8_renderFurnace 66 = .ok (.getfield 16, 3) := by decide +kernel
theorem dX8_renderFurnace_69 : decode cX8_renderFurnace 69 = .ok (.iload_n 2, 1) := by decide +kernel
theorem dX8_renderFurnace_70 : decode cX8_renderFurnace 70 = .ok (.iload_n 3, 1) := by decide +kernel
theorem dX8_renderFurnace_71 : decode cX8_renderFurnace 71 = .ok (.iadd, 1) := by decide +kernel
theorem dX8_renderFurnace_72 : decode cX8_renderFurnace 72 = .ok (.iaload, 1) := by decide +kernel
theorem dX8_renderFurnace_73 : decode cX8_renderFurnace 73 = .ok (.invokevirtual 205, 3) := by decide +kernel
theorem dX8_renderFurnace_76 : decode cX8_renderFurnace 76 = .ok (.iinc 3 1, 3) := by decide +kernel
theorem dX8_renderFurnace_79 : decode cX8_renderFurnace 79 = .ok (.goto (-42), 3) := by decide +kernel
theorem dX8_renderFurnace_82 : decode cX8_renderFurnace 82 = .ok (.aload_n 0, 1) := by decide +kernel
theorem dX8_renderFurnace_83 : decode cX8_renderFurnace 83 = .ok (.bipush 64, 2) := by decide +kernel
theorem dX8_renderFurnace_85 : decode cX8_renderFurnace 85 = .ok (.invokevirtual 199, 3) := by decide +kernel
theorem dX8_renderFurnace_88 : decode cX8_renderFurnace 88 = .ok (.aload_n 0, 1) := by decide +kernel
theorem dX8_renderFurnace_89 : decode cX8_renderFurnace 89 = .ok (.aload_n 0, 1) := by decide +kernel
theorem dX8_renderFurnace_90 : decode cX8_renderFurnace 90 = .ok (.getfield 16, 3) := by decide +kernel
theorem dX8_renderFurnace_93 : decode cX8_renderFurnace 93 = .ok (.iload_n 2, 1) := by decide +kernel
theorem dX8_renderFurnace_94 : decode cX8_renderFurnace 94 = .ok (.iconst 4, 1) := by decide +kernel
theorem dX8_renderFurnace_95 : decode cX8_renderFurnace 95 = .ok (.iadd, 1) := by decide +kernel
theorem dX8_renderFurnace_96 : decode cX8_renderFurnace 96 = .ok (.iaload, 1) := by decide +kernel
theorem dX8_renderFurnace_97 : decode cX8_renderFurnace 97 = .ok (.invokevirtual 205, 3) := by decide +kernel
theorem dX8_renderFurnace_100 : decode cX8_renderFurnace 100 = .ok (.aload_n 0, 1) := by decide +kernel
theorem dX8_renderFurnace_101 : decode cX8_renderFurnace 101 = .ok (.getfield 196, 3) := by decide +kernel
theorem dX8_renderFurnace_104 : decode cX8_renderFurnace 104 = .ok (.ireturn, 1) := by decide +kernel
set_option maxRecDepth 20000 in
theorem ggX8_renderGrades_X8_gradeOf : GoodIn wsX8_renderGrades wsX8_gradeOf := goodIn_ca (goodIn_ca (goodIn_r _ [8, 9, 10, 11, 7, 12, 3, 13, 14, 15, 16, 17, 18, 19, 25, 26, 27, 28, 29, 30, 31, 32, 33, 34, 35, 36, 37, 38, 39, 40, 41, 42, 43, 44, 45, 46] (by decide +kernel) (by decide +kernel)) (goodIn_sub (fun _ h => List.mem_cons_of_mem _ (List.mem_append_left _ (List.mem_append_right _ h))) (by decide +kernel))) (goodIn_sub (fun _ h => List.mem_cons_of_mem _ (List.mem_append_right _ h)) (by decide +kernel))
set_option maxRecDepth 20000 in
theorem gX8_renderGrades_X8_gradeOf : GoodIn wsX8_renderGrades (wsV RX8 184 RX8 yX8_gradeOf wsX8_gradeOf) := goodIn_app (goodIn_of _ (by decide +kernel)) ggX8_renderGrades_X8_gradeOf
set_option maxRecDepth 20000 in
theorem ggX8_renderGrades_X8_writes : GoodIn wsX8_renderGrades wsX8_writes := goodIn_ca (goodIn_r _ [23, 24, 2, 25, 26, 27, 28, 29, 30, 31, 32, 33, 34, 35, 36, 37, 38, 39, 40, 41, 42, 43, 44, 45, 46] (by decide +kernel) (by decide +kernel)) (goodIn_sub (fun _ h => List.mem_cons_of_mem _ (List.mem_append_left _ (List.mem_append_right _ h))) (by decide +kernel))
set_option maxRecDepth 20000 in
theorem gX8_renderGrades_X8_writes : GoodIn wsX8_renderGrades (wsV RX8 199 RX8 yX8_writes wsX8_writes) := goodIn_app (goodIn_of _ (by decide +kernel)) ggX8_renderGrades_X8_writes
theorem dX8_renderGrades_0 : decode cX8_renderGrades 0 = .ok (.aload_n 0, 1) := by decide +kernel
theorem dX8_renderGrades_1 : decode cX8_renderGrades 1 = .ok (.iconst 0, 1) := by decide +kernel
theorem dX8_renderGrades_2 : decode cX8_renderGrades 2 = .ok (.putfield 57, 3) := by decide +kernel
theorem dX8_renderGrades_5 : decode cX8_renderGrades 5 = .ok (.aload_n 0, 1) := by decide +kernel
theorem dX8_renderGrades_6 : decode cX8_renderGrades 6 = .ok (.iconst 0, 1) := by decide +kernel
theorem dX8_renderGrades_7 : decode cX8_renderGrades 7 = .ok (.putfield 196, 3) := by decide +kernel
theorem dX8_renderGrades_10 : decode cX8_renderGrades 10 = .ok (.iconst 0, 1) := by decide +kernel
theorem dX8_renderGrades_11 : decode cX8_renderGrades 11 = .ok (.istore_n 1, 1) := by decide +kernel
theorem dX8_renderGrades_12 : decode cX8_renderGrades 12 = .ok (.iload_n 1, 1) := by decide +kernel
theorem dX8_renderGrades_13 : decode cX8_renderGrades 13 = .ok (.aload_n 0, 1) := by decide +kernel
theorem dX8_renderGrades_14 : decode cX8_renderGrades 14 = .ok (.getfield 16, 3) := by decide +kernel
theorem dX8_renderGrades_17 : decode cX8_renderGrades 17 = .ok (.bipush 43, 2) := by decide +kernel
theorem dX8_renderGrades_19 : decode cX8_renderGrades 19 = .ok (.iaload, 1) := by decide +kernel
theorem dX8_renderGrades_20 : decode cX8_renderGrades 20 = .ok (.if_icmp .ge 18, 3) := by decide +kernel
theorem dX8_renderGrades_23 : decode cX8_renderGrades 23 = .ok (.aload_n 0, 1) := by decide +kernel
theorem dX8_renderGrades_24 : decode cX8_renderGrades 24 = .ok (.aload_n 0, 1) := by decide +kernel
theorem dX8_renderGrades_25 : decode cX8_renderGrades 25 = .ok (.iload_n 1, 1) := by decide +kernel
theorem dX8_renderGrades_26 : decode cX8_renderGrades 26 = .ok (.invokevirtual 184, 3) := by decide +kernel
theorem dX8_renderGrades_29 : decode cX8_renderGrades 29 = .ok (.invokevirtual 199, 3) := by decide +kernel
theorem dX8_renderGrades_32 : decode cX8_renderGrades 32 = .ok (.iinc 1 1, 3) := by decide +kernel
theorem dX8_renderGrades_35 : decode cX8_renderGrades 35 = .ok (.goto (-23), 3) := by decide +kernel
theorem dX8_renderGrades_38 : decode cX8_renderGrades 38 = .ok (.aload_n 0, 1) := by decide +kernel
theorem dX8_renderGrades_39 : decode cX8_renderGrades 39 = .ok (.getfield 196, 3) := by decide +kernel
theorem dX8_renderGrades_42 : decode cX8_renderGrades 42 = .ok (.ireturn, 1) := by decide +kernel
set_option maxRecDepth 20000 in
theorem ggX8_outputAt_X8_isIn : GoodIn wsX8_outputAt wsX8_isIn := goodIn_r _ [7] (by decide +kernel) (by decide +kernel)
set_option maxRecDepth 20000 in
theorem gX8_outputAt_X8_isIn : GoodIn wsX8_outputAt (va_wsS RX8 67 yX8_isIn wsX8_isIn) := goodIn_app (goodIn_of _ (by decide +kernel)) ggX8_outputAt_X8_isIn
theorem dX8_outputAt_0 : decode cX8_outputAt 0 = .ok (.aload_n 0, 1) := by decide +kernel
theorem dX8_outputAt_1 : decode cX8_outputAt 1 = .ok (.iload_n 1, 1) := by decide +kernel
theorem dX8_outputAt_2 : decode cX8_outputAt 2 = .ok (.iconst 0, 1) := by decide +kernel
theorem dX8_outputAt_3 : decode cX8_outputAt 3 = .ok (.aload_n 0, 1) := by decide +kernel
theorem dX8_outputAt_4 : decode cX8_outputAt 4 = .ok (.getfield 196, 3) := by decide +kernel
theorem dX8_outputAt_7 : decode cX8_outputAt 7 = .ok (.iconst 1, 1) := by decide +kernel
theorem dX8_outputAt_8 : decode cX8_outputAt 8 = .ok (.isub, 1) := by decide +kernel
theorem dX8_outputAt_9 : decode cX8_outputAt 9 = .ok (.invokestatic 67, 3) := by decide +kernel
theorem dX8_outputAt_12 : decode cX8_outputAt 12 = .ok (.ifCond .eq 7, 3) := by decide +kernel
theorem dX8_outputAt_15 : decode cX8_outputAt 15 = .ok (.iconst 0, 1) := by decide +kernel
theorem dX8_outputAt_16 : decode cX8_outputAt 16 = .ok (.goto 4, 3) := by decide +kernel
theorem dX8_outputAt_19 : decode cX8_outputAt 19 = .ok (.iconst 1, 1) := by decide +kernel
theorem dX8_outputAt_20 : decode cX8_outputAt 20 = .ok (.putfield 57, 3) := by decide +kernel
theorem dX8_outputAt_23 : decode cX8_outputAt 23 = .ok (.aload_n 0, 1) := by decide +kernel
theorem dX8_outputAt_24 : decode cX8_outputAt 24 = .ok (.getfield 57, 3) := by decide +kernel
theorem dX8_outputAt_27 : decode cX8_outputAt 27 = .ok (.ifCond .ne 13, 3) := by decide +kernel
theorem dX8_outputAt_30 : decode cX8_outputAt 30 = .ok (.aload_n 0, 1) := by decide +kernel
theorem dX8_outputAt_31 : decode cX8_outputAt 31 = .ok (.getfield 38, 3) := by decide +kernel
theorem dX8_outputAt_34 : decode cX8_outputAt 34 = .ok (.iload_n 1, 1) := by decide +kernel
theorem dX8_outputAt_35 : decode cX8_outputAt 35 = .ok (.iaload, 1) := by decide +kernel
theorem dX8_outputAt_36 : decode cX8_outputAt 36 = .ok (.i2c, 1) := by decide +kernel
theorem dX8_outputAt_37 : decode cX8_outputAt 37 = .ok (.goto 5, 3) := by decide +kernel
theorem dX8_outputAt_40 : decode cX8_outputAt 40 = .ok (.bipush 97, 2) := by decide +kernel
theorem dX8_outputAt_42 : decode cX8_outputAt 42 = .ok (.ireturn, 1) := by decide +kernel
set_option maxRecDepth 20000 in
theorem ggX8_type_X8_isIn : GoodIn wsX8_type wsX8_isIn := goodIn_r _ [7] (by decide +kernel) (by decide +kernel)
set_option maxRecDepth 20000 in
theorem gX8_type_X8_isIn : GoodIn wsX8_type (va_wsS RX8 67 yX8_isIn wsX8_isIn) := goodIn_app (goodIn_of _ (by decide +kernel)) ggX8_type_X8_isIn
theorem dX8_type_0 : decode cX8_type 0 = .ok (.aload_n 0, 1) := by decide +kernel
theorem dX8_type_1 : decode cX8_type 1 = .ok (.iload_n 1, 1) := by decide +kernel
theorem dX8_type_2 : decode cX8_type 2 = .ok (.bipush 32, 2) := by decide +kernel
theorem dX8_type_4 : decode cX8_type 4 = .ok (.bipush 126, 2) := by decide +kernel
theorem dX8_type_6 : decode cX8_type 6 = .ok (.invokestatic 67, 3) := by decide +kernel
theorem dX8_type_9 : decode cX8_type 9 = .ok (.ifCond .ne 7, 3) := by decide +kernel
theorem dX8_type_12 : decode cX8_type 12 = .ok (.iconst 1, 1) := by decide +kernel
theorem dX8_type_13 : decode cX8_type 13 = .ok (.goto 17, 3) := by decide +kernel
theorem dX8_type_16 : decode cX8_type 16 = .ok (.aload_n 0, 1) := by decide +kernel
theorem dX8_type_17 : decode cX8_type 17 = .ok (.getfield 208, 3) := by decide +kernel
theorem dX8_type_20 : decode cX8_type 20 = .ok (.bipush 60, 2) := by decide +kernel
theorem dX8_type_22 : decode cX8_type 22 = .ok (.if_icmp .ne 7, 3) := by decide +kernel
theorem dX8_type_25 : decode cX8_type 25 = .ok (.iconst 2, 1) := by decide +kernel
theorem dX8_type_26 : decode cX8_type 26 = .ok (.goto 4, 3) := by decide +kernel
theorem dX8_type_29 : decode cX8_type 29 = .ok (.iconst 0, 1) := by decide +kernel
theorem dX8_type_30 : decode cX8_type 30 = .ok (.putfield 57, 3) := by decide +kernel
theorem dX8_type_33 : decode cX8_type 33 = .ok (.aload_n 0, 1) := by decide +kernel
theorem dX8_type_34 : decode cX8_type 34 = .ok (.getfield 57, 3) := by decide +kernel
theorem dX8_type_37 : decode cX8_type 37 = .ok (.ifCond .eq 5, 3) := by decide +kernel
theorem dX8_type_40 : decode cX8_type 40 = .ok (.iconst 0, 1) := by decide +kernel
theorem dX8_type_41 : decode cX8_type 41 = .ok (.ireturn, 1) := by decide +kernel
theorem dX8_type_42 : decode cX8_type 42 = .ok (.aload_n 0, 1) := by decide +kernel
theorem dX8_type_43 : decode cX8_type 43 = .ok (.getfield 35, 3) := by decide +kernel
theorem dX8_type_46 : decode cX8_type 46 = .ok (.aload_n 0, 1) := by decide +kernel
theorem dX8_type_47 : decode cX8_type 47 = .ok (.getfield 208, 3) := by decide +kernel
theorem dX8_type_50 : decode cX8_type 50 = .ok (.iload_n 1, 1) := by decide +kernel
theorem dX8_type_51 : decode cX8_type 51 = .ok (.iastore, 1) := by decide +kernel
theorem dX8_type_52 : decode cX8_type 52 = .ok (.aload_n 0, 1) := by decide +kernel
theorem dX8_type_53 : decode cX8_type 53 = .ok (.dup, 1) := by decide +kernel
theorem dX8_type_54 : decode cX8_type 54 = .ok (.getfield 208, 3) := by decide +kernel
theorem dX8_type_57 : decode cX8_type 57 = .ok (.iconst 1, 1) := by decide +kernel
theorem dX8_type_58 : decode cX8_type 58 = .ok (.iadd, 1) := by decide +kernel
theorem dX8_type_59 : decode cX8_type 59 = .ok (.putfield 208, 3) := by decide +kernel
theorem dX8_type_62 : decode cX8_type 62 = .ok (.aload_n 0, 1) := by decide +kernel
theorem dX8_type_63 : decode cX8_type 63 = .ok (.getfield 208, 3) := by decide +kernel
theorem dX8_type_66 : decode cX8_type 66 = .ok (.ireturn, 1) := by decide +kernel
theorem dX8_sign_0 : decode cX8_sign 0 = .ok (.aload_n 0, 1) := by decide +kernel
theorem dX8_sign_1 : decode cX8_sign 1 = .ok (.getfield 211, 3) := by decide +kernel
theorem dX8_sign_4 : decode cX8_sign 4 = .ok (.aload_n 0, 1) := by decide +kernel
theorem dX8_sign_5 : decode cX8_sign 5 = .ok (.getfield 214, 3) := by decide +kernel
theorem dX8_sign_8 : decode cX8_sign 8 = .ok (.if_icmp .ge 15, 3) := by decide +kernel
theorem dX8_sign_11 : decode cX8_sign 11 = .ok (.aload_n 0, 1) := by decide +kernel
theorem dX8_sign_12 : decode cX8_sign 12 = .ok (.getfield 35, 3) := by decide +kernel
theorem dX8_sign_15 : decode cX8_sign 15 = .ok (.aload_n 0, 1) := by decide +kernel
theorem dX8_sign_16 : decode cX8_sign 16 = .ok (.getfield 211, 3) := by decide +kernel
theorem dX8_sign_19 : decode cX8_sign 19 = .ok (.iaload, 1) := by decide +kernel
theorem dX8_sign_20 : decode cX8_sign 20 = .ok (.goto 4, 3) := by decide +kernel
theorem dX8_sign_23 : decode cX8_sign 23 = .ok (.iconst (-1), 1) := by decide +kernel
theorem dX8_sign_24 : decode cX8_sign 24 = .ok (.ireturn, 1) := by decide +kernel
set_option maxRecDepth 20000 in
theorem ggX8_mark_X8_sign : GoodIn wsX8_mark wsX8_sign := goodIn_ca (goodIn_r _ [7, 2, 8, 9, 10, 11, 12, 13, 14, 15, 16, 17, 18, 19, 20, 21, 22, 23, 24, 25, 26, 27, 28, 29, 30, 31] (by decide +kernel) (by decide +kernel)) (goodIn_sub (fun _ h => List.mem_cons_of_mem _ (List.mem_append_right _ h)) (by decide +kernel))
set_option maxRecDepth 20000 in
theorem gX8_mark_X8_sign : GoodIn wsX8_mark (wsV RX8 221 RX8 yX8_sign wsX8_sign) := goodIn_app (goodIn_of _ (by decide +kernel)) ggX8_mark_X8_sign
theorem dX8_mark_0 : decode cX8_mark 0 = .ok (.aload_n 0, 1) := by decide +kernel
theorem dX8_mark_1 : decode cX8_mark 1 = .ok (.getfield 217, 3) := by decide +kernel
theorem dX8_mark_4 : decode cX8_mark 4 = .ok (.ifCond .eq 4, 3) := by decide +kernel
theorem dX8_mark_7 : decode cX8_mark 7 = .ok (.return_, 1) := by decide +kernel
theorem dX8_mark_8 : decode cX8_mark 8 = .ok (.aload_n 0, 1) := by decide +kernel
theorem dX8_mark_9 : decode cX8_mark 9 = .ok (.aload_n 0, 1) := by decide +kernel
theorem dX8_mark_10 : decode cX8_mark 10 = .ok (.invokevirtual 221, 3) := by decide +kernel
theorem dX8_mark_13 : decode cX8_mark 13 = .ok (.iload_n 1, 1) := by decide +kernel
theorem dX8_mark_14 : decode cX8_mark 14 = .ok (.if_icmp .eq 7, 3) := by decide +kernel
theorem dX8_mark_17 : decode cX8_mark 17 = .ok (.iconst 1, 1) := by decide +kernel
theorem dX8_mark_18 : decode cX8_mark 18 = .ok (.goto 4, 3) := by decide +kernel
theorem dX8_mark_21 : decode cX8_mark 21 = .ok (.iconst 0, 1) := by decide +kernel
theorem dX8_mark_22 : decode cX8_mark 22 = .ok (.putfield 217, 3) := by decide +kernel
theorem dX8_mark_25 : decode cX8_mark 25 = .ok (.aload_n 0, 1) := by decide +kernel
theorem dX8_mark_26 : decode cX8_mark 26 = .ok (.dup, 1) := by decide +kernel
theorem dX8_mark_27 : decode cX8_mark 27 = .ok (.getfield 211, 3) := by decide +kernel
theorem dX8_mark_30 : decode cX8_mark 30 = .ok (.aload_n 0, 1) := by decide +kernel
theorem dX8_mark_31 : decode cX8_mark 31 = .ok (.getfield 217, 3) := by decide +kernel
theorem dX8_mark_34 : decode cX8_mark 34 = .ok (.ifCond .eq 7, 3) := by decide +kernel
theorem dX8_mark_37 : decode cX8_mark 37 = .ok (.iconst 0, 1) := by decide +kernel
theorem dX8_mark_38 : decode cX8_mark 38 = .ok (.goto 4, 3) := by decide +kernel
theorem dX8_mark_41 : decode cX8_mark 41 = .ok (.iconst 1, 1) := by decide +kernel
theorem dX8_mark_42 : decode cX8_mark 42 = .ok (.iadd, 1) := by decide +kernel
theorem dX8_mark_43 : decode cX8_mark 43 = .ok (.putfield 211, 3) := by decide +kernel
theorem dX8_mark_46 : decode cX8_mark 46 = .ok (.return_, 1) := by decide +kernel
set_option maxRecDepth 20000 in
theorem ggX8_digits_X8_sign : GoodIn wsX8_digits wsX8_sign := goodIn_ca (goodIn_r _ [7, 2, 8, 9, 13, 14, 15, 16, 17, 18, 19, 20, 21, 22, 23, 24, 25, 26, 27, 28, 29, 30, 31, 32, 33, 34] (by decide +kernel) (by decide +kernel)) (goodIn_sub (fun _ h => List.mem_cons_of_mem _ (List.mem_append_right _ h)) (by decide +kernel))
set_option maxRecDepth 20000 in
theorem gX8_digits_X8_sign : GoodIn wsX8_digits (wsV RX8 221 RX8 yX8_sign wsX8_sign) := goodIn_app (goodIn_of _ (by decide +kernel)) ggX8_digits_X8_sign
set_option maxRecDepth 20000 in
theorem ggX8_digits_X8_isIn : GoodIn wsX8_digits wsX8_isIn := goodIn_r _ [12] (by decide +kernel) (by decide +kernel)
set_option maxRecDepth 20000 in
theorem gX8_digits_X8_isIn : GoodIn wsX8_digits (va_wsS RX8 67 yX8_isIn wsX8_isIn) := goodIn_app (goodIn_of _ (by decide +kernel)) ggX8_digits_X8_isIn
theorem dX8_digits_0 : decode cX8_digits 0 = .ok (.iconst 0, 1) := by decide +kernel
theorem dX8_digits_1 : decode cX8_digits 1 = .ok (.istore_n 2, 1) := by decide +kernel
theorem dX8_digits_2 : decode cX8_digits 2 = .ok (.iconst 0, 1) := by decide +kernel
theorem dX8_digits_3 : decode cX8_digits 3 = .ok (.istore_n 3, 1) := by decide +kernel
theorem dX8_digits_4 : decode cX8_digits 4 = .ok (.aload_n 0, 1) := by decide +kernel
theorem dX8_digits_5 : decode cX8_digits 5 = .ok (.getfield 217, 3) := by decide +kernel
theorem dX8_digits_8 : decode cX8_digits 8 = .ok (.ifCond .ne 51, 3) := by decide +kernel
theorem dX8_digits_11 : decode cX8_digits 11 = .ok (.iload_n 3, 1) := by decide +kernel
theorem dX8_digits_12 : decode cX8_digits 12 = .ok (.iload_n 1, 1) := by decide +kernel
theorem dX8_digits_13 : decode cX8_digits 13 = .ok (.if_icmp .ge 46, 3) := by decide +kernel
theorem dX8_digits_16 : decode cX8_digits 16 = .ok (.aload_n 0, 1) := by decide +kernel
theorem dX8_digits_17 : decode cX8_digits 17 = .ok (.invokevirtual 221, 3) := by decide +kernel
theorem dX8_digits_20 : decode cX8_digits 20 = .ok (.bipush 48, 2) := by decide +kernel
theorem dX8_digits_22 : decode cX8_digits 22 = .ok (.bipush 57, 2) := by decide +kernel
theorem dX8_digits_24 : decode cX8_digits 24 = .ok (.invokestatic 67, 3) := by decide +kernel
theorem dX8_digits_27 : decode cX8_digits 27 = .ok (.ifCond .eq 32, 3) := by decide +kernel
theorem dX8_digits_30 : decode cX8_digits 30 = .ok (.bipush 10, 2) := by decide +kernel
theorem dX8_digits_32 : decode cX8_digits 32 = .ok (.iload_n 2, 1) := by decide +kernel
theorem dX8_digits_33 : decode cX8_digits 33 = .ok (.imul, 1) := by decide +kernel
theorem dX8_digits_34 : decode cX8_digits 34 = .ok (.aload_n 0, 1) := by decide +kernel
theorem dX8_digits_35 : decode cX8_digits 35 = .ok (.invokevirtual 221, 3) := by decide +kernel
theorem dX8_digits_38 : decode cX8_digits 38 = .ok (.iadd, 1) := by decide +kernel
theorem dX8_digits_39 : decode cX8_digits 39 = .ok (.bipush 48, 2) := by decide +kernel
theorem dX8_digits_41 : decode cX8_digits 41 = .ok (.isub, 1) := by decide +kernel
theorem dX8_digits_42 : decode cX8_digits 42 = .ok (.istore_n 2, 1) := by decide +kernel
theorem dX8_digits_43 : decode cX8_digits 43 = .ok (.aload_n 0, 1) := by decide +kernel
theorem dX8_digits_44 : decode cX8_digits 44 = .ok (.dup, 1) := by decide +kernel
theorem dX8_digits_45 : decode cX8_digits 45 = .ok (.getfield 211, 3) := by decide +kernel
theorem dX8_digits_48 : decode cX8_digits 48 = .ok (.iconst 1, 1) := by decide +kernel
theorem dX8_digits_49 : decode cX8_digits 49 = .ok (.iadd, 1) := by decide +kernel
theorem dX8_digits_50 : decode cX8_digits 50 = .ok (.putfield 211, 3) := by decide +kernel
theorem dX8_digits_53 : decode cX8_digits 53 = .ok (.iinc 3 1, 3) := by decide +kernel
theorem dX8_digits_56 : decode cX8_digits 56 = .ok (.goto (-52), 3) := by decide +kernel
theorem dX8_digits_59 : decode cX8_digits 59 = .ok (.aload_n 0, 1) := by decide +kernel
theorem dX8_digits_60 : decode cX8_digits 60 = .ok (.dup, 1) := by decide +kernel
theorem dX8_digits_61 : decode cX8_digits 61 = .ok (.getfield 217, 3) := by decide +kernel
theorem dX8_digits_64 : decode cX8_digits 64 = .ok (.iload_n 3, 1) := by decide +kernel
theorem dX8_digits_65 : decode cX8_digits 65 = .ok (.ifCond .ne 7, 3) := by decide +kernel
theorem dX8_digits_68 : decode cX8_digits 68 = .ok (.iconst 1, 1) := by decide +kernel
theorem dX8_digits_69 : decode cX8_digits 69 = .ok (.goto 4, 3) := by decide +kernel
theorem dX8_digits_72 : decode cX8_digits 72 = .ok (.iconst 0, 1) := by decide +kernel
theorem dX8_digits_73 : decode cX8_digits 73 = .ok (.ior, 1) := by decide +kernel
theorem dX8_digits_74 : decode cX8_digits 74 = .ok (.putfield 217, 3) := by decide +kernel
theorem dX8_digits_77 : decode cX8_digits 77 = .ok (.iload_n 2, 1) := by decide +kernel
theorem dX8_digits_78 : decode cX8_digits 78 = .ok (.ireturn, 1) := by decide +kernel
set_option maxRecDepth 20000 in
theorem ggX8_behind_X8_mark : GoodIn wsX8_behind wsX8_mark := goodIn_ca (goodIn_r _ [6, 1, 7, 8, 9, 10, 5, 11, 12, 13, 21, 22, 23, 24, 25, 26, 27, 28, 29, 30, 31, 32, 33, 34, 35, 36, 37, 38, 39, 40, 41, 42] (by decide +kernel) (by decide +kernel)) (goodIn_sub (fun _ h => List.mem_cons_of_mem _ (List.mem_append_right _ h)) (by decide +kernel))
set_option maxRecDepth 20000 in
theorem gX8_behind_X8_mark : GoodIn wsX8_behind (wsV RX8 224 RX8 yX8_mark wsX8_mark) := goodIn_app (goodIn_of _ (by decide +kernel)) ggX8_behind_X8_mark
set_option maxRecDepth 20000 in
theorem ggX8_behind_X8_digits : GoodIn wsX8_behind wsX8_digits := goodIn_ca (goodIn_r _ [17, 1, 7, 8, 9, 10, 5, 11, 12, 13, 18, 19, 20, 21, 22, 23, 24, 25, 26, 27, 28, 29, 30, 31, 32, 33, 34, 35, 36, 37, 38, 39, 40, 41, 42] (by decide +kernel) (by decide +kernel)) (goodIn_sub (fun _ h => List.mem_cons_of_mem _ (List.mem_append_right _ h)) (by decide +kernel))
set_option maxRecDepth 20000 in
theorem gX8_behind_X8_digits : GoodIn wsX8_behind (wsV RX8 227 RX8 yX8_digits wsX8_digits) := goodIn_app (goodIn_of _ (by decide +kernel)) ggX8_behind_X8_digits
theorem dX8_behind_0 : decode cX8_behind 0 = .ok (.aload_n 0, 1) := by decide +kernel
theorem dX8_behind_1 : decode cX8_behind 1 = .ok (.bipush 32, 2) := by decide +kernel
theorem dX8_behind_3 : decode cX8_behind 3 = .ok (.invokevirtual 224, 3) := by decide +kernel
theorem dX8_behind_6 : decode cX8_behind 6 = .ok (.aload_n 0, 1) := by decide +kernel
theorem dX8_behind_7 : decode cX8_behind 7 = .ok (.getfield 217, 3) := by decide +kernel
theorem dX8_behind_10 : decode cX8_behind 10 = .ok (.ifCond .eq 7, 3) := by decide +kernel
theorem dX8_behind_13 : decode cX8_behind 13 = .ok (.iconst 0, 1) := by decide +kernel
theorem dX8_behind_14 : decode cX8_behind 14 = .ok (.goto 8, 3) := by decide +kernel
theorem dX8_behind_17 : decode cX8_behind 17 = .ok (.aload_n 0, 1) := by decide +kernel
theorem dX8_behind_18 : decode cX8_behind 18 = .ok (.iload_n 1, 1) := by decide +kernel
theorem dX8_behind_19 : decode cX8_behind 19 = .ok (.invokevirtual 227, 3) := by decide +kernel
theorem dX8_behind_22 : decode cX8_behind 22 = .ok (.ireturn, 1) := by decide +kernel
set_option maxRecDepth 20000 in
theorem ggX8_material_X8_mark : GoodIn wsX8_material wsX8_mark := goodIn_ca (goodIn_r _ [7, 1, 2, 8, 9, 10, 6, 11, 12, 13, 17, 18, 19, 20, 21, 22, 23, 24, 25, 26, 27, 28, 29, 30, 31, 32, 33, 34, 35, 36, 37, 38] (by decide +kernel) (by decide +kernel)) (goodIn_sub (fun _ h => List.mem_cons_of_mem _ (List.mem_append_right _ h)) (by decide +kernel))
set_option maxRecDepth 20000 in
theorem gX8_material_X8_mark : GoodIn wsX8_material (wsV RX8 224 RX8 yX8_mark wsX8_mark) := goodIn_app (goodIn_of _ (by decide +kernel)) ggX8_material_X8_mark
set_option maxRecDepth 20000 in
theorem ggX8_material_X8_sign : GoodIn wsX8_material wsX8_sign := goodIn_ca (goodIn_r _ [11, 2, 12, 13, 17, 18, 19, 20, 21, 22, 23, 24, 25, 26, 27, 28, 29, 30, 31, 32, 33, 34, 35, 36, 37, 38] (by decide +kernel) (by decide +kernel)) (goodIn_sub (fun _ h => List.mem_cons_of_mem _ (List.mem_append_right _ h)) (by decide +kernel))
set_option maxRecDepth 20000 in
theorem gX8_material_X8_sign : GoodIn wsX8_material (wsV RX8 221 RX8 yX8_sign wsX8_sign) := goodIn_app (goodIn_of _ (by decide +kernel)) ggX8_material_X8_sign
set_option maxRecDepth 20000 in
theorem ggX8_material_X8_kind : GoodIn wsX8_material wsX8_kind := goodIn_r _ [16] (by decide +kernel) (by decide +kernel)
set_option maxRecDepth 20000 in
theorem gX8_material_X8_kind : GoodIn wsX8_material (va_wsS RX8 99 yX8_kind wsX8_kind) := goodIn_app (goodIn_of _ (by decide +kernel)) ggX8_material_X8_kind
theorem dX8_material_0 : decode cX8_material 0 = .ok (.aload_n 0, 1) := by decide +kernel
theorem dX8_material_1 : decode cX8_material 1 = .ok (.bipush 32, 2) := by decide +kernel
theorem dX8_material_3 : decode cX8_material 3 = .ok (.invokevirtual 224, 3) := by decide +kernel
theorem dX8_material_6 : decode cX8_material 6 = .ok (.aload_n 0, 1) := by decide +kernel
theorem dX8_material_7 : decode cX8_material 7 = .ok (.getfield 217, 3) := by decide +kernel
theorem dX8_material_10 : decode cX8_material 10 = .ok (.ifCond .eq 5, 3) := by decide +kernel
theorem dX8_material_13 : decode cX8_material 13 = .ok (.iconst 0, 1) := by decide +kernel
theorem dX8_material_14 : decode cX8_material 14 = .ok (.ireturn, 1) := by decide +kernel
theorem dX8_material_15 : decode cX8_material 15 = .ok (.aload_n 0, 1) := by decide +kernel
theorem dX8_material_16 : decode cX8_material 16 = .ok (.invokevirtual 221, 3) := by decide +kernel
theorem dX8_material_19 : decode cX8_material 19 = .ok (.invokestatic 99, 3) := by decide +kernel
theorem dX8_material_22 : decode cX8_material 22 = .ok (.istore_n 1, 1) := by decide +kernel
theorem dX8_material_23 : decode cX8_material 23 = .ok (.aload_n 0, 1) := by decide +kernel
theorem dX8_material_24 : decode cX8_material 24 = .ok (.iload_n 1, 1) := by decide +kernel
theorem dX8_material_25 : decode cX8_material 25 = .ok (.ifCond .ge 7, 3) := by decide +kernel
theorem dX8_material_28 : decode cX8_material 28 = .ok (.iconst 1, 1) := by decide +kernel
theorem dX8_material_29 : decode cX8_material 29 = .ok (.goto 4, 3) := by decide +kernel
theorem dX8_material_32 : decode cX8_material 32 = .ok (.iconst 0, 1) := by decide +kernel
theorem dX8_material_33 : decode cX8_material 33 = .ok (.putfield 217, 3) := by decide +kernel
theorem dX8_material_36 : decode cX8_material 36 = .ok (.aload_n 0, 1) := by decide +kernel
theorem dX8_material_37 : decode cX8_material 37 = .ok (.dup, 1) := by decide +kernel
theorem dX8_material_38 : decode cX8_material 38 = .ok (.getfield 211, 3) := by decide +kernel
theorem dX8_material_41 : decode cX8_material 41 = .ok (.aload_n 0, 1) := by decide +kernel
theorem dX8_material_42 : decode cX8_material 42 = .ok (.getfield 217, 3) := by decide +kernel
theorem dX8_material_45 : decode cX8_material 45 = .ok (.ifCond .eq 7, 3) := by decide +kernel
theorem dX8_material_48 : decode cX8_material 48 = .ok (.iconst 0, 1) := by decide +kernel
theorem dX8_material_49 : decode cX8_material 49 = .ok (.goto 4, 3) := by decide +kernel
theorem dX8_material_52 : decode cX8_material 52 = .ok (.iconst 1, 1) := by decide +kernel
theorem dX8_material_53 : decode cX8_material 53 = .ok (.iadd, 1) := by decide +kernel
theorem dX8_material_54 : decode cX8_material 54 = .ok (.putfield 211, 3) := by decide +kernel
theorem dX8_material_57 : decode cX8_material 57 = .ok (.iload_n 1, 1) := by decide +kernel
theorem dX8_material_58 : decode cX8_material 58 = .ok (.ireturn, 1) := by decide +kernel
set_option maxRecDepth 20000 in
theorem ggX8_word_X8_sign : GoodIn wsX8_word wsX8_sign := goodIn_ca (goodIn_r _ [10, 5, 11, 12, 13, 14, 15, 16, 17, 18, 19, 20, 21, 22, 23, 24, 25, 26, 27, 28, 29, 30, 31, 32, 33, 34] (by decide +kernel) (by decide +kernel)) (goodIn_sub (fun _ h => List.mem_cons_of_mem _ (List.mem_append_right _ h)) (by decide +kernel))
set_option maxRecDepth 20000 in
theorem gX8_word_X8_sign : GoodIn wsX8_word (wsV RX8 221 RX8 yX8_sign wsX8_sign) := goodIn_app (goodIn_of _ (by decide +kernel)) ggX8_word_X8_sign
theorem dX8_word_0 : decode cX8_word 0 = .ok (.iconst 0, 1) := by decide +kernel
theorem dX8_word_1 : decode cX8_word 1 = .ok (.istore_n 1, 1) := by decide +kernel
theorem dX8_word_2 : decode cX8_word 2 = .ok (.iload_n 1, 1) := by decide +kernel
theorem dX8_word_3 : decode cX8_word 3 = .ok (.bipush 10, 2) := by decide +kernel
theorem dX8_word_5 : decode cX8_word 5 = .ok (.if_icmp .ge 16, 3) := by decide +kernel
theorem dX8_word_8 : decode cX8_word 8 = .ok (.aload_n 0, 1) := by decide +kernel
theorem dX8_word_9 : decode cX8_word 9 = .ok (.getfield 41, 3) := by decide +kernel
theorem dX8_word_12 : decode cX8_word 12 = .ok (.iload_n 1, 1) := by decide +kernel
theorem dX8_word_13 : decode cX8_word 13 = .ok (.iconst 1, 1) := by decide +kernel
theorem dX8_word_14 : decode cX8_word 14 = .ok (.iastore, 1) := by decide +kernel
theorem dX8_word_15 : decode cX8_word 15 = .ok (.iinc 1 1, 3) := by decide +kernel
theorem dX8_word_18 : decode cX8_word 18 = .ok (.goto (-16), 3) := by decide +kernel
theorem dX8_word_21 : decode cX8_word 21 = .ok (.iconst 0, 1) := by decide +kernel
theorem dX8_word_22 : decode cX8_word 22 = .ok (.istore_n 1, 1) := by decide +kernel
theorem dX8_word_23 : decode cX8_word 23 = .ok (.iconst (-1), 1) := by decide +kernel
theorem dX8_word_24 : decode cX8_word 24 = .ok (.istore_n 2, 1) := by decide +kernel
theorem dX8_word_25 : decode cX8_word 25 = .ok (.iload_n 2, 1) := by decide +kernel
theorem dX8_word_26 : decode cX8_word 26 = .ok (.ifCond .ge 196, 3) := by decide +kernel
theorem dX8_word_29 : decode cX8_word 29 = .ok (.aload_n 0, 1) := by decide +kernel
theorem dX8_word_30 : decode cX8_word 30 = .ok (.getfield 217, 3) := by decide +kernel
theorem dX8_word_33 : decode cX8_word 33 = .ok (.ifCond .ne 189, 3) := by decide +kernel
theorem dX8_word_36 : decode cX8_word 36 = .ok (.iconst 0, 1) := by decide +kernel
theorem dX8_word_37 : decode cX8_word 37 = .ok (.istore_n 3, 1) := by decide +kernel
theorem dX8_word_38 : decode cX8_word 38 = .ok (.iconst 0, 1) := by decide +kernel
theorem dX8_word_39 : decode cX8_word 39 = .ok (.istore 4, 2) := by decide +kernel
theorem dX8_word_41 : decode cX8_word 41 = .ok (.iload 4, 2) := by decide +kernel
theorem dX8_word_43 : decode cX8_word 43 = .ok (.bipush 10, 2) := by decide +kernel
theorem dX8_word_45 : decode cX8_word 45 = .ok (.if_icmp .ge 85, 3) := by decide +kernel
theorem dX8_word_48 : decode cX8_word 48 = .ok (.aload_n 0, 1) := by decide +kernel
theorem dX8_word_49 : decode cX8_word 49 = .ok (.getfield 41, 3) := by decide +kernel
theorem dX8_word_52 : decode cX8_word 52 = .ok (.iload 4, 2) := by decide +kernel
theorem dX8_word_54 : decode cX8_word 54 = .ok (.dup2, 1) := by decide +kernel
theorem dX8_word_55 : decode cX8_word 55 = .ok (.iaload, 1) := by decide +kernel
theorem dX8_word_56 : decode cX8_word 56 = .ok (.aload_n 0, 1) := by decide +kernel
theorem dX8_word_57 : decode cX8_word 57 = .ok (.getfield 47, 3) := by decide +kernel
theorem dX8_word_60 : decode cX8_word 60 = .ok (.iload 4, 2) := by decide +kernel
theorem dX8_word_62 : decode cX8_word 62 = .ok (.iaload, 1) := by decide +kernel
theorem dX8_word_63 : decode cX8_word 63 = .ok (.iload_n 1, 1) := by decide +kernel
theorem dX8_word_64 : decode cX8_word 64 = .ok (.iadd, 1) := by decide +kernel
theorem dX8_word_65 : decode cX8_word 65 = .ok (.aload_n 0, 1) := by decide +kernel
theorem dX8_word_66 : decode cX8_word 66 = .ok (.getfield 47, 3) := by decide +kernel
theorem dX8_word_69 : decode cX8_word 69 = .ok (.iload 4, 2) := by decide +kernel
theorem dX8_word_71 : decode cX8_word 71 = .ok (.iconst 1, 1) := by decide +kernel
theorem dX8_word_72 : decode cX8_word 72 = .ok (.iadd, 1) := by decide +kernel
theorem dX8_word_73 : decode cX8_word 73 = .ok (.iaload, 1) := by decide +kernel
theorem dX8_word_74 : decode cX8_word 74 = .ok (.if_icmp .ge 28, 3) := by decide +kernel
theorem dX8_word_77 : decode cX8_word 77 = .ok (.aload_n 0, 1) := by decide +kernel
theorem dX8_word_78 : decode cX8_word 78 = .ok (.getfield 44, 3) := by decide +kernel
theorem dX8_word_81 : decode cX8_word 81 = .ok (.aload_n 0, 1) := by decide +kernel
theorem dX8_word_82 : decode cX8_word 82 = .ok (.getfield 47, 3) := by decide +kernel
theorem dX8_word_85 : decode cX8_word 85 = .ok (.iload 4, 2) := by decide +kernel
theorem dX8_word_87 : decode cX8_word 87 = .ok (.iaload, 1) := by decide +kernel
theorem dX8_word_88 : decode cX8_word 88 = .ok (.iload_n 1, 1) := by decide +kernel
theorem dX8_word_89 : decode cX8_word 89 = .ok (.iadd, 1) := by decide +kernel
theorem dX8_word_90 : decode cX8_word 90 = .ok (.iaload, 1) := by decide +kernel
theorem dX8_word_91 : decode cX8_word 91 = .ok (.aload_n 0, 1) := by decide +kernel
theorem dX8_word_92 : decode cX8_word 92 = .ok (.invokevirtual 221, 3) := by decide +kernel
theorem dX8_word_95 : decode cX8_word 95 = .ok (.if_icmp .ne 7, 3) := by decide +kernel
theorem dX8_word_98 : decode cX8_word 98 = .ok (.iconst 1, 1) := by decide +kernel
theorem dX8_word_99 : decode cX8_word 99 = .ok (.goto 4, 3) := by decide +kernel
theorem dX8_word_102 : decode cX8_word 102 = .ok (.iconst 0, 1) := by decide +kernel
theorem dX8_word_103 : decode cX8_word 103 = .ok (.iand, 1) := by decide +kernel
theorem dX8_word_104 : decode cX8_word 104 = .ok (.iastore, 1) := by decide +kernel
theorem dX8_word_105 : decode cX8_word 105 = .ok (.iload_n 3, 1) := by decide +kernel
theorem dX8_word_106 : decode cX8_word 106 = .ok (.aload_n 0, 1) := by decide +kernel
theorem dX8_word_107 : decode cX8_word 107 = .ok (.getfield 41, 3) := by decide +kernel
theorem dX8_word_110 : decode cX8_word 110 = .ok (.iload 4, 2) := by decide +kernel
theorem dX8_word_112 : decode cX8_word 112 = .ok (.iaload, 1) := by decide +kernel
theorem dX8_word_113 : decode cX8_word 113 = .ok (.iconst 1, 1) := by decide +kernel
theorem dX8_word_114 : decode cX8_word 114 = .ok (.if_icmp .ne 7, 3) := by decide +kernel
theorem dX8_word_117 : decode cX8_word 117 = .ok (.iconst 1, 1) := by decide +kernel
theorem dX8_word_118 : decode cX8_word 118 = .ok (.goto 4, 3) := by decide +kernel
theorem dX8_word_121 : decode cX8_word 121 = .ok (.iconst 0, 1) := by decide +kernel
theorem dX8_word_122 : decode cX8_word 122 = .ok (.ior, 1) := by decide +kernel
theorem dX8_word_123 : decode cX8_word 123 = .ok (.istore_n 3, 1) := by decide +kernel
theorem dX8_word_124 : decode cX8_word 124 = .ok (.iinc 4 1, 3) := by decide +kernel
theorem dX8_word_127 : decode cX8_word 127 = .ok (.goto (-86), 3) := by decide +kernel
theorem dX8_word_130 : decode cX8_word 130 = .ok (.aload_n 0, 1) := by decide +kernel
theorem dX8_word_131 : decode cX8_word 131 = .ok (.iload_n 3, 1) := by decide +kernel
theorem dX8_word_132 : decode cX8_word 132 = .ok (.ifCond .ne 7, 3) := by decide +kernel
theorem dX8_word_135 : decode cX8_word 135 = .ok (.iconst 1, 1) := by decide +kernel
theorem dX8_word_136 : decode cX8_word 136 = .ok (.goto 4, 3) := by decide +kernel
theorem dX8_word_139 : decode cX8_word 139 = .ok (.iconst 0, 1) := by decide +kernel
theorem dX8_word_140 : decode cX8_word 140 = .ok (.putfield 217, 3) := by decide +kernel
theorem dX8_word_143 : decode cX8_word 143 = .ok (.aload_n 0, 1) := by decide +kernel
theorem dX8_word_144 : decode cX8_word 144 = .ok (.dup, 1) := by decide +kernel
theorem dX8_word_145 : decode cX8_word 145 = .ok (.getfield 211, 3) := by decide +kernel
theorem dX8_word_148 : decode cX8_word 148 = .ok (.iload_n 3, 1) := by decide +kernel
theorem dX8_word_149 : decode cX8_word 149 = .ok (.ifCond .eq 7, 3) := by decide +kernel
theorem dX8_word_152 : decode cX8_word 152 = .ok (.iconst 1, 1) := by decide +kernel
theorem dX8_word_153 : decode cX8_word 153 = .ok (.goto 4, 3) := by decide +kernel
theorem dX8_word_156 : decode cX8_word 156 = .ok (.iconst 0, 1) := by decide +kernel
theorem dX8_word_157 : decode cX8_word 157 = .ok (.iadd, 1) := by decide +kernel
theorem dX8_word_158 : decode cX8_word 158 = .ok (.putfield 211, 3) := by decide +kernel
theorem dX8_word_161 : decode cX8_word 161 = .ok (.iinc 1 1, 3) := by decide +kernel
theorem dX8_word_164 : decode cX8_word 164 = .ok (.iconst 0, 1) := by decide +kernel
theorem dX8_word_165 : decode cX8_word 165 = .ok (.istore 4, 2) := by decide +kernel
theorem dX8_word_167 : decode cX8_word 167 = .ok (.iload 4, 2) := by decide +kernel
theorem dX8_word_169 : decode cX8_word 169 = .ok (.bipush 10, 2) := by decide +kernel
theorem dX8_word_171 : decode cX8_word 171 = .ok (.if_icmp .ge 48, 3) := by decide +kernel
theorem dX8_word_174 : decode cX8_word 174 = .ok (.aload_n 0, 1) := by decide +kernel
theorem dX8_word_175 : decode cX8_word 175 = .ok (.getfield 41, 3) := by decide +kernel
theorem dX8_word_178 : decode cX8_word 178 = .ok (.iload 4, 2) := by decide +kernel
theorem dX8_word_180 : decode cX8_word 180 = .ok (.iaload, 1) := by decide +kernel
theorem dX8_word_181 : decode cX8_word 181 = .ok (.iconst 1, 1) := by decide +kernel
theorem dX8_word_182 : decode cX8_word 182 = .ok (.if_icmp .ne 29, 3) := by decide +kernel
theorem dX8_word_185 : decode cX8_word 185 = .ok (.aload_n 0, 1) := by decide +kernel
theorem dX8_word_186 : decode cX8_word 186 = .ok (.getfield 47, 3) := by decide +kernel
theorem dX8_word_189 : decode cX8_word 189 = .ok (.iload 4, 2) := by decide +kernel
theorem dX8_word_191 : decode cX8_word 191 = .ok (.iaload, 1) := by decide +kernel
theorem dX8_word_192 : decode cX8_word 192 = .ok (.iload_n 1, 1) := by decide +kernel
theorem dX8_word_193 : decode cX8_word 193 = .ok (.iadd, 1) := by decide +kernel
theorem dX8_word_194 : decode cX8_word 194 = .ok (.aload_n 0, 1) := by decide +kernel
theorem dX8_word_195 : decode cX8_word 195 = .ok (.getfield 47, 3) := by decide +kernel
theorem dX8_word_198 : decode cX8_word 198 = .ok (.iload 4, 2) := by decide +kernel
theorem dX8_word_200 : decode cX8_word 200 = .ok (.iconst 1, 1) := by decide +kernel
theorem dX8_word_201 : decode cX8_word 201 = .ok (.iadd, 1) := by decide +kernel
theorem dX8_word_202 : decode cX8_word 202 = .ok (.iaload, 1) := by decide +kernel
theorem dX8_word_203 : decode cX8_word 203 = .ok (.if_icmp .ne 8, 3) := by decide +kernel
theorem dX8_word_206 : decode cX8_word 206 = .ok (.iload 4, 2) := by decide +kernel
theorem dX8_word_208 : decode cX8_word 208 = .ok (.goto 4, 3) := by decide +kernel
theorem dX8_word_211 : decode cX8_word 211 = .ok (.iload_n 2, 1) := by decide +kernel
theorem dX8_word_212 : decode cX8_word 212 = .ok (.istore_n 2, 1) := by decide +kernel
theorem dX8_word_213 : decode cX8_word 213 = .ok (.iinc 4 1, 3) := by decide +kernel
theorem dX8_word_216 : decode cX8_word 216 = .ok (.goto (-49), 3) := by decide +kernel
theorem dX8_word_219 : decode cX8_word 219 = .ok (.goto (-194), 3) := by decide +kernel
theorem dX8_word_222 : decode cX8_word 222 = .ok (.iload_n 2, 1) := by decide +kernel
theorem dX8_word_223 : decode cX8_word 223 = .ok (.ireturn, 1) := by decide +kernel
set_option maxRecDepth 20000 in
theorem ggX8_does_X8_charges : GoodIn wsX8_does wsX8_charges := goodIn_ca (goodIn_ca (goodIn_r _ [5, 6, 7, 8, 9, 4, 10, 11, 12, 13, 14, 15, 16, 17, 18, 19, 20, 21, 22, 23, 24, 25, 26, 27, 28, 29, 30, 31, 32, 33, 34, 35, 36, 37, 115, 116, 117, 118, 119, 120, 121, 122, 123, 124, 125, 126, 127, 128, 129, 130, 131, 132, 133, 134, 135, 136] (by decide +kernel) (by decide +kernel)) (goodIn_sub (fun _ h => List.mem_cons_of_mem _ (List.mem_append_left _ (List.mem_append_right _ h))) (by decide +kernel))) (goodIn_sub (fun _ h => List.mem_cons_of_mem _ (List.mem_append_right _ h)) (by decide +kernel))
set_option maxRecDepth 20000 in
theorem gX8_does_X8_charges : GoodIn wsX8_does (wsV RX8 102 RX8 yX8_charges wsX8_charges) := goodIn_app (goodIn_of _ (by decide +kernel)) ggX8_does_X8_charges
set_option maxRecDepth 20000 in
theorem ggX8_does_X8_fires : GoodIn wsX8_does wsX8_fires := goodIn_ca (goodIn_r _ [41, 7, 8, 9, 4, 10, 11, 12, 13, 14, 15, 16, 17, 18, 19, 20, 21, 115, 116, 117, 118, 119, 120, 121, 122, 123, 124, 125, 126, 127, 128, 129, 130, 131, 132, 133, 134, 135, 136] (by decide +kernel) (by decide +kernel)) (goodIn_sub (fun _ h => List.mem_cons_of_mem _ (List.mem_append_left _ (List.mem_append_right _ h))) (by decide +kernel))
set_option maxRecDepth 20000 in
theorem gX8_does_X8_fires : GoodIn wsX8_does (wsV RX8 109 RX8 yX8_fires wsX8_fires) := goodIn_app (goodIn_of _ (by decide +kernel)) ggX8_does_X8_fires
set_option maxRecDepth 20000 in
theorem ggX8_does_X8_skims : GoodIn wsX8_does wsX8_skims := goodIn_ca (goodIn_ca (goodIn_r _ [45, 7, 8, 9, 4, 10, 11, 12, 13, 14, 15, 16, 17, 18, 19, 20, 21, 46, 47, 48, 49, 22, 23, 24, 25, 50, 51, 52, 53, 54, 115, 116, 117, 118, 119, 120, 121, 122, 123, 124, 125, 126, 127, 128, 129, 130, 131, 132, 133, 134, 135, 136] (by decide +kernel) (by decide +kernel)) (goodIn_sub (fun _ h => List.mem_cons_of_mem _ (List.mem_append_left _ (List.mem_append_right _ h))) (by decide +kernel))) (goodIn_sub (fun _ h => List.mem_cons_of_mem _ (List.mem_append_right _ h)) (by decide +kernel))
set_option maxRecDepth 20000 in
theorem gX8_does_X8_skims : GoodIn wsX8_does (wsV RX8 115 RX8 yX8_skims wsX8_skims) := goodIn_app (goodIn_of _ (by decide +kernel)) ggX8_does_X8_skims
set_option maxRecDepth 20000 in
theorem ggX8_does_X8_taps : GoodIn wsX8_does wsX8_taps := goodIn_ca (goodIn_ca (goodIn_r _ [58, 7, 8, 9, 4, 10, 11, 12, 13, 14, 15, 16, 17, 18, 19, 20, 21, 22, 23, 24, 25, 46, 47, 48, 49, 50, 51, 52, 53, 54, 59, 60, 61, 62, 63, 64, 65, 6, 66, 67, 68, 69, 30, 31, 32, 33, 34, 35, 36, 37, 115, 116, 117, 118, 119, 120, 121, 122, 123, 124, 125, 126, 127, 128, 129, 130, 131, 132, 133, 134, 135, 136] (by decide +kernel) (by decide +kernel)) (goodIn_sub (fun _ h => List.mem_cons_of_mem _ (List.mem_append_left _ (List.mem_append_right _ h))) (by decide +kernel))) (goodIn_sub (fun _ h => List.mem_cons_of_mem _ (List.mem_append_right _ h)) (by decide +kernel))
set_option maxRecDepth 20000 in
theorem gX8_does_X8_taps : GoodIn wsX8_does (wsV RX8 125 RX8 yX8_taps wsX8_taps) := goodIn_app (goodIn_of _ (by decide +kernel)) ggX8_does_X8_taps
set_option maxRecDepth 20000 in
theorem ggX8_does_X8_backs : GoodIn wsX8_does wsX8_backs := goodIn_ca (goodIn_ca (goodIn_r _ [73, 7, 8, 9, 4, 10, 11, 12, 13, 14, 15, 16, 17, 18, 59, 60, 61, 22, 23, 24, 25, 19, 20, 21, 62, 63, 64, 65, 6, 74, 75, 76, 77, 26, 27, 28, 29, 30, 31, 32, 33, 34, 35, 36, 37, 115, 116, 117, 118, 119, 120, 121, 122, 123, 124, 125, 126, 127, 128, 129, 130, 131, 132, 133, 134, 135, 136] (by decide +kernel) (by decide +kernel)) (goodIn_sub (fun _ h => List.mem_cons_of_mem _ (List.mem_append_left _ (List.mem_append_right _ h))) (by decide +kernel))) (goodIn_sub (fun _ h => List.mem_cons_of_mem _ (List.mem_append_right _ h)) (by decide +kernel))
set_option maxRecDepth 20000 in
theorem gX8_does_X8_backs : GoodIn wsX8_does (wsV RX8 131 RX8 yX8_backs wsX8_backs) := goodIn_app (goodIn_of _ (by decide +kernel)) ggX8_does_X8_backs
set_option maxRecDepth 20000 in
theorem ggX8_does_X8_addsMould : GoodIn wsX8_does wsX8_addsMould := goodIn_ca (goodIn_r _ [81, 7, 11, 12, 4, 13, 14, 15, 16, 17, 18, 82, 83, 84, 115, 116, 117, 118, 119, 120, 121, 122, 123, 124, 125, 126, 127, 128, 129, 130, 131, 132, 133, 134, 135, 136] (by decide +kernel) (by decide +kernel)) (goodIn_sub (fun _ h => List.mem_cons_of_mem _ (List.mem_append_left _ (List.mem_append_right _ h))) (by decide +kernel))
set_option maxRecDepth 20000 in
theorem gX8_does_X8_addsMould : GoodIn wsX8_does (wsV RX8 137 RX8 yX8_addsMould wsX8_addsMould) := goodIn_app (goodIn_of _ (by decide +kernel)) ggX8_does_X8_addsMould
set_option maxRecDepth 20000 in
theorem ggX8_does_X8_pours : GoodIn wsX8_does wsX8_pours := goodIn_ca (goodIn_ca (goodIn_r _ [88, 7, 8, 9, 4, 10, 11, 12, 13, 89, 90, 91, 92, 14, 15, 16, 17, 18, 82, 83, 84, 59, 60, 61, 22, 23, 24, 25, 46, 47, 48, 49, 50, 51, 52, 53, 54, 62, 63, 64, 65, 6, 34, 35, 36, 37, 74, 75, 76, 77, 115, 116, 117, 118, 119, 120, 121, 122, 123, 124, 125, 126, 127, 128, 129, 130, 131, 132, 133, 134, 135, 136] (by decide +kernel) (by decide +kernel)) (goodIn_sub (fun _ h => List.mem_cons_of_mem _ (List.mem_append_left _ (List.mem_append_right _ h))) (by decide +kernel))) (goodIn_sub (fun _ h => List.mem_cons_of_mem _ (List.mem_append_right _ h)) (by decide +kernel))
set_option maxRecDepth 20000 in
theorem gX8_does_X8_pours : GoodIn wsX8_does (wsV RX8 143 RX8 yX8_pours wsX8_pours) := goodIn_app (goodIn_of _ (by decide +kernel)) ggX8_does_X8_pours
set_option maxRecDepth 20000 in
theorem ggX8_does_X8_breaks : GoodIn wsX8_does wsX8_breaks := goodIn_ca (goodIn_r _ [96, 7, 89, 90, 91, 4, 92, 11, 12, 13, 14, 15, 16, 17, 18, 82, 83, 84, 97, 98, 99, 115, 116, 117, 118, 119, 120, 121, 122, 123, 124, 125, 126, 127, 128, 129, 130, 131, 132, 133, 134, 135, 136] (by decide +kernel) (by decide +kernel)) (goodIn_sub (fun _ h => List.mem_cons_of_mem _ (List.mem_append_left _ (List.mem_append_right _ h))) (by decide +kernel))
set_option maxRecDepth 20000 in
theorem gX8_does_X8_breaks : GoodIn wsX8_does (wsV RX8 149 RX8 yX8_breaks wsX8_breaks) := goodIn_app (goodIn_of _ (by decide +kernel)) ggX8_does_X8_breaks
set_option maxRecDepth 20000 in
theorem ggX8_does_X8_melts : GoodIn wsX8_does wsX8_melts := goodIn_ca (goodIn_ca (goodIn_r _ [103, 6, 7, 104, 105, 106, 4, 107, 11, 12, 13, 8, 9, 10, 14, 15, 16, 17, 18, 19, 20, 21, 22, 23, 24, 25, 97, 98, 99, 26, 27, 28, 29, 30, 31, 32, 33, 34, 35, 36, 37, 115, 116, 117, 118, 119, 120, 121, 122, 123, 124, 125, 126, 127, 128, 129, 130, 131, 132, 133, 134, 135, 136] (by decide +kernel) (by decide +kernel)) (goodIn_sub (fun _ h => List.mem_cons_of_mem _ (List.mem_append_left _ (List.mem_append_right _ h))) (by decide +kernel))) (goodIn_sub (fun _ h => List.mem_cons_of_mem _ (List.mem_append_right _ h)) (by decide +kernel))
set_option maxRecDepth 20000 in
theorem gX8_does_X8_melts : GoodIn wsX8_does (wsV RX8 155 RX8 yX8_melts wsX8_melts) := goodIn_app (goodIn_of _ (by decide +kernel)) ggX8_does_X8_melts
set_option maxRecDepth 20000 in
theorem ggX8_does_X8_passes : GoodIn wsX8_does wsX8_passes := goodIn_ca (goodIn_ca (goodIn_r _ [111, 7, 11, 12, 4, 13, 14, 15, 16, 17, 18, 19, 20, 21, 112, 113, 114, 59, 60, 61, 22, 23, 24, 25, 46, 47, 48, 49, 50, 51, 52, 53, 54, 115, 116, 117, 118, 119, 120, 121, 122, 123, 124, 125, 126, 127, 128, 129, 130, 131, 132, 133, 134, 135, 136] (by decide +kernel) (by decide +kernel)) (goodIn_sub (fun _ h => List.mem_cons_of_mem _ (List.mem_append_left _ (List.mem_append_right _ h))) (by decide +kernel))) (goodIn_sub (fun _ h => List.mem_cons_of_mem _ (List.mem_append_right _ h)) (by decide +kernel))
set_option maxRecDepth 20000 in
theorem gX8_does_X8_passes : GoodIn wsX8_does (wsV RX8 161 RX8 yX8_passes wsX8_passes) := goodIn_app (goodIn_of _ (by decide +kernel)) ggX8_does_X8_passes
theorem dX8_does_0 : decode cX8_does 0 = .ok (.iload_n 1, 1) := by decide +kernel
theorem dX8_does_1 : decode cX8_does 1 = .ok (.tableswitch 115 0 8 #[51, 60, 67, 73, 82, 89, 95, 102, 108], 51) := by decide +kernel
theorem dX8_does_52 : decode cX8_does 52 = .ok (.aload_n 0, 1) := by decide +kernel
theorem dX8_does_53 : decode cX8_does 53 = .ok (.iload_n 2, 1) := by decide +kernel
theorem dX8_does_54 : decode cX8_does 54 = .ok (.iload_n 3, 1) := by decide +kernel
theorem dX8_does_55 : decode cX8_does 55 = .ok (.iload 4, 2) := by decide +kernel
theorem dX8_does_57 : decode cX8_does 57 = .ok (.invokevirtual 102, 3) := by decide +kernel
theorem dX8_does_60 : decode cX8_does 60 = .ok (.ireturn, 1) := by decide +kernel
theorem dX8_does_61 : decode cX8_does 61 = .ok (.aload_n 0, 1) := by decide +kernel
theorem dX8_does_62 : decode cX8_does 62 = .ok (.iload_n 2, 1) := by decide +kernel
theorem dX8_does_63 : decode cX8_does 63 = .ok (.iload_n 3, 1) := by decide +kernel
theorem dX8_does_64 : decode cX8_does 64 = .ok (.invokevirtual 109, 3) := by decide +kernel
theorem dX8_does_67 : decode cX8_does 67 = .ok (.ireturn, 1) := by decide +kernel
theorem dX8_does_68 : decode cX8_does 68 = .ok (.aload_n 0, 1) := by decide +kernel
theorem dX8_does_69 : decode cX8_does 69 = .ok (.iload_n 2, 1) := by decide +kernel
theorem dX8_does_70 : decode cX8_does 70 = .ok (.invokevirtual 115, 3) := by decide +kernel
theorem dX8_does_73 : decode cX8_does 73 = .ok (.ireturn, 1) := by decide +kernel
theorem dX8_does_74 : decode cX8_does 74 = .ok (.aload_n 0, 1) := by decide +kernel
