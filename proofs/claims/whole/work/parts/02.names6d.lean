theorem dL_isFilled_11 : decode cL_isFilled 11 = .ok (.goto 4, 3) := by decide +kernel
theorem dL_isFilled_14 : decode cL_isFilled 14 = .ok (.lconst 0, 1) := by decide +kernel
theorem dL_isFilled_15 : decode cL_isFilled 15 = .ok (.lastore, 1) := by decide +kernel
theorem dL_isFilled_16 : decode cL_isFilled 16 = .ok (.goto 6, 3) := by decide +kernel
theorem dL_isFilled_19 : decode cL_isFilled 19 = .ok (.astore_n 3, 1) := by decide +kernel
theorem dL_isFilled_20 : decode cL_isFilled 20 = .ok (.iconst 1, 1) := by decide +kernel
theorem dL_isFilled_21 : decode cL_isFilled 21 = .ok (.ireturn, 1) := by decide +kernel
theorem dL_isFilled_22 : decode cL_isFilled 22 = .ok (.iconst 0, 1) := by decide +kernel
theorem dL_isFilled_23 : decode cL_isFilled 23 = .ok (.ireturn, 1) := by decide +kernel
set_option maxRecDepth 20000 in
theorem ggL_mouldMass_X7_mouldMass : GoodIn wsL_mouldMass wsX7_mouldMass := goodIn_ca (goodIn_ca (goodIn_ca (goodIn_r _ [7, 8, 9, 10, 6, 11, 12, 13, 14, 15, 16, 17, 18, 19, 20, 21, 22, 23, 24, 25, 26, 27, 28, 29, 30, 31, 32, 33, 34, 35, 36, 37, 38, 39, 40, 41, 42, 43, 44, 45] (by decide +kernel) (by decide +kernel)) (goodIn_sub (fun _ h => List.mem_cons_of_mem _ (List.mem_append_left _ (List.mem_append_left _ (List.mem_append_right _ h)))) (by decide +kernel))) (goodIn_sub (fun _ h => List.mem_cons_of_mem _ (List.mem_append_left _ (List.mem_append_right _ h))) (by decide +kernel))) (goodIn_sub (fun _ h => List.mem_cons_of_mem _ (List.mem_append_right _ h)) (by decide +kernel))
set_option maxRecDepth 20000 in
theorem gL_mouldMass_X7_mouldMass : GoodIn wsL_mouldMass (wsV RL 103 RX7 yX7_mouldMass wsX7_mouldMass) := goodIn_app (goodIn_of _ (by decide +kernel)) ggL_mouldMass_X7_mouldMass
theorem dL_mouldMass_0 : decode cL_mouldMass 0 = .ok (.aload_n 3, 1) := by decide +kernel
theorem dL_mouldMass_1 : decode cL_mouldMass 1 = .ok (.iconst 0, 1) := by decide +kernel
theorem dL_mouldMass_2 : decode cL_mouldMass 2 = .ok (.aload_n 0, 1) := by decide +kernel
theorem dL_mouldMass_3 : decode cL_mouldMass 3 = .ok (.iload_n 1, 1) := by decide +kernel
theorem dL_mouldMass_4 : decode cL_mouldMass 4 = .ok (.iload_n 2, 1) := by decide +kernel
theorem dL_mouldMass_5 : decode cL_mouldMass 5 = .ok (.invokevirtual 103, 3) := by decide +kernel
theorem dL_mouldMass_8 : decode cL_mouldMass 8 = .ok (.i2l, 1) := by decide +kernel
theorem dL_mouldMass_9 : decode cL_mouldMass 9 = .ok (.lastore, 1) := by decide +kernel
theorem dL_mouldMass_10 : decode cL_mouldMass 10 = .ok (.goto 11, 3) := by decide +kernel
theorem dL_mouldMass_13 : decode cL_mouldMass 13 = .ok (.astore 4, 2) := by decide +kernel
theorem dL_mouldMass_15 : decode cL_mouldMass 15 = .ok (.iconst 1, 1) := by decide +kernel
theorem dL_mouldMass_16 : decode cL_mouldMass 16 = .ok (.ireturn, 1) := by decide +kernel
theorem dL_mouldMass_17 : decode cL_mouldMass 17 = .ok (.astore 4, 2) := by decide +kernel
theorem dL_mouldMass_19 : decode cL_mouldMass 19 = .ok (.iconst 2, 1) := by decide +kernel
theorem dL_mouldMass_20 : decode cL_mouldMass 20 = .ok (.ireturn, 1) := by decide +kernel
theorem dL_mouldMass_21 : decode cL_mouldMass 21 = .ok (.iconst 0, 1) := by decide +kernel
theorem dL_mouldMass_22 : decode cL_mouldMass 22 = .ok (.ireturn, 1) := by decide +kernel
set_option maxRecDepth 20000 in
theorem ggL_ingotMass_X7_ingotMass : GoodIn wsL_ingotMass wsX7_ingotMass := goodIn_ca (goodIn_ca (goodIn_ca (goodIn_r _ [7, 8, 9, 10, 6, 11, 12, 13, 14, 15, 16, 17, 18, 19, 20, 21, 22, 23, 24, 25, 26, 27, 28, 29, 30, 31, 32, 33, 34, 35, 36, 37, 38, 39, 40, 41, 42, 43, 44, 45] (by decide +kernel) (by decide +kernel)) (goodIn_sub (fun _ h => List.mem_cons_of_mem _ (List.mem_append_left _ (List.mem_append_left _ (List.mem_append_right _ h)))) (by decide +kernel))) (goodIn_sub (fun _ h => List.mem_cons_of_mem _ (List.mem_append_left _ (List.mem_append_right _ h))) (by decide +kernel))) (goodIn_sub (fun _ h => List.mem_cons_of_mem _ (List.mem_append_right _ h)) (by decide +kernel))
set_option maxRecDepth 20000 in
theorem gL_ingotMass_X7_ingotMass : GoodIn wsL_ingotMass (wsV RL 106 RX7 yX7_ingotMass wsX7_ingotMass) := goodIn_app (goodIn_of _ (by decide +kernel)) ggL_ingotMass_X7_ingotMass
theorem dL_ingotMass_0 : decode cL_ingotMass 0 = .ok (.aload_n 3, 1) := by decide +kernel
theorem dL_ingotMass_1 : decode cL_ingotMass 1 = .ok (.iconst 0, 1) := by decide +kernel
theorem dL_ingotMass_2 : decode cL_ingotMass 2 = .ok (.aload_n 0, 1) := by decide +kernel
theorem dL_ingotMass_3 : decode cL_ingotMass 3 = .ok (.iload_n 1, 1) := by decide +kernel
theorem dL_ingotMass_4 : decode cL_ingotMass 4 = .ok (.iload_n 2, 1) := by decide +kernel
theorem dL_ingotMass_5 : decode cL_ingotMass 5 = .ok (.invokevirtual 106, 3) := by decide +kernel
theorem dL_ingotMass_8 : decode cL_ingotMass 8 = .ok (.i2l, 1) := by decide +kernel
theorem dL_ingotMass_9 : decode cL_ingotMass 9 = .ok (.lastore, 1) := by decide +kernel
theorem dL_ingotMass_10 : decode cL_ingotMass 10 = .ok (.goto 11, 3) := by decide +kernel
theorem dL_ingotMass_13 : decode cL_ingotMass 13 = .ok (.astore 4, 2) := by decide +kernel
theorem dL_ingotMass_15 : decode cL_ingotMass 15 = .ok (.iconst 1, 1) := by decide +kernel
theorem dL_ingotMass_16 : decode cL_ingotMass 16 = .ok (.ireturn, 1) := by decide +kernel
theorem dL_ingotMass_17 : decode cL_ingotMass 17 = .ok (.astore 4, 2) := by decide +kernel
theorem dL_ingotMass_19 : decode cL_ingotMass 19 = .ok (.iconst 2, 1) := by decide +kernel
theorem dL_ingotMass_20 : decode cL_ingotMass 20 = .ok (.ireturn, 1) := by decide +kernel
theorem dL_ingotMass_21 : decode cL_ingotMass 21 = .ok (.iconst 0, 1) := by decide +kernel
theorem dL_ingotMass_22 : decode cL_ingotMass 22 = .ok (.ireturn, 1) := by decide +kernel
set_option maxRecDepth 20000 in
theorem ggL_share_X7_share : GoodIn wsL_share wsX7_share := goodIn_ca (goodIn_ca (goodIn_ca (goodIn_ca (goodIn_r _ [7, 8, 9, 10, 6, 11, 12, 13, 14, 15, 16, 17, 18, 19, 20, 21, 22, 23, 24, 25, 26, 27, 28, 29, 30, 31, 32, 33, 34, 35, 36, 37, 38, 39, 40, 41, 42, 43, 44, 45, 46, 47, 48, 49, 50, 51, 52, 53, 54, 55] (by decide +kernel) (by decide +kernel)) (goodIn_sub (fun _ h => List.mem_cons_of_mem _ (List.mem_append_left _ (List.mem_append_left _ (List.mem_append_right _ h)))) (by decide +kernel))) (goodIn_sub (fun _ h => List.mem_cons_of_mem _ (List.mem_append_left _ (List.mem_append_right _ h))) (by decide +kernel))) (goodIn_sub (fun _ h => List.mem_cons_of_mem _ (List.mem_append_left _ (List.mem_append_left _ (List.mem_append_left _ (List.mem_append_right _ h))))) (by decide +kernel))) (goodIn_sub (fun _ h => List.mem_cons_of_mem _ (List.mem_append_right _ h)) (by decide +kernel))
set_option maxRecDepth 20000 in
theorem gL_share_X7_share : GoodIn wsL_share (wsV RL 109 RX7 yX7_share wsX7_share) := goodIn_app (goodIn_of _ (by decide +kernel)) ggL_share_X7_share
theorem dL_share_0 : decode cL_share 0 = .ok (.aload_n 3, 1) := by decide +kernel
theorem dL_share_1 : decode cL_share 1 = .ok (.iconst 0, 1) := by decide +kernel
theorem dL_share_2 : decode cL_share 2 = .ok (.aload_n 0, 1) := by decide +kernel
theorem dL_share_3 : decode cL_share 3 = .ok (.iload_n 1, 1) := by decide +kernel
theorem dL_share_4 : decode cL_share 4 = .ok (.iload_n 2, 1) := by decide +kernel
theorem dL_share_5 : decode cL_share 5 = .ok (.invokevirtual 109, 3) := by decide +kernel
theorem dL_share_8 : decode cL_share 8 = .ok (.i2l, 1) := by decide +kernel
theorem dL_share_9 : decode cL_share 9 = .ok (.lastore, 1) := by decide +kernel
theorem dL_share_10 : decode cL_share 10 = .ok (.goto 11, 3) := by decide +kernel
theorem dL_share_13 : decode cL_share 13 = .ok (.astore 4, 2) := by decide +kernel
theorem dL_share_15 : decode cL_share 15 = .ok (.iconst 1, 1) := by decide +kernel
theorem dL_share_16 : decode cL_share 16 = .ok (.ireturn, 1) := by decide +kernel
theorem dL_share_17 : decode cL_share 17 = .ok (.astore 4, 2) := by decide +kernel
theorem dL_share_19 : decode cL_share 19 = .ok (.iconst 2, 1) := by decide +kernel
theorem dL_share_20 : decode cL_share 20 = .ok (.ireturn, 1) := by decide +kernel
theorem dL_share_21 : decode cL_share 21 = .ok (.iconst 0, 1) := by decide +kernel
theorem dL_share_22 : decode cL_share 22 = .ok (.ireturn, 1) := by decide +kernel
set_option maxRecDepth 20000 in
theorem ggL_grade_X7_grade : GoodIn wsL_grade wsX7_grade := goodIn_ca (goodIn_ca (goodIn_ca (goodIn_r _ [6, 7, 8, 9, 5, 10, 11, 12, 13, 14, 15, 16, 17, 18, 19, 20, 21, 22, 23, 24, 25, 26, 27, 28, 29, 30, 31, 32, 33, 34, 35, 36, 37, 38, 39, 40, 41, 42, 43, 44, 45, 46, 47, 48, 49] (by decide +kernel) (by decide +kernel)) (goodIn_sub (fun _ h => List.mem_cons_of_mem _ (List.mem_append_left _ (List.mem_append_right _ h))) (by decide +kernel))) (goodIn_sub (fun _ h => List.mem_cons_of_mem _ (List.mem_append_left _ (List.mem_append_left _ (List.mem_append_right _ h)))) (by decide +kernel))) (goodIn_sub (fun _ h => List.mem_cons_of_mem _ (List.mem_append_right _ h)) (by decide +kernel))
set_option maxRecDepth 20000 in
theorem gL_grade_X7_grade : GoodIn wsL_grade (wsV RL 112 RX7 yX7_grade wsX7_grade) := goodIn_app (goodIn_of _ (by decide +kernel)) ggL_grade_X7_grade
theorem dL_grade_0 : decode cL_grade 0 = .ok (.aload_n 2, 1) := by decide +kernel
theorem dL_grade_1 : decode cL_grade 1 = .ok (.iconst 0, 1) := by decide +kernel
theorem dL_grade_2 : decode cL_grade 2 = .ok (.aload_n 0, 1) := by decide +kernel
theorem dL_grade_3 : decode cL_grade 3 = .ok (.iload_n 1, 1) := by decide +kernel
theorem dL_grade_4 : decode cL_grade 4 = .ok (.invokevirtual 112, 3) := by decide +kernel
theorem dL_grade_7 : decode cL_grade 7 = .ok (.i2l, 1) := by decide +kernel
theorem dL_grade_8 : decode cL_grade 8 = .ok (.lastore, 1) := by decide +kernel
theorem dL_grade_9 : decode cL_grade 9 = .ok (.goto 6, 3) := by decide +kernel
theorem dL_grade_12 : decode cL_grade 12 = .ok (.astore_n 3, 1) := by decide +kernel
theorem dL_grade_13 : decode cL_grade 13 = .ok (.iconst 1, 1) := by decide +kernel
theorem dL_grade_14 : decode cL_grade 14 = .ok (.ireturn, 1) := by decide +kernel
theorem dL_grade_15 : decode cL_grade 15 = .ok (.iconst 0, 1) := by decide +kernel
theorem dL_grade_16 : decode cL_grade 16 = .ok (.ireturn, 1) := by decide +kernel
set_option maxRecDepth 20000 in
theorem ggL_ingotByMass_X7_ingotByMass : GoodIn wsL_ingotByMass wsX7_ingotByMass := goodIn_ca (goodIn_ca (goodIn_r _ [6, 7, 8, 9, 10, 11, 12, 13, 14, 15, 16, 17, 18, 19, 20, 21, 22, 23, 24, 25, 26, 27, 28, 29, 30, 31, 32, 33, 34, 35, 36, 37, 38, 39, 40, 41, 42, 43, 44, 45, 46] (by decide +kernel) (by decide +kernel)) (goodIn_sub (fun _ h => List.mem_cons_of_mem _ (List.mem_append_right _ h)) (by decide +kernel))) (goodIn_sub (fun _ h => List.mem_cons_of_mem _ (List.mem_append_left _ (List.mem_append_right _ h))) (by decide +kernel))
set_option maxRecDepth 20000 in
theorem gL_ingotByMass_X7_ingotByMass : GoodIn wsL_ingotByMass (wsV RL 116 RX7 yX7_ingotByMass wsX7_ingotByMass) := goodIn_app (goodIn_of _ (by decide +kernel)) ggL_ingotByMass_X7_ingotByMass
theorem dL_ingotByMass_0 : decode cL_ingotByMass 0 = .ok (.aload_n 2, 1) := by decide +kernel
theorem dL_ingotByMass_1 : decode cL_ingotByMass 1 = .ok (.iconst 0, 1) := by decide +kernel
theorem dL_ingotByMass_2 : decode cL_ingotByMass 2 = .ok (.aload_n 0, 1) := by decide +kernel
theorem dL_ingotByMass_3 : decode cL_ingotByMass 3 = .ok (.iload_n 1, 1) := by decide +kernel
theorem dL_ingotByMass_4 : decode cL_ingotByMass 4 = .ok (.invokevirtual 116, 3) := by decide +kernel
theorem dL_ingotByMass_7 : decode cL_ingotByMass 7 = .ok (.i2l, 1) := by decide +kernel
theorem dL_ingotByMass_8 : decode cL_ingotByMass 8 = .ok (.lastore, 1) := by decide +kernel
theorem dL_ingotByMass_9 : decode cL_ingotByMass 9 = .ok (.goto 6, 3) := by decide +kernel
theorem dL_ingotByMass_12 : decode cL_ingotByMass 12 = .ok (.astore_n 3, 1) := by decide +kernel
theorem dL_ingotByMass_13 : decode cL_ingotByMass 13 = .ok (.iconst 1, 1) := by decide +kernel
theorem dL_ingotByMass_14 : decode cL_ingotByMass 14 = .ok (.ireturn, 1) := by decide +kernel
theorem dL_ingotByMass_15 : decode cL_ingotByMass 15 = .ok (.iconst 0, 1) := by decide +kernel
theorem dL_ingotByMass_16 : decode cL_ingotByMass 16 = .ok (.ireturn, 1) := by decide +kernel
set_option maxRecDepth 20000 in
theorem ggL_charged_X7_charged : GoodIn wsL_charged wsX7_charged := goodIn_ca (goodIn_ca (goodIn_r _ [6, 7, 8, 9, 5, 10, 11, 12, 13, 14, 15, 16, 17, 18, 19, 20, 21, 22, 23, 24, 25, 26, 27, 28, 29, 30, 31, 32, 33, 34, 35, 36] (by decide +kernel) (by decide +kernel)) (goodIn_sub (fun _ h => List.mem_cons_of_mem _ (List.mem_append_left _ (List.mem_append_right _ h))) (by decide +kernel))) (goodIn_sub (fun _ h => List.mem_cons_of_mem _ (List.mem_append_right _ h)) (by decide +kernel))
set_option maxRecDepth 20000 in
theorem gL_charged_X7_charged : GoodIn wsL_charged (wsV RL 119 RX7 yX7_charged wsX7_charged) := goodIn_app (goodIn_of _ (by decide +kernel)) ggL_charged_X7_charged
theorem dL_charged_0 : decode cL_charged 0 = .ok (.aload_n 2, 1) := by decide +kernel
theorem dL_charged_1 : decode cL_charged 1 = .ok (.iconst 0, 1) := by decide +kernel
theorem dL_charged_2 : decode cL_charged 2 = .ok (.aload_n 0, 1) := by decide +kernel
theorem dL_charged_3 : decode cL_charged 3 = .ok (.iload_n 1, 1) := by decide +kernel
theorem dL_charged_4 : decode cL_charged 4 = .ok (.invokevirtual 119, 3) := by decide +kernel
theorem dL_charged_7 : decode cL_charged 7 = .ok (.i2l, 1) := by decide +kernel
theorem dL_charged_8 : decode cL_charged 8 = .ok (.lastore, 1) := by decide +kernel
theorem dL_charged_9 : decode cL_charged 9 = .ok (.goto 6, 3) := by decide +kernel
theorem dL_charged_12 : decode cL_charged 12 = .ok (.astore_n 3, 1) := by decide +kernel
theorem dL_charged_13 : decode cL_charged 13 = .ok (.iconst 1, 1) := by decide +kernel
theorem dL_charged_14 : decode cL_charged 14 = .ok (.ireturn, 1) := by decide +kernel
theorem dL_charged_15 : decode cL_charged 15 = .ok (.iconst 0, 1) := by decide +kernel
theorem dL_charged_16 : decode cL_charged 16 = .ok (.ireturn, 1) := by decide +kernel
set_option maxRecDepth 20000 in
theorem ggL_slag_X7_slag : GoodIn wsL_slag wsX7_slag := goodIn_ca (goodIn_ca (goodIn_r _ [6, 7, 8, 9, 5, 10, 11, 12, 13, 14, 15, 16, 17, 18, 19, 20, 21, 22, 23, 24, 25, 26, 27, 28, 29, 30, 31, 32, 33, 34, 35, 36] (by decide +kernel) (by decide +kernel)) (goodIn_sub (fun _ h => List.mem_cons_of_mem _ (List.mem_append_left _ (List.mem_append_right _ h))) (by decide +kernel))) (goodIn_sub (fun _ h => List.mem_cons_of_mem _ (List.mem_append_right _ h)) (by decide +kernel))
set_option maxRecDepth 20000 in
theorem gL_slag_X7_slag : GoodIn wsL_slag (wsV RL 123 RX7 yX7_slag wsX7_slag) := goodIn_app (goodIn_of _ (by decide +kernel)) ggL_slag_X7_slag
theorem dL_slag_0 : decode cL_slag 0 = .ok (.aload_n 2, 1) := by decide +kernel
theorem dL_slag_1 : decode cL_slag 1 = .ok (.iconst 0, 1) := by decide +kernel
theorem dL_slag_2 : decode cL_slag 2 = .ok (.aload_n 0, 1) := by decide +kernel
theorem dL_slag_3 : decode cL_slag 3 = .ok (.iload_n 1, 1) := by decide +kernel
theorem dL_slag_4 : decode cL_slag 4 = .ok (.invokevirtual 123, 3) := by decide +kernel
theorem dL_slag_7 : decode cL_slag 7 = .ok (.i2l, 1) := by decide +kernel
theorem dL_slag_8 : decode cL_slag 8 = .ok (.lastore, 1) := by decide +kernel
theorem dL_slag_9 : decode cL_slag 9 = .ok (.goto 6, 3) := by decide +kernel
theorem dL_slag_12 : decode cL_slag 12 = .ok (.astore_n 3, 1) := by decide +kernel
theorem dL_slag_13 : decode cL_slag 13 = .ok (.iconst 1, 1) := by decide +kernel
theorem dL_slag_14 : decode cL_slag 14 = .ok (.ireturn, 1) := by decide +kernel
theorem dL_slag_15 : decode cL_slag 15 = .ok (.iconst 0, 1) := by decide +kernel
theorem dL_slag_16 : decode cL_slag 16 = .ok (.ireturn, 1) := by decide +kernel
set_option maxRecDepth 20000 in
theorem ggL_stock_X7_stock : GoodIn wsL_stock wsX7_stock := goodIn_ca (goodIn_ca (goodIn_r _ [6, 7, 8, 9, 5, 10, 11, 12, 13, 14, 15, 16, 17, 18, 19, 20, 21, 22, 23, 24, 25, 26, 27, 28, 29, 30, 31, 32, 33, 34, 35, 36, 37, 38, 39, 40, 41, 42, 43, 44, 45, 46, 47, 48, 49, 50] (by decide +kernel) (by decide +kernel)) (goodIn_sub (fun _ h => List.mem_cons_of_mem _ (List.mem_append_right _ h)) (by decide +kernel))) (goodIn_sub (fun _ h => List.mem_cons_of_mem _ (List.mem_append_left _ (List.mem_append_right _ h))) (by decide +kernel))
set_option maxRecDepth 20000 in
theorem gL_stock_X7_stock : GoodIn wsL_stock (wsV RL 126 RX7 yX7_stock wsX7_stock) := goodIn_app (goodIn_of _ (by decide +kernel)) ggL_stock_X7_stock
theorem dL_stock_0 : decode cL_stock 0 = .ok (.aload_n 2, 1) := by decide +kernel

