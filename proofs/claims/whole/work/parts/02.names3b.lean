theorem dX7_pouringMinutes_0 : decode cX7_pouringMinutes 0 = .ok (.iload_n 1, 1) := by decide +kernel
theorem dX7_pouringMinutes_1 : decode cX7_pouringMinutes 1 = .ok (.iconst 3, 1) := by decide +kernel
theorem dX7_pouringMinutes_2 : decode cX7_pouringMinutes 2 = .ok (.invokestatic 117, 3) := by decide +kernel
theorem dX7_pouringMinutes_5 : decode cX7_pouringMinutes 5 = .ok (.aload_n 0, 1) := by decide +kernel
theorem dX7_pouringMinutes_6 : decode cX7_pouringMinutes 6 = .ok (.getfield 10, 3) := by decide +kernel
theorem dX7_pouringMinutes_9 : decode cX7_pouringMinutes 9 = .ok (.getfield 178, 3) := by decide +kernel
theorem dX7_pouringMinutes_12 : decode cX7_pouringMinutes 12 = .ok (.iload_n 1, 1) := by decide +kernel
theorem dX7_pouringMinutes_13 : decode cX7_pouringMinutes 13 = .ok (.aaload, 1) := by decide +kernel
theorem dX7_pouringMinutes_14 : decode cX7_pouringMinutes 14 = .ok (.astore_n 2, 1) := by decide +kernel
theorem dX7_pouringMinutes_15 : decode cX7_pouringMinutes 15 = .ok (.aload_n 2, 1) := by decide +kernel
theorem dX7_pouringMinutes_16 : decode cX7_pouringMinutes 16 = .ok (.invokevirtual 161, 3) := by decide +kernel
theorem dX7_pouringMinutes_19 : decode cX7_pouringMinutes 19 = .ok (.ifCond .ne 11, 3) := by decide +kernel
theorem dX7_pouringMinutes_22 : decode cX7_pouringMinutes 22 = .ok (.new 108, 3) := by decide +kernel
theorem dX7_pouringMinutes_25 : decode cX7_pouringMinutes 25 = .ok (.dup, 1) := by decide +kernel
theorem dX7_pouringMinutes_26 : decode cX7_pouringMinutes 26 = .ok (.invokespecial 110, 3) := by decide +kernel
theorem dX7_pouringMinutes_29 : decode cX7_pouringMinutes 29 = .ok (.athrow, 1) := by decide +kernel
theorem dX7_pouringMinutes_30 : decode cX7_pouringMinutes 30 = .ok (.aload_n 2, 1) := by decide +kernel
theorem dX7_pouringMinutes_31 : decode cX7_pouringMinutes 31 = .ok (.getfield 145, 3) := by decide +kernel
theorem dX7_pouringMinutes_34 : decode cX7_pouringMinutes 34 = .ok (.aload_n 2, 1) := by decide +kernel
theorem dX7_pouringMinutes_35 : decode cX7_pouringMinutes 35 = .ok (.getfield 125, 3) := by decide +kernel
theorem dX7_pouringMinutes_38 : decode cX7_pouringMinutes 38 = .ok (.invokevirtual 155, 3) := by decide +kernel
theorem dX7_pouringMinutes_41 : decode cX7_pouringMinutes 41 = .ok (.isub, 1) := by decide +kernel
theorem dX7_pouringMinutes_42 : decode cX7_pouringMinutes 42 = .ok (.bipush 10, 2) := by decide +kernel
theorem dX7_pouringMinutes_44 : decode cX7_pouringMinutes 44 = .ok (.idiv, 1) := by decide +kernel
theorem dX7_pouringMinutes_45 : decode cX7_pouringMinutes 45 = .ok (.ireturn, 1) := by decide +kernel
theorem dX7_mouldCount_0 : decode cX7_mouldCount 0 = .ok (.aload_n 0, 1) := by decide +kernel
theorem dX7_mouldCount_1 : decode cX7_mouldCount 1 = .ok (.getfield 10, 3) := by decide +kernel
theorem dX7_mouldCount_4 : decode cX7_mouldCount 4 = .ok (.getfield 181, 3) := by decide +kernel
theorem dX7_mouldCount_7 : decode cX7_mouldCount 7 = .ok (.ireturn, 1) := by decide +kernel
set_option maxRecDepth 20000 in
theorem ggX7_volume_X7_requireIndex : GoodIn wsX7_volume wsX7_requireIndex := goodIn_ca (goodIn_r _ [5, 6, 7, 8, 9, 4, 10] (by decide +kernel) (by decide +kernel)) (goodIn_sub (fun _ h => List.mem_cons_of_mem _ (List.mem_append_right _ h)) (by decide +kernel))
set_option maxRecDepth 20000 in
theorem gX7_volume_X7_requireIndex : GoodIn wsX7_volume (va_wsS RX7 117 yX7_requireIndex wsX7_requireIndex) := goodIn_app (goodIn_of _ (by decide +kernel)) ggX7_volume_X7_requireIndex
theorem dX7_volume_0 : decode cX7_volume 0 = .ok (.iload_n 1, 1) := by decide +kernel
theorem dX7_volume_1 : decode cX7_volume 1 = .ok (.aload_n 0, 1) := by decide +kernel
theorem dX7_volume_2 : decode cX7_volume 2 = .ok (.getfield 10, 3) := by decide +kernel
theorem dX7_volume_5 : decode cX7_volume 5 = .ok (.getfield 181, 3) := by decide +kernel
theorem dX7_volume_8 : decode cX7_volume 8 = .ok (.invokestatic 117, 3) := by decide +kernel
theorem dX7_volume_11 : decode cX7_volume 11 = .ok (.aload_n 0, 1) := by decide +kernel
theorem dX7_volume_12 : decode cX7_volume 12 = .ok (.getfield 10, 3) := by decide +kernel
theorem dX7_volume_15 : decode cX7_volume 15 = .ok (.getfield 184, 3) := by decide +kernel
theorem dX7_volume_18 : decode cX7_volume 18 = .ok (.iload_n 1, 1) := by decide +kernel
theorem dX7_volume_19 : decode cX7_volume 19 = .ok (.iaload, 1) := by decide +kernel
theorem dX7_volume_20 : decode cX7_volume 20 = .ok (.ireturn, 1) := by decide +kernel
set_option maxRecDepth 20000 in
theorem ggX7_isFilled_X7_requireIndex : GoodIn wsX7_isFilled wsX7_requireIndex := goodIn_ca (goodIn_r _ [5, 6, 7, 8, 9, 4, 10] (by decide +kernel) (by decide +kernel)) (goodIn_sub (fun _ h => List.mem_cons_of_mem _ (List.mem_append_left _ (List.mem_append_right _ h))) (by decide +kernel))
set_option maxRecDepth 20000 in
theorem gX7_isFilled_X7_requireIndex : GoodIn wsX7_isFilled (va_wsS RX7 117 yX7_requireIndex wsX7_requireIndex) := goodIn_app (goodIn_of _ (by decide +kernel)) ggX7_isFilled_X7_requireIndex
set_option maxRecDepth 20000 in
theorem ggX7_isFilled_X3_sum : GoodIn wsX7_isFilled wsX3_sum := goodIn_ca (goodIn_r _ [15, 16, 36] (by decide +kernel) (by decide +kernel)) (goodIn_sub (fun _ h => List.mem_cons_of_mem _ (List.mem_append_right _ h)) (by decide +kernel))
set_option maxRecDepth 20000 in
theorem gX7_isFilled_X3_sum : GoodIn wsX7_isFilled (wsV RX7 141 RX3 yX3_sum wsX3_sum) := goodIn_app (goodIn_of _ (by decide +kernel)) ggX7_isFilled_X3_sum
theorem dX7_isFilled_0 : decode cX7_isFilled 0 = .ok (.iload_n 1, 1) := by decide +kernel
theorem dX7_isFilled_1 : decode cX7_isFilled 1 = .ok (.aload_n 0, 1) := by decide +kernel
theorem dX7_isFilled_2 : decode cX7_isFilled 2 = .ok (.getfield 10, 3) := by decide +kernel
theorem dX7_isFilled_5 : decode cX7_isFilled 5 = .ok (.getfield 181, 3) := by decide +kernel
theorem dX7_isFilled_8 : decode cX7_isFilled 8 = .ok (.invokestatic 117, 3) := by decide +kernel
theorem dX7_isFilled_11 : decode cX7_isFilled 11 = .ok (.aload_n 0, 1) := by decide +kernel
theorem dX7_isFilled_12 : decode cX7_isFilled 12 = .ok (.getfield 10, 3) := by decide +kernel
theorem dX7_isFilled_15 : decode cX7_isFilled 15 = .ok (.getfield 187, 3) := by decide +kernel
theorem dX7_isFilled_18 : decode cX7_isFilled 18 = .ok (.iload_n 1, 1) := by decide +kernel
theorem dX7_isFilled_19 : decode cX7_isFilled 19 = .ok (.aaload, 1) := by decide +kernel
theorem dX7_isFilled_20 : decode cX7_isFilled 20 = .ok (.invokevirtual 141, 3) := by decide +kernel
theorem dX7_isFilled_23 : decode cX7_isFilled 23 = .ok (.ifCond .le 7, 3) := by decide +kernel
theorem dX7_isFilled_26 : decode cX7_isFilled 26 = .ok (.iconst 1, 1) := by decide +kernel
theorem dX7_isFilled_27 : decode cX7_isFilled 27 = .ok (.goto 4, 3) := by decide +kernel
theorem dX7_isFilled_30 : decode cX7_isFilled 30 = .ok (.iconst 0, 1) := by decide +kernel
theorem dX7_isFilled_31 : decode cX7_isFilled 31 = .ok (.ireturn, 1) := by decide +kernel
set_option maxRecDepth 20000 in
theorem ggX7_mouldMass_X7_requireIndex : GoodIn wsX7_mouldMass wsX7_requireIndex := goodIn_ca (goodIn_r _ [5, 6, 7, 8, 9, 4, 10] (by decide +kernel) (by decide +kernel)) (goodIn_sub (fun _ h => List.mem_cons_of_mem _ (List.mem_append_left _ (List.mem_append_right _ h))) (by decide +kernel))
set_option maxRecDepth 20000 in
theorem gX7_mouldMass_X7_requireIndex : GoodIn wsX7_mouldMass (va_wsS RX7 117 yX7_requireIndex wsX7_requireIndex) := goodIn_app (goodIn_of _ (by decide +kernel)) ggX7_mouldMass_X7_requireIndex
set_option maxRecDepth 20000 in
theorem ggX7_mouldMass_X7_requireMaterial : GoodIn wsX7_mouldMass wsX7_requireMaterial := goodIn_ca (goodIn_ca (goodIn_r _ [13, 14, 15, 16, 17, 4, 18, 19] (by decide +kernel) (by decide +kernel)) (goodIn_sub (fun _ h => List.mem_cons_of_mem _ (List.mem_append_right _ h)) (by decide +kernel))) (goodIn_sub (fun _ h => List.mem_cons_of_mem _ (List.mem_append_left _ (List.mem_append_left _ (List.mem_append_right _ h)))) (by decide +kernel))
set_option maxRecDepth 20000 in
theorem gX7_mouldMass_X7_requireMaterial : GoodIn wsX7_mouldMass (va_wsS RX7 137 yX7_requireMaterial wsX7_requireMaterial) := goodIn_app (goodIn_of _ (by decide +kernel)) ggX7_mouldMass_X7_requireMaterial
theorem dX7_mouldMass_0 : decode cX7_mouldMass 0 = .ok (.iload_n 1, 1) := by decide +kernel
theorem dX7_mouldMass_1 : decode cX7_mouldMass 1 = .ok (.aload_n 0, 1) := by decide +kernel
theorem dX7_mouldMass_2 : decode cX7_mouldMass 2 = .ok (.getfield 10, 3) := by decide +kernel
theorem dX7_mouldMass_5 : decode cX7_mouldMass 5 = .ok (.getfield 181, 3) := by decide +kernel
theorem dX7_mouldMass_8 : decode cX7_mouldMass 8 = .ok (.invokestatic 117, 3) := by decide +kernel
theorem dX7_mouldMass_11 : decode cX7_mouldMass 11 = .ok (.aload_n 0, 1) := by decide +kernel
theorem dX7_mouldMass_12 : decode cX7_mouldMass 12 = .ok (.getfield 10, 3) := by decide +kernel
theorem dX7_mouldMass_15 : decode cX7_mouldMass 15 = .ok (.getfield 187, 3) := by decide +kernel
theorem dX7_mouldMass_18 : decode cX7_mouldMass 18 = .ok (.iload_n 1, 1) := by decide +kernel
theorem dX7_mouldMass_19 : decode cX7_mouldMass 19 = .ok (.aaload, 1) := by decide +kernel
theorem dX7_mouldMass_20 : decode cX7_mouldMass 20 = .ok (.getfield 131, 3) := by decide +kernel
theorem dX7_mouldMass_23 : decode cX7_mouldMass 23 = .ok (.iload_n 2, 1) := by decide +kernel
theorem dX7_mouldMass_24 : decode cX7_mouldMass 24 = .ok (.invokestatic 137, 3) := by decide +kernel
theorem dX7_mouldMass_27 : decode cX7_mouldMass 27 = .ok (.iaload, 1) := by decide +kernel
theorem dX7_mouldMass_28 : decode cX7_mouldMass 28 = .ok (.ireturn, 1) := by decide +kernel
theorem dX7_ingotCount_0 : decode cX7_ingotCount 0 = .ok (.aload_n 0, 1) := by decide +kernel
theorem dX7_ingotCount_1 : decode cX7_ingotCount 1 = .ok (.getfield 10, 3) := by decide +kernel
theorem dX7_ingotCount_4 : decode cX7_ingotCount 4 = .ok (.getfield 191, 3) := by decide +kernel
theorem dX7_ingotCount_7 : decode cX7_ingotCount 7 = .ok (.ireturn, 1) := by decide +kernel
set_option maxRecDepth 20000 in
theorem ggX7_ingotMass_X7_requireIndex : GoodIn wsX7_ingotMass wsX7_requireIndex := goodIn_ca (goodIn_r _ [5, 6, 7, 8, 9, 4, 10] (by decide +kernel) (by decide +kernel)) (goodIn_sub (fun _ h => List.mem_cons_of_mem _ (List.mem_append_left _ (List.mem_append_right _ h))) (by decide +kernel))
set_option maxRecDepth 20000 in
theorem gX7_ingotMass_X7_requireIndex : GoodIn wsX7_ingotMass (va_wsS RX7 117 yX7_requireIndex wsX7_requireIndex) := goodIn_app (goodIn_of _ (by decide +kernel)) ggX7_ingotMass_X7_requireIndex
set_option maxRecDepth 20000 in
theorem ggX7_ingotMass_X7_requireMaterial : GoodIn wsX7_ingotMass wsX7_requireMaterial := goodIn_ca (goodIn_ca (goodIn_r _ [13, 14, 15, 16, 17, 4, 18, 19] (by decide +kernel) (by decide +kernel)) (goodIn_sub (fun _ h => List.mem_cons_of_mem _ (List.mem_append_right _ h)) (by decide +kernel))) (goodIn_sub (fun _ h => List.mem_cons_of_mem _ (List.mem_append_left _ (List.mem_append_left _ (List.mem_append_right _ h)))) (by decide +kernel))
set_option maxRecDepth 20000 in
theorem gX7_ingotMass_X7_requireMaterial : GoodIn wsX7_ingotMass (va_wsS RX7 137 yX7_requireMaterial wsX7_requireMaterial) := goodIn_app (goodIn_of _ (by decide +kernel)) ggX7_ingotMass_X7_requireMaterial
theorem dX7_ingotMass_0 : decode cX7_ingotMass 0 = .ok (.iload_n 1, 1) := by decide +kernel
theorem dX7_ingotMass_1 : decode cX7_ingotMass 1 = .ok (.aload_n 0, 1) := by decide +kernel
theorem dX7_ingotMass_2 : decode cX7_ingotMass 2 = .ok (.getfield 10, 3) := by decide +kernel
theorem dX7_ingotMass_5 : decode cX7_ingotMass 5 = .ok (.getfield 191, 3) := by decide +kernel
theorem dX7_ingotMass_8 : decode cX7_ingotMass 8 = .ok (.invokestatic 117, 3) := by decide +kernel
theorem dX7_ingotMass_11 : decode cX7_ingotMass 11 = .ok (.aload_n 0, 1) := by decide +kernel
theorem dX7_ingotMass_12 : decode cX7_ingotMass 12 = .ok (.getfield 10, 3) := by decide +kernel
theorem dX7_ingotMass_15 : decode cX7_ingotMass 15 = .ok (.getfield 194, 3) := by decide +kernel
theorem dX7_ingotMass_18 : decode cX7_ingotMass 18 = .ok (.iload_n 1, 1) := by decide +kernel
theorem dX7_ingotMass_19 : decode cX7_ingotMass 19 = .ok (.aaload, 1) := by decide +kernel
theorem dX7_ingotMass_20 : decode cX7_ingotMass 20 = .ok (.getfield 131, 3) := by decide +kernel
theorem dX7_ingotMass_23 : decode cX7_ingotMass 23 = .ok (.iload_n 2, 1) := by decide +kernel
theorem dX7_ingotMass_24 : decode cX7_ingotMass 24 = .ok (.invokestatic 137, 3) := by decide +kernel
theorem dX7_ingotMass_27 : decode cX7_ingotMass 27 = .ok (.iaload, 1) := by decide +kernel
theorem dX7_ingotMass_28 : decode cX7_ingotMass 28 = .ok (.ireturn, 1) := by decide +kernel
set_option maxRecDepth 20000 in
theorem ggX7_share_X7_requireIndex : GoodIn wsX7_share wsX7_requireIndex := goodIn_ca (goodIn_r _ [5, 6, 7, 8, 9, 4, 10] (by decide +kernel) (by decide +kernel)) (goodIn_sub (fun _ h => List.mem_cons_of_mem _ (List.mem_append_left _ (List.mem_append_left _ (List.mem_append_left _ (List.mem_append_right _ h))))) (by decide +kernel))
set_option maxRecDepth 20000 in
theorem gX7_share_X7_requireIndex : GoodIn wsX7_share (va_wsS RX7 117 yX7_requireIndex wsX7_requireIndex) := goodIn_app (goodIn_of _ (by decide +kernel)) ggX7_share_X7_requireIndex
set_option maxRecDepth 20000 in
theorem ggX7_share_X7_requireMaterial : GoodIn wsX7_share wsX7_requireMaterial := goodIn_ca (goodIn_ca (goodIn_r _ [13, 14, 15, 16, 17, 4, 18, 19] (by decide +kernel) (by decide +kernel)) (goodIn_sub (fun _ h => List.mem_cons_of_mem _ (List.mem_append_left _ (List.mem_append_left _ (List.mem_append_right _ h)))) (by decide +kernel))) (goodIn_sub (fun _ h => List.mem_cons_of_mem _ (List.mem_append_left _ (List.mem_append_right _ h))) (by decide +kernel))
set_option maxRecDepth 20000 in
theorem gX7_share_X7_requireMaterial : GoodIn wsX7_share (va_wsS RX7 137 yX7_requireMaterial wsX7_requireMaterial) := goodIn_app (goodIn_of _ (by decide +kernel)) ggX7_share_X7_requireMaterial
set_option maxRecDepth 20000 in
theorem ggX7_share_X3_thousandths : GoodIn wsX7_share wsX3_thousandths := goodIn_ca (goodIn_ca (goodIn_r _ [24, 25, 26, 27, 28, 23, 29, 49] (by decide +kernel) (by decide +kernel)) (goodIn_sub (fun _ h => List.mem_cons_of_mem _ (List.mem_append_left _ (List.mem_append_right _ h))) (by decide +kernel))) (goodIn_sub (fun _ h => List.mem_cons_of_mem _ (List.mem_append_right _ h)) (by decide +kernel))
set_option maxRecDepth 20000 in
theorem gX7_share_X3_thousandths : GoodIn wsX7_share (wsV RX7 197 RX3 yX3_thousandths wsX3_thousandths) := goodIn_app (goodIn_of _ (by decide +kernel)) ggX7_share_X3_thousandths
theorem dX7_share_0 : decode cX7_share 0 = .ok (.iload_n 1, 1) := by decide +kernel
theorem dX7_share_1 : decode cX7_share 1 = .ok (.aload_n 0, 1) := by decide +kernel
theorem dX7_share_2 : decode cX7_share 2 = .ok (.getfield 10, 3) := by decide +kernel
theorem dX7_share_5 : decode cX7_share 5 = .ok (.getfield 191, 3) := by decide +kernel
theorem dX7_share_8 : decode cX7_share 8 = .ok (.invokestatic 117, 3) := by decide +kernel
theorem dX7_share_11 : decode cX7_share 11 = .ok (.aload_n 0, 1) := by decide +kernel
theorem dX7_share_12 : decode cX7_share 12 = .ok (.getfield 10, 3) := by decide +kernel
theorem dX7_share_15 : decode cX7_share 15 = .ok (.getfield 194, 3) := by decide +kernel
theorem dX7_share_18 : decode cX7_share 18 = .ok (.iload_n 1, 1) := by decide +kernel
theorem dX7_share_19 : decode cX7_share 19 = .ok (.aaload, 1) := by decide +kernel
theorem dX7_share_20 : decode cX7_share 20 = .ok (.iload_n 2, 1) := by decide +kernel
theorem dX7_share_21 : decode cX7_share 21 = .ok (.invokestatic 137, 3) := by decide +kernel
theorem dX7_share_24 : decode cX7_share 24 = .ok (.invokevirtual 197, 3) := by decide +kernel
theorem dX7_share_27 : decode cX7_share 27 = .ok (.ireturn, 1) := by decide +kernel
set_option maxRecDepth 20000 in
theorem ggX7_grade_X7_requireIndex : GoodIn wsX7_grade wsX7_requireIndex := goodIn_ca (goodIn_r _ [5, 6, 7, 8, 9, 4, 10] (by decide +kernel) (by decide +kernel)) (goodIn_sub (fun _ h => List.mem_cons_of_mem _ (List.mem_append_left _ (List.mem_append_left _ (List.mem_append_right _ h)))) (by decide +kernel))
set_option maxRecDepth 20000 in
theorem gX7_grade_X7_requireIndex : GoodIn wsX7_grade (va_wsS RX7 117 yX7_requireIndex wsX7_requireIndex) := goodIn_app (goodIn_of _ (by decide +kernel)) ggX7_grade_X7_requireIndex
set_option maxRecDepth 20000 in
theorem ggX7_grade_X3_quality : GoodIn wsX7_grade wsX3_quality := goodIn_ca (goodIn_ca (goodIn_r _ [15, 16, 17, 18, 14, 19, 20, 21, 22, 23, 24, 44] (by decide +kernel) (by decide +kernel)) (goodIn_sub (fun _ h => List.mem_cons_of_mem _ (List.mem_append_left _ (List.mem_append_right _ h))) (by decide +kernel))) (goodIn_sub (fun _ h => List.mem_cons_of_mem _ (List.mem_append_right _ h)) (by decide +kernel))
set_option maxRecDepth 20000 in
theorem gX7_grade_X3_quality : GoodIn wsX7_grade (wsV RX7 200 RX3 yX3_quality wsX3_quality) := goodIn_app (goodIn_of _ (by decide +kernel)) ggX7_grade_X3_quality
theorem dX7_grade_0 : decode cX7_grade 0 = .ok (.iload_n 1, 1) := by decide +kernel
theorem dX7_grade_1 : decode cX7_grade 1 = .ok (.aload_n 0, 1) := by decide +kernel
theorem dX7_grade_2 : decode cX7_grade 2 = .ok (.getfield 10, 3) := by decide +kernel
theorem dX7_grade_5 : decode cX7_grade 5 = .ok (.getfield 191, 3) := by decide +kernel
theorem dX7_grade_8 : decode cX7_grade 8 = .ok (.invokestatic 117, 3) := by decide +kernel
theorem dX7_grade_11 : decode cX7_grade 11 = .ok (.aload_n 0, 1) := by decide +kernel
theorem dX7_grade_12 : decode cX7_grade 12 = .ok (.getfield 10, 3) := by decide +kernel
theorem dX7_grade_15 : decode cX7_grade 15 = .ok (.getfield 194, 3) := by decide +kernel
theorem dX7_grade_18 : decode cX7_grade 18 = .ok (.iload_n 1, 1) := by decide +kernel
theorem dX7_grade_19 : decode cX7_grade 19 = .ok (.aaload, 1) := by decide +kernel
theorem dX7_grade_20 : decode cX7_grade 20 = .ok (.invokevirtual 200, 3) := by decide +kernel
theorem dX7_grade_23 : decode cX7_grade 23 = .ok (.ireturn, 1) := by decide +kernel
set_option maxRecDepth 20000 in
theorem ggX7_ingotByMass_X4_rankOfIngot : GoodIn wsX7_ingotByMass wsX4_rankOfIngot := goodIn_ca (goodIn_r _ [8, 9, 10, 11, 12, 7, 13, 14, 15, 16, 17, 18, 19, 20, 29, 30, 31, 32, 33, 34, 35, 36, 37, 38, 39, 40] (by decide +kernel) (by decide +kernel)) (goodIn_sub (fun _ h => List.mem_cons_of_mem _ (List.mem_append_right _ h)) (by decide +kernel))
set_option maxRecDepth 20000 in
theorem gX7_ingotByMass_X4_rankOfIngot : GoodIn wsX7_ingotByMass (wsV RX7 204 RX4 yX4_rankOfIngot wsX4_rankOfIngot) := goodIn_app (goodIn_of _ (by decide +kernel)) ggX7_ingotByMass_X4_rankOfIngot
theorem dX7_ingotByMass_0 : decode cX7_ingotByMass 0 = .ok (.iconst 0, 1) := by decide +kernel
theorem dX7_ingotByMass_1 : decode cX7_ingotByMass 1 = .ok (.istore_n 2, 1) := by decide +kernel
theorem dX7_ingotByMass_2 : decode cX7_ingotByMass 2 = .ok (.iload_n 2, 1) := by decide +kernel
theorem dX7_ingotByMass_3 : decode cX7_ingotByMass 3 = .ok (.aload_n 0, 1) := by decide +kernel
theorem dX7_ingotByMass_4 : decode cX7_ingotByMass 4 = .ok (.getfield 10, 3) := by decide +kernel
theorem dX7_ingotByMass_7 : decode cX7_ingotByMass 7 = .ok (.getfield 191, 3) := by decide +kernel
theorem dX7_ingotByMass_10 : decode cX7_ingotByMass 10 = .ok (.if_icmp .ge 23, 3) := by decide +kernel
theorem dX7_ingotByMass_13 : decode cX7_ingotByMass 13 = .ok (.aload_n 0, 1) := by decide +kernel
theorem dX7_ingotByMass_14 : decode cX7_ingotByMass 14 = .ok (.getfield 10, 3) := by decide +kernel
theorem dX7_ingotByMass_17 : decode cX7_ingotByMass 17 = .ok (.iload_n 2, 1) := by decide +kernel
theorem dX7_ingotByMass_18 : decode cX7_ingotByMass 18 = .ok (.invokevirtual 204, 3) := by decide +kernel
theorem dX7_ingotByMass_21 : decode cX7_ingotByMass 21 = .ok (.iload_n 1, 1) := by decide +kernel
theorem dX7_ingotByMass_22 : decode cX7_ingotByMass 22 = .ok (.if_icmp .ne 5, 3) := by decide +kernel
theorem dX7_ingotByMass_25 : decode cX7_ingotByMass 25 = .ok (.iload_n 2, 1) := by decide +kernel
theorem dX7_ingotByMass_26 : decode cX7_ingotByMass 26 = .ok (.ireturn, 1) := by decide +kernel
theorem dX7_ingotByMass_27 : decode cX7_ingotByMass 27 = .ok (.iinc 2 1, 3) := by decide +kernel
theorem dX7_ingotByMass_30 : decode cX7_ingotByMass 30 = .ok (.goto (-28), 3) := by decide +kernel
theorem dX7_ingotByMass_33 : decode cX7_ingotByMass 33 = .ok (.new 108, 3) := by decide +kernel
theorem dX7_ingotByMass_36 : decode cX7_ingotByMass 36 = .ok (.dup, 1) := by decide +kernel
theorem dX7_ingotByMass_37 : decode cX7_ingotByMass 37 = .ok (.invokespecial 110, 3) := by decide +kernel
theorem dX7_ingotByMass_40 : decode cX7_ingotByMass 40 = .ok (.athrow, 1) := by decide +kernel
theorem dX7_time_0 : decode cX7_time 0 = .ok (.aload_n 0, 1) := by decide +kernel
theorem dX7_time_1 : decode cX7_time 1 = .ok (.getfield 10, 3) := by decide +kernel
theorem dX7_time_4 : decode cX7_time 4 = .ok (.getfield 207, 3) := by decide +kernel
theorem dX7_time_7 : decode cX7_time 7 = .ok (.ireturn, 1) := by decide +kernel
set_option maxRecDepth 20000 in
theorem ggX7_charged_X7_requireMaterial : GoodIn wsX7_charged wsX7_requireMaterial := goodIn_ca (goodIn_ca (goodIn_r _ [5, 6, 7, 8, 9, 4, 10, 11] (by decide +kernel) (by decide +kernel)) (goodIn_sub (fun _ h => List.mem_cons_of_mem _ (List.mem_append_right _ h)) (by decide +kernel))) (goodIn_sub (fun _ h => List.mem_cons_of_mem _ (List.mem_append_left _ (List.mem_append_right _ h))) (by decide +kernel))
set_option maxRecDepth 20000 in
theorem gX7_charged_X7_requireMaterial : GoodIn wsX7_charged (va_wsS RX7 137 yX7_requireMaterial wsX7_requireMaterial) := goodIn_app (goodIn_of _ (by decide +kernel)) ggX7_charged_X7_requireMaterial
theorem dX7_charged_0 : decode cX7_charged 0 = .ok (.aload_n 0, 1) := by decide +kernel
theorem dX7_charged_1 : decode cX7_charged 1 = .ok (.getfield 10, 3) := by decide +kernel
theorem dX7_charged_4 : decode cX7_charged 4 = .ok (.getfield 210, 3) := by decide +kernel
theorem dX7_charged_7 : decode cX7_charged 7 = .ok (.getfield 131, 3) := by decide +kernel
theorem dX7_charged_10 : decode cX7_charged 10 = .ok (.iload_n 1, 1) := by decide +kernel
theorem dX7_charged_11 : decode cX7_charged 11 = .ok (.invokestatic 137, 3) := by decide +kernel
theorem dX7_charged_14 : decode cX7_charged 14 = .ok (.iaload, 1) := by decide +kernel
theorem dX7_charged_15 : decode cX7_charged 15 = .ok (.ireturn, 1) := by decide +kernel
set_option maxRecDepth 20000 in
theorem ggX7_slag_X7_requireMaterial : GoodIn wsX7_slag wsX7_requireMaterial := goodIn_ca (goodIn_ca (goodIn_r _ [5, 6, 7, 8, 9, 4, 10, 11] (by decide +kernel) (by decide +kernel)) (goodIn_sub (fun _ h => List.mem_cons_of_mem _ (List.mem_append_right _ h)) (by decide +kernel))) (goodIn_sub (fun _ h => List.mem_cons_of_mem _ (List.mem_append_left _ (List.mem_append_right _ h))) (by decide +kernel))
set_option maxRecDepth 20000 in
theorem gX7_slag_X7_requireMaterial : GoodIn wsX7_slag (va_wsS RX7 137 yX7_requireMaterial wsX7_requireMaterial) := goodIn_app (goodIn_of _ (by decide +kernel)) ggX7_slag_X7_requireMaterial
theorem dX7_slag_0 : decode cX7_slag 0 = .ok (.aload_n 0, 1) := by decide +kernel
theorem dX7_slag_1 : decode cX7_slag 1 = .ok (.getfield 10, 3) := by decide +kernel
theorem dX7_slag_4 : decode cX7_slag 4 = .ok (.getfield 213, 3) := by decide +kernel
theorem dX7_slag_7 : decode cX7_slag 7 = .ok (.getfield 131, 3) := by decide +kernel
theorem dX7_slag_10 : decode cX7_slag 10 = .ok (.iload_n 1, 1) := by decide +kernel
theorem dX7_slag_11 : decode cX7_slag 11 = .ok (.invokestatic 137, 3) := by decide +kernel
theorem dX7_slag_14 : decode cX7_slag 14 = .ok (.iaload, 1) := by decide +kernel
theorem dX7_slag_15 : decode cX7_slag 15 = .ok (.ireturn, 1) := by decide +kernel
set_option maxRecDepth 20000 in
theorem ggX7_stock_X7_requireMaterial : GoodIn wsX7_stock wsX7_requireMaterial := goodIn_ca (goodIn_ca (goodIn_r _ [5, 6, 7, 8, 9, 4, 10, 11] (by decide +kernel) (by decide +kernel)) (goodIn_sub (fun _ h => List.mem_cons_of_mem _ (List.mem_append_left _ (List.mem_append_right _ h))) (by decide +kernel))) (goodIn_sub (fun _ h => List.mem_cons_of_mem _ (List.mem_append_right _ h)) (by decide +kernel))
set_option maxRecDepth 20000 in
theorem gX7_stock_X7_requireMaterial : GoodIn wsX7_stock (va_wsS RX7 137 yX7_requireMaterial wsX7_requireMaterial) := goodIn_app (goodIn_of _ (by decide +kernel)) ggX7_stock_X7_requireMaterial
set_option maxRecDepth 20000 in
theorem ggX7_stock_X4_stockInPlaces : GoodIn wsX7_stock wsX4_stockInPlaces := goodIn_ca (goodIn_r _ [16, 17, 18, 19, 20, 21, 22, 31, 32, 33, 34, 35, 36, 37, 38, 39, 40, 41, 42, 43, 44, 45] (by decide +kernel) (by decide +kernel)) (goodIn_sub (fun _ h => List.mem_cons_of_mem _ (List.mem_append_right _ h)) (by decide +kernel))
set_option maxRecDepth 20000 in
theorem gX7_stock_X4_stockInPlaces : GoodIn wsX7_stock (wsV RX7 216 RX4 yX4_stockInPlaces wsX4_stockInPlaces) := goodIn_app (goodIn_of _ (by decide +kernel)) ggX7_stock_X4_stockInPlaces
theorem dX7_stock_0 : decode cX7_stock 0 = .ok (.aload_n 0, 1) := by decide +kernel
theorem dX7_stock_1 : decode cX7_stock 1 = .ok (.getfield 10, 3) := by decide +kernel
theorem dX7_stock_4 : decode cX7_stock 4 = .ok (.iload_n 1, 1) := by decide +kernel
theorem dX7_stock_5 : decode cX7_stock 5 = .ok (.invokestatic 137, 3) := by decide +kernel
theorem dX7_stock_8 : decode cX7_stock 8 = .ok (.invokevirtual 216, 3) := by decide +kernel
theorem dX7_stock_11 : decode cX7_stock 11 = .ok (.ireturn, 1) := by decide +kernel
set_option maxRecDepth 20000 in
theorem ggX7_stockByAccounts_X7_requireMaterial : GoodIn wsX7_stockByAccounts wsX7_requireMaterial := goodIn_ca (goodIn_ca (goodIn_r _ [5, 6, 7, 8, 9, 4, 10, 11] (by decide +kernel) (by decide +kernel)) (goodIn_sub (fun _ h => List.mem_cons_of_mem _ (List.mem_append_left _ (List.mem_append_right _ h))) (by decide +kernel))) (goodIn_sub (fun _ h => List.mem_cons_of_mem _ (List.mem_append_right _ h)) (by decide +kernel))
set_option maxRecDepth 20000 in
theorem gX7_stockByAccounts_X7_requireMaterial : GoodIn wsX7_stockByAccounts (va_wsS RX7 137 yX7_requireMaterial wsX7_requireMaterial) := goodIn_app (goodIn_of _ (by decide +kernel)) ggX7_stockByAccounts_X7_requireMaterial
set_option maxRecDepth 20000 in
theorem ggX7_stockByAccounts_X4_stockInAccounts : GoodIn wsX7_stockByAccounts wsX4_stockInAccounts := goodIn_ca (goodIn_r _ [16, 17, 18, 27, 28, 29, 30, 31, 32, 33, 34, 35, 36, 37, 38] (by decide +kernel) (by decide +kernel)) (goodIn_sub (fun _ h => List.mem_cons_of_mem _ (List.mem_append_right _ h)) (by decide +kernel))
set_option maxRecDepth 20000 in
theorem gX7_stockByAccounts_X4_stockInAccounts : GoodIn wsX7_stockByAccounts (wsV RX7 219 RX4 yX4_stockInAccounts wsX4_stockInAccounts) := goodIn_app (goodIn_of _ (by decide +kernel)) ggX7_stockByAccounts_X4_stockInAccounts
theorem dX7_stockByAccounts_0 : decode cX7_stockByAccounts 0 = .ok (.aload_n 0, 1) := by decide +kernel
theorem dX7_stockByAccounts_1 : decode cX7_stockByAccounts 1 = .ok (.getfield 10, 3) := by decide +kernel
theorem dX7_stockByAccounts_4 : decode cX7_stockByAccounts 4 = .ok (.iload_n 1, 1) := by decide +kernel
theorem dX7_stockByAccounts_5 : decode cX7_stockByAccounts 5 = .ok (.invokestatic 137, 3) := by decide +kernel
theorem dX7_stockByAccounts_8 : decode cX7_stockByAccounts 8 = .ok (.invokevirtual 219, 3) := by decide +kernel
theorem dX7_stockByAccounts_11 : decode cX7_stockByAccounts 11 = .ok (.ireturn, 1) := by decide +kernel
theorem dX7_meanTemperature_0 : decode cX7_meanTemperature 0 = .ok (.iconst 0, 1) := by decide +kernel
theorem dX7_meanTemperature_1 : decode cX7_meanTemperature 1 = .ok (.istore_n 1, 1) := by decide +kernel
theorem dX7_meanTemperature_2 : decode cX7_meanTemperature 2 = .ok (.iconst 0, 1) := by decide +kernel
theorem dX7_meanTemperature_3 : decode cX7_meanTemperature 3 = .ok (.istore_n 2, 1) := by decide +kernel
theorem dX7_meanTemperature_4 : decode cX7_meanTemperature 4 = .ok (.iload_n 2, 1) := by decide +kernel
theorem dX7_meanTemperature_5 : decode cX7_meanTemperature 5 = .ok (.iconst 3, 1) := by decide +kernel
theorem dX7_meanTemperature_6 : decode cX7_meanTemperature 6 = .ok (.if_icmp .ge 24, 3) := by decide +kernel
theorem dX7_meanTemperature_9 : decode cX7_meanTemperature 9 = .ok (.iload_n 1, 1) := by decide +kernel
theorem dX7_meanTemperature_10 : decode cX7_meanTemperature 10 = .ok (.aload_n 0, 1) := by decide +kernel
theorem dX7_meanTemperature_11 : decode cX7_meanTemperature 11 = .ok (.getfield 10, 3) := by decide +kernel
theorem dX7_meanTemperature_14 : decode cX7_meanTemperature 14 = .ok (.getfield 121, 3) := by decide +kernel
theorem dX7_meanTemperature_17 : decode cX7_meanTemperature 17 = .ok (.iload_n 2, 1) := by decide +kernel
theorem dX7_meanTemperature_18 : decode cX7_meanTemperature 18 = .ok (.aaload, 1) := by decide +kernel
theorem dX7_meanTemperature_19 : decode cX7_meanTemperature 19 = .ok (.getfield 145, 3) := by decide +kernel
theorem dX7_meanTemperature_22 : decode cX7_meanTemperature 22 = .ok (.iadd, 1) := by decide +kernel
theorem dX7_meanTemperature_23 : decode cX7_meanTemperature 23 = .ok (.istore_n 1, 1) := by decide +kernel
theorem dX7_meanTemperature_24 : decode cX7_meanTemperature 24 = .ok (.iinc 2 1, 3) := by decide +kernel
theorem dX7_meanTemperature_27 : decode cX7_meanTemperature 27 = .ok (.goto (-23), 3) := by decide +kernel
theorem dX7_meanTemperature_30 : decode cX7_meanTemperature 30 = .ok (.iload_n 1, 1) := by decide +kernel
theorem dX7_meanTemperature_31 : decode cX7_meanTemperature 31 = .ok (.i2d, 1) := by decide +kernel
theorem dX7_meanTemperature_32 : decode cX7_meanTemperature 32 = .ok (.ldc2_w 222, 3) := by decide +kernel
theorem dX7_meanTemperature_35 : decode cX7_meanTemperature 35 = .ok (.ddiv, 1) := by decide +kernel
theorem dX7_meanTemperature_36 : decode cX7_meanTemperature 36 = .ok (.dreturn, 1) := by decide +kernel
set_option maxRecDepth 20000 in
theorem ggX7_slagRate_X3_sum : GoodIn wsX7_slagRate wsX3_sum := goodIn_ca (goodIn_r _ [8, 9, 29] (by decide +kernel) (by decide +kernel)) (goodIn_sub (fun _ h => List.mem_cons_of_mem _ (List.mem_append_right _ h)) (by decide +kernel))
set_option maxRecDepth 20000 in
theorem gX7_slagRate_X3_sum : GoodIn wsX7_slagRate (wsV RX7 141 RX3 yX3_sum wsX3_sum) := goodIn_app (goodIn_of _ (by decide +kernel)) ggX7_slagRate_X3_sum
theorem dX7_slagRate_0 : decode cX7_slagRate 0 = .ok (.aload_n 0, 1) := by decide +kernel
theorem dX7_slagRate_1 : decode cX7_slagRate 1 = .ok (.getfield 10, 3) := by decide +kernel
theorem dX7_slagRate_4 : decode cX7_slagRate 4 = .ok (.getfield 210, 3) := by decide +kernel
theorem dX7_slagRate_7 : decode cX7_slagRate 7 = .ok (.invokevirtual 141, 3) := by decide +kernel
theorem dX7_slagRate_10 : decode cX7_slagRate 10 = .ok (.istore_n 1, 1) := by decide +kernel
theorem dX7_slagRate_11 : decode cX7_slagRate 11 = .ok (.iload_n 1, 1) := by decide +kernel
theorem dX7_slagRate_12 : decode cX7_slagRate 12 = .ok (.ifCond .ne 11, 3) := by decide +kernel
theorem dX7_slagRate_15 : decode cX7_slagRate 15 = .ok (.new 224, 3) := by decide +kernel
theorem dX7_slagRate_18 : decode cX7_slagRate 18 = .ok (.dup, 1) := by decide +kernel
theorem dX7_slagRate_19 : decode cX7_slagRate 19 = .ok (.invokespecial 226, 3) := by decide +kernel
theorem dX7_slagRate_22 : decode cX7_slagRate 22 = .ok (.athrow, 1) := by decide +kernel
theorem dX7_slagRate_23 : decode cX7_slagRate 23 = .ok (.aload_n 0, 1) := by decide +kernel
theorem dX7_slagRate_24 : decode cX7_slagRate 24 = .ok (.getfield 10, 3) := by decide +kernel
theorem dX7_slagRate_27 : decode cX7_slagRate 27 = .ok (.getfield 213, 3) := by decide +kernel
theorem dX7_slagRate_30 : decode cX7_slagRate 30 = .ok (.invokevirtual 141, 3) := by decide +kernel
theorem dX7_slagRate_33 : decode cX7_slagRate 33 = .ok (.i2f, 1) := by decide +kernel
theorem dX7_slagRate_34 : decode cX7_slagRate 34 = .ok (.iload_n 1, 1) := by decide +kernel
theorem dX7_slagRate_35 : decode cX7_slagRate 35 = .ok (.i2f, 1) := by decide +kernel
theorem dX7_slagRate_36 : decode cX7_slagRate 36 = .ok (.fdiv, 1) := by decide +kernel
theorem dX7_slagRate_37 : decode cX7_slagRate 37 = .ok (.freturn, 1) := by decide +kernel
set_option maxRecDepth 20000 in
theorem ggX7_isConsistent_X4_furnaceAgrees : GoodIn wsX7_isConsistent wsX4_furnaceAgrees := goodIn_ca (goodIn_ca (goodIn_r _ [6, 7, 8, 9, 10, 11, 12, 13, 14, 15, 16, 17, 18, 19, 20, 21, 22, 23, 24, 5, 25, 26, 27, 28, 29, 30, 31, 32, 33, 34, 35, 36, 37, 38, 39, 40, 41, 42, 43, 44, 45, 46, 47, 48, 49, 50, 51, 75, 76, 77, 78, 79, 80, 81, 82, 83, 84, 85, 86, 87, 88, 89] (by decide +kernel) (by decide +kernel)) (goodIn_sub (fun _ h => List.mem_cons_of_mem _ (List.mem_append_left _ (List.mem_append_right _ h))) (by decide +kernel))) (goodIn_sub (fun _ h => List.mem_cons_of_mem _ (List.mem_append_right _ h)) (by decide +kernel))
set_option maxRecDepth 20000 in
theorem gX7_isConsistent_X4_furnaceAgrees : GoodIn wsX7_isConsistent (wsV RX7 227 RX4 yX4_furnaceAgrees wsX4_furnaceAgrees) := goodIn_app (goodIn_of _ (by decide +kernel)) ggX7_isConsistent_X4_furnaceAgrees
set_option maxRecDepth 20000 in
theorem ggX7_isConsistent_X4_stockInPlaces : GoodIn wsX7_isConsistent wsX4_stockInPlaces := goodIn_ca (goodIn_r _ [55, 7, 56, 57, 58, 59, 60, 75, 76, 77, 78, 79, 80, 81, 82, 83, 84, 85, 86, 87, 88, 89] (by decide +kernel) (by decide +kernel)) (goodIn_sub (fun _ h => List.mem_cons_of_mem _ (List.mem_append_left _ (List.mem_append_right _ h))) (by decide +kernel))
set_option maxRecDepth 20000 in
theorem gX7_isConsistent_X4_stockInPlaces : GoodIn wsX7_isConsistent (wsV RX7 216 RX4 yX4_stockInPlaces wsX4_stockInPlaces) := goodIn_app (goodIn_of _ (by decide +kernel)) ggX7_isConsistent_X4_stockInPlaces
set_option maxRecDepth 20000 in
theorem ggX7_isConsistent_X4_stockInAccounts : GoodIn wsX7_isConsistent wsX4_stockInAccounts := goodIn_ca (goodIn_r _ [64, 65, 66, 75, 76, 77, 78, 79, 80, 81, 82, 83, 84, 85, 89] (by decide +kernel) (by decide +kernel)) (goodIn_sub (fun _ h => List.mem_cons_of_mem _ (List.mem_append_left _ (List.mem_append_right _ h))) (by decide +kernel))
set_option maxRecDepth 20000 in
theorem gX7_isConsistent_X4_stockInAccounts : GoodIn wsX7_isConsistent (wsV RX7 219 RX4 yX4_stockInAccounts wsX4_stockInAccounts) := goodIn_app (goodIn_of _ (by decide +kernel)) ggX7_isConsistent_X4_stockInAccounts
theorem dX7_isConsistent_0 : decode cX7_isConsistent 0 = .ok (.iconst 0, 1) := by decide +kernel
theorem dX7_isConsistent_1 : decode cX7_isConsistent 1 = .ok (.istore_n 1, 1) := by decide +kernel
theorem dX7_isConsistent_2 : decode cX7_isConsistent 2 = .ok (.iload_n 1, 1) := by decide +kernel
theorem dX7_isConsistent_3 : decode cX7_isConsistent 3 = .ok (.iconst 3, 1) := by decide +kernel
theorem dX7_isConsistent_4 : decode cX7_isConsistent 4 = .ok (.if_icmp .ge 22, 3) := by decide +kernel
theorem dX7_isConsistent_7 : decode cX7_isConsistent 7 = .ok (.aload_n 0, 1) := by decide +kernel
theorem dX7_isConsistent_8 : decode cX7_isConsistent 8 = .ok (.getfield 10, 3) := by decide +kernel
theorem dX7_isConsistent_11 : decode cX7_isConsistent 11 = .ok (.iload_n 1, 1) := by decide +kernel
theorem dX7_isConsistent_12 : decode cX7_isConsistent 12 = .ok (.invokevirtual 227, 3) := by decide +kernel
theorem dX7_isConsistent_15 : decode cX7_isConsistent 15 = .ok (.ifCond .ne 5, 3) := by decide +kernel
theorem dX7_isConsistent_18 : decode cX7_isConsistent 18 = .ok (.iconst 0, 1) := by decide +kernel
theorem dX7_isConsistent_19 : decode cX7_isConsistent 19 = .ok (.ireturn, 1) := by decide +kernel
theorem dX7_isConsistent_20 : decode cX7_isConsistent 20 = .ok (.iinc 1 1, 3) := by decide +kernel
theorem dX7_isConsistent_23 : decode cX7_isConsistent 23 = .ok (.goto (-21), 3) := by decide +kernel
theorem dX7_isConsistent_26 : decode cX7_isConsistent 26 = .ok (.iconst 0, 1) := by decide +kernel
theorem dX7_isConsistent_27 : decode cX7_isConsistent 27 = .ok (.istore_n 1, 1) := by decide +kernel
theorem dX7_isConsistent_28 : decode cX7_isConsistent 28 = .ok (.iload_n 1, 1) := by decide +kernel
theorem dX7_isConsistent_29 : decode cX7_isConsistent 29 = .ok (.iconst 4, 1) := by decide +kernel
theorem dX7_isConsistent_30 : decode cX7_isConsistent 30 = .ok (.if_icmp .ge 30, 3) := by decide +kernel
theorem dX7_isConsistent_33 : decode cX7_isConsistent 33 = .ok (.aload_n 0, 1) := by decide +kernel
theorem dX7_isConsistent_34 : decode cX7_isConsistent 34 = .ok (.getfield 10, 3) := by decide +kernel
theorem dX7_isConsistent_37 : decode cX7_isConsistent 37 = .ok (.iload_n 1, 1) := by decide +kernel
theorem dX7_isConsistent_38 : decode cX7_isConsistent 38 = .ok (.invokevirtual 216, 3) := by decide +kernel
theorem dX7_isConsistent_41 : decode cX7_isConsistent 41 = .ok (.aload_n 0, 1) := by decide +kernel
theorem dX7_isConsistent_42 : decode cX7_isConsistent 42 = .ok (.getfield 10, 3) := by decide +kernel
theorem dX7_isConsistent_45 : decode cX7_isConsistent 45 = .ok (.iload_n 1, 1) := by decide +kernel
theorem dX7_isConsistent_46 : decode cX7_isConsistent 46 = .ok (.invokevirtual 219, 3) := by decide +kernel
theorem dX7_isConsistent_49 : decode cX7_isConsistent 49 = .ok (.if_icmp .eq 5, 3) := by decide +kernel
theorem dX7_isConsistent_52 : decode cX7_isConsistent 52 = .ok (.iconst 0, 1) := by decide +kernel
theorem dX7_isConsistent_53 : decode cX7_isConsistent 53 = .ok (.ireturn, 1) := by decide +kernel
theorem dX7_isConsistent_54 : decode cX7_isConsistent 54 = .ok (.iinc 1 1, 3) := by decide +kernel
theorem dX7_isConsistent_57 : decode cX7_isConsistent 57 = .ok (.goto (-29), 3) := by decide +kernel
theorem dX7_isConsistent_60 : decode cX7_isConsistent 60 = .ok (.iconst 1, 1) := by decide +kernel
theorem dX7_isConsistent_61 : decode cX7_isConsistent 61 = .ok (.ireturn, 1) := by decide +kernel
set_option maxRecDepth 20000 in
theorem ggX7_renderFurnace_X7_requireIndex : GoodIn wsX7_renderFurnace wsX7_requireIndex := goodIn_ca (goodIn_r _ [7, 8, 9, 10, 11, 6, 12] (by decide +kernel) (by decide +kernel)) (goodIn_sub (fun _ h => List.mem_cons_of_mem _ (List.mem_append_right _ h)) (by decide +kernel))
set_option maxRecDepth 20000 in
theorem gX7_renderFurnace_X7_requireIndex : GoodIn wsX7_renderFurnace (va_wsS RX7 117 yX7_requireIndex wsX7_requireIndex) := goodIn_app (goodIn_of _ (by decide +kernel)) ggX7_renderFurnace_X7_requireIndex
set_option maxRecDepth 20000 in
theorem ggX7_renderFurnace_J4_setLength_d00df : GoodIn wsX7_renderFurnace wsJ4_setLength_d00df := goodIn_r _ [17, 18, 19, 20, 21, 22, 23, 24, 25, 26, 27, 28, 29, 30, 31, 32, 33, 34, 35, 36, 37, 38, 39, 40, 41, 42, 43, 44, 45, 46, 47, 48, 49, 50, 51, 52, 53, 54, 55, 56, 57, 58, 59, 60, 61, 62, 63, 64, 65, 66, 67, 68, 69, 70, 71, 72, 73, 74, 75, 76, 77, 78, 79, 80, 81, 82, 83, 84, 85, 86, 87, 88, 89, 16, 90, 91, 92, 93, 94, 95, 96, 97, 225, 226, 227, 228, 229, 230, 231, 232, 233, 234, 235, 236, 237, 238, 239, 240] (by decide +kernel) (by decide +kernel)
set_option maxRecDepth 20000 in
theorem gX7_renderFurnace_J4_setLength_d00df : GoodIn wsX7_renderFurnace (wsV RX7 231 RJ4 yJ4_setLength_d00df wsJ4_setLength_d00df) := goodIn_app (goodIn_of _ (by decide +kernel)) ggX7_renderFurnace_J4_setLength_d00df
set_option maxRecDepth 20000 in
theorem ggX7_renderFurnace_J4_append_cf468 : GoodIn wsX7_renderFurnace wsJ4_append_cf468 := goodIn_r _ [101, 102, 103, 20, 104, 22, 105, 27, 28, 30, 31, 32, 33, 34, 35, 36, 37, 38, 39, 40, 41, 42, 43, 44, 45, 46, 47, 48, 49, 50, 51, 52, 53, 54, 55, 56, 57, 58, 59, 60, 61, 62, 63, 64, 65, 66, 67, 68, 69, 70, 71, 72, 73, 74, 75, 76, 77, 106, 107, 80, 108, 109, 110, 111, 112, 113, 114, 115, 95, 116, 117, 118, 119, 120, 121, 122, 123, 124, 125, 126, 127, 128, 129, 130, 131, 132, 133, 134, 135, 136, 137, 138, 139, 140, 141, 142, 143, 144, 145, 146, 147, 148, 149, 150, 151, 152, 153, 154, 155, 156, 157, 158, 159, 231, 232, 233, 234] (by decide +kernel) (by decide +kernel)
set_option maxRecDepth 20000 in
theorem gX7_renderFurnace_J4_append_cf468 : GoodIn wsX7_renderFurnace (wsV RX7 238 RJ4 yJ4_append_cf468 wsJ4_append_cf468) := goodIn_app (goodIn_of _ (by decide +kernel)) ggX7_renderFurnace_J4_append_cf468
set_option maxRecDepth 20000 in
theorem ggX7_renderFurnace_J4_append_bf812 : GoodIn wsX7_renderFurnace wsJ4_append_bf812 := goodIn_r _ [163, 164, 165, 20, 166, 22, 167, 27, 28, 168, 169, 170, 171, 30, 31, 32, 33, 34, 35, 36, 37, 38, 39, 40, 41, 42, 43, 44, 45, 46, 47, 48, 49, 50, 51, 52, 53, 54, 55, 56, 57, 58, 59, 60, 61, 62, 63, 64, 65, 66, 67, 68, 69, 70, 71, 72, 73, 74, 75, 76, 77, 172, 173, 174, 175, 176, 177, 178, 95, 179, 145, 180, 181, 182, 130, 131, 132, 183, 184, 135, 185, 137, 186, 187, 140, 188, 189, 190, 191, 192, 193, 142, 143, 144, 146, 147, 231, 232, 233, 234] (by decide +kernel) (by decide +kernel)
set_option maxRecDepth 20000 in
theorem gX7_renderFurnace_J4_append_bf812 : GoodIn wsX7_renderFurnace (wsV RX7 242 RJ4 yJ4_append_bf812 wsJ4_append_bf812) := goodIn_app (goodIn_of _ (by decide +kernel)) ggX7_renderFurnace_J4_append_bf812
set_option maxRecDepth 20000 in
theorem ggX7_renderFurnace_J4_length_8abf5 : GoodIn wsX7_renderFurnace wsJ4_length_8abf5 := goodIn_r _ [197, 198, 199, 20, 200, 22, 201, 27, 231, 232, 233, 234] (by decide +kernel) (by decide +kernel)
set_option maxRecDepth 20000 in
theorem gX7_renderFurnace_J4_length_8abf5 : GoodIn wsX7_renderFurnace (wsV RX7 245 RJ4 yJ4_length_8abf5 wsJ4_length_8abf5) := goodIn_app (goodIn_of _ (by decide +kernel)) ggX7_renderFurnace_J4_length_8abf5
theorem dX7_renderFurnace_0 : decode cX7_renderFurnace 0 = .ok (.iload_n 1, 1) := by decide +kernel
theorem dX7_renderFurnace_1 : decode cX7_renderFurnace 1 = .ok (.iconst 3, 1) := by decide +kernel
theorem dX7_renderFurnace_2 : decode cX7_renderFurnace 2 = .ok (.invokestatic 117, 3) := by decide +kernel
theorem dX7_renderFurnace_5 : decode cX7_renderFurnace 5 = .ok (.aload_n 0, 1) := by decide +kernel
theorem dX7_renderFurnace_6 : decode cX7_renderFurnace 6 = .ok (.getfield 10, 3) := by decide +kernel
theorem dX7_renderFurnace_9 : decode cX7_renderFurnace 9 = .ok (.getfield 121, 3) := by decide +kernel
theorem dX7_renderFurnace_12 : decode cX7_renderFurnace 12 = .ok (.iload_n 1, 1) := by decide +kernel
theorem dX7_renderFurnace_13 : decode cX7_renderFurnace 13 = .ok (.aaload, 1) := by decide +kernel
theorem dX7_renderFurnace_14 : decode cX7_renderFurnace 14 = .ok (.astore_n 2, 1) := by decide +kernel
theorem dX7_renderFurnace_15 : decode cX7_renderFurnace 15 = .ok (.aload_n 0, 1) := by decide +kernel
theorem dX7_renderFurnace_16 : decode cX7_renderFurnace 16 = .ok (.getfield 47, 3) := by decide +kernel
theorem dX7_renderFurnace_19 : decode cX7_renderFurnace 19 = .ok (.iconst 0, 1) := by decide +kernel
theorem dX7_renderFurnace_20 : decode cX7_renderFurnace 20 = .ok (.invokevirtual 231, 3) := by decide +kernel
theorem dX7_renderFurnace_23 : decode cX7_renderFurnace 23 = .ok (.iconst 0, 1) := by decide +kernel
theorem dX7_renderFurnace_24 : decode cX7_renderFurnace 24 = .ok (.istore_n 3, 1) := by decide +kernel
theorem dX7_renderFurnace_25 : decode cX7_renderFurnace 25 = .ok (.iload_n 3, 1) := by decide +kernel
theorem dX7_renderFurnace_26 : decode cX7_renderFurnace 26 = .ok (.iconst 4, 1) := by decide +kernel
theorem dX7_renderFurnace_27 : decode cX7_renderFurnace 27 = .ok (.if_icmp .ge 43, 3) := by decide +kernel
theorem dX7_renderFurnace_30 : decode cX7_renderFurnace 30 = .ok (.aload_n 2, 1) := by decide +kernel
theorem dX7_renderFurnace_31 : decode cX7_renderFurnace 31 = .ok (.getfield 125, 3) := by decide +kernel
theorem dX7_renderFurnace_34 : decode cX7_renderFurnace 34 = .ok (.getfield 131, 3) := by decide +kernel
theorem dX7_renderFurnace_37 : decode cX7_renderFurnace 37 = .ok (.iload_n 3, 1) := by decide +kernel
theorem dX7_renderFurnace_38 : decode cX7_renderFurnace 38 = .ok (.iaload, 1) := by decide +kernel
theorem dX7_renderFurnace_39 : decode cX7_renderFurnace 39 = .ok (.istore 4, 2) := by decide +kernel
theorem dX7_renderFurnace_41 : decode cX7_renderFurnace 41 = .ok (.iload 4, 2) := by decide +kernel
theorem dX7_renderFurnace_43 : decode cX7_renderFurnace 43 = .ok (.ifCond .le 21, 3) := by decide +kernel
theorem dX7_renderFurnace_46 : decode cX7_renderFurnace 46 = .ok (.aload_n 0, 1) := by decide +kernel
theorem dX7_renderFurnace_47 : decode cX7_renderFurnace 47 = .ok (.getfield 47, 3) := by decide +kernel
theorem dX7_renderFurnace_50 : decode cX7_renderFurnace 50 = .ok (.getstatic 234, 3) := by decide +kernel
theorem dX7_renderFurnace_53 : decode cX7_renderFurnace 53 = .ok (.iload_n 3, 1) := by decide +kernel
theorem dX7_renderFurnace_54 : decode cX7_renderFurnace 54 = .ok (.caload, 1) := by decide +kernel
theorem dX7_renderFurnace_55 : decode cX7_renderFurnace 55 = .ok (.invokevirtual 238, 3) := by decide +kernel
theorem dX7_renderFurnace_58 : decode cX7_renderFurnace 58 = .ok (.iload 4, 2) := by decide +kernel
theorem dX7_renderFurnace_60 : decode cX7_renderFurnace 60 = .ok (.invokevirtual 242, 3) := by decide +kernel
theorem dX7_renderFurnace_63 : decode cX7_renderFurnace 63 = .ok (.pop, 1) := by decide +kernel
theorem dX7_renderFurnace_64 : decode cX7_renderFurnace 64 = .ok (.iinc 3 1, 3) := by decide +kernel
theorem dX7_renderFurnace_67 : decode cX7_renderFurnace 67 = .ok (.goto (-42), 3) := by decide +kernel
theorem dX7_renderFurnace_70 : decode cX7_renderFurnace 70 = .ok (.aload_n 0, 1) := by decide +kernel
theorem dX7_renderFurnace_71 : decode cX7_renderFurnace 71 = .ok (.getfield 47, 3) := by decide +kernel
theorem dX7_renderFurnace_74 : decode cX7_renderFurnace 74 = .ok (.bipush 64, 2) := by decide +kernel
theorem dX7_renderFurnace_76 : decode cX7_renderFurnace 76 = .ok (.invokevirtual 238, 3) := by decide +kernel
theorem dX7_renderFurnace_79 : decode cX7_renderFurnace 79 = .ok (.aload_n 2, 1) := by decide +kernel
theorem dX7_renderFurnace_80 : decode cX7_renderFurnace 80 = .ok (.getfield 145, 3) := by decide +kernel
theorem dX7_renderFurnace_83 : decode cX7_renderFurnace 83 = .ok (.invokevirtual 242, 3) := by decide +kernel
theorem dX7_renderFurnace_86 : decode cX7_renderFurnace 86 = .ok (.pop, 1) := by decide +kernel
theorem dX7_renderFurnace_87 : decode cX7_renderFurnace 87 = .ok (.aload_n 0, 1) := by decide +kernel
theorem dX7_renderFurnace_88 : decode cX7_renderFurnace 88 = .ok (.getfield 47, 3) := by decide +kernel
theorem dX7_renderFurnace_91 : decode cX7_renderFurnace 91 = .ok (.invokevirtual 245, 3) := by decide +kernel
theorem dX7_renderFurnace_94 : decode cX7_renderFurnace 94 = .ok (.ireturn, 1) := by decide +kernel
set_option maxRecDepth 20000 in
theorem ggX7_renderGrades_J4_setLength_d00df : GoodIn wsX7_renderGrades wsJ4_setLength_d00df := goodIn_r _ [7, 8, 9, 10, 11, 12, 13, 14, 15, 16, 17, 18, 19, 20, 21, 22, 23, 24, 25, 26, 27, 28, 29, 30, 31, 32, 33, 34, 35, 36, 37, 38, 39, 40, 41, 42, 43, 44, 45, 46, 47, 48, 49, 50, 51, 52, 53, 54, 55, 56, 57, 58, 59, 60, 61, 62, 63, 64, 65, 66, 67, 68, 69, 70, 71, 72, 73, 74, 75, 76, 77, 78, 79, 6, 80, 81, 82, 83, 84, 85, 86, 87, 191, 192, 193, 194, 195, 196, 197, 198, 199, 200, 201, 202, 203, 204, 205, 206] (by decide +kernel) (by decide +kernel)
set_option maxRecDepth 20000 in
theorem gX7_renderGrades_J4_setLength_d00df : GoodIn wsX7_renderGrades (wsV RX7 231 RJ4 yJ4_setLength_d00df wsJ4_setLength_d00df) := goodIn_app (goodIn_of _ (by decide +kernel)) ggX7_renderGrades_J4_setLength_d00df
set_option maxRecDepth 20000 in
theorem ggX7_renderGrades_X3_quality : GoodIn wsX7_renderGrades wsX3_quality := goodIn_ca (goodIn_ca (goodIn_r _ [92, 93, 94, 95, 91, 96, 97, 98, 99, 100, 101, 207] (by decide +kernel) (by decide +kernel)) (goodIn_sub (fun _ h => List.mem_cons_of_mem _ (List.mem_append_left _ (List.mem_append_right _ h))) (by decide +kernel))) (goodIn_sub (fun _ h => List.mem_cons_of_mem _ (List.mem_append_right _ h)) (by decide +kernel))
set_option maxRecDepth 20000 in
theorem gX7_renderGrades_X3_quality : GoodIn wsX7_renderGrades (wsV RX7 200 RX3 yX3_quality wsX3_quality) := goodIn_app (goodIn_of _ (by decide +kernel)) ggX7_renderGrades_X3_quality
set_option maxRecDepth 20000 in
theorem ggX7_renderGrades_J4_append_cf468 : GoodIn wsX7_renderGrades wsJ4_append_cf468 := goodIn_r _ [105, 106, 107, 10, 108, 12, 109, 17, 18, 20, 21, 22, 23, 24, 25, 26, 27, 28, 29, 30, 31, 32, 33, 34, 35, 36, 37, 38, 39, 40, 41, 42, 43, 44, 45, 46, 47, 48, 49, 50, 51, 52, 53, 54, 55, 56, 57, 58, 59, 60, 61, 62, 63, 64, 65, 66, 67, 110, 111, 70, 112, 113, 114, 115, 116, 117, 118, 119, 85, 120, 121, 122, 123, 124, 125, 126, 127, 128, 129, 130, 131, 132, 133, 134, 135, 136, 137, 138, 139, 140, 141, 142, 143, 144, 145, 146, 147, 148, 149, 150, 151, 152, 153, 154, 155, 156, 157, 158, 159, 160, 161, 162, 163, 197, 198, 199, 200] (by decide +kernel) (by decide +kernel)
set_option maxRecDepth 20000 in
theorem gX7_renderGrades_J4_append_cf468 : GoodIn wsX7_renderGrades (wsV RX7 238 RJ4 yJ4_append_cf468 wsJ4_append_cf468) := goodIn_app (goodIn_of _ (by decide +kernel)) ggX7_renderGrades_J4_append_cf468
set_option maxRecDepth 20000 in
theorem ggX7_renderGrades_J4_length_8abf5 : GoodIn wsX7_renderGrades wsJ4_length_8abf5 := goodIn_r _ [167, 168, 169, 10, 170, 12, 171, 17, 197, 198, 199, 200] (by decide +kernel) (by decide +kernel)
set_option maxRecDepth 20000 in
theorem gX7_renderGrades_J4_length_8abf5 : GoodIn wsX7_renderGrades (wsV RX7 245 RJ4 yJ4_length_8abf5 wsJ4_length_8abf5) := goodIn_app (goodIn_of _ (by decide +kernel)) ggX7_renderGrades_J4_length_8abf5
theorem dX7_renderGrades_0 : decode cX7_renderGrades 0 = .ok (.aload_n 0, 1) := by decide +kernel
theorem dX7_renderGrades_1 : decode cX7_renderGrades 1 = .ok (.getfield 47, 3) := by decide +kernel
theorem dX7_renderGrades_4 : decode cX7_renderGrades 4 = .ok (.iconst 0, 1) := by decide +kernel
theorem dX7_renderGrades_5 : decode cX7_renderGrades 5 = .ok (.invokevirtual 231, 3) := by decide +kernel
theorem dX7_renderGrades_8 : decode cX7_renderGrades 8 = .ok (.iconst 0, 1) := by decide +kernel
theorem dX7_renderGrades_9 : decode cX7_renderGrades 9 = .ok (.istore_n 1, 1) := by decide +kernel
theorem dX7_renderGrades_10 : decode cX7_renderGrades 10 = .ok (.iload_n 1, 1) := by decide +kernel
theorem dX7_renderGrades_11 : decode cX7_renderGrades 11 = .ok (.aload_n 0, 1) := by decide +kernel
theorem dX7_renderGrades_12 : decode cX7_renderGrades 12 = .ok (.getfield 10, 3) := by decide +kernel
theorem dX7_renderGrades_15 : decode cX7_renderGrades 15 = .ok (.getfield 191, 3) := by decide +kernel
theorem dX7_renderGrades_18 : decode cX7_renderGrades 18 = .ok (.if_icmp .ge 29, 3) := by decide +kernel
theorem dX7_renderGrades_21 : decode cX7_renderGrades 21 = .ok (.aload_n 0, 1) := by decide +kernel
theorem dX7_renderGrades_22 : decode cX7_renderGrades 22 = .ok (.getfield 47, 3) := by decide +kernel
theorem dX7_renderGrades_25 : decode cX7_renderGrades 25 = .ok (.aload_n 0, 1) := by decide +kernel
theorem dX7_renderGrades_26 : decode cX7_renderGrades 26 = .ok (.getfield 10, 3) := by decide +kernel
theorem dX7_renderGrades_29 : decode cX7_renderGrades 29 = .ok (.getfield 194, 3) := by decide +kernel
theorem dX7_renderGrades_32 : decode cX7_renderGrades 32 = .ok (.iload_n 1, 1) := by decide +kernel
theorem dX7_renderGrades_33 : decode cX7_renderGrades 33 = .ok (.aaload, 1) := by decide +kernel
theorem dX7_renderGrades_34 : decode cX7_renderGrades 34 = .ok (.invokevirtual 200, 3) := by decide +kernel
theorem dX7_renderGrades_37 : decode cX7_renderGrades 37 = .ok (.invokevirtual 238, 3) := by decide +kernel
theorem dX7_renderGrades_40 : decode cX7_renderGrades 40 = .ok (.pop, 1) := by decide +kernel
theorem dX7_renderGrades_41 : decode cX7_renderGrades 41 = .ok (.iinc 1 1, 3) := by decide +kernel
theorem dX7_renderGrades_44 : decode cX7_renderGrades 44 = .ok (.goto (-34), 3) := by decide +kernel
theorem dX7_renderGrades_47 : decode cX7_renderGrades 47 = .ok (.aload_n 0, 1) := by decide +kernel
theorem dX7_renderGrades_48 : decode cX7_renderGrades 48 = .ok (.getfield 47, 3) := by decide +kernel
theorem dX7_renderGrades_51 : decode cX7_renderGrades 51 = .ok (.invokevirtual 245, 3) := by decide +kernel
theorem dX7_renderGrades_54 : decode cX7_renderGrades 54 = .ok (.ireturn, 1) := by decide +kernel
set_option maxRecDepth 20000 in
theorem ggX7_outputAt_J4_length_8abf5 : GoodIn wsX7_outputAt wsJ4_length_8abf5 := goodIn_r _ [6, 7, 8, 9, 10, 11, 12, 13, 64, 65, 66, 67] (by decide +kernel) (by decide +kernel)
set_option maxRecDepth 20000 in
theorem gX7_outputAt_J4_length_8abf5 : GoodIn wsX7_outputAt (wsV RX7 245 RJ4 yJ4_length_8abf5 wsJ4_length_8abf5) := goodIn_app (goodIn_of _ (by decide +kernel)) ggX7_outputAt_J4_length_8abf5
set_option maxRecDepth 20000 in
theorem ggX7_outputAt_X7_requireIndex : GoodIn wsX7_outputAt wsX7_requireIndex := goodIn_ca (goodIn_r _ [17, 18, 19, 20, 21, 16, 22] (by decide +kernel) (by decide +kernel)) (goodIn_sub (fun _ h => List.mem_cons_of_mem _ (List.mem_append_right _ h)) (by decide +kernel))
set_option maxRecDepth 20000 in
theorem gX7_outputAt_X7_requireIndex : GoodIn wsX7_outputAt (va_wsS RX7 117 yX7_requireIndex wsX7_requireIndex) := goodIn_app (goodIn_of _ (by decide +kernel)) ggX7_outputAt_X7_requireIndex
set_option maxRecDepth 20000 in
theorem ggX7_outputAt_J4_charAt_5068e : GoodIn wsX7_outputAt wsJ4_charAt_5068e := goodIn_r _ [26, 27, 28, 9, 29, 11, 30, 31, 32, 13, 33, 34, 35, 36, 37, 38, 39, 40, 41, 42, 43, 44, 45, 46, 47, 48, 49, 50, 51, 52, 53, 54, 55, 64, 65, 66, 67] (by decide +kernel) (by decide +kernel)
set_option maxRecDepth 20000 in
theorem gX7_outputAt_J4_charAt_5068e : GoodIn wsX7_outputAt (wsV RX7 248 RJ4 yJ4_charAt_5068e wsJ4_charAt_5068e) := goodIn_app (goodIn_of _ (by decide +kernel)) ggX7_outputAt_J4_charAt_5068e
theorem dX7_outputAt_0 : decode cX7_outputAt 0 = .ok (.iload_n 1, 1) := by decide +kernel
theorem dX7_outputAt_1 : decode cX7_outputAt 1 = .ok (.aload_n 0, 1) := by decide +kernel
theorem dX7_outputAt_2 : decode cX7_outputAt 2 = .ok (.getfield 47, 3) := by decide +kernel
theorem dX7_outputAt_5 : decode cX7_outputAt 5 = .ok (.invokevirtual 245, 3) := by decide +kernel
theorem dX7_outputAt_8 : decode cX7_outputAt 8 = .ok (.invokestatic 117, 3) := by decide +kernel
theorem dX7_outputAt_11 : decode cX7_outputAt 11 = .ok (.aload_n 0, 1) := by decide +kernel
theorem dX7_outputAt_12 : decode cX7_outputAt 12 = .ok (.getfield 47, 3) := by decide +kernel
theorem dX7_outputAt_15 : decode cX7_outputAt 15 = .ok (.iload_n 1, 1) := by decide +kernel
theorem dX7_outputAt_16 : decode cX7_outputAt 16 = .ok (.invokevirtual 248, 3) := by decide +kernel
theorem dX7_outputAt_19 : decode cX7_outputAt 19 = .ok (.ireturn, 1) := by decide +kernel
set_option maxRecDepth 20000 in
theorem ggX7_type_X5_append : GoodIn wsX7_type wsX5_append := goodIn_ca (goodIn_r _ [10, 11, 12, 21, 22, 23, 24, 25, 26] (by decide +kernel) (by decide +kernel)) (goodIn_sub (fun _ h => List.mem_cons_of_mem _ (List.mem_append_right _ h)) (by decide +kernel))
set_option maxRecDepth 20000 in
theorem gX7_type_X5_append : GoodIn wsX7_type (wsV RX7 252 RX5 yX5_append wsX5_append) := goodIn_app (goodIn_of _ (by decide +kernel)) ggX7_type_X5_append
theorem dX7_type_0 : decode cX7_type 0 = .ok (.iload_n 1, 1) := by decide +kernel
theorem dX7_type_1 : decode cX7_type 1 = .ok (.bipush 32, 2) := by decide +kernel
theorem dX7_type_3 : decode cX7_type 3 = .ok (.if_icmp .lt 9, 3) := by decide +kernel
theorem dX7_type_6 : decode cX7_type 6 = .ok (.iload_n 1, 1) := by decide +kernel
theorem dX7_type_7 : decode cX7_type 7 = .ok (.bipush 126, 2) := by decide +kernel
theorem dX7_type_9 : decode cX7_type 9 = .ok (.if_icmp .le 11, 3) := by decide +kernel
theorem dX7_type_12 : decode cX7_type 12 = .ok (.new 105, 3) := by decide +kernel
theorem dX7_type_15 : decode cX7_type 15 = .ok (.dup, 1) := by decide +kernel
theorem dX7_type_16 : decode cX7_type 16 = .ok (.invokespecial 107, 3) := by decide +kernel
theorem dX7_type_19 : decode cX7_type 19 = .ok (.athrow, 1) := by decide +kernel
theorem dX7_type_20 : decode cX7_type 20 = .ok (.aload_n 0, 1) := by decide +kernel
theorem dX7_type_21 : decode cX7_type 21 = .ok (.getfield 33, 3) := by decide +kernel
theorem dX7_type_24 : decode cX7_type 24 = .ok (.iload_n 1, 1) := by decide +kernel
theorem dX7_type_25 : decode cX7_type 25 = .ok (.invokevirtual 252, 3) := by decide +kernel
theorem dX7_type_28 : decode cX7_type 28 = .ok (.ifCond .ne 11, 3) := by decide +kernel
theorem dX7_type_31 : decode cX7_type 31 = .ok (.new 111, 3) := by decide +kernel
theorem dX7_type_34 : decode cX7_type 34 = .ok (.dup, 1) := by decide +kernel
theorem dX7_type_35 : decode cX7_type 35 = .ok (.invokespecial 113, 3) := by decide +kernel
theorem dX7_type_38 : decode cX7_type 38 = .ok (.athrow, 1) := by decide +kernel
theorem dX7_type_39 : decode cX7_type 39 = .ok (.aload_n 0, 1) := by decide +kernel
theorem dX7_type_40 : decode cX7_type 40 = .ok (.getfield 33, 3) := by decide +kernel
theorem dX7_type_43 : decode cX7_type 43 = .ok (.getfield 255, 3) := by decide +kernel
theorem dX7_type_46 : decode cX7_type 46 = .ok (.ireturn, 1) := by decide +kernel
set_option maxRecDepth 20000 in
theorem ggX7_runScript_X5_parse : GoodIn wsX7_runScript wsX5_parse := goodIn_ca (goodIn_r _ [12, 13, 14, 15, 16, 17, 18, 11, 19, 20, 21, 22, 23, 24, 25, 26, 27, 28, 29, 30, 31, 32, 33, 34, 35, 36, 37, 38, 39, 40, 41, 42, 43, 44, 45, 46, 47, 48, 49, 50, 51, 52, 53, 54, 55, 56, 57, 58, 59, 60, 61, 62, 63, 64, 65, 66, 67, 68, 69, 70, 71, 72, 73, 74, 75, 76, 77, 78, 79, 80, 81, 82, 83, 84, 85, 86, 87, 88, 89, 90, 91, 92, 93, 94, 95, 96, 97, 98, 99, 100, 101, 102, 103, 104, 105, 106, 107, 108, 109, 110, 111, 296, 297, 298, 299, 300, 301, 302, 303, 304, 305] (by decide +kernel) (by decide +kernel)) (goodIn_sub (fun _ h => List.mem_cons_of_mem _ (List.mem_append_left _ (List.mem_append_right _ h))) (by decide +kernel))
set_option maxRecDepth 20000 in
theorem gX7_runScript_X5_parse : GoodIn wsX7_runScript (wsV RX7 257 RX5 yX5_parse wsX5_parse) := goodIn_app (goodIn_of _ (by decide +kernel)) ggX7_runScript_X5_parse
set_option maxRecDepth 20000 in
theorem ggX7_runScript_X5_empty : GoodIn wsX7_runScript wsX5_empty := goodIn_r _ [115, 15, 296, 297, 298, 299, 300, 301] (by decide +kernel) (by decide +kernel)
set_option maxRecDepth 20000 in
theorem gX7_runScript_X5_empty : GoodIn wsX7_runScript (wsV RX7 260 RX5 yX5_empty wsX5_empty) := goodIn_app (goodIn_of _ (by decide +kernel)) ggX7_runScript_X5_empty
set_option maxRecDepth 20000 in
theorem ggX7_runScript_X7_performScript : GoodIn wsX7_runScript wsX7_performScript := goodIn_ca (goodIn_ca (goodIn_r _ [119, 120, 121, 5, 122, 123, 124, 125, 126, 127, 128, 129, 130, 131, 132, 133, 134, 135, 136, 137, 138, 139, 140, 141, 142, 143, 144, 145, 146, 147, 148, 149, 150, 151, 152, 153, 154, 155, 156, 157, 158, 159, 160, 161, 162, 163, 164, 165, 166, 167, 168, 169, 170, 171, 172, 173, 174, 175, 176, 177, 178, 179, 101, 180, 100, 102, 103, 181, 182, 183, 184, 185, 186, 187, 188, 189, 190, 191, 192, 193, 194, 195, 196, 197, 198, 199, 200, 28, 201, 202, 203, 204, 205, 206, 207, 208, 209, 210, 211, 212, 213, 214, 215, 216, 217, 218, 219, 220, 221, 222, 223, 224, 225, 226, 227, 228, 229, 230, 231, 232, 233, 234, 235, 236, 237, 238, 239, 240, 241, 242, 243, 244, 245, 246, 247, 248, 249, 250, 251, 252, 253, 254, 255, 256, 257, 258, 259, 260, 261, 262, 263, 264, 265, 266, 267, 268, 269, 270, 271, 272, 273, 274, 275, 276, 277, 278, 279, 280, 281, 282, 283, 284, 285, 286, 287, 288, 289, 290, 291, 292, 293, 294, 295, 296, 297, 298, 299, 300, 301, 306, 307, 308, 309, 310, 311, 312, 313, 314, 315, 316, 317, 318, 319, 320, 321, 322, 323] (by decide +kernel) (by decide +kernel)) (goodIn_sub (fun _ h => List.mem_cons_of_mem _ (List.mem_append_left _ (List.mem_append_right _ h))) (by decide +kernel))) (goodIn_sub (fun _ h => List.mem_cons_of_mem _ (List.mem_append_right _ h)) (by decide +kernel))
set_option maxRecDepth 20000 in
theorem gX7_runScript_X7_performScript : GoodIn wsX7_runScript (wsV RX7 263 RX7 yX7_performScript wsX7_performScript) := goodIn_app (goodIn_of _ (by decide +kernel)) ggX7_runScript_X7_performScript
theorem dX7_runScript_0 : decode cX7_runScript 0 = .ok (.aload_n 0, 1) := by decide +kernel
theorem dX7_runScript_1 : decode cX7_runScript 1 = .ok (.getfield 33, 3) := by decide +kernel
theorem dX7_runScript_4 : decode cX7_runScript 4 = .ok (.invokevirtual 257, 3) := by decide +kernel
theorem dX7_runScript_7 : decode cX7_runScript 7 = .ok (.istore_n 1, 1) := by decide +kernel
theorem dX7_runScript_8 : decode cX7_runScript 8 = .ok (.aload_n 0, 1) := by decide +kernel
theorem dX7_runScript_9 : decode cX7_runScript 9 = .ok (.getfield 33, 3) := by decide +kernel
theorem dX7_runScript_12 : decode cX7_runScript 12 = .ok (.invokevirtual 260, 3) := by decide +kernel
theorem dX7_runScript_15 : decode cX7_runScript 15 = .ok (.iload_n 1, 1) := by decide +kernel
theorem dX7_runScript_16 : decode cX7_runScript 16 = .ok (.iconst (-1), 1) := by decide +kernel
theorem dX7_runScript_17 : decode cX7_runScript 17 = .ok (.if_icmp .eq 16, 3) := by decide +kernel
theorem dX7_runScript_20 : decode cX7_runScript 20 = .ok (.aload_n 0, 1) := by decide +kernel
theorem dX7_runScript_21 : decode cX7_runScript 21 = .ok (.iload_n 1, 1) := by decide +kernel
theorem dX7_runScript_22 : decode cX7_runScript 22 = .ok (.putfield 37, 3) := by decide +kernel
theorem dX7_runScript_25 : decode cX7_runScript 25 = .ok (.new 105, 3) := by decide +kernel
theorem dX7_runScript_28 : decode cX7_runScript 28 = .ok (.dup, 1) := by decide +kernel
theorem dX7_runScript_29 : decode cX7_runScript 29 = .ok (.invokespecial 107, 3) := by decide +kernel
theorem dX7_runScript_32 : decode cX7_runScript 32 = .ok (.athrow, 1) := by decide +kernel
theorem dX7_runScript_33 : decode cX7_runScript 33 = .ok (.aload_n 0, 1) := by decide +kernel
theorem dX7_runScript_34 : decode cX7_runScript 34 = .ok (.invokevirtual 263, 3) := by decide +kernel
theorem dX7_runScript_37 : decode cX7_runScript 37 = .ok (.istore_n 2, 1) := by decide +kernel
theorem dX7_runScript_38 : decode cX7_runScript 38 = .ok (.iload_n 2, 1) := by decide +kernel
theorem dX7_runScript_39 : decode cX7_runScript 39 = .ok (.iconst (-1), 1) := by decide +kernel
theorem dX7_runScript_40 : decode cX7_runScript 40 = .ok (.if_icmp .eq 16, 3) := by decide +kernel
theorem dX7_runScript_43 : decode cX7_runScript 43 = .ok (.aload_n 0, 1) := by decide +kernel
theorem dX7_runScript_44 : decode cX7_runScript 44 = .ok (.iload_n 2, 1) := by decide +kernel
theorem dX7_runScript_45 : decode cX7_runScript 45 = .ok (.putfield 41, 3) := by decide +kernel
theorem dX7_runScript_48 : decode cX7_runScript 48 = .ok (.new 111, 3) := by decide +kernel
theorem dX7_runScript_51 : decode cX7_runScript 51 = .ok (.dup, 1) := by decide +kernel
theorem dX7_runScript_52 : decode cX7_runScript 52 = .ok (.invokespecial 113, 3) := by decide +kernel
theorem dX7_runScript_55 : decode cX7_runScript 55 = .ok (.athrow, 1) := by decide +kernel
theorem dX7_runScript_56 : decode cX7_runScript 56 = .ok (.aload_n 0, 1) := by decide +kernel
theorem dX7_runScript_57 : decode cX7_runScript 57 = .ok (.getfield 33, 3) := by decide +kernel
theorem dX7_runScript_60 : decode cX7_runScript 60 = .ok (.getfield 266, 3) := by decide +kernel
theorem dX7_runScript_63 : decode cX7_runScript 63 = .ok (.ireturn, 1) := by decide +kernel
set_option maxRecDepth 20000 in
theorem ggX7_performScript_X2_note : GoodIn wsX7_performScript wsX2_note := goodIn_ca (goodIn_r _ [8, 9, 10, 11, 12, 13, 14, 15, 16, 17, 18, 19, 20, 21, 22, 23, 24, 25, 26, 27, 28, 29, 30, 31, 32, 33, 34, 35, 36, 37, 38, 39, 40, 41, 42, 43, 44, 189, 190, 191, 192, 193, 194, 195, 196, 197, 198, 199, 200, 201, 202, 203, 204, 205, 206] (by decide +kernel) (by decide +kernel)) (goodIn_sub (fun _ h => List.mem_cons_of_mem _ (List.mem_append_left _ (List.mem_append_right _ h))) (by decide +kernel))
set_option maxRecDepth 20000 in
theorem gX7_performScript_X2_note : GoodIn wsX7_performScript (wsV RX7 88 RX2 yX2_note wsX2_note) := goodIn_app (goodIn_of _ (by decide +kernel)) ggX7_performScript_X2_note
set_option maxRecDepth 20000 in
theorem ggX7_performScript_X4_perform : GoodIn wsX7_performScript wsX4_perform := goodIn_ca (goodIn_ca (goodIn_r _ [48, 49, 50, 51, 52, 53, 54, 55, 56, 57, 58, 59, 14, 60, 16, 24, 61, 62, 63, 64, 65, 66, 67, 68, 69, 37, 70, 39, 71, 72, 73, 30, 74, 32, 75, 33, 76, 77, 78, 79, 80, 17, 81, 82, 83, 84, 85, 86, 87, 88, 25, 89, 90, 91, 92, 93, 94, 95, 96, 97, 98, 99, 100, 101, 102, 103, 104, 105, 106, 107, 18, 108, 109, 110, 111, 112, 113, 114, 115, 116, 117, 118, 119, 120, 121, 122, 123, 124, 125, 126, 127, 128, 129, 130, 131, 132, 133, 134, 21, 20, 19, 135, 136, 137, 138, 139, 140, 141, 142, 23, 22, 44, 35, 36, 38, 40, 41, 42, 43, 143, 144, 145, 146, 147, 148, 149, 150, 151, 152, 153, 154, 26, 155, 156, 157, 158, 159, 160, 161, 162, 163, 164, 192, 193, 194, 195, 196, 197, 198, 199, 200, 201, 202, 203, 204, 205, 206] (by decide +kernel) (by decide +kernel)) (goodIn_sub (fun _ h => List.mem_cons_of_mem _ (List.mem_append_left _ (List.mem_append_right _ h))) (by decide +kernel))) (goodIn_sub (fun _ h => List.mem_cons_of_mem _ (List.mem_append_right _ h)) (by decide +kernel))
set_option maxRecDepth 20000 in
theorem gX7_performScript_X4_perform : GoodIn wsX7_performScript (wsV RX7 92 RX4 yX4_perform wsX4_perform) := goodIn_app (goodIn_of _ (by decide +kernel)) ggX7_performScript_X4_perform
set_option maxRecDepth 20000 in
theorem ggX7_performScript_X2_takeBack : GoodIn wsX7_performScript wsX2_takeBack := goodIn_ca (goodIn_r _ [168, 9, 10, 11, 12, 13, 14, 15, 16, 17, 18, 19, 20, 21, 22, 23, 24, 25, 26, 27, 28, 29, 30, 31, 32, 33, 34, 35, 36, 37, 38, 39, 40, 41, 42, 43, 44, 189, 190, 191, 192, 193, 194, 195, 196, 197, 198, 199, 200, 201, 202, 203, 204, 205, 206] (by decide +kernel) (by decide +kernel)) (goodIn_sub (fun _ h => List.mem_cons_of_mem _ (List.mem_append_left _ (List.mem_append_right _ h))) (by decide +kernel))
set_option maxRecDepth 20000 in
theorem gX7_performScript_X2_takeBack : GoodIn wsX7_performScript (wsV RX7 277 RX2 yX2_takeBack wsX2_takeBack) := goodIn_app (goodIn_of _ (by decide +kernel)) ggX7_performScript_X2_takeBack
set_option maxRecDepth 20000 in
theorem ggX7_performScript_X2_keep : GoodIn wsX7_performScript wsX2_keep := goodIn_r _ [172, 10, 173, 174, 86, 87, 88, 189, 190, 191] (by decide +kernel) (by decide +kernel)
set_option maxRecDepth 20000 in
theorem gX7_performScript_X2_keep : GoodIn wsX7_performScript (wsV RX7 99 RX2 yX2_keep wsX2_keep) := goodIn_app (goodIn_of _ (by decide +kernel)) ggX7_performScript_X2_keep
theorem dX7_performScript_0 : decode cX7_performScript 0 = .ok (.aload_n 0, 1) := by decide +kernel
theorem dX7_performScript_1 : decode cX7_performScript 1 = .ok (.getfield 19, 3) := by decide +kernel
theorem dX7_performScript_4 : decode cX7_performScript 4 = .ok (.aload_n 0, 1) := by decide +kernel
theorem dX7_performScript_5 : decode cX7_performScript 5 = .ok (.getfield 10, 3) := by decide +kernel
theorem dX7_performScript_8 : decode cX7_performScript 8 = .ok (.invokevirtual 88, 3) := by decide +kernel
theorem dX7_performScript_11 : decode cX7_performScript 11 = .ok (.iconst 0, 1) := by decide +kernel
theorem dX7_performScript_12 : decode cX7_performScript 12 = .ok (.istore_n 1, 1) := by decide +kernel
theorem dX7_performScript_13 : decode cX7_performScript 13 = .ok (.iload_n 1, 1) := by decide +kernel
theorem dX7_performScript_14 : decode cX7_performScript 14 = .ok (.aload_n 0, 1) := by decide +kernel
theorem dX7_performScript_15 : decode cX7_performScript 15 = .ok (.getfield 33, 3) := by decide +kernel
theorem dX7_performScript_18 : decode cX7_performScript 18 = .ok (.getfield 266, 3) := by decide +kernel
theorem dX7_performScript_21 : decode cX7_performScript 21 = .ok (.if_icmp .ge 60, 3) := by decide +kernel
theorem dX7_performScript_24 : decode cX7_performScript 24 = .ok (.aload_n 0, 1) := by decide +kernel
theorem dX7_performScript_25 : decode cX7_performScript 25 = .ok (.getfield 33, 3) := by decide +kernel
theorem dX7_performScript_28 : decode cX7_performScript 28 = .ok (.getfield 269, 3) := by decide +kernel
theorem dX7_performScript_31 : decode cX7_performScript 31 = .ok (.iload_n 1, 1) := by decide +kernel
theorem dX7_performScript_32 : decode cX7_performScript 32 = .ok (.aaload, 1) := by decide +kernel
theorem dX7_performScript_33 : decode cX7_performScript 33 = .ok (.astore_n 2, 1) := by decide +kernel
theorem dX7_performScript_34 : decode cX7_performScript 34 = .ok (.aload_n 0, 1) := by decide +kernel
theorem dX7_performScript_35 : decode cX7_performScript 35 = .ok (.getfield 10, 3) := by decide +kernel
theorem dX7_performScript_38 : decode cX7_performScript 38 = .ok (.aload_n 0, 1) := by decide +kernel
theorem dX7_performScript_39 : decode cX7_performScript 39 = .ok (.getfield 33, 3) := by decide +kernel
theorem dX7_performScript_42 : decode cX7_performScript 42 = .ok (.getfield 273, 3) := by decide +kernel
theorem dX7_performScript_45 : decode cX7_performScript 45 = .ok (.iload_n 1, 1) := by decide +kernel
theorem dX7_performScript_46 : decode cX7_performScript 46 = .ok (.aaload, 1) := by decide +kernel
theorem dX7_performScript_47 : decode cX7_performScript 47 = .ok (.aload_n 2, 1) := by decide +kernel
theorem dX7_performScript_48 : decode cX7_performScript 48 = .ok (.iconst 0, 1) := by decide +kernel
theorem dX7_performScript_49 : decode cX7_performScript 49 = .ok (.iaload, 1) := by decide +kernel
theorem dX7_performScript_50 : decode cX7_performScript 50 = .ok (.aload_n 2, 1) := by decide +kernel
theorem dX7_performScript_51 : decode cX7_performScript 51 = .ok (.iconst 1, 1) := by decide +kernel
theorem dX7_performScript_52 : decode cX7_performScript 52 = .ok (.iaload, 1) := by decide +kernel
theorem dX7_performScript_53 : decode cX7_performScript 53 = .ok (.aload_n 2, 1) := by decide +kernel
theorem dX7_performScript_54 : decode cX7_performScript 54 = .ok (.iconst 2, 1) := by decide +kernel
theorem dX7_performScript_55 : decode cX7_performScript 55 = .ok (.iaload, 1) := by decide +kernel
theorem dX7_performScript_56 : decode cX7_performScript 56 = .ok (.invokevirtual 92, 3) := by decide +kernel
theorem dX7_performScript_59 : decode cX7_performScript 59 = .ok (.ifCond .ge 16, 3) := by decide +kernel
theorem dX7_performScript_62 : decode cX7_performScript 62 = .ok (.aload_n 0, 1) := by decide +kernel
theorem dX7_performScript_63 : decode cX7_performScript 63 = .ok (.getfield 19, 3) := by decide +kernel
theorem dX7_performScript_66 : decode cX7_performScript 66 = .ok (.aload_n 0, 1) := by decide +kernel
theorem dX7_performScript_67 : decode cX7_performScript 67 = .ok (.getfield 10, 3) := by decide +kernel
theorem dX7_performScript_70 : decode cX7_performScript 70 = .ok (.invokevirtual 277, 3) := by decide +kernel
theorem dX7_performScript_73 : decode cX7_performScript 73 = .ok (.iload_n 1, 1) := by decide +kernel
theorem dX7_performScript_74 : decode cX7_performScript 74 = .ok (.ireturn, 1) := by decide +kernel
theorem dX7_performScript_75 : decode cX7_performScript 75 = .ok (.iinc 1 1, 3) := by decide +kernel
theorem dX7_performScript_78 : decode cX7_performScript 78 = .ok (.goto (-65), 3) := by decide +kernel
theorem dX7_performScript_81 : decode cX7_performScript 81 = .ok (.aload_n 0, 1) := by decide +kernel
theorem dX7_performScript_82 : decode cX7_performScript 82 = .ok (.getfield 19, 3) := by decide +kernel
theorem dX7_performScript_85 : decode cX7_performScript 85 = .ok (.invokevirtual 99, 3) := by decide +kernel
theorem dX7_performScript_88 : decode cX7_performScript 88 = .ok (.iconst (-1), 1) := by decide +kernel
theorem dX7_performScript_89 : decode cX7_performScript 89 = .ok (.ireturn, 1) := by decide +kernel
theorem dX7_errorPosition_0 : decode cX7_errorPosition 0 = .ok (.aload_n 0, 1) := by decide +kernel
theorem dX7_errorPosition_1 : decode cX7_errorPosition 1 = .ok (.getfield 37, 3) := by decide +kernel
theorem dX7_errorPosition_4 : decode cX7_errorPosition 4 = .ok (.iconst (-1), 1) := by decide +kernel
theorem dX7_errorPosition_5 : decode cX7_errorPosition 5 = .ok (.if_icmp .ne 11, 3) := by decide +kernel
theorem dX7_errorPosition_8 : decode cX7_errorPosition 8 = .ok (.new 108, 3) := by decide +kernel
theorem dX7_errorPosition_11 : decode cX7_errorPosition 11 = .ok (.dup, 1) := by decide +kernel
theorem dX7_errorPosition_12 : decode cX7_errorPosition 12 = .ok (.invokespecial 110, 3) := by decide +kernel
theorem dX7_errorPosition_15 : decode cX7_errorPosition 15 = .ok (.athrow, 1) := by decide +kernel
theorem dX7_errorPosition_16 : decode cX7_errorPosition 16 = .ok (.aload_n 0, 1) := by decide +kernel
