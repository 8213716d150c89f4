theorem dX8_ladleTotal_1 : decode cX8_ladleTotal 1 = .ok (.iload_n 1, 1) := by decide +kernel
theorem dX8_ladleTotal_2 : decode cX8_ladleTotal 2 = .ok (.invokestatic 85, 3) := by decide +kernel
theorem dX8_ladleTotal_5 : decode cX8_ladleTotal 5 = .ok (.iload_n 1, 1) := by decide +kernel
theorem dX8_ladleTotal_6 : decode cX8_ladleTotal 6 = .ok (.invokestatic 54, 3) := by decide +kernel
theorem dX8_ladleTotal_9 : decode cX8_ladleTotal 9 = .ok (.invokevirtual 168, 3) := by decide +kernel
theorem dX8_ladleTotal_12 : decode cX8_ladleTotal 12 = .ok (.ireturn, 1) := by decide +kernel
set_option maxRecDepth 20000 in
theorem ggX8_ladleTemperature_X8_isThree : GoodIn wsX8_ladleTemperature wsX8_isThree := goodIn_r _ [4, 5, 6, 3, 7] (by decide +kernel) (by decide +kernel)
set_option maxRecDepth 20000 in
theorem gX8_ladleTemperature_X8_isThree : GoodIn wsX8_ladleTemperature (va_wsS RX8 85 yX8_isThree wsX8_isThree) := goodIn_app (goodIn_of _ (by decide +kernel)) ggX8_ladleTemperature_X8_isThree
set_option maxRecDepth 20000 in
theorem ggX8_ladleTemperature_X8_ladle : GoodIn wsX8_ladleTemperature wsX8_ladle := goodIn_r _ [10] (by decide +kernel) (by decide +kernel)
set_option maxRecDepth 20000 in
theorem gX8_ladleTemperature_X8_ladle : GoodIn wsX8_ladleTemperature (va_wsS RX8 54 yX8_ladle wsX8_ladle) := goodIn_app (goodIn_of _ (by decide +kernel)) ggX8_ladleTemperature_X8_ladle
set_option maxRecDepth 20000 in
theorem ggX8_ladleTemperature_X8_tellsOne : GoodIn wsX8_ladleTemperature wsX8_tellsOne := goodIn_ca (goodIn_r _ [14, 15, 16, 17, 18, 19, 20, 21, 22, 23, 24, 25, 26, 27, 28, 29, 30, 31, 32, 33, 34, 35, 36, 37, 38] (by decide +kernel) (by decide +kernel)) (goodIn_sub (fun _ h => List.mem_cons_of_mem _ (List.mem_append_right _ h)) (by decide +kernel))
set_option maxRecDepth 20000 in
theorem gX8_ladleTemperature_X8_tellsOne : GoodIn wsX8_ladleTemperature (wsV RX8 172 RX8 yX8_tellsOne wsX8_tellsOne) := goodIn_app (goodIn_of _ (by decide +kernel)) ggX8_ladleTemperature_X8_tellsOne
theorem dX8_ladleTemperature_0 : decode cX8_ladleTemperature 0 = .ok (.aload_n 0, 1) := by decide +kernel
theorem dX8_ladleTemperature_1 : decode cX8_ladleTemperature 1 = .ok (.iload_n 1, 1) := by decide +kernel
theorem dX8_ladleTemperature_2 : decode cX8_ladleTemperature 2 = .ok (.invokestatic 85, 3) := by decide +kernel
theorem dX8_ladleTemperature_5 : decode cX8_ladleTemperature 5 = .ok (.iload_n 1, 1) := by decide +kernel
theorem dX8_ladleTemperature_6 : decode cX8_ladleTemperature 6 = .ok (.invokestatic 54, 3) := by decide +kernel
theorem dX8_ladleTemperature_9 : decode cX8_ladleTemperature 9 = .ok (.iconst 4, 1) := by decide +kernel
theorem dX8_ladleTemperature_10 : decode cX8_ladleTemperature 10 = .ok (.iadd, 1) := by decide +kernel
theorem dX8_ladleTemperature_11 : decode cX8_ladleTemperature 11 = .ok (.invokevirtual 172, 3) := by decide +kernel
theorem dX8_ladleTemperature_14 : decode cX8_ladleTemperature 14 = .ok (.ireturn, 1) := by decide +kernel
set_option maxRecDepth 20000 in
theorem ggX8_pouringMinutes_X8_isThree : GoodIn wsX8_pouringMinutes wsX8_isThree := goodIn_r _ [6, 7, 8, 5, 9] (by decide +kernel) (by decide +kernel)
set_option maxRecDepth 20000 in
theorem gX8_pouringMinutes_X8_isThree : GoodIn wsX8_pouringMinutes (va_wsS RX8 85 yX8_isThree wsX8_isThree) := goodIn_app (goodIn_of _ (by decide +kernel)) ggX8_pouringMinutes_X8_isThree
set_option maxRecDepth 20000 in
theorem ggX8_pouringMinutes_X8_ladle : GoodIn wsX8_pouringMinutes wsX8_ladle := goodIn_r _ [12] (by decide +kernel) (by decide +kernel)
set_option maxRecDepth 20000 in
theorem gX8_pouringMinutes_X8_ladle : GoodIn wsX8_pouringMinutes (va_wsS RX8 54 yX8_ladle wsX8_ladle) := goodIn_app (goodIn_of _ (by decide +kernel)) ggX8_pouringMinutes_X8_ladle
set_option maxRecDepth 20000 in
theorem ggX8_pouringMinutes_X8_isFluid : GoodIn wsX8_pouringMinutes wsX8_isFluid := goodIn_ca (goodIn_ca (goodIn_r _ [16, 2, 17, 18, 19, 5, 20, 21, 22, 23, 24, 25, 26, 27, 28, 29, 30, 31, 32, 33, 34, 35, 36, 37, 38, 39, 40, 41, 42, 43, 44, 45, 46, 47] (by decide +kernel) (by decide +kernel)) (goodIn_sub (fun _ h => List.mem_cons_of_mem _ (List.mem_append_left _ (List.mem_append_right _ h))) (by decide +kernel))) (goodIn_sub (fun _ h => List.mem_cons_of_mem _ (List.mem_append_right _ h)) (by decide +kernel))
set_option maxRecDepth 20000 in
theorem gX8_pouringMinutes_X8_isFluid : GoodIn wsX8_pouringMinutes (wsV RX8 112 RX8 yX8_isFluid wsX8_isFluid) := goodIn_app (goodIn_of _ (by decide +kernel)) ggX8_pouringMinutes_X8_isFluid
set_option maxRecDepth 20000 in
theorem ggX8_pouringMinutes_X8_point : GoodIn wsX8_pouringMinutes wsX8_point := goodIn_ca (goodIn_ca (goodIn_r _ [24, 2, 25, 17, 18, 19, 5, 20, 26, 27, 28, 29, 30, 31, 32, 33, 34, 35, 36, 37, 38, 39, 40, 41, 42, 43, 44, 45, 46, 47] (by decide +kernel) (by decide +kernel)) (goodIn_sub (fun _ h => List.mem_cons_of_mem _ (List.mem_append_left _ (List.mem_append_right _ h))) (by decide +kernel))) (goodIn_sub (fun _ h => List.mem_cons_of_mem _ (List.mem_append_right _ h)) (by decide +kernel))
set_option maxRecDepth 20000 in
theorem gX8_pouringMinutes_X8_point : GoodIn wsX8_pouringMinutes (wsV RX8 74 RX8 yX8_point wsX8_point) := goodIn_app (goodIn_of _ (by decide +kernel)) ggX8_pouringMinutes_X8_point
theorem dX8_pouringMinutes_0 : decode cX8_pouringMinutes 0 = .ok (.aload_n 0, 1) := by decide +kernel
theorem dX8_pouringMinutes_1 : decode cX8_pouringMinutes 1 = .ok (.iload_n 1, 1) := by decide +kernel
theorem dX8_pouringMinutes_2 : decode cX8_pouringMinutes 2 = .ok (.invokestatic 85, 3) := by decide +kernel
theorem dX8_pouringMinutes_5 : decode cX8_pouringMinutes 5 = .ok (.ifCond .ne 7, 3) := by decide +kernel
theorem dX8_pouringMinutes_8 : decode cX8_pouringMinutes 8 = .ok (.iconst 1, 1) := by decide +kernel
theorem dX8_pouringMinutes_9 : decode cX8_pouringMinutes 9 = .ok (.goto 19, 3) := by decide +kernel
theorem dX8_pouringMinutes_12 : decode cX8_pouringMinutes 12 = .ok (.aload_n 0, 1) := by decide +kernel
theorem dX8_pouringMinutes_13 : decode cX8_pouringMinutes 13 = .ok (.iload_n 1, 1) := by decide +kernel
theorem dX8_pouringMinutes_14 : decode cX8_pouringMinutes 14 = .ok (.invokestatic 54, 3) := by decide +kernel
theorem dX8_pouringMinutes_17 : decode cX8_pouringMinutes 17 = .ok (.invokevirtual 112, 3) := by decide +kernel
theorem dX8_pouringMinutes_20 : decode cX8_pouringMinutes 20 = .ok (.ifCond .eq 7, 3) := by decide +kernel
theorem dX8_pouringMinutes_23 : decode cX8_pouringMinutes 23 = .ok (.iconst 0, 1) := by decide +kernel
theorem dX8_pouringMinutes_24 : decode cX8_pouringMinutes 24 = .ok (.goto 4, 3) := by decide +kernel
theorem dX8_pouringMinutes_27 : decode cX8_pouringMinutes 27 = .ok (.iconst 2, 1) := by decide +kernel
theorem dX8_pouringMinutes_28 : decode cX8_pouringMinutes 28 = .ok (.putfield 57, 3) := by decide +kernel
theorem dX8_pouringMinutes_31 : decode cX8_pouringMinutes 31 = .ok (.aload_n 0, 1) := by decide +kernel
theorem dX8_pouringMinutes_32 : decode cX8_pouringMinutes 32 = .ok (.getfield 57, 3) := by decide +kernel
theorem dX8_pouringMinutes_35 : decode cX8_pouringMinutes 35 = .ok (.ifCond .ne 29, 3) := by decide +kernel
theorem dX8_pouringMinutes_38 : decode cX8_pouringMinutes 38 = .ok (.aload_n 0, 1) := by decide +kernel
theorem dX8_pouringMinutes_39 : decode cX8_pouringMinutes 39 = .ok (.getfield 16, 3) := by decide +kernel
theorem dX8_pouringMinutes_42 : decode cX8_pouringMinutes 42 = .ok (.iload_n 1, 1) := by decide +kernel
theorem dX8_pouringMinutes_43 : decode cX8_pouringMinutes 43 = .ok (.invokestatic 54, 3) := by decide +kernel
theorem dX8_pouringMinutes_46 : decode cX8_pouringMinutes 46 = .ok (.iconst 4, 1) := by decide +kernel
theorem dX8_pouringMinutes_47 : decode cX8_pouringMinutes 47 = .ok (.iadd, 1) := by decide +kernel
theorem dX8_pouringMinutes_48 : decode cX8_pouringMinutes 48 = .ok (.iaload, 1) := by decide +kernel
theorem dX8_pouringMinutes_49 : decode cX8_pouringMinutes 49 = .ok (.aload_n 0, 1) := by decide +kernel
theorem dX8_pouringMinutes_50 : decode cX8_pouringMinutes 50 = .ok (.iload_n 1, 1) := by decide +kernel
theorem dX8_pouringMinutes_51 : decode cX8_pouringMinutes 51 = .ok (.invokestatic 54, 3) := by decide +kernel
theorem dX8_pouringMinutes_54 : decode cX8_pouringMinutes 54 = .ok (.invokevirtual 74, 3) := by decide +kernel
theorem dX8_pouringMinutes_57 : decode cX8_pouringMinutes 57 = .ok (.isub, 1) := by decide +kernel
theorem dX8_pouringMinutes_58 : decode cX8_pouringMinutes 58 = .ok (.bipush 10, 2) := by decide +kernel
theorem dX8_pouringMinutes_60 : decode cX8_pouringMinutes 60 = .ok (.idiv, 1) := by decide +kernel
theorem dX8_pouringMinutes_61 : decode cX8_pouringMinutes 61 = .ok (.goto 4, 3) := by decide +kernel
theorem dX8_pouringMinutes_64 : decode cX8_pouringMinutes 64 = .ok (.iconst 0, 1) := by decide +kernel
theorem dX8_pouringMinutes_65 : decode cX8_pouringMinutes 65 = .ok (.ireturn, 1) := by decide +kernel
theorem dX8_mouldCount_0 : decode cX8_mouldCount 0 = .ok (.aload_n 0, 1) := by decide +kernel
theorem dX8_mouldCount_1 : decode cX8_mouldCount 1 = .ok (.iconst 0, 1) := by decide +kernel
theorem dX8_mouldCount_2 : decode cX8_mouldCount 2 = .ok (.putfield 57, 3) := by decide +kernel
theorem dX8_mouldCount_5 : decode cX8_mouldCount 5 = .ok (.aload_n 0, 1) := by decide +kernel
theorem dX8_mouldCount_6 : decode cX8_mouldCount 6 = .ok (.getfield 16, 3) := by decide +kernel
theorem dX8_mouldCount_9 : decode cX8_mouldCount 9 = .ok (.bipush 42, 2) := by decide +kernel
theorem dX8_mouldCount_11 : decode cX8_mouldCount 11 = .ok (.iaload, 1) := by decide +kernel
theorem dX8_mouldCount_12 : decode cX8_mouldCount 12 = .ok (.ireturn, 1) := by decide +kernel
set_option maxRecDepth 20000 in
theorem ggX8_volume_X8_isMould : GoodIn wsX8_volume wsX8_isMould := goodIn_ca (goodIn_r _ [5, 6, 7, 8, 4, 9, 18, 19, 20, 21, 22, 23, 24, 25, 26, 27, 28, 29, 30, 31, 32, 33, 34, 35, 36, 37, 38, 39] (by decide +kernel) (by decide +kernel)) (goodIn_sub (fun _ h => List.mem_cons_of_mem _ (List.mem_append_right _ h)) (by decide +kernel))
set_option maxRecDepth 20000 in
theorem gX8_volume_X8_isMould : GoodIn wsX8_volume (wsV RX8 140 RX8 yX8_isMould wsX8_isMould) := goodIn_app (goodIn_of _ (by decide +kernel)) ggX8_volume_X8_isMould
set_option maxRecDepth 20000 in
theorem ggX8_volume_X8_mould : GoodIn wsX8_volume wsX8_mould := goodIn_r _ [12] (by decide +kernel) (by decide +kernel)
set_option maxRecDepth 20000 in
theorem gX8_volume_X8_mould : GoodIn wsX8_volume (va_wsS RX8 134 yX8_mould wsX8_mould) := goodIn_app (goodIn_of _ (by decide +kernel)) ggX8_volume_X8_mould
set_option maxRecDepth 20000 in
theorem ggX8_volume_X8_tellsOne : GoodIn wsX8_volume wsX8_tellsOne := goodIn_ca (goodIn_r _ [16, 17, 6, 18, 19, 20, 21, 22, 23, 24, 25, 26, 27, 28, 29, 30, 31, 32, 33, 34, 35, 36, 37, 38, 39] (by decide +kernel) (by decide +kernel)) (goodIn_sub (fun _ h => List.mem_cons_of_mem _ (List.mem_append_right _ h)) (by decide +kernel))
set_option maxRecDepth 20000 in
theorem gX8_volume_X8_tellsOne : GoodIn wsX8_volume (wsV RX8 172 RX8 yX8_tellsOne wsX8_tellsOne) := goodIn_app (goodIn_of _ (by decide +kernel)) ggX8_volume_X8_tellsOne
theorem dX8_volume_0 : decode cX8_volume 0 = .ok (.aload_n 0, 1) := by decide +kernel
theorem dX8_volume_1 : decode cX8_volume 1 = .ok (.aload_n 0, 1) := by decide +kernel
theorem dX8_volume_2 : decode cX8_volume 2 = .ok (.iload_n 1, 1) := by decide +kernel
theorem dX8_volume_3 : decode cX8_volume 3 = .ok (.invokevirtual 140, 3) := by decide +kernel
theorem dX8_volume_6 : decode cX8_volume 6 = .ok (.iload_n 1, 1) := by decide +kernel
theorem dX8_volume_7 : decode cX8_volume 7 = .ok (.invokestatic 134, 3) := by decide +kernel
theorem dX8_volume_10 : decode cX8_volume 10 = .ok (.iconst 4, 1) := by decide +kernel
theorem dX8_volume_11 : decode cX8_volume 11 = .ok (.iadd, 1) := by decide +kernel
theorem dX8_volume_12 : decode cX8_volume 12 = .ok (.invokevirtual 172, 3) := by decide +kernel
theorem dX8_volume_15 : decode cX8_volume 15 = .ok (.ireturn, 1) := by decide +kernel
set_option maxRecDepth 20000 in
theorem ggX8_isFilled_X8_isMould : GoodIn wsX8_isFilled wsX8_isMould := goodIn_ca (goodIn_r _ [5, 6, 7, 8, 4, 9, 18, 19, 20, 21, 22, 23, 24, 25, 26, 27, 28, 29, 30, 31, 32, 33, 34, 35, 36, 37, 38, 39] (by decide +kernel) (by decide +kernel)) (goodIn_sub (fun _ h => List.mem_cons_of_mem _ (List.mem_append_right _ h)) (by decide +kernel))
set_option maxRecDepth 20000 in
theorem gX8_isFilled_X8_isMould : GoodIn wsX8_isFilled (wsV RX8 140 RX8 yX8_isMould wsX8_isMould) := goodIn_app (goodIn_of _ (by decide +kernel)) ggX8_isFilled_X8_isMould
set_option maxRecDepth 20000 in
theorem ggX8_isFilled_X8_mould : GoodIn wsX8_isFilled wsX8_mould := goodIn_r _ [12] (by decide +kernel) (by decide +kernel)
set_option maxRecDepth 20000 in
theorem gX8_isFilled_X8_mould : GoodIn wsX8_isFilled (va_wsS RX8 134 yX8_mould wsX8_mould) := goodIn_app (goodIn_of _ (by decide +kernel)) ggX8_isFilled_X8_mould
set_option maxRecDepth 20000 in
theorem ggX8_isFilled_X8_tellsOne : GoodIn wsX8_isFilled wsX8_tellsOne := goodIn_ca (goodIn_r _ [16, 17, 6, 18, 19, 20, 21, 22, 23, 24, 25, 26, 27, 28, 29, 30, 31, 32, 33, 34, 35, 36, 37, 38, 39] (by decide +kernel) (by decide +kernel)) (goodIn_sub (fun _ h => List.mem_cons_of_mem _ (List.mem_append_right _ h)) (by decide +kernel))
set_option maxRecDepth 20000 in
theorem gX8_isFilled_X8_tellsOne : GoodIn wsX8_isFilled (wsV RX8 172 RX8 yX8_tellsOne wsX8_tellsOne) := goodIn_app (goodIn_of _ (by decide +kernel)) ggX8_isFilled_X8_tellsOne
theorem dX8_isFilled_0 : decode cX8_isFilled 0 = .ok (.aload_n 0, 1) := by decide +kernel
theorem dX8_isFilled_1 : decode cX8_isFilled 1 = .ok (.aload_n 0, 1) := by decide +kernel
theorem dX8_isFilled_2 : decode cX8_isFilled 2 = .ok (.iload_n 1, 1) := by decide +kernel
theorem dX8_isFilled_3 : decode cX8_isFilled 3 = .ok (.invokevirtual 140, 3) := by decide +kernel
theorem dX8_isFilled_6 : decode cX8_isFilled 6 = .ok (.iload_n 1, 1) := by decide +kernel
theorem dX8_isFilled_7 : decode cX8_isFilled 7 = .ok (.invokestatic 134, 3) := by decide +kernel
theorem dX8_isFilled_10 : decode cX8_isFilled 10 = .ok (.iconst 5, 1) := by decide +kernel
theorem dX8_isFilled_11 : decode cX8_isFilled 11 = .ok (.iadd, 1) := by decide +kernel
theorem dX8_isFilled_12 : decode cX8_isFilled 12 = .ok (.invokevirtual 172, 3) := by decide +kernel
theorem dX8_isFilled_15 : decode cX8_isFilled 15 = .ok (.iconst 1, 1) := by decide +kernel
theorem dX8_isFilled_16 : decode cX8_isFilled 16 = .ok (.if_icmp .ne 7, 3) := by decide +kernel
theorem dX8_isFilled_19 : decode cX8_isFilled 19 = .ok (.iconst 1, 1) := by decide +kernel
theorem dX8_isFilled_20 : decode cX8_isFilled 20 = .ok (.goto 4, 3) := by decide +kernel
theorem dX8_isFilled_23 : decode cX8_isFilled 23 = .ok (.iconst 0, 1) := by decide +kernel
theorem dX8_isFilled_24 : decode cX8_isFilled 24 = .ok (.ireturn, 1) := by decide +kernel
set_option maxRecDepth 20000 in
theorem ggX8_mouldMass_X8_isMould : GoodIn wsX8_mouldMass wsX8_isMould := goodIn_ca (goodIn_r _ [5, 6, 7, 8, 4, 9, 21, 22, 23, 24, 25, 26, 27, 28, 29, 30, 31, 32, 33, 34, 35, 36, 37, 38, 39, 40, 41, 42] (by decide +kernel) (by decide +kernel)) (goodIn_sub (fun _ h => List.mem_cons_of_mem _ (List.mem_append_right _ h)) (by decide +kernel))
set_option maxRecDepth 20000 in
theorem gX8_mouldMass_X8_isMould : GoodIn wsX8_mouldMass (wsV RX8 140 RX8 yX8_isMould wsX8_isMould) := goodIn_app (goodIn_of _ (by decide +kernel)) ggX8_mouldMass_X8_isMould
set_option maxRecDepth 20000 in
theorem ggX8_mouldMass_X8_mould : GoodIn wsX8_mouldMass wsX8_mould := goodIn_r _ [12] (by decide +kernel) (by decide +kernel)
set_option maxRecDepth 20000 in
theorem gX8_mouldMass_X8_mould : GoodIn wsX8_mouldMass (va_wsS RX8 134 yX8_mould wsX8_mould) := goodIn_app (goodIn_of _ (by decide +kernel)) ggX8_mouldMass_X8_mould
set_option maxRecDepth 20000 in
theorem ggX8_mouldMass_X8_tells : GoodIn wsX8_mouldMass wsX8_tells := goodIn_ca (goodIn_r _ [16, 17, 6, 18, 19, 4, 20, 21, 22, 23, 24, 25, 26, 27, 28, 29, 30, 31, 32, 33, 34, 35, 36, 37, 38, 39, 40, 41, 42] (by decide +kernel) (by decide +kernel)) (goodIn_sub (fun _ h => List.mem_cons_of_mem _ (List.mem_append_right _ h)) (by decide +kernel))
set_option maxRecDepth 20000 in
theorem gX8_mouldMass_X8_tells : GoodIn wsX8_mouldMass (wsV RX8 164 RX8 yX8_tells wsX8_tells) := goodIn_app (goodIn_of _ (by decide +kernel)) ggX8_mouldMass_X8_tells
theorem dX8_mouldMass_0 : decode cX8_mouldMass 0 = .ok (.aload_n 0, 1) := by decide +kernel
theorem dX8_mouldMass_1 : decode cX8_mouldMass 1 = .ok (.aload_n 0, 1) := by decide +kernel
theorem dX8_mouldMass_2 : decode cX8_mouldMass 2 = .ok (.iload_n 1, 1) := by decide +kernel
theorem dX8_mouldMass_3 : decode cX8_mouldMass 3 = .ok (.invokevirtual 140, 3) := by decide +kernel
theorem dX8_mouldMass_6 : decode cX8_mouldMass 6 = .ok (.iload_n 1, 1) := by decide +kernel
theorem dX8_mouldMass_7 : decode cX8_mouldMass 7 = .ok (.invokestatic 134, 3) := by decide +kernel
theorem dX8_mouldMass_10 : decode cX8_mouldMass 10 = .ok (.iload_n 2, 1) := by decide +kernel
theorem dX8_mouldMass_11 : decode cX8_mouldMass 11 = .ok (.invokevirtual 164, 3) := by decide +kernel
theorem dX8_mouldMass_14 : decode cX8_mouldMass 14 = .ok (.ireturn, 1) := by decide +kernel
theorem dX8_ingotCount_0 : decode cX8_ingotCount 0 = .ok (.aload_n 0, 1) := by decide +kernel
theorem dX8_ingotCount_1 : decode cX8_ingotCount 1 = .ok (.iconst 0, 1) := by decide +kernel
theorem dX8_ingotCount_2 : decode cX8_ingotCount 2 = .ok (.putfield 57, 3) := by decide +kernel
theorem dX8_ingotCount_5 : decode cX8_ingotCount 5 = .ok (.aload_n 0, 1) := by decide +kernel
theorem dX8_ingotCount_6 : decode cX8_ingotCount 6 = .ok (.getfield 16, 3) := by decide +kernel
theorem dX8_ingotCount_9 : decode cX8_ingotCount 9 = .ok (.bipush 43, 2) := by decide +kernel
theorem dX8_ingotCount_11 : decode cX8_ingotCount 11 = .ok (.iaload, 1) := by decide +kernel
theorem dX8_ingotCount_12 : decode cX8_ingotCount 12 = .ok (.ireturn, 1) := by decide +kernel
set_option maxRecDepth 20000 in
theorem ggX8_ingotMass_X8_isIngot : GoodIn wsX8_ingotMass wsX8_isIngot := goodIn_ca (goodIn_r _ [5, 6, 7, 8, 4, 9, 21, 22, 23, 24, 25, 26, 27, 28, 29, 30, 31, 32, 33, 34, 35, 36, 37, 38, 39, 40, 41, 42] (by decide +kernel) (by decide +kernel)) (goodIn_sub (fun _ h => List.mem_cons_of_mem _ (List.mem_append_right _ h)) (by decide +kernel))
set_option maxRecDepth 20000 in
theorem gX8_ingotMass_X8_isIngot : GoodIn wsX8_ingotMass (wsV RX8 152 RX8 yX8_isIngot wsX8_isIngot) := goodIn_app (goodIn_of _ (by decide +kernel)) ggX8_ingotMass_X8_isIngot
set_option maxRecDepth 20000 in
theorem ggX8_ingotMass_X8_ingot : GoodIn wsX8_ingotMass wsX8_ingot := goodIn_r _ [12] (by decide +kernel) (by decide +kernel)
set_option maxRecDepth 20000 in
theorem gX8_ingotMass_X8_ingot : GoodIn wsX8_ingotMass (va_wsS RX8 146 yX8_ingot wsX8_ingot) := goodIn_app (goodIn_of _ (by decide +kernel)) ggX8_ingotMass_X8_ingot
set_option maxRecDepth 20000 in
theorem ggX8_ingotMass_X8_tells : GoodIn wsX8_ingotMass wsX8_tells := goodIn_ca (goodIn_r _ [16, 17, 6, 18, 19, 4, 20, 21, 22, 23, 24, 25, 26, 27, 28, 29, 30, 31, 32, 33, 34, 35, 36, 37, 38, 39, 40, 41, 42] (by decide +kernel) (by decide +kernel)) (goodIn_sub (fun _ h => List.mem_cons_of_mem _ (List.mem_append_right _ h)) (by decide +kernel))
set_option maxRecDepth 20000 in
theorem gX8_ingotMass_X8_tells : GoodIn wsX8_ingotMass (wsV RX8 164 RX8 yX8_tells wsX8_tells) := goodIn_app (goodIn_of _ (by decide +kernel)) ggX8_ingotMass_X8_tells
theorem dX8_ingotMass_0 : decode cX8_ingotMass 0 = .ok (.aload_n 0, 1) := by decide +kernel
theorem dX8_ingotMass_1 : decode cX8_ingotMass 1 = .ok (.aload_n 0, 1) := by decide +kernel
theorem dX8_ingotMass_2 : decode cX8_ingotMass 2 = .ok (.iload_n 1, 1) := by decide +kernel
theorem dX8_ingotMass_3 : decode cX8_ingotMass 3 = .ok (.invokevirtual 152, 3) := by decide +kernel
theorem dX8_ingotMass_6 : decode cX8_ingotMass 6 = .ok (.iload_n 1, 1) := by decide +kernel
theorem dX8_ingotMass_7 : decode cX8_ingotMass 7 = .ok (.invokestatic 146, 3) := by decide +kernel
theorem dX8_ingotMass_10 : decode cX8_ingotMass 10 = .ok (.iload_n 2, 1) := by decide +kernel
theorem dX8_ingotMass_11 : decode cX8_ingotMass 11 = .ok (.invokevirtual 164, 3) := by decide +kernel
theorem dX8_ingotMass_14 : decode cX8_ingotMass 14 = .ok (.ireturn, 1) := by decide +kernel
set_option maxRecDepth 20000 in
theorem ggX8_shareOf_X8_ingot : GoodIn wsX8_shareOf wsX8_ingot := goodIn_r _ [5] (by decide +kernel) (by decide +kernel)
set_option maxRecDepth 20000 in
theorem gX8_shareOf_X8_ingot : GoodIn wsX8_shareOf (va_wsS RX8 146 yX8_ingot wsX8_ingot) := goodIn_app (goodIn_of _ (by decide +kernel)) ggX8_shareOf_X8_ingot
set_option maxRecDepth 20000 in
theorem ggX8_shareOf_X8_mass : GoodIn wsX8_shareOf wsX8_mass := goodIn_ca (goodIn_r _ [9, 1, 10, 11, 12, 13, 14, 15, 16, 17, 18, 19, 20, 21, 22, 23, 24, 25, 26, 27, 28, 29, 30, 31] (by decide +kernel) (by decide +kernel)) (goodIn_sub (fun _ h => List.mem_cons_of_mem _ (List.mem_append_left _ (List.mem_append_right _ h))) (by decide +kernel))
set_option maxRecDepth 20000 in
theorem gX8_shareOf_X8_mass : GoodIn wsX8_shareOf (wsV RX8 71 RX8 yX8_mass wsX8_mass) := goodIn_app (goodIn_of _ (by decide +kernel)) ggX8_shareOf_X8_mass
theorem dX8_shareOf_0 : decode cX8_shareOf 0 = .ok (.sipush 1000, 3) := by decide +kernel
theorem dX8_shareOf_3 : decode cX8_shareOf 3 = .ok (.aload_n 0, 1) := by decide +kernel
theorem dX8_shareOf_4 : decode cX8_shareOf 4 = .ok (.getfield 16, 3) := by decide +kernel
theorem dX8_shareOf_7 : decode cX8_shareOf 7 = .ok (.iload_n 1, 1) := by decide +kernel
theorem dX8_shareOf_8 : decode cX8_shareOf 8 = .ok (.invokestatic 146, 3) := by decide +kernel
theorem dX8_shareOf_11 : decode cX8_shareOf 11 = .ok (.iload_n 2, 1) := by decide +kernel
theorem dX8_shareOf_12 : decode cX8_shareOf 12 = .ok (.iadd, 1) := by decide +kernel
theorem dX8_shareOf_13 : decode cX8_shareOf 13 = .ok (.iaload, 1) := by decide +kernel
theorem dX8_shareOf_14 : decode cX8_shareOf 14 = .ok (.imul, 1) := by decide +kernel
theorem dX8_shareOf_15 : decode cX8_shareOf 15 = .ok (.aload_n 0, 1) := by decide +kernel
theorem dX8_shareOf_16 : decode cX8_shareOf 16 = .ok (.iload_n 1, 1) := by decide +kernel
theorem dX8_shareOf_17 : decode cX8_shareOf 17 = .ok (.invokestatic 146, 3) := by decide +kernel
theorem dX8_shareOf_20 : decode cX8_shareOf 20 = .ok (.invokevirtual 71, 3) := by decide +kernel
theorem dX8_shareOf_23 : decode cX8_shareOf 23 = .ok (.idiv, 1) := by decide +kernel
theorem dX8_shareOf_24 : decode cX8_shareOf 24 = .ok (.ireturn, 1) := by decide +kernel
set_option maxRecDepth 20000 in
theorem ggX8_share_X8_isIngot : GoodIn wsX8_share wsX8_isIngot := goodIn_ca (goodIn_r _ [6, 7, 8, 9, 5, 10, 25, 26, 27, 28, 29, 30, 31, 32, 33, 34, 35, 36, 37, 38, 39, 40, 41, 42, 43, 44, 45, 46] (by decide +kernel) (by decide +kernel)) (goodIn_sub (fun _ h => List.mem_cons_of_mem _ (List.mem_append_left _ (List.mem_append_right _ h))) (by decide +kernel))
set_option maxRecDepth 20000 in
theorem gX8_share_X8_isIngot : GoodIn wsX8_share (wsV RX8 152 RX8 yX8_isIngot wsX8_isIngot) := goodIn_app (goodIn_of _ (by decide +kernel)) ggX8_share_X8_isIngot
set_option maxRecDepth 20000 in
theorem ggX8_share_X8_kind : GoodIn wsX8_share wsX8_kind := goodIn_r _ [13] (by decide +kernel) (by decide +kernel)
set_option maxRecDepth 20000 in
theorem gX8_share_X8_kind : GoodIn wsX8_share (va_wsS RX8 99 yX8_kind wsX8_kind) := goodIn_app (goodIn_of _ (by decide +kernel)) ggX8_share_X8_kind
set_option maxRecDepth 20000 in
theorem ggX8_share_X8_shareOf : GoodIn wsX8_share wsX8_shareOf := goodIn_ca (goodIn_ca (goodIn_r _ [17, 7, 18, 19, 5, 20, 21, 22, 23, 24, 25, 26, 27, 28, 29, 30, 31, 32, 33, 34, 35, 36, 37, 38, 39, 40, 41, 42, 43, 44, 45, 46] (by decide +kernel) (by decide +kernel)) (goodIn_sub (fun _ h => List.mem_cons_of_mem _ (List.mem_append_left _ (List.mem_append_right _ h))) (by decide +kernel))) (goodIn_sub (fun _ h => List.mem_cons_of_mem _ (List.mem_append_right _ h)) (by decide +kernel))
set_option maxRecDepth 20000 in
theorem gX8_share_X8_shareOf : GoodIn wsX8_share (wsV RX8 181 RX8 yX8_shareOf wsX8_shareOf) := goodIn_app (goodIn_of _ (by decide +kernel)) ggX8_share_X8_shareOf
theorem dX8_share_0 : decode cX8_share 0 = .ok (.aload_n 0, 1) := by decide +kernel
theorem dX8_share_1 : decode cX8_share 1 = .ok (.aload_n 0, 1) := by decide +kernel
theorem dX8_share_2 : decode cX8_share 2 = .ok (.iload_n 1, 1) := by decide +kernel
theorem dX8_share_3 : decode cX8_share 3 = .ok (.invokevirtual 152, 3) := by decide +kernel
theorem dX8_share_6 : decode cX8_share 6 = .ok (.ifCond .ne 7, 3) := by decide +kernel
theorem dX8_share_9 : decode cX8_share 9 = .ok (.iconst 1, 1) := by decide +kernel
theorem dX8_share_10 : decode cX8_share 10 = .ok (.goto 15, 3) := by decide +kernel
theorem dX8_share_13 : decode cX8_share 13 = .ok (.iload_n 2, 1) := by decide +kernel
theorem dX8_share_14 : decode cX8_share 14 = .ok (.invokestatic 99, 3) := by decide +kernel
theorem dX8_share_17 : decode cX8_share 17 = .ok (.ifCond .ge 7, 3) := by decide +kernel
theorem dX8_share_20 : decode cX8_share 20 = .ok (.iconst 2, 1) := by decide +kernel
theorem dX8_share_21 : decode cX8_share 21 = .ok (.goto 4, 3) := by decide +kernel
theorem dX8_share_24 : decode cX8_share 24 = .ok (.iconst 0, 1) := by decide +kernel
theorem dX8_share_25 : decode cX8_share 25 = .ok (.putfield 57, 3) := by decide +kernel
theorem dX8_share_28 : decode cX8_share 28 = .ok (.aload_n 0, 1) := by decide +kernel
theorem dX8_share_29 : decode cX8_share 29 = .ok (.getfield 57, 3) := by decide +kernel
theorem dX8_share_32 : decode cX8_share 32 = .ok (.ifCond .ne 15, 3) := by decide +kernel
theorem dX8_share_35 : decode cX8_share 35 = .ok (.aload_n 0, 1) := by decide +kernel
theorem dX8_share_36 : decode cX8_share 36 = .ok (.iload_n 1, 1) := by decide +kernel
theorem dX8_share_37 : decode cX8_share 37 = .ok (.iload_n 2, 1) := by decide +kernel
theorem dX8_share_38 : decode cX8_share 38 = .ok (.invokestatic 99, 3) := by decide +kernel
theorem dX8_share_41 : decode cX8_share 41 = .ok (.invokevirtual 181, 3) := by decide +kernel
theorem dX8_share_44 : decode cX8_share 44 = .ok (.goto 4, 3) := by decide +kernel
theorem dX8_share_47 : decode cX8_share 47 = .ok (.iconst 0, 1) := by decide +kernel
theorem dX8_share_48 : decode cX8_share 48 = .ok (.ireturn, 1) := by decide +kernel
set_option maxRecDepth 20000 in
theorem ggX8_gradeOf_X8_shareOf : GoodIn wsX8_gradeOf wsX8_shareOf := goodIn_ca (goodIn_ca (goodIn_r _ [5, 6, 7, 8, 4, 9, 10, 11, 12, 13, 14, 15, 16, 17, 18, 19, 20, 21, 22, 23, 24, 25, 26, 27, 28, 29, 30, 31, 32, 33, 34, 35] (by decide +kernel) (by decide +kernel)) (goodIn_sub (fun _ h => List.mem_cons_of_mem _ (List.mem_append_left _ (List.mem_append_right _ h))) (by decide +kernel))) (goodIn_sub (fun _ h => List.mem_cons_of_mem _ (List.mem_append_right _ h)) (by decide +kernel))
set_option maxRecDepth 20000 in
theorem gX8_gradeOf_X8_shareOf : GoodIn wsX8_gradeOf (wsV RX8 181 RX8 yX8_shareOf wsX8_shareOf) := goodIn_app (goodIn_of _ (by decide +kernel)) ggX8_gradeOf_X8_shareOf
theorem dX8_gradeOf_0 : decode cX8_gradeOf 0 = .ok (.aload_n 0, 1) := by decide +kernel
theorem dX8_gradeOf_1 : decode cX8_gradeOf 1 = .ok (.iload_n 1, 1) := by decide +kernel
theorem dX8_gradeOf_2 : decode cX8_gradeOf 2 = .ok (.iconst 3, 1) := by decide +kernel
theorem dX8_gradeOf_3 : decode cX8_gradeOf 3 = .ok (.invokevirtual 181, 3) := by decide +kernel
theorem dX8_gradeOf_6 : decode cX8_gradeOf 6 = .ok (.bipush 50, 2) := by decide +kernel
theorem dX8_gradeOf_8 : decode cX8_gradeOf 8 = .ok (.if_icmp .le 6, 3) := by decide +kernel
theorem dX8_gradeOf_11 : decode cX8_gradeOf 11 = .ok (.bipush 120, 2) := by decide +kernel
theorem dX8_gradeOf_13 : decode cX8_gradeOf 13 = .ok (.ireturn, 1) := by decide +kernel
theorem dX8_gradeOf_14 : decode cX8_gradeOf 14 = .ok (.aload_n 0, 1) := by decide +kernel
theorem dX8_gradeOf_15 : decode cX8_gradeOf 15 = .ok (.iload_n 1, 1) := by decide +kernel
theorem dX8_gradeOf_16 : decode cX8_gradeOf 16 = .ok (.iconst 0, 1) := by decide +kernel
theorem dX8_gradeOf_17 : decode cX8_gradeOf 17 = .ok (.invokevirtual 181, 3) := by decide +kernel
theorem dX8_gradeOf_20 : decode cX8_gradeOf 20 = .ok (.sipush 950, 3) := by decide +kernel
theorem dX8_gradeOf_23 : decode cX8_gradeOf 23 = .ok (.if_icmp .lt 6, 3) := by decide +kernel
theorem dX8_gradeOf_26 : decode cX8_gradeOf 26 = .ok (.bipush 99, 2) := by decide +kernel
theorem dX8_gradeOf_28 : decode cX8_gradeOf 28 = .ok (.ireturn, 1) := by decide +kernel
theorem dX8_gradeOf_29 : decode cX8_gradeOf 29 = .ok (.aload_n 0, 1) := by decide +kernel
theorem dX8_gradeOf_30 : decode cX8_gradeOf 30 = .ok (.iload_n 1, 1) := by decide +kernel
theorem dX8_gradeOf_31 : decode cX8_gradeOf 31 = .ok (.iconst 0, 1) := by decide +kernel
theorem dX8_gradeOf_32 : decode cX8_gradeOf 32 = .ok (.invokevirtual 181, 3) := by decide +kernel
theorem dX8_gradeOf_35 : decode cX8_gradeOf 35 = .ok (.sipush 800, 3) := by decide +kernel
theorem dX8_gradeOf_38 : decode cX8_gradeOf 38 = .ok (.if_icmp .lt 17, 3) := by decide +kernel
theorem dX8_gradeOf_41 : decode cX8_gradeOf 41 = .ok (.aload_n 0, 1) := by decide +kernel
theorem dX8_gradeOf_42 : decode cX8_gradeOf 42 = .ok (.iload_n 1, 1) := by decide +kernel
theorem dX8_gradeOf_43 : decode cX8_gradeOf 43 = .ok (.iconst 1, 1) := by decide +kernel
theorem dX8_gradeOf_44 : decode cX8_gradeOf 44 = .ok (.invokevirtual 181, 3) := by decide +kernel
theorem dX8_gradeOf_47 : decode cX8_gradeOf 47 = .ok (.bipush 100, 2) := by decide +kernel
theorem dX8_gradeOf_49 : decode cX8_gradeOf 49 = .ok (.if_icmp .lt 6, 3) := by decide +kernel
theorem dX8_gradeOf_52 : decode cX8_gradeOf 52 = .ok (.bipush 98, 2) := by decide +kernel
theorem dX8_gradeOf_54 : decode cX8_gradeOf 54 = .ok (.ireturn, 1) := by decide +kernel
theorem dX8_gradeOf_55 : decode cX8_gradeOf 55 = .ok (.aload_n 0, 1) := by decide +kernel
theorem dX8_gradeOf_56 : decode cX8_gradeOf 56 = .ok (.iload_n 1, 1) := by decide +kernel
theorem dX8_gradeOf_57 : decode cX8_gradeOf 57 = .ok (.iconst 1, 1) := by decide +kernel
theorem dX8_gradeOf_58 : decode cX8_gradeOf 58 = .ok (.invokevirtual 181, 3) := by decide +kernel
theorem dX8_gradeOf_61 : decode cX8_gradeOf 61 = .ok (.sipush 500, 3) := by decide +kernel
theorem dX8_gradeOf_64 : decode cX8_gradeOf 64 = .ok (.if_icmp .lt 20, 3) := by decide +kernel
theorem dX8_gradeOf_67 : decode cX8_gradeOf 67 = .ok (.aload_n 0, 1) := by decide +kernel
theorem dX8_gradeOf_68 : decode cX8_gradeOf 68 = .ok (.iload_n 1, 1) := by decide +kernel
theorem dX8_gradeOf_69 : decode cX8_gradeOf 69 = .ok (.iconst 2, 1) := by decide +kernel
theorem dX8_gradeOf_70 : decode cX8_gradeOf 70 = .ok (.invokevirtual 181, 3) := by decide +kernel
theorem dX8_gradeOf_73 : decode cX8_gradeOf 73 = .ok (.sipush 300, 3) := by decide +kernel
theorem dX8_gradeOf_76 : decode cX8_gradeOf 76 = .ok (.if_icmp .lt 8, 3) := by decide +kernel
theorem dX8_gradeOf_79 : decode cX8_gradeOf 79 = .ok (.bipush 115, 2) := by decide +kernel
theorem dX8_gradeOf_81 : decode cX8_gradeOf 81 = .ok (.goto 5, 3) := by decide +kernel
theorem dX8_gradeOf_84 : decode cX8_gradeOf 84 = .ok (.bipush 120, 2) := by decide +kernel
theorem dX8_gradeOf_86 : decode cX8_gradeOf 86 = .ok (.ireturn, 1) := by decide +kernel
set_option maxRecDepth 20000 in
theorem ggX8_grade_X8_isIngot : GoodIn wsX8_grade wsX8_isIngot := goodIn_ca (goodIn_r _ [6, 7, 8, 9, 5, 10, 26, 27, 28, 29, 30, 31, 32, 33, 34, 35, 36, 37, 38, 39, 40, 41, 42, 43, 44, 45, 46, 47] (by decide +kernel) (by decide +kernel)) (goodIn_sub (fun _ h => List.mem_cons_of_mem _ (List.mem_append_left _ (List.mem_append_right _ h))) (by decide +kernel))
set_option maxRecDepth 20000 in
theorem gX8_grade_X8_isIngot : GoodIn wsX8_grade (wsV RX8 152 RX8 yX8_isIngot wsX8_isIngot) := goodIn_app (goodIn_of _ (by decide +kernel)) ggX8_grade_X8_isIngot
set_option maxRecDepth 20000 in
theorem ggX8_grade_X8_gradeOf : GoodIn wsX8_grade wsX8_gradeOf := goodIn_ca (goodIn_ca (goodIn_r _ [14, 15, 16, 17, 5, 18, 7, 19, 20, 21, 22, 23, 24, 25, 26, 27, 28, 29, 30, 31, 32, 33, 34, 35, 36, 37, 38, 39, 40, 41, 42, 43, 44, 45, 46, 47] (by decide +kernel) (by decide +kernel)) (goodIn_sub (fun _ h => List.mem_cons_of_mem _ (List.mem_append_left _ (List.mem_append_right _ h))) (by decide +kernel))) (goodIn_sub (fun _ h => List.mem_cons_of_mem _ (List.mem_append_right _ h)) (by decide +kernel))
set_option maxRecDepth 20000 in
theorem gX8_grade_X8_gradeOf : GoodIn wsX8_grade (wsV RX8 184 RX8 yX8_gradeOf wsX8_gradeOf) := goodIn_app (goodIn_of _ (by decide +kernel)) ggX8_grade_X8_gradeOf
theorem dX8_grade_0 : decode cX8_grade 0 = .ok (.aload_n 0, 1) := by decide +kernel
theorem dX8_grade_1 : decode cX8_grade 1 = .ok (.aload_n 0, 1) := by decide +kernel
theorem dX8_grade_2 : decode cX8_grade 2 = .ok (.iload_n 1, 1) := by decide +kernel
theorem dX8_grade_3 : decode cX8_grade 3 = .ok (.invokevirtual 152, 3) := by decide +kernel
theorem dX8_grade_6 : decode cX8_grade 6 = .ok (.ifCond .eq 7, 3) := by decide +kernel
theorem dX8_grade_9 : decode cX8_grade 9 = .ok (.iconst 0, 1) := by decide +kernel
theorem dX8_grade_10 : decode cX8_grade 10 = .ok (.goto 4, 3) := by decide +kernel
theorem dX8_grade_13 : decode cX8_grade 13 = .ok (.iconst 1, 1) := by decide +kernel
theorem dX8_grade_14 : decode cX8_grade 14 = .ok (.putfield 57, 3) := by decide +kernel
theorem dX8_grade_17 : decode cX8_grade 17 = .ok (.aload_n 0, 1) := by decide +kernel
theorem dX8_grade_18 : decode cX8_grade 18 = .ok (.getfield 57, 3) := by decide +kernel
theorem dX8_grade_21 : decode cX8_grade 21 = .ok (.ifCond .ne 12, 3) := by decide +kernel
theorem dX8_grade_24 : decode cX8_grade 24 = .ok (.aload_n 0, 1) := by decide +kernel
theorem dX8_grade_25 : decode cX8_grade 25 = .ok (.iload_n 1, 1) := by decide +kernel
theorem dX8_grade_26 : decode cX8_grade 26 = .ok (.invokevirtual 184, 3) := by decide +kernel
theorem dX8_grade_29 : decode cX8_grade 29 = .ok (.i2c, 1) := by decide +kernel
theorem dX8_grade_30 : decode cX8_grade 30 = .ok (.goto 5, 3) := by decide +kernel
theorem dX8_grade_33 : decode cX8_grade 33 = .ok (.bipush 97, 2) := by decide +kernel
theorem dX8_grade_35 : decode cX8_grade 35 = .ok (.ireturn, 1) := by decide +kernel
set_option maxRecDepth 20000 in
theorem ggX8_ingotByMass_X8_ingot : GoodIn wsX8_ingotByMass wsX8_ingot := goodIn_r _ [6] (by decide +kernel) (by decide +kernel)
set_option maxRecDepth 20000 in
theorem gX8_ingotByMass_X8_ingot : GoodIn wsX8_ingotByMass (va_wsS RX8 146 yX8_ingot wsX8_ingot) := goodIn_app (goodIn_of _ (by decide +kernel)) ggX8_ingotByMass_X8_ingot
set_option maxRecDepth 20000 in
theorem ggX8_ingotByMass_X8_mass : GoodIn wsX8_ingotByMass wsX8_mass := goodIn_ca (goodIn_r _ [10, 2, 15, 16, 17, 18, 19, 20, 21, 22, 23, 24, 25, 26, 27, 28, 29, 30, 31, 32, 33, 34, 35, 36] (by decide +kernel) (by decide +kernel)) (goodIn_sub (fun _ h => List.mem_cons_of_mem _ (List.mem_append_right _ h)) (by decide +kernel))
set_option maxRecDepth 20000 in
theorem gX8_ingotByMass_X8_mass : GoodIn wsX8_ingotByMass (wsV RX8 71 RX8 yX8_mass wsX8_mass) := goodIn_app (goodIn_of _ (by decide +kernel)) ggX8_ingotByMass_X8_mass
set_option maxRecDepth 20000 in
theorem ggX8_ingotByMass_X8_fail : GoodIn wsX8_ingotByMass wsX8_fail := goodIn_r _ [14, 1, 15, 16, 17, 18, 19, 20, 21, 22, 23, 24, 25, 26, 27, 28, 29, 30, 31, 32, 33, 34, 35, 36] (by decide +kernel) (by decide +kernel)
set_option maxRecDepth 20000 in
theorem gX8_ingotByMass_X8_fail : GoodIn wsX8_ingotByMass (wsV RX8 89 RX8 yX8_fail wsX8_fail) := goodIn_app (goodIn_of _ (by decide +kernel)) ggX8_ingotByMass_X8_fail
theorem dX8_ingotByMass_0 : decode cX8_ingotByMass 0 = .ok (.aload_n 0, 1) := by decide +kernel
theorem dX8_ingotByMass_1 : decode cX8_ingotByMass 1 = .ok (.iconst 0, 1) := by decide +kernel
theorem dX8_ingotByMass_2 : decode cX8_ingotByMass 2 = .ok (.putfield 57, 3) := by decide +kernel
theorem dX8_ingotByMass_5 : decode cX8_ingotByMass 5 = .ok (.iconst 0, 1) := by decide +kernel
theorem dX8_ingotByMass_6 : decode cX8_ingotByMass 6 = .ok (.istore_n 2, 1) := by decide +kernel
theorem dX8_ingotByMass_7 : decode cX8_ingotByMass 7 = .ok (.iload_n 2, 1) := by decide +kernel
theorem dX8_ingotByMass_8 : decode cX8_ingotByMass 8 = .ok (.aload_n 0, 1) := by decide +kernel
theorem dX8_ingotByMass_9 : decode cX8_ingotByMass 9 = .ok (.getfield 16, 3) := by decide +kernel
theorem dX8_ingotByMass_12 : decode cX8_ingotByMass 12 = .ok (.bipush 43, 2) := by decide +kernel
theorem dX8_ingotByMass_14 : decode cX8_ingotByMass 14 = .ok (.iaload, 1) := by decide +kernel
theorem dX8_ingotByMass_15 : decode cX8_ingotByMass 15 = .ok (.if_icmp .ge 115, 3) := by decide +kernel
theorem dX8_ingotByMass_18 : decode cX8_ingotByMass 18 = .ok (.iconst 0, 1) := by decide +kernel
theorem dX8_ingotByMass_19 : decode cX8_ingotByMass 19 = .ok (.istore_n 3, 1) := by decide +kernel
theorem dX8_ingotByMass_20 : decode cX8_ingotByMass 20 = .ok (.iconst 0, 1) := by decide +kernel
theorem dX8_ingotByMass_21 : decode cX8_ingotByMass 21 = .ok (.istore 4, 2) := by decide +kernel
theorem dX8_ingotByMass_23 : decode cX8_ingotByMass 23 = .ok (.iload 4, 2) := by decide +kernel
theorem dX8_ingotByMass_25 : decode cX8_ingotByMass 25 = .ok (.aload_n 0, 1) := by decide +kernel
theorem dX8_ingotByMass_26 : decode cX8_ingotByMass 26 = .ok (.getfield 16, 3) := by decide +kernel
theorem dX8_ingotByMass_29 : decode cX8_ingotByMass 29 = .ok (.bipush 43, 2) := by decide +kernel
theorem dX8_ingotByMass_31 : decode cX8_ingotByMass 31 = .ok (.iaload, 1) := by decide +kernel
theorem dX8_ingotByMass_32 : decode cX8_ingotByMass 32 = .ok (.if_icmp .ge 85, 3) := by decide +kernel
theorem dX8_ingotByMass_35 : decode cX8_ingotByMass 35 = .ok (.aload_n 0, 1) := by decide +kernel
theorem dX8_ingotByMass_36 : decode cX8_ingotByMass 36 = .ok (.iload 4, 2) := by decide +kernel
theorem dX8_ingotByMass_38 : decode cX8_ingotByMass 38 = .ok (.invokestatic 146, 3) := by decide +kernel
theorem dX8_ingotByMass_41 : decode cX8_ingotByMass 41 = .ok (.invokevirtual 71, 3) := by decide +kernel
theorem dX8_ingotByMass_44 : decode cX8_ingotByMass 44 = .ok (.aload_n 0, 1) := by decide +kernel
theorem dX8_ingotByMass_45 : decode cX8_ingotByMass 45 = .ok (.iload_n 2, 1) := by decide +kernel
theorem dX8_ingotByMass_46 : decode cX8_ingotByMass 46 = .ok (.invokestatic 146, 3) := by decide +kernel
theorem dX8_ingotByMass_49 : decode cX8_ingotByMass 49 = .ok (.invokevirtual 71, 3) := by decide +kernel
theorem dX8_ingotByMass_52 : decode cX8_ingotByMass 52 = .ok (.isub, 1) := by decide +kernel
theorem dX8_ingotByMass_53 : decode cX8_ingotByMass 53 = .ok (.istore 5, 2) := by decide +kernel
theorem dX8_ingotByMass_55 : decode cX8_ingotByMass 55 = .ok (.iload 5, 2) := by decide +kernel
theorem dX8_ingotByMass_57 : decode cX8_ingotByMass 57 = .ok (.ifCond .eq 8, 3) := by decide +kernel
theorem dX8_ingotByMass_60 : decode cX8_ingotByMass 60 = .ok (.iload 5, 2) := by decide +kernel
theorem dX8_ingotByMass_62 : decode cX8_ingotByMass 62 = .ok (.goto 23, 3) := by decide +kernel
theorem dX8_ingotByMass_65 : decode cX8_ingotByMass 65 = .ok (.aload_n 0, 1) := by decide +kernel
theorem dX8_ingotByMass_66 : decode cX8_ingotByMass 66 = .ok (.getfield 16, 3) := by decide +kernel
theorem dX8_ingotByMass_69 : decode cX8_ingotByMass 69 = .ok (.iload 4, 2) := by decide +kernel
theorem dX8_ingotByMass_71 : decode cX8_ingotByMass 71 = .ok (.invokestatic 146, 3) := by decide +kernel
theorem dX8_ingotByMass_74 : decode cX8_ingotByMass 74 = .ok (.iaload, 1) := by decide +kernel
theorem dX8_ingotByMass_75 : decode cX8_ingotByMass 75 = .ok (.aload_n 0, 1) := by decide +kernel
theorem dX8_ingotByMass_76 : decode cX8_ingotByMass 76 = .ok (.getfield 16, 3) := by decide +kernel
theorem dX8_ingotByMass_79 : decode cX8_ingotByMass 79 = .ok (.iload_n 2, 1) := by decide +kernel
theorem dX8_ingotByMass_80 : decode cX8_ingotByMass 80 = .ok (.invokestatic 146, 3) := by decide +kernel
theorem dX8_ingotByMass_83 : decode cX8_ingotByMass 83 = .ok (.iaload, 1) := by decide +kernel
theorem dX8_ingotByMass_84 : decode cX8_ingotByMass 84 = .ok (.isub, 1) := by decide +kernel
theorem dX8_ingotByMass_85 : decode cX8_ingotByMass 85 = .ok (.istore 5, 2) := by decide +kernel
theorem dX8_ingotByMass_87 : decode cX8_ingotByMass 87 = .ok (.iload_n 3, 1) := by decide +kernel
theorem dX8_ingotByMass_88 : decode cX8_ingotByMass 88 = .ok (.iload 5, 2) := by decide +kernel
theorem dX8_ingotByMass_90 : decode cX8_ingotByMass 90 = .ok (.ifCond .gt 14, 3) := by decide +kernel
theorem dX8_ingotByMass_93 : decode cX8_ingotByMass 93 = .ok (.iload 5, 2) := by decide +kernel
theorem dX8_ingotByMass_95 : decode cX8_ingotByMass 95 = .ok (.ifCond .ne 13, 3) := by decide +kernel
theorem dX8_ingotByMass_98 : decode cX8_ingotByMass 98 = .ok (.iload 4, 2) := by decide +kernel
theorem dX8_ingotByMass_100 : decode cX8_ingotByMass 100 = .ok (.iload_n 2, 1) := by decide +kernel
theorem dX8_ingotByMass_101 : decode cX8_ingotByMass 101 = .ok (.if_icmp .ge 7, 3) := by decide +kernel
theorem dX8_ingotByMass_104 : decode cX8_ingotByMass 104 = .ok (.iconst 1, 1) := by decide +kernel
theorem dX8_ingotByMass_105 : decode cX8_ingotByMass 105 = .ok (.goto 4, 3) := by decide +kernel
theorem dX8_ingotByMass_108 : decode cX8_ingotByMass 108 = .ok (.iconst 0, 1) := by decide +kernel
theorem dX8_ingotByMass_109 : decode cX8_ingotByMass 109 = .ok (.iadd, 1) := by decide +kernel
theorem dX8_ingotByMass_110 : decode cX8_ingotByMass 110 = .ok (.istore_n 3, 1) := by decide +kernel
theorem dX8_ingotByMass_111 : decode cX8_ingotByMass 111 = .ok (.iinc 4 1, 3) := by decide +kernel
theorem dX8_ingotByMass_114 : decode cX8_ingotByMass 114 = .ok (.goto (-91), 3) := by decide +kernel
theorem dX8_ingotByMass_117 : decode cX8_ingotByMass 117 = .ok (.iload_n 3, 1) := by decide +kernel
theorem dX8_ingotByMass_118 : decode cX8_ingotByMass 118 = .ok (.iload_n 1, 1) := by decide +kernel
theorem dX8_ingotByMass_119 : decode cX8_ingotByMass 119 = .ok (.if_icmp .ne 5, 3) := by decide +kernel
theorem dX8_ingotByMass_122 : decode cX8_ingotByMass 122 = .ok (.iload_n 2, 1) := by decide +kernel
theorem dX8_ingotByMass_123 : decode cX8_ingotByMass 123 = .ok (.ireturn, 1) := by decide +kernel
theorem dX8_ingotByMass_124 : decode cX8_ingotByMass 124 = .ok (.iinc 2 1, 3) := by decide +kernel
theorem dX8_ingotByMass_127 : decode cX8_ingotByMass 127 = .ok (.goto (-120), 3) := by decide +kernel
theorem dX8_ingotByMass_130 : decode cX8_ingotByMass 130 = .ok (.aload_n 0, 1) := by decide +kernel
theorem dX8_ingotByMass_131 : decode cX8_ingotByMass 131 = .ok (.iconst 1, 1) := by decide +kernel
theorem dX8_ingotByMass_132 : decode cX8_ingotByMass 132 = .ok (.invokevirtual 89, 3) := by decide +kernel
theorem dX8_ingotByMass_135 : decode cX8_ingotByMass 135 = .ok (.ireturn, 1) := by decide +kernel
theorem dX8_time_0 : decode cX8_time 0 = .ok (.aload_n 0, 1) := by decide +kernel
theorem dX8_time_1 : decode cX8_time 1 = .ok (.iconst 0, 1) := by decide +kernel
theorem dX8_time_2 : decode cX8_time 2 = .ok (.putfield 57, 3) := by decide +kernel
theorem dX8_time_5 : decode cX8_time 5 = .ok (.aload_n 0, 1) := by decide +kernel
theorem dX8_time_6 : decode cX8_time 6 = .ok (.getfield 16, 3) := by decide +kernel
theorem dX8_time_9 : decode cX8_time 9 = .ok (.iconst 0, 1) := by decide +kernel
theorem dX8_time_10 : decode cX8_time 10 = .ok (.iaload, 1) := by decide +kernel
theorem dX8_time_11 : decode cX8_time 11 = .ok (.ireturn, 1) := by decide +kernel
set_option maxRecDepth 20000 in
theorem ggX8_account_X8_kind : GoodIn wsX8_account wsX8_kind := goodIn_r _ [6] (by decide +kernel) (by decide +kernel)
set_option maxRecDepth 20000 in
theorem gX8_account_X8_kind : GoodIn wsX8_account (va_wsS RX8 99 yX8_kind wsX8_kind) := goodIn_app (goodIn_of _ (by decide +kernel)) ggX8_account_X8_kind
theorem dX8_account_0 : decode cX8_account 0 = .ok (.aload_n 0, 1) := by decide +kernel
theorem dX8_account_1 : decode cX8_account 1 = .ok (.iload_n 2, 1) := by decide +kernel
theorem dX8_account_2 : decode cX8_account 2 = .ok (.invokestatic 99, 3) := by decide +kernel
theorem dX8_account_5 : decode cX8_account 5 = .ok (.ifCond .ge 7, 3) := by decide +kernel
theorem dX8_account_8 : decode cX8_account 8 = .ok (.iconst 1, 1) := by decide +kernel
theorem dX8_account_9 : decode cX8_account 9 = .ok (.goto 4, 3) := by decide +kernel
theorem dX8_account_12 : decode cX8_account 12 = .ok (.iconst 0, 1) := by decide +kernel
theorem dX8_account_13 : decode cX8_account 13 = .ok (.putfield 57, 3) := by decide +kernel
theorem dX8_account_16 : decode cX8_account 16 = .ok (.aload_n 0, 1) := by decide +kernel
theorem dX8_account_17 : decode cX8_account 17 = .ok (.getfield 57, 3) := by decide +kernel
theorem dX8_account_20 : decode cX8_account 20 = .ok (.ifCond .ne 17, 3) := by decide +kernel
theorem dX8_account_23 : decode cX8_account 23 = .ok (.aload_n 0, 1) := by decide +kernel
theorem dX8_account_24 : decode cX8_account 24 = .ok (.getfield 16, 3) := by decide +kernel
theorem dX8_account_27 : decode cX8_account 27 = .ok (.iload_n 1, 1) := by decide +kernel
theorem dX8_account_28 : decode cX8_account 28 = .ok (.iload_n 2, 1) := by decide +kernel
theorem dX8_account_29 : decode cX8_account 29 = .ok (.invokestatic 99, 3) := by decide +kernel
theorem dX8_account_32 : decode cX8_account 32 = .ok (.iadd, 1) := by decide +kernel
theorem dX8_account_33 : decode cX8_account 33 = .ok (.iaload, 1) := by decide +kernel
theorem dX8_account_34 : decode cX8_account 34 = .ok (.goto 4, 3) := by decide +kernel
theorem dX8_account_37 : decode cX8_account 37 = .ok (.iconst 0, 1) := by decide +kernel
theorem dX8_account_38 : decode cX8_account 38 = .ok (.ireturn, 1) := by decide +kernel
set_option maxRecDepth 20000 in
theorem ggX8_charged_X8_account : GoodIn wsX8_charged wsX8_account := goodIn_ca (goodIn_r _ [5, 6, 7, 8, 9, 4, 10, 11, 12, 13, 14, 15, 16, 17, 18, 19, 20, 21, 22, 23, 24, 25, 26, 27, 28, 29, 30, 31, 32] (by decide +kernel) (by decide +kernel)) (goodIn_sub (fun _ h => List.mem_cons_of_mem _ (List.mem_append_right _ h)) (by decide +kernel))
set_option maxRecDepth 20000 in
theorem gX8_charged_X8_account : GoodIn wsX8_charged (wsV RX8 187 RX8 yX8_account wsX8_account) := goodIn_app (goodIn_of _ (by decide +kernel)) ggX8_charged_X8_account
theorem dX8_charged_0 : decode cX8_charged 0 = .ok (.aload_n 0, 1) := by decide +kernel
theorem dX8_charged_1 : decode cX8_charged 1 = .ok (.iconst 1, 1) := by decide +kernel
theorem dX8_charged_2 : decode cX8_charged 2 = .ok (.iload_n 1, 1) := by decide +kernel
theorem dX8_charged_3 : decode cX8_charged 3 = .ok (.invokevirtual 187, 3) := by decide +kernel
theorem dX8_charged_6 : decode cX8_charged 6 = .ok (.ireturn, 1) := by decide +kernel
set_option maxRecDepth 20000 in
theorem ggX8_slag_X8_account : GoodIn wsX8_slag wsX8_account := goodIn_ca (goodIn_r _ [5, 6, 7, 8, 9, 4, 10, 11, 12, 13, 14, 15, 16, 17, 18, 19, 20, 21, 22, 23, 24, 25, 26, 27, 28, 29, 30, 31, 32] (by decide +kernel) (by decide +kernel)) (goodIn_sub (fun _ h => List.mem_cons_of_mem _ (List.mem_append_right _ h)) (by decide +kernel))
set_option maxRecDepth 20000 in
theorem gX8_slag_X8_account : GoodIn wsX8_slag (wsV RX8 187 RX8 yX8_account wsX8_account) := goodIn_app (goodIn_of _ (by decide +kernel)) ggX8_slag_X8_account
theorem dX8_slag_0 : decode cX8_slag 0 = .ok (.aload_n 0, 1) := by decide +kernel
theorem dX8_slag_1 : decode cX8_slag 1 = .ok (.iconst 5, 1) := by decide +kernel
theorem dX8_slag_2 : decode cX8_slag 2 = .ok (.iload_n 1, 1) := by decide +kernel
theorem dX8_slag_3 : decode cX8_slag 3 = .ok (.invokevirtual 187, 3) := by decide +kernel
theorem dX8_slag_6 : decode cX8_slag 6 = .ok (.ireturn, 1) := by decide +kernel
set_option maxRecDepth 20000 in
theorem ggX8_stock_X8_kind : GoodIn wsX8_stock wsX8_kind := goodIn_r _ [6] (by decide +kernel) (by decide +kernel)
set_option maxRecDepth 20000 in
theorem gX8_stock_X8_kind : GoodIn wsX8_stock (va_wsS RX8 99 yX8_kind wsX8_kind) := goodIn_app (goodIn_of _ (by decide +kernel)) ggX8_stock_X8_kind
theorem dX8_stock_0 : decode cX8_stock 0 = .ok (.aload_n 0, 1) := by decide +kernel
theorem dX8_stock_1 : decode cX8_stock 1 = .ok (.iload_n 1, 1) := by decide +kernel
theorem dX8_stock_2 : decode cX8_stock 2 = .ok (.invokestatic 99, 3) := by decide +kernel
theorem dX8_stock_5 : decode cX8_stock 5 = .ok (.ifCond .ge 7, 3) := by decide +kernel
theorem dX8_stock_8 : decode cX8_stock 8 = .ok (.iconst 1, 1) := by decide +kernel
theorem dX8_stock_9 : decode cX8_stock 9 = .ok (.goto 4, 3) := by decide +kernel
theorem dX8_stock_12 : decode cX8_stock 12 = .ok (.iconst 0, 1) := by decide +kernel
theorem dX8_stock_13 : decode cX8_stock 13 = .ok (.putfield 57, 3) := by decide +kernel
theorem dX8_stock_16 : decode cX8_stock 16 = .ok (.aload_n 0, 1) := by decide +kernel
theorem dX8_stock_17 : decode cX8_stock 17 = .ok (.getfield 57, 3) := by decide +kernel
theorem dX8_stock_20 : decode cX8_stock 20 = .ok (.ifCond .ne 29, 3) := by decide +kernel
theorem dX8_stock_23 : decode cX8_stock 23 = .ok (.aload_n 0, 1) := by decide +kernel
theorem dX8_stock_24 : decode cX8_stock 24 = .ok (.getfield 16, 3) := by decide +kernel
theorem dX8_stock_27 : decode cX8_stock 27 = .ok (.iconst 1, 1) := by decide +kernel
theorem dX8_stock_28 : decode cX8_stock 28 = .ok (.iload_n 1, 1) := by decide +kernel
theorem dX8_stock_29 : decode cX8_stock 29 = .ok (.invokestatic 99, 3) := by decide +kernel
theorem dX8_stock_32 : decode cX8_stock 32 = .ok (.iadd, 1) := by decide +kernel
theorem dX8_stock_33 : decode cX8_stock 33 = .ok (.iaload, 1) := by decide +kernel
theorem dX8_stock_34 : decode cX8_stock 34 = .ok (.aload_n 0, 1) := by decide +kernel
theorem dX8_stock_35 : decode cX8_stock 35 = .ok (.getfield 16, 3) := by decide +kernel
theorem dX8_stock_38 : decode cX8_stock 38 = .ok (.iconst 5, 1) := by decide +kernel
theorem dX8_stock_39 : decode cX8_stock 39 = .ok (.iload_n 1, 1) := by decide +kernel
theorem dX8_stock_40 : decode cX8_stock 40 = .ok (.invokestatic 99, 3) := by decide +kernel
theorem dX8_stock_43 : decode cX8_stock 43 = .ok (.iadd, 1) := by decide +kernel
theorem dX8_stock_44 : decode cX8_stock 44 = .ok (.iaload, 1) := by decide +kernel
theorem dX8_stock_45 : decode cX8_stock 45 = .ok (.isub, 1) := by decide +kernel
theorem dX8_stock_46 : decode cX8_stock 46 = .ok (.goto 4, 3) := by decide +kernel
theorem dX8_stock_49 : decode cX8_stock 49 = .ok (.iconst 0, 1) := by decide +kernel
theorem dX8_stock_50 : decode cX8_stock 50 = .ok (.ireturn, 1) := by decide +kernel
set_option maxRecDepth 20000 in
theorem ggX8_stockByAccounts_X8_stock : GoodIn wsX8_stockByAccounts wsX8_stock := goodIn_ca (goodIn_r _ [5, 6, 7, 8, 9, 4, 10, 11, 12, 13, 14, 15, 16, 17, 18, 19, 20, 21, 22, 23, 24, 25, 26, 27, 28, 29, 30, 31, 32] (by decide +kernel) (by decide +kernel)) (goodIn_sub (fun _ h => List.mem_cons_of_mem _ (List.mem_append_right _ h)) (by decide +kernel))
set_option maxRecDepth 20000 in
theorem gX8_stockByAccounts_X8_stock : GoodIn wsX8_stockByAccounts (wsV RX8 190 RX8 yX8_stock wsX8_stock) := goodIn_app (goodIn_of _ (by decide +kernel)) ggX8_stockByAccounts_X8_stock
theorem dX8_stockByAccounts_0 : decode cX8_stockByAccounts 0 = .ok (.aload_n 0, 1) := by decide +kernel
theorem dX8_stockByAccounts_1 : decode cX8_stockByAccounts 1 = .ok (.iload_n 1, 1) := by decide +kernel
theorem dX8_stockByAccounts_2 : decode cX8_stockByAccounts 2 = .ok (.invokevirtual 190, 3) := by decide +kernel
theorem dX8_stockByAccounts_5 : decode cX8_stockByAccounts 5 = .ok (.ireturn, 1) := by decide +kernel
set_option maxRecDepth 20000 in
theorem ggX8_meanTemperature_X8_furnace : GoodIn wsX8_meanTemperature wsX8_furnace := goodIn_r _ [7] (by decide +kernel) (by decide +kernel)
set_option maxRecDepth 20000 in
theorem gX8_meanTemperature_X8_furnace : GoodIn wsX8_meanTemperature (va_wsS RX8 50 yX8_furnace wsX8_furnace) := goodIn_app (goodIn_of _ (by decide +kernel)) ggX8_meanTemperature_X8_furnace
theorem dX8_meanTemperature_0 : decode cX8_meanTemperature 0 = .ok (.aload_n 0, 1) := by decide +kernel
theorem dX8_meanTemperature_1 : decode cX8_meanTemperature 1 = .ok (.iconst 0, 1) := by decide +kernel
theorem dX8_meanTemperature_2 : decode cX8_meanTemperature 2 = .ok (.putfield 57, 3) := by decide +kernel
theorem dX8_meanTemperature_5 : decode cX8_meanTemperature 5 = .ok (.iconst 0, 1) := by decide +kernel
theorem dX8_meanTemperature_6 : decode cX8_meanTemperature 6 = .ok (.istore_n 1, 1) := by decide +kernel
theorem dX8_meanTemperature_7 : decode cX8_meanTemperature 7 = .ok (.iconst 0, 1) := by decide +kernel
theorem dX8_meanTemperature_8 : decode cX8_meanTemperature 8 = .ok (.istore_n 2, 1) := by decide +kernel
theorem dX8_meanTemperature_9 : decode cX8_meanTemperature 9 = .ok (.iload_n 2, 1) := by decide +kernel
theorem dX8_meanTemperature_10 : decode cX8_meanTemperature 10 = .ok (.iconst 3, 1) := by decide +kernel
theorem dX8_meanTemperature_11 : decode cX8_meanTemperature 11 = .ok (.if_icmp .ge 23, 3) := by decide +kernel
theorem dX8_meanTemperature_14 : decode cX8_meanTemperature 14 = .ok (.iload_n 1, 1) := by decide +kernel
theorem dX8_meanTemperature_15 : decode cX8_meanTemperature 15 = .ok (.aload_n 0, 1) := by decide +kernel
theorem dX8_meanTemperature_16 : decode cX8_meanTemperature 16 = .ok (.getfield 16, 3) := by decide +kernel
theorem dX8_meanTemperature_19 : decode cX8_meanTemperature 19 = .ok (.iload_n 2, 1) := by decide +kernel
theorem dX8_meanTemperature_20 : decode cX8_meanTemperature 20 = .ok (.invokestatic 50, 3) := by decide +kernel
theorem dX8_meanTemperature_23 : decode cX8_meanTemperature 23 = .ok (.iconst 4, 1) := by decide +kernel
theorem dX8_meanTemperature_24 : decode cX8_meanTemperature 24 = .ok (.iadd, 1) := by decide +kernel
theorem dX8_meanTemperature_25 : decode cX8_meanTemperature 25 = .ok (.iaload, 1) := by decide +kernel
theorem dX8_meanTemperature_26 : decode cX8_meanTemperature 26 = .ok (.iadd, 1) := by decide +kernel
theorem dX8_meanTemperature_27 : decode cX8_meanTemperature 27 = .ok (.istore_n 1, 1) := by decide +kernel
theorem dX8_meanTemperature_28 : decode cX8_meanTemperature 28 = .ok (.iinc 2 1, 3) := by decide +kernel
theorem dX8_meanTemperature_31 : decode cX8_meanTemperature 31 = .ok (.goto (-22), 3) := by decide +kernel
theorem dX8_meanTemperature_34 : decode cX8_meanTemperature 34 = .ok (.iload_n 1, 1) := by decide +kernel
theorem dX8_meanTemperature_35 : decode cX8_meanTemperature 35 = .ok (.i2d, 1) := by decide +kernel
theorem dX8_meanTemperature_36 : decode cX8_meanTemperature 36 = .ok (.ldc2_w 194, 3) := by decide +kernel
theorem dX8_meanTemperature_39 : decode cX8_meanTemperature 39 = .ok (.ddiv, 1) := by decide +kernel
theorem dX8_meanTemperature_40 : decode cX8_meanTemperature 40 = .ok (.dreturn, 1) := by decide +kernel
set_option maxRecDepth 20000 in
theorem ggX8_slagRate_X8_mass : GoodIn wsX8_slagRate wsX8_mass := goodIn_ca (goodIn_r _ [6, 7, 8, 9, 10, 11, 12, 13, 14, 15, 16, 17, 18, 19, 20, 21, 22, 23, 24, 25, 26, 27, 28, 29] (by decide +kernel) (by decide +kernel)) (goodIn_sub (fun _ h => List.mem_cons_of_mem _ (List.mem_append_right _ h)) (by decide +kernel))
set_option maxRecDepth 20000 in
theorem gX8_slagRate_X8_mass : GoodIn wsX8_slagRate (wsV RX8 71 RX8 yX8_mass wsX8_mass) := goodIn_app (goodIn_of _ (by decide +kernel)) ggX8_slagRate_X8_mass
theorem dX8_slagRate_0 : decode cX8_slagRate 0 = .ok (.aload_n 0, 1) := by decide +kernel
theorem dX8_slagRate_1 : decode cX8_slagRate 1 = .ok (.aload_n 0, 1) := by decide +kernel
theorem dX8_slagRate_2 : decode cX8_slagRate 2 = .ok (.iconst 1, 1) := by decide +kernel
theorem dX8_slagRate_3 : decode cX8_slagRate 3 = .ok (.invokevirtual 71, 3) := by decide +kernel
theorem dX8_slagRate_6 : decode cX8_slagRate 6 = .ok (.ifCond .ne 7, 3) := by decide +kernel
theorem dX8_slagRate_9 : decode cX8_slagRate 9 = .ok (.iconst 1, 1) := by decide +kernel
theorem dX8_slagRate_10 : decode cX8_slagRate 10 = .ok (.goto 4, 3) := by decide +kernel
theorem dX8_slagRate_13 : decode cX8_slagRate 13 = .ok (.iconst 0, 1) := by decide +kernel
theorem dX8_slagRate_14 : decode cX8_slagRate 14 = .ok (.putfield 57, 3) := by decide +kernel
theorem dX8_slagRate_17 : decode cX8_slagRate 17 = .ok (.aload_n 0, 1) := by decide +kernel
theorem dX8_slagRate_18 : decode cX8_slagRate 18 = .ok (.getfield 57, 3) := by decide +kernel
theorem dX8_slagRate_21 : decode cX8_slagRate 21 = .ok (.ifCond .ne 19, 3) := by decide +kernel
theorem dX8_slagRate_24 : decode cX8_slagRate 24 = .ok (.aload_n 0, 1) := by decide +kernel
theorem dX8_slagRate_25 : decode cX8_slagRate 25 = .ok (.iconst 5, 1) := by decide +kernel
theorem dX8_slagRate_26 : decode cX8_slagRate 26 = .ok (.invokevirtual 71, 3) := by decide +kernel
theorem dX8_slagRate_29 : decode cX8_slagRate 29 = .ok (.i2f, 1) := by decide +kernel
theorem dX8_slagRate_30 : decode cX8_slagRate 30 = .ok (.aload_n 0, 1) := by decide +kernel
theorem dX8_slagRate_31 : decode cX8_slagRate 31 = .ok (.iconst 1, 1) := by decide +kernel
theorem dX8_slagRate_32 : decode cX8_slagRate 32 = .ok (.invokevirtual 71, 3) := by decide +kernel
theorem dX8_slagRate_35 : decode cX8_slagRate 35 = .ok (.i2f, 1) := by decide +kernel
theorem dX8_slagRate_36 : decode cX8_slagRate 36 = .ok (.fdiv, 1) := by decide +kernel
theorem dX8_slagRate_37 : decode cX8_slagRate 37 = .ok (.goto 4, 3) := by decide +kernel
theorem dX8_slagRate_40 : decode cX8_slagRate 40 = .ok (.fconst 0, 1) := by decide +kernel
theorem dX8_slagRate_41 : decode cX8_slagRate 41 = .ok (.freturn, 1) := by decide +kernel
set_option maxRecDepth 20000 in
theorem ggX8_isConsistent_X8_furnace : GoodIn wsX8_isConsistent wsX8_furnace := goodIn_r _ [6] (by decide +kernel) (by decide +kernel)
set_option maxRecDepth 20000 in
theorem gX8_isConsistent_X8_furnace : GoodIn wsX8_isConsistent (va_wsS RX8 50 yX8_furnace wsX8_furnace) := goodIn_app (goodIn_of _ (by decide +kernel)) ggX8_isConsistent_X8_furnace
set_option maxRecDepth 20000 in
theorem ggX8_isConsistent_X8_mass : GoodIn wsX8_isConsistent wsX8_mass := goodIn_ca (goodIn_r _ [10, 2, 20, 21, 22, 23, 24, 25, 26, 27, 28, 29, 30, 31, 32, 33, 34, 35, 36, 37, 38, 39, 40, 41] (by decide +kernel) (by decide +kernel)) (goodIn_sub (fun _ h => List.mem_cons_of_mem _ (List.mem_append_right _ h)) (by decide +kernel))
set_option maxRecDepth 20000 in
theorem gX8_isConsistent_X8_mass : GoodIn wsX8_isConsistent (wsV RX8 71 RX8 yX8_mass wsX8_mass) := goodIn_app (goodIn_of _ (by decide +kernel)) ggX8_isConsistent_X8_mass
set_option maxRecDepth 20000 in
theorem ggX8_isConsistent_X8_ladle : GoodIn wsX8_isConsistent wsX8_ladle := goodIn_r _ [13] (by decide +kernel) (by decide +kernel)
set_option maxRecDepth 20000 in
theorem gX8_isConsistent_X8_ladle : GoodIn wsX8_isConsistent (va_wsS RX8 54 yX8_ladle wsX8_ladle) := goodIn_app (goodIn_of _ (by decide +kernel)) ggX8_isConsistent_X8_ladle
set_option maxRecDepth 20000 in
theorem ggX8_isConsistent_X8_mould : GoodIn wsX8_isConsistent wsX8_mould := goodIn_r _ [16] (by decide +kernel) (by decide +kernel)
set_option maxRecDepth 20000 in
theorem gX8_isConsistent_X8_mould : GoodIn wsX8_isConsistent (va_wsS RX8 134 yX8_mould wsX8_mould) := goodIn_app (goodIn_of _ (by decide +kernel)) ggX8_isConsistent_X8_mould
set_option maxRecDepth 20000 in
theorem ggX8_isConsistent_X8_ingot : GoodIn wsX8_isConsistent wsX8_ingot := goodIn_r _ [19] (by decide +kernel) (by decide +kernel)
set_option maxRecDepth 20000 in
theorem gX8_isConsistent_X8_ingot : GoodIn wsX8_isConsistent (va_wsS RX8 146 yX8_ingot wsX8_ingot) := goodIn_app (goodIn_of _ (by decide +kernel)) ggX8_isConsistent_X8_ingot
theorem dX8_isConsistent_0 : decode cX8_isConsistent 0 = .ok (.aload_n 0, 1) := by decide +kernel
theorem dX8_isConsistent_1 : decode cX8_isConsistent 1 = .ok (.iconst 0, 1) := by decide +kernel
theorem dX8_isConsistent_2 : decode cX8_isConsistent 2 = .ok (.putfield 57, 3) := by decide +kernel
theorem dX8_isConsistent_5 : decode cX8_isConsistent 5 = .ok (.iconst 0, 1) := by decide +kernel
theorem dX8_isConsistent_6 : decode cX8_isConsistent 6 = .ok (.istore_n 1, 1) := by decide +kernel
theorem dX8_isConsistent_7 : decode cX8_isConsistent 7 = .ok (.iconst 0, 1) := by decide +kernel
theorem dX8_isConsistent_8 : decode cX8_isConsistent 8 = .ok (.istore_n 2, 1) := by decide +kernel
theorem dX8_isConsistent_9 : decode cX8_isConsistent 9 = .ok (.iload_n 2, 1) := by decide +kernel
theorem dX8_isConsistent_10 : decode cX8_isConsistent 10 = .ok (.iconst 3, 1) := by decide +kernel
theorem dX8_isConsistent_11 : decode cX8_isConsistent 11 = .ok (.if_icmp .ge 29, 3) := by decide +kernel
theorem dX8_isConsistent_14 : decode cX8_isConsistent 14 = .ok (.iload_n 1, 1) := by decide +kernel
theorem dX8_isConsistent_15 : decode cX8_isConsistent 15 = .ok (.aload_n 0, 1) := by decide +kernel
theorem dX8_isConsistent_16 : decode cX8_isConsistent 16 = .ok (.iload_n 2, 1) := by decide +kernel
theorem dX8_isConsistent_17 : decode cX8_isConsistent 17 = .ok (.invokestatic 50, 3) := by decide +kernel
theorem dX8_isConsistent_20 : decode cX8_isConsistent 20 = .ok (.invokevirtual 71, 3) := by decide +kernel
theorem dX8_isConsistent_23 : decode cX8_isConsistent 23 = .ok (.aload_n 0, 1) := by decide +kernel
theorem dX8_isConsistent_24 : decode cX8_isConsistent 24 = .ok (.iload_n 2, 1) := by decide +kernel
theorem dX8_isConsistent_25 : decode cX8_isConsistent 25 = .ok (.invokestatic 54, 3) := by decide +kernel
theorem dX8_isConsistent_28 : decode cX8_isConsistent 28 = .ok (.invokevirtual 71, 3) := by decide +kernel
theorem dX8_isConsistent_31 : decode cX8_isConsistent 31 = .ok (.iadd, 1) := by decide +kernel
theorem dX8_isConsistent_32 : decode cX8_isConsistent 32 = .ok (.iadd, 1) := by decide +kernel
theorem dX8_isConsistent_33 : decode cX8_isConsistent 33 = .ok (.istore_n 1, 1) := by decide +kernel
theorem dX8_isConsistent_34 : decode cX8_isConsistent 34 = .ok (.iinc 2 1, 3) := by decide +kernel
theorem dX8_isConsistent_37 : decode cX8_isConsistent 37 = .ok (.goto (-28), 3) := by decide +kernel
theorem dX8_isConsistent_40 : decode cX8_isConsistent 40 = .ok (.iconst 0, 1) := by decide +kernel
theorem dX8_isConsistent_41 : decode cX8_isConsistent 41 = .ok (.istore_n 2, 1) := by decide +kernel
theorem dX8_isConsistent_42 : decode cX8_isConsistent 42 = .ok (.iload_n 2, 1) := by decide +kernel
theorem dX8_isConsistent_43 : decode cX8_isConsistent 43 = .ok (.aload_n 0, 1) := by decide +kernel
theorem dX8_isConsistent_44 : decode cX8_isConsistent 44 = .ok (.getfield 16, 3) := by decide +kernel
theorem dX8_isConsistent_47 : decode cX8_isConsistent 47 = .ok (.bipush 42, 2) := by decide +kernel
theorem dX8_isConsistent_49 : decode cX8_isConsistent 49 = .ok (.iaload, 1) := by decide +kernel
theorem dX8_isConsistent_50 : decode cX8_isConsistent 50 = .ok (.if_icmp .ge 20, 3) := by decide +kernel
theorem dX8_isConsistent_53 : decode cX8_isConsistent 53 = .ok (.iload_n 1, 1) := by decide +kernel
theorem dX8_isConsistent_54 : decode cX8_isConsistent 54 = .ok (.aload_n 0, 1) := by decide +kernel
theorem dX8_isConsistent_55 : decode cX8_isConsistent 55 = .ok (.iload_n 2, 1) := by decide +kernel
theorem dX8_isConsistent_56 : decode cX8_isConsistent 56 = .ok (.invokestatic 134, 3) := by decide +kernel
theorem dX8_isConsistent_59 : decode cX8_isConsistent 59 = .ok (.invokevirtual 71, 3) := by decide +kernel
theorem dX8_isConsistent_62 : decode cX8_isConsistent 62 = .ok (.iadd, 1) := by decide +kernel
theorem dX8_isConsistent_63 : decode cX8_isConsistent 63 = .ok (.istore_n 1, 1) := by decide +kernel
theorem dX8_isConsistent_64 : decode cX8_isConsistent 64 = .ok (.iinc 2 1, 3) := by decide +kernel
theorem dX8_isConsistent_67 : decode cX8_isConsistent 67 = .ok (.goto (-25), 3) := by decide +kernel
theorem dX8_isConsistent_70 : decode cX8_isConsistent 70 = .ok (.iconst 0, 1) := by decide +kernel
