theorem dX5_readNumber_1 : decode cX5_readNumber 1 = .ok (.istore_n 2, 1) := by decide +kernel
theorem dX5_readNumber_2 : decode cX5_readNumber 2 = .ok (.iconst 0, 1) := by decide +kernel
theorem dX5_readNumber_3 : decode cX5_readNumber 3 = .ok (.istore_n 3, 1) := by decide +kernel
theorem dX5_readNumber_4 : decode cX5_readNumber 4 = .ok (.iload_n 3, 1) := by decide +kernel
theorem dX5_readNumber_5 : decode cX5_readNumber 5 = .ok (.iload_n 1, 1) := by decide +kernel
theorem dX5_readNumber_6 : decode cX5_readNumber 6 = .ok (.if_icmp .ge 48, 3) := by decide +kernel
theorem dX5_readNumber_9 : decode cX5_readNumber 9 = .ok (.aload_n 0, 1) := by decide +kernel
theorem dX5_readNumber_10 : decode cX5_readNumber 10 = .ok (.invokevirtual 95, 3) := by decide +kernel
theorem dX5_readNumber_13 : decode cX5_readNumber 13 = .ok (.ifCond .eq 41, 3) := by decide +kernel
theorem dX5_readNumber_16 : decode cX5_readNumber 16 = .ok (.iload_n 2, 1) := by decide +kernel
theorem dX5_readNumber_17 : decode cX5_readNumber 17 = .ok (.iconst 0, 1) := by decide +kernel
theorem dX5_readNumber_18 : decode cX5_readNumber 18 = .ok (.invokestatic 71, 3) := by decide +kernel
theorem dX5_readNumber_21 : decode cX5_readNumber 21 = .ok (.bipush 10, 2) := by decide +kernel
theorem dX5_readNumber_23 : decode cX5_readNumber 23 = .ok (.imul, 1) := by decide +kernel
theorem dX5_readNumber_24 : decode cX5_readNumber 24 = .ok (.aload_n 0, 1) := by decide +kernel
theorem dX5_readNumber_25 : decode cX5_readNumber 25 = .ok (.getfield 9, 3) := by decide +kernel
theorem dX5_readNumber_28 : decode cX5_readNumber 28 = .ok (.aload_n 0, 1) := by decide +kernel
theorem dX5_readNumber_29 : decode cX5_readNumber 29 = .ok (.getfield 19, 3) := by decide +kernel
theorem dX5_readNumber_32 : decode cX5_readNumber 32 = .ok (.caload, 1) := by decide +kernel
theorem dX5_readNumber_33 : decode cX5_readNumber 33 = .ok (.bipush 48, 2) := by decide +kernel
theorem dX5_readNumber_35 : decode cX5_readNumber 35 = .ok (.isub, 1) := by decide +kernel
theorem dX5_readNumber_36 : decode cX5_readNumber 36 = .ok (.iadd, 1) := by decide +kernel
theorem dX5_readNumber_37 : decode cX5_readNumber 37 = .ok (.istore_n 2, 1) := by decide +kernel
theorem dX5_readNumber_38 : decode cX5_readNumber 38 = .ok (.aload_n 0, 1) := by decide +kernel
theorem dX5_readNumber_39 : decode cX5_readNumber 39 = .ok (.dup, 1) := by decide +kernel
theorem dX5_readNumber_40 : decode cX5_readNumber 40 = .ok (.getfield 19, 3) := by decide +kernel
theorem dX5_readNumber_43 : decode cX5_readNumber 43 = .ok (.iconst 1, 1) := by decide +kernel
theorem dX5_readNumber_44 : decode cX5_readNumber 44 = .ok (.iadd, 1) := by decide +kernel
theorem dX5_readNumber_45 : decode cX5_readNumber 45 = .ok (.putfield 19, 3) := by decide +kernel
theorem dX5_readNumber_48 : decode cX5_readNumber 48 = .ok (.iinc 3 1, 3) := by decide +kernel
theorem dX5_readNumber_51 : decode cX5_readNumber 51 = .ok (.goto (-47), 3) := by decide +kernel
theorem dX5_readNumber_54 : decode cX5_readNumber 54 = .ok (.iload_n 2, 1) := by decide +kernel
theorem dX5_readNumber_55 : decode cX5_readNumber 55 = .ok (.ireturn, 1) := by decide +kernel
theorem dX5_digitFollows_0 : decode cX5_digitFollows 0 = .ok (.aload_n 0, 1) := by decide +kernel
theorem dX5_digitFollows_1 : decode cX5_digitFollows 1 = .ok (.getfield 19, 3) := by decide +kernel
theorem dX5_digitFollows_4 : decode cX5_digitFollows 4 = .ok (.aload_n 0, 1) := by decide +kernel
theorem dX5_digitFollows_5 : decode cX5_digitFollows 5 = .ok (.getfield 15, 3) := by decide +kernel
theorem dX5_digitFollows_8 : decode cX5_digitFollows 8 = .ok (.if_icmp .ge 35, 3) := by decide +kernel
theorem dX5_digitFollows_11 : decode cX5_digitFollows 11 = .ok (.aload_n 0, 1) := by decide +kernel
theorem dX5_digitFollows_12 : decode cX5_digitFollows 12 = .ok (.getfield 9, 3) := by decide +kernel
theorem dX5_digitFollows_15 : decode cX5_digitFollows 15 = .ok (.aload_n 0, 1) := by decide +kernel
theorem dX5_digitFollows_16 : decode cX5_digitFollows 16 = .ok (.getfield 19, 3) := by decide +kernel
theorem dX5_digitFollows_19 : decode cX5_digitFollows 19 = .ok (.caload, 1) := by decide +kernel
theorem dX5_digitFollows_20 : decode cX5_digitFollows 20 = .ok (.bipush 48, 2) := by decide +kernel
theorem dX5_digitFollows_22 : decode cX5_digitFollows 22 = .ok (.if_icmp .lt 21, 3) := by decide +kernel
theorem dX5_digitFollows_25 : decode cX5_digitFollows 25 = .ok (.aload_n 0, 1) := by decide +kernel
theorem dX5_digitFollows_26 : decode cX5_digitFollows 26 = .ok (.getfield 9, 3) := by decide +kernel
theorem dX5_digitFollows_29 : decode cX5_digitFollows 29 = .ok (.aload_n 0, 1) := by decide +kernel
theorem dX5_digitFollows_30 : decode cX5_digitFollows 30 = .ok (.getfield 19, 3) := by decide +kernel
theorem dX5_digitFollows_33 : decode cX5_digitFollows 33 = .ok (.caload, 1) := by decide +kernel
theorem dX5_digitFollows_34 : decode cX5_digitFollows 34 = .ok (.bipush 57, 2) := by decide +kernel
theorem dX5_digitFollows_36 : decode cX5_digitFollows 36 = .ok (.if_icmp .gt 7, 3) := by decide +kernel
theorem dX5_digitFollows_39 : decode cX5_digitFollows 39 = .ok (.iconst 1, 1) := by decide +kernel
theorem dX5_digitFollows_40 : decode cX5_digitFollows 40 = .ok (.goto 4, 3) := by decide +kernel
theorem dX5_digitFollows_43 : decode cX5_digitFollows 43 = .ok (.iconst 0, 1) := by decide +kernel
theorem dX5_digitFollows_44 : decode cX5_digitFollows 44 = .ok (.ireturn, 1) := by decide +kernel
set_option maxRecDepth 20000 in
theorem ggX6_init_X3_init : GoodIn wsX6_init wsX3_init := goodIn_r _ [11, 12, 2, 3, 13, 14, 15] (by decide +kernel) (by decide +kernel)
set_option maxRecDepth 20000 in
theorem gX6_init_X3_init_n11 : GoodIn wsX6_init (wsX3_init) := ggX6_init_X3_init
theorem dX6_init_0 : decode cX6_init 0 = .ok (.aload_n 0, 1) := by decide +kernel
theorem dX6_init_1 : decode cX6_init 1 = .ok (.invokespecial 3, 3) := by decide +kernel
theorem dX6_init_4 : decode cX6_init 4 = .ok (.aload_n 0, 1) := by decide +kernel
theorem dX6_init_5 : decode cX6_init 5 = .ok (.new 9, 3) := by decide +kernel
theorem dX6_init_8 : decode cX6_init 8 = .ok (.dup, 1) := by decide +kernel
theorem dX6_init_9 : decode cX6_init 9 = .ok (.invokespecial 11, 3) := by decide +kernel
theorem dX6_init_12 : decode cX6_init 12 = .ok (.putfield 12, 3) := by decide +kernel
theorem dX6_init_15 : decode cX6_init 15 = .ok (.aload_n 0, 1) := by decide +kernel
theorem dX6_init_16 : decode cX6_init 16 = .ok (.bipush 20, 2) := by decide +kernel
theorem dX6_init_18 : decode cX6_init 18 = .ok (.putfield 18, 3) := by decide +kernel
theorem dX6_init_21 : decode cX6_init 21 = .ok (.aload_n 0, 1) := by decide +kernel
theorem dX6_init_22 : decode cX6_init 22 = .ok (.iload_n 1, 1) := by decide +kernel
theorem dX6_init_23 : decode cX6_init 23 = .ok (.putfield 22, 3) := by decide +kernel
theorem dX6_init_26 : decode cX6_init 26 = .ok (.return_, 1) := by decide +kernel
set_option maxRecDepth 20000 in
theorem ggX6_copyFrom_X3_copyFrom : GoodIn wsX6_copyFrom wsX3_copyFrom := goodIn_r _ [7, 8, 9, 10, 11, 12, 16] (by decide +kernel) (by decide +kernel)
set_option maxRecDepth 20000 in
theorem gX6_copyFrom_X3_copyFrom : GoodIn wsX6_copyFrom (wsV RX6 25 RX3 yX3_copyFrom wsX3_copyFrom) := goodIn_app (goodIn_of _ (by decide +kernel)) ggX6_copyFrom_X3_copyFrom
theorem dX6_copyFrom_0 : decode cX6_copyFrom 0 = .ok (.aload_n 0, 1) := by decide +kernel
theorem dX6_copyFrom_1 : decode cX6_copyFrom 1 = .ok (.getfield 12, 3) := by decide +kernel
theorem dX6_copyFrom_4 : decode cX6_copyFrom 4 = .ok (.aload_n 1, 1) := by decide +kernel
theorem dX6_copyFrom_5 : decode cX6_copyFrom 5 = .ok (.getfield 12, 3) := by decide +kernel
theorem dX6_copyFrom_8 : decode cX6_copyFrom 8 = .ok (.invokevirtual 25, 3) := by decide +kernel
theorem dX6_copyFrom_11 : decode cX6_copyFrom 11 = .ok (.aload_n 0, 1) := by decide +kernel
theorem dX6_copyFrom_12 : decode cX6_copyFrom 12 = .ok (.aload_n 1, 1) := by decide +kernel
theorem dX6_copyFrom_13 : decode cX6_copyFrom 13 = .ok (.getfield 18, 3) := by decide +kernel
theorem dX6_copyFrom_16 : decode cX6_copyFrom 16 = .ok (.putfield 18, 3) := by decide +kernel
theorem dX6_copyFrom_19 : decode cX6_copyFrom 19 = .ok (.return_, 1) := by decide +kernel
set_option maxRecDepth 20000 in
theorem ggX6_liquid_X3_sum : GoodIn wsX6_liquid wsX3_sum := goodIn_ca (goodIn_r _ [7, 8, 16] (by decide +kernel) (by decide +kernel)) (goodIn_sub (fun _ h => List.mem_cons_of_mem _ (List.mem_append_left _ (List.mem_append_right _ h))) (by decide +kernel))
set_option maxRecDepth 20000 in
theorem gX6_liquid_X3_sum : GoodIn wsX6_liquid (wsV RX6 29 RX3 yX3_sum wsX3_sum) := goodIn_app (goodIn_of _ (by decide +kernel)) ggX6_liquid_X3_sum
set_option maxRecDepth 20000 in
theorem ggX6_liquid_X3_pointBySums : GoodIn wsX6_liquid wsX3_pointBySums := goodIn_ca (goodIn_ca (goodIn_r _ [12, 8, 16] (by decide +kernel) (by decide +kernel)) (goodIn_sub (fun _ h => List.mem_cons_of_mem _ (List.mem_append_left _ (List.mem_append_right _ h))) (by decide +kernel))) (goodIn_sub (fun _ h => List.mem_cons_of_mem _ (List.mem_append_right _ h)) (by decide +kernel))
set_option maxRecDepth 20000 in
theorem gX6_liquid_X3_pointBySums : GoodIn wsX6_liquid (wsV RX6 33 RX3 yX3_pointBySums wsX3_pointBySums) := goodIn_app (goodIn_of _ (by decide +kernel)) ggX6_liquid_X3_pointBySums
theorem dX6_liquid_0 : decode cX6_liquid 0 = .ok (.aload_n 0, 1) := by decide +kernel
theorem dX6_liquid_1 : decode cX6_liquid 1 = .ok (.getfield 12, 3) := by decide +kernel
theorem dX6_liquid_4 : decode cX6_liquid 4 = .ok (.invokevirtual 29, 3) := by decide +kernel
theorem dX6_liquid_7 : decode cX6_liquid 7 = .ok (.ifCond .le 21, 3) := by decide +kernel
theorem dX6_liquid_10 : decode cX6_liquid 10 = .ok (.aload_n 0, 1) := by decide +kernel
theorem dX6_liquid_11 : decode cX6_liquid 11 = .ok (.getfield 18, 3) := by decide +kernel
theorem dX6_liquid_14 : decode cX6_liquid 14 = .ok (.aload_n 0, 1) := by decide +kernel
theorem dX6_liquid_15 : decode cX6_liquid 15 = .ok (.getfield 12, 3) := by decide +kernel
theorem dX6_liquid_18 : decode cX6_liquid 18 = .ok (.invokevirtual 33, 3) := by decide +kernel
theorem dX6_liquid_21 : decode cX6_liquid 21 = .ok (.if_icmp .lt 7, 3) := by decide +kernel
theorem dX6_liquid_24 : decode cX6_liquid 24 = .ok (.iconst 1, 1) := by decide +kernel
theorem dX6_liquid_25 : decode cX6_liquid 25 = .ok (.goto 4, 3) := by decide +kernel
theorem dX6_liquid_28 : decode cX6_liquid 28 = .ok (.iconst 0, 1) := by decide +kernel
theorem dX6_liquid_29 : decode cX6_liquid 29 = .ok (.ireturn, 1) := by decide +kernel
set_option maxRecDepth 20000 in
theorem ggX6_blend_X3_sum : GoodIn wsX6_blend wsX3_sum := goodIn_ca (goodIn_r _ [8, 9, 13] (by decide +kernel) (by decide +kernel)) (goodIn_sub (fun _ h => List.mem_cons_of_mem _ (List.mem_append_right _ h)) (by decide +kernel))
set_option maxRecDepth 20000 in
theorem gX6_blend_X3_sum : GoodIn wsX6_blend (wsV RX6 29 RX3 yX3_sum wsX3_sum) := goodIn_app (goodIn_of _ (by decide +kernel)) ggX6_blend_X3_sum
theorem dX6_blend_0 : decode cX6_blend 0 = .ok (.aload_n 0, 1) := by decide +kernel
theorem dX6_blend_1 : decode cX6_blend 1 = .ok (.getfield 12, 3) := by decide +kernel
theorem dX6_blend_4 : decode cX6_blend 4 = .ok (.invokevirtual 29, 3) := by decide +kernel
theorem dX6_blend_7 : decode cX6_blend 7 = .ok (.aload_n 0, 1) := by decide +kernel
theorem dX6_blend_8 : decode cX6_blend 8 = .ok (.getfield 22, 3) := by decide +kernel
theorem dX6_blend_11 : decode cX6_blend 11 = .ok (.iadd, 1) := by decide +kernel
theorem dX6_blend_12 : decode cX6_blend 12 = .ok (.istore_n 3, 1) := by decide +kernel
theorem dX6_blend_13 : decode cX6_blend 13 = .ok (.iload_n 3, 1) := by decide +kernel
theorem dX6_blend_14 : decode cX6_blend 14 = .ok (.iload_n 1, 1) := by decide +kernel
theorem dX6_blend_15 : decode cX6_blend 15 = .ok (.iadd, 1) := by decide +kernel
theorem dX6_blend_16 : decode cX6_blend 16 = .ok (.ifCond .le 21, 3) := by decide +kernel
theorem dX6_blend_19 : decode cX6_blend 19 = .ok (.aload_n 0, 1) := by decide +kernel
theorem dX6_blend_20 : decode cX6_blend 20 = .ok (.aload_n 0, 1) := by decide +kernel
theorem dX6_blend_21 : decode cX6_blend 21 = .ok (.getfield 18, 3) := by decide +kernel
theorem dX6_blend_24 : decode cX6_blend 24 = .ok (.iload_n 3, 1) := by decide +kernel
theorem dX6_blend_25 : decode cX6_blend 25 = .ok (.imul, 1) := by decide +kernel
theorem dX6_blend_26 : decode cX6_blend 26 = .ok (.iload_n 2, 1) := by decide +kernel
theorem dX6_blend_27 : decode cX6_blend 27 = .ok (.iload_n 1, 1) := by decide +kernel
theorem dX6_blend_28 : decode cX6_blend 28 = .ok (.imul, 1) := by decide +kernel
theorem dX6_blend_29 : decode cX6_blend 29 = .ok (.iadd, 1) := by decide +kernel
theorem dX6_blend_30 : decode cX6_blend 30 = .ok (.iload_n 3, 1) := by decide +kernel
theorem dX6_blend_31 : decode cX6_blend 31 = .ok (.iload_n 1, 1) := by decide +kernel
theorem dX6_blend_32 : decode cX6_blend 32 = .ok (.iadd, 1) := by decide +kernel
theorem dX6_blend_33 : decode cX6_blend 33 = .ok (.idiv, 1) := by decide +kernel
theorem dX6_blend_34 : decode cX6_blend 34 = .ok (.putfield 18, 3) := by decide +kernel
theorem dX6_blend_37 : decode cX6_blend 37 = .ok (.return_, 1) := by decide +kernel
set_option maxRecDepth 20000 in
theorem ggX6_warm_X7_withinLimits : GoodIn wsX6_warm wsX7_withinLimits := goodIn_r _ [4] (by decide +kernel) (by decide +kernel)
set_option maxRecDepth 20000 in
theorem gX6_warm_X7_withinLimits_n36 : GoodIn wsX6_warm (wsX7_withinLimits) := ggX6_warm_X7_withinLimits
theorem dX6_warm_0 : decode cX6_warm 0 = .ok (.aload_n 0, 1) := by decide +kernel
theorem dX6_warm_1 : decode cX6_warm 1 = .ok (.aload_n 0, 1) := by decide +kernel
theorem dX6_warm_2 : decode cX6_warm 2 = .ok (.getfield 18, 3) := by decide +kernel
theorem dX6_warm_5 : decode cX6_warm 5 = .ok (.iload_n 1, 1) := by decide +kernel
theorem dX6_warm_6 : decode cX6_warm 6 = .ok (.iadd, 1) := by decide +kernel
theorem dX6_warm_7 : decode cX6_warm 7 = .ok (.invokestatic 36, 3) := by decide +kernel
theorem dX6_warm_10 : decode cX6_warm 10 = .ok (.putfield 18, 3) := by decide +kernel
theorem dX6_warm_13 : decode cX6_warm 13 = .ok (.return_, 1) := by decide +kernel
set_option maxRecDepth 20000 in
theorem ggX6_chillIfEmpty_X3_sum : GoodIn wsX6_chillIfEmpty wsX3_sum := goodIn_ca (goodIn_r _ [7, 8, 12] (by decide +kernel) (by decide +kernel)) (goodIn_sub (fun _ h => List.mem_cons_of_mem _ (List.mem_append_right _ h)) (by decide +kernel))
set_option maxRecDepth 20000 in
theorem gX6_chillIfEmpty_X3_sum : GoodIn wsX6_chillIfEmpty (wsV RX6 29 RX3 yX3_sum wsX3_sum) := goodIn_app (goodIn_of _ (by decide +kernel)) ggX6_chillIfEmpty_X3_sum
theorem dX6_chillIfEmpty_0 : decode cX6_chillIfEmpty 0 = .ok (.aload_n 0, 1) := by decide +kernel
theorem dX6_chillIfEmpty_1 : decode cX6_chillIfEmpty 1 = .ok (.getfield 12, 3) := by decide +kernel
theorem dX6_chillIfEmpty_4 : decode cX6_chillIfEmpty 4 = .ok (.invokevirtual 29, 3) := by decide +kernel
theorem dX6_chillIfEmpty_7 : decode cX6_chillIfEmpty 7 = .ok (.ifCond .ne 9, 3) := by decide +kernel
theorem dX6_chillIfEmpty_10 : decode cX6_chillIfEmpty 10 = .ok (.aload_n 0, 1) := by decide +kernel
theorem dX6_chillIfEmpty_11 : decode cX6_chillIfEmpty 11 = .ok (.bipush 20, 2) := by decide +kernel
theorem dX6_chillIfEmpty_13 : decode cX6_chillIfEmpty 13 = .ok (.putfield 18, 3) := by decide +kernel
theorem dX6_chillIfEmpty_16 : decode cX6_chillIfEmpty 16 = .ok (.return_, 1) := by decide +kernel
set_option maxRecDepth 20000 in
theorem ggX7_init_X4_init : GoodIn wsX7_init wsX4_init := goodIn_r _ [26, 27, 2, 3, 28, 29, 30, 31, 32, 33, 34, 35, 36, 37, 38, 39, 40, 41, 42, 43, 44, 45, 46, 47, 48, 49, 50, 51, 52, 53, 54, 55, 56, 57, 99, 100, 101, 102, 103, 104, 105, 106, 107, 108, 109, 131, 132, 133, 134] (by decide +kernel) (by decide +kernel)
set_option maxRecDepth 20000 in
theorem gX7_init_X4_init : GoodIn wsX7_init (wsX4_init) := ggX7_init_X4_init
set_option maxRecDepth 20000 in
theorem ggX7_init_X2_init : GoodIn wsX7_init wsX2_init := goodIn_r _ [60, 61, 2, 3, 62, 63, 64, 65, 5, 6, 66, 25, 26, 27, 28, 29, 30, 31, 32, 33, 34, 35, 36, 37, 38, 39, 40, 41, 42, 43, 44, 45, 46, 47, 48, 49, 50, 51, 52, 53, 54, 55, 56, 57, 118, 119, 120, 99, 100, 101, 102, 103, 104, 105, 106, 107, 108, 109, 131, 132, 133, 134] (by decide +kernel) (by decide +kernel)
set_option maxRecDepth 20000 in
theorem gX7_init_X2_init : GoodIn wsX7_init (wsX2_init) := ggX7_init_X2_init
set_option maxRecDepth 20000 in
theorem ggX7_init_X5_init : GoodIn wsX7_init wsX5_init := goodIn_r _ [68, 69, 2, 3, 70, 71, 72, 73, 74, 75, 76, 30, 77, 78, 121, 122, 123, 124, 125, 126] (by decide +kernel) (by decide +kernel)
set_option maxRecDepth 20000 in
theorem gX7_init_X5_init_n32 : GoodIn wsX7_init (wsX5_init) := ggX7_init_X5_init
set_option maxRecDepth 20000 in
theorem ggX7_init_J4_init_da8c8 : GoodIn wsX7_init wsJ4_init_da8c8 := goodIn_r _ [81, 82, 83, 84, 85, 86, 2, 3, 87, 88, 89, 90, 91, 92, 93, 94, 95, 96, 97, 98, 127, 128, 129, 130] (by decide +kernel) (by decide +kernel)
set_option maxRecDepth 20000 in
theorem gX7_init_J4_init_da8c8 : GoodIn wsX7_init (wsJ4_init_da8c8) := ggX7_init_J4_init_da8c8
theorem dX7_init_0 : decode cX7_init 0 = .ok (.aload_n 0, 1) := by decide +kernel
theorem dX7_init_1 : decode cX7_init 1 = .ok (.invokespecial 1, 3) := by decide +kernel
theorem dX7_init_4 : decode cX7_init 4 = .ok (.aload_n 0, 1) := by decide +kernel
theorem dX7_init_5 : decode cX7_init 5 = .ok (.new 7, 3) := by decide +kernel
theorem dX7_init_8 : decode cX7_init 8 = .ok (.dup, 1) := by decide +kernel
theorem dX7_init_9 : decode cX7_init 9 = .ok (.invokespecial 9, 3) := by decide +kernel
theorem dX7_init_12 : decode cX7_init 12 = .ok (.putfield 10, 3) := by decide +kernel
theorem dX7_init_15 : decode cX7_init 15 = .ok (.aload_n 0, 1) := by decide +kernel
theorem dX7_init_16 : decode cX7_init 16 = .ok (.new 16, 3) := by decide +kernel
theorem dX7_init_19 : decode cX7_init 19 = .ok (.dup, 1) := by decide +kernel
theorem dX7_init_20 : decode cX7_init 20 = .ok (.invokespecial 18, 3) := by decide +kernel
theorem dX7_init_23 : decode cX7_init 23 = .ok (.putfield 19, 3) := by decide +kernel
theorem dX7_init_26 : decode cX7_init 26 = .ok (.aload_n 0, 1) := by decide +kernel
theorem dX7_init_27 : decode cX7_init 27 = .ok (.new 7, 3) := by decide +kernel
theorem dX7_init_30 : decode cX7_init 30 = .ok (.dup, 1) := by decide +kernel
theorem dX7_init_31 : decode cX7_init 31 = .ok (.invokespecial 9, 3) := by decide +kernel
theorem dX7_init_34 : decode cX7_init 34 = .ok (.putfield 23, 3) := by decide +kernel
theorem dX7_init_37 : decode cX7_init 37 = .ok (.aload_n 0, 1) := by decide +kernel
theorem dX7_init_38 : decode cX7_init 38 = .ok (.iconst 0, 1) := by decide +kernel
theorem dX7_init_39 : decode cX7_init 39 = .ok (.putfield 26, 3) := by decide +kernel
theorem dX7_init_42 : decode cX7_init 42 = .ok (.aload_n 0, 1) := by decide +kernel
theorem dX7_init_43 : decode cX7_init 43 = .ok (.new 30, 3) := by decide +kernel
theorem dX7_init_46 : decode cX7_init 46 = .ok (.dup, 1) := by decide +kernel
theorem dX7_init_47 : decode cX7_init 47 = .ok (.invokespecial 32, 3) := by decide +kernel
theorem dX7_init_50 : decode cX7_init 50 = .ok (.putfield 33, 3) := by decide +kernel
theorem dX7_init_53 : decode cX7_init 53 = .ok (.aload_n 0, 1) := by decide +kernel
theorem dX7_init_54 : decode cX7_init 54 = .ok (.iconst (-1), 1) := by decide +kernel
theorem dX7_init_55 : decode cX7_init 55 = .ok (.putfield 37, 3) := by decide +kernel
theorem dX7_init_58 : decode cX7_init 58 = .ok (.aload_n 0, 1) := by decide +kernel
theorem dX7_init_59 : decode cX7_init 59 = .ok (.iconst (-1), 1) := by decide +kernel
theorem dX7_init_60 : decode cX7_init 60 = .ok (.putfield 41, 3) := by decide +kernel
theorem dX7_init_63 : decode cX7_init 63 = .ok (.aload_n 0, 1) := by decide +kernel
theorem dX7_init_64 : decode cX7_init 64 = .ok (.new 44, 3) := by decide +kernel
theorem dX7_init_67 : decode cX7_init 67 = .ok (.dup, 1) := by decide +kernel
theorem dX7_init_68 : decode cX7_init 68 = .ok (.invokespecial 46, 3) := by decide +kernel
theorem dX7_init_71 : decode cX7_init 71 = .ok (.putfield 47, 3) := by decide +kernel
theorem dX7_init_74 : decode cX7_init 74 = .ok (.return_, 1) := by decide +kernel
set_option maxRecDepth 20000 in
theorem ggX7_charge_X7_change : GoodIn wsX7_charge wsX7_change := goodIn_ca (goodIn_ca (goodIn_ca (goodIn_ca (goodIn_ca (goodIn_ca (goodIn_ca (goodIn_r _ [6, 7, 8, 9, 10, 11, 12, 13, 14, 15, 16, 17, 18, 19, 20, 21, 22, 23, 24, 25, 26, 27, 28, 29, 30, 31, 32, 33, 34, 35, 36, 37, 38, 39, 40, 41, 42, 43, 44, 45, 46, 47, 48, 49, 50, 51, 52, 53, 54, 55, 56, 57, 58, 59, 60, 61, 62, 63, 64, 65, 66, 5, 67, 68, 69, 70, 71, 72, 73, 74, 75, 76, 77, 78, 79, 80, 81, 82, 83, 84, 85, 86, 87, 88, 89, 90, 91, 92, 93, 94, 95, 96, 97, 98, 99, 100, 101, 102, 103, 104, 105, 106, 107, 108, 109, 110, 111, 112, 113, 114, 115, 116, 117, 118, 119, 120, 121, 122, 123, 124, 125, 126, 127, 128, 129, 130, 131, 132, 133, 134, 135, 136, 137, 138, 139, 140, 141, 142, 143, 144, 145, 146, 147, 148, 149, 150, 151, 152, 153, 154, 155, 156, 157, 158, 159, 160, 161, 162, 163, 164, 165, 166, 167, 168, 169, 170, 171, 172, 173, 174, 175, 176, 177, 178, 179, 180, 181, 182, 183, 184, 185, 186, 187, 188, 189, 190, 191, 192, 193, 194, 195, 196, 197, 198, 199, 200, 201, 202, 203, 204, 205, 206, 207, 208, 209, 210, 211, 212, 213] (by decide +kernel) (by decide +kernel)) (goodIn_sub (fun _ h => List.mem_cons_of_mem _ (List.mem_append_left _ (List.mem_append_left _ (List.mem_append_left _ (List.mem_append_left _ (List.mem_append_left _ (List.mem_append_left _ (List.mem_append_right _ h)))))))) (by decide +kernel))) (goodIn_sub (fun _ h => List.mem_cons_of_mem _ (List.mem_append_left _ (List.mem_append_left _ (List.mem_append_left _ (List.mem_append_left _ (List.mem_append_left _ (List.mem_append_right _ h))))))) (by decide +kernel))) (goodIn_sub (fun _ h => List.mem_cons_of_mem _ (List.mem_append_left _ (List.mem_append_left _ (List.mem_append_left _ (List.mem_append_left _ (List.mem_append_right _ h)))))) (by decide +kernel))) (goodIn_sub (fun _ h => List.mem_cons_of_mem _ (List.mem_append_left _ (List.mem_append_left _ (List.mem_append_left _ (List.mem_append_right _ h))))) (by decide +kernel))) (goodIn_sub (fun _ h => List.mem_cons_of_mem _ (List.mem_append_left _ (List.mem_append_left _ (List.mem_append_right _ h)))) (by decide +kernel))) (goodIn_sub (fun _ h => List.mem_cons_of_mem _ (List.mem_append_left _ (List.mem_append_right _ h))) (by decide +kernel))) (goodIn_sub (fun _ h => List.mem_cons_of_mem _ (List.mem_append_right _ h)) (by decide +kernel))
set_option maxRecDepth 20000 in
theorem gX7_charge_X7_change : GoodIn wsX7_charge (wsV RX7 57 RX7 yX7_change wsX7_change) := goodIn_app (goodIn_of _ (by decide +kernel)) ggX7_charge_X7_change
theorem dX7_charge_0 : decode cX7_charge 0 = .ok (.aload_n 0, 1) := by decide +kernel
theorem dX7_charge_1 : decode cX7_charge 1 = .ok (.getstatic 51, 3) := by decide +kernel
theorem dX7_charge_4 : decode cX7_charge 4 = .ok (.iload_n 1, 1) := by decide +kernel
theorem dX7_charge_5 : decode cX7_charge 5 = .ok (.iload_n 2, 1) := by decide +kernel
theorem dX7_charge_6 : decode cX7_charge 6 = .ok (.iload_n 3, 1) := by decide +kernel
theorem dX7_charge_7 : decode cX7_charge 7 = .ok (.invokevirtual 57, 3) := by decide +kernel
theorem dX7_charge_10 : decode cX7_charge 10 = .ok (.ireturn, 1) := by decide +kernel
set_option maxRecDepth 20000 in
theorem ggX7_setFire_X7_change : GoodIn wsX7_setFire wsX7_change := goodIn_ca (goodIn_ca (goodIn_ca (goodIn_ca (goodIn_ca (goodIn_ca (goodIn_ca (goodIn_r _ [6, 7, 8, 9, 10, 11, 12, 13, 14, 15, 16, 17, 18, 19, 20, 21, 22, 23, 24, 25, 26, 27, 28, 29, 30, 31, 32, 33, 34, 35, 36, 37, 38, 39, 40, 41, 42, 43, 44, 45, 46, 47, 48, 49, 50, 51, 52, 53, 54, 55, 56, 57, 58, 59, 60, 61, 62, 63, 64, 65, 66, 5, 67, 68, 69, 70, 71, 72, 73, 74, 75, 76, 77, 78, 79, 80, 81, 82, 83, 84, 85, 86, 87, 88, 89, 90, 91, 92, 93, 94, 95, 96, 97, 98, 99, 100, 101, 102, 103, 104, 105, 106, 107, 108, 109, 110, 111, 112, 113, 114, 115, 116, 117, 118, 119, 120, 121, 122, 123, 124, 125, 126, 127, 128, 129, 130, 131, 132, 133, 134, 135, 136, 137, 138, 139, 140, 141, 142, 143, 144, 145, 146, 147, 148, 149, 150, 151, 152, 153, 154, 155, 156, 157, 158, 159, 160, 161, 162, 163, 164, 165, 166, 167, 168, 169, 170, 171, 172, 173, 174, 175, 176, 177, 178, 179, 180, 181, 182, 183, 184, 185, 186, 187, 188, 189, 190, 191, 192, 193, 194, 195, 196, 197, 198, 199, 200, 201, 202, 203, 204, 205, 206, 207, 208, 209, 210, 211, 212, 213] (by decide +kernel) (by decide +kernel)) (goodIn_sub (fun _ h => List.mem_cons_of_mem _ (List.mem_append_left _ (List.mem_append_left _ (List.mem_append_left _ (List.mem_append_left _ (List.mem_append_left _ (List.mem_append_left _ (List.mem_append_right _ h)))))))) (by decide +kernel))) (goodIn_sub (fun _ h => List.mem_cons_of_mem _ (List.mem_append_left _ (List.mem_append_left _ (List.mem_append_left _ (List.mem_append_left _ (List.mem_append_left _ (List.mem_append_right _ h))))))) (by decide +kernel))) (goodIn_sub (fun _ h => List.mem_cons_of_mem _ (List.mem_append_left _ (List.mem_append_left _ (List.mem_append_left _ (List.mem_append_left _ (List.mem_append_right _ h)))))) (by decide +kernel))) (goodIn_sub (fun _ h => List.mem_cons_of_mem _ (List.mem_append_left _ (List.mem_append_left _ (List.mem_append_left _ (List.mem_append_right _ h))))) (by decide +kernel))) (goodIn_sub (fun _ h => List.mem_cons_of_mem _ (List.mem_append_left _ (List.mem_append_left _ (List.mem_append_right _ h)))) (by decide +kernel))) (goodIn_sub (fun _ h => List.mem_cons_of_mem _ (List.mem_append_left _ (List.mem_append_right _ h))) (by decide +kernel))) (goodIn_sub (fun _ h => List.mem_cons_of_mem _ (List.mem_append_right _ h)) (by decide +kernel))
set_option maxRecDepth 20000 in
theorem gX7_setFire_X7_change : GoodIn wsX7_setFire (wsV RX7 57 RX7 yX7_change wsX7_change) := goodIn_app (goodIn_of _ (by decide +kernel)) ggX7_setFire_X7_change
theorem dX7_setFire_0 : decode cX7_setFire 0 = .ok (.aload_n 0, 1) := by decide +kernel
theorem dX7_setFire_1 : decode cX7_setFire 1 = .ok (.getstatic 61, 3) := by decide +kernel
theorem dX7_setFire_4 : decode cX7_setFire 4 = .ok (.iload_n 1, 1) := by decide +kernel
theorem dX7_setFire_5 : decode cX7_setFire 5 = .ok (.iload_n 2, 1) := by decide +kernel
theorem dX7_setFire_6 : decode cX7_setFire 6 = .ok (.iconst 0, 1) := by decide +kernel
theorem dX7_setFire_7 : decode cX7_setFire 7 = .ok (.invokevirtual 57, 3) := by decide +kernel
theorem dX7_setFire_10 : decode cX7_setFire 10 = .ok (.ireturn, 1) := by decide +kernel
set_option maxRecDepth 20000 in
theorem ggX7_skim_X7_change : GoodIn wsX7_skim wsX7_change := goodIn_ca (goodIn_ca (goodIn_ca (goodIn_ca (goodIn_ca (goodIn_ca (goodIn_ca (goodIn_r _ [6, 7, 8, 9, 10, 11, 12, 13, 14, 15, 16, 17, 18, 19, 20, 21, 22, 23, 24, 25, 26, 27, 28, 29, 30, 31, 32, 33, 34, 35, 36, 37, 38, 39, 40, 41, 42, 43, 44, 45, 46, 47, 48, 49, 50, 51, 52, 53, 54, 55, 56, 57, 58, 59, 60, 61, 62, 63, 64, 65, 66, 5, 67, 68, 69, 70, 71, 72, 73, 74, 75, 76, 77, 78, 79, 80, 81, 82, 83, 84, 85, 86, 87, 88, 89, 90, 91, 92, 93, 94, 95, 96, 97, 98, 99, 100, 101, 102, 103, 104, 105, 106, 107, 108, 109, 110, 111, 112, 113, 114, 115, 116, 117, 118, 119, 120, 121, 122, 123, 124, 125, 126, 127, 128, 129, 130, 131, 132, 133, 134, 135, 136, 137, 138, 139, 140, 141, 142, 143, 144, 145, 146, 147, 148, 149, 150, 151, 152, 153, 154, 155, 156, 157, 158, 159, 160, 161, 162, 163, 164, 165, 166, 167, 168, 169, 170, 171, 172, 173, 174, 175, 176, 177, 178, 179, 180, 181, 182, 183, 184, 185, 186, 187, 188, 189, 190, 191, 192, 193, 194, 195, 196, 197, 198, 199, 200, 201, 202, 203, 204, 205, 206, 207, 208, 209, 210, 211, 212, 213] (by decide +kernel) (by decide +kernel)) (goodIn_sub (fun _ h => List.mem_cons_of_mem _ (List.mem_append_left _ (List.mem_append_left _ (List.mem_append_left _ (List.mem_append_left _ (List.mem_append_left _ (List.mem_append_left _ (List.mem_append_right _ h)))))))) (by decide +kernel))) (goodIn_sub (fun _ h => List.mem_cons_of_mem _ (List.mem_append_left _ (List.mem_append_left _ (List.mem_append_left _ (List.mem_append_left _ (List.mem_append_left _ (List.mem_append_right _ h))))))) (by decide +kernel))) (goodIn_sub (fun _ h => List.mem_cons_of_mem _ (List.mem_append_left _ (List.mem_append_left _ (List.mem_append_left _ (List.mem_append_left _ (List.mem_append_right _ h)))))) (by decide +kernel))) (goodIn_sub (fun _ h => List.mem_cons_of_mem _ (List.mem_append_left _ (List.mem_append_left _ (List.mem_append_left _ (List.mem_append_right _ h))))) (by decide +kernel))) (goodIn_sub (fun _ h => List.mem_cons_of_mem _ (List.mem_append_left _ (List.mem_append_left _ (List.mem_append_right _ h)))) (by decide +kernel))) (goodIn_sub (fun _ h => List.mem_cons_of_mem _ (List.mem_append_left _ (List.mem_append_right _ h))) (by decide +kernel))) (goodIn_sub (fun _ h => List.mem_cons_of_mem _ (List.mem_append_right _ h)) (by decide +kernel))
set_option maxRecDepth 20000 in
theorem gX7_skim_X7_change : GoodIn wsX7_skim (wsV RX7 57 RX7 yX7_change wsX7_change) := goodIn_app (goodIn_of _ (by decide +kernel)) ggX7_skim_X7_change
theorem dX7_skim_0 : decode cX7_skim 0 = .ok (.aload_n 0, 1) := by decide +kernel
theorem dX7_skim_1 : decode cX7_skim 1 = .ok (.getstatic 64, 3) := by decide +kernel
theorem dX7_skim_4 : decode cX7_skim 4 = .ok (.iload_n 1, 1) := by decide +kernel
theorem dX7_skim_5 : decode cX7_skim 5 = .ok (.iconst 0, 1) := by decide +kernel
theorem dX7_skim_6 : decode cX7_skim 6 = .ok (.iconst 0, 1) := by decide +kernel
theorem dX7_skim_7 : decode cX7_skim 7 = .ok (.invokevirtual 57, 3) := by decide +kernel
theorem dX7_skim_10 : decode cX7_skim 10 = .ok (.ireturn, 1) := by decide +kernel
set_option maxRecDepth 20000 in
theorem ggX7_tap_X7_change : GoodIn wsX7_tap wsX7_change := goodIn_ca (goodIn_ca (goodIn_ca (goodIn_ca (goodIn_ca (goodIn_ca (goodIn_ca (goodIn_r _ [6, 7, 8, 9, 10, 11, 12, 13, 14, 15, 16, 17, 18, 19, 20, 21, 22, 23, 24, 25, 26, 27, 28, 29, 30, 31, 32, 33, 34, 35, 36, 37, 38, 39, 40, 41, 42, 43, 44, 45, 46, 47, 48, 49, 50, 51, 52, 53, 54, 55, 56, 57, 58, 59, 60, 61, 62, 63, 64, 65, 66, 5, 67, 68, 69, 70, 71, 72, 73, 74, 75, 76, 77, 78, 79, 80, 81, 82, 83, 84, 85, 86, 87, 88, 89, 90, 91, 92, 93, 94, 95, 96, 97, 98, 99, 100, 101, 102, 103, 104, 105, 106, 107, 108, 109, 110, 111, 112, 113, 114, 115, 116, 117, 118, 119, 120, 121, 122, 123, 124, 125, 126, 127, 128, 129, 130, 131, 132, 133, 134, 135, 136, 137, 138, 139, 140, 141, 142, 143, 144, 145, 146, 147, 148, 149, 150, 151, 152, 153, 154, 155, 156, 157, 158, 159, 160, 161, 162, 163, 164, 165, 166, 167, 168, 169, 170, 171, 172, 173, 174, 175, 176, 177, 178, 179, 180, 181, 182, 183, 184, 185, 186, 187, 188, 189, 190, 191, 192, 193, 194, 195, 196, 197, 198, 199, 200, 201, 202, 203, 204, 205, 206, 207, 208, 209, 210, 211, 212, 213] (by decide +kernel) (by decide +kernel)) (goodIn_sub (fun _ h => List.mem_cons_of_mem _ (List.mem_append_left _ (List.mem_append_left _ (List.mem_append_left _ (List.mem_append_left _ (List.mem_append_left _ (List.mem_append_left _ (List.mem_append_right _ h)))))))) (by decide +kernel))) (goodIn_sub (fun _ h => List.mem_cons_of_mem _ (List.mem_append_left _ (List.mem_append_left _ (List.mem_append_left _ (List.mem_append_left _ (List.mem_append_left _ (List.mem_append_right _ h))))))) (by decide +kernel))) (goodIn_sub (fun _ h => List.mem_cons_of_mem _ (List.mem_append_left _ (List.mem_append_left _ (List.mem_append_left _ (List.mem_append_left _ (List.mem_append_right _ h)))))) (by decide +kernel))) (goodIn_sub (fun _ h => List.mem_cons_of_mem _ (List.mem_append_left _ (List.mem_append_left _ (List.mem_append_left _ (List.mem_append_right _ h))))) (by decide +kernel))) (goodIn_sub (fun _ h => List.mem_cons_of_mem _ (List.mem_append_left _ (List.mem_append_left _ (List.mem_append_right _ h)))) (by decide +kernel))) (goodIn_sub (fun _ h => List.mem_cons_of_mem _ (List.mem_append_left _ (List.mem_append_right _ h))) (by decide +kernel))) (goodIn_sub (fun _ h => List.mem_cons_of_mem _ (List.mem_append_right _ h)) (by decide +kernel))
set_option maxRecDepth 20000 in
theorem gX7_tap_X7_change : GoodIn wsX7_tap (wsV RX7 57 RX7 yX7_change wsX7_change) := goodIn_app (goodIn_of _ (by decide +kernel)) ggX7_tap_X7_change
theorem dX7_tap_0 : decode cX7_tap 0 = .ok (.aload_n 0, 1) := by decide +kernel
theorem dX7_tap_1 : decode cX7_tap 1 = .ok (.getstatic 67, 3) := by decide +kernel
theorem dX7_tap_4 : decode cX7_tap 4 = .ok (.iload_n 1, 1) := by decide +kernel
theorem dX7_tap_5 : decode cX7_tap 5 = .ok (.iload_n 2, 1) := by decide +kernel
theorem dX7_tap_6 : decode cX7_tap 6 = .ok (.iload_n 3, 1) := by decide +kernel
theorem dX7_tap_7 : decode cX7_tap 7 = .ok (.invokevirtual 57, 3) := by decide +kernel
theorem dX7_tap_10 : decode cX7_tap 10 = .ok (.ireturn, 1) := by decide +kernel
set_option maxRecDepth 20000 in
theorem ggX7_pourBack_X7_change : GoodIn wsX7_pourBack wsX7_change := goodIn_ca (goodIn_ca (goodIn_ca (goodIn_ca (goodIn_ca (goodIn_ca (goodIn_ca (goodIn_r _ [6, 7, 8, 9, 10, 11, 12, 13, 14, 15, 16, 17, 18, 19, 20, 21, 22, 23, 24, 25, 26, 27, 28, 29, 30, 31, 32, 33, 34, 35, 36, 37, 38, 39, 40, 41, 42, 43, 44, 45, 46, 47, 48, 49, 50, 51, 52, 53, 54, 55, 56, 57, 58, 59, 60, 61, 62, 63, 64, 65, 66, 5, 67, 68, 69, 70, 71, 72, 73, 74, 75, 76, 77, 78, 79, 80, 81, 82, 83, 84, 85, 86, 87, 88, 89, 90, 91, 92, 93, 94, 95, 96, 97, 98, 99, 100, 101, 102, 103, 104, 105, 106, 107, 108, 109, 110, 111, 112, 113, 114, 115, 116, 117, 118, 119, 120, 121, 122, 123, 124, 125, 126, 127, 128, 129, 130, 131, 132, 133, 134, 135, 136, 137, 138, 139, 140, 141, 142, 143, 144, 145, 146, 147, 148, 149, 150, 151, 152, 153, 154, 155, 156, 157, 158, 159, 160, 161, 162, 163, 164, 165, 166, 167, 168, 169, 170, 171, 172, 173, 174, 175, 176, 177, 178, 179, 180, 181, 182, 183, 184, 185, 186, 187, 188, 189, 190, 191, 192, 193, 194, 195, 196, 197, 198, 199, 200, 201, 202, 203, 204, 205, 206, 207, 208, 209, 210, 211, 212, 213] (by decide +kernel) (by decide +kernel)) (goodIn_sub (fun _ h => List.mem_cons_of_mem _ (List.mem_append_left _ (List.mem_append_left _ (List.mem_append_left _ (List.mem_append_left _ (List.mem_append_left _ (List.mem_append_left _ (List.mem_append_right _ h)))))))) (by decide +kernel))) (goodIn_sub (fun _ h => List.mem_cons_of_mem _ (List.mem_append_left _ (List.mem_append_left _ (List.mem_append_left _ (List.mem_append_left _ (List.mem_append_left _ (List.mem_append_right _ h))))))) (by decide +kernel))) (goodIn_sub (fun _ h => List.mem_cons_of_mem _ (List.mem_append_left _ (List.mem_append_left _ (List.mem_append_left _ (List.mem_append_left _ (List.mem_append_right _ h)))))) (by decide +kernel))) (goodIn_sub (fun _ h => List.mem_cons_of_mem _ (List.mem_append_left _ (List.mem_append_left _ (List.mem_append_left _ (List.mem_append_right _ h))))) (by decide +kernel))) (goodIn_sub (fun _ h => List.mem_cons_of_mem _ (List.mem_append_left _ (List.mem_append_left _ (List.mem_append_right _ h)))) (by decide +kernel))) (goodIn_sub (fun _ h => List.mem_cons_of_mem _ (List.mem_append_left _ (List.mem_append_right _ h))) (by decide +kernel))) (goodIn_sub (fun _ h => List.mem_cons_of_mem _ (List.mem_append_right _ h)) (by decide +kernel))
set_option maxRecDepth 20000 in
theorem gX7_pourBack_X7_change : GoodIn wsX7_pourBack (wsV RX7 57 RX7 yX7_change wsX7_change) := goodIn_app (goodIn_of _ (by decide +kernel)) ggX7_pourBack_X7_change
theorem dX7_pourBack_0 : decode cX7_pourBack 0 = .ok (.aload_n 0, 1) := by decide +kernel
theorem dX7_pourBack_1 : decode cX7_pourBack 1 = .ok (.getstatic 70, 3) := by decide +kernel
theorem dX7_pourBack_4 : decode cX7_pourBack 4 = .ok (.iload_n 1, 1) := by decide +kernel
theorem dX7_pourBack_5 : decode cX7_pourBack 5 = .ok (.iload_n 2, 1) := by decide +kernel
theorem dX7_pourBack_6 : decode cX7_pourBack 6 = .ok (.iconst 0, 1) := by decide +kernel
theorem dX7_pourBack_7 : decode cX7_pourBack 7 = .ok (.invokevirtual 57, 3) := by decide +kernel
theorem dX7_pourBack_10 : decode cX7_pourBack 10 = .ok (.ireturn, 1) := by decide +kernel
set_option maxRecDepth 20000 in
theorem ggX7_addMould_X7_change : GoodIn wsX7_addMould wsX7_change := goodIn_ca (goodIn_ca (goodIn_ca (goodIn_ca (goodIn_ca (goodIn_ca (goodIn_ca (goodIn_r _ [6, 7, 8, 9, 10, 11, 12, 13, 14, 15, 16, 17, 18, 19, 20, 21, 22, 23, 24, 25, 26, 27, 28, 29, 30, 31, 32, 33, 34, 35, 36, 37, 38, 39, 40, 41, 42, 43, 44, 45, 46, 47, 48, 49, 50, 51, 52, 53, 54, 55, 56, 57, 58, 59, 60, 61, 62, 63, 64, 65, 66, 5, 67, 68, 69, 70, 71, 72, 73, 74, 75, 76, 77, 78, 79, 80, 81, 82, 83, 84, 85, 86, 87, 88, 89, 90, 91, 92, 93, 94, 95, 96, 97, 98, 99, 100, 101, 102, 103, 104, 105, 106, 107, 108, 109, 110, 111, 112, 113, 114, 115, 116, 117, 118, 119, 120, 121, 122, 123, 124, 125, 126, 127, 128, 129, 130, 131, 132, 133, 134, 135, 136, 137, 138, 139, 140, 141, 142, 143, 144, 145, 146, 147, 148, 149, 150, 151, 152, 153, 154, 155, 156, 157, 158, 159, 160, 161, 162, 163, 164, 165, 166, 167, 168, 169, 170, 171, 172, 173, 174, 175, 176, 177, 178, 179, 180, 181, 182, 183, 184, 185, 186, 187, 188, 189, 190, 191, 192, 193, 194, 195, 196, 197, 198, 199, 200, 201, 202, 203, 204, 205, 206, 207, 208, 209, 210, 211, 212, 213] (by decide +kernel) (by decide +kernel)) (goodIn_sub (fun _ h => List.mem_cons_of_mem _ (List.mem_append_left _ (List.mem_append_left _ (List.mem_append_left _ (List.mem_append_left _ (List.mem_append_left _ (List.mem_append_left _ (List.mem_append_right _ h)))))))) (by decide +kernel))) (goodIn_sub (fun _ h => List.mem_cons_of_mem _ (List.mem_append_left _ (List.mem_append_left _ (List.mem_append_left _ (List.mem_append_left _ (List.mem_append_left _ (List.mem_append_right _ h))))))) (by decide +kernel))) (goodIn_sub (fun _ h => List.mem_cons_of_mem _ (List.mem_append_left _ (List.mem_append_left _ (List.mem_append_left _ (List.mem_append_left _ (List.mem_append_right _ h)))))) (by decide +kernel))) (goodIn_sub (fun _ h => List.mem_cons_of_mem _ (List.mem_append_left _ (List.mem_append_left _ (List.mem_append_left _ (List.mem_append_right _ h))))) (by decide +kernel))) (goodIn_sub (fun _ h => List.mem_cons_of_mem _ (List.mem_append_left _ (List.mem_append_left _ (List.mem_append_right _ h)))) (by decide +kernel))) (goodIn_sub (fun _ h => List.mem_cons_of_mem _ (List.mem_append_left _ (List.mem_append_right _ h))) (by decide +kernel))) (goodIn_sub (fun _ h => List.mem_cons_of_mem _ (List.mem_append_right _ h)) (by decide +kernel))
set_option maxRecDepth 20000 in
theorem gX7_addMould_X7_change : GoodIn wsX7_addMould (wsV RX7 57 RX7 yX7_change wsX7_change) := goodIn_app (goodIn_of _ (by decide +kernel)) ggX7_addMould_X7_change
theorem dX7_addMould_0 : decode cX7_addMould 0 = .ok (.aload_n 0, 1) := by decide +kernel
theorem dX7_addMould_1 : decode cX7_addMould 1 = .ok (.getstatic 73, 3) := by decide +kernel
theorem dX7_addMould_4 : decode cX7_addMould 4 = .ok (.iload_n 1, 1) := by decide +kernel
theorem dX7_addMould_5 : decode cX7_addMould 5 = .ok (.iconst 0, 1) := by decide +kernel
theorem dX7_addMould_6 : decode cX7_addMould 6 = .ok (.iconst 0, 1) := by decide +kernel
theorem dX7_addMould_7 : decode cX7_addMould 7 = .ok (.invokevirtual 57, 3) := by decide +kernel
theorem dX7_addMould_10 : decode cX7_addMould 10 = .ok (.ireturn, 1) := by decide +kernel
set_option maxRecDepth 20000 in
theorem ggX7_pour_X7_change : GoodIn wsX7_pour wsX7_change := goodIn_ca (goodIn_ca (goodIn_ca (goodIn_ca (goodIn_ca (goodIn_ca (goodIn_ca (goodIn_r _ [6, 7, 8, 9, 10, 11, 12, 13, 14, 15, 16, 17, 18, 19, 20, 21, 22, 23, 24, 25, 26, 27, 28, 29, 30, 31, 32, 33, 34, 35, 36, 37, 38, 39, 40, 41, 42, 43, 44, 45, 46, 47, 48, 49, 50, 51, 52, 53, 54, 55, 56, 57, 58, 59, 60, 61, 62, 63, 64, 65, 66, 5, 67, 68, 69, 70, 71, 72, 73, 74, 75, 76, 77, 78, 79, 80, 81, 82, 83, 84, 85, 86, 87, 88, 89, 90, 91, 92, 93, 94, 95, 96, 97, 98, 99, 100, 101, 102, 103, 104, 105, 106, 107, 108, 109, 110, 111, 112, 113, 114, 115, 116, 117, 118, 119, 120, 121, 122, 123, 124, 125, 126, 127, 128, 129, 130, 131, 132, 133, 134, 135, 136, 137, 138, 139, 140, 141, 142, 143, 144, 145, 146, 147, 148, 149, 150, 151, 152, 153, 154, 155, 156, 157, 158, 159, 160, 161, 162, 163, 164, 165, 166, 167, 168, 169, 170, 171, 172, 173, 174, 175, 176, 177, 178, 179, 180, 181, 182, 183, 184, 185, 186, 187, 188, 189, 190, 191, 192, 193, 194, 195, 196, 197, 198, 199, 200, 201, 202, 203, 204, 205, 206, 207, 208, 209, 210, 211, 212, 213] (by decide +kernel) (by decide +kernel)) (goodIn_sub (fun _ h => List.mem_cons_of_mem _ (List.mem_append_left _ (List.mem_append_left _ (List.mem_append_left _ (List.mem_append_left _ (List.mem_append_left _ (List.mem_append_left _ (List.mem_append_right _ h)))))))) (by decide +kernel))) (goodIn_sub (fun _ h => List.mem_cons_of_mem _ (List.mem_append_left _ (List.mem_append_left _ (List.mem_append_left _ (List.mem_append_left _ (List.mem_append_left _ (List.mem_append_right _ h))))))) (by decide +kernel))) (goodIn_sub (fun _ h => List.mem_cons_of_mem _ (List.mem_append_left _ (List.mem_append_left _ (List.mem_append_left _ (List.mem_append_left _ (List.mem_append_right _ h)))))) (by decide +kernel))) (goodIn_sub (fun _ h => List.mem_cons_of_mem _ (List.mem_append_left _ (List.mem_append_left _ (List.mem_append_left _ (List.mem_append_right _ h))))) (by decide +kernel))) (goodIn_sub (fun _ h => List.mem_cons_of_mem _ (List.mem_append_left _ (List.mem_append_left _ (List.mem_append_right _ h)))) (by decide +kernel))) (goodIn_sub (fun _ h => List.mem_cons_of_mem _ (List.mem_append_left _ (List.mem_append_right _ h))) (by decide +kernel))) (goodIn_sub (fun _ h => List.mem_cons_of_mem _ (List.mem_append_right _ h)) (by decide +kernel))
set_option maxRecDepth 20000 in
theorem gX7_pour_X7_change : GoodIn wsX7_pour (wsV RX7 57 RX7 yX7_change wsX7_change) := goodIn_app (goodIn_of _ (by decide +kernel)) ggX7_pour_X7_change
theorem dX7_pour_0 : decode cX7_pour 0 = .ok (.aload_n 0, 1) := by decide +kernel
theorem dX7_pour_1 : decode cX7_pour 1 = .ok (.getstatic 76, 3) := by decide +kernel
theorem dX7_pour_4 : decode cX7_pour 4 = .ok (.iload_n 1, 1) := by decide +kernel
theorem dX7_pour_5 : decode cX7_pour 5 = .ok (.iload_n 2, 1) := by decide +kernel
theorem dX7_pour_6 : decode cX7_pour 6 = .ok (.iconst 0, 1) := by decide +kernel
theorem dX7_pour_7 : decode cX7_pour 7 = .ok (.invokevirtual 57, 3) := by decide +kernel
theorem dX7_pour_10 : decode cX7_pour 10 = .ok (.ireturn, 1) := by decide +kernel
set_option maxRecDepth 20000 in
theorem ggX7_breakOut_X7_change : GoodIn wsX7_breakOut wsX7_change := goodIn_ca (goodIn_ca (goodIn_ca (goodIn_ca (goodIn_ca (goodIn_ca (goodIn_ca (goodIn_r _ [6, 7, 8, 9, 10, 11, 12, 13, 14, 15, 16, 17, 18, 19, 20, 21, 22, 23, 24, 25, 26, 27, 28, 29, 30, 31, 32, 33, 34, 35, 36, 37, 38, 39, 40, 41, 42, 43, 44, 45, 46, 47, 48, 49, 50, 51, 52, 53, 54, 55, 56, 57, 58, 59, 60, 61, 62, 63, 64, 65, 66, 5, 67, 68, 69, 70, 71, 72, 73, 74, 75, 76, 77, 78, 79, 80, 81, 82, 83, 84, 85, 86, 87, 88, 89, 90, 91, 92, 93, 94, 95, 96, 97, 98, 99, 100, 101, 102, 103, 104, 105, 106, 107, 108, 109, 110, 111, 112, 113, 114, 115, 116, 117, 118, 119, 120, 121, 122, 123, 124, 125, 126, 127, 128, 129, 130, 131, 132, 133, 134, 135, 136, 137, 138, 139, 140, 141, 142, 143, 144, 145, 146, 147, 148, 149, 150, 151, 152, 153, 154, 155, 156, 157, 158, 159, 160, 161, 162, 163, 164, 165, 166, 167, 168, 169, 170, 171, 172, 173, 174, 175, 176, 177, 178, 179, 180, 181, 182, 183, 184, 185, 186, 187, 188, 189, 190, 191, 192, 193, 194, 195, 196, 197, 198, 199, 200, 201, 202, 203, 204, 205, 206, 207, 208, 209, 210, 211, 212, 213] (by decide +kernel) (by decide +kernel)) (goodIn_sub (fun _ h => List.mem_cons_of_mem _ (List.mem_append_left _ (List.mem_append_left _ (List.mem_append_left _ (List.mem_append_left _ (List.mem_append_left _ (List.mem_append_left _ (List.mem_append_right _ h)))))))) (by decide +kernel))) (goodIn_sub (fun _ h => List.mem_cons_of_mem _ (List.mem_append_left _ (List.mem_append_left _ (List.mem_append_left _ (List.mem_append_left _ (List.mem_append_left _ (List.mem_append_right _ h))))))) (by decide +kernel))) (goodIn_sub (fun _ h => List.mem_cons_of_mem _ (List.mem_append_left _ (List.mem_append_left _ (List.mem_append_left _ (List.mem_append_left _ (List.mem_append_right _ h)))))) (by decide +kernel))) (goodIn_sub (fun _ h => List.mem_cons_of_mem _ (List.mem_append_left _ (List.mem_append_left _ (List.mem_append_left _ (List.mem_append_right _ h))))) (by decide +kernel))) (goodIn_sub (fun _ h => List.mem_cons_of_mem _ (List.mem_append_left _ (List.mem_append_left _ (List.mem_append_right _ h)))) (by decide +kernel))) (goodIn_sub (fun _ h => List.mem_cons_of_mem _ (List.mem_append_left _ (List.mem_append_right _ h))) (by decide +kernel))) (goodIn_sub (fun _ h => List.mem_cons_of_mem _ (List.mem_append_right _ h)) (by decide +kernel))
set_option maxRecDepth 20000 in
theorem gX7_breakOut_X7_change : GoodIn wsX7_breakOut (wsV RX7 57 RX7 yX7_change wsX7_change) := goodIn_app (goodIn_of _ (by decide +kernel)) ggX7_breakOut_X7_change
theorem dX7_breakOut_0 : decode cX7_breakOut 0 = .ok (.aload_n 0, 1) := by decide +kernel
theorem dX7_breakOut_1 : decode cX7_breakOut 1 = .ok (.getstatic 79, 3) := by decide +kernel
theorem dX7_breakOut_4 : decode cX7_breakOut 4 = .ok (.iload_n 1, 1) := by decide +kernel
theorem dX7_breakOut_5 : decode cX7_breakOut 5 = .ok (.iconst 0, 1) := by decide +kernel
theorem dX7_breakOut_6 : decode cX7_breakOut 6 = .ok (.iconst 0, 1) := by decide +kernel
theorem dX7_breakOut_7 : decode cX7_breakOut 7 = .ok (.invokevirtual 57, 3) := by decide +kernel
theorem dX7_breakOut_10 : decode cX7_breakOut 10 = .ok (.ireturn, 1) := by decide +kernel
set_option maxRecDepth 20000 in
theorem ggX7_meltDown_X7_change : GoodIn wsX7_meltDown wsX7_change := goodIn_ca (goodIn_ca (goodIn_ca (goodIn_ca (goodIn_ca (goodIn_ca (goodIn_ca (goodIn_r _ [6, 7, 8, 9, 10, 11, 12, 13, 14, 15, 16, 17, 18, 19, 20, 21, 22, 23, 24, 25, 26, 27, 28, 29, 30, 31, 32, 33, 34, 35, 36, 37, 38, 39, 40, 41, 42, 43, 44, 45, 46, 47, 48, 49, 50, 51, 52, 53, 54, 55, 56, 57, 58, 59, 60, 61, 62, 63, 64, 65, 66, 5, 67, 68, 69, 70, 71, 72, 73, 74, 75, 76, 77, 78, 79, 80, 81, 82, 83, 84, 85, 86, 87, 88, 89, 90, 91, 92, 93, 94, 95, 96, 97, 98, 99, 100, 101, 102, 103, 104, 105, 106, 107, 108, 109, 110, 111, 112, 113, 114, 115, 116, 117, 118, 119, 120, 121, 122, 123, 124, 125, 126, 127, 128, 129, 130, 131, 132, 133, 134, 135, 136, 137, 138, 139, 140, 141, 142, 143, 144, 145, 146, 147, 148, 149, 150, 151, 152, 153, 154, 155, 156, 157, 158, 159, 160, 161, 162, 163, 164, 165, 166, 167, 168, 169, 170, 171, 172, 173, 174, 175, 176, 177, 178, 179, 180, 181, 182, 183, 184, 185, 186, 187, 188, 189, 190, 191, 192, 193, 194, 195, 196, 197, 198, 199, 200, 201, 202, 203, 204, 205, 206, 207, 208, 209, 210, 211, 212, 213] (by decide +kernel) (by decide +kernel)) (goodIn_sub (fun _ h => List.mem_cons_of_mem _ (List.mem_append_left _ (List.mem_append_left _ (List.mem_append_left _ (List.mem_append_left _ (List.mem_append_left _ (List.mem_append_left _ (List.mem_append_right _ h)))))))) (by decide +kernel))) (goodIn_sub (fun _ h => List.mem_cons_of_mem _ (List.mem_append_left _ (List.mem_append_left _ (List.mem_append_left _ (List.mem_append_left _ (List.mem_append_left _ (List.mem_append_right _ h))))))) (by decide +kernel))) (goodIn_sub (fun _ h => List.mem_cons_of_mem _ (List.mem_append_left _ (List.mem_append_left _ (List.mem_append_left _ (List.mem_append_left _ (List.mem_append_right _ h)))))) (by decide +kernel))) (goodIn_sub (fun _ h => List.mem_cons_of_mem _ (List.mem_append_left _ (List.mem_append_left _ (List.mem_append_left _ (List.mem_append_right _ h))))) (by decide +kernel))) (goodIn_sub (fun _ h => List.mem_cons_of_mem _ (List.mem_append_left _ (List.mem_append_left _ (List.mem_append_right _ h)))) (by decide +kernel))) (goodIn_sub (fun _ h => List.mem_cons_of_mem _ (List.mem_append_left _ (List.mem_append_right _ h))) (by decide +kernel))) (goodIn_sub (fun _ h => List.mem_cons_of_mem _ (List.mem_append_right _ h)) (by decide +kernel))
set_option maxRecDepth 20000 in
theorem gX7_meltDown_X7_change : GoodIn wsX7_meltDown (wsV RX7 57 RX7 yX7_change wsX7_change) := goodIn_app (goodIn_of _ (by decide +kernel)) ggX7_meltDown_X7_change
theorem dX7_meltDown_0 : decode cX7_meltDown 0 = .ok (.aload_n 0, 1) := by decide +kernel
theorem dX7_meltDown_1 : decode cX7_meltDown 1 = .ok (.getstatic 82, 3) := by decide +kernel
theorem dX7_meltDown_4 : decode cX7_meltDown 4 = .ok (.iload_n 1, 1) := by decide +kernel
theorem dX7_meltDown_5 : decode cX7_meltDown 5 = .ok (.iload_n 2, 1) := by decide +kernel
theorem dX7_meltDown_6 : decode cX7_meltDown 6 = .ok (.iconst 0, 1) := by decide +kernel
theorem dX7_meltDown_7 : decode cX7_meltDown 7 = .ok (.invokevirtual 57, 3) := by decide +kernel
theorem dX7_meltDown_10 : decode cX7_meltDown 10 = .ok (.ireturn, 1) := by decide +kernel
set_option maxRecDepth 20000 in
theorem ggX7_advance_X7_change : GoodIn wsX7_advance wsX7_change := goodIn_ca (goodIn_ca (goodIn_ca (goodIn_ca (goodIn_ca (goodIn_ca (goodIn_ca (goodIn_r _ [6, 7, 8, 9, 10, 11, 12, 13, 14, 15, 16, 17, 18, 19, 20, 21, 22, 23, 24, 25, 26, 27, 28, 29, 30, 31, 32, 33, 34, 35, 36, 37, 38, 39, 40, 41, 42, 43, 44, 45, 46, 47, 48, 49, 50, 51, 52, 53, 54, 55, 56, 57, 58, 59, 60, 61, 62, 63, 64, 65, 66, 5, 67, 68, 69, 70, 71, 72, 73, 74, 75, 76, 77, 78, 79, 80, 81, 82, 83, 84, 85, 86, 87, 88, 89, 90, 91, 92, 93, 94, 95, 96, 97, 98, 99, 100, 101, 102, 103, 104, 105, 106, 107, 108, 109, 110, 111, 112, 113, 114, 115, 116, 117, 118, 119, 120, 121, 122, 123, 124, 125, 126, 127, 128, 129, 130, 131, 132, 133, 134, 135, 136, 137, 138, 139, 140, 141, 142, 143, 144, 145, 146, 147, 148, 149, 150, 151, 152, 153, 154, 155, 156, 157, 158, 159, 160, 161, 162, 163, 164, 165, 166, 167, 168, 169, 170, 171, 172, 173, 174, 175, 176, 177, 178, 179, 180, 181, 182, 183, 184, 185, 186, 187, 188, 189, 190, 191, 192, 193, 194, 195, 196, 197, 198, 199, 200, 201, 202, 203, 204, 205, 206, 207, 208, 209, 210, 211, 212, 213] (by decide +kernel) (by decide +kernel)) (goodIn_sub (fun _ h => List.mem_cons_of_mem _ (List.mem_append_left _ (List.mem_append_left _ (List.mem_append_left _ (List.mem_append_left _ (List.mem_append_left _ (List.mem_append_left _ (List.mem_append_right _ h)))))))) (by decide +kernel))) (goodIn_sub (fun _ h => List.mem_cons_of_mem _ (List.mem_append_left _ (List.mem_append_left _ (List.mem_append_left _ (List.mem_append_left _ (List.mem_append_left _ (List.mem_append_right _ h))))))) (by decide +kernel))) (goodIn_sub (fun _ h => List.mem_cons_of_mem _ (List.mem_append_left _ (List.mem_append_left _ (List.mem_append_left _ (List.mem_append_left _ (List.mem_append_right _ h)))))) (by decide +kernel))) (goodIn_sub (fun _ h => List.mem_cons_of_mem _ (List.mem_append_left _ (List.mem_append_left _ (List.mem_append_left _ (List.mem_append_right _ h))))) (by decide +kernel))) (goodIn_sub (fun _ h => List.mem_cons_of_mem _ (List.mem_append_left _ (List.mem_append_left _ (List.mem_append_right _ h)))) (by decide +kernel))) (goodIn_sub (fun _ h => List.mem_cons_of_mem _ (List.mem_append_left _ (List.mem_append_right _ h))) (by decide +kernel))) (goodIn_sub (fun _ h => List.mem_cons_of_mem _ (List.mem_append_right _ h)) (by decide +kernel))
set_option maxRecDepth 20000 in
theorem gX7_advance_X7_change : GoodIn wsX7_advance (wsV RX7 57 RX7 yX7_change wsX7_change) := goodIn_app (goodIn_of _ (by decide +kernel)) ggX7_advance_X7_change
theorem dX7_advance_0 : decode cX7_advance 0 = .ok (.aload_n 0, 1) := by decide +kernel
theorem dX7_advance_1 : decode cX7_advance 1 = .ok (.getstatic 85, 3) := by decide +kernel
theorem dX7_advance_4 : decode cX7_advance 4 = .ok (.iload_n 1, 1) := by decide +kernel
theorem dX7_advance_5 : decode cX7_advance 5 = .ok (.iconst 0, 1) := by decide +kernel
theorem dX7_advance_6 : decode cX7_advance 6 = .ok (.iconst 0, 1) := by decide +kernel
theorem dX7_advance_7 : decode cX7_advance 7 = .ok (.invokevirtual 57, 3) := by decide +kernel
theorem dX7_advance_10 : decode cX7_advance 10 = .ok (.ireturn, 1) := by decide +kernel
set_option maxRecDepth 20000 in
theorem ggX7_change_X2_note : GoodIn wsX7_change wsX2_note := goodIn_ca (goodIn_r _ [7, 8, 9, 10, 11, 12, 13, 14, 15, 16, 17, 18, 19, 20, 21, 22, 23, 24, 25, 26, 27, 28, 29, 30, 31, 32, 33, 34, 35, 36, 37, 38, 39, 40, 41, 42, 43, 191, 192, 193, 194, 195, 196, 197, 198, 199, 200, 201, 202, 203, 204, 205, 206, 207, 208] (by decide +kernel) (by decide +kernel)) (goodIn_sub (fun _ h => List.mem_cons_of_mem _ (List.mem_append_left _ (List.mem_append_left _ (List.mem_append_left _ (List.mem_append_left _ (List.mem_append_left _ (List.mem_append_left _ (List.mem_append_right _ h)))))))) (by decide +kernel))
set_option maxRecDepth 20000 in
theorem gX7_change_X2_note : GoodIn wsX7_change (wsV RX7 88 RX2 yX2_note wsX2_note) := goodIn_app (goodIn_of _ (by decide +kernel)) ggX7_change_X2_note
set_option maxRecDepth 20000 in
theorem ggX7_change_X4_perform : GoodIn wsX7_change wsX4_perform := goodIn_ca (goodIn_ca (goodIn_r _ [47, 48, 49, 50, 51, 52, 53, 54, 55, 56, 57, 58, 13, 59, 15, 23, 60, 61, 62, 63, 64, 65, 66, 67, 68, 36, 69, 38, 70, 71, 72, 29, 73, 31, 74, 32, 75, 76, 77, 78, 79, 16, 80, 81, 82, 83, 84, 85, 86, 87, 24, 88, 89, 90, 91, 92, 93, 94, 95, 96, 97, 98, 99, 100, 101, 102, 103, 104, 105, 106, 17, 107, 108, 109, 110, 111, 112, 113, 114, 115, 116, 117, 118, 119, 120, 121, 122, 123, 124, 125, 126, 127, 128, 129, 130, 131, 132, 133, 20, 19, 18, 134, 135, 136, 137, 138, 139, 140, 141, 22, 21, 43, 34, 35, 37, 39, 40, 41, 42, 142, 143, 144, 145, 146, 147, 148, 149, 150, 151, 152, 153, 25, 154, 155, 156, 157, 158, 159, 160, 161, 162, 163, 194, 195, 196, 197, 198, 199, 200, 201, 202, 203, 204, 205, 206, 207, 208] (by decide +kernel) (by decide +kernel)) (goodIn_sub (fun _ h => List.mem_cons_of_mem _ (List.mem_append_left _ (List.mem_append_left _ (List.mem_append_left _ (List.mem_append_left _ (List.mem_append_left _ (List.mem_append_left _ (List.mem_append_right _ h)))))))) (by decide +kernel))) (goodIn_sub (fun _ h => List.mem_cons_of_mem _ (List.mem_append_left _ (List.mem_append_left _ (List.mem_append_left _ (List.mem_append_left _ (List.mem_append_left _ (List.mem_append_right _ h))))))) (by decide +kernel))
set_option maxRecDepth 20000 in
theorem gX7_change_X4_perform : GoodIn wsX7_change (wsV RX7 92 RX4 yX4_perform wsX4_perform) := goodIn_app (goodIn_of _ (by decide +kernel)) ggX7_change_X4_perform
set_option maxRecDepth 20000 in
theorem ggX7_change_X7_throwIfRefused : GoodIn wsX7_change wsX7_throwIfRefused := goodIn_ca (goodIn_ca (goodIn_ca (goodIn_ca (goodIn_ca (goodIn_r _ [166, 167, 168, 169, 170, 171, 172, 173, 174, 175, 176] (by decide +kernel) (by decide +kernel)) (goodIn_sub (fun _ h => List.mem_cons_of_mem _ (List.mem_append_left _ (List.mem_append_left _ (List.mem_append_left _ (List.mem_append_left _ (List.mem_append_right _ h)))))) (by decide +kernel))) (goodIn_sub (fun _ h => List.mem_cons_of_mem _ (List.mem_append_left _ (List.mem_append_left _ (List.mem_append_left _ (List.mem_append_right _ h))))) (by decide +kernel))) (goodIn_sub (fun _ h => List.mem_cons_of_mem _ (List.mem_append_left _ (List.mem_append_left _ (List.mem_append_right _ h)))) (by decide +kernel))) (goodIn_sub (fun _ h => List.mem_cons_of_mem _ (List.mem_append_left _ (List.mem_append_right _ h))) (by decide +kernel))) (goodIn_sub (fun _ h => List.mem_cons_of_mem _ (List.mem_append_right _ h)) (by decide +kernel))
set_option maxRecDepth 20000 in
theorem gX7_change_X7_throwIfRefused : GoodIn wsX7_change (va_wsS RX7 95 yX7_throwIfRefused wsX7_throwIfRefused) := goodIn_app (goodIn_of _ (by decide +kernel)) ggX7_change_X7_throwIfRefused
set_option maxRecDepth 20000 in
theorem ggX7_change_X2_keep : GoodIn wsX7_change wsX2_keep := goodIn_r _ [180, 9, 181, 182, 85, 86, 87, 191, 192, 193] (by decide +kernel) (by decide +kernel)
set_option maxRecDepth 20000 in
theorem gX7_change_X2_keep : GoodIn wsX7_change (wsV RX7 99 RX2 yX2_keep wsX2_keep) := goodIn_app (goodIn_of _ (by decide +kernel)) ggX7_change_X2_keep
theorem dX7_change_0 : decode cX7_change 0 = .ok (.aload_n 0, 1) := by decide +kernel
theorem dX7_change_1 : decode cX7_change 1 = .ok (.getfield 19, 3) := by decide +kernel
theorem dX7_change_4 : decode cX7_change 4 = .ok (.aload_n 0, 1) := by decide +kernel
theorem dX7_change_5 : decode cX7_change 5 = .ok (.getfield 10, 3) := by decide +kernel
theorem dX7_change_8 : decode cX7_change 8 = .ok (.invokevirtual 88, 3) := by decide +kernel
theorem dX7_change_11 : decode cX7_change 11 = .ok (.aload_n 0, 1) := by decide +kernel
theorem dX7_change_12 : decode cX7_change 12 = .ok (.getfield 10, 3) := by decide +kernel
theorem dX7_change_15 : decode cX7_change 15 = .ok (.aload_n 1, 1) := by decide +kernel
theorem dX7_change_16 : decode cX7_change 16 = .ok (.iload_n 2, 1) := by decide +kernel
theorem dX7_change_17 : decode cX7_change 17 = .ok (.iload_n 3, 1) := by decide +kernel
theorem dX7_change_18 : decode cX7_change 18 = .ok (.iload 4, 2) := by decide +kernel
theorem dX7_change_20 : decode cX7_change 20 = .ok (.invokevirtual 92, 3) := by decide +kernel
theorem dX7_change_23 : decode cX7_change 23 = .ok (.istore 5, 2) := by decide +kernel
theorem dX7_change_25 : decode cX7_change 25 = .ok (.iload 5, 2) := by decide +kernel
theorem dX7_change_27 : decode cX7_change 27 = .ok (.invokestatic 95, 3) := by decide +kernel
theorem dX7_change_30 : decode cX7_change 30 = .ok (.aload_n 0, 1) := by decide +kernel
theorem dX7_change_31 : decode cX7_change 31 = .ok (.getfield 19, 3) := by decide +kernel
theorem dX7_change_34 : decode cX7_change 34 = .ok (.invokevirtual 99, 3) := by decide +kernel
theorem dX7_change_37 : decode cX7_change 37 = .ok (.iload 5, 2) := by decide +kernel
theorem dX7_change_39 : decode cX7_change 39 = .ok (.ireturn, 1) := by decide +kernel
theorem dX7_throwIfRefused_0 : decode cX7_throwIfRefused 0 = .ok (.iload_n 0, 1) := by decide +kernel
theorem dX7_throwIfRefused_1 : decode cX7_throwIfRefused 1 = .ok (.tableswitch 75 (-5) (-1) #[67, 59, 51, 43, 35], 35) := by decide +kernel
theorem dX7_throwIfRefused_36 : decode cX7_throwIfRefused 36 = .ok (.new 102, 3) := by decide +kernel
theorem dX7_throwIfRefused_39 : decode cX7_throwIfRefused 39 = .ok (.dup, 1) := by decide +kernel
theorem dX7_throwIfRefused_40 : decode cX7_throwIfRefused 40 = .ok (.invokespecial 104, 3) := by decide +kernel
theorem dX7_throwIfRefused_43 : decode cX7_throwIfRefused 43 = .ok (.athrow, 1) := by decide +kernel
theorem dX7_throwIfRefused_44 : decode cX7_throwIfRefused 44 = .ok (.new 105, 3) := by decide +kernel
theorem dX7_throwIfRefused_47 : decode cX7_throwIfRefused 47 = .ok (.dup, 1) := by decide +kernel
theorem dX7_throwIfRefused_48 : decode cX7_throwIfRefused 48 = .ok (.invokespecial 107, 3) := by decide +kernel
theorem dX7_throwIfRefused_51 : decode cX7_throwIfRefused 51 = .ok (.athrow, 1) := by decide +kernel
theorem dX7_throwIfRefused_52 : decode cX7_throwIfRefused 52 = .ok (.new 108, 3) := by decide +kernel
theorem dX7_throwIfRefused_55 : decode cX7_throwIfRefused 55 = .ok (.dup, 1) := by decide +kernel
theorem dX7_throwIfRefused_56 : decode cX7_throwIfRefused 56 = .ok (.invokespecial 110, 3) := by decide +kernel
theorem dX7_throwIfRefused_59 : decode cX7_throwIfRefused 59 = .ok (.athrow, 1) := by decide +kernel
theorem dX7_throwIfRefused_60 : decode cX7_throwIfRefused 60 = .ok (.new 111, 3) := by decide +kernel
theorem dX7_throwIfRefused_63 : decode cX7_throwIfRefused 63 = .ok (.dup, 1) := by decide +kernel
theorem dX7_throwIfRefused_64 : decode cX7_throwIfRefused 64 = .ok (.invokespecial 113, 3) := by decide +kernel
theorem dX7_throwIfRefused_67 : decode cX7_throwIfRefused 67 = .ok (.athrow, 1) := by decide +kernel
theorem dX7_throwIfRefused_68 : decode cX7_throwIfRefused 68 = .ok (.new 114, 3) := by decide +kernel
theorem dX7_throwIfRefused_71 : decode cX7_throwIfRefused 71 = .ok (.dup, 1) := by decide +kernel
theorem dX7_throwIfRefused_72 : decode cX7_throwIfRefused 72 = .ok (.invokespecial 116, 3) := by decide +kernel
theorem dX7_throwIfRefused_75 : decode cX7_throwIfRefused 75 = .ok (.athrow, 1) := by decide +kernel
theorem dX7_throwIfRefused_76 : decode cX7_throwIfRefused 76 = .ok (.return_, 1) := by decide +kernel
set_option maxRecDepth 20000 in
theorem ggX7_furnaceMass_X7_requireIndex : GoodIn wsX7_furnaceMass wsX7_requireIndex := goodIn_ca (goodIn_r _ [5, 6, 7, 8, 9, 4, 10] (by decide +kernel) (by decide +kernel)) (goodIn_sub (fun _ h => List.mem_cons_of_mem _ (List.mem_append_left _ (List.mem_append_right _ h))) (by decide +kernel))
set_option maxRecDepth 20000 in
theorem gX7_furnaceMass_X7_requireIndex : GoodIn wsX7_furnaceMass (va_wsS RX7 117 yX7_requireIndex wsX7_requireIndex) := goodIn_app (goodIn_of _ (by decide +kernel)) ggX7_furnaceMass_X7_requireIndex
set_option maxRecDepth 20000 in
theorem ggX7_furnaceMass_X7_requireMaterial : GoodIn wsX7_furnaceMass wsX7_requireMaterial := goodIn_ca (goodIn_ca (goodIn_r _ [13, 14, 15, 16, 17, 4, 18, 19] (by decide +kernel) (by decide +kernel)) (goodIn_sub (fun _ h => List.mem_cons_of_mem _ (List.mem_append_right _ h)) (by decide +kernel))) (goodIn_sub (fun _ h => List.mem_cons_of_mem _ (List.mem_append_left _ (List.mem_append_left _ (List.mem_append_right _ h)))) (by decide +kernel))
set_option maxRecDepth 20000 in
theorem gX7_furnaceMass_X7_requireMaterial : GoodIn wsX7_furnaceMass (va_wsS RX7 137 yX7_requireMaterial wsX7_requireMaterial) := goodIn_app (goodIn_of _ (by decide +kernel)) ggX7_furnaceMass_X7_requireMaterial
theorem dX7_furnaceMass_0 : decode cX7_furnaceMass 0 = .ok (.iload_n 1, 1) := by decide +kernel
theorem dX7_furnaceMass_1 : decode cX7_furnaceMass 1 = .ok (.iconst 3, 1) := by decide +kernel
theorem dX7_furnaceMass_2 : decode cX7_furnaceMass 2 = .ok (.invokestatic 117, 3) := by decide +kernel
theorem dX7_furnaceMass_5 : decode cX7_furnaceMass 5 = .ok (.aload_n 0, 1) := by decide +kernel
theorem dX7_furnaceMass_6 : decode cX7_furnaceMass 6 = .ok (.getfield 10, 3) := by decide +kernel
theorem dX7_furnaceMass_9 : decode cX7_furnaceMass 9 = .ok (.getfield 121, 3) := by decide +kernel
theorem dX7_furnaceMass_12 : decode cX7_furnaceMass 12 = .ok (.iload_n 1, 1) := by decide +kernel
theorem dX7_furnaceMass_13 : decode cX7_furnaceMass 13 = .ok (.aaload, 1) := by decide +kernel
theorem dX7_furnaceMass_14 : decode cX7_furnaceMass 14 = .ok (.getfield 125, 3) := by decide +kernel
theorem dX7_furnaceMass_17 : decode cX7_furnaceMass 17 = .ok (.getfield 131, 3) := by decide +kernel
theorem dX7_furnaceMass_20 : decode cX7_furnaceMass 20 = .ok (.iload_n 2, 1) := by decide +kernel
theorem dX7_furnaceMass_21 : decode cX7_furnaceMass 21 = .ok (.invokestatic 137, 3) := by decide +kernel
theorem dX7_furnaceMass_24 : decode cX7_furnaceMass 24 = .ok (.iaload, 1) := by decide +kernel
theorem dX7_furnaceMass_25 : decode cX7_furnaceMass 25 = .ok (.ireturn, 1) := by decide +kernel
set_option maxRecDepth 20000 in
theorem ggX7_furnaceTotal_X7_requireIndex : GoodIn wsX7_furnaceTotal wsX7_requireIndex := goodIn_ca (goodIn_r _ [5, 6, 7, 8, 9, 4, 10] (by decide +kernel) (by decide +kernel)) (goodIn_sub (fun _ h => List.mem_cons_of_mem _ (List.mem_append_left _ (List.mem_append_right _ h))) (by decide +kernel))
set_option maxRecDepth 20000 in
theorem gX7_furnaceTotal_X7_requireIndex : GoodIn wsX7_furnaceTotal (va_wsS RX7 117 yX7_requireIndex wsX7_requireIndex) := goodIn_app (goodIn_of _ (by decide +kernel)) ggX7_furnaceTotal_X7_requireIndex
set_option maxRecDepth 20000 in
theorem ggX7_furnaceTotal_X3_sum : GoodIn wsX7_furnaceTotal wsX3_sum := goodIn_ca (goodIn_r _ [15, 16, 39] (by decide +kernel) (by decide +kernel)) (goodIn_sub (fun _ h => List.mem_cons_of_mem _ (List.mem_append_right _ h)) (by decide +kernel))
set_option maxRecDepth 20000 in
theorem gX7_furnaceTotal_X3_sum : GoodIn wsX7_furnaceTotal (wsV RX7 141 RX3 yX3_sum wsX3_sum) := goodIn_app (goodIn_of _ (by decide +kernel)) ggX7_furnaceTotal_X3_sum
theorem dX7_furnaceTotal_0 : decode cX7_furnaceTotal 0 = .ok (.iload_n 1, 1) := by decide +kernel
theorem dX7_furnaceTotal_1 : decode cX7_furnaceTotal 1 = .ok (.iconst 3, 1) := by decide +kernel
theorem dX7_furnaceTotal_2 : decode cX7_furnaceTotal 2 = .ok (.invokestatic 117, 3) := by decide +kernel
theorem dX7_furnaceTotal_5 : decode cX7_furnaceTotal 5 = .ok (.aload_n 0, 1) := by decide +kernel
theorem dX7_furnaceTotal_6 : decode cX7_furnaceTotal 6 = .ok (.getfield 10, 3) := by decide +kernel
theorem dX7_furnaceTotal_9 : decode cX7_furnaceTotal 9 = .ok (.getfield 121, 3) := by decide +kernel
theorem dX7_furnaceTotal_12 : decode cX7_furnaceTotal 12 = .ok (.iload_n 1, 1) := by decide +kernel
theorem dX7_furnaceTotal_13 : decode cX7_furnaceTotal 13 = .ok (.aaload, 1) := by decide +kernel
theorem dX7_furnaceTotal_14 : decode cX7_furnaceTotal 14 = .ok (.getfield 125, 3) := by decide +kernel
theorem dX7_furnaceTotal_17 : decode cX7_furnaceTotal 17 = .ok (.invokevirtual 141, 3) := by decide +kernel
theorem dX7_furnaceTotal_20 : decode cX7_furnaceTotal 20 = .ok (.ireturn, 1) := by decide +kernel
set_option maxRecDepth 20000 in
theorem ggX7_furnaceTemperature_X7_requireIndex : GoodIn wsX7_furnaceTemperature wsX7_requireIndex := goodIn_ca (goodIn_r _ [5, 6, 7, 8, 9, 4, 10] (by decide +kernel) (by decide +kernel)) (goodIn_sub (fun _ h => List.mem_cons_of_mem _ (List.mem_append_right _ h)) (by decide +kernel))
set_option maxRecDepth 20000 in
theorem gX7_furnaceTemperature_X7_requireIndex : GoodIn wsX7_furnaceTemperature (va_wsS RX7 117 yX7_requireIndex wsX7_requireIndex) := goodIn_app (goodIn_of _ (by decide +kernel)) ggX7_furnaceTemperature_X7_requireIndex
theorem dX7_furnaceTemperature_0 : decode cX7_furnaceTemperature 0 = .ok (.iload_n 1, 1) := by decide +kernel
theorem dX7_furnaceTemperature_1 : decode cX7_furnaceTemperature 1 = .ok (.iconst 3, 1) := by decide +kernel
theorem dX7_furnaceTemperature_2 : decode cX7_furnaceTemperature 2 = .ok (.invokestatic 117, 3) := by decide +kernel
theorem dX7_furnaceTemperature_5 : decode cX7_furnaceTemperature 5 = .ok (.aload_n 0, 1) := by decide +kernel
theorem dX7_furnaceTemperature_6 : decode cX7_furnaceTemperature 6 = .ok (.getfield 10, 3) := by decide +kernel
theorem dX7_furnaceTemperature_9 : decode cX7_furnaceTemperature 9 = .ok (.getfield 121, 3) := by decide +kernel
theorem dX7_furnaceTemperature_12 : decode cX7_furnaceTemperature 12 = .ok (.iload_n 1, 1) := by decide +kernel
theorem dX7_furnaceTemperature_13 : decode cX7_furnaceTemperature 13 = .ok (.aaload, 1) := by decide +kernel
theorem dX7_furnaceTemperature_14 : decode cX7_furnaceTemperature 14 = .ok (.getfield 145, 3) := by decide +kernel
theorem dX7_furnaceTemperature_17 : decode cX7_furnaceTemperature 17 = .ok (.ireturn, 1) := by decide +kernel
set_option maxRecDepth 20000 in
theorem ggX7_fire_X7_requireIndex : GoodIn wsX7_fire wsX7_requireIndex := goodIn_ca (goodIn_r _ [5, 6, 7, 8, 9, 4, 10] (by decide +kernel) (by decide +kernel)) (goodIn_sub (fun _ h => List.mem_cons_of_mem _ (List.mem_append_right _ h)) (by decide +kernel))
set_option maxRecDepth 20000 in
theorem gX7_fire_X7_requireIndex : GoodIn wsX7_fire (va_wsS RX7 117 yX7_requireIndex wsX7_requireIndex) := goodIn_app (goodIn_of _ (by decide +kernel)) ggX7_fire_X7_requireIndex
theorem dX7_fire_0 : decode cX7_fire 0 = .ok (.iload_n 1, 1) := by decide +kernel
theorem dX7_fire_1 : decode cX7_fire 1 = .ok (.iconst 3, 1) := by decide +kernel
theorem dX7_fire_2 : decode cX7_fire 2 = .ok (.invokestatic 117, 3) := by decide +kernel
theorem dX7_fire_5 : decode cX7_fire 5 = .ok (.aload_n 0, 1) := by decide +kernel
theorem dX7_fire_6 : decode cX7_fire 6 = .ok (.getfield 10, 3) := by decide +kernel
theorem dX7_fire_9 : decode cX7_fire 9 = .ok (.getfield 148, 3) := by decide +kernel
theorem dX7_fire_12 : decode cX7_fire 12 = .ok (.iload_n 1, 1) := by decide +kernel
theorem dX7_fire_13 : decode cX7_fire 13 = .ok (.iaload, 1) := by decide +kernel
theorem dX7_fire_14 : decode cX7_fire 14 = .ok (.ireturn, 1) := by decide +kernel
set_option maxRecDepth 20000 in
theorem ggX7_meltingPoint_X7_requireFilledFurnace : GoodIn wsX7_meltingPoint wsX7_requireFilledFurnace := goodIn_ca (goodIn_ca (goodIn_ca (goodIn_r _ [5, 6, 7, 8, 9, 10, 4, 11, 12, 13, 14, 15, 16, 17, 18, 19, 20, 21, 22, 27, 28, 29, 30, 31, 32, 33, 34, 35, 36, 37, 38, 39, 40, 41, 42, 43, 44, 45, 46, 47, 48, 49] (by decide +kernel) (by decide +kernel)) (goodIn_sub (fun _ h => List.mem_cons_of_mem _ (List.mem_append_left _ (List.mem_append_left _ (List.mem_append_left _ (List.mem_append_right _ h))))) (by decide +kernel))) (goodIn_sub (fun _ h => List.mem_cons_of_mem _ (List.mem_append_left _ (List.mem_append_left _ (List.mem_append_right _ h)))) (by decide +kernel))) (goodIn_sub (fun _ h => List.mem_cons_of_mem _ (List.mem_append_left _ (List.mem_append_right _ h))) (by decide +kernel))
set_option maxRecDepth 20000 in
theorem gX7_meltingPoint_X7_requireFilledFurnace : GoodIn wsX7_meltingPoint (wsV RX7 151 RX7 yX7_requireFilledFurnace wsX7_requireFilledFurnace) := goodIn_app (goodIn_of _ (by decide +kernel)) ggX7_meltingPoint_X7_requireFilledFurnace
set_option maxRecDepth 20000 in
theorem ggX7_meltingPoint_X3_pointBySums : GoodIn wsX7_meltingPoint wsX3_pointBySums := goodIn_ca (goodIn_ca (goodIn_r _ [26, 22, 49] (by decide +kernel) (by decide +kernel)) (goodIn_sub (fun _ h => List.mem_cons_of_mem _ (List.mem_append_left _ (List.mem_append_right _ h))) (by decide +kernel))) (goodIn_sub (fun _ h => List.mem_cons_of_mem _ (List.mem_append_right _ h)) (by decide +kernel))
set_option maxRecDepth 20000 in
theorem gX7_meltingPoint_X3_pointBySums : GoodIn wsX7_meltingPoint (wsV RX7 155 RX3 yX3_pointBySums wsX3_pointBySums) := goodIn_app (goodIn_of _ (by decide +kernel)) ggX7_meltingPoint_X3_pointBySums
theorem dX7_meltingPoint_0 : decode cX7_meltingPoint 0 = .ok (.aload_n 0, 1) := by decide +kernel
theorem dX7_meltingPoint_1 : decode cX7_meltingPoint 1 = .ok (.iload_n 1, 1) := by decide +kernel
theorem dX7_meltingPoint_2 : decode cX7_meltingPoint 2 = .ok (.invokevirtual 151, 3) := by decide +kernel
theorem dX7_meltingPoint_5 : decode cX7_meltingPoint 5 = .ok (.invokevirtual 155, 3) := by decide +kernel
theorem dX7_meltingPoint_8 : decode cX7_meltingPoint 8 = .ok (.ireturn, 1) := by decide +kernel
set_option maxRecDepth 20000 in
theorem ggX7_meltingPointByDifferences_X7_requireFilledFurnace : GoodIn wsX7_meltingPointByDifferences wsX7_requireFilledFurnace := goodIn_ca (goodIn_ca (goodIn_ca (goodIn_r _ [5, 6, 7, 8, 9, 10, 4, 11, 12, 13, 14, 15, 16, 17, 18, 19, 20, 21, 22, 27, 28, 29, 30, 31, 32, 33, 34, 35, 36, 37, 38, 39, 40, 41, 42, 43, 44, 45, 46, 47, 48, 49] (by decide +kernel) (by decide +kernel)) (goodIn_sub (fun _ h => List.mem_cons_of_mem _ (List.mem_append_left _ (List.mem_append_left _ (List.mem_append_left _ (List.mem_append_right _ h))))) (by decide +kernel))) (goodIn_sub (fun _ h => List.mem_cons_of_mem _ (List.mem_append_left _ (List.mem_append_left _ (List.mem_append_right _ h)))) (by decide +kernel))) (goodIn_sub (fun _ h => List.mem_cons_of_mem _ (List.mem_append_left _ (List.mem_append_right _ h))) (by decide +kernel))
set_option maxRecDepth 20000 in
theorem gX7_meltingPointByDifferences_X7_requireFilledFurnace : GoodIn wsX7_meltingPointByDifferences (wsV RX7 151 RX7 yX7_requireFilledFurnace wsX7_requireFilledFurnace) := goodIn_app (goodIn_of _ (by decide +kernel)) ggX7_meltingPointByDifferences_X7_requireFilledFurnace
set_option maxRecDepth 20000 in
theorem ggX7_meltingPointByDifferences_X3_pointByDifferences : GoodIn wsX7_meltingPointByDifferences wsX3_pointByDifferences := goodIn_ca (goodIn_ca (goodIn_r _ [26, 22, 49] (by decide +kernel) (by decide +kernel)) (goodIn_sub (fun _ h => List.mem_cons_of_mem _ (List.mem_append_left _ (List.mem_append_right _ h))) (by decide +kernel))) (goodIn_sub (fun _ h => List.mem_cons_of_mem _ (List.mem_append_right _ h)) (by decide +kernel))
set_option maxRecDepth 20000 in
theorem gX7_meltingPointByDifferences_X3_pointByDifferences : GoodIn wsX7_meltingPointByDifferences (wsV RX7 158 RX3 yX3_pointByDifferences wsX3_pointByDifferences) := goodIn_app (goodIn_of _ (by decide +kernel)) ggX7_meltingPointByDifferences_X3_pointByDifferences
theorem dX7_meltingPointByDifferences_0 : decode cX7_meltingPointByDifferences 0 = .ok (.aload_n 0, 1) := by decide +kernel
theorem dX7_meltingPointByDifferences_1 : decode cX7_meltingPointByDifferences 1 = .ok (.iload_n 1, 1) := by decide +kernel
theorem dX7_meltingPointByDifferences_2 : decode cX7_meltingPointByDifferences 2 = .ok (.invokevirtual 151, 3) := by decide +kernel
theorem dX7_meltingPointByDifferences_5 : decode cX7_meltingPointByDifferences 5 = .ok (.invokevirtual 158, 3) := by decide +kernel
theorem dX7_meltingPointByDifferences_8 : decode cX7_meltingPointByDifferences 8 = .ok (.ireturn, 1) := by decide +kernel
set_option maxRecDepth 20000 in
theorem ggX7_isMolten_X7_requireIndex : GoodIn wsX7_isMolten wsX7_requireIndex := goodIn_ca (goodIn_r _ [5, 6, 7, 8, 9, 4, 10] (by decide +kernel) (by decide +kernel)) (goodIn_sub (fun _ h => List.mem_cons_of_mem _ (List.mem_append_left _ (List.mem_append_left _ (List.mem_append_right _ h)))) (by decide +kernel))
set_option maxRecDepth 20000 in
theorem gX7_isMolten_X7_requireIndex : GoodIn wsX7_isMolten (va_wsS RX7 117 yX7_requireIndex wsX7_requireIndex) := goodIn_app (goodIn_of _ (by decide +kernel)) ggX7_isMolten_X7_requireIndex
set_option maxRecDepth 20000 in
theorem ggX7_isMolten_X6_liquid : GoodIn wsX7_isMolten wsX6_liquid := goodIn_ca (goodIn_ca (goodIn_r _ [15, 16, 17, 18, 19, 20, 21, 22, 23, 24, 25, 26, 27, 47, 48, 49, 50] (by decide +kernel) (by decide +kernel)) (goodIn_sub (fun _ h => List.mem_cons_of_mem _ (List.mem_append_left _ (List.mem_append_right _ h))) (by decide +kernel))) (goodIn_sub (fun _ h => List.mem_cons_of_mem _ (List.mem_append_right _ h)) (by decide +kernel))
set_option maxRecDepth 20000 in
theorem gX7_isMolten_X6_liquid : GoodIn wsX7_isMolten (wsV RX7 161 RX6 yX6_liquid wsX6_liquid) := goodIn_app (goodIn_of _ (by decide +kernel)) ggX7_isMolten_X6_liquid
theorem dX7_isMolten_0 : decode cX7_isMolten 0 = .ok (.iload_n 1, 1) := by decide +kernel
theorem dX7_isMolten_1 : decode cX7_isMolten 1 = .ok (.iconst 3, 1) := by decide +kernel
theorem dX7_isMolten_2 : decode cX7_isMolten 2 = .ok (.invokestatic 117, 3) := by decide +kernel
theorem dX7_isMolten_5 : decode cX7_isMolten 5 = .ok (.aload_n 0, 1) := by decide +kernel
theorem dX7_isMolten_6 : decode cX7_isMolten 6 = .ok (.getfield 10, 3) := by decide +kernel
theorem dX7_isMolten_9 : decode cX7_isMolten 9 = .ok (.getfield 121, 3) := by decide +kernel
theorem dX7_isMolten_12 : decode cX7_isMolten 12 = .ok (.iload_n 1, 1) := by decide +kernel
theorem dX7_isMolten_13 : decode cX7_isMolten 13 = .ok (.aaload, 1) := by decide +kernel
theorem dX7_isMolten_14 : decode cX7_isMolten 14 = .ok (.invokevirtual 161, 3) := by decide +kernel
theorem dX7_isMolten_17 : decode cX7_isMolten 17 = .ok (.ireturn, 1) := by decide +kernel
set_option maxRecDepth 20000 in
theorem ggX7_minutesUntilMolten_X7_requireMeltingFurnace : GoodIn wsX7_minutesUntilMolten wsX7_requireMeltingFurnace := goodIn_ca (goodIn_ca (goodIn_ca (goodIn_ca (goodIn_r _ [6, 7, 8, 1, 9, 10, 5, 11, 12, 13, 14, 15, 16, 17, 18, 19, 20, 21, 22, 23, 24, 25, 26, 27, 28, 29, 30, 31, 32, 33, 34, 35, 36, 37, 38, 39, 40, 41, 54, 55, 56, 57, 58, 59, 60, 61, 62, 63, 64, 65, 66, 67, 68, 69, 70, 71, 72, 73, 74, 75, 76] (by decide +kernel) (by decide +kernel)) (goodIn_sub (fun _ h => List.mem_cons_of_mem _ (List.mem_append_left _ (List.mem_append_left _ (List.mem_append_left _ (List.mem_append_right _ h))))) (by decide +kernel))) (goodIn_sub (fun _ h => List.mem_cons_of_mem _ (List.mem_append_left _ (List.mem_append_left _ (List.mem_append_right _ h)))) (by decide +kernel))) (goodIn_sub (fun _ h => List.mem_cons_of_mem _ (List.mem_append_left _ (List.mem_append_right _ h))) (by decide +kernel))) (goodIn_sub (fun _ h => List.mem_cons_of_mem _ (List.mem_append_right _ h)) (by decide +kernel))
set_option maxRecDepth 20000 in
theorem gX7_minutesUntilMolten_X7_requireMeltingFurnace : GoodIn wsX7_minutesUntilMolten (wsV RX7 165 RX7 yX7_requireMeltingFurnace wsX7_requireMeltingFurnace) := goodIn_app (goodIn_of _ (by decide +kernel)) ggX7_minutesUntilMolten_X7_requireMeltingFurnace
set_option maxRecDepth 20000 in
theorem ggX7_minutesUntilMolten_X4_minutesByWaiting : GoodIn wsX7_minutesUntilMolten wsX4_minutesByWaiting := goodIn_ca (goodIn_ca (goodIn_r _ [45, 22, 46, 47, 38, 39, 34, 40, 36, 48, 49, 50, 20, 51, 23, 52, 5, 53, 62, 63, 64, 65, 66, 67, 68, 69, 70, 71, 72, 73, 74, 75, 76] (by decide +kernel) (by decide +kernel)) (goodIn_sub (fun _ h => List.mem_cons_of_mem _ (List.mem_append_left _ (List.mem_append_right _ h))) (by decide +kernel))) (goodIn_sub (fun _ h => List.mem_cons_of_mem _ (List.mem_append_right _ h)) (by decide +kernel))
set_option maxRecDepth 20000 in
theorem gX7_minutesUntilMolten_X4_minutesByWaiting : GoodIn wsX7_minutesUntilMolten (wsV RX7 168 RX4 yX4_minutesByWaiting wsX4_minutesByWaiting) := goodIn_app (goodIn_of _ (by decide +kernel)) ggX7_minutesUntilMolten_X4_minutesByWaiting
theorem dX7_minutesUntilMolten_0 : decode cX7_minutesUntilMolten 0 = .ok (.aload_n 0, 1) := by decide +kernel
theorem dX7_minutesUntilMolten_1 : decode cX7_minutesUntilMolten 1 = .ok (.iload_n 1, 1) := by decide +kernel
theorem dX7_minutesUntilMolten_2 : decode cX7_minutesUntilMolten 2 = .ok (.invokevirtual 165, 3) := by decide +kernel
theorem dX7_minutesUntilMolten_5 : decode cX7_minutesUntilMolten 5 = .ok (.aload_n 0, 1) := by decide +kernel
theorem dX7_minutesUntilMolten_6 : decode cX7_minutesUntilMolten 6 = .ok (.getfield 10, 3) := by decide +kernel
theorem dX7_minutesUntilMolten_9 : decode cX7_minutesUntilMolten 9 = .ok (.iload_n 1, 1) := by decide +kernel
theorem dX7_minutesUntilMolten_10 : decode cX7_minutesUntilMolten 10 = .ok (.invokevirtual 168, 3) := by decide +kernel
theorem dX7_minutesUntilMolten_13 : decode cX7_minutesUntilMolten 13 = .ok (.ireturn, 1) := by decide +kernel
set_option maxRecDepth 20000 in
theorem ggX7_minutesUntilMoltenByDivision_X7_requireMeltingFurnace : GoodIn wsX7_minutesUntilMoltenByDivision wsX7_requireMeltingFurnace := goodIn_ca (goodIn_ca (goodIn_ca (goodIn_ca (goodIn_r _ [6, 7, 8, 1, 9, 10, 5, 11, 12, 13, 14, 15, 16, 17, 18, 19, 20, 21, 22, 23, 24, 25, 26, 27, 28, 29, 30, 31, 32, 33, 34, 35, 36, 37, 38, 39, 40, 41, 51, 52, 53, 54, 55, 56, 57, 58, 59, 60, 61, 62, 63, 64, 65, 66, 67, 68, 69, 70, 71, 72, 73] (by decide +kernel) (by decide +kernel)) (goodIn_sub (fun _ h => List.mem_cons_of_mem _ (List.mem_append_left _ (List.mem_append_left _ (List.mem_append_left _ (List.mem_append_right _ h))))) (by decide +kernel))) (goodIn_sub (fun _ h => List.mem_cons_of_mem _ (List.mem_append_left _ (List.mem_append_left _ (List.mem_append_right _ h)))) (by decide +kernel))) (goodIn_sub (fun _ h => List.mem_cons_of_mem _ (List.mem_append_left _ (List.mem_append_right _ h))) (by decide +kernel))) (goodIn_sub (fun _ h => List.mem_cons_of_mem _ (List.mem_append_right _ h)) (by decide +kernel))
set_option maxRecDepth 20000 in
theorem gX7_minutesUntilMoltenByDivision_X7_requireMeltingFurnace : GoodIn wsX7_minutesUntilMoltenByDivision (wsV RX7 165 RX7 yX7_requireMeltingFurnace wsX7_requireMeltingFurnace) := goodIn_app (goodIn_of _ (by decide +kernel)) ggX7_minutesUntilMoltenByDivision_X7_requireMeltingFurnace
set_option maxRecDepth 20000 in
theorem ggX7_minutesUntilMoltenByDivision_X4_minutesByDivision : GoodIn wsX7_minutesUntilMoltenByDivision wsX4_minutesByDivision := goodIn_ca (goodIn_ca (goodIn_r _ [45, 22, 46, 38, 39, 34, 40, 36, 47, 48, 49, 20, 50, 23, 59, 60, 61, 62, 63, 64, 65, 66, 67, 68, 69, 70, 71, 72, 73] (by decide +kernel) (by decide +kernel)) (goodIn_sub (fun _ h => List.mem_cons_of_mem _ (List.mem_append_right _ h)) (by decide +kernel))) (goodIn_sub (fun _ h => List.mem_cons_of_mem _ (List.mem_append_left _ (List.mem_append_right _ h))) (by decide +kernel))
set_option maxRecDepth 20000 in
theorem gX7_minutesUntilMoltenByDivision_X4_minutesByDivision : GoodIn wsX7_minutesUntilMoltenByDivision (wsV RX7 172 RX4 yX4_minutesByDivision wsX4_minutesByDivision) := goodIn_app (goodIn_of _ (by decide +kernel)) ggX7_minutesUntilMoltenByDivision_X4_minutesByDivision
theorem dX7_minutesUntilMoltenByDivision_0 : decode cX7_minutesUntilMoltenByDivision 0 = .ok (.aload_n 0, 1) := by decide +kernel
theorem dX7_minutesUntilMoltenByDivision_1 : decode cX7_minutesUntilMoltenByDivision 1 = .ok (.iload_n 1, 1) := by decide +kernel
theorem dX7_minutesUntilMoltenByDivision_2 : decode cX7_minutesUntilMoltenByDivision 2 = .ok (.invokevirtual 165, 3) := by decide +kernel
theorem dX7_minutesUntilMoltenByDivision_5 : decode cX7_minutesUntilMoltenByDivision 5 = .ok (.aload_n 0, 1) := by decide +kernel
theorem dX7_minutesUntilMoltenByDivision_6 : decode cX7_minutesUntilMoltenByDivision 6 = .ok (.getfield 10, 3) := by decide +kernel
theorem dX7_minutesUntilMoltenByDivision_9 : decode cX7_minutesUntilMoltenByDivision 9 = .ok (.iload_n 1, 1) := by decide +kernel
theorem dX7_minutesUntilMoltenByDivision_10 : decode cX7_minutesUntilMoltenByDivision 10 = .ok (.invokevirtual 172, 3) := by decide +kernel
theorem dX7_minutesUntilMoltenByDivision_13 : decode cX7_minutesUntilMoltenByDivision 13 = .ok (.ireturn, 1) := by decide +kernel
set_option maxRecDepth 20000 in
theorem ggX7_furnaceByTemperature_X4_rankOfFurnace : GoodIn wsX7_furnaceByTemperature wsX4_rankOfFurnace := goodIn_ca (goodIn_r _ [8, 9, 10, 11, 7, 12, 13, 14, 15, 16, 17, 18, 19, 28, 29, 30, 31, 32, 33, 34, 35, 36, 37, 38, 39, 40, 41, 42] (by decide +kernel) (by decide +kernel)) (goodIn_sub (fun _ h => List.mem_cons_of_mem _ (List.mem_append_right _ h)) (by decide +kernel))
set_option maxRecDepth 20000 in
theorem gX7_furnaceByTemperature_X4_rankOfFurnace : GoodIn wsX7_furnaceByTemperature (wsV RX7 175 RX4 yX4_rankOfFurnace wsX4_rankOfFurnace) := goodIn_app (goodIn_of _ (by decide +kernel)) ggX7_furnaceByTemperature_X4_rankOfFurnace
theorem dX7_furnaceByTemperature_0 : decode cX7_furnaceByTemperature 0 = .ok (.iconst 0, 1) := by decide +kernel
theorem dX7_furnaceByTemperature_1 : decode cX7_furnaceByTemperature 1 = .ok (.istore_n 2, 1) := by decide +kernel
theorem dX7_furnaceByTemperature_2 : decode cX7_furnaceByTemperature 2 = .ok (.iload_n 2, 1) := by decide +kernel
theorem dX7_furnaceByTemperature_3 : decode cX7_furnaceByTemperature 3 = .ok (.iconst 3, 1) := by decide +kernel
theorem dX7_furnaceByTemperature_4 : decode cX7_furnaceByTemperature 4 = .ok (.if_icmp .ge 23, 3) := by decide +kernel
theorem dX7_furnaceByTemperature_7 : decode cX7_furnaceByTemperature 7 = .ok (.aload_n 0, 1) := by decide +kernel
theorem dX7_furnaceByTemperature_8 : decode cX7_furnaceByTemperature 8 = .ok (.getfield 10, 3) := by decide +kernel
theorem dX7_furnaceByTemperature_11 : decode cX7_furnaceByTemperature 11 = .ok (.iload_n 2, 1) := by decide +kernel
theorem dX7_furnaceByTemperature_12 : decode cX7_furnaceByTemperature 12 = .ok (.invokevirtual 175, 3) := by decide +kernel
theorem dX7_furnaceByTemperature_15 : decode cX7_furnaceByTemperature 15 = .ok (.iload_n 1, 1) := by decide +kernel
theorem dX7_furnaceByTemperature_16 : decode cX7_furnaceByTemperature 16 = .ok (.if_icmp .ne 5, 3) := by decide +kernel
theorem dX7_furnaceByTemperature_19 : decode cX7_furnaceByTemperature 19 = .ok (.iload_n 2, 1) := by decide +kernel
theorem dX7_furnaceByTemperature_20 : decode cX7_furnaceByTemperature 20 = .ok (.ireturn, 1) := by decide +kernel
theorem dX7_furnaceByTemperature_21 : decode cX7_furnaceByTemperature 21 = .ok (.iinc 2 1, 3) := by decide +kernel
theorem dX7_furnaceByTemperature_24 : decode cX7_furnaceByTemperature 24 = .ok (.goto (-22), 3) := by decide +kernel
theorem dX7_furnaceByTemperature_27 : decode cX7_furnaceByTemperature 27 = .ok (.new 108, 3) := by decide +kernel
theorem dX7_furnaceByTemperature_30 : decode cX7_furnaceByTemperature 30 = .ok (.dup, 1) := by decide +kernel
theorem dX7_furnaceByTemperature_31 : decode cX7_furnaceByTemperature 31 = .ok (.invokespecial 110, 3) := by decide +kernel
theorem dX7_furnaceByTemperature_34 : decode cX7_furnaceByTemperature 34 = .ok (.athrow, 1) := by decide +kernel
set_option maxRecDepth 20000 in
theorem ggX7_ladleMass_X7_requireIndex : GoodIn wsX7_ladleMass wsX7_requireIndex := goodIn_ca (goodIn_r _ [5, 6, 7, 8, 9, 4, 10] (by decide +kernel) (by decide +kernel)) (goodIn_sub (fun _ h => List.mem_cons_of_mem _ (List.mem_append_left _ (List.mem_append_right _ h))) (by decide +kernel))
set_option maxRecDepth 20000 in
theorem gX7_ladleMass_X7_requireIndex : GoodIn wsX7_ladleMass (va_wsS RX7 117 yX7_requireIndex wsX7_requireIndex) := goodIn_app (goodIn_of _ (by decide +kernel)) ggX7_ladleMass_X7_requireIndex
set_option maxRecDepth 20000 in
theorem ggX7_ladleMass_X7_requireMaterial : GoodIn wsX7_ladleMass wsX7_requireMaterial := goodIn_ca (goodIn_ca (goodIn_r _ [13, 14, 15, 16, 17, 4, 18, 19] (by decide +kernel) (by decide +kernel)) (goodIn_sub (fun _ h => List.mem_cons_of_mem _ (List.mem_append_right _ h)) (by decide +kernel))) (goodIn_sub (fun _ h => List.mem_cons_of_mem _ (List.mem_append_left _ (List.mem_append_left _ (List.mem_append_right _ h)))) (by decide +kernel))
set_option maxRecDepth 20000 in
theorem gX7_ladleMass_X7_requireMaterial : GoodIn wsX7_ladleMass (va_wsS RX7 137 yX7_requireMaterial wsX7_requireMaterial) := goodIn_app (goodIn_of _ (by decide +kernel)) ggX7_ladleMass_X7_requireMaterial
theorem dX7_ladleMass_0 : decode cX7_ladleMass 0 = .ok (.iload_n 1, 1) := by decide +kernel
theorem dX7_ladleMass_1 : decode cX7_ladleMass 1 = .ok (.iconst 3, 1) := by decide +kernel
theorem dX7_ladleMass_2 : decode cX7_ladleMass 2 = .ok (.invokestatic 117, 3) := by decide +kernel
theorem dX7_ladleMass_5 : decode cX7_ladleMass 5 = .ok (.aload_n 0, 1) := by decide +kernel
theorem dX7_ladleMass_6 : decode cX7_ladleMass 6 = .ok (.getfield 10, 3) := by decide +kernel
theorem dX7_ladleMass_9 : decode cX7_ladleMass 9 = .ok (.getfield 178, 3) := by decide +kernel
theorem dX7_ladleMass_12 : decode cX7_ladleMass 12 = .ok (.iload_n 1, 1) := by decide +kernel
theorem dX7_ladleMass_13 : decode cX7_ladleMass 13 = .ok (.aaload, 1) := by decide +kernel
theorem dX7_ladleMass_14 : decode cX7_ladleMass 14 = .ok (.getfield 125, 3) := by decide +kernel
theorem dX7_ladleMass_17 : decode cX7_ladleMass 17 = .ok (.getfield 131, 3) := by decide +kernel
theorem dX7_ladleMass_20 : decode cX7_ladleMass 20 = .ok (.iload_n 2, 1) := by decide +kernel
theorem dX7_ladleMass_21 : decode cX7_ladleMass 21 = .ok (.invokestatic 137, 3) := by decide +kernel
theorem dX7_ladleMass_24 : decode cX7_ladleMass 24 = .ok (.iaload, 1) := by decide +kernel
theorem dX7_ladleMass_25 : decode cX7_ladleMass 25 = .ok (.ireturn, 1) := by decide +kernel
set_option maxRecDepth 20000 in
theorem ggX7_ladleTotal_X7_requireIndex : GoodIn wsX7_ladleTotal wsX7_requireIndex := goodIn_ca (goodIn_r _ [5, 6, 7, 8, 9, 4, 10] (by decide +kernel) (by decide +kernel)) (goodIn_sub (fun _ h => List.mem_cons_of_mem _ (List.mem_append_left _ (List.mem_append_right _ h))) (by decide +kernel))
set_option maxRecDepth 20000 in
theorem gX7_ladleTotal_X7_requireIndex : GoodIn wsX7_ladleTotal (va_wsS RX7 117 yX7_requireIndex wsX7_requireIndex) := goodIn_app (goodIn_of _ (by decide +kernel)) ggX7_ladleTotal_X7_requireIndex
set_option maxRecDepth 20000 in
theorem ggX7_ladleTotal_X3_sum : GoodIn wsX7_ladleTotal wsX3_sum := goodIn_ca (goodIn_r _ [15, 16, 39] (by decide +kernel) (by decide +kernel)) (goodIn_sub (fun _ h => List.mem_cons_of_mem _ (List.mem_append_right _ h)) (by decide +kernel))
set_option maxRecDepth 20000 in
theorem gX7_ladleTotal_X3_sum : GoodIn wsX7_ladleTotal (wsV RX7 141 RX3 yX3_sum wsX3_sum) := goodIn_app (goodIn_of _ (by decide +kernel)) ggX7_ladleTotal_X3_sum
theorem dX7_ladleTotal_0 : decode cX7_ladleTotal 0 = .ok (.iload_n 1, 1) := by decide +kernel
theorem dX7_ladleTotal_1 : decode cX7_ladleTotal 1 = .ok (.iconst 3, 1) := by decide +kernel
theorem dX7_ladleTotal_2 : decode cX7_ladleTotal 2 = .ok (.invokestatic 117, 3) := by decide +kernel
theorem dX7_ladleTotal_5 : decode cX7_ladleTotal 5 = .ok (.aload_n 0, 1) := by decide +kernel
theorem dX7_ladleTotal_6 : decode cX7_ladleTotal 6 = .ok (.getfield 10, 3) := by decide +kernel
theorem dX7_ladleTotal_9 : decode cX7_ladleTotal 9 = .ok (.getfield 178, 3) := by decide +kernel
theorem dX7_ladleTotal_12 : decode cX7_ladleTotal 12 = .ok (.iload_n 1, 1) := by decide +kernel
theorem dX7_ladleTotal_13 : decode cX7_ladleTotal 13 = .ok (.aaload, 1) := by decide +kernel
theorem dX7_ladleTotal_14 : decode cX7_ladleTotal 14 = .ok (.getfield 125, 3) := by decide +kernel
theorem dX7_ladleTotal_17 : decode cX7_ladleTotal 17 = .ok (.invokevirtual 141, 3) := by decide +kernel
theorem dX7_ladleTotal_20 : decode cX7_ladleTotal 20 = .ok (.ireturn, 1) := by decide +kernel
set_option maxRecDepth 20000 in
theorem ggX7_ladleTemperature_X7_requireIndex : GoodIn wsX7_ladleTemperature wsX7_requireIndex := goodIn_ca (goodIn_r _ [5, 6, 7, 8, 9, 4, 10] (by decide +kernel) (by decide +kernel)) (goodIn_sub (fun _ h => List.mem_cons_of_mem _ (List.mem_append_right _ h)) (by decide +kernel))
set_option maxRecDepth 20000 in
theorem gX7_ladleTemperature_X7_requireIndex : GoodIn wsX7_ladleTemperature (va_wsS RX7 117 yX7_requireIndex wsX7_requireIndex) := goodIn_app (goodIn_of _ (by decide +kernel)) ggX7_ladleTemperature_X7_requireIndex
theorem dX7_ladleTemperature_0 : decode cX7_ladleTemperature 0 = .ok (.iload_n 1, 1) := by decide +kernel
theorem dX7_ladleTemperature_1 : decode cX7_ladleTemperature 1 = .ok (.iconst 3, 1) := by decide +kernel
theorem dX7_ladleTemperature_2 : decode cX7_ladleTemperature 2 = .ok (.invokestatic 117, 3) := by decide +kernel
theorem dX7_ladleTemperature_5 : decode cX7_ladleTemperature 5 = .ok (.aload_n 0, 1) := by decide +kernel
theorem dX7_ladleTemperature_6 : decode cX7_ladleTemperature 6 = .ok (.getfield 10, 3) := by decide +kernel
theorem dX7_ladleTemperature_9 : decode cX7_ladleTemperature 9 = .ok (.getfield 178, 3) := by decide +kernel
theorem dX7_ladleTemperature_12 : decode cX7_ladleTemperature 12 = .ok (.iload_n 1, 1) := by decide +kernel
theorem dX7_ladleTemperature_13 : decode cX7_ladleTemperature 13 = .ok (.aaload, 1) := by decide +kernel
theorem dX7_ladleTemperature_14 : decode cX7_ladleTemperature 14 = .ok (.getfield 145, 3) := by decide +kernel
theorem dX7_ladleTemperature_17 : decode cX7_ladleTemperature 17 = .ok (.ireturn, 1) := by decide +kernel
set_option maxRecDepth 20000 in
theorem ggX7_pouringMinutes_X7_requireIndex : GoodIn wsX7_pouringMinutes wsX7_requireIndex := goodIn_ca (goodIn_r _ [7, 8, 9, 10, 11, 6, 12] (by decide +kernel) (by decide +kernel)) (goodIn_sub (fun _ h => List.mem_cons_of_mem _ (List.mem_append_left _ (List.mem_append_left _ (List.mem_append_right _ h)))) (by decide +kernel))
set_option maxRecDepth 20000 in
theorem gX7_pouringMinutes_X7_requireIndex : GoodIn wsX7_pouringMinutes (va_wsS RX7 117 yX7_requireIndex wsX7_requireIndex) := goodIn_app (goodIn_of _ (by decide +kernel)) ggX7_pouringMinutes_X7_requireIndex
set_option maxRecDepth 20000 in
theorem ggX7_pouringMinutes_X6_liquid : GoodIn wsX7_pouringMinutes wsX6_liquid := goodIn_ca (goodIn_ca (goodIn_r _ [17, 18, 19, 20, 21, 22, 23, 24, 25, 26, 27, 28, 29, 50, 51, 52, 53] (by decide +kernel) (by decide +kernel)) (goodIn_sub (fun _ h => List.mem_cons_of_mem _ (List.mem_append_left _ (List.mem_append_right _ h))) (by decide +kernel))) (goodIn_sub (fun _ h => List.mem_cons_of_mem _ (List.mem_append_right _ h)) (by decide +kernel))
set_option maxRecDepth 20000 in
theorem gX7_pouringMinutes_X6_liquid : GoodIn wsX7_pouringMinutes (wsV RX7 161 RX6 yX6_liquid wsX6_liquid) := goodIn_app (goodIn_of _ (by decide +kernel)) ggX7_pouringMinutes_X6_liquid
set_option maxRecDepth 20000 in
theorem ggX7_pouringMinutes_X3_pointBySums : GoodIn wsX7_pouringMinutes wsX3_pointBySums := goodIn_ca (goodIn_ca (goodIn_r _ [29, 25, 53] (by decide +kernel) (by decide +kernel)) (goodIn_sub (fun _ h => List.mem_cons_of_mem _ (List.mem_append_left _ (List.mem_append_right _ h))) (by decide +kernel))) (goodIn_sub (fun _ h => List.mem_cons_of_mem _ (List.mem_append_right _ h)) (by decide +kernel))
set_option maxRecDepth 20000 in
theorem gX7_pouringMinutes_X3_pointBySums : GoodIn wsX7_pouringMinutes (wsV RX7 155 RX3 yX3_pointBySums wsX3_pointBySums) := goodIn_app (goodIn_of _ (by decide +kernel)) ggX7_pouringMinutes_X3_pointBySums
